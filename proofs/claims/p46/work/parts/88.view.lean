/-! each call of the law, told by the state that it began with -/
def EQS (σ s : Sg) : Prop := ∀ r : Nat, r < 46 → r ≠ 15 → s r = σ r
theorem EQS.rf {σ : Sg} : EQS σ σ := fun _ _ _ => rfl
theorem EQS.cf {σ s : Sg} (hE : EQS σ s) : cfg s = cfg σ := cfg_of (fun r hr => hE r (by omega) (by omega))
theorem digF_of {σ s : Sg} (hE : EQS σ s) : digF s (s 20 0) (s 21 0 + s 16 0) (s 19 0) = digF σ (σ 20 0) (σ 21 0 + σ 16 0) (σ 19 0) := by
  have hc := hE.cf
  have hal : ∀ r : Nat, r < 32 → r ≠ 15 → s r = σ r := fun r h1 h2 => hE r (by omega) h2
  unfold digF dg8 dg7 dg6 dg5 dg4 dg3 dg2 dg1 MLg
  rw [knF_of hal, tlF_of hal, kiF_of hal, teF_of hal, hc, hE 1 (by decide) (by decide), hE 2 (by decide) (by decide), hE 3 (by decide) (by decide), hE 4 (by decide) (by decide), hE 9 (by decide) (by decide), hE 11 (by decide) (by decide), hE 16 (by decide) (by decide), hE 19 (by decide) (by decide), hE 20 (by decide) (by decide), hE 21 (by decide) (by decide), hE 22 (by decide) (by decide), hE 23 (by decide) (by decide), hE 27 (by decide) (by decide), hE 30 (by decide) (by decide)]
theorem v_X11_columns (l : Launch) (D : va_G) (ad : Nat → Nat) (G : Nat → Nat) (ids : List Nat) (hI : ∀ k, k < 81 → k ∈ ids) {σ s : Sg} (hJ : JI σ) (hE : EQS σ s)   : MET l yX11_columns cX11_columns 1 (some .int) 2 [.ref (ad 0)] D ad G ids s (QI D ad G ids (fun z s' => σ 2 0 = z ∧ s = s')) := by
  have hS := hJ.ro hE
  have hc := hE.cf
  have hv : (s 2 0 : Int) = σ 2 0 := by rw [hE 2 (by decide) (by decide)]
  exact (c_X11_columns l D ad G ids hI s  ).mono (QI.mono (fun z s' hp => ⟨hv.symm.trans hp.1, hp.2⟩))
theorem v_X11_rows (l : Launch) (D : va_G) (ad : Nat → Nat) (G : Nat → Nat) (ids : List Nat) (hI : ∀ k, k < 81 → k ∈ ids) {σ s : Sg} (hJ : JI σ) (hE : EQS σ s)   : MET l yX11_rows cX11_rows 1 (some .int) 2 [.ref (ad 0)] D ad G ids s (QI D ad G ids (fun z s' => σ 3 0 = z ∧ s = s')) := by
  have hS := hJ.ro hE
  have hc := hE.cf
  have hv : (s 3 0 : Int) = σ 3 0 := by rw [hE 3 (by decide) (by decide)]
  exact (c_X11_rows l D ad G ids hI s  ).mono (QI.mono (fun z s' hp => ⟨hv.symm.trans hp.1, hp.2⟩))
theorem v_X11_side (l : Launch) (D : va_G) (ad : Nat → Nat) (G : Nat → Nat) (ids : List Nat) (hI : ∀ k, k < 81 → k ∈ ids) {σ s : Sg} (hJ : JI σ) (hE : EQS σ s)   : MET l yX11_side cX11_side 1 (some .int) 2 [.ref (ad 0)] D ad G ids s (QI D ad G ids (fun z s' => σ 4 0 = z ∧ s = s')) := by
  have hS := hJ.ro hE
  have hc := hE.cf
  have hv : (s 4 0 : Int) = σ 4 0 := by rw [hE 4 (by decide) (by decide)]
  exact (c_X11_side l D ad G ids hI s  ).mono (QI.mono (fun z s' hp => ⟨hv.symm.trans hp.1, hp.2⟩))
theorem v_X11_played (l : Launch) (D : va_G) (ad : Nat → Nat) (G : Nat → Nat) (ids : List Nat) (hI : ∀ k, k < 81 → k ∈ ids) {σ s : Sg} (hJ : JI σ) (hE : EQS σ s)   : MET l yX11_played cX11_played 1 (some .int) 2 [.ref (ad 0)] D ad G ids s (QI D ad G ids (fun z s' => σ 30 0 = z ∧ s = s')) := by
  have hS := hJ.ro hE
  have hc := hE.cf
  have hv : (s 30 0 : Int) = σ 30 0 := by rw [hE 30 (by decide) (by decide)]
  exact (c_X11_played l D ad G ids hI s  ).mono (QI.mono (fun z s' hp => ⟨hv.symm.trans hp.1, hp.2⟩))
theorem v_X11_reached (l : Launch) (D : va_G) (ad : Nat → Nat) (G : Nat → Nat) (ids : List Nat) (hI : ∀ k, k < 81 → k ∈ ids) {σ s : Sg} (hJ : JI σ) (hE : EQS σ s)   : MET l yX11_reached cX11_reached 1 (some .int) 2 [.ref (ad 0)] D ad G ids s (QI D ad G ids (fun z s' => σ 20 0 = z ∧ s = s')) := by
  have hS := hJ.ro hE
  have hc := hE.cf
  have hv : (s 20 0 : Int) = σ 20 0 := by rw [hE 20 (by decide) (by decide)]
  exact (c_X11_reached l D ad G ids hI s  ).mono (QI.mono (fun z s' hp => ⟨hv.symm.trans hp.1, hp.2⟩))
theorem v_X11_hits (l : Launch) (D : va_G) (ad : Nat → Nat) (G : Nat → Nat) (ids : List Nat) (hI : ∀ k, k < 81 → k ∈ ids) {σ s : Sg} (hJ : JI σ) (hE : EQS σ s)   : MET l yX11_hits cX11_hits 1 (some .int) 2 [.ref (ad 0)] D ad G ids s (QI D ad G ids (fun z s' => σ 22 0 = z ∧ s = s')) := by
  have hS := hJ.ro hE
  have hc := hE.cf
  have hv : (s 22 0 : Int) = σ 22 0 := by rw [hE 22 (by decide) (by decide)]
  exact (c_X11_hits l D ad G ids hI s  ).mono (QI.mono (fun z s' hp => ⟨hv.symm.trans hp.1, hp.2⟩))
theorem v_X11_cuts (l : Launch) (D : va_G) (ad : Nat → Nat) (G : Nat → Nat) (ids : List Nat) (hI : ∀ k, k < 81 → k ∈ ids) {σ s : Sg} (hJ : JI σ) (hE : EQS σ s)   : MET l yX11_cuts cX11_cuts 1 (some .int) 2 [.ref (ad 0)] D ad G ids s (QI D ad G ids (fun z s' => σ 23 0 = z ∧ s = s')) := by
  have hS := hJ.ro hE
  have hc := hE.cf
  have hv : (s 23 0 : Int) = σ 23 0 := by rw [hE 23 (by decide) (by decide)]
  exact (c_X11_cuts l D ad G ids hI s  ).mono (QI.mono (fun z s' hp => ⟨hv.symm.trans hp.1, hp.2⟩))
theorem v_X11_slots (l : Launch) (D : va_G) (ad : Nat → Nat) (G : Nat → Nat) (ids : List Nat) (hI : ∀ k, k < 81 → k ∈ ids) {σ s : Sg} (hJ : JI σ) (hE : EQS σ s)   : MET l yX11_slots cX11_slots 1 (some .int) 2 [.ref (ad 0)] D ad G ids s (QI D ad G ids (fun z s' => σ 9 0 = z ∧ s = s')) := by
  have hS := hJ.ro hE
  have hc := hE.cf
  have hv : (s 9 0 : Int) = σ 9 0 := by rw [hE 9 (by decide) (by decide)]
  exact (c_X11_slots l D ad G ids hI s  ).mono (QI.mono (fun z s' hp => ⟨hv.symm.trans hp.1, hp.2⟩))
theorem v_X11_pages (l : Launch) (D : va_G) (ad : Nat → Nat) (G : Nat → Nat) (ids : List Nat) (hI : ∀ k, k < 81 → k ∈ ids) {σ s : Sg} (hJ : JI σ) (hE : EQS σ s)   : MET l yX11_pages cX11_pages 1 (some .int) 2 [.ref (ad 0)] D ad G ids s (QI D ad G ids (fun z s' => σ 27 0 = z ∧ s = s')) := by
  have hS := hJ.ro hE
  have hc := hE.cf
  have hv : (s 27 0 : Int) = σ 27 0 := by rw [hE 27 (by decide) (by decide)]
  exact (c_X11_pages l D ad G ids hI s  ).mono (QI.mono (fun z s' hp => ⟨hv.symm.trans hp.1, hp.2⟩))
theorem v_X11_nodes (l : Launch) (D : va_G) (ad : Nat → Nat) (G : Nat → Nat) (ids : List Nat) (hI : ∀ k, k < 81 → k ∈ ids) {σ s : Sg} (hJ : JI σ) (hE : EQS σ s)   : MET l yX11_nodes cX11_nodes 1 (some .int) 3 [.ref (ad 0)] D ad G ids s (QI D ad G ids (fun z s' => σ 21 0 + σ 16 0 = z ∧ s = s')) := by
  have hS := hJ.ro hE
  have hc := hE.cf
  have hv : (s 21 0 + s 16 0 : Int) = σ 21 0 + σ 16 0 := by rw [hE 21 (by decide) (by decide), hE 16 (by decide) (by decide)]
  exact (c_X11_nodes l D ad G ids hI s  ).mono (QI.mono (fun z s' hp => ⟨hv.symm.trans hp.1, hp.2⟩))
theorem v_X11_moves (l : Launch) (D : va_G) (ad : Nat → Nat) (G : Nat → Nat) (ids : List Nat) (hI : ∀ k, k < 81 → k ∈ ids) {σ s : Sg} (hJ : JI σ) (hE : EQS σ s)   : MET l yX11_moves cX11_moves 1 (some .int) 2 [.ref (ad 0)] D ad G ids s (QI D ad G ids (fun z s' => ((MLs (σ 1) (σ 2 0) (σ 3 0) (σ 4 0)).length : Int) = z ∧ s = s')) := by
  have hS := hJ.ro hE
  have hc := hE.cf
  have hv : (((MLs (s 1) (s 2 0) (s 3 0) (s 4 0)).length : Int) : Int) = ((MLs (σ 1) (σ 2 0) (σ 3 0) (σ 4 0)).length : Int) := by rw [hE 1 (by decide) (by decide), hE 2 (by decide) (by decide), hE 3 (by decide) (by decide), hE 4 (by decide) (by decide)]
  exact (c_X11_moves l D ad G ids hI s  hS.g hS.hl).mono (QI.mono (fun z s' hp => ⟨hv.symm.trans hp.1, hp.2⟩))
theorem v_X11_isLost (l : Launch) (D : va_G) (ad : Nat → Nat) (G : Nat → Nat) (ids : List Nat) (hI : ∀ k, k < 81 → k ∈ ids) {σ s : Sg} (hJ : JI σ) (hE : EQS σ s)   : MET l yX11_isLost cX11_isLost 1 (some .boolean) 3 [.ref (ad 0)] D ad G ids s (QI D ad G ids (fun z s' => (if (MLs (σ 1) (σ 2 0) (σ 3 0) (σ 4 0)) = [] then 1 else 0) = z ∧ s = s')) := by
  have hS := hJ.ro hE
  have hc := hE.cf
  have hv : ((if (MLs (s 1) (s 2 0) (s 3 0) (s 4 0)) = [] then 1 else 0) : Int) = (if (MLs (σ 1) (σ 2 0) (σ 3 0) (σ 4 0)) = [] then 1 else 0) := by rw [hE 1 (by decide) (by decide), hE 2 (by decide) (by decide), hE 3 (by decide) (by decide), hE 4 (by decide) (by decide)]
  exact (c_X11_isLost l D ad G ids hI s  hS.g hS.hl).mono (QI.mono (fun z s' hp => ⟨hv.symm.trans hp.1, hp.2⟩))
theorem v_X11_key (l : Launch) (D : va_G) (ad : Nat → Nat) (G : Nat → Nat) (ids : List Nat) (hI : ∀ k, k < 81 → k ∈ ids) {σ s : Sg} (hJ : JI σ) (hE : EQS σ s)   : MET l yX11_key cX11_key 1 (some .long) 2 [.ref (ad 0)] D ad G ids s (QL D ad G ids (fun z s' => keyS (cfg σ) (σ 1) (σ 4 0) = z ∧ s = s')) := by
  have hS := hJ.ro hE
  have hc := hE.cf
  have hv : (keyS (cfg s) (s 1) (s 4 0) : Int) = keyS (cfg σ) (σ 1) (σ 4 0) := by rw [hc, hE 1 (by decide) (by decide), hE 4 (by decide) (by decide)]
  exact (c_X11_key l D ad G ids hI s  hS.g).mono (QL.mono (fun z s' hp => ⟨hv.symm.trans hp.1, hp.2⟩))
theorem v_X11_evaluation (l : Launch) (D : va_G) (ad : Nat → Nat) (G : Nat → Nat) (ids : List Nat) (hI : ∀ k, k < 81 → k ∈ ids) {σ s : Sg} (hJ : JI σ) (hE : EQS σ s)   : MET l yX11_evaluation cX11_evaluation 1 (some .int) 8 [.ref (ad 0)] D ad G ids s (QI D ad G ids (fun z s' => evS (cfg σ) (σ 1) (σ 4 0) = z ∧ s = s')) := by
  have hS := hJ.ro hE
  have hc := hE.cf
  have hv : (evS (cfg s) (s 1) (s 4 0) : Int) = evS (cfg σ) (σ 1) (σ 4 0) := by rw [hc, hE 1 (by decide) (by decide), hE 4 (by decide) (by decide)]
  exact (c_X11_evaluation l D ad G ids hI s  hS.g).mono (QI.mono (fun z s' hp => ⟨hv.symm.trans hp.1, hp.2⟩))
theorem v_X11_entries (l : Launch) (D : va_G) (ad : Nat → Nat) (G : Nat → Nat) (ids : List Nat) (hI : ∀ k, k < 81 → k ∈ ids) {σ s : Sg} (hJ : JI σ) (hE : EQS σ s)   : MET l yX11_entries cX11_entries 1 (some .int) 2 [.ref (ad 0)] D ad G ids s (QI D ad G ids (fun z s' => cntE (σ 11) 64 = z ∧ s = s')) := by
  have hS := hJ.ro hE
  have hc := hE.cf
  have hv : (cntE (s 11) 64 : Int) = cntE (σ 11) 64 := by rw [hE 11 (by decide) (by decide)]
  exact (c_X11_entries l D ad G ids hI s  hS.ti).mono (QI.mono (fun z s' hp => ⟨hv.symm.trans hp.1, hp.2⟩))
theorem v_X11_known (l : Launch) (D : va_G) (ad : Nat → Nat) (G : Nat → Nat) (ids : List Nat) (hI : ∀ k, k < 81 → k ∈ ids) {σ s : Sg} (hJ : JI σ) (hE : EQS σ s)   : MET l yX11_known cX11_known 1 (some .int) 3 [.ref (ad 0)] D ad G ids s (QI D ad G ids (fun z s' => knF σ = z ∧ s = s')) := by
  have hS := hJ.ro hE
  have hc := hE.cf
  have hv : (knF s : Int) = knF σ := by exact knF_of (fun r h1 h2 => hE r (by omega) h2)
  exact (c_X11_known l D ad G ids hI s  hS.g hS.ti).mono (QI.mono (fun z s' hp => ⟨hv.symm.trans hp.1, hp.2⟩))
theorem v_X11_told (l : Launch) (D : va_G) (ad : Nat → Nat) (G : Nat → Nat) (ids : List Nat) (hI : ∀ k, k < 81 → k ∈ ids) {σ s : Sg} (hJ : JI σ) (hE : EQS σ s)   : MET l yX11_told cX11_told 1 (some .int) 3 [.ref (ad 0)] D ad G ids s (QI D ad G ids (fun z s' => tlF σ = z ∧ s = s')) := by
  have hS := hJ.ro hE
  have hc := hE.cf
  have hv : (tlF s : Int) = tlF σ := by exact tlF_of (fun r h1 h2 => hE r (by omega) h2)
  exact (c_X11_told l D ad G ids hI s  hS.g hS.hl hS.bk).mono (QI.mono (fun z s' hp => ⟨hv.symm.trans hp.1, hp.2⟩))
theorem v_X11_digest (l : Launch) (D : va_G) (ad : Nat → Nat) (G : Nat → Nat) (ids : List Nat) (hI : ∀ k, k < 81 → k ∈ ids) {σ s : Sg} (hJ : JI σ) (hE : EQS σ s)   : MET l yX11_digest cX11_digest 3 (some .long) 42 [.ref (ad 0)] D ad G ids s (QL D ad G ids (fun z s' => digF σ (σ 20 0) (σ 21 0 + σ 16 0) (σ 19 0) = z ∧ EQS σ s')) := by
  have hS := hJ.ro hE
  have hc := hE.cf
  have hv : (digF s (s 20 0) (s 21 0 + s 16 0) (s 19 0) : Int) = digF σ (σ 20 0) (σ 21 0 + σ 16 0) (σ 19 0) := by exact digF_of hE
  exact (c_X11_digest l D ad G ids hI s  hS.g hS.hl hS.ti hS.bk hS.tr hS.be hS.re4.1 hS.hk0).mono (QL.mono (fun z s' hp => ⟨hv.symm.trans hp.1, fun r h1 h2 => (hp.2 r h1 h2).trans (hE r h1 h2)⟩))
theorem v_X11_at (l : Launch) (D : va_G) (ad : Nat → Nat) (G : Nat → Nat) (ids : List Nat) (hI : ∀ k, k < 81 → k ∈ ids) {σ s : Sg} (hJ : JI σ) (hE : EQS σ s) (n : Int) (hn : 0 ≤ n ∧ n < σ 2 0 * σ 3 0) : MET l yX11_at cX11_at 2 (some .int) 7 [.ref (ad 0), .int (iI n)] D ad G ids s (QI D ad G ids (fun z s' => σ 1 n = z ∧ s = s')) := by
  have hS := hJ.ro hE
  have hc := hE.cf
  have hv : (s 1 n : Int) = σ 1 n := by rw [hE 1 (by decide) (by decide)]
  exact (n_X11_at l D ad G ids hI s n hS.g (show 0 ≤ n ∧ n < s 2 0 * s 3 0 by rw [hE 2 (by decide) (by decide), hE 3 (by decide) (by decide)]; exact hn)).mono (QI.mono (fun z s' hp => ⟨hv.symm.trans hp.1, hp.2⟩))
theorem v_X11_from (l : Launch) (D : va_G) (ad : Nat → Nat) (G : Nat → Nat) (ids : List Nat) (hI : ∀ k, k < 81 → k ∈ ids) {σ s : Sg} (hJ : JI σ) (hE : EQS σ s) (i : Int) (hi : 0 ≤ i ∧ i < ((MLs (σ 1) (σ 2 0) (σ 3 0) (σ 4 0)).length : Int)) : MET l yX11_from cX11_from 2 (some .int) 7 [.ref (ad 0), .int (iI i)] D ad G ids s (QI D ad G ids (fun z s' => (MLs (σ 1) (σ 2 0) (σ 3 0) (σ 4 0)).getD i.toNat (-1) / 100 = z ∧ s = s')) := by
  have hS := hJ.ro hE
  have hc := hE.cf
  have hv : ((MLs (s 1) (s 2 0) (s 3 0) (s 4 0)).getD i.toNat (-1) / 100 : Int) = (MLs (σ 1) (σ 2 0) (σ 3 0) (σ 4 0)).getD i.toNat (-1) / 100 := by rw [hE 1 (by decide) (by decide), hE 2 (by decide) (by decide), hE 3 (by decide) (by decide), hE 4 (by decide) (by decide)]
  exact (n_X11_from l D ad G ids hI s i hS.g hS.hl (show 0 ≤ i ∧ i < ((MLs (s 1) (s 2 0) (s 3 0) (s 4 0)).length : Int) by rw [hE 1 (by decide) (by decide), hE 2 (by decide) (by decide), hE 3 (by decide) (by decide), hE 4 (by decide) (by decide)]; exact hi)).mono (QI.mono (fun z s' hp => ⟨hv.symm.trans hp.1, hp.2⟩))
theorem v_X11_to (l : Launch) (D : va_G) (ad : Nat → Nat) (G : Nat → Nat) (ids : List Nat) (hI : ∀ k, k < 81 → k ∈ ids) {σ s : Sg} (hJ : JI σ) (hE : EQS σ s) (i : Int) (hi : 0 ≤ i ∧ i < ((MLs (σ 1) (σ 2 0) (σ 3 0) (σ 4 0)).length : Int)) : MET l yX11_to cX11_to 2 (some .int) 7 [.ref (ad 0), .int (iI i)] D ad G ids s (QI D ad G ids (fun z s' => (MLs (σ 1) (σ 2 0) (σ 3 0) (σ 4 0)).getD i.toNat (-1) % 100 = z ∧ s = s')) := by
  have hS := hJ.ro hE
  have hc := hE.cf
  have hv : ((MLs (s 1) (s 2 0) (s 3 0) (s 4 0)).getD i.toNat (-1) % 100 : Int) = (MLs (σ 1) (σ 2 0) (σ 3 0) (σ 4 0)).getD i.toNat (-1) % 100 := by rw [hE 1 (by decide) (by decide), hE 2 (by decide) (by decide), hE 3 (by decide) (by decide), hE 4 (by decide) (by decide)]
  exact (n_X11_to l D ad G ids hI s i hS.g hS.hl (show 0 ≤ i ∧ i < ((MLs (s 1) (s 2 0) (s 3 0) (s 4 0)).length : Int) by rw [hE 1 (by decide) (by decide), hE 2 (by decide) (by decide), hE 3 (by decide) (by decide), hE 4 (by decide) (by decide)]; exact hi)).mono (QI.mono (fun z s' hp => ⟨hv.symm.trans hp.1, hp.2⟩))
theorem v_X11_takes (l : Launch) (D : va_G) (ad : Nat → Nat) (G : Nat → Nat) (ids : List Nat) (hI : ∀ k, k < 81 → k ∈ ids) {σ s : Sg} (hJ : JI σ) (hE : EQS σ s) (i : Int) (hi : 0 ≤ i ∧ i < ((MLs (σ 1) (σ 2 0) (σ 3 0) (σ 4 0)).length : Int)) : MET l yX11_takes cX11_takes 2 (some .boolean) 7 [.ref (ad 0), .int (iI i)] D ad G ids s (QI D ad G ids (fun z s' => (if σ 1 ((MLs (σ 1) (σ 2 0) (σ 3 0) (σ 4 0)).getD i.toNat (-1) % 100) ≠ 0 then 1 else 0) = z ∧ s = s')) := by
  have hS := hJ.ro hE
  have hc := hE.cf
  have hv : ((if s 1 ((MLs (s 1) (s 2 0) (s 3 0) (s 4 0)).getD i.toNat (-1) % 100) ≠ 0 then 1 else 0) : Int) = (if σ 1 ((MLs (σ 1) (σ 2 0) (σ 3 0) (σ 4 0)).getD i.toNat (-1) % 100) ≠ 0 then 1 else 0) := by rw [hE 1 (by decide) (by decide), hE 2 (by decide) (by decide), hE 3 (by decide) (by decide), hE 4 (by decide) (by decide)]
  exact (n_X11_takes l D ad G ids hI s i hS.g hS.hl (show 0 ≤ i ∧ i < ((MLs (s 1) (s 2 0) (s 3 0) (s 4 0)).length : Int) by rw [hE 1 (by decide) (by decide), hE 2 (by decide) (by decide), hE 3 (by decide) (by decide), hE 4 (by decide) (by decide)]; exact hi)).mono (QI.mono (fun z s' hp => ⟨hv.symm.trans hp.1, hp.2⟩))
theorem v_X11_ways (l : Launch) (D : va_G) (ad : Nat → Nat) (G : Nat → Nat) (ids : List Nat) (hI : ∀ k, k < 81 → k ∈ ids) {σ s : Sg} (hJ : JI σ) (hE : EQS σ s) (d : Int) (hd : 0 ≤ d ∧ d ≤ 3) : MET l yX11_ways cX11_ways 2 (some .int) 40 [.ref (ad 0), .int (iI d)] D ad G ids s (QI D ad G ids (fun z s' => waysF (cfg σ) d.toNat (σ 1) (σ 4 0) = z ∧ EQS σ s')) := by
  have hS := hJ.ro hE
  have hc := hE.cf
  have hv : (waysF (cfg s) d.toNat (s 1) (s 4 0) : Int) = waysF (cfg σ) d.toNat (σ 1) (σ 4 0) := by rw [hc, hE 1 (by decide) (by decide), hE 4 (by decide) (by decide)]
  exact (n_X11_ways l D ad G ids hI s d hS.g hd).mono (QI.mono (fun z s' hp => ⟨hv.symm.trans hp.1, fun r h1 h2 => (hp.2 r h1 h2).trans (hE r h1 h2)⟩))
theorem v_X11_value (l : Launch) (D : va_G) (ad : Nat → Nat) (G : Nat → Nat) (ids : List Nat) (hI : ∀ k, k < 81 → k ∈ ids) {σ s : Sg} (hJ : JI σ) (hE : EQS σ s) (d : Int) (hd : 0 ≤ d ∧ d ≤ 3) : MET l yX11_value cX11_value 2 (some .int) 40 [.ref (ad 0), .int (iI d)] D ad G ids s (QI D ad G ids (fun z s' => vv (cfg σ) d.toNat (σ 1) (σ 4 0) = z ∧ EQS σ s')) := by
  have hS := hJ.ro hE
  have hc := hE.cf
  have hv : (vv (cfg s) d.toNat (s 1) (s 4 0) : Int) = vv (cfg σ) d.toNat (σ 1) (σ 4 0) := by rw [hc, hE 1 (by decide) (by decide), hE 4 (by decide) (by decide)]
  exact (n_X11_value l D ad G ids hI s d hS.g hd).mono (QI.mono (fun z s' hp => ⟨hv.symm.trans hp.1, fun r h1 h2 => (hp.2 r h1 h2).trans (hE r h1 h2)⟩))
theorem v_X11_valueOf (l : Launch) (D : va_G) (ad : Nat → Nat) (G : Nat → Nat) (ids : List Nat) (hI : ∀ k, k < 81 → k ∈ ids) {σ s : Sg} (hJ : JI σ) (hE : EQS σ s) (i : Int) (hi : 0 ≤ i ∧ i < ((MLs (σ 1) (σ 2 0) (σ 3 0) (σ 4 0)).length : Int)) : MET l yX11_valueOf cX11_valueOf 3 (some .int) 44 [.ref (ad 0), .int (iI i), .int (iI 1)] D ad G ids s (QI D ad G ids (fun z s' => -(vv (cfg σ) 0 (mvF (σ 1) ((MLs (σ 1) (σ 2 0) (σ 3 0) (σ 4 0)).getD i.toNat (-1))) (1 - σ 4 0)) = z ∧ EQS σ s')) := by
  have hS := hJ.ro hE
  have hc := hE.cf
  have hv : (-(vv (cfg s) 0 (mvF (s 1) ((MLs (s 1) (s 2 0) (s 3 0) (s 4 0)).getD i.toNat (-1))) (1 - s 4 0)) : Int) = -(vv (cfg σ) 0 (mvF (σ 1) ((MLs (σ 1) (σ 2 0) (σ 3 0) (σ 4 0)).getD i.toNat (-1))) (1 - σ 4 0)) := by rw [hc, hE 1 (by decide) (by decide), hE 2 (by decide) (by decide), hE 3 (by decide) (by decide), hE 4 (by decide) (by decide)]
  exact (n_X11_valueOf l D ad G ids hI s i 1 hS.g hS.hl (show 0 ≤ i ∧ i < ((MLs (s 1) (s 2 0) (s 3 0) (s 4 0)).length : Int) by rw [hE 1 (by decide) (by decide), hE 2 (by decide) (by decide), hE 3 (by decide) (by decide), hE 4 (by decide) (by decide)]; exact hi) (by decide)).mono (QI.mono (fun z s' hp => ⟨hv.symm.trans hp.1, fun r h1 h2 => (hp.2 r h1 h2).trans (hE r h1 h2)⟩))
theorem v_X11_ofSlot (l : Launch) (D : va_G) (ad : Nat → Nat) (G : Nat → Nat) (ids : List Nat) (hI : ∀ k, k < 81 → k ∈ ids) {σ s : Sg} (hJ : JI σ) (hE : EQS σ s) (b k : Int) (hb : 0 ≤ b ∧ b < σ 9 0) (hk : 0 ≤ k ∧ k ≤ 3) : MET l yX11_ofSlot cX11_ofSlot 3 (some .int) 7 [.ref (ad 0), .int (iI b), .int (iI k)] D ad G ids s (QI D ad G ids (fun z s' => tellF σ b k = z ∧ s = s')) := by
  have hS := hJ.ro hE
  have hc := hE.cf
  have hv : (tellF s b k : Int) = tellF σ b k := by unfold tellF; rw [hE 11 (by decide) (by decide), hE 12 (by decide) (by decide), hE 13 (by decide) (by decide), hE 14 (by decide) (by decide)]
  exact (n_X11_ofSlot l D ad G ids hI s b k hS.ti (show 0 ≤ b ∧ b < s 9 0 by rw [hE 9 (by decide) (by decide)]; exact hb) hk).mono (QI.mono (fun z s' hp => ⟨hv.symm.trans hp.1, hp.2⟩))
