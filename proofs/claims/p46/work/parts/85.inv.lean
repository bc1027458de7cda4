/-! what holds of the class between calls -/
def Z11 (σ : Sg) : Prop := ∀ s : Int, (s < 0 ∨ 64 ≤ s) → σ 11 s = 0
theorem Z11.wipe {σ : Sg} (h : Z11 σ) : ∀ s : Int, wpF (σ 11) 64 s = 0 := by
  intro s
  unfold wpF
  by_cases e : 0 ≤ s ∧ s < 64
  · rw [if_pos e]
  · rw [if_neg e]; exact h s (by omega)
theorem HLM.of6 {a b : Sg} (h : HLM a) (e : ∀ r : Nat, ((1 ≤ r ∧ r ≤ 4) ∨ (40 ≤ r ∧ r < 46)) → b r = a r) : HLM b := by
  unfold HLM LM at *
  rw [e 1 (by omega), e 2 (by omega), e 3 (by omega), e 4 (by omega), e (40 + 6 * 0 + 4) (by omega), e (40 + 6 * 0) (by omega), e (40 + 6 * 0 + 1) (by omega)]
  exact h
theorem INV.anew {a b : Sg} (h : INV a) (e : ∀ r : Nat, (r = 9 ∨ r = 10 ∨ (12 ≤ r ∧ r ≤ 14) ∨ r = 17 ∨ r = 18 ∨ (24 ≤ r ∧ r ≤ 27)) → b r = a r) (h11 : (b 11 = a 11 ∧ cfg b = cfg a) ∨ ∀ s : Int, b 11 s = 0) (hB : BG b) (hS : SB (cfg b)) (hs : b 4 0 = 0 ∨ b 4 0 = 1) (hd : BDG (b 2 0 * b 3 0) (b 1)) (h30 : b 30 0 = 0) : INV b := by
  obtain ⟨h1, h2, h3, h4, h5, h6, h7⟩ := h
  refine ⟨⟨hB, hd.1, hs, hd.2.1, hS⟩, ?_, h3.of (e 12 (by omega)), ?_, ?_, ⟨by omega, by omega⟩, ?_⟩
  · obtain ⟨t1, t2, t3⟩ := h2
    unfold TI
    rw [e 9 (by omega), e 10 (by omega), e 12 (by omega), e 13 (by omega), e 14 (by omega), e 17 (by omega), e 18 (by omega)]
    refine ⟨t1, fun s => ⟨?_, (t2 s).2⟩, t3⟩
    rcases h11 with q | q
    · rw [q.1]; exact (t2 s).1
    · rw [q s]; omega
  · rcases h11 with q | q
    · rw [q.2]
      refine h4.of (fun r hr => ?_)
      rcases hr with rfl | rfl | rfl
      · exact e 10 (by omega)
      · exact q.1
      · exact e 14 (by omega)
    · intro s hs9
      have := q s
      omega
  · unfold BKI at *; rw [e 24 (by omega), e 25 (by omega), e 26 (by omega), e 27 (by omega)]; exact h5
  · rw [h30]; exact hd
theorem INV.wipe {a b : Sg} (h : INV a) (e : ∀ r : Nat, ((1 ≤ r ∧ r ≤ 4) ∨ r = 10 ∨ (12 ≤ r ∧ r ≤ 14) ∨ r = 17 ∨ r = 18 ∨ (24 ≤ r ∧ r ≤ 30)) → b r = a r) (h11 : ∀ s : Int, b 11 s = 0) (h9 : 0 ≤ b 9 0 ∧ b 9 0 ≤ 64) (hS : SB (cfg b)) : INV b := by
  obtain ⟨h1, h2, h3, h4, h5, h6, h7⟩ := h
  obtain ⟨g1, g2, g3, g4, g5⟩ := h1
  refine ⟨⟨?_, ?_, ?_, ?_, hS⟩, ?_, h3.of (e 12 (by omega)), fun s hs9 => by have := h11 s; omega, ?_, ?_, ?_⟩
  · unfold BG at *; rw [e 2 (by omega), e 3 (by omega)]; exact g1
  · rw [e 1 (by omega)]; exact g2
  · rw [e 4 (by omega)]; exact g3
  · rw [e 1 (by omega)]; exact g4
  · obtain ⟨t1, t2, t3⟩ := h2
    unfold TI
    rw [e 10 (by omega), e 12 (by omega), e 13 (by omega), e 14 (by omega), e 17 (by omega), e 18 (by omega)]
    refine ⟨h9, fun s => ⟨?_, (t2 s).2⟩, t3⟩
    rw [h11 s]; omega
  · unfold BKI at *; rw [e 24 (by omega), e 25 (by omega), e 26 (by omega), e 27 (by omega)]; exact h5
  · unfold TRI at *; rw [e 30 (by omega)]; exact h6
  · rw [e 2 (by omega), e 3 (by omega), e 28 (by omega), e 29 (by omega), e 30 (by omega), e 1 (by omega)]; exact h7
theorem INV.back {a b : Sg} (h : INV a) (h0 : a 30 0 ≠ 0) (e : ∀ r : Nat, ((2 ≤ r ∧ r ≤ 14 ∧ r ≠ 4) ∨ r = 17 ∨ r = 18 ∨ (24 ≤ r ∧ r ≤ 29)) → b r = a r) (e1 : b 1 = unF (a 1) (a 28 (a 30 0 - 1)) (a 29 (a 30 0 - 1))) (e4 : b 4 0 = 1 - a 4 0) (e30 : b 30 0 = a 30 0 - 1) : INV b := by
  obtain ⟨h1, h2, h3, h4, h5, h6, h7⟩ := h
  obtain ⟨g1, g2, g3, g4, g5⟩ := h1
  have hc : cfg b = cfg a := cfg_of (fun r hr => e r (by omega))
  obtain ⟨n, hn⟩ : ∃ n : Nat, (a 30 0).toNat = n + 1 := ⟨(a 30 0).toNat - 1, by have := h6.1; omega⟩
  have hn2 : a 30 0 - 1 = (n : Int) := by have := h6.1; omega
  rw [hn] at h7
  have hT := h7.2.2
  rw [← hn2, ← e1] at hT
  have hd := hT.bd
  refine ⟨⟨?_, hd.1, ?_, hd.2.1, by rw [hc]; exact g5⟩, h2.of (fun r hr => e r (by omega)), h3.of (e 12 (by omega)), ?_, ?_, ?_, ?_⟩
  · unfold BG at *; rw [e 2 (by omega), e 3 (by omega)]; exact g1
  · rw [e4]; omega
  · rw [hc]; exact h4.of (fun r hr => e r (by omega))
  · unfold BKI at *; rw [e 24 (by omega), e 25 (by omega), e 26 (by omega), e 27 (by omega)]; exact h5
  · unfold TRI at *; rw [e30]; omega
  · rw [e 2 (by omega), e 3 (by omega), e 28 (by omega), e 29 (by omega), e30, hn2]; exact hT
theorem layG_0o {wh k : Int} (hk : 0 ≤ k ∧ k ≤ wh) {i : Int} (hi : i < 0 ∨ wh ≤ i) : layG wh (fun _ => 0) k i = 0 := by
  unfold layG
  rw [if_neg (by omega), if_neg (by omega)]
theorem C3_bd2 {a b n : Int} (h : C3f a b n) : (0 ≤ n * a ∧ 2 * (n * a) ≤ a * b) ∧ 9 ≤ a * b ∧ a * b ≤ 25 := by
  rcases C3_cases h with ⟨rfl, rfl | rfl | rfl, rfl | rfl | rfl⟩ | ⟨rfl, rfl, rfl⟩ <;> omega
theorem BKI_wr {σ : Sg} (h : BKI σ) {pg key v wt : Int} (hk : 0 ≤ key ∧ key < 4000000000000000000) (hv : -1 ≤ v ∧ v < 2500) (hw : 0 ≤ wt ∧ wt ≤ 99) (hpg : (FB σ key v pg ∧ 0 ≤ pg) ∨ (FB σ key v (-1) ∧ pg = σ 27 0 ∧ σ 27 0 < 30)) : BKI (wrB σ pg key v wt) := by
  obtain ⟨h1, h2, h3⟩ := h
  have e24 : wrB σ pg key v wt 24 = ups (σ 24) pg key := rfl
  have e25 : wrB σ pg key v wt 25 = ups (σ 25) pg v := rfl
  have e26 : wrB σ pg key v wt 26 = ups (σ 26) pg wt := rfl
  have e27 : wrB σ pg key v wt 27 0 = max (σ 27 0) (pg + 1) := rfl
  have hpg2 : 0 ≤ pg ∧ pg < 30 ∧ pg ≤ σ 27 0 ∧ ∀ k : Int, 0 ≤ k → k < σ 27 0 → k ≠ pg → ¬ (σ 24 k = key ∧ σ 25 k = v) := by
    rcases hpg with ⟨q, q0⟩ | ⟨q, rfl, q3⟩
    · rcases q with ⟨a, b, c, d⟩ | ⟨a, -⟩
      · exact ⟨a, by omega, by omega, fun k k0 k1 kn hh => kn (h3 k pg k0 k1 a b (hh.1.trans c.symm) (hh.2.trans d.symm))⟩
      · omega
    · rcases q with ⟨a, -⟩ | ⟨-, q⟩
      · omega
      · exact ⟨by omega, by omega, by omega, fun k k0 k1 _ => q k k0 k1⟩
  obtain ⟨p0, p1, p2, p3⟩ := hpg2
  unfold BKI
  rw [e24, e25, e26, e27]
  refine ⟨by omega, fun k => ⟨?_, ?_, ?_⟩, fun i k i0 i1 k0 k1 ha hb => ?_⟩
  · by_cases e : k = pg
    · rw [e, ups_eq]; exact hk
    · rw [ups_ne _ _ e]; exact (h2 k).1
  · by_cases e : k = pg
    · rw [e, ups_eq]; exact hv
    · rw [ups_ne _ _ e]; exact (h2 k).2.1
  · by_cases e : k = pg
    · rw [e, ups_eq]; exact hw
    · rw [ups_ne _ _ e]; exact (h2 k).2.2
  · by_cases ei : i = pg
    · by_cases ek : k = pg
      · omega
      · rw [ei, ups_eq, ups_ne _ _ ek] at ha hb
        exact absurd ⟨ha.symm, hb.symm⟩ (p3 k k0 (by omega) ek)
    · by_cases ek : k = pg
      · rw [ek, ups_eq, ups_ne _ _ ei] at ha hb
        exact absurd ⟨ha, hb⟩ (p3 i i0 (by omega) ei)
      · rw [ups_ne _ _ ei, ups_ne _ _ ek] at ha hb
        exact h3 i k i0 (by omega) k0 (by omega) ha hb
theorem mvG_oo {X : Sg} {v : Int} {r : Nat} (h : ¬ (r = 1 ∨ r = 4)) : mvG X v r = X r := by
  unfold mvG
  rw [upr_ne _ _ (by omega), upr_ne _ _ (by omega)]
def KP (τ : Sg) : Prop := Z11 τ ∧ τ 17 0 = -1 ∧ τ 18 0 = -1 ∧ τ 9 0 ≤ 64
theorem KP.of {a b : Sg} (h : KP a) (e : ∀ r : Nat, (r = 9 ∨ r = 11 ∨ r = 17 ∨ r = 18) → b r = a r) : KP b := by
  unfold KP Z11 at *
  rw [e 9 (by omega), e 11 (by omega), e 17 (by omega), e 18 (by omega)]; exact h
theorem KP.up {τ : Sg} (h : KP τ) {q : Nat} (f : Fn) (hq : q ≠ 9 ∧ q ≠ 11 ∧ q ≠ 17 ∧ q ≠ 18) : KP (upr τ q f) := h.of (fun r hr => upr_ne _ _ (by omega))
theorem KP.cut {τ : Sg} (h : KP τ) (c : Fn) {d : Int} (v : Int) (hd : d ≠ 0) : KP (cutT τ c d v) := by
  unfold cutT
  have h1 : KP (incT τ 23) := h.of (fun r hr => upr_ne _ _ (by omega))
  split
  · exact h1
  · unfold noteT
    split
    · exact h1
    · obtain ⟨a, b, c9, e⟩ := h1
      refine ⟨a, ?_, ?_, e⟩
      · rw [upr_eq, ups_ne _ _ (fun q => hd q.symm)]; exact b
      · rw [upr_ne _ _ (by decide), upr_eq, ups_ne _ _ (fun q => hd q.symm)]; exact c9
theorem KP.sto {τ : Sg} (h : KP τ) (key d b k v : Int) : KP (stoT τ key d b k v) := by
  by_cases e : 0 < τ 9 0
  · obtain ⟨s10, s11, s12, s13, s14, so⟩ := stoT_in (key := key) (d := d) (b := b) (k := k) (v := v) e
    obtain ⟨a, h17, h18, h9⟩ := h
    refine ⟨fun s hs => ?_, by rw [so 17 (by omega)]; exact h17, by rw [so 18 (by omega)]; exact h18, by rw [so 9 (by omega)]; exact h9⟩
    have b1 := Int.emod_nonneg key (show τ 9 0 ≠ 0 by omega)
    have b2 := Int.emod_lt_of_pos key e
    rw [s11, ups_ne _ _ (by omega)]; exact a s hs
  · rw [stoT_no e]; exact h
theorem slp_KP {rec : Fn → Int → Int → Int → Sg → Int × Int × Sg} {c : Fn} {sd lo up : Int} (hrec : ∀ v lo up τ, KP τ → KP (rec (mvF c v) (1 - sd) lo up τ).2.2) : ∀ (L : List Int) (b f n : Int) (τ : Sg), KP τ → KP (slp rec c sd lo up L b f n τ).2.2.2
  | [], b, f, n, τ, hT => hT
  | v :: vs, b, f, n, τ, hT => by
    have hr := hrec v (-up) (-(max lo b)) τ hT
    unfold slp
    split
    · split
      · exact slp_KP hrec vs _ _ _ _ hr
      · exact slp_KP hrec vs _ _ _ _ hr
    · exact hT
theorem sb_KP {S : Nat → Int} : ∀ (d : Nat) (c : Fn) (sd lo up : Int) (τ : Sg), KP τ → KP (sb S d c sd lo up τ).2.2
  | 0, c, sd, lo, up, τ, h => h
  | d + 1, c, sd, lo, up, τ, h => by
    rw [sb]
    split
    · exact h
    · split
      · exact KP.up (KP.up h (q := 22) _ (by decide)) (q := 19) _ (by decide)
      · have key := slp_KP (rec := sb S d) (c := c) (sd := sd) (lo := lo) (up := up) (fun v lo up τ h => sb_KP d (mvF c v) (1 - sd) lo up τ h) (ordS τ c (MLs c (S 2) (S 3) sd) (keyS S c sd) ((d : Int) + 1)) (-10000) (-1) 1 τ h
        have k2 : KP (endT c ((d : Int) + 1) lo up (keyS S c sd) (slp (sb S d) c sd lo up (ordS τ c (MLs c (S 2) (S 3) sd) (keyS S c sd) ((d : Int) + 1)) (-10000) (-1) 1 τ)) := by
          unfold endT
          refine KP.sto ?_ _ _ _ _ _
          split
          · exact key.cut c _ (by omega)
          · exact key
        exact KP.up k2 (q := 19) _ (by decide)
theorem skp_KP {S : Nat → Int} {c : Fn} {sd : Int} : ∀ (k d : Nat) (num n re : Int) (τ : Sg), KP τ → KP (skp S c sd k d num n re τ).2.2.2
  | 0, d, num, n, re, τ, h => h
  | k + 1, d, num, n, re, τ, h => by
    rw [skp]
    split
    · exact h
    · exact skp_KP k (d + 1) _ _ _ _ (sb_KP d c sd (-9999) 9999 τ h)
theorem skp_rch {S : Nat → Int} {c : Fn} {sd : Int} : ∀ (k d : Nat) (num n re : Int) (τ : Sg), re = (d : Int) - 1 → (d : Int) - 1 ≤ (skp S c sd k d num n re τ).2.2.1 ∧ (skp S c sd k d num n re τ).2.2.1 ≤ (d : Int) - 1 + k
  | 0, d, num, n, re, τ, h => by show (d : Int) - 1 ≤ re ∧ re ≤ (d : Int) - 1 + (0 : Nat); omega
  | k + 1, d, num, n, re, τ, h => by
    rw [skp]
    split
    · show (d : Int) - 1 ≤ re ∧ re ≤ (d : Int) - 1 + ((k + 1 : Nat) : Int); omega
    · have q := skp_rch (S := S) (c := c) (sd := sd) k (d + 1) (sb S d c sd (-9999) 9999 τ).1 (n + (sb S d c sd (-9999) 9999 τ).2.1) (d : Int) (sb S d c sd (-9999) 9999 τ).2.2 (by omega)
      omega
theorem skp_14 {S : Nat → Int} {c : Fn} {sd : Int} {d : Nat} (hd : 1 ≤ d ∧ d ≤ 4) (τ : Sg) : 1 ≤ (skp S c sd d 1 0 0 0 τ).2.2.1 ∧ (skp S c sd d 1 0 0 0 τ).2.2.1 ≤ 4 := by
  obtain ⟨k, rfl⟩ : ∃ k, d = k + 1 := ⟨d - 1, by omega⟩
  rw [skp, if_neg (by decide)]
  have q := skp_rch (S := S) (c := c) (sd := sd) k 2 (sb S 1 c sd (-9999) 9999 τ).1 (0 + (sb S 1 c sd (-9999) 9999 τ).2.1) ((1 : Nat) : Int) (sb S 1 c sd (-9999) 9999 τ).2.2 (by decide)
  exact ⟨Int.le_trans (by decide) q.1, Int.le_trans q.2 (by omega)⟩
def CNT (σ : Sg) : Prop := (0 ≤ σ 22 0 ∧ σ 22 0 ≤ σ 21 0 + σ 16 0) ∧ (0 ≤ σ 23 0 ∧ σ 23 0 ≤ σ 21 0 + σ 16 0) ∧ σ 21 0 + σ 16 0 ≤ 700000000
def KLS (σ : Sg) : Prop := (σ 20 0 = 0 ∧ ∀ d : Int, 1 ≤ d → d ≤ 4 → σ 17 d = -1 ∧ σ 18 d = -1) ∨ (1 ≤ σ 20 0 ∧ σ 20 0 ≤ 4)
def JI (σ : Sg) : Prop := (INV σ ∧ HLM σ ∧ TSo (cfg σ) σ) ∧ (-1 ≤ σ 19 0 ∧ σ 19 0 < 2500) ∧ KLS σ ∧ CNT σ
section JIS
variable {σ σ' : Sg}
theorem JI.n (h : JI σ) : INV σ := h.1.1
theorem JI.hl (h : JI σ) : HLM σ := h.1.2.1
theorem JI.ts (h : JI σ) : TSo (cfg σ) σ := h.1.2.2
theorem JI.be (h : JI σ) : -1 ≤ σ 19 0 ∧ σ 19 0 < 2500 := h.2.1
theorem JI.cnt (h : JI σ) : CNT σ := h.2.2.2
theorem JI.g (h : JI σ) : GI σ := h.n.1
theorem JI.ti (h : JI σ) : TI σ := h.n.2.1
theorem JI.tl (h : JI σ) : TL (cfg σ) σ := h.n.2.2.2.1
theorem JI.bk (h : JI σ) : BKI σ := h.n.2.2.2.2.1
theorem JI.tr (h : JI σ) : TRI σ := h.n.2.2.2.2.2.1
theorem JI.sb (h : JI σ) : SB (cfg σ) := h.g.2.2.2.2
theorem JI.sd (h : JI σ) : σ 4 0 = 0 ∨ σ 4 0 = 1 := h.g.2.2.1
theorem JI.bd (h : JI σ) : BDG (σ 2 0 * σ 3 0) (σ 1) := h.n.2.2.2.2.2.2.bd
theorem JI.re4 (h : JI σ) : 0 ≤ σ 20 0 ∧ σ 20 0 ≤ 4 := by
  rcases h.2.2.1 with q | q
  · have := q.1; omega
  · omega
theorem JI.wh (h : JI σ) : 9 ≤ σ 2 0 * σ 3 0 ∧ σ 2 0 * σ 3 0 ≤ 25 := by
  have hB := h.g.1
  have wb := wh_bd hB.1 hB.2.1 hB.2.2.1 hB.2.2.2
  omega
theorem JI.hcz (h : JI σ) : ∀ i : Int, (i < 0 ∨ 25 ≤ i) → σ 1 i = 0 := fun i hi => h.bd.2.2 i (by have := h.wh; omega)
theorem JI.hk0 (h : JI σ) : σ 20 0 = 0 → ∀ d o : Int, 1 ≤ d → d ≤ 4 → kilF σ d o = -1 := by
  intro h0 d o h1 h4
  rcases h.2.2.1 with q | q
  · unfold kilF
    rw [if_pos (by omega), (q.2 d h1 h4).1, (q.2 d h1 h4).2]
    split <;> rfl
  · omega
theorem JI.hu (h : JI σ) : σ 30 0 ≠ 0 → OKM (σ 2 0 * σ 3 0) (σ 28 (σ 30 0 - 1)) ∧ BDG (σ 2 0 * σ 3 0) (unF (σ 1) (σ 28 (σ 30 0 - 1)) (σ 29 (σ 30 0 - 1))) := by
  intro h0
  have ht := h.tr
  have hT := h.n.2.2.2.2.2.2
  obtain ⟨n, hn⟩ : ∃ n : Nat, (σ 30 0).toNat = n + 1 := ⟨(σ 30 0).toNat - 1, by have := ht.1; omega⟩
  rw [hn] at hT
  have e : σ 30 0 - 1 = (n : Int) := by have := ht.1; omega
  rw [e]
  exact ⟨hT.2.1, hT.2.2.bd⟩
theorem JI.z (h : JI σ) : Z11 σ := fun s hs => by
  have a := (h.ti.2.1 s).1
  have b := h.ti.1
  by_cases e : 0 < σ 11 s
  · have := (h.ts s e).1; omega
  · omega
theorem JI.upd (h : JI σ) (hN : INV σ') (hH : HLM σ') (hT : TSo (cfg σ') σ') (e : ∀ r : Nat, 16 ≤ r → r ≤ 23 → σ' r = σ r) : JI σ' := by
  obtain ⟨-, h2, h3, h4⟩ := h
  refine ⟨⟨hN, hH, hT⟩, ?_, ?_, ?_⟩
  · rw [e 19 (by omega) (by omega)]; exact h2
  · unfold KLS at *; rw [e 20 (by omega) (by omega), e 17 (by omega) (by omega), e 18 (by omega) (by omega)]; exact h3
  · unfold CNT at *; rw [e 16 (by omega) (by omega), e 21 (by omega) (by omega), e 22 (by omega) (by omega), e 23 (by omega) (by omega)]; exact h4
theorem JI.ro (h : JI σ) (e : ∀ r : Nat, r < 46 → r ≠ 15 → σ' r = σ r) : JI σ' := by
  have ec : cfg σ' = cfg σ := cfg_of (fun r hr => e r (by omega) (by omega))
  refine h.upd (h.n.of (fun r hr => e r (by omega) (by omega))) (h.hl.of6 (fun r hr => e r (by omega) (by omega))) ?_ (fun r h1 h2 => e r (by omega) (by omega))
  rw [ec]
  exact h.ts.of (fun r h1 h2 => e r (by omega) (by omega))
theorem JI.same (h : JI σ) (hN : INV σ') (hH : HLM σ') (hc : cfg σ' = cfg σ) (e : ∀ r : Nat, 9 ≤ r → r ≤ 23 → r ≠ 15 → σ' r = σ r) : JI σ' :=
  h.upd hN hH (by rw [hc]; exact h.ts.of (fun r h1 h2 => e r h1 (by omega) (by omega))) (fun r h1 h2 => e r (by omega) h2 (by omega))
theorem su_ne {a b n : Int} (h : C3f a b n) : MLs (layG (a * b) (fun _ => 0) (n * a)) a b 0 ≠ [] := by
  rcases C3_cases h with ⟨rfl, rfl | rfl | rfl, rfl | rfl | rfl⟩ | ⟨rfl, rfl, rfl⟩ <;> decide +kernel
theorem JI.setUp {a b n : Int} (h : JI σ) (hd : C3f a b n) (hp : SAN (suW σ a b n) σ') : JI σ' ∧ σ' 30 0 = 0 ∧ σ' 4 0 = 0 ∧ (∀ s, σ' 11 s = 0) ∧ MLg0 σ' ≠ [] := by
  obtain ⟨hs, hH⟩ := hp
  have hb3 := C3_bd2 hd
  have hlay : layN (a * b) (n * a) (σ 1) 25 = layG (a * b) (fun _ => 0) (n * a) := lay_same h.hcz (by omega) (by omega)
  have hs : ∀ r : Nat, ¬ (40 ≤ r ∧ r < 46) → σ' r = upr (suW σ a b n) 30 (ups (σ 30) 0 0) r := hs
  have hso : ∀ r : Nat, ¬ (40 ≤ r ∧ r < 46) → r ≠ 1 → r ≠ 2 → r ≠ 3 → r ≠ 4 → r ≠ 11 → r ≠ 30 → σ' r = σ r := fun r g0 g1 g2 g3 g4 g5 g6 => by
    rw [hs r g0, upr_ne _ _ g6]
    unfold suW laC
    rw [upr_ne _ _ g5, upr_ne _ _ g1, upr_ne _ _ g4, upr_ne _ _ g3, upr_ne _ _ g2]
  have e1 : σ' 1 = layG (a * b) (fun _ => 0) (n * a) := by rw [hs 1 (by omega)]; exact hlay
  have e2 : σ' 2 = ups (σ 2) 0 a := hs 2 (by omega)
  have e3 : σ' 3 = ups (σ 3) 0 b := hs 3 (by omega)
  have e4 : σ' 4 = ups (σ 4) 0 0 := hs 4 (by omega)
  have e11 : σ' 11 = wpF (σ 11) 64 := hs 11 (by omega)
  have e30 : σ' 30 = ups (σ 30) 0 0 := hs 30 (by omega)
  have e20 : σ' 2 0 = a := by rw [e2]; rfl
  have e30' : σ' 3 0 = b := by rw [e3]; rfl
  have hz : ∀ s : Int, σ' 11 s = 0 := fun s => by rw [e11]; exact h.z.wipe s
  refine ⟨h.upd ?_ hH (TSo.nil hz) (fun r h1 h2 => hso r (by omega) (by omega) (by omega) (by omega) (by omega) (by omega) (by omega)), by rw [e30]; rfl, by rw [e4]; rfl, hz, ?_⟩
  · have hS := h.sb
    have q5 : σ' 5 = σ 5 := hso 5 (by omega) (by omega) (by omega) (by omega) (by omega) (by omega) (by omega)
    have q6 : σ' 6 = σ 6 := hso 6 (by omega) (by omega) (by omega) (by omega) (by omega) (by omega) (by omega)
    have q7 : σ' 7 = σ 7 := hso 7 (by omega) (by omega) (by omega) (by omega) (by omega) (by omega) (by omega)
    have q8 : σ' 8 = σ 8 := hso 8 (by omega) (by omega) (by omega) (by omega) (by omega) (by omega) (by omega)
    have hd1 := hd.1
    have hd2 := hd.2.1
    refine h.n.anew (fun r hr => hso r (by omega) (by omega) (by omega) (by omega) (by omega) (by omega) (by omega)) (Or.inr hz) ?_ ?_ (by rw [e4]; exact Or.inl rfl) ?_ (by rw [e30]; rfl)
    · unfold BG; rw [e20, e30']; exact ⟨hd1.1, hd1.2, hd2.1, hd2.2⟩
    · have hS5 : (0 ≤ σ 5 0 ∧ σ 5 0 ≤ 50) ∧ (0 ≤ σ 6 0 ∧ σ 6 0 ≤ 20) ∧ (0 ≤ σ 7 0 ∧ σ 7 0 ≤ 10) ∧ (σ 8 0 = 0 ∨ σ 8 0 = 1) := hS.2
      show ((3 ≤ σ' 2 0 ∧ σ' 2 0 ≤ 5 ∧ 3 ≤ σ' 3 0 ∧ σ' 3 0 ≤ 5) ∧ (0 ≤ σ' 5 0 ∧ σ' 5 0 ≤ 50) ∧ (0 ≤ σ' 6 0 ∧ σ' 6 0 ≤ 20) ∧ (0 ≤ σ' 7 0 ∧ σ' 7 0 ≤ 10) ∧ (σ' 8 0 = 0 ∨ σ' 8 0 = 1))
      rw [e20, e30', q5, q6, q7, q8]
      exact ⟨⟨hd1.1, hd1.2, hd2.1, hd2.2⟩, hS5⟩
    · rw [e20, e30', e1]
      exact ⟨layG_BC (fun _ => by omega), lay_PW hd, fun i hi => layG_0o (by omega) hi⟩
  · show MLs (σ' 1) (σ' 2 0) (σ' 3 0) (σ' 4 0) ≠ []
    rw [e1, e20, e30', show σ' 4 0 = 0 by rw [e4]; rfl]
    exact su_ne hd
theorem JI.put {f v : Int} (h : JI σ) (hf : 0 ≤ f ∧ f < σ 2 0 * σ 3 0) (hv : 0 ≤ v ∧ v ≤ 2) (hn : ¬ (v ≠ 0 ∧ v ≠ σ 1 f ∧ 6 ≤ cntF (σ 1) v 25)) (hp : SAN (upr σ 1 (ups (σ 1) f v)) σ') : JI σ' ∧ σ' 30 0 = 0 := by
  obtain ⟨hs, hH⟩ := hp
  have hs : ∀ r : Nat, ¬ (40 ≤ r ∧ r < 46) → σ' r = upr (upr σ 1 (ups (σ 1) f v)) 30 (ups (σ 30) 0 0) r := hs
  have hw := h.wh
  have e1 : σ' 1 = ups (σ 1) f v := hs 1 (by omega)
  have e2 : σ' 2 = σ 2 := hs 2 (by omega)
  have e3 : σ' 3 = σ 3 := hs 3 (by omega)
  have e4 : σ' 4 = σ 4 := hs 4 (by omega)
  have e30 : σ' 30 0 = 0 := by rw [hs 30 (by omega)]; rfl
  have ec : cfg σ' = cfg σ := cfg_of (fun r hr => by rw [hs r (by omega), upr_ne _ _ (by omega), upr_ne _ _ (by omega)])
  have hd := h.bd
  refine ⟨h.same ?_ hH ec (fun r h1 h2 h3 => by rw [hs r (by omega), upr_ne _ _ (by omega), upr_ne _ _ (by omega)]), e30⟩
  refine h.n.anew (fun r hr => by rw [hs r (by omega), upr_ne _ _ (by omega), upr_ne _ _ (by omega)]) (Or.inl ⟨hs 11 (by omega), ec⟩) ?_ (by rw [ec]; exact h.sb) (by rw [e4]; exact h.sd) ?_ e30
  · have hB := h.g.1
    unfold BG at *; rw [e2, e3]; exact hB
  · rw [e1, e2, e3]
    exact ⟨BC_ups hd.1 hv, PW_ups hd.2.1 ⟨by omega, by omega⟩ hn, fun i hi => by rw [ups_ne _ _ (by omega)]; exact hd.2.2 i hi⟩
theorem JI.setSide {n : Int} (h : JI σ) (hd : 0 ≤ n ∧ n ≤ 1) (hp : SAN (upr σ 4 (ups (σ 4) 0 n)) σ') : JI σ' := by
  obtain ⟨hs, hH⟩ := hp
  have hs : ∀ r : Nat, ¬ (40 ≤ r ∧ r < 46) → σ' r = upr (upr σ 4 (ups (σ 4) 0 n)) 30 (ups (σ 30) 0 0) r := hs
  have e1 : σ' 1 = σ 1 := hs 1 (by omega)
  have e2 : σ' 2 = σ 2 := hs 2 (by omega)
  have e3 : σ' 3 = σ 3 := hs 3 (by omega)
  have e4 : σ' 4 0 = n := by rw [hs 4 (by omega)]; rfl
  have e30 : σ' 30 0 = 0 := by rw [hs 30 (by omega)]; rfl
  have ec : cfg σ' = cfg σ := cfg_of (fun r hr => by rw [hs r (by omega), upr_ne _ _ (by omega), upr_ne _ _ (by omega)])
  refine h.same ?_ hH ec (fun r h1 h2 h3 => by rw [hs r (by omega), upr_ne _ _ (by omega), upr_ne _ _ (by omega)])
  refine h.n.anew (fun r hr => by rw [hs r (by omega), upr_ne _ _ (by omega), upr_ne _ _ (by omega)]) (Or.inl ⟨hs 11 (by omega), ec⟩) ?_ (by rw [ec]; exact h.sb) (by omega) (by rw [e1, e2, e3]; exact h.bd) e30
  have hB := h.g.1
  unfold BG at *; rw [e2, e3]; exact hB
theorem addT_30 {X : Sg} {v t : Int} (h : 0 ≤ X 30 0 ∧ X 30 0 ≤ 40) : addT X v t 30 0 = min 40 (X 30 0 + 1) := by
  unfold addT putT
  by_cases c : 40 ≤ X 30 0
  · rw [if_pos c, upr_eq, ups_eq]
    have e : shT X 30 0 = X 30 0 - 1 := by unfold shT; rw [upr_eq, ups_eq]
    rw [e]; omega
  · rw [if_neg c, upr_eq, ups_eq]; omega
theorem JI.play {v : Int} (h : JI σ) (hv : MV σ v) (hp : PLC σ σ' v) : JI σ' ∧ σ' 30 0 = min 40 (σ 30 0 + 1) ∧ σ' 4 0 = 1 - σ 4 0 := by
  have hI := hp.inv h.n hv
  obtain ⟨hs, hH⟩ := hp
  have hso : ∀ r : Nat, ¬ (40 ≤ r ∧ r < 46) → ¬ (r = 1 ∨ r = 4 ∨ r = 28 ∨ r = 29 ∨ r = 30) → σ' r = σ r := fun r h1 h2 => by rw [hs r h1, addT_o (by omega)]; exact mvG_oo (by omega)
  have e30 : mvG σ v 30 = σ 30 := mvG_oo (by omega)
  refine ⟨h.same hI hH (cfg_of (fun r hr => hso r (by omega) (by omega))) (fun r h1 h2 h3 => hso r (by omega) (by omega)), ?_, ?_⟩
  · rw [hs 30 (by omega), addT_30 (by rw [e30]; exact h.tr), e30]
  · rw [hs 4 (by omega), addT_o (by omega), mvG_4, ups_eq]
theorem JI.back (h : JI σ) (hd : σ 30 0 ≠ 0) (hs : ∀ r : Nat, ¬ (40 ≤ r ∧ r < 46) → σ' r = upr (unG σ (σ 28 (σ 30 0 - 1)) (σ 29 (σ 30 0 - 1))) 30 (ups (σ 30) 0 (σ 30 0 - 1)) r) (hH : HLM σ') : JI σ' ∧ σ' 4 0 = 1 - σ 4 0 ∧ σ' 30 0 = σ 30 0 - 1 := by
  have hs : ∀ r : Nat, ¬ (40 ≤ r ∧ r < 46) → σ' r = upr (upr (upr σ 1 (unF (σ 1) (σ 28 (σ 30 0 - 1)) (σ 29 (σ 30 0 - 1)))) 4 (ups (σ 4) 0 (1 - σ 4 0))) 30 (ups (σ 30) 0 (σ 30 0 - 1)) r := hs
  have hso : ∀ r : Nat, ¬ (40 ≤ r ∧ r < 46) → ¬ (r = 1 ∨ r = 4 ∨ r = 30) → σ' r = σ r := fun r h1 h2 => by rw [hs r h1, upr_ne _ _ (by omega), upr_ne _ _ (by omega), upr_ne _ _ (by omega)]
  have e4 : σ' 4 0 = 1 - σ 4 0 := by rw [hs 4 (by omega)]; rfl
  have e30 : σ' 30 0 = σ 30 0 - 1 := by rw [hs 30 (by omega)]; rfl
  exact ⟨h.same (h.n.back hd (fun r hr => hso r (by omega) (by omega)) (hs 1 (by omega)) e4 e30) hH (cfg_of (fun r hr => hso r (by omega) (by omega))) (fun r h1 h2 h3 => hso r (by omega) (by omega)), e4, e30⟩
theorem JI.weigh {a b d : Int} (h : JI σ) (hd : (0 ≤ a ∧ a ≤ 50) ∧ (0 ≤ b ∧ b ≤ 20) ∧ (0 ≤ d ∧ d ≤ 10)) (hs : weW σ a b d = σ') : JI σ' ∧ (∀ s, σ' 11 s = 0) ∧ σ' 1 = σ 1 ∧ σ' 4 = σ 4 := by
  have hs9 : σ' = upr (upr (upr (upr σ 5 (ups (σ 5) 0 a)) 6 (ups (σ 6) 0 b)) 7 (ups (σ 7) 0 d)) 11 (wpF (σ 11) 64) := hs.symm
  have hz11 : ∀ s : Int, σ' 11 s = 0 := fun s => by rw [hs9]; exact h.z.wipe s
  have hso : ∀ r : Nat, ¬ (r = 5 ∨ r = 6 ∨ r = 7 ∨ r = 11) → σ' r = σ r := fun r hr => by rw [hs9, upr_ne _ _ (by omega), upr_ne _ _ (by omega), upr_ne _ _ (by omega), upr_ne _ _ (by omega)]
  refine ⟨h.upd ?_ (h.hl.of6 (fun r hr => hso r (by omega))) (TSo.nil hz11) (fun r h1 h2 => hso r (by omega)), hz11, hso 1 (by omega), hso 4 (by omega)⟩
  refine h.n.wipe (fun r hr => hso r (by omega)) hz11 (by rw [hso 9 (by omega)]; exact h.ti.1) ?_
  have hS := h.sb
  have hS2 : (3 ≤ σ 2 0 ∧ σ 2 0 ≤ 5 ∧ 3 ≤ σ 3 0 ∧ σ 3 0 ≤ 5) := hS.1
  have hS8 : (σ 8 0 = 0 ∨ σ 8 0 = 1) := hS.2.2.2.2
  show ((3 ≤ σ' 2 0 ∧ σ' 2 0 ≤ 5 ∧ 3 ≤ σ' 3 0 ∧ σ' 3 0 ≤ 5) ∧ (0 ≤ σ' 5 0 ∧ σ' 5 0 ≤ 50) ∧ (0 ≤ σ' 6 0 ∧ σ' 6 0 ≤ 20) ∧ (0 ≤ σ' 7 0 ∧ σ' 7 0 ≤ 10) ∧ (σ' 8 0 = 0 ∨ σ' 8 0 = 1))
  have q5 : σ' 5 0 = a := by rw [hs9]; rfl
  have q6 : σ' 6 0 = b := by rw [hs9]; rfl
  have q7 : σ' 7 0 = d := by rw [hs9]; rfl
  rw [hso 2 (by omega), hso 3 (by omega), hso 8 (by omega), q5, q6, q7]
  exact ⟨hS2, hd.1, hd.2.1, hd.2.2, hS8⟩
theorem JI.setSlots {n : Int} (h : JI σ) (hd : 0 ≤ n ∧ n ≤ 64) (hs : upr (upr σ 9 (ups (σ 9) 0 n)) 11 (wpF (σ 11) 64) = σ') : JI σ' := by
  have hz11 : ∀ s : Int, σ' 11 s = 0 := fun s => by rw [← hs]; exact h.z.wipe s
  have hso : ∀ r : Nat, ¬ (r = 9 ∨ r = 11) → σ' r = σ r := fun r hr => by rw [← hs, upr_ne _ _ (by omega), upr_ne _ _ (by omega)]
  have ec : cfg σ' = cfg σ := cfg_of (fun r hr => hso r (by omega))
  have q9 : σ' 9 0 = n := by rw [← hs]; rfl
  exact h.upd (h.n.wipe (fun r hr => hso r (by omega)) hz11 (by rw [q9]; exact hd) (by rw [ec]; exact h.sb)) (h.hl.of6 (fun r hr => hso r (by omega))) (TSo.nil hz11) (fun r h1 h2 => hso r (by omega))
theorem JI.setQuiet {n : Int} (h : JI σ) (hn : n = 0 ∨ n = 1) (hs : (if σ 8 0 = n then σ else upr (upr σ 8 (ups (σ 8) 0 n)) 11 (wpF (σ 11) 64)) = σ') : JI σ' := by
  by_cases e : σ 8 0 = n
  · rw [if_pos e] at hs
    rw [← hs]; exact h
  · rw [if_neg e] at hs
    have hz11 : ∀ s : Int, σ' 11 s = 0 := fun s => by rw [← hs]; exact h.z.wipe s
    have hso : ∀ r : Nat, ¬ (r = 8 ∨ r = 11) → σ' r = σ r := fun r hr => by rw [← hs, upr_ne _ _ (by omega), upr_ne _ _ (by omega)]
    refine h.upd ?_ (h.hl.of6 (fun r hr => hso r (by omega))) (TSo.nil hz11) (fun r h1 h2 => hso r (by omega))
    refine h.n.wipe (fun r hr => hso r (by omega)) hz11 (by rw [hso 9 (by omega)]; exact h.ti.1) ?_
    have hS := h.sb
    have hS2 : (3 ≤ σ 2 0 ∧ σ 2 0 ≤ 5 ∧ 3 ≤ σ 3 0 ∧ σ 3 0 ≤ 5) := hS.1
    have hS5 : (0 ≤ σ 5 0 ∧ σ 5 0 ≤ 50) ∧ (0 ≤ σ 6 0 ∧ σ 6 0 ≤ 20) ∧ (0 ≤ σ 7 0 ∧ σ 7 0 ≤ 10) := ⟨hS.2.1, hS.2.2.1, hS.2.2.2.1⟩
    show ((3 ≤ σ' 2 0 ∧ σ' 2 0 ≤ 5 ∧ 3 ≤ σ' 3 0 ∧ σ' 3 0 ≤ 5) ∧ (0 ≤ σ' 5 0 ∧ σ' 5 0 ≤ 50) ∧ (0 ≤ σ' 6 0 ∧ σ' 6 0 ≤ 20) ∧ (0 ≤ σ' 7 0 ∧ σ' 7 0 ≤ 10) ∧ (σ' 8 0 = 0 ∨ σ' 8 0 = 1))
    have q8 : σ' 8 0 = n := by rw [← hs]; rfl
    rw [hso 2 (by omega), hso 3 (by omega), hso 5 (by omega), hso 6 (by omega), hso 7 (by omega), q8]
    exact ⟨hS2, hS5.1, hS5.2.1, hS5.2.2, hn⟩
theorem JI.teach {i w pg : Int} (h : JI σ) (hi : 0 ≤ i ∧ i < ((MLg0 σ).length : Int)) (hw : 1 ≤ w ∧ w ≤ 99) (hn : ¬ (FB σ (keyS (cfg σ) (σ 1) (σ 4 0)) ((MLg0 σ).getD i.toNat (-1)) (-1) ∧ σ 27 0 = 30)) (hpg : FB σ (keyS (cfg σ) (σ 1) (σ 4 0)) ((MLg0 σ).getD i.toNat (-1)) pg ∧ 0 ≤ pg ∨ FB σ (keyS (cfg σ) (σ 1) (σ 4 0)) ((MLg0 σ).getD i.toNat (-1)) (-1) ∧ pg = σ 27 0) (hs : wrB σ pg (keyS (cfg σ) (σ 1) (σ 4 0)) ((MLg0 σ).getD i.toNat (-1)) w = σ') : JI σ' := by
  have hBK := h.bk
  have hv := MLsMB h.g _ (getD_mem (L := MLg0 σ) hi.1 hi.2)
  have hk := keyS_bd h.sb h.g.2.1 h.sd
  have hso : ∀ r : Nat, ¬ (24 ≤ r ∧ r ≤ 27) → σ' r = σ r := fun r hr => by
    rw [← hs]
    unfold wrB
    rw [upr_ne _ _ (by omega), upr_ne _ _ (by omega), upr_ne _ _ (by omega), upr_ne _ _ (by omega)]
  have hB2 : BKI σ' := by
    rw [← hs]
    refine BKI_wr hBK hk ⟨by omega, hv.2⟩ ⟨by omega, hw.2⟩ ?_
    rcases hpg with a | ⟨a, a0⟩
    · exact Or.inl a
    · have : ¬ σ 27 0 = 30 := fun q => hn ⟨a, q⟩
      have := hBK.1
      exact Or.inr ⟨a, a0, by omega⟩
  have ec : cfg σ' = cfg σ := cfg_of (fun r hr => hso r (by omega))
  refine h.same ?_ (h.hl.of6 (fun r hr => hso r (by omega))) ec (fun r h1 h2 h3 => hso r (by omega))
  obtain ⟨n1, n2, n3, n4, n5, n6, n7⟩ := h.n
  refine ⟨n1.of (fun r hr => hso r (by omega)), n2.of (fun r hr => hso r (by omega)), n3.of (hso 12 (by omega)), ?_, hB2, ?_, ?_⟩
  · rw [ec]; exact n4.of (fun r hr => hso r (by omega))
  · unfold TRI at *; rw [hso 30 (by omega)]; exact n6
  · rw [hso 2 (by omega), hso 3 (by omega), hso 28 (by omega), hso 29 (by omega), hso 30 (by omega), hso 1 (by omega)]; exact n7
theorem JI.search {d : Nat} (h : JI σ) (hd : 1 ≤ d ∧ d ≤ 3) (hne : MLg0 σ ≠ []) (hs : SRC d σ σ') : JI σ' ∧ (1 ≤ σ' 20 0 ∧ σ' 20 0 ≤ d) ∧ (skp (cfg σ) (σ 1) (σ 4 0) d 1 0 0 (σ 20 0) (clrT (tv σ))).1 = vv (cfg σ) (σ' 20 0).toNat (σ 1) (σ 4 0) ∧ ∀ r : Nat, r < 46 → NSR r → r ≠ 20 → σ' r = σ r := by
  have hN2 := hs.inv ⟨hd.1, by omega⟩ h.n hne
  obtain ⟨s1, s2, s3, s4⟩ := hs
  rw [skp_re _ _ _ hd.1 (σ 20 0) 0] at s1 s2 s3 ⊢
  have g := h.g
  have hS := h.sb
  have hT0 : TSo (cfg σ) (clrT (tv σ)) := by
    refine h.ts.of (fun r h1 h2 => ?_)
    unfold clrT setT
    rw [upr_ne _ _ (by omega), upr_ne _ _ (by omega), upr_ne _ _ (by omega), upr_ne _ _ (by omega)]
    exact tv_in _ (by omega)
  have bd : BDG (cfg σ 2 * cfg σ 3) (σ 1) := h.bd
  have so := skp_so hS bd h.sd d 1 0 0 0 (clrT (tv σ)) (by omega) hT0 (by decide) (Or.inr ⟨hd.1, rfl⟩)
  have cn := skp_n hS bd h.sd d 1 0 0 0 (clrT (tv σ))
  have rc := skp_rch (S := cfg σ) (c := σ 1) (sd := σ 4 0) d 1 0 0 0 (clrT (tv σ)) (by decide)
  have r14 := skp_14 (S := cfg σ) (c := σ 1) (sd := σ 4 0) (d := d) ⟨hd.1, by omega⟩ (clrT (tv σ))
  have bst := (skp_best (d := d) hS g.2.1 h.sd hne ⟨hd.1, by omega⟩ (T9_tv.mpr h.n.2.2.1) (TL_tv.mpr h.tl)).2.2
  have sn := SN_3 hd.2
  rw [← s1] at so bst
  rw [← s3] at so rc r14
  have c22 : clrT (tv σ) 22 0 = 0 := rfl
  have c23 : clrT (tv σ) 23 0 = 0 := rfl
  unfold CN at cn
  rw [← s1, ← s2, c22, c23, tv_in σ' (r := 22) (by omega), tv_in σ' (r := 23) (by omega)] at cn
  have b19 : σ' 19 0 ∈ MLg0 σ := by have q := bst; rw [tv_in _ (by omega)] at q; exact q
  have hb := MLsMB g _ b19
  have ec : cfg σ' = cfg σ := cfg_of (fun r hr => s4 r (by omega) (by unfold NSR; omega) (by omega))
  refine ⟨⟨⟨hN2, h.hl.of6 (fun r hr => s4 r (by omega) (by unfold NSR; omega) (by omega)), ?_⟩, ⟨by omega, hb.2⟩, Or.inr ⟨by omega, by omega⟩, ?_⟩, ⟨by omega, by omega⟩, so.2, s4⟩
  · rw [ec]
    exact so.1.of (fun r h1 h2 => (tv_in σ' (by omega)).symm)
  · unfold CNT
    omega
theorem JI.go {d : Nat} {z : Int} (h : JI σ) (hd : 1 ≤ d ∧ d ≤ 3) (hne : MLg0 σ ≠ []) (hc : cgQ d σ z σ') : JI σ' ∧ 1 ≤ σ' 30 0 := by
  have hci : tlF σ = -1 ∨ (0 ≤ tlF σ ∧ tlF σ < 0 + ((MLg0 σ).length : Int)) := chF_in _ _ 0 (-1) 0 (Or.inl rfl) (by decide)
  by_cases e : tlF σ = -1
  · obtain ⟨τ, hs, hz, hp⟩ := hc.2 e
    obtain ⟨hJ, -, -, hf⟩ := h.search hd hne hs
    have e1 : ∀ r : Nat, (1 ≤ r ∧ r ≤ 4) → τ r = σ r := fun r hr => hf r (by omega) (by unfold NSR; omega) (by omega)
    have hv : MV τ ((MLg0 σ).getD z.toNat (-1)) := by
      unfold MV
      rw [e1 1 (by omega), e1 2 (by omega), e1 3 (by omega), e1 4 (by omega)]
      exact getD_mem hz.1 hz.2.1
    obtain ⟨a, b, -⟩ := hJ.play hv hp
    have := hJ.tr.1
    exact ⟨a, by omega⟩
  · obtain ⟨hz, hp⟩ := hc.1 e
    obtain ⟨a, b, -⟩ := h.play (getD_mem (L := MLg0 σ) (by omega) (by omega)) hp
    have := h.tr.1
    exact ⟨a, by omega⟩
end JIS
theorem JI.po {d : Nat} (hd : 1 ≤ d ∧ d ≤ 3) : ∀ (n : Nat) {σ σ' : Sg} {z : Int}, JI σ → cpQ d n σ z σ' → JI σ' ∧ (1 ≤ σ' 30 0 ∨ (z = 0 ∧ σ = σ')) ∧ 0 ≤ z ∧ z ≤ n
  | 0, σ, σ', z, h, hc => by
    obtain ⟨rfl, rfl⟩ := hc
    exact ⟨h, Or.inr ⟨rfl, rfl⟩, by decide, by decide⟩
  | n + 1, σ, σ', z, h, hc => by
    obtain ⟨c1, c2⟩ := hc
    by_cases e : MLg0 σ = []
    · obtain ⟨rfl, rfl⟩ := c1 e
      exact ⟨h, Or.inr ⟨rfl, rfl⟩, by decide, by omega⟩
    · obtain ⟨x, σa, hx, hc2⟩ := c2 e
      obtain ⟨hJ, h1⟩ := h.go hd e hx
      obtain ⟨hJ2, h2, h3, h4⟩ := JI.po hd n hJ hc2
      refine ⟨hJ2, Or.inl ?_, by omega, by omega⟩
      rcases h2 with q | ⟨-, rfl⟩
      · exact q
      · exact h1
