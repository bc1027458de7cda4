/-! what the two sides answer: teach, search, go, playOut -/
def KP (τ : Sg) : Prop := Z11 τ ∧ τ 17 0 = -1 ∧ τ 18 0 = -1 ∧ τ 9 0 ≤ 64
theorem KP.of {a b : Sg} (h : KP a) (e : ∀ r : Nat, (r = 9 ∨ r = 11 ∨ r = 17 ∨ r = 18) → b r = a r) : KP b := by
  unfold KP Z11 at *
  rw [e 9 (by omega), e 11 (by omega), e 17 (by omega), e 18 (by omega)]; exact h
theorem KP.up {τ : Sg} (h : KP τ) {q : Nat} (f : Fn) (hq : q ≠ 9 ∧ q ≠ 11 ∧ q ≠ 17 ∧ q ≠ 18) : KP (upr τ q f) := h.of (fun r hr => upr_ne _ _ (by omega))
theorem KP.cut {τ : Sg} (h : KP τ) (c : Fn) {d : Int} (v : Int) (hd : d ≠ 0) : KP (cutT τ c d v) := by
  unfold cutT
  have h1 : KP (incT τ 23) := h.of (fun r hr => upr_ne _ _ (by omega))
  split
  · exact h1
  · unfold noteT
    split
    · exact h1
    · obtain ⟨a, b, c9, e⟩ := h1
      refine ⟨a, ?_, ?_, e⟩
      · rw [upr_eq, ups_ne _ _ (fun q => hd q.symm)]; exact b
      · rw [upr_ne _ _ (by decide), upr_eq, ups_ne _ _ (fun q => hd q.symm)]; exact c9
theorem KP.sto {τ : Sg} (h : KP τ) (key d b k v : Int) : KP (stoT τ key d b k v) := by
  by_cases e : 0 < τ 9 0
  · obtain ⟨s10, s11, s12, s13, s14, so⟩ := stoT_in (key := key) (d := d) (b := b) (k := k) (v := v) e
    obtain ⟨a, h17, h18, h9⟩ := h
    refine ⟨fun s hs => ?_, by rw [so 17 (by omega)]; exact h17, by rw [so 18 (by omega)]; exact h18, by rw [so 9 (by omega)]; exact h9⟩
    have b1 := Int.emod_nonneg key (show τ 9 0 ≠ 0 by omega)
    have b2 := Int.emod_lt_of_pos key e
    rw [s11, ups_ne _ _ (by omega)]; exact a s hs
  · rw [stoT_no e]; exact h
theorem slp_KP {rec : Fn → Int → Int → Int → Sg → Int × Int × Sg} {c : Fn} {sd lo up : Int} (hrec : ∀ v lo up τ, KP τ → KP (rec (mvF c v) (1 - sd) lo up τ).2.2) : ∀ (L : List Int) (b f n : Int) (τ : Sg), KP τ → KP (slp rec c sd lo up L b f n τ).2.2.2
  | [], b, f, n, τ, hT => hT
  | v :: vs, b, f, n, τ, hT => by
    have hr := hrec v (-up) (-(max lo b)) τ hT
    unfold slp
    split
    · split
      · exact slp_KP hrec vs _ _ _ _ hr
      · exact slp_KP hrec vs _ _ _ _ hr
    · exact hT
theorem sb_KP {S : Nat → Int} : ∀ (d : Nat) (c : Fn) (sd lo up : Int) (τ : Sg), KP τ → KP (sb S d c sd lo up τ).2.2
  | 0, c, sd, lo, up, τ, h => h
  | d + 1, c, sd, lo, up, τ, h => by
    rw [sb]
    split
    · exact h
    · split
      · exact KP.up (KP.up h (q := 22) _ (by decide)) (q := 19) _ (by decide)
      · have key := slp_KP (rec := sb S d) (c := c) (sd := sd) (lo := lo) (up := up) (fun v lo up τ h => sb_KP d (mvF c v) (1 - sd) lo up τ h) (ordS τ c (MLs c (S 2) (S 3) sd) (keyS S c sd) ((d : Int) + 1)) (-10000) (-1) 1 τ h
        have k2 : KP (endT c ((d : Int) + 1) lo up (keyS S c sd) (slp (sb S d) c sd lo up (ordS τ c (MLs c (S 2) (S 3) sd) (keyS S c sd) ((d : Int) + 1)) (-10000) (-1) 1 τ)) := by
          unfold endT
          refine KP.sto ?_ _ _ _ _ _
          split
          · exact key.cut c _ (by omega)
          · exact key
        exact KP.up k2 (q := 19) _ (by decide)
theorem skp_KP {S : Nat → Int} {c : Fn} {sd : Int} : ∀ (k d : Nat) (num n re : Int) (τ : Sg), KP τ → KP (skp S c sd k d num n re τ).2.2.2
  | 0, d, num, n, re, τ, h => h
  | k + 1, d, num, n, re, τ, h => by
    rw [skp]
    split
    · exact h
    · exact skp_KP k (d + 1) _ _ _ _ (sb_KP d c sd (-9999) 9999 τ h)
theorem skp_rch {S : Nat → Int} {c : Fn} {sd : Int} : ∀ (k d : Nat) (num n re : Int) (τ : Sg), re = (d : Int) - 1 → (d : Int) - 1 ≤ (skp S c sd k d num n re τ).2.2.1 ∧ (skp S c sd k d num n re τ).2.2.1 ≤ (d : Int) - 1 + k
  | 0, d, num, n, re, τ, h => by show (d : Int) - 1 ≤ re ∧ re ≤ (d : Int) - 1 + (0 : Nat); omega
  | k + 1, d, num, n, re, τ, h => by
    rw [skp]
    split
    · show (d : Int) - 1 ≤ re ∧ re ≤ (d : Int) - 1 + ((k + 1 : Nat) : Int); omega
    · have q := skp_rch (S := S) (c := c) (sd := sd) k (d + 1) (sb S d c sd (-9999) 9999 τ).1 (n + (sb S d c sd (-9999) 9999 τ).2.1) (d : Int) (sb S d c sd (-9999) 9999 τ).2.2 (by omega)
      omega
theorem skp_14 {S : Nat → Int} {c : Fn} {sd : Int} {d : Nat} (hd : 1 ≤ d ∧ d ≤ 4) (τ : Sg) : 1 ≤ (skp S c sd d 1 0 0 0 τ).2.2.1 ∧ (skp S c sd d 1 0 0 0 τ).2.2.1 ≤ 4 := by
  obtain ⟨k, rfl⟩ : ∃ k, d = k + 1 := ⟨d - 1, by omega⟩
  rw [skp, if_neg (by decide)]
  have q := skp_rch (S := S) (c := c) (sd := sd) k 2 (sb S 1 c sd (-9999) 9999 τ).1 (0 + (sb S 1 c sd (-9999) 9999 τ).2.1) ((1 : Nat) : Int) (sb S 1 c sd (-9999) 9999 τ).2.2 (by decide)
  exact ⟨Int.le_trans (by decide) q.1, Int.le_trans q.2 (by omega)⟩
theorem REL.clr {σ τ : Sg} (h : REL σ τ) : clrT (tv (mw τ)) = clrT (tv σ) := by
  have e17 : fiF (mw τ 17) 5 = fiF (σ 17) 5 := by
    rcases h.2.2.1 with q | q
    · exact q.2.1
    · show fiF (τ 217) 5 = _; rw [q.2.2.1]
  have e18 : fiF (mw τ 18) 5 = fiF (σ 18) 5 := by
    rcases h.2.2.1 with q | q
    · exact q.2.2.1
    · show fiF (τ 218) 5 = _; rw [q.2.2.2]
  funext r
  by_cases e : (9 ≤ r ∧ r ≤ 14) ∨ r = 17 ∨ r = 18 ∨ r = 19 ∨ r = 22 ∨ r = 23
  · by_cases q23 : r = 23
    · subst q23
      show ups (mw τ 23) 0 0 = ups (σ 23) 0 0
      rw [h.c (by unfold CR; omega)]
    · by_cases q22 : r = 22
      · subst q22
        show ups (mw τ 22) 0 0 = ups (σ 22) 0 0
        rw [h.c (by unfold CR; omega)]
      · by_cases q18 : r = 18
        · subst q18; exact e18
        · by_cases q17 : r = 17
          · subst q17; exact e17
          · unfold clrT setT
            rw [upr_ne _ _ q23, upr_ne _ _ q22, upr_ne _ _ q18, upr_ne _ _ q17, upr_ne _ _ q23, upr_ne _ _ q22, upr_ne _ _ q18, upr_ne _ _ q17, tv_in _ e, tv_in _ e]
            exact h.c (by unfold CR; omega)
  · unfold clrT setT
    rw [upr_ne _ _ (by omega), upr_ne _ _ (by omega), upr_ne _ _ (by omega), upr_ne _ _ (by omega), upr_ne _ _ (by omega), upr_ne _ _ (by omega), upr_ne _ _ (by omega), upr_ne _ _ (by omega)]
    show (if _ then _ else _) = (if _ then _ else _)
    rw [if_neg e, if_neg e]
/-- a search made on both sides -/
theorem REL.srch {σ τ σ' τ' : Sg} (h : REL σ τ) {d : Nat} (hd : 1 ≤ d ∧ d ≤ 4) (hne : MLg0 σ ≠ []) (hs : SRC d σ σ') (hq : SRQ d τ τ') : REL σ' τ' ∧ τ' 232 0 = τ 232 0 := by
  have hN2 := hs.inv hd h.n hne
  obtain ⟨s1, s2, s3, s4⟩ := hs
  obtain ⟨q1, q2, q3, q4, q5⟩ := hq
  rw [h.clr, h.cf, h.e1, h.e4] at q1 q2 q3
  rw [skp_re _ _ _ hd.1 (σ 20 0) 0] at s1 s2 s3
  have g := h.g
  have kp : KP (skp (cfg σ) (σ 1) (σ 4 0) d 1 0 0 0 (clrT (tv σ))).2.2.2 := by
    refine skp_KP _ _ _ _ _ _ ⟨h.z, rfl, rfl, h.n.2.1.1.2⟩
  have r14 := skp_14 (S := cfg σ) (c := σ 1) (sd := σ 4 0) hd (clrT (tv σ))
  have bst := (skp_best (d := d) g.2.2.2.2 g.2.1 g.2.2.1 hne hd (T9_tv.mpr h.n.2.2.1) (TL_tv.mpr h.n.2.2.2.1)).2.2
  rw [← s1] at kp bst
  rw [← s3] at r14
  have etv : tv (mw τ') = tv σ' := q1.trans s1.symm
  have et : ∀ r : Nat, ((9 ≤ r ∧ r ≤ 14) ∨ r = 17 ∨ r = 18 ∨ r = 19 ∨ r = 22 ∨ r = 23) → τ' (200 + r) = σ' r := fun r hr => by
    have q := congrFun etv r
    rw [tv_in _ hr, tv_in _ hr] at q
    exact q
  have kz : Z11 σ' := fun s hs9 => by have q := kp.1 s hs9; rw [tv_in _ (by omega)] at q; exact q
  have k17 : σ' 17 0 = -1 := by have q := kp.2.1; rw [tv_in _ (by omega)] at q; exact q
  have k18 : σ' 18 0 = -1 := by have q := kp.2.2.1; rw [tv_in _ (by omega)] at q; exact q
  have b19 : σ' 19 0 ∈ MLg0 σ := by have q := bst; rw [tv_in _ (by omega)] at q; exact q
  have hb := MLsMB g _ b19
  have e217 : τ' 217 = σ' 17 := et 17 (by omega)
  have e218 : τ' 218 = σ' 18 := et 18 (by omega)
  refine ⟨⟨fun r hr => ?_, ⟨hN2, ?_, kz⟩, Or.inr ⟨r14.1, r14.2, e217, e218⟩, ⟨k17, k18⟩, ?_, ⟨?_, ?_, q4⟩, by omega⟩, by rw [q5 232 (by unfold FRS; omega) (by omega) (by omega)]⟩
  · have h9 := hr
    unfold CR at h9
    by_cases e : (9 ≤ r ∧ r ≤ 14) ∨ r = 19 ∨ r = 22 ∨ r = 23
    · exact et r (by omega)
    · rw [q5 (200 + r) (by unfold FRS; omega) (by omega) (by omega), s4 r (by omega) (by unfold NSR; omega) (by omega)]
      exact h.1 r hr
  · exact h.hl.of6 (fun r hr => s4 r (by omega) (by unfold NSR; omega) (by omega))
  · rw [e217, e218]; exact hN2.2.1.2.2
  · rw [q3, ← s3]
  · rw [q2, ← s2]
theorem nd_ix {L : List Int} (h : L.Nodup) {a b : Int} (a0 : 0 ≤ a) (a1 : a < L.length) (b0 : 0 ≤ b) (b1 : b < L.length) (e : L.getD a.toNat (-1) = L.getD b.toNat (-1)) : a = b := by
  have ha : a.toNat < L.length := by omega
  have hb : b.toNat < L.length := by omega
  rw [List.getD_eq_getElem?_getD, List.getD_eq_getElem?_getD, List.getElem?_eq_getElem ha, List.getElem?_eq_getElem hb] at e
  have e : L[a.toNat] = L[b.toNat] := e
  have := (List.getElem_inj h).mp e
  omega
/-- the same move found and made on both sides -/
theorem REL.go {σ τ σ' τ' : Sg} (h : REL σ τ) {d : Nat} (hd : 1 ≤ d ∧ d ≤ 4) (hne : MLg0 σ ≠ []) {z1 z2 : Int} (hc : cgQ d σ z1 σ') (hr : goQ d τ z2 τ') : z1 = z2 ∧ REL σ' τ' ∧ τ' 232 0 = τ 232 0 := by
  unfold goQ at hr
  simp only [h.e1, h.e2, h.e3, h.e4, h.cf, h.wt] at hr
  have hci : tlF σ = -1 ∨ (0 ≤ tlF σ ∧ tlF σ < 0 + ((MLg0 σ).length : Int)) := chF_in _ _ 0 (-1) 0 (Or.inl rfl) (by decide)
  have r1 : tlF σ ≠ -1 → tlF σ = z2 ∧ ∃ τ9, EQT τ9 τ ∧ PLQ τ9 τ' ((MLg0 σ).getD z2.toNat (-1)) := hr.1
  have r2 : tlF σ = -1 → ∃ τ9, SRQ d τ τ9 ∧ (0 ≤ z2 ∧ z2 < (MLg0 σ).length ∧ (MLg0 σ).getD z2.toNat (-1) = τ9 231 0) ∧ PLQ τ9 τ' ((MLg0 σ).getD z2.toNat (-1)) := hr.2
  by_cases e : tlF σ = -1
  · obtain ⟨τa, hs, hz, hp⟩ := hc.2 e
    obtain ⟨τb, hq, hz2, hp2⟩ := r2 e
    obtain ⟨hR, h232⟩ := h.srch hd hne hs hq
    have ez : z1 = z2 := nd_ix (MLsN h.g) hz.1 hz.2.1 hz2.1 hz2.2.1 (by rw [hz.2.2, hz2.2.2, hR.b2])
    subst ez
    have e1 : ∀ r : Nat, (1 ≤ r ∧ r ≤ 4) → τa r = σ r := fun r hr => hs.2.2.2 r (by omega) (by unfold NSR; omega) (by omega)
    have hv : MV τa ((MLg0 σ).getD z1.toNat (-1)) := by
      unfold MV
      rw [e1 1 (by omega), e1 2 (by omega), e1 3 (by omega), e1 4 (by omega)]
      exact getD_mem hz.1 hz.2.1
    exact ⟨rfl, hR.play hv hp hp2, by rw [hp2.2 232 (by omega), h232]⟩
  · obtain ⟨hz, hp⟩ := hc.1 e
    obtain ⟨hz2, τb, hE, hp2⟩ := r1 e
    have ez : z1 = z2 := by rw [← hz, hz2]
    subst ez
    have hR : REL σ τb := h.ro (fun _ _ _ => rfl) (fun r hr => hE r (by omega))
    exact ⟨rfl, hR.play (getD_mem (L := MLg0 σ) (by omega) (by omega)) hp hp2, by rw [hp2.2 232 (by omega), hE 232 (by omega)]⟩
theorem REL.po {d : Nat} (hd : 1 ≤ d ∧ d ≤ 4) : ∀ (n : Nat) {σ τ σ' τ' : Sg} {z1 z2 : Int}, REL σ τ → cpQ d n σ z1 σ' → poQ d n τ z2 τ' → z1 = z2 ∧ REL σ' τ' ∧ τ' 232 0 = τ 232 0
  | 0, σ, τ, σ', τ', z1, z2, h, hc, hr => by
    obtain ⟨rfl, rfl⟩ := hc
    obtain ⟨rfl, rfl⟩ := hr
    exact ⟨rfl, h, rfl⟩
  | n + 1, σ, τ, σ', τ', z1, z2, h, hc, hr => by
    obtain ⟨c1, c2⟩ := hc
    obtain ⟨r1, r2⟩ := hr
    rw [h.e1, h.e2, h.e3, h.e4] at r1 r2
    by_cases e : MLg0 σ = []
    · obtain ⟨rfl, rfl⟩ := c1 e
      obtain ⟨rfl, rfl⟩ := r1 e
      exact ⟨rfl, h, rfl⟩
    · obtain ⟨x, σa, hx, hc2⟩ := c2 e
      obtain ⟨y, τa, hy, hr2⟩ := r2 e
      obtain ⟨-, hR, e9⟩ := h.go hd e hx hy
      obtain ⟨ez, hR2, e8⟩ := REL.po hd n hR hc2 hr2
      exact ⟨by omega, hR2, by rw [e8, e9]⟩
theorem j_search {σ τ : Sg} (h : REL σ τ) {d : Int} {kc z1 z2 : Int} {σ1 τ1 : Sg} (hc : wpost (fun z σ' => ((1 ≤ d ∧ d ≤ 4) ∧ (MLs (σ 1) (σ 2 0) (σ 3 0) (σ 4 0)) ≠ []) ∧ (skp (cfg σ) (σ 1) (σ 4 0) d.toNat 1 0 0 (σ 20 0) (clrT (tv σ))).1 = z ∧ SRC d.toNat σ σ') (fun E τ => σ = τ ∧ ((E = "java/lang/IllegalArgumentException" ∧ ¬ (1 ≤ d ∧ d ≤ 4)) ∨ (E = "java/lang/IllegalStateException" ∧ (1 ≤ d ∧ d ≤ 4) ∧ (MLs (σ 1) (σ 2 0) (σ 3 0) (σ 4 0)) = []))) cdS kc σ1) (hr : (srPost d τ) z2 τ1) : τ1 232 0 = kc ∧ (kc = 0 → σ1 270 0 = wI z2) ∧ REL σ1 τ1 := by
  obtain ⟨r1, r2, r3⟩ := hr
  refine JT hc cdS_ne (fun z σ2 hp => ?_) (fun E σ2 hp => ?_)
  · obtain ⟨⟨hd, hne⟩, hz, hs⟩ := hp
    obtain ⟨hz2, q1, q2, q3, q4, q5⟩ := r3 hd (by rw [h.e1, h.e2, h.e3, h.e4]; exact hne)
    have h0 : REL σ (th τ 0) := (h.ths (τ' := th τ 0) (n := 0) (fun _ _ => rfl)).2
    have hd2 : 1 ≤ d.toNat ∧ d.toNat ≤ 4 := by omega
    have hR := h0.srch (τ' := τ1) hd2 hne hs ⟨by rw [q1, h.clr, h.cf, h.e1, h.e4, h0.clr, h0.cf, h0.e1, h0.e4], by rw [q2, h.clr, h.cf, h.e1, h.e4, h0.clr, h0.cf, h0.e1, h0.e4], by rw [q3, h.clr, h.cf, h.e1, h.e4, h0.clr, h0.cf, h0.e1, h0.e4], q4, q5⟩
    refine ⟨?_, by rw [hR.2]; rfl, hR.1⟩
    rw [← hz, ← hz2, h.clr, h.cf, h.e1, h.e4, skp_re _ _ _ hd2.1 (σ 20 0) 0]
  · obtain ⟨rfl, hp⟩ := hp
    rcases hp with ⟨rfl, hd⟩ | ⟨rfl, hd, hne⟩
    · obtain ⟨rfl, hE⟩ := r1 hd
      exact h.ths (τ' := τ1) (n := 1) (fun r hr => by rw [← hE])
    · obtain ⟨rfl, hE⟩ := r2 hd (by rw [h.e1, h.e2, h.e3, h.e4]; exact hne)
      exact h.ths (τ' := τ1) (n := 2) (fun r hr => by rw [← hE])
theorem j_go {σ τ : Sg} (h : REL σ τ) {d : Int} {kc z1 z2 : Int} {σ1 τ1 : Sg} (hc : wpost (fun z σ' => ((1 ≤ d ∧ d ≤ 4) ∧ (MLs (σ 1) (σ 2 0) (σ 3 0) (σ 4 0)) ≠ []) ∧ cgQ d.toNat σ z σ') (fun E τ => σ = τ ∧ ((E = "java/lang/IllegalArgumentException" ∧ ¬ (1 ≤ d ∧ d ≤ 4)) ∨ (E = "java/lang/IllegalStateException" ∧ (1 ≤ d ∧ d ≤ 4) ∧ (MLs (σ 1) (σ 2 0) (σ 3 0) (σ 4 0)) = []))) cdS kc σ1) (hr : (fun z σ' => (¬ (1 ≤ d ∧ d ≤ 4) → 0 = z ∧ th τ 1 = σ') ∧ ((1 ≤ d ∧ d ≤ 4) → (MLs (τ 201) (τ 202 0) (τ 203 0) (τ 204 0)) = [] → 0 = z ∧ th τ 2 = σ') ∧ ((1 ≤ d ∧ d ≤ 4) → (MLs (τ 201) (τ 202 0) (τ 203 0) (τ 204 0)) ≠ [] → goQ d.toNat (th τ 0) z σ')) z2 τ1) : τ1 232 0 = kc ∧ (kc = 0 → σ1 270 0 = wI z2) ∧ REL σ1 τ1 := by
  obtain ⟨r1, r2, r3⟩ := hr
  refine JT hc cdS_ne (fun z σ2 hp => ?_) (fun E σ2 hp => ?_)
  · obtain ⟨⟨hd, hne⟩, hs⟩ := hp
    have hq := r3 hd (by rw [h.e1, h.e2, h.e3, h.e4]; exact hne)
    have h0 : REL σ (th τ 0) := (h.ths (τ' := th τ 0) (n := 0) (fun _ _ => rfl)).2
    obtain ⟨a, b, c⟩ := h0.go (d := d.toNat) (by omega) hne hs hq
    exact ⟨a, by rw [c]; rfl, b⟩
  · obtain ⟨rfl, hp⟩ := hp
    rcases hp with ⟨rfl, hd⟩ | ⟨rfl, hd, hne⟩
    · obtain ⟨rfl, hE⟩ := r1 hd
      exact h.ths (τ' := τ1) (n := 1) (fun r hr => by rw [← hE])
    · obtain ⟨rfl, hE⟩ := r2 hd (by rw [h.e1, h.e2, h.e3, h.e4]; exact hne)
      exact h.ths (τ' := τ1) (n := 2) (fun r hr => by rw [← hE])
theorem j_playOut {σ τ : Sg} (h : REL σ τ) {d m : Int} {kc z1 z2 : Int} {σ1 τ1 : Sg} (hc : wpost (fun z σ' => ((1 ≤ d ∧ d ≤ 3) ∧ 1 ≤ m ∧ m ≤ 10) ∧ cpQ d.toNat m.toNat σ z σ') (fun E τ => σ = τ ∧ (E = "java/lang/IllegalArgumentException" ∧ ¬ ((1 ≤ d ∧ d ≤ 3) ∧ 1 ≤ m ∧ m ≤ 10))) cd1 kc σ1) (hr : (fun z σ' => (¬ ((1 ≤ d ∧ d ≤ 3) ∧ 1 ≤ m ∧ m ≤ 10) → 0 = z ∧ th τ 1 = σ') ∧ (((1 ≤ d ∧ d ≤ 3) ∧ 1 ≤ m ∧ m ≤ 10) → poQ d.toNat m.toNat (th τ 0) z σ')) z2 τ1) : τ1 232 0 = kc ∧ (kc = 0 → σ1 270 0 = wI z2) ∧ REL σ1 τ1 := by
  obtain ⟨r1, r3⟩ := hr
  refine JT hc cd1_ne (fun z σ2 hp => ?_) (fun E σ2 hp => ?_)
  · obtain ⟨hd, hs⟩ := hp
    have hq := r3 hd
    have h0 : REL σ (th τ 0) := (h.ths (τ' := th τ 0) (n := 0) (fun _ _ => rfl)).2
    obtain ⟨a, b, c⟩ := REL.po (d := d.toNat) (by omega) m.toNat h0 hs hq
    exact ⟨a, by rw [c]; rfl, b⟩
  · obtain ⟨rfl, rfl, hd⟩ := hp
    obtain ⟨rfl, hE⟩ := r1 hd
    exact h.ths (τ' := τ1) (n := 1) (fun r hr => by rw [← hE])
theorem j_teach {σ τ : Sg} (h : REL σ τ) {i w : Int} {kc z1 z2 : Int} {σ1 τ1 : Sg} (hc : wpost (fun z σ' => ((0 ≤ i ∧ i < ((MLs (σ 1) (σ 2 0) (σ 3 0) (σ 4 0)).length : Int)) ∧ (1 ≤ w ∧ w ≤ 99) ∧ ¬ (FB σ (keyS (cfg σ) (σ 1) (σ 4 0)) ((MLs (σ 1) (σ 2 0) (σ 3 0) (σ 4 0)).getD i.toNat (-1)) (-1) ∧ σ 27 0 = 30)) ∧ σ' 27 0 = z ∧ ∃ pg : Int, (FB σ (keyS (cfg σ) (σ 1) (σ 4 0)) ((MLs (σ 1) (σ 2 0) (σ 3 0) (σ 4 0)).getD i.toNat (-1)) pg ∧ 0 ≤ pg ∨ FB σ (keyS (cfg σ) (σ 1) (σ 4 0)) ((MLs (σ 1) (σ 2 0) (σ 3 0) (σ 4 0)).getD i.toNat (-1)) (-1) ∧ pg = σ 27 0) ∧ wrB σ pg (keyS (cfg σ) (σ 1) (σ 4 0)) ((MLs (σ 1) (σ 2 0) (σ 3 0) (σ 4 0)).getD i.toNat (-1)) w = σ') (fun E τ => σ = τ ∧ ((E = "java/lang/IndexOutOfBoundsException" ∧ ¬ (0 ≤ i ∧ i < ((MLs (σ 1) (σ 2 0) (σ 3 0) (σ 4 0)).length : Int))) ∨ (E = "java/lang/IllegalArgumentException" ∧ (0 ≤ i ∧ i < ((MLs (σ 1) (σ 2 0) (σ 3 0) (σ 4 0)).length : Int)) ∧ ¬ (1 ≤ w ∧ w ≤ 99)) ∨ (E = "java/lang/IllegalStateException" ∧ (0 ≤ i ∧ i < ((MLs (σ 1) (σ 2 0) (σ 3 0) (σ 4 0)).length : Int)) ∧ (1 ≤ w ∧ w ≤ 99) ∧ (FB σ (keyS (cfg σ) (σ 1) (σ 4 0)) ((MLs (σ 1) (σ 2 0) (σ 3 0) (σ 4 0)).getD i.toNat (-1)) (-1) ∧ σ 27 0 = 30)))) cdP kc σ1) (hr : (tePost i w τ) z2 τ1) : τ1 232 0 = kc ∧ (kc = 0 → σ1 270 0 = wI z2) ∧ REL σ1 τ1 := by
  obtain ⟨r1, r2, r3, r4⟩ := hr
  simp only [h.e1, h.e2, h.e3, h.e4, h.e27, h.cf, h.fb] at r1 r2 r3 r4
  refine JT hc cdP_ne (fun z σ2 hp => ?_) (fun E σ2 hp => ?_)
  · obtain ⟨⟨hi, hw, hn⟩, hz, pg, hpg, hs⟩ := hp
    obtain ⟨pg2, τ9, hτ, hpg2, hm, hz2, ho⟩ := r4 hi hw hn
    have q9 := h.ths (n := 0) (τ' := τ9) (fun r hr => hτ r (by omega))
    have h9 := q9.2
    have hBK := h.n.2.2.2.2.1
    have epg : pg = pg2 := by
      rcases hpg with ⟨a, a0⟩ | ⟨a, a0⟩ <;> rcases hpg2 with ⟨b, b0⟩ | ⟨b, b0⟩
      · exact FB_uniq hBK a b
      · have := FB_uniq hBK a b; omega
      · have := FB_uniq hBK a b; omega
      · omega
    subst epg
    have hmem : ((MLs (σ 1) (σ 2 0) (σ 3 0) (σ 4 0)).getD i.toNat (-1)) ∈ MLs (σ 1) (σ 2 0) (σ 3 0) (σ 4 0) := getD_mem hi.1 hi.2
    have hv := MLsMB h.g _ hmem
    have hk := keyS_bd h.sb h.g.2.1 h.g.2.2.1
    have hso : ∀ r : Nat, ¬ (24 ≤ r ∧ r ≤ 27) → σ2 r = σ r := fun r hr => by
      rw [← hs]
      unfold wrB
      rw [upr_ne _ _ (by omega), upr_ne _ _ (by omega), upr_ne _ _ (by omega), upr_ne _ _ (by omega)]
    have he : ∀ r : Nat, CR r → τ1 (200 + r) = σ2 r := fun r hr => by
      rw [show τ1 (200 + r) = mw τ1 r from rfl, hm, ← hs]
      unfold wrB
      have e4 := h9.c (r := 24) (by unfold CR; omega)
      have e5 := h9.c (r := 25) (by unfold CR; omega)
      have e6 := h9.c (r := 26) (by unfold CR; omega)
      have e7 := h9.c (r := 27) (by unfold CR; omega)
      rw [e4, e5, e6, e7]
      by_cases c7 : r = 27
      · rw [c7, upr_eq, upr_eq]
      · rw [upr_ne _ _ c7, upr_ne _ _ c7]
        by_cases c6 : r = 26
        · rw [c6, upr_eq, upr_eq]
        · rw [upr_ne _ _ c6, upr_ne _ _ c6]
          by_cases c5 : r = 25
          · rw [c5, upr_eq, upr_eq]
          · rw [upr_ne _ _ c5, upr_ne _ _ c5]
            by_cases c4 : r = 24
            · rw [c4, upr_eq, upr_eq]
            · rw [upr_ne _ _ c4, upr_ne _ _ c4]; exact h9.c hr
    have hB2 : BKI σ2 := by
      rw [← hs]
      refine BKI_wr hBK hk ⟨by omega, hv.2⟩ ⟨by omega, hw.2⟩ ?_
      rcases hpg with a | ⟨a, a0⟩
      · exact Or.inl a
      · have : ¬ σ 27 0 = 30 := fun q => hn ⟨a, q⟩
        have := hBK.1
        exact Or.inr ⟨a, a0, by omega⟩
    refine ⟨?_, by rw [ho 232 (by omega)]; exact q9.1, h9.upd he ?_ (h.hl.of6 (fun r hr => hso r (by omega))) ?_ (fun r a b => hso r (by omega)) (fun r hr => ho r (by omega))⟩
    · rw [← hz, ← hz2, show τ1 227 = σ2 27 from he 27 (by unfold CR; omega)]
    · obtain ⟨n1, n2, n3, n4, n5, n6, n7⟩ := h.n
      have ec : cfg σ2 = cfg σ := cfg_of (fun r hr => hso r (by omega))
      refine ⟨n1.of (fun r hr => hso r (by omega)), n2.of (fun r hr => hso r (by omega)), n3.of (hso 12 (by omega)), ?_, hB2, ?_, ?_⟩
      · rw [ec]; exact n4.of (fun r hr => hso r (by omega))
      · unfold TRI at *; rw [hso 30 (by omega)]; exact n6
      · rw [hso 2 (by omega), hso 3 (by omega), hso 28 (by omega), hso 29 (by omega), hso 30 (by omega), hso 1 (by omega)]; exact n7
    · unfold Z11; rw [hso 11 (by omega)]; exact h.z
  · obtain ⟨rfl, hp⟩ := hp
    rcases hp with ⟨rfl, hi⟩ | ⟨rfl, hi, hw⟩ | ⟨rfl, hi, hw, hn⟩
    · obtain ⟨rfl, hE⟩ := r1 hi
      exact h.ths (τ' := τ1) (n := 1) (fun r hr => hE r (by omega))
    · obtain ⟨rfl, hE⟩ := r2 hi hw
      exact h.ths (τ' := τ1) (n := 2) (fun r hr => hE r (by omega))
    · obtain ⟨rfl, hE⟩ := r3 hi hw hn
      exact h.ths (τ' := τ1) (n := 3) (fun r hr => hE r (by omega))
