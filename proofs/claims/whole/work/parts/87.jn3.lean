/-! what the two sides answer: weights, slots, moves, the book -/
theorem addT_c {X Y : Sg} {v t : Int} (h : ∀ r : Nat, CR r → Y r = X r) : ∀ r : Nat, CR r → addT Y v t r = addT X v t r := by
  have h28 := h 28 (by unfold CR; omega)
  have h29 := h 29 (by unfold CR; omega)
  have h30 := h 30 (by unfold CR; omega)
  intro r hr
  by_cases e : r = 28 ∨ r = 29 ∨ r = 30
  · unfold addT
    rw [h30]
    by_cases c : 40 ≤ X 30 0
    · rw [if_pos c, if_pos c]
      have s28 : shT Y 28 = shT X 28 := by show shF (Y 28) 39 = shF (X 28) 39; rw [h28]
      have s29 : shT Y 29 = shT X 29 := by show shF (Y 29) 39 = shF (X 29) 39; rw [h29]
      have s30 : shT Y 30 = shT X 30 := by show ups (Y 30) 0 (Y 30 0 - 1) = ups (X 30) 0 (X 30 0 - 1); rw [h30]
      rcases e with rfl | rfl | rfl
      · show ups (shT Y 28) (shT Y 30 0) v = ups (shT X 28) (shT X 30 0) v; rw [s28, s30]
      · show ups (shT Y 29) (shT Y 30 0) t = ups (shT X 29) (shT X 30 0) t; rw [s29, s30]
      · show ups (shT Y 30) 0 (shT Y 30 0 + 1) = ups (shT X 30) 0 (shT X 30 0 + 1); rw [s30]
    · rw [if_neg c, if_neg c]
      rcases e with rfl | rfl | rfl
      · show ups (Y 28) (Y 30 0) v = ups (X 28) (X 30 0) v; rw [h28, h30]
      · show ups (Y 29) (Y 30 0) t = ups (X 29) (X 30 0) t; rw [h29, h30]
      · show ups (Y 30) 0 (Y 30 0 + 1) = ups (X 30) 0 (X 30 0 + 1); rw [h30]
  · rw [addT_o (by omega), addT_o (by omega)]; exact h r hr
theorem mvG_c {X Y : Sg} {v : Int} (h : ∀ r : Nat, CR r → Y r = X r) : ∀ r : Nat, CR r → mvG Y v r = mvG X v r := by
  intro r hr
  have h1 := h 1 (by unfold CR; omega)
  have h4 := h 4 (by unfold CR; omega)
  unfold mvG
  by_cases e4 : r = 4
  · rw [e4, upr_eq, upr_eq, h4]
  · rw [upr_ne _ _ e4, upr_ne _ _ e4]
    by_cases e1 : r = 1
    · rw [e1, upr_eq, upr_eq, h1]
    · rw [upr_ne _ _ e1, upr_ne _ _ e1]; exact h r hr
theorem mvG_oo {X : Sg} {v : Int} {r : Nat} (h : ¬ (r = 1 ∨ r = 4)) : mvG X v r = X r := by
  unfold mvG
  rw [upr_ne _ _ (by omega), upr_ne _ _ (by omega)]
/-- a move made on both sides -/
theorem REL.play {σ τ σ' τ' : Sg} (h : REL σ τ) {v : Int} (hv : MV σ v) (hp : PLC σ σ' v) (hq : PLQ τ τ' v) : REL σ' τ' := by
  obtain ⟨hs, hH⟩ := hp
  have hI := PLC.inv ⟨hs, hH⟩ h.n hv
  obtain ⟨hm, ho⟩ := hq
  have hso : ∀ r : Nat, ¬ (40 ≤ r ∧ r < 46) → ¬ (r = 1 ∨ r = 4 ∨ r = 28 ∨ r = 29 ∨ r = 30) → σ' r = σ r := fun r h1 h2 => by rw [hs r h1, addT_o (by omega)]; exact mvG_oo (by omega)
  refine h.upd (fun r hr => ?_) hI hH ?_ (fun r h1 h2 => hso r (by omega) (by omega)) (fun r hr => ho r (by omega))
  · have h9 := hr
    unfold CR at h9
    rw [hs r (by omega), show τ' (200 + r) = mw τ' r from rfl, hm, h.e1]
    exact addT_c (mvG_c h.1) r hr
  · unfold Z11; rw [hso 11 (by omega) (by omega)]; exact h.z
theorem REL.mwv {σ τ : Sg} (h : REL σ τ) : INV (mw τ) := h.inv
theorem j_weigh {σ τ : Sg} (h : REL σ τ) {a b d : Int} {kc z1 z2 : Int} {σ1 τ1 : Sg} (hc : wpost (fun z σ' => ((0 ≤ a ∧ a ≤ 50) ∧ (0 ≤ b ∧ b ≤ 20) ∧ (0 ≤ d ∧ d ≤ 10)) ∧ evS (cfg (weW σ a b d)) (σ 1) (σ 4 0) = z ∧ weW σ a b d = σ') (fun E τ => σ = τ ∧ (E = "java/lang/IllegalArgumentException" ∧ ¬ ((0 ≤ a ∧ a ≤ 50) ∧ (0 ≤ b ∧ b ≤ 20) ∧ (0 ≤ d ∧ d ≤ 10)))) cd1 kc σ1) (hr : (fun z σ' => (if (0 ≤ a ∧ a ≤ 50) ∧ (0 ≤ b ∧ b ≤ 20) ∧ (0 ≤ d ∧ d ≤ 10) then evS (cfg (mw (clM (weM τ a b d) (τ 209 0)))) (τ 201) (τ 204 0) else 0) = z ∧ (if (0 ≤ a ∧ a ≤ 50) ∧ (0 ≤ b ∧ b ≤ 20) ∧ (0 ≤ d ∧ d ≤ 10) then clM (weM τ a b d) (τ 209 0) else th τ 1) = σ') z2 τ1) : τ1 232 0 = kc ∧ (kc = 0 → σ1 270 0 = wI z2) ∧ REL σ1 τ1 := by
  refine JT hc cd1_ne (fun z σ2 hp => ?_) (fun E σ2 hp => ?_)
  · obtain ⟨hd, hz, hs⟩ := hp
    obtain ⟨hz2, hE⟩ := hr
    rw [if_pos hd] at hz2 hE
    have hR : REL σ2 τ1 := by
      have ht : τ1 = upr (upr (upr (upr (upr (th τ 0) 205 (ups (τ 205) 0 a)) 206 (ups (τ 206) 0 b)) 207 (ups (τ 207) 0 d)) 209 (ups (τ 209) 0 (τ 209 0))) 211 (wpF (τ 211) 64) := hE.symm
      have hs9 : σ2 = upr (upr (upr (upr σ 5 (ups (σ 5) 0 a)) 6 (ups (σ 6) 0 b)) 7 (ups (σ 7) 0 d)) 11 (wpF (σ 11) 64) := hs.symm
      have e9 : upr (upr (upr (upr (th τ 0) 205 (ups (τ 205) 0 a)) 206 (ups (τ 206) 0 b)) 207 (ups (τ 207) 0 d)) 209 (ups (τ 209) 0 (τ 209 0)) = upr (upr (upr (th τ 0) 205 (ups (τ 205) 0 a)) 206 (ups (τ 206) 0 b)) 207 (ups (τ 207) 0 d) := by rw [ups_self]; exact upr_self _ 209
      rw [e9] at ht
      have hz11 : ∀ s : Int, σ2 11 s = 0 := fun s => by rw [hs9]; exact h.z.wipe s
      have hso : ∀ r : Nat, ¬ (r = 5 ∨ r = 6 ∨ r = 7 ∨ r = 11) → σ2 r = σ r := fun r hr => by rw [hs9, upr_ne _ _ (by omega), upr_ne _ _ (by omega), upr_ne _ _ (by omega), upr_ne _ _ (by omega)]
      refine h.upd (fun r hr => ?_) ?_ (h.hl.of6 (fun r hr => hso r (by omega))) (fun s _ => hz11 s) (fun r h1 h2 => hso r (by omega)) (fun r hr => ?_)
      · rw [ht, hs9]
        exact CRw 11 (by rw [h.e11]) (CRw 7 (by rw [h.e7]) (CRw 6 (by rw [h.e6]) (CRw 5 (by rw [h.e5]) (CRth h.1)))) r hr
      · refine h.n.wipe (fun r hr => hso r (by omega)) hz11 (by rw [hso 9 (by omega)]; exact h.n.2.1.1) ?_
        have hS := h.sb
        have hS2 : (3 ≤ σ 2 0 ∧ σ 2 0 ≤ 5 ∧ 3 ≤ σ 3 0 ∧ σ 3 0 ≤ 5) := hS.1
        have hS8 : (σ 8 0 = 0 ∨ σ 8 0 = 1) := hS.2.2.2.2
        show ((3 ≤ σ2 2 0 ∧ σ2 2 0 ≤ 5 ∧ 3 ≤ σ2 3 0 ∧ σ2 3 0 ≤ 5) ∧ (0 ≤ σ2 5 0 ∧ σ2 5 0 ≤ 50) ∧ (0 ≤ σ2 6 0 ∧ σ2 6 0 ≤ 20) ∧ (0 ≤ σ2 7 0 ∧ σ2 7 0 ≤ 10) ∧ (σ2 8 0 = 0 ∨ σ2 8 0 = 1))
        have q5 : σ2 5 0 = a := by rw [hs9]; rfl
        have q6 : σ2 6 0 = b := by rw [hs9]; rfl
        have q7 : σ2 7 0 = d := by rw [hs9]; rfl
        rw [hso 2 (by omega), hso 3 (by omega), hso 8 (by omega), q5, q6, q7]
        exact ⟨hS2, hd.1, hd.2.1, hd.2.2, hS8⟩
      · rw [ht, upr_ne _ _ (by omega), upr_ne _ _ (by omega), upr_ne _ _ (by omega), upr_ne _ _ (by omega), th_o (by omega)]
    refine ⟨?_, by rw [← hE]; rfl, hR⟩
    rw [← hz, ← hz2, hE, hs, hR.cf, h.e1, h.e4]
  · obtain ⟨rfl, rfl, hd⟩ := hp
    simp only [if_neg hd] at hr
    obtain ⟨rfl, hE⟩ := hr
    exact h.ths (τ' := τ1) (n := 1) (fun r hr => by rw [← hE])
theorem j_setSlots {σ τ : Sg} (h : REL σ τ) {n : Int} {kc z1 z2 : Int} {σ1 τ1 : Sg} (hc : wpost (fun z σ' => (0 ≤ n ∧ n ≤ 64) ∧ σ 9 0 = z ∧ upr (upr σ 9 (ups (σ 9) 0 n)) 11 (wpF (σ 11) 64) = σ') (fun E τ => σ = τ ∧ (E = "java/lang/IllegalArgumentException" ∧ ¬ (0 ≤ n ∧ n ≤ 64))) cd1 kc σ1) (hr : (fun z σ' => (if 0 ≤ n ∧ n ≤ 64 then τ 209 0 else 0) = z ∧ (if 0 ≤ n ∧ n ≤ 64 then clM (th τ 0) n else th τ 1) = σ') z2 τ1) : τ1 232 0 = kc ∧ (kc = 0 → σ1 270 0 = wI z2) ∧ REL σ1 τ1 := by
  refine JT hc cd1_ne (fun z σ2 hp => ?_) (fun E σ2 hp => ?_)
  · obtain ⟨hd, rfl, hs⟩ := hp
    simp only [h.e1, h.e2, h.e3, h.e4, h.e5, h.e6, h.e7, h.e8, h.e9, h.e11, h.e22, h.e23, h.e27, h.e30, h.cf, h.te, h.fn, h.wt, h.fb, h.re, h.no, h.b2, if_pos hd] at hr
    obtain ⟨rfl, hE⟩ := hr
    have ht : τ1 = upr (upr (th τ 0) 209 (ups (τ 209) 0 n)) 211 (wpF (τ 211) 64) := hE.symm
    have hz11 : ∀ s : Int, σ2 11 s = 0 := fun s => by rw [← hs]; exact h.z.wipe s
    have hso : ∀ r : Nat, ¬ (r = 9 ∨ r = 11) → σ2 r = σ r := fun r hr => by rw [← hs, upr_ne _ _ (by omega), upr_ne _ _ (by omega)]
    refine ⟨rfl, by rw [ht]; rfl, h.upd (fun r hr => ?_) ?_ (h.hl.of6 (fun r hr => hso r (by omega))) (fun s _ => hz11 s) (fun r h1 h2 => hso r (by omega)) (fun r hr => ?_)⟩
    · rw [ht, ← hs]
      exact CRw 11 (by rw [h.e11]) (CRw 9 (by rw [h.e9]) (CRth h.1)) r hr
    · have ec : cfg σ2 = cfg σ := cfg_of (fun r hr => hso r (by omega))
      have q9 : σ2 9 0 = n := by rw [← hs]; rfl
      exact h.n.wipe (fun r hr => hso r (by omega)) hz11 (by rw [q9]; exact hd) (by rw [ec]; exact h.sb)
    · rw [ht, upr_ne _ _ (by omega), upr_ne _ _ (by omega), th_o (by omega)]
  · obtain ⟨rfl, rfl, hd⟩ := hp
    simp only [h.e1, h.e2, h.e3, h.e4, h.e5, h.e6, h.e7, h.e8, h.e9, h.e11, h.e22, h.e23, h.e27, h.e30, h.cf, h.te, h.fn, h.wt, h.fb, h.re, h.no, h.b2, if_neg hd] at hr
    obtain ⟨rfl, hE⟩ := hr
    exact h.ths (τ' := τ1) (n := 1) (fun r hr => by rw [← hE])
theorem REL.wipe {σ τ σ2 τ1 : Sg} (h : REL σ τ) (hs : upr σ 11 (wpF (σ 11) 64) = σ2) (hE : clM (th τ 0) (τ 209 0) = τ1) : REL σ2 τ1 := by
  have ht : τ1 = upr (upr (th τ 0) 209 (ups (τ 209) 0 (τ 209 0))) 211 (wpF (τ 211) 64) := hE.symm
  have e9 : upr (th τ 0) 209 (ups (τ 209) 0 (τ 209 0)) = th τ 0 := by rw [ups_self]; exact upr_self _ 209
  rw [e9] at ht
  have hz11 : ∀ s : Int, σ2 11 s = 0 := fun s => by rw [← hs]; exact h.z.wipe s
  have hso : ∀ r : Nat, r ≠ 11 → σ2 r = σ r := fun r hr => by rw [← hs, upr_ne _ _ hr]
  refine h.upd (fun r hr => ?_) ?_ (h.hl.of6 (fun r hr => hso r (by omega))) (fun s _ => hz11 s) (fun r h1 h2 => hso r (by omega)) (fun r hr => ?_)
  · rw [ht, ← hs]
    exact CRw 11 (by rw [h.e11]) (CRth h.1) r hr
  · have ec : cfg σ2 = cfg σ := cfg_of (fun r hr => hso r (by omega))
    exact h.n.wipe (fun r hr => hso r (by omega)) hz11 (by rw [hso 9 (by omega)]; exact h.n.2.1.1) (by rw [ec]; exact h.sb)
  · rw [ht, upr_ne _ _ (by omega), th_o (by omega)]
theorem j_empty {σ τ : Sg} (h : REL σ τ) {kc z1 z2 : Int} {σ1 τ1 : Sg} (hc : (fun z σ' => cntE (σ 11) 64 = z ∧ upr σ 11 (wpF (σ 11) 64) = σ') z1 σ1) (hr : (fun z σ' => cntE (τ 211) 64 = z ∧ clM (th τ 0) (τ 209 0) = σ') z2 τ1) : z1 = z2 ∧ REL σ1 τ1 := by
  obtain ⟨rfl, hs⟩ := hc
  obtain ⟨hz, hE⟩ := hr
  rw [h.e11] at hz
  exact ⟨hz, h.wipe hs hE⟩
theorem j_setQuiet {σ τ : Sg} (h : REL σ τ) {n : Int} {kc z1 z2 : Int} {σ1 τ1 : Sg} (hn : n = 0 ∨ n = 1) (hc : (fun z σ' => σ 8 0 = z ∧ (if σ 8 0 = n then σ else upr (upr σ 8 (ups (σ 8) 0 n)) 11 (wpF (σ 11) 64)) = σ') z1 σ1) (hr : (fun z σ' => τ 208 0 = z ∧ (if τ 208 0 = n then upr (th τ 0) 208 (ups (τ 208) 0 n) else clM (upr (th τ 0) 208 (ups (τ 208) 0 n)) (τ 209 0)) = σ') z2 τ1) : z1 = z2 ∧ REL σ1 τ1 := by
  obtain ⟨rfl, hs⟩ := hc
  obtain ⟨hz, hE⟩ := hr
  rw [h.e8] at hz hE
  refine ⟨hz, ?_⟩
  by_cases e : σ 8 0 = n
  · rw [if_pos e] at hs hE
    subst hs
    have e2 : ups (σ 8) 0 n = σ 8 := by rw [← e]; exact ups_self _ 0
    refine (h.ths (τ' := τ1) (n := 0) (fun r hr => ?_)).2
    rw [← hE, e2]
    by_cases q : r = 208
    · rw [q, upr_eq, th_o (by omega), h.e8]
    · rw [upr_ne _ _ q]
  · rw [if_neg e] at hs hE
    have ht : τ1 = upr (upr (upr (th τ 0) 208 (ups (σ 8) 0 n)) 209 (ups (τ 209) 0 (τ 209 0))) 211 (wpF (τ 211) 64) := hE.symm
    have e9 : upr (upr (th τ 0) 208 (ups (σ 8) 0 n)) 209 (ups (τ 209) 0 (τ 209 0)) = upr (th τ 0) 208 (ups (σ 8) 0 n) := by rw [ups_self]; exact upr_self _ 209
    rw [e9] at ht
    have hz11 : ∀ s : Int, σ1 11 s = 0 := fun s => by rw [← hs]; exact h.z.wipe s
    have hso : ∀ r : Nat, ¬ (r = 8 ∨ r = 11) → σ1 r = σ r := fun r hr => by rw [← hs, upr_ne _ _ (by omega), upr_ne _ _ (by omega)]
    refine h.upd (fun r hr => ?_) ?_ (h.hl.of6 (fun r hr => hso r (by omega))) (fun s _ => hz11 s) (fun r h1 h2 => hso r (by omega)) (fun r hr => ?_)
    · rw [ht, ← hs]
      exact CRw 11 (by rw [h.e11]) (CRw 8 rfl (CRth h.1)) r hr
    · refine h.n.wipe (fun r hr => hso r (by omega)) hz11 (by rw [hso 9 (by omega)]; exact h.n.2.1.1) ?_
      have hS := h.sb
      have hS2 : (3 ≤ σ 2 0 ∧ σ 2 0 ≤ 5 ∧ 3 ≤ σ 3 0 ∧ σ 3 0 ≤ 5) := hS.1
      have hS5 : (0 ≤ σ 5 0 ∧ σ 5 0 ≤ 50) ∧ (0 ≤ σ 6 0 ∧ σ 6 0 ≤ 20) ∧ (0 ≤ σ 7 0 ∧ σ 7 0 ≤ 10) := ⟨hS.2.1, hS.2.2.1, hS.2.2.2.1⟩
      show ((3 ≤ σ1 2 0 ∧ σ1 2 0 ≤ 5 ∧ 3 ≤ σ1 3 0 ∧ σ1 3 0 ≤ 5) ∧ (0 ≤ σ1 5 0 ∧ σ1 5 0 ≤ 50) ∧ (0 ≤ σ1 6 0 ∧ σ1 6 0 ≤ 20) ∧ (0 ≤ σ1 7 0 ∧ σ1 7 0 ≤ 10) ∧ (σ1 8 0 = 0 ∨ σ1 8 0 = 1))
      have q8 : σ1 8 0 = n := by rw [← hs]; rfl
      rw [hso 2 (by omega), hso 3 (by omega), hso 5 (by omega), hso 6 (by omega), hso 7 (by omega), q8]
      exact ⟨hS2, hS5.1, hS5.2.1, hS5.2.2, hn⟩
    · rw [ht, upr_ne _ _ (by omega), upr_ne _ _ (by omega), th_o (by omega)]
theorem j_back {σ τ : Sg} (h : REL σ τ) {kc z1 z2 : Int} {σ1 τ1 : Sg} (hc : wpost (fun z σ' => σ 30 0 ≠ 0 ∧ σ 30 0 - 1 = z ∧ (∀ r : Nat, ¬ (40 ≤ r ∧ r < 46) → σ' r = upr (unG σ (σ 28 (σ 30 0 - 1)) (σ 29 (σ 30 0 - 1))) 30 (ups (σ 30) 0 (σ 30 0 - 1)) r) ∧ HLM σ') (fun E τ => σ = τ ∧ (E = "java/lang/IllegalStateException" ∧ σ 30 0 = 0)) cd1 kc σ1) (hr : (baPost τ) z2 τ1) : τ1 232 0 = kc ∧ (kc = 0 → σ1 270 0 = wI z2) ∧ REL σ1 τ1 := by
  obtain ⟨r1, r2⟩ := hr
  simp only [h.e30] at r1 r2
  refine JT hc cd1_ne (fun z σ2 hp => ?_) (fun E σ2 hp => ?_)
  · obtain ⟨hd, rfl, hs, hH⟩ := hp
    obtain ⟨rfl, hE⟩ := r2 hd
    have hs : ∀ r : Nat, ¬ (40 ≤ r ∧ r < 46) → σ2 r = upr (upr (upr σ 1 (unF (σ 1) (σ 28 (σ 30 0 - 1)) (σ 29 (σ 30 0 - 1)))) 4 (ups (σ 4) 0 (1 - σ 4 0))) 30 (ups (σ 30) 0 (σ 30 0 - 1)) r := hs
    have hso : ∀ r : Nat, ¬ (40 ≤ r ∧ r < 46) → ¬ (r = 1 ∨ r = 4 ∨ r = 30) → σ2 r = σ r := fun r h1 h2 => by rw [hs r h1, upr_ne _ _ (by omega), upr_ne _ _ (by omega), upr_ne _ _ (by omega)]
    have ht : τ1 = upr (upr (upr (th τ 0) 230 (ups (σ 30) 0 (σ 30 0 - 1))) 201 (unF (τ 201) (τ 228 (σ 30 0 - 1)) (τ 229 (σ 30 0 - 1)))) 204 (ups (τ 204) 0 (1 - τ 204 0)) := hE.symm
    refine ⟨rfl, by rw [ht]; rfl, h.upd (fun r hr => ?_) ?_ hH ?_ (fun r h1 h2 => hso r (by omega) (by omega)) (fun r hr => ?_)⟩
    · have h9 := hr
      unfold CR at h9
      by_cases q30 : r = 30
      · rw [q30, hs 30 (by omega), ht]; rfl
      · rw [hs r (by omega), ht, upr_ne (q := r) _ _ q30]
        by_cases q4 : r = 4
        · rw [q4, upr_eq, upr_eq]; show ups (τ 204) 0 (1 - τ 204 0) = ups (σ 4) 0 (1 - σ 4 0); rw [h.e4]
        · rw [upr_ne (r := 204) _ _ (by omega), upr_ne (r := 4) _ _ q4]
          by_cases q1 : r = 1
          · rw [q1, upr_eq, upr_eq]; show unF (τ 201) (τ 228 (σ 30 0 - 1)) (τ 229 (σ 30 0 - 1)) = unF (σ 1) (σ 28 (σ 30 0 - 1)) (σ 29 (σ 30 0 - 1)); rw [h.e1, h.e28, h.e29]
          · rw [upr_ne (r := 201) _ _ (by omega), upr_ne (r := 1) _ _ q1, upr_ne (r := 230) _ _ (by omega), th_o (by omega)]
            exact h.1 r hr
    · exact h.n.back hd (fun r hr => hso r (by omega) (by omega)) (hs 1 (by omega)) (by rw [hs 4 (by omega)]; rfl) (by rw [hs 30 (by omega)]; rfl)
    · unfold Z11; rw [hso 11 (by omega) (by omega)]; exact h.z
    · rw [ht, upr_ne _ _ (by omega), upr_ne _ _ (by omega), upr_ne _ _ (by omega), th_o (by omega)]
  · obtain ⟨rfl, rfl, hd⟩ := hp
    obtain ⟨rfl, hE⟩ := r1 hd
    exact h.ths (τ' := τ1) (n := 1) (fun r hr => by rw [← hE])
theorem j_play {σ τ : Sg} (h : REL σ τ) {i : Int} {kc z1 z2 : Int} {σ1 τ1 : Sg} (hc : wpost (fun z σ' => (0 ≤ i ∧ i < ((MLs (σ 1) (σ 2 0) (σ 3 0) (σ 4 0)).length : Int)) ∧ σ 1 (((MLs (σ 1) (σ 2 0) (σ 3 0) (σ 4 0)).getD i.toNat (-1)) % 100) = z ∧ PLC σ σ' ((MLs (σ 1) (σ 2 0) (σ 3 0) (σ 4 0)).getD i.toNat (-1))) (fun E τ => σ = τ ∧ (E = "java/lang/IndexOutOfBoundsException" ∧ ¬ (0 ≤ i ∧ i < ((MLs (σ 1) (σ 2 0) (σ 3 0) (σ 4 0)).length : Int)))) cd1 kc σ1) (hr : (plPost i τ) z2 τ1) : τ1 232 0 = kc ∧ (kc = 0 → σ1 270 0 = wI z2) ∧ REL σ1 τ1 := by
  obtain ⟨r1, r2⟩ := hr
  simp only [h.e1, h.e2, h.e3, h.e4] at r1 r2
  refine JT hc cd1_ne (fun z σ2 hp => ?_) (fun E σ2 hp => ?_)
  · obtain ⟨hd, rfl, hp⟩ := hp
    obtain ⟨τ9, hτ, hz, hm, ho⟩ := r2 hd
    have h9 : REL σ τ9 := (h.ths (n := 0) (τ' := τ9) (fun r hr => hτ r (by omega))).2
    have e9 : τ9 232 0 = 0 := (h.ths (n := 0) (τ' := τ9) (fun r hr => hτ r (by omega))).1
    have hv : MV σ ((MLs (σ 1) (σ 2 0) (σ 3 0) (σ 4 0)).getD i.toNat (-1)) := getD_mem hd.1 hd.2
    refine ⟨hz, by rw [ho 232 (by omega)]; exact e9, h9.play hv hp ⟨?_, ho⟩⟩
    rw [hm, ← hz, h9.e1]
  · obtain ⟨rfl, rfl, hd⟩ := hp
    obtain ⟨rfl, hE⟩ := r1 hd
    exact h.ths (τ' := τ1) (n := 1) (fun r hr => hE r (by omega))
