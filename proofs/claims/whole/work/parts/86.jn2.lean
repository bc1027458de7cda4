/-! what the two sides answer: the methods that change the state -/
theorem Z11.wipe {σ : Sg} (h : Z11 σ) : ∀ s : Int, wpF (σ 11) 64 s = 0 := by
  intro s
  unfold wpF
  by_cases e : 0 ≤ s ∧ s < 64
  · rw [if_pos e]
  · rw [if_neg e]; exact h s (by omega)
theorem HLM.of6 {a b : Sg} (h : HLM a) (e : ∀ r : Nat, ((1 ≤ r ∧ r ≤ 4) ∨ (40 ≤ r ∧ r < 46)) → b r = a r) : HLM b := by
  unfold HLM LM at *
  rw [e 1 (by omega), e 2 (by omega), e 3 (by omega), e 4 (by omega), e (40 + 6 * 0 + 4) (by omega), e (40 + 6 * 0) (by omega), e (40 + 6 * 0 + 1) (by omega)]
  exact h
theorem CRw {σ τ : Sg} (q : Nat) {f g : Fn} (hfg : f = g) (h : ∀ r : Nat, CR r → τ (200 + r) = σ r) : ∀ r : Nat, CR r → upr τ (200 + q) f (200 + r) = upr σ q g r := by
  intro r hr
  by_cases e : r = q
  · subst e; rw [upr_eq, upr_eq, hfg]
  · rw [upr_ne _ _ (by omega), upr_ne _ _ e]; exact h r hr
theorem CRth {σ τ : Sg} {n : Int} (h : ∀ r : Nat, CR r → τ (200 + r) = σ r) : ∀ r : Nat, CR r → th τ n (200 + r) = σ r := by
  intro r hr
  have h9 := hr
  unfold CR at h9
  rw [th_o (by omega)]; exact h r hr
theorem INV.anew {a b : Sg} (h : INV a) (e : ∀ r : Nat, (r = 9 ∨ r = 10 ∨ (12 ≤ r ∧ r ≤ 14) ∨ r = 17 ∨ r = 18 ∨ (24 ≤ r ∧ r ≤ 27)) → b r = a r) (h11 : (b 11 = a 11 ∧ cfg b = cfg a) ∨ ∀ s : Int, b 11 s = 0) (hB : BG b) (hS : SB (cfg b)) (hs : b 4 0 = 0 ∨ b 4 0 = 1) (hd : BDG (b 2 0 * b 3 0) (b 1)) (h30 : b 30 0 = 0) : INV b := by
  obtain ⟨h1, h2, h3, h4, h5, h6, h7⟩ := h
  refine ⟨⟨hB, hd.1, hs, hd.2.1, hS⟩, ?_, h3.of (e 12 (by omega)), ?_, ?_, ⟨by omega, by omega⟩, ?_⟩
  · obtain ⟨t1, t2, t3⟩ := h2
    unfold TI
    rw [e 9 (by omega), e 10 (by omega), e 12 (by omega), e 13 (by omega), e 14 (by omega), e 17 (by omega), e 18 (by omega)]
    refine ⟨t1, fun s => ⟨?_, (t2 s).2⟩, t3⟩
    rcases h11 with q | q
    · rw [q.1]; exact (t2 s).1
    · rw [q s]; omega
  · rcases h11 with q | q
    · rw [q.2]
      refine h4.of (fun r hr => ?_)
      rcases hr with rfl | rfl | rfl
      · exact e 10 (by omega)
      · exact q.1
      · exact e 14 (by omega)
    · intro s hs9
      have := q s
      omega
  · unfold BKI at *; rw [e 24 (by omega), e 25 (by omega), e 26 (by omega), e 27 (by omega)]; exact h5
  · rw [h30]; exact hd
theorem INV.wipe {a b : Sg} (h : INV a) (e : ∀ r : Nat, ((1 ≤ r ∧ r ≤ 4) ∨ r = 10 ∨ (12 ≤ r ∧ r ≤ 14) ∨ r = 17 ∨ r = 18 ∨ (24 ≤ r ∧ r ≤ 30)) → b r = a r) (h11 : ∀ s : Int, b 11 s = 0) (h9 : 0 ≤ b 9 0 ∧ b 9 0 ≤ 64) (hS : SB (cfg b)) : INV b := by
  obtain ⟨h1, h2, h3, h4, h5, h6, h7⟩ := h
  obtain ⟨g1, g2, g3, g4, g5⟩ := h1
  refine ⟨⟨?_, ?_, ?_, ?_, hS⟩, ?_, h3.of (e 12 (by omega)), fun s hs9 => by have := h11 s; omega, ?_, ?_, ?_⟩
  · unfold BG at *; rw [e 2 (by omega), e 3 (by omega)]; exact g1
  · rw [e 1 (by omega)]; exact g2
  · rw [e 4 (by omega)]; exact g3
  · rw [e 1 (by omega)]; exact g4
  · obtain ⟨t1, t2, t3⟩ := h2
    unfold TI
    rw [e 10 (by omega), e 12 (by omega), e 13 (by omega), e 14 (by omega), e 17 (by omega), e 18 (by omega)]
    refine ⟨h9, fun s => ⟨?_, (t2 s).2⟩, t3⟩
    rw [h11 s]; omega
  · unfold BKI at *; rw [e 24 (by omega), e 25 (by omega), e 26 (by omega), e 27 (by omega)]; exact h5
  · unfold TRI at *; rw [e 30 (by omega)]; exact h6
  · rw [e 2 (by omega), e 3 (by omega), e 28 (by omega), e 29 (by omega), e 30 (by omega), e 1 (by omega)]; exact h7
theorem INV.back {a b : Sg} (h : INV a) (h0 : a 30 0 ≠ 0) (e : ∀ r : Nat, ((2 ≤ r ∧ r ≤ 14 ∧ r ≠ 4) ∨ r = 17 ∨ r = 18 ∨ (24 ≤ r ∧ r ≤ 29)) → b r = a r) (e1 : b 1 = unF (a 1) (a 28 (a 30 0 - 1)) (a 29 (a 30 0 - 1))) (e4 : b 4 0 = 1 - a 4 0) (e30 : b 30 0 = a 30 0 - 1) : INV b := by
  obtain ⟨h1, h2, h3, h4, h5, h6, h7⟩ := h
  obtain ⟨g1, g2, g3, g4, g5⟩ := h1
  have hc : cfg b = cfg a := cfg_of (fun r hr => e r (by omega))
  obtain ⟨n, hn⟩ : ∃ n : Nat, (a 30 0).toNat = n + 1 := ⟨(a 30 0).toNat - 1, by have := h6.1; omega⟩
  have hn2 : a 30 0 - 1 = (n : Int) := by have := h6.1; omega
  rw [hn] at h7
  have hT := h7.2.2
  rw [← hn2, ← e1] at hT
  have hd := hT.bd
  refine ⟨⟨?_, hd.1, ?_, hd.2.1, by rw [hc]; exact g5⟩, h2.of (fun r hr => e r (by omega)), h3.of (e 12 (by omega)), ?_, ?_, ?_, ?_⟩
  · unfold BG at *; rw [e 2 (by omega), e 3 (by omega)]; exact g1
  · rw [e4]; omega
  · rw [hc]; exact h4.of (fun r hr => e r (by omega))
  · unfold BKI at *; rw [e 24 (by omega), e 25 (by omega), e 26 (by omega), e 27 (by omega)]; exact h5
  · unfold TRI at *; rw [e30]; omega
  · rw [e 2 (by omega), e 3 (by omega), e 28 (by omega), e 29 (by omega), e30, hn2]; exact hT
theorem cnt_cut {c : Fn} {v : Int} (hv : v ≠ 0) {m : Nat} (hc : ∀ i : Int, (m : Int) ≤ i → c i = 0) : ∀ n : Nat, m ≤ n → cntF c v n = cntF c v m
  | 0, h => by rw [show m = 0 by omega]
  | n + 1, h => by
    by_cases e : m = n + 1
    · rw [e]
    · show cntF c v n + (if c (n : Int) = v then 1 else 0) = _
      rw [if_neg (by rw [hc n (by omega)]; omega), cnt_cut hv hc n (by omega)]
      omega
theorem REL.cnt {σ τ : Sg} (h : REL σ τ) {v : Int} (hv : v ≠ 0) : cntF (σ 1) v 25 = cntF (σ 1) v (σ 2 0 * σ 3 0).toNat :=
  cnt_cut hv (fun i hi => h.bd.2.2 i (by have := h.wh; omega)) 25 (by have := h.wh; omega)
theorem REL.sb {σ τ : Sg} (h : REL σ τ) : SB (cfg σ) := h.g.2.2.2.2
theorem layG_0o {wh k : Int} (hk : 0 ≤ k ∧ k ≤ wh) {i : Int} (hi : i < 0 ∨ wh ≤ i) : layG wh (fun _ => 0) k i = 0 := by
  unfold layG
  rw [if_neg (by omega), if_neg (by omega)]
theorem C3_bd2 {a b n : Int} (h : C3f a b n) : (0 ≤ n * a ∧ 2 * (n * a) ≤ a * b) ∧ 9 ≤ a * b ∧ a * b ≤ 25 := by
  rcases C3_cases h with ⟨rfl, rfl | rfl | rfl, rfl | rfl | rfl⟩ | ⟨rfl, rfl, rfl⟩ <;> omega
theorem BKI_wr {σ : Sg} (h : BKI σ) {pg key v wt : Int} (hk : 0 ≤ key ∧ key < 4000000000000000000) (hv : -1 ≤ v ∧ v < 2500) (hw : 0 ≤ wt ∧ wt ≤ 99) (hpg : (FB σ key v pg ∧ 0 ≤ pg) ∨ (FB σ key v (-1) ∧ pg = σ 27 0 ∧ σ 27 0 < 30)) : BKI (wrB σ pg key v wt) := by
  obtain ⟨h1, h2, h3⟩ := h
  have e24 : wrB σ pg key v wt 24 = ups (σ 24) pg key := rfl
  have e25 : wrB σ pg key v wt 25 = ups (σ 25) pg v := rfl
  have e26 : wrB σ pg key v wt 26 = ups (σ 26) pg wt := rfl
  have e27 : wrB σ pg key v wt 27 0 = max (σ 27 0) (pg + 1) := rfl
  have hpg2 : 0 ≤ pg ∧ pg < 30 ∧ pg ≤ σ 27 0 ∧ ∀ k : Int, 0 ≤ k → k < σ 27 0 → k ≠ pg → ¬ (σ 24 k = key ∧ σ 25 k = v) := by
    rcases hpg with ⟨q, q0⟩ | ⟨q, rfl, q3⟩
    · rcases q with ⟨a, b, c, d⟩ | ⟨a, -⟩
      · exact ⟨a, by omega, by omega, fun k k0 k1 kn hh => kn (h3 k pg k0 k1 a b (hh.1.trans c.symm) (hh.2.trans d.symm))⟩
      · omega
    · rcases q with ⟨a, -⟩ | ⟨-, q⟩
      · omega
      · exact ⟨by omega, by omega, by omega, fun k k0 k1 _ => q k k0 k1⟩
  obtain ⟨p0, p1, p2, p3⟩ := hpg2
  unfold BKI
  rw [e24, e25, e26, e27]
  refine ⟨by omega, fun k => ⟨?_, ?_, ?_⟩, fun i k i0 i1 k0 k1 ha hb => ?_⟩
  · by_cases e : k = pg
    · rw [e, ups_eq]; exact hk
    · rw [ups_ne _ _ e]; exact (h2 k).1
  · by_cases e : k = pg
    · rw [e, ups_eq]; exact hv
    · rw [ups_ne _ _ e]; exact (h2 k).2.1
  · by_cases e : k = pg
    · rw [e, ups_eq]; exact hw
    · rw [ups_ne _ _ e]; exact (h2 k).2.2
  · by_cases ei : i = pg
    · by_cases ek : k = pg
      · omega
      · rw [ei, ups_eq, ups_ne _ _ ek] at ha hb
        exact absurd ⟨ha.symm, hb.symm⟩ (p3 k k0 (by omega) ek)
    · by_cases ek : k = pg
      · rw [ek, ups_eq, ups_ne _ _ ei] at ha hb
        exact absurd ⟨ha, hb⟩ (p3 i i0 (by omega) ei)
      · rw [ups_ne _ _ ei, ups_ne _ _ ek] at ha hb
        exact h3 i k i0 (by omega) k0 (by omega) ha hb
theorem FB_uniq {σ : Sg} (h : BKI σ) {key v a b : Int} (ha : FB σ key v a) (hb : FB σ key v b) : a = b := by
  rcases ha with ⟨a0, a1, a2, a3⟩ | ⟨a0, a1⟩ <;> rcases hb with ⟨b0, b1, b2, b3⟩ | ⟨b0, b1⟩
  · exact h.2.2 a b a0 a1 b0 b1 (a2.trans b2.symm) (a3.trans b3.symm)
  · exact absurd ⟨a2, a3⟩ (b1 a a0 a1)
  · exact absurd ⟨b2, b3⟩ (a1 b b0 b1)
  · omega
theorem j_setSide {σ τ : Sg} (h : REL σ τ) {n : Int} {kc z1 z2 : Int} {σ1 τ1 : Sg} (hc : wpost (fun z σ' => (0 ≤ n ∧ n ≤ 1) ∧ σ 4 0 = z ∧ SAN (upr σ 4 (ups (σ 4) 0 n)) σ') (fun E τ => σ = τ ∧ (E = "java/lang/IllegalArgumentException" ∧ ¬ (0 ≤ n ∧ n ≤ 1))) cd1 kc σ1) (hr : (fun z σ' => (if 0 ≤ n ∧ n ≤ 1 then τ 204 0 else 0) = z ∧ (if 0 ≤ n ∧ n ≤ 1 then upr (upr (th τ 0) 204 (ups (τ 204) 0 n)) 230 (ups (τ 230) 0 0) else th τ 1) = σ') z2 τ1) : τ1 232 0 = kc ∧ (kc = 0 → σ1 270 0 = wI z2) ∧ REL σ1 τ1 := by
  refine JT hc cd1_ne (fun z σ2 hp => ?_) (fun E σ2 hp => ?_)
  · obtain ⟨hd, rfl, hs, hH⟩ := hp
    simp only [h.e1, h.e2, h.e3, h.e4, h.e5, h.e6, h.e7, h.e8, h.e9, h.e11, h.e22, h.e23, h.e27, h.e30, h.cf, h.te, h.fn, h.wt, h.fb, h.re, h.no, h.b2, if_pos hd] at hr
    obtain ⟨rfl, hE⟩ := hr
    have hs : ∀ r : Nat, ¬ (40 ≤ r ∧ r < 46) → σ2 r = upr (upr σ 4 (ups (σ 4) 0 n)) 30 (ups (σ 30) 0 0) r := hs
    refine ⟨rfl, by rw [← hE]; rfl, h.upd (fun r hr => ?_) ?_ hH ?_ (fun r h1 h2 => ?_) (fun r hr => ?_)⟩
    · rw [← hE, hs r (by unfold CR at hr; omega)]
      exact CRw 30 rfl (CRw 4 rfl (CRth h.1)) r hr
    · have e1 : σ2 1 = σ 1 := hs 1 (by omega)
      have e2 : σ2 2 = σ 2 := hs 2 (by omega)
      have e3 : σ2 3 = σ 3 := hs 3 (by omega)
      have e4 : σ2 4 0 = n := by rw [hs 4 (by omega)]; rfl
      have e30 : σ2 30 0 = 0 := by rw [hs 30 (by omega)]; rfl
      have ec : cfg σ2 = cfg σ := cfg_of (fun r hr => by rw [hs r (by omega), upr_ne _ _ (by omega), upr_ne _ _ (by omega)])
      refine h.n.anew (fun r hr => by rw [hs r (by omega), upr_ne _ _ (by omega), upr_ne _ _ (by omega)]) (Or.inl ⟨hs 11 (by omega), ec⟩) ?_ (by rw [ec]; exact h.sb) (by omega) (by rw [e1, e2, e3]; exact h.bd) e30
      have hB := h.g.1
      unfold BG at *; rw [e2, e3]; exact hB
    · have e : σ2 11 = σ 11 := hs 11 (by omega)
      unfold Z11; rw [e]; exact h.z
    · rw [hs r (by omega), upr_ne _ _ (by omega), upr_ne _ _ (by omega)]
    · rw [← hE, upr_ne _ _ (by omega), upr_ne _ _ (by omega), th_o (by omega)]
  · obtain ⟨rfl, rfl, hd⟩ := hp
    simp only [h.e1, h.e2, h.e3, h.e4, h.e5, h.e6, h.e7, h.e8, h.e9, h.e11, h.e22, h.e23, h.e27, h.e30, h.cf, h.te, h.fn, h.wt, h.fb, h.re, h.no, h.b2, if_neg hd] at hr
    obtain ⟨rfl, hE⟩ := hr
    exact h.ths (τ' := τ1) (n := 1) (fun r hr => by rw [← hE])
theorem j_put {σ τ : Sg} (h : REL σ τ) {f v : Int} {kc z1 z2 : Int} {σ1 τ1 : Sg} (hc : wpost (fun z σ' => ((0 ≤ f ∧ f < σ 2 0 * σ 3 0) ∧ (0 ≤ v ∧ v ≤ 2) ∧ ¬ (v ≠ 0 ∧ v ≠ σ 1 f ∧ 6 ≤ cntF (σ 1) v 25)) ∧ σ 1 f = z ∧ SAN (upr σ 1 (ups (σ 1) f v)) σ') (fun E τ => σ = τ ∧ ((E = "java/lang/IndexOutOfBoundsException" ∧ ¬ (0 ≤ f ∧ f < σ 2 0 * σ 3 0)) ∨ (E = "java/lang/IllegalArgumentException" ∧ (0 ≤ f ∧ f < σ 2 0 * σ 3 0) ∧ ¬ (0 ≤ v ∧ v ≤ 2)) ∨ (E = "java/lang/IllegalStateException" ∧ (0 ≤ f ∧ f < σ 2 0 * σ 3 0) ∧ (0 ≤ v ∧ v ≤ 2) ∧ (v ≠ 0 ∧ v ≠ σ 1 f ∧ 6 ≤ cntF (σ 1) v 25)))) cdP kc σ1) (hr : (puPost f v τ) z2 τ1) : τ1 232 0 = kc ∧ (kc = 0 → σ1 270 0 = wI z2) ∧ REL σ1 τ1 := by
  obtain ⟨r1, r2, r3, r4⟩ := hr
  simp only [h.e1, h.e2, h.e3, h.e4, h.e5, h.e6, h.e7, h.e8, h.e9, h.e11, h.e22, h.e23, h.e27, h.e30, h.cf, h.te, h.fn, h.wt, h.fb, h.re, h.no, h.b2] at r1 r2 r3 r4
  refine JT hc cdP_ne (fun z σ2 hp => ?_) (fun E σ2 hp => ?_)
  · obtain ⟨⟨hf, hv, hn⟩, rfl, hs, hH⟩ := hp
    have hn2 : ¬ (v ≠ 0 ∧ σ 1 f ≠ v ∧ cntF (σ 1) v (σ 2 0 * σ 3 0).toNat = 6) := fun q => hn ⟨q.1, fun e => q.2.1 e.symm, by rw [h.cnt q.1, q.2.2]; omega⟩
    obtain ⟨rfl, hE⟩ := r4 hf hv hn2
    have hs : ∀ r : Nat, ¬ (40 ≤ r ∧ r < 46) → σ2 r = upr (upr σ 1 (ups (σ 1) f v)) 30 (ups (σ 30) 0 0) r := hs
    have hw := h.wh
    refine ⟨rfl, by rw [← hE]; rfl, h.upd (fun r hr => ?_) ?_ hH ?_ (fun r h1 h2 => ?_) (fun r hr => ?_)⟩
    · rw [← hE, hs r (by unfold CR at hr; omega)]
      exact CRw 30 rfl (CRw 1 rfl (CRth h.1)) r hr
    · have e1 : σ2 1 = ups (σ 1) f v := hs 1 (by omega)
      have e2 : σ2 2 = σ 2 := hs 2 (by omega)
      have e3 : σ2 3 = σ 3 := hs 3 (by omega)
      have e4 : σ2 4 = σ 4 := hs 4 (by omega)
      have e30 : σ2 30 0 = 0 := by rw [hs 30 (by omega)]; rfl
      have ec : cfg σ2 = cfg σ := cfg_of (fun r hr => by rw [hs r (by omega), upr_ne _ _ (by omega), upr_ne _ _ (by omega)])
      have hd := h.bd
      refine h.n.anew (fun r hr => by rw [hs r (by omega), upr_ne _ _ (by omega), upr_ne _ _ (by omega)]) (Or.inl ⟨hs 11 (by omega), ec⟩) ?_ (by rw [ec]; exact h.sb) (by rw [e4]; exact h.g.2.2.1) ?_ e30
      · have hB := h.g.1
        unfold BG at *; rw [e2, e3]; exact hB
      · rw [e1, e2, e3]
        exact ⟨BC_ups hd.1 hv, PW_ups hd.2.1 ⟨by omega, by omega⟩ hn, fun i hi => by rw [ups_ne _ _ (by omega)]; exact hd.2.2 i hi⟩
    · have e : σ2 11 = σ 11 := hs 11 (by omega)
      unfold Z11; rw [e]; exact h.z
    · rw [hs r (by omega), upr_ne _ _ (by omega), upr_ne _ _ (by omega)]
    · rw [← hE, upr_ne _ _ (by omega), upr_ne _ _ (by omega), th_o (by omega)]
  · obtain ⟨rfl, hp⟩ := hp
    rcases hp with ⟨rfl, hf⟩ | ⟨rfl, hf, hv⟩ | ⟨rfl, hf, hv, hn⟩
    · obtain ⟨rfl, hE⟩ := r1 hf
      exact h.ths (τ' := τ1) (n := 1) (fun r hr => by rw [← hE])
    · obtain ⟨rfl, hE⟩ := r2 hf hv
      exact h.ths (τ' := τ1) (n := 2) (fun r hr => by rw [← hE])
    · have h6 : cntF (σ 1) v 25 ≤ 6 := by
        have hp := h.bd.2.1
        have : v = 1 ∨ v = 2 := by omega
        rcases this with rfl | rfl
        · exact hp.1
        · exact hp.2
      have hn2 : v ≠ 0 ∧ σ 1 f ≠ v ∧ cntF (σ 1) v (σ 2 0 * σ 3 0).toNat = 6 := ⟨hn.1, fun e => hn.2.1 e.symm, by rw [← h.cnt hn.1]; omega⟩
      obtain ⟨rfl, hE⟩ := r3 hf hv hn2
      exact h.ths (τ' := τ1) (n := 3) (fun r hr => by rw [← hE])
theorem j_setUp {σ τ : Sg} (h : REL σ τ) {a b n : Int} {kc z1 z2 : Int} {σ1 τ1 : Sg} (hc : wpost (fun z σ' => C3f a b n ∧ 2 * n * a = z ∧ SAN (suW σ a b n) σ') (fun E τ => σ = τ ∧ (E = "java/lang/IllegalArgumentException" ∧ ¬ C3f a b n)) cd1 kc σ1) (hr : (suPost a b n τ) z2 τ1) : τ1 232 0 = kc ∧ (kc = 0 → σ1 270 0 = wI z2) ∧ REL σ1 τ1 := by
  obtain ⟨r1, r2⟩ := hr
  have hiff : C3f a b n ↔ ((3 ≤ a ∧ a ≤ 5) ∧ (3 ≤ b ∧ b ≤ 5) ∧ 1 ≤ n ∧ n < b ∧ 2 * n < b ∧ n * a ≤ 6) := by
    unfold C3f
    constructor
    · rintro ⟨x1, x2, x3, x4, x5⟩; exact ⟨x1, x2, x3, by omega, x4, x5⟩
    · rintro ⟨x1, x2, x3, -, x4, x5⟩; exact ⟨x1, x2, x3, x4, x5⟩
  refine JT hc cd1_ne (fun z σ2 hp => ?_) (fun E σ2 hp => ?_)
  · obtain ⟨hd, rfl, hs, hH⟩ := hp
    obtain ⟨rfl, hE⟩ := r2 (hiff.mp hd)
    have hb3 := C3_bd2 hd
    have hlay : layN (a * b) (n * a) (σ 1) 25 = layG (a * b) (fun _ => 0) (n * a) := lay_same h.hcz (by omega) (by omega)
    have hs : ∀ r : Nat, ¬ (40 ≤ r ∧ r < 46) → σ2 r = upr (suW σ a b n) 30 (ups (σ 30) 0 0) r := hs
    have hso : ∀ r : Nat, ¬ (40 ≤ r ∧ r < 46) → r ≠ 1 → r ≠ 2 → r ≠ 3 → r ≠ 4 → r ≠ 11 → r ≠ 30 → σ2 r = σ r := fun r g0 g1 g2 g3 g4 g5 g6 => by
      rw [hs r g0, upr_ne _ _ g6]
      unfold suW laC
      rw [upr_ne _ _ g5, upr_ne _ _ g1, upr_ne _ _ g4, upr_ne _ _ g3, upr_ne _ _ g2]
    have e1 : σ2 1 = layG (a * b) (fun _ => 0) (n * a) := by rw [hs 1 (by omega)]; exact hlay
    have e2 : σ2 2 = ups (σ 2) 0 a := hs 2 (by omega)
    have e3 : σ2 3 = ups (σ 3) 0 b := hs 3 (by omega)
    have e4 : σ2 4 = ups (σ 4) 0 0 := hs 4 (by omega)
    have e11 : σ2 11 = wpF (σ 11) 64 := hs 11 (by omega)
    have e30 : σ2 30 = ups (σ 30) 0 0 := hs 30 (by omega)
    have e20 : σ2 2 0 = a := by rw [e2]; rfl
    have e30' : σ2 3 0 = b := by rw [e3]; rfl
    have hz : ∀ s : Int, σ2 11 s = 0 := fun s => by rw [e11]; exact h.z.wipe s
    have ho : ∀ r : Nat, (r = 217 ∨ r = 218 ∨ r = 219 ∨ r = 220 ∨ r = 221 ∨ r = 231 ∨ (205 ≤ r ∧ r ≤ 208) ∨ r = 210 ∨ (212 ≤ r ∧ r ≤ 214) ∨ (222 ≤ r ∧ r ≤ 229)) → τ1 r = τ r := fun r hr => by
      rw [← hE]
      unfold laR clM lay0
      rw [upr_ne _ _ (show r ≠ 211 by omega), upr_ne _ _ (show r ≠ 209 by omega), upr_ne _ _ (show r ≠ 230 by omega), upr_ne _ _ (show r ≠ 201 by omega), upr_ne _ _ (show r ≠ 204 by omega), upr_ne _ _ (show r ≠ 201 by omega), upr_ne _ _ (show r ≠ 203 by omega), upr_ne _ _ (show r ≠ 202 by omega), th_o (by omega)]
    refine ⟨rfl, by rw [← hE]; rfl, h.upd (fun r hr => ?_) ?_ hH (fun s _ => hz s) (fun r h1 h2 => hso r (by omega) (by omega) (by omega) (by omega) (by omega) (by omega) (by omega)) (fun r hr => ho r (by omega))⟩
    · have hr9 := hr
      unfold CR at hr
      have hcs : r = 1 ∨ r = 2 ∨ r = 3 ∨ r = 4 ∨ r = 9 ∨ r = 11 ∨ r = 30 ∨ (r ≠ 1 ∧ r ≠ 2 ∧ r ≠ 3 ∧ r ≠ 4 ∧ r ≠ 9 ∧ r ≠ 11 ∧ r ≠ 30) := by omega
      rcases hcs with rfl | rfl | rfl | rfl | rfl | rfl | rfl | hn
      · rw [e1, ← hE]; rfl
      · rw [e2, ← hE, ← h.e2]; rfl
      · rw [e3, ← hE, ← h.e3]; rfl
      · rw [e4, ← hE, ← h.e4]; rfl
      · rw [hso 9 (by omega) (by omega) (by omega) (by omega) (by omega) (by omega) (by omega), ← hE, ← h.e9]
        exact ups_self (τ 209) 0
      · rw [e11, ← hE, ← h.e11]; rfl
      · rw [e30, ← hE, ← h.e30]; rfl
      · rw [hso r (by omega) hn.1 hn.2.1 hn.2.2.1 hn.2.2.2.1 hn.2.2.2.2.2.1 hn.2.2.2.2.2.2, ho (200 + r) (by omega)]
        exact h.1 r hr9
    · have hS := h.sb
      have q5 : σ2 5 = σ 5 := hso 5 (by omega) (by omega) (by omega) (by omega) (by omega) (by omega) (by omega)
      have q6 : σ2 6 = σ 6 := hso 6 (by omega) (by omega) (by omega) (by omega) (by omega) (by omega) (by omega)
      have q7 : σ2 7 = σ 7 := hso 7 (by omega) (by omega) (by omega) (by omega) (by omega) (by omega) (by omega)
      have q8 : σ2 8 = σ 8 := hso 8 (by omega) (by omega) (by omega) (by omega) (by omega) (by omega) (by omega)
      have hd1 := hd.1
      have hd2 := hd.2.1
      refine h.n.anew (fun r hr => hso r (by omega) (by omega) (by omega) (by omega) (by omega) (by omega) (by omega)) (Or.inr hz) ?_ ?_ (by rw [e4]; exact Or.inl rfl) ?_ (by rw [e30]; rfl)
      · unfold BG; rw [e20, e30']; exact ⟨hd1.1, hd1.2, hd2.1, hd2.2⟩
      · have hS5 : (0 ≤ σ 5 0 ∧ σ 5 0 ≤ 50) ∧ (0 ≤ σ 6 0 ∧ σ 6 0 ≤ 20) ∧ (0 ≤ σ 7 0 ∧ σ 7 0 ≤ 10) ∧ (σ 8 0 = 0 ∨ σ 8 0 = 1) := hS.2
        show ((3 ≤ σ2 2 0 ∧ σ2 2 0 ≤ 5 ∧ 3 ≤ σ2 3 0 ∧ σ2 3 0 ≤ 5) ∧ (0 ≤ σ2 5 0 ∧ σ2 5 0 ≤ 50) ∧ (0 ≤ σ2 6 0 ∧ σ2 6 0 ≤ 20) ∧ (0 ≤ σ2 7 0 ∧ σ2 7 0 ≤ 10) ∧ (σ2 8 0 = 0 ∨ σ2 8 0 = 1))
        rw [e20, e30', q5, q6, q7, q8]
        exact ⟨⟨hd1.1, hd1.2, hd2.1, hd2.2⟩, hS5⟩
      · rw [e20, e30', e1]
        exact ⟨layG_BC (fun _ => by omega), lay_PW hd, fun i hi => layG_0o (by omega) hi⟩
  · obtain ⟨rfl, rfl, hd⟩ := hp
    obtain ⟨rfl, hE⟩ := r1 (fun q => hd (hiff.mpr q))
    exact h.ths (τ' := τ1) (n := 1) (fun r hr => by rw [← hE])
