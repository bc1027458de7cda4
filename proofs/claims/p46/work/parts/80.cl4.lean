/-! the class's public methods that throw -/
theorem PW_ups {c : Fn} {f v : Int} (h : PW c) (hf : 0 ≤ f ∧ f < 25) (hv : ¬ (v ≠ 0 ∧ v ≠ c f ∧ 6 ≤ cntF c v 25)) : PW (ups c f v) := by
  obtain ⟨p1, p2⟩ := h
  have e1 := cntF_ups c 1 f v 25 (by omega) (by omega)
  have e2 := cntF_ups c 2 f v 25 (by omega) (by omega)
  have hv2 : v = 0 ∨ v = c f ∨ cntF c v 25 < 6 := by omega
  have q1 : v = 1 → c f = 1 ∨ cntF c 1 25 < 6 := fun e => by rw [e] at hv2; omega
  have q2 : v = 2 → c f = 2 ∨ cntF c 2 25 < 6 := fun e => by rw [e] at hv2; omega
  unfold PW
  rw [e1, e2]
  constructor
  · by_cases a : v = 1
    · have := q1 a
      rw [if_pos a]; split <;> omega
    · rw [if_neg a]; split <;> omega
  · by_cases a : v = 2
    · have := q2 a
      rw [if_pos a]; split <;> omega
    · rw [if_neg a]; split <;> omega
theorem BC_ups {c : Fn} {f v : Int} (h : BC c) (hv : 0 ≤ v ∧ v ≤ 2) : BC (ups c f v) := by
  intro x
  unfold ups
  split
  · exact hv
  · exact h x
def C3f (a b n : Int) : Prop := (3 ≤ a ∧ a ≤ 5) ∧ (3 ≤ b ∧ b ≤ 5) ∧ 1 ≤ n ∧ 2 * n < b ∧ n * a ≤ 6
theorem C3_cases {a b n : Int} (h : C3f a b n) : (n = 1 ∧ (a = 3 ∨ a = 4 ∨ a = 5) ∧ (b = 3 ∨ b = 4 ∨ b = 5)) ∨ (n = 2 ∧ a = 3 ∧ b = 5) := by
  obtain ⟨ha, hb, h1, h2, h3⟩ := h
  obtain rfl | rfl : n = 1 ∨ n = 2 := by omega
  · left; omega
  · right; omega
theorem lay_PW {a b n : Int} (h : C3f a b n) : PW (layG (a * b) (fun _ => 0) (n * a)) := by
  rcases C3_cases h with ⟨rfl, rfl | rfl | rfl, rfl | rfl | rfl⟩ | ⟨rfl, rfl, rfl⟩ <;> (unfold PW; decide +kernel)
theorem layG_BC {wh k : Int} {c : Fn} (h : BC c) : BC (layG wh c k) := by
  intro x
  unfold layG
  have := h x
  split
  · omega
  · split <;> omega
theorem C3_bd {a b n : Int} (h : C3f a b n) : (0 ≤ n * a ∧ 2 * (n * a) ≤ a * b) ∧ a * b ≤ 25 ∧ 9 ≤ a * b := by
  rcases C3_cases h with ⟨rfl, rfl | rfl | rfl, rfl | rfl | rfl⟩ | ⟨rfl, rfl, rfl⟩ <;> decide
theorem C3_iff (a b n : Int) : ((3 ≤ a ∧ a ≤ 5) ∧ (3 ≤ b ∧ b ≤ 5) ∧ 1 ≤ n ∧ n < b ∧ 2 * n < b ∧ n * a ≤ 6) ↔ C3f a b n := ⟨fun h => ⟨h.1, h.2.1, h.2.2.1, h.2.2.2.2.1, h.2.2.2.2.2⟩, fun h => ⟨h.1, h.2.1, h.2.2.1, by have := h.2.2.1; have := h.2.2.2.1; omega, h.2.2.2.1, h.2.2.2.2⟩⟩
def suW (σ : Sg) (a b n : Int) : Sg := upr (laC σ a b (n * a)) 11 (wpF (σ 11) 64)
def weW (σ : Sg) (a b d : Int) : Sg := upr (upr (upr (upr σ 5 (ups (σ 5) 0 a)) 6 (ups (σ 6) 0 b)) 7 (ups (σ 7) 0 d)) 11 (wpF (σ 11) 64)
theorem weW_o {σ : Sg} {a b d : Int} {r : Nat} (h : ¬ (r = 5 ∨ r = 6 ∨ r = 7 ∨ r = 11)) : weW σ a b d r = σ r := by
  unfold weW
  rw [upr_ne _ _ (by omega), upr_ne _ _ (by omega), upr_ne _ _ (by omega), upr_ne _ _ (by omega)]
theorem GI_wt {σ : Sg} {a b d : Int} (h : GI σ) (ha : 0 ≤ a ∧ a ≤ 50) (hb : 0 ≤ b ∧ b ≤ 20) (hd : 0 ≤ d ∧ d ≤ 10) : GI (weW σ a b d) := by
  obtain ⟨g1, g2, g3, g4, g5⟩ := h
  obtain ⟨s1, s2, s3, s4, s5⟩ := g5
  exact ⟨g1, g2, g3, g4, ⟨s1, ha, hb, hd, s5⟩⟩
theorem SRC.inv {d : Nat} {σ τ : Sg} (h : SRC d σ τ) (hd : 1 ≤ d ∧ d ≤ 4) (hN : INV σ) (hne : MLg0 σ ≠ []) : INV τ := by
  obtain ⟨ht, -, -, hf⟩ := h
  obtain ⟨h1, h2, h3, h4, h5, h6, h7⟩ := hN
  have e : ∀ r : Nat, ((1 ≤ r ∧ r ≤ 8) ∨ (24 ≤ r ∧ r ≤ 30)) → τ r = σ r := fun r hr => hf r (by omega) (by unfold NSR; omega) (by omega)
  have hc : cfg τ = cfg σ := cfg_of (fun r hr => e r (by omega))
  have b := skp_best (d := d) h1.2.2.2.2 h1.2.1 h1.2.2.1 hne hd (T9_tv.mpr h3) (TL_tv.mpr h4)
  have bt : TI (skp (cfg σ) (σ 1) (σ 4 0) d 1 0 0 0 (clrT (tv σ))).2.2.2 := skp_TI h1.2.2.2.2 h1.2.1 h1.2.2.1 d 1 0 0 0 _ (by omega) (by rw [← clrT_tv]; exact TI_tv.mpr h2.clr)
  rw [skp_re _ _ _ hd.1 (σ 20 0) 0] at ht
  refine ⟨h1.of (fun r hr => e r (by omega)), TI_tv.mp (by rw [ht]; exact bt), T9_tv.mp (by rw [ht]; exact b.1), ?_, ?_, ?_, ?_⟩
  · rw [hc]; exact TL_tv.mp (by rw [ht]; exact b.2.1)
  · unfold BKI at *; rw [e 24 (by omega), e 25 (by omega), e 26 (by omega), e 27 (by omega)]; exact h5
  · unfold TRI at *; rw [e 30 (by omega)]; exact h6
  · rw [e 2 (by omega), e 3 (by omega), e 28 (by omega), e 29 (by omega), e 30 (by omega), e 1 (by omega)]; exact h7
theorem PLC.inv {τ σ' : Sg} {v : Int} (h : PLC τ σ' v) (hN : INV τ) (hv : MV τ v) : INV σ' := (hN.play hv).of (fun r hr => h.1 r (by omega))
theorem cgQ_ok {d : Nat} {σ σ' : Sg} {z : Int} (h : cgQ d σ z σ') (hd : 1 ≤ d ∧ d ≤ 4) (hN : INV σ) (hne : MLg0 σ ≠ []) : INV σ' ∧ HLM σ' := by
  have hci : tlF σ = -1 ∨ (0 ≤ tlF σ ∧ tlF σ < 0 + ((MLg0 σ).length : Int)) := chF_in _ _ 0 (-1) 0 (Or.inl rfl) (by decide)
  by_cases e : tlF σ = -1
  · obtain ⟨τ, hs, hz, hp⟩ := h.2 e
    have hN2 := hs.inv hd hN hne
    have e1 : ∀ r : Nat, (1 ≤ r ∧ r ≤ 4) → τ r = σ r := fun r hr => hs.2.2.2 r (by omega) (by unfold NSR; omega) (by omega)
    refine ⟨hp.inv hN2 ?_, hp.2⟩
    unfold MV
    rw [e1 1 (by omega), e1 2 (by omega), e1 3 (by omega), e1 4 (by omega)]
    exact getD_mem hz.1 hz.2.1
  · obtain ⟨hz, hp⟩ := h.1 e
    exact ⟨hp.inv hN (getD_mem (L := MLg0 σ) (by omega) (by omega)), hp.2⟩
def cpQ (d : Nat) : Nat → Sg → Int → Sg → Prop
  | 0, σ, z, σ' => 0 = z ∧ σ = σ'
  | n + 1, σ, z, σ' => (MLg0 σ = [] → 0 = z ∧ σ = σ') ∧ (MLg0 σ ≠ [] → ∃ x τ, cgQ d σ x τ ∧ cpQ d n τ (z - 1) σ')
set_option maxRecDepth 100000 in
set_option maxHeartbeats 4000000 in
theorem c_X11_at (l : Launch) (hst : l.stackTraces = false) (D : va_G) (ad : Nat → Nat) (G : Nat → Nat) (ids : List Nat) (hI : ∀ k, k < 81 → k ∈ ids) (σ : Sg) (sa : Nat → Nat) (n : Int) (hG : GI σ) (hn : IR n) : VME l yX11_at cX11_at 2 (some .int) 7 [.ref (ad 0), .int (iI n)] D ad G ids σ sa (QI D ad G ids (fun z σ' => (0 ≤ n ∧ n < σ 2 0 * σ 3 0) ∧ σ 1 n = z ∧ σ = σ')) (fun E τ => σ = τ ∧ (E = "java/lang/IndexOutOfBoundsException" ∧ ¬ (0 ≤ n ∧ n < σ 2 0 * σ 3 0))) := by
  have hB := hG.1
  have w1 := hB.1
  have w2 := hB.2.1
  have h1 := hB.2.2.1
  have h2 := hB.2.2.2
  have wb := wh_bd w1 w2 h1 h2
  have hs := hG.2.2.1
  unfold IR at hn
  refine x_enterV (by decide) (Nat.le_of_ble_eq_true rfl) ?_
  intro pp ee ss mm args below meth cq C hnx hTX hTZ hr ls hl hM
  have hM := hM.e
  have hl : lv_has ls 2 [(0, .ref (ad 0)), (1, .int (iI n))] := hl
  refine lv_aload_n C.1 C.2.1 dX11_at_0 rfl (lv_at hl 0 rfl) ?_
  refine g_X11_0 C hM.x (hI 0 (by decide)) wf_X11_13 dX11_at_1 ?_
  refine lv_iload_n C.1 C.2.1 dX11_at_4 rfl (lv_at hl 1 rfl) ?_
  refine x_ciA (fun q h => Or.inr h) (x_runVA (As := [.int (iI n)]) (rest := []) C (⟨by show _ ≤ (7 : Nat); omega, by show _ ≤ (40 * 7 : Nat); omega⟩) cw_X11_108 (MET.toA (c_X0_isField l D ad G ids hI σ n ⟨by omega, by omega⟩ hG.1)) hM.x (hI 1 (by decide)) (cx_1 ad G _) rfl rfl rfl rfl (Nat.le_of_ble_eq_true rfl) hl.1 dX11_at_5 ⟨Nat.le_of_ble_eq_true rfl, Nat.le_of_ble_eq_true rfl⟩) hM (fun r5 s5 H1 lc1 hp hM => ?_)
  obtain ⟨hbs5, rfl⟩ := hp
  obtain ⟨ts5, ks5⟩ := ite01 hbs5
  refine x_if_ne C ⟨by omega, by omega⟩ (tgt := 21) dX11_at_8 (by decide) (fun c8 => ?_) (fun c8 => ?_)
  · refine lv_aload_n C.1 C.2.1 dX11_at_21 rfl (lv_at hl 0 rfl) ?_
    refine g_X11_0 C hM.x (hI 0 (by decide)) wf_X11_13 dX11_at_22 ?_
    refine lv_iload_n C.1 C.2.1 dX11_at_25 rfl (lv_at hl 1 rfl) ?_
    refine x_ciA (fun q h => Or.inr h) (x_runVA (As := [.int (iI n)]) (rest := []) C (⟨by show _ ≤ (7 : Nat); omega, by show _ ≤ (40 * 7 : Nat); omega⟩) cw_X11_119 (MET.toA (c_X0_pawnAt l D ad G ids hI σ n ⟨by omega, by omega⟩)) hM.x (hI 1 (by decide)) (cx_1 ad G _) rfl rfl rfl rfl (Nat.le_of_ble_eq_true rfl) hl.1 dX11_at_26 ⟨Nat.le_of_ble_eq_true rfl, Nat.le_of_ble_eq_true rfl⟩) hM (fun r26 s26 H1 lc1 hp hM => ?_)
    obtain ⟨rfl, rfl⟩ := hp
    rw [if_pos (show 0 ≤ n ∧ n < 25 by omega)]
    refine W.widen (k := 1) (n := 6) (Nat.le_of_ble_eq_true rfl) (Nat.le_of_ble_eq_true rfl) ?_
    refine vx_ret ?_
    exact x_iret C hr hM.x ⟨by omega, rfl, rfl⟩ dX11_at_29
  · exact x_throw (text := "there is no such field") C hst hnx hTX hTZ hM hl.1 (hat_OOB C.2.2.2.2.1 hTX) kx_OOB ix_OOB ot_OOB (by decide +kernel) (List.mem_of_getElem? (i := 2) rfl) (Nat.le_of_ble_eq_true rfl) dX11_at_11 dX11_at_14 dX11_at_15 dX11_at_17 dX11_at_20 ⟨Nat.le_of_ble_eq_true rfl, Nat.le_of_ble_eq_true rfl, Nat.le_of_ble_eq_true rfl, Nat.le_of_ble_eq_true rfl⟩ ⟨rfl, rfl, show ¬ (0 ≤ n ∧ n < σ 2 0 * σ 3 0) by omega⟩
set_option maxRecDepth 100000 in
set_option maxHeartbeats 4000000 in
theorem c_X11_from (l : Launch) (hst : l.stackTraces = false) (D : va_G) (ad : Nat → Nat) (G : Nat → Nat) (ids : List Nat) (hI : ∀ k, k < 81 → k ∈ ids) (σ : Sg) (sa : Nat → Nat) (i : Int) (hG : GI σ) (hL : LM σ 0 (MLs (σ 1) (σ 2 0) (σ 3 0) (σ 4 0)) (σ 1)) (hi : IR i) : VME l yX11_from cX11_from 2 (some .int) 7 [.ref (ad 0), .int (iI i)] D ad G ids σ sa (QI D ad G ids (fun z σ' => (0 ≤ i ∧ i < ((MLs (σ 1) (σ 2 0) (σ 3 0) (σ 4 0)).length : Int)) ∧ ((MLs (σ 1) (σ 2 0) (σ 3 0) (σ 4 0)).getD i.toNat (-1)) / 100 = z ∧ σ = σ')) (fun E τ => σ = τ ∧ (E = "java/lang/IndexOutOfBoundsException" ∧ ¬ (0 ≤ i ∧ i < ((MLs (σ 1) (σ 2 0) (σ 3 0) (σ 4 0)).length : Int)))) := by
  have h18 : (MLs (σ 1) (σ 2 0) (σ 3 0) (σ 4 0)).length ≤ 18 := MLs18 hG
  have hMB : ∀ v, v ∈ (MLs (σ 1) (σ 2 0) (σ 3 0) (σ 4 0)) → 0 ≤ v ∧ v < 2500 := MLsMB hG
  unfold IR at hi
  refine x_enterV (by decide) (Nat.le_of_ble_eq_true rfl) ?_
  intro pp ee ss mm args below meth cq C hnx hTX hTZ hr ls hl hM
  have hM := hM.e
  have hl : lv_has ls 2 [(0, .ref (ad 0)), (1, .int (iI i))] := hl
  refine lv_aload_n C.1 C.2.1 dX11_from_0 rfl (lv_at hl 0 rfl) ?_
  refine g_X11_1 C hM.x (hI 0 (by decide)) wf_X11_22 dX11_from_1 ?_
  refine lv_iload_n C.1 C.2.1 dX11_from_4 rfl (lv_at hl 1 rfl) ?_
  refine x_ciA (fun q h => Or.inr h) (x_runVA (As := [.int (iI i)]) (rest := []) C (⟨by show _ ≤ (7 : Nat); omega, by show _ ≤ (40 * 7 : Nat); omega⟩) cw_X11_145 (MET.toA (c_X5_has l D ad G ids hI σ 0 (MLs (σ 1) (σ 2 0) (σ 3 0) (σ 4 0)) (σ 1) i (by decide) hL h18 ⟨by omega, by omega⟩)) hM.x (hI _ (by omega)) (cx_lo ad G _ (by decide)) rfl rfl rfl rfl (Nat.le_of_ble_eq_true rfl) hl.1 dX11_from_5 ⟨Nat.le_of_ble_eq_true rfl, Nat.le_of_ble_eq_true rfl⟩) hM (fun r5 s5 H1 lc1 hp hM => ?_)
  obtain ⟨hbs5, rfl⟩ := hp
  obtain ⟨ts5, ks5⟩ := ite01 hbs5
  refine x_if_ne C ⟨by omega, by omega⟩ (tgt := 21) dX11_from_8 (by decide) (fun c8 => ?_) (fun c8 => ?_)
  · have hmi : ((MLs (σ 1) (σ 2 0) (σ 3 0) (σ 4 0)).getD i.toNat (-1)) ∈ (MLs (σ 1) (σ 2 0) (σ 3 0) (σ 4 0)) := getD_mem (by omega) (by omega)
    have hmb : 0 ≤ ((MLs (σ 1) (σ 2 0) (σ 3 0) (σ 4 0)).getD i.toNat (-1)) ∧ ((MLs (σ 1) (σ 2 0) (σ 3 0) (σ 4 0)).getD i.toNat (-1)) < 2500 := hMB _ hmi
    refine lv_aload_n C.1 C.2.1 dX11_from_21 rfl (lv_at hl 0 rfl) ?_
    refine g_X11_1 C hM.x (hI 0 (by decide)) wf_X11_22 dX11_from_22 ?_
    refine lv_iload_n C.1 C.2.1 dX11_from_25 rfl (lv_at hl 1 rfl) ?_
    refine x_ciA (fun q h => Or.inr h) (x_runVA (As := [.int (iI i)]) (rest := []) C (⟨by show _ ≤ (7 : Nat); omega, by show _ ≤ (40 * 7 : Nat); omega⟩) cw_X11_205 (MET.toA (c_X5_moveAt l D ad G ids hI σ 0 (MLs (σ 1) (σ 2 0) (σ 3 0) (σ 4 0)) (σ 1) i (by decide) hL h18 ⟨by omega, by omega⟩)) hM.x (hI _ (by omega)) (cx_lo ad G _ (by decide)) rfl rfl rfl rfl (Nat.le_of_ble_eq_true rfl) hl.1 dX11_from_26 ⟨Nat.le_of_ble_eq_true rfl, Nat.le_of_ble_eq_true rfl⟩) hM (fun r26 s26 H1 lc1 hp hM => ?_)
    obtain ⟨rfl, rfl⟩ := hp
    rw [if_pos (show 0 ≤ i by omega)]
    refine x_ciA (fun q h => Or.inr h) (x_runSA (As := [.int (iI ((MLs (σ 1) (σ 2 0) (σ 3 0) (σ 4 0)).getD (i).toNat (-1)))]) (rest := []) C (⟨by show _ ≤ (7 : Nat); omega, by show _ ≤ (40 * 7 : Nat); omega⟩) cw_X11_208 (MET.toA (c_X11_fromOf l D ad G ids hI σ ((MLs (σ 1) (σ 2 0) (σ 3 0) (σ 4 0)).getD (i).toNat (-1)) (by unfold IR; omega))) hM.x rfl rfl (Nat.le_of_ble_eq_true rfl) hl.1 dX11_from_29 ⟨Nat.le_of_ble_eq_true rfl, Nat.le_of_ble_eq_true rfl⟩) hM (fun r29 s29 H1 lc1 hp hM => ?_)
    obtain ⟨rfl, rfl⟩ := hp
    rw [if_neg (show ¬ ((MLs (σ 1) (σ 2 0) (σ 3 0) (σ 4 0)).getD i.toNat (-1)) < 0 by omega)]
    refine W.widen (k := 1) (n := 6) (Nat.le_of_ble_eq_true rfl) (Nat.le_of_ble_eq_true rfl) ?_
    refine vx_ret ?_
    exact x_iret C hr hM.x ⟨by omega, rfl, rfl⟩ dX11_from_32
  · exact x_throw (text := "there is no such move") C hst hnx hTX hTZ hM hl.1 (hat_OOB C.2.2.2.2.1 hTX) kx_OOB ix_OOB ot_OOB (by decide +kernel) (List.mem_of_getElem? (i := 6) rfl) (Nat.le_of_ble_eq_true rfl) dX11_from_11 dX11_from_14 dX11_from_15 dX11_from_17 dX11_from_20 ⟨Nat.le_of_ble_eq_true rfl, Nat.le_of_ble_eq_true rfl, Nat.le_of_ble_eq_true rfl, Nat.le_of_ble_eq_true rfl⟩ ⟨rfl, rfl, show ¬ (0 ≤ i ∧ i < ((MLs (σ 1) (σ 2 0) (σ 3 0) (σ 4 0)).length : Int)) by omega⟩
set_option maxRecDepth 100000 in
set_option maxHeartbeats 4000000 in
theorem c_X11_to (l : Launch) (hst : l.stackTraces = false) (D : va_G) (ad : Nat → Nat) (G : Nat → Nat) (ids : List Nat) (hI : ∀ k, k < 81 → k ∈ ids) (σ : Sg) (sa : Nat → Nat) (i : Int) (hG : GI σ) (hL : LM σ 0 (MLs (σ 1) (σ 2 0) (σ 3 0) (σ 4 0)) (σ 1)) (hi : IR i) : VME l yX11_to cX11_to 2 (some .int) 7 [.ref (ad 0), .int (iI i)] D ad G ids σ sa (QI D ad G ids (fun z σ' => (0 ≤ i ∧ i < ((MLs (σ 1) (σ 2 0) (σ 3 0) (σ 4 0)).length : Int)) ∧ ((MLs (σ 1) (σ 2 0) (σ 3 0) (σ 4 0)).getD i.toNat (-1)) % 100 = z ∧ σ = σ')) (fun E τ => σ = τ ∧ (E = "java/lang/IndexOutOfBoundsException" ∧ ¬ (0 ≤ i ∧ i < ((MLs (σ 1) (σ 2 0) (σ 3 0) (σ 4 0)).length : Int)))) := by
  have h18 : (MLs (σ 1) (σ 2 0) (σ 3 0) (σ 4 0)).length ≤ 18 := MLs18 hG
  have hMB : ∀ v, v ∈ (MLs (σ 1) (σ 2 0) (σ 3 0) (σ 4 0)) → 0 ≤ v ∧ v < 2500 := MLsMB hG
  unfold IR at hi
  refine x_enterV (by decide) (Nat.le_of_ble_eq_true rfl) ?_
  intro pp ee ss mm args below meth cq C hnx hTX hTZ hr ls hl hM
  have hM := hM.e
  have hl : lv_has ls 2 [(0, .ref (ad 0)), (1, .int (iI i))] := hl
  refine lv_aload_n C.1 C.2.1 dX11_to_0 rfl (lv_at hl 0 rfl) ?_
  refine g_X11_1 C hM.x (hI 0 (by decide)) wf_X11_22 dX11_to_1 ?_
  refine lv_iload_n C.1 C.2.1 dX11_to_4 rfl (lv_at hl 1 rfl) ?_
  refine x_ciA (fun q h => Or.inr h) (x_runVA (As := [.int (iI i)]) (rest := []) C (⟨by show _ ≤ (7 : Nat); omega, by show _ ≤ (40 * 7 : Nat); omega⟩) cw_X11_145 (MET.toA (c_X5_has l D ad G ids hI σ 0 (MLs (σ 1) (σ 2 0) (σ 3 0) (σ 4 0)) (σ 1) i (by decide) hL h18 ⟨by omega, by omega⟩)) hM.x (hI _ (by omega)) (cx_lo ad G _ (by decide)) rfl rfl rfl rfl (Nat.le_of_ble_eq_true rfl) hl.1 dX11_to_5 ⟨Nat.le_of_ble_eq_true rfl, Nat.le_of_ble_eq_true rfl⟩) hM (fun r5 s5 H1 lc1 hp hM => ?_)
  obtain ⟨hbs5, rfl⟩ := hp
  obtain ⟨ts5, ks5⟩ := ite01 hbs5
  refine x_if_ne C ⟨by omega, by omega⟩ (tgt := 21) dX11_to_8 (by decide) (fun c8 => ?_) (fun c8 => ?_)
  · have hmi : ((MLs (σ 1) (σ 2 0) (σ 3 0) (σ 4 0)).getD i.toNat (-1)) ∈ (MLs (σ 1) (σ 2 0) (σ 3 0) (σ 4 0)) := getD_mem (by omega) (by omega)
    have hmb : 0 ≤ ((MLs (σ 1) (σ 2 0) (σ 3 0) (σ 4 0)).getD i.toNat (-1)) ∧ ((MLs (σ 1) (σ 2 0) (σ 3 0) (σ 4 0)).getD i.toNat (-1)) < 2500 := hMB _ hmi
    refine lv_aload_n C.1 C.2.1 dX11_to_21 rfl (lv_at hl 0 rfl) ?_
    refine g_X11_1 C hM.x (hI 0 (by decide)) wf_X11_22 dX11_to_22 ?_
    refine lv_iload_n C.1 C.2.1 dX11_to_25 rfl (lv_at hl 1 rfl) ?_
    refine x_ciA (fun q h => Or.inr h) (x_runVA (As := [.int (iI i)]) (rest := []) C (⟨by show _ ≤ (7 : Nat); omega, by show _ ≤ (40 * 7 : Nat); omega⟩) cw_X11_205 (MET.toA (c_X5_moveAt l D ad G ids hI σ 0 (MLs (σ 1) (σ 2 0) (σ 3 0) (σ 4 0)) (σ 1) i (by decide) hL h18 ⟨by omega, by omega⟩)) hM.x (hI _ (by omega)) (cx_lo ad G _ (by decide)) rfl rfl rfl rfl (Nat.le_of_ble_eq_true rfl) hl.1 dX11_to_26 ⟨Nat.le_of_ble_eq_true rfl, Nat.le_of_ble_eq_true rfl⟩) hM (fun r26 s26 H1 lc1 hp hM => ?_)
    obtain ⟨rfl, rfl⟩ := hp
    rw [if_pos (show 0 ≤ i by omega)]
    refine x_ciA (fun q h => Or.inr h) (x_runSA (As := [.int (iI ((MLs (σ 1) (σ 2 0) (σ 3 0) (σ 4 0)).getD (i).toNat (-1)))]) (rest := []) C (⟨by show _ ≤ (7 : Nat); omega, by show _ ≤ (40 * 7 : Nat); omega⟩) cw_X11_211 (MET.toA (c_X11_toOf l D ad G ids hI σ ((MLs (σ 1) (σ 2 0) (σ 3 0) (σ 4 0)).getD (i).toNat (-1)) (by unfold IR; omega))) hM.x rfl rfl (Nat.le_of_ble_eq_true rfl) hl.1 dX11_to_29 ⟨Nat.le_of_ble_eq_true rfl, Nat.le_of_ble_eq_true rfl⟩) hM (fun r29 s29 H1 lc1 hp hM => ?_)
    obtain ⟨rfl, rfl⟩ := hp
    rw [if_neg (show ¬ ((MLs (σ 1) (σ 2 0) (σ 3 0) (σ 4 0)).getD i.toNat (-1)) < 0 by omega)]
    refine W.widen (k := 1) (n := 6) (Nat.le_of_ble_eq_true rfl) (Nat.le_of_ble_eq_true rfl) ?_
    refine vx_ret ?_
    exact x_iret C hr hM.x ⟨by omega, rfl, rfl⟩ dX11_to_32
  · exact x_throw (text := "there is no such move") C hst hnx hTX hTZ hM hl.1 (hat_OOB C.2.2.2.2.1 hTX) kx_OOB ix_OOB ot_OOB (by decide +kernel) (List.mem_of_getElem? (i := 6) rfl) (Nat.le_of_ble_eq_true rfl) dX11_to_11 dX11_to_14 dX11_to_15 dX11_to_17 dX11_to_20 ⟨Nat.le_of_ble_eq_true rfl, Nat.le_of_ble_eq_true rfl, Nat.le_of_ble_eq_true rfl, Nat.le_of_ble_eq_true rfl⟩ ⟨rfl, rfl, show ¬ (0 ≤ i ∧ i < ((MLs (σ 1) (σ 2 0) (σ 3 0) (σ 4 0)).length : Int)) by omega⟩
set_option maxRecDepth 100000 in
set_option maxHeartbeats 4000000 in
theorem c_X11_takes (l : Launch) (hst : l.stackTraces = false) (D : va_G) (ad : Nat → Nat) (G : Nat → Nat) (ids : List Nat) (hI : ∀ k, k < 81 → k ∈ ids) (σ : Sg) (sa : Nat → Nat) (i : Int) (hG : GI σ) (hL : LM σ 0 (MLs (σ 1) (σ 2 0) (σ 3 0) (σ 4 0)) (σ 1)) (hi : IR i) : VME l yX11_takes cX11_takes 2 (some .boolean) 7 [.ref (ad 0), .int (iI i)] D ad G ids σ sa (QI D ad G ids (fun z σ' => (0 ≤ i ∧ i < ((MLs (σ 1) (σ 2 0) (σ 3 0) (σ 4 0)).length : Int)) ∧ (if σ 1 (((MLs (σ 1) (σ 2 0) (σ 3 0) (σ 4 0)).getD i.toNat (-1)) % 100) ≠ 0 then 1 else 0) = z ∧ σ = σ')) (fun E τ => σ = τ ∧ (E = "java/lang/IndexOutOfBoundsException" ∧ ¬ (0 ≤ i ∧ i < ((MLs (σ 1) (σ 2 0) (σ 3 0) (σ 4 0)).length : Int)))) := by
  have h18 : (MLs (σ 1) (σ 2 0) (σ 3 0) (σ 4 0)).length ≤ 18 := MLs18 hG
  have hMB : ∀ v, v ∈ (MLs (σ 1) (σ 2 0) (σ 3 0) (σ 4 0)) → 0 ≤ v ∧ v < 2500 := MLsMB hG
  unfold IR at hi
  refine x_enterV (by decide) (Nat.le_of_ble_eq_true rfl) ?_
  intro pp ee ss mm args below meth cq C hnx hTX hTZ hr ls hl hM
  have hM := hM.e
  have hl : lv_has ls 2 [(0, .ref (ad 0)), (1, .int (iI i))] := hl
  refine lv_aload_n C.1 C.2.1 dX11_takes_0 rfl (lv_at hl 0 rfl) ?_
  refine g_X11_1 C hM.x (hI 0 (by decide)) wf_X11_22 dX11_takes_1 ?_
  refine lv_iload_n C.1 C.2.1 dX11_takes_4 rfl (lv_at hl 1 rfl) ?_
  refine x_ciA (fun q h => Or.inr h) (x_runVA (As := [.int (iI i)]) (rest := []) C (⟨by show _ ≤ (7 : Nat); omega, by show _ ≤ (40 * 7 : Nat); omega⟩) cw_X11_145 (MET.toA (c_X5_has l D ad G ids hI σ 0 (MLs (σ 1) (σ 2 0) (σ 3 0) (σ 4 0)) (σ 1) i (by decide) hL h18 ⟨by omega, by omega⟩)) hM.x (hI _ (by omega)) (cx_lo ad G _ (by decide)) rfl rfl rfl rfl (Nat.le_of_ble_eq_true rfl) hl.1 dX11_takes_5 ⟨Nat.le_of_ble_eq_true rfl, Nat.le_of_ble_eq_true rfl⟩) hM (fun r5 s5 H1 lc1 hp hM => ?_)
  obtain ⟨hbs5, rfl⟩ := hp
  obtain ⟨ts5, ks5⟩ := ite01 hbs5
  refine x_if_ne C ⟨by omega, by omega⟩ (tgt := 21) dX11_takes_8 (by decide) (fun c8 => ?_) (fun c8 => ?_)
  · refine lv_aload_n C.1 C.2.1 dX11_takes_21 rfl (lv_at hl 0 rfl) ?_
    refine g_X11_1 C hM.x (hI 0 (by decide)) wf_X11_22 dX11_takes_22 ?_
    refine lv_iload_n C.1 C.2.1 dX11_takes_25 rfl (lv_at hl 1 rfl) ?_
    refine x_ciA (fun q h => Or.inr h) (x_runVA (As := [.int (iI i)]) (rest := []) C (⟨by show _ ≤ (7 : Nat); omega, by show _ ≤ (40 * 7 : Nat); omega⟩) cw_X11_214 (MET.toA (c_X5_isTaking l D ad G ids hI σ 0 (MLs (σ 1) (σ 2 0) (σ 3 0) (σ 4 0)) (σ 1) i (by decide) hL h18 ⟨by omega, by omega⟩)) hM.x (hI _ (by omega)) (cx_lo ad G _ (by decide)) rfl rfl rfl rfl (Nat.le_of_ble_eq_true rfl) hl.1 dX11_takes_26 ⟨Nat.le_of_ble_eq_true rfl, Nat.le_of_ble_eq_true rfl⟩) hM (fun r26 s26 H1 lc1 hp hM => ?_)
    obtain ⟨hbs26, rfl⟩ := hp
    obtain ⟨ts26, ks26⟩ := ite01 hbs26
    refine W.widen (k := 1) (n := 6) (Nat.le_of_ble_eq_true rfl) (Nat.le_of_ble_eq_true rfl) ?_
    refine vx_ret ?_
    refine x_zret C hr hM.x (by first | exact Or.inl rfl | exact Or.inr rfl | omega) ?_ dX11_takes_29
    exact ⟨by omega, by
      rw [← hbs26]
      by_cases e : σ 1 (((MLs (σ 1) (σ 2 0) (σ 3 0) (σ 4 0)).getD i.toNat (-1)) % 100) ≠ 0
      · rw [if_pos e, if_pos ⟨by omega, by omega, e⟩]
      · rw [if_neg e, if_neg (fun q => e q.2.2)], rfl⟩
  · exact x_throw (text := "there is no such move") C hst hnx hTX hTZ hM hl.1 (hat_OOB C.2.2.2.2.1 hTX) kx_OOB ix_OOB ot_OOB (by decide +kernel) (List.mem_of_getElem? (i := 6) rfl) (Nat.le_of_ble_eq_true rfl) dX11_takes_11 dX11_takes_14 dX11_takes_15 dX11_takes_17 dX11_takes_20 ⟨Nat.le_of_ble_eq_true rfl, Nat.le_of_ble_eq_true rfl, Nat.le_of_ble_eq_true rfl, Nat.le_of_ble_eq_true rfl⟩ ⟨rfl, rfl, show ¬ (0 ≤ i ∧ i < ((MLs (σ 1) (σ 2 0) (σ 3 0) (σ 4 0)).length : Int)) by omega⟩
set_option maxRecDepth 100000 in
set_option maxHeartbeats 4000000 in
theorem c_X11_setSide (l : Launch) (hst : l.stackTraces = false) (D : va_G) (ad : Nat → Nat) (G : Nat → Nat) (ids : List Nat) (hI : ∀ k, k < 81 → k ∈ ids) (σ : Sg) (sa : Nat → Nat) (n : Int) (hG : GI σ) (hn : IR n) : VME l yX11_setSide cX11_setSide 3 (some .int) 7 [.ref (ad 0), .int (iI n)] D ad G ids σ sa (QI D ad G ids (fun z σ' => (0 ≤ n ∧ n ≤ 1) ∧ σ 4 0 = z ∧ SAN (upr σ 4 (ups (σ 4) 0 n)) σ')) (fun E τ => σ = τ ∧ (E = "java/lang/IllegalArgumentException" ∧ ¬ (0 ≤ n ∧ n ≤ 1))) := by
  have hB := hG.1
  have w1 := hB.1
  have w2 := hB.2.1
  have h1 := hB.2.2.1
  have h2 := hB.2.2.2
  have wb := wh_bd w1 w2 h1 h2
  have hs := hG.2.2.1
  unfold IR at hn
  refine x_enterV (by decide) (Nat.le_of_ble_eq_true rfl) ?_
  intro pp ee ss mm args below meth cq C hnx hTX hTZ hr ls hl hM
  have hM := hM.e
  have hl : lv_has ls 3 [(0, .ref (ad 0)), (1, .int (iI n))] := hl
  refine lv_iload_n C.1 C.2.1 dX11_setSide_0 rfl (lv_at hl 1 rfl) ?_
  refine lv_iconst (v := iI 0) C.1 C.2.1 dX11_setSide_1 (by decide) ?_
  refine lv_iconst (v := iI 1) C.1 C.2.1 dX11_setSide_2 (by decide) ?_
  refine x_ciA (fun q h => Or.inr h) (x_runSA (As := [.int (iI n), .int (iI 0), .int (iI 1)]) (rest := []) C (⟨by show _ ≤ (7 : Nat); omega, by show _ ≤ (40 * 7 : Nat); omega⟩) cw_X11_81 (MET.toA (c_X11_isWithin l D ad G ids hI σ n 0 1 (by unfold IR; omega) (by unfold IR; omega) (by unfold IR; omega))) hM.x rfl rfl (Nat.le_of_ble_eq_true rfl) hl.1 dX11_setSide_3 ⟨Nat.le_of_ble_eq_true rfl, Nat.le_of_ble_eq_true rfl⟩) hM (fun r3 s3 H1 lc1 hp hM => ?_)
  obtain ⟨hbs3, rfl⟩ := hp
  obtain ⟨ts3, ks3⟩ := ite01 hbs3
  refine x_if_ne C ⟨by omega, by omega⟩ (tgt := 19) dX11_setSide_6 (by decide) (fun c6 => ?_) (fun c6 => ?_)
  · refine lv_aload_n C.1 C.2.1 dX11_setSide_19 rfl (lv_at hl 0 rfl) ?_
    refine g_X11_0 C hM.x (hI 0 (by decide)) wf_X11_13 dX11_setSide_20 ?_
    refine x_ciA (fun q h => Or.inr h) (x_runVA (As := []) (rest := []) C (⟨by show _ ≤ (7 : Nat); omega, by show _ ≤ (40 * 7 : Nat); omega⟩) cw_X11_137 (MET.toA (c_X0_mover l D ad G ids hI σ)) hM.x (hI 1 (by decide)) (cx_1 ad G _) rfl rfl rfl rfl (Nat.le_of_ble_eq_true rfl) hl.1 dX11_setSide_23 ⟨Nat.le_of_ble_eq_true rfl, Nat.le_of_ble_eq_true rfl⟩) hM (fun r23 s23 H1 lc1 hp hM => ?_)
    obtain ⟨rfl, rfl⟩ := hp
    refine lv_istore_n (lv' := [(2, .int (iI (σ 4 0))), (0, .ref (ad 0)), (1, .int (iI n))]) C.1 C.2.1 dX11_setSide_26 rfl hl (by decide) rfl (fun ls hl => ?_)
    refine lv_aload_n C.1 C.2.1 dX11_setSide_27 rfl (lv_at hl 1 rfl) ?_
    refine g_X11_0 C hM.x (hI 0 (by decide)) wf_X11_13 dX11_setSide_28 ?_
    refine lv_iload_n C.1 C.2.1 dX11_setSide_31 rfl (lv_at hl 2 rfl) ?_
    refine x_cvA (fun q h => Or.inr h) (x_runVA (As := [.int (iI n)]) (rest := []) C (⟨by show _ ≤ (7 : Nat); omega, by show _ ≤ (40 * 7 : Nat); omega⟩) cw_X11_141 (MET.toA (c_X0_turnTo l D ad G ids hI σ n)) hM.x (hI 1 (by decide)) (cx_1 ad G _) rfl rfl rfl rfl (Nat.le_of_ble_eq_true rfl) hl.1 dX11_setSide_32 ⟨Nat.le_of_ble_eq_true rfl, Nat.le_of_ble_eq_true rfl⟩) hM (fun s32 H1 lc1 hp hM => ?_)
    obtain rfl := hp
    refine lv_aload_n C.1 C.2.1 dX11_setSide_35 rfl (lv_at hl 1 rfl) ?_
    refine x_cvA (fun q h => Or.inr h) (x_runVA (As := []) (rest := []) C (⟨by show _ ≤ (7 : Nat); omega, by show _ ≤ (40 * 7 : Nat); omega⟩) cw_X11_105 (MET.toA (c_X11_startAnew l D ad G ids hI (upr σ 4 (ups (σ 4) 0 n)) hG.1 hG.2.1 (show n = 0 ∨ n = 1 by omega) hG.2.2.2.1)) hM.x (hI 0 (by decide)) (cx_0 ad G _) rfl rfl rfl rfl (Nat.le_of_ble_eq_true rfl) hl.1 dX11_setSide_36 ⟨Nat.le_of_ble_eq_true rfl, Nat.le_of_ble_eq_true rfl⟩) hM (fun s36 H1 lc1 hp hM => ?_)
    obtain hz : SAN _ _ := hp
    have hqs36 := hp
    refine lv_iload_n C.1 C.2.1 dX11_setSide_39 rfl (lv_at hl 0 rfl) ?_
    refine W.widen (k := 1) (n := 6) (Nat.le_of_ble_eq_true rfl) (Nat.le_of_ble_eq_true rfl) ?_
    refine vx_ret ?_
    exact x_iret C hr hM.x ⟨by omega, rfl, hqs36⟩ dX11_setSide_40
  · exact x_throw (text := "side is not 0 or 1") C hst hnx hTX hTZ hM hl.1 (hat_IAE C.2.2.2.2.1 hTX) kx_IAE ix_IAE ot_IAE (by decide +kernel) (List.mem_of_getElem? (i := 5) rfl) (Nat.le_of_ble_eq_true rfl) dX11_setSide_9 dX11_setSide_12 dX11_setSide_13 dX11_setSide_15 dX11_setSide_18 ⟨Nat.le_of_ble_eq_true rfl, Nat.le_of_ble_eq_true rfl, Nat.le_of_ble_eq_true rfl, Nat.le_of_ble_eq_true rfl⟩ ⟨rfl, rfl, show ¬ (0 ≤ n ∧ n ≤ 1) by omega⟩
set_option maxRecDepth 100000 in
set_option maxHeartbeats 4000000 in
theorem c_X11_setSlots (l : Launch) (hst : l.stackTraces = false) (D : va_G) (ad : Nat → Nat) (G : Nat → Nat) (ids : List Nat) (hI : ∀ k, k < 81 → k ∈ ids) (σ : Sg) (sa : Nat → Nat) (n : Int) (hn : IR n) : VME l yX11_setSlots cX11_setSlots 3 (some .int) 7 [.ref (ad 0), .int (iI n)] D ad G ids σ sa (QI D ad G ids (fun z σ' => (0 ≤ n ∧ n ≤ 64) ∧ σ 9 0 = z ∧ upr (upr σ 9 (ups (σ 9) 0 n)) 11 (wpF (σ 11) 64) = σ')) (fun E τ => σ = τ ∧ (E = "java/lang/IllegalArgumentException" ∧ ¬ (0 ≤ n ∧ n ≤ 64))) := by
  unfold IR at hn
  refine x_enterV (by decide) (Nat.le_of_ble_eq_true rfl) ?_
  intro pp ee ss mm args below meth cq C hnx hTX hTZ hr ls hl hM
  have hM := hM.e
  have hl : lv_has ls 3 [(0, .ref (ad 0)), (1, .int (iI n))] := hl
  refine lv_iload_n C.1 C.2.1 dX11_setSlots_0 rfl (lv_at hl 1 rfl) ?_
  refine lv_iconst (v := iI 0) C.1 C.2.1 dX11_setSlots_1 (by decide) ?_
  refine lv_bipush (v := iI 64) C.1 C.2.1 dX11_setSlots_2 (by decide) ?_
  refine x_ciA (fun q h => Or.inr h) (x_runSA (As := [.int (iI n), .int (iI 0), .int (iI 64)]) (rest := []) C (⟨by show _ ≤ (7 : Nat); omega, by show _ ≤ (40 * 7 : Nat); omega⟩) cw_X11_81 (MET.toA (c_X11_isWithin l D ad G ids hI σ n 0 64 (by unfold IR; omega) (by unfold IR; omega) (by unfold IR; omega))) hM.x rfl rfl (Nat.le_of_ble_eq_true rfl) hl.1 dX11_setSlots_4 ⟨Nat.le_of_ble_eq_true rfl, Nat.le_of_ble_eq_true rfl⟩) hM (fun r4 s4 H1 lc1 hp hM => ?_)
  obtain ⟨hbs4, rfl⟩ := hp
  obtain ⟨ts4, ks4⟩ := ite01 hbs4
  refine x_if_ne C ⟨by omega, by omega⟩ (tgt := 20) dX11_setSlots_7 (by decide) (fun c7 => ?_) (fun c7 => ?_)
  · refine lv_aload_n C.1 C.2.1 dX11_setSlots_20 rfl (lv_at hl 0 rfl) ?_
    refine g_X11_4 C hM.x (hI 0 (by decide)) wf_X11_43 dX11_setSlots_21 ?_
    refine x_ciA (fun q h => Or.inr h) (x_runVA (As := []) (rest := []) C (⟨by show _ ≤ (7 : Nat); omega, by show _ ≤ (40 * 7 : Nat); omega⟩) cw_X11_189 (MET.toA (c_X8_size l D ad G ids hI σ)) hM.x (hI 4 (by decide)) (cx_4 ad G _) rfl rfl rfl rfl (Nat.le_of_ble_eq_true rfl) hl.1 dX11_setSlots_24 ⟨Nat.le_of_ble_eq_true rfl, Nat.le_of_ble_eq_true rfl⟩) hM (fun r24 s24 H1 lc1 hp hM => ?_)
    obtain ⟨rfl, rfl⟩ := hp
    refine lv_istore_n (lv' := [(2, .int (iI (σ 9 0))), (0, .ref (ad 0)), (1, .int (iI n))]) C.1 C.2.1 dX11_setSlots_27 rfl hl (by decide) rfl (fun ls hl => ?_)
    refine lv_aload_n C.1 C.2.1 dX11_setSlots_28 rfl (lv_at hl 1 rfl) ?_
    refine g_X11_4 C hM.x (hI 0 (by decide)) wf_X11_43 dX11_setSlots_29 ?_
    refine lv_iload_n C.1 C.2.1 dX11_setSlots_32 rfl (lv_at hl 2 rfl) ?_
    refine x_cvA (fun q h => Or.inr h) (x_runVA (As := [.int (iI n)]) (rest := []) C (⟨by show _ ≤ (7 : Nat); omega, by show _ ≤ (40 * 7 : Nat); omega⟩) cw_X11_192 (MET.toA (c_X8_resize l D ad G ids hI σ n)) hM.x (hI 4 (by decide)) (cx_4 ad G _) rfl rfl rfl rfl (Nat.le_of_ble_eq_true rfl) hl.1 dX11_setSlots_33 ⟨Nat.le_of_ble_eq_true rfl, Nat.le_of_ble_eq_true rfl⟩) hM (fun s33 H1 lc1 hp hM => ?_)
    obtain rfl := hp
    refine lv_iload_n C.1 C.2.1 dX11_setSlots_36 rfl (lv_at hl 0 rfl) ?_
    refine W.widen (k := 1) (n := 6) (Nat.le_of_ble_eq_true rfl) (Nat.le_of_ble_eq_true rfl) ?_
    refine vx_ret ?_
    exact x_iret C hr hM.x ⟨by omega, rfl, rfl⟩ dX11_setSlots_37
  · exact x_throw (text := "slots is not 0 to 64") C hst hnx hTX hTZ hM hl.1 (hat_IAE C.2.2.2.2.1 hTX) kx_IAE ix_IAE ot_IAE (by decide +kernel) (List.mem_of_getElem? (i := 9) rfl) (Nat.le_of_ble_eq_true rfl) dX11_setSlots_10 dX11_setSlots_13 dX11_setSlots_14 dX11_setSlots_16 dX11_setSlots_19 ⟨Nat.le_of_ble_eq_true rfl, Nat.le_of_ble_eq_true rfl, Nat.le_of_ble_eq_true rfl, Nat.le_of_ble_eq_true rfl⟩ ⟨rfl, rfl, show ¬ (0 ≤ n ∧ n ≤ 64) by omega⟩
set_option maxRecDepth 100000 in
set_option maxHeartbeats 4000000 in
theorem c_X11_weigh (l : Launch) (hst : l.stackTraces = false) (D : va_G) (ad : Nat → Nat) (G : Nat → Nat) (ids : List Nat) (hI : ∀ k, k < 81 → k ∈ ids) (σ : Sg) (sa : Nat → Nat) (a b d : Int) (hG : GI σ) (ha : IR a) (hb : IR b) (hd : IR d) : VME l yX11_weigh cX11_weigh 4 (some .int) 9 [.ref (ad 0), .int (iI a), .int (iI b), .int (iI d)] D ad G ids σ sa (QI D ad G ids (fun z σ' => ((0 ≤ a ∧ a ≤ 50) ∧ (0 ≤ b ∧ b ≤ 20) ∧ (0 ≤ d ∧ d ≤ 10)) ∧ evS (cfg (weW σ a b d)) (σ 1) (σ 4 0) = z ∧ weW σ a b d = σ')) (fun E τ => σ = τ ∧ (E = "java/lang/IllegalArgumentException" ∧ ¬ ((0 ≤ a ∧ a ≤ 50) ∧ (0 ≤ b ∧ b ≤ 20) ∧ (0 ≤ d ∧ d ≤ 10)))) := by
  unfold IR at ha hb hd
  refine x_enterV (by decide) (Nat.le_of_ble_eq_true rfl) ?_
  intro pp ee ss mm args below meth cq C hnx hTX hTZ hr ls hl hM
  have hM := hM.e
  have hl : lv_has ls 4 [(0, .ref (ad 0)), (1, .int (iI a)), (2, .int (iI b)), (3, .int (iI d))] := hl
  refine lv_iload_n C.1 C.2.1 dX11_weigh_0 rfl (lv_at hl 1 rfl) ?_
  refine lv_iconst (v := iI 0) C.1 C.2.1 dX11_weigh_1 (by decide) ?_
  refine lv_bipush (v := iI 50) C.1 C.2.1 dX11_weigh_2 (by decide) ?_
  refine x_ciA (fun q h => Or.inr h) (x_runSA (As := [.int (iI a), .int (iI 0), .int (iI 50)]) (rest := []) C (⟨by show _ ≤ (9 : Nat); omega, by show _ ≤ (40 * 9 : Nat); omega⟩) cw_X11_81 (MET.toA (c_X11_isWithin l D ad G ids hI σ a 0 50 (by unfold IR; omega) (by unfold IR; omega) (by unfold IR; omega))) hM.x rfl rfl (Nat.le_of_ble_eq_true rfl) hl.1 dX11_weigh_4 ⟨Nat.le_of_ble_eq_true rfl, Nat.le_of_ble_eq_true rfl⟩) hM (fun r4 s4 H1 lc1 hp hM => ?_)
  obtain ⟨hbs4, rfl⟩ := hp
  obtain ⟨ts4, ks4⟩ := ite01 hbs4
  refine x_if_eq C ⟨by omega, by omega⟩ (tgt := 30) dX11_weigh_7 (by decide) (fun c7 => ?_) (fun c7 => ?_)
  · exact x_throw (text := "a weight is out of its bounds") C hst hnx hTX hTZ hM hl.1 (hat_IAE C.2.2.2.2.1 hTX) kx_IAE ix_IAE ot_IAE (by decide +kernel) (List.mem_of_getElem? (i := 8) rfl) (Nat.le_of_ble_eq_true rfl) dX11_weigh_30 dX11_weigh_33 dX11_weigh_34 dX11_weigh_36 dX11_weigh_39 ⟨Nat.le_of_ble_eq_true rfl, Nat.le_of_ble_eq_true rfl, Nat.le_of_ble_eq_true rfl, Nat.le_of_ble_eq_true rfl⟩ ⟨rfl, rfl, show ¬ ((0 ≤ a ∧ a ≤ 50) ∧ (0 ≤ b ∧ b ≤ 20) ∧ (0 ≤ d ∧ d ≤ 10)) by omega⟩
  · refine lv_iload_n C.1 C.2.1 dX11_weigh_10 rfl (lv_at hl 2 rfl) ?_
    refine lv_iconst (v := iI 0) C.1 C.2.1 dX11_weigh_11 (by decide) ?_
    refine lv_bipush (v := iI 20) C.1 C.2.1 dX11_weigh_12 (by decide) ?_
    refine x_ciA (fun q h => Or.inr h) (x_runSA (As := [.int (iI b), .int (iI 0), .int (iI 20)]) (rest := []) C (⟨by show _ ≤ (9 : Nat); omega, by show _ ≤ (40 * 9 : Nat); omega⟩) cw_X11_81 (MET.toA (c_X11_isWithin l D ad G ids hI σ b 0 20 (by unfold IR; omega) (by unfold IR; omega) (by unfold IR; omega))) hM.x rfl rfl (Nat.le_of_ble_eq_true rfl) hl.1 dX11_weigh_14 ⟨Nat.le_of_ble_eq_true rfl, Nat.le_of_ble_eq_true rfl⟩) hM (fun r14 s14 H1 lc1 hp hM => ?_)
    obtain ⟨hbs14, rfl⟩ := hp
    obtain ⟨ts14, ks14⟩ := ite01 hbs14
    refine x_if_eq C ⟨by omega, by omega⟩ (tgt := 30) dX11_weigh_17 (by decide) (fun c17 => ?_) (fun c17 => ?_)
    · exact x_throw (text := "a weight is out of its bounds") C hst hnx hTX hTZ hM hl.1 (hat_IAE C.2.2.2.2.1 hTX) kx_IAE ix_IAE ot_IAE (by decide +kernel) (List.mem_of_getElem? (i := 8) rfl) (Nat.le_of_ble_eq_true rfl) dX11_weigh_30 dX11_weigh_33 dX11_weigh_34 dX11_weigh_36 dX11_weigh_39 ⟨Nat.le_of_ble_eq_true rfl, Nat.le_of_ble_eq_true rfl, Nat.le_of_ble_eq_true rfl, Nat.le_of_ble_eq_true rfl⟩ ⟨rfl, rfl, show ¬ ((0 ≤ a ∧ a ≤ 50) ∧ (0 ≤ b ∧ b ≤ 20) ∧ (0 ≤ d ∧ d ≤ 10)) by omega⟩
    · refine lv_iload_n C.1 C.2.1 dX11_weigh_20 rfl (lv_at hl 3 rfl) ?_
      refine lv_iconst (v := iI 0) C.1 C.2.1 dX11_weigh_21 (by decide) ?_
      refine lv_bipush (v := iI 10) C.1 C.2.1 dX11_weigh_22 (by decide) ?_
      refine x_ciA (fun q h => Or.inr h) (x_runSA (As := [.int (iI d), .int (iI 0), .int (iI 10)]) (rest := []) C (⟨by show _ ≤ (9 : Nat); omega, by show _ ≤ (40 * 9 : Nat); omega⟩) cw_X11_81 (MET.toA (c_X11_isWithin l D ad G ids hI σ d 0 10 (by unfold IR; omega) (by unfold IR; omega) (by unfold IR; omega))) hM.x rfl rfl (Nat.le_of_ble_eq_true rfl) hl.1 dX11_weigh_24 ⟨Nat.le_of_ble_eq_true rfl, Nat.le_of_ble_eq_true rfl⟩) hM (fun r24 s24 H1 lc1 hp hM => ?_)
      obtain ⟨hbs24, rfl⟩ := hp
      obtain ⟨ts24, ks24⟩ := ite01 hbs24
      refine x_if_ne C ⟨by omega, by omega⟩ (tgt := 40) dX11_weigh_27 (by decide) (fun c27 => ?_) (fun c27 => ?_)
      · refine lv_aload_n C.1 C.2.1 dX11_weigh_40 rfl (lv_at hl 0 rfl) ?_
        refine g_X11_3 C hM.x (hI 0 (by decide)) wf_X11_36 dX11_weigh_41 ?_
        refine lv_iload_n C.1 C.2.1 dX11_weigh_44 rfl (lv_at hl 1 rfl) ?_
        refine lv_iload_n C.1 C.2.1 dX11_weigh_45 rfl (lv_at hl 2 rfl) ?_
        refine lv_iload_n C.1 C.2.1 dX11_weigh_46 rfl (lv_at hl 3 rfl) ?_
        refine x_cvA (fun q h => Or.inr h) (x_runVA (As := [.int (iI a), .int (iI b), .int (iI d)]) (rest := []) C (⟨by show _ ≤ (9 : Nat); omega, by show _ ≤ (40 * 9 : Nat); omega⟩) cw_X11_172 (MET.toA (c_X2_setWeights l D ad G ids hI σ a b d)) hM.x (hI 3 (by decide)) (cx_3 ad G _) rfl rfl rfl rfl (Nat.le_of_ble_eq_true rfl) hl.1 dX11_weigh_47 ⟨Nat.le_of_ble_eq_true rfl, Nat.le_of_ble_eq_true rfl⟩) hM (fun s47 H1 lc1 hp hM => ?_)
        obtain rfl := hp
        refine lv_aload_n C.1 C.2.1 dX11_weigh_50 rfl (lv_at hl 0 rfl) ?_
        refine g_X11_4 C hM.x (hI 0 (by decide)) wf_X11_43 dX11_weigh_51 ?_
        refine x_cvA (fun q h => Or.inr h) (x_runVA (As := []) (rest := []) C (⟨by show _ ≤ (9 : Nat); omega, by show _ ≤ (40 * 9 : Nat); omega⟩) cw_X11_102 (MET.toA (c_X8_wipe l D ad G ids hI (upr (upr (upr σ 5 (ups (σ 5) 0 a)) 6 (ups (σ 6) 0 b)) 7 (ups (σ 7) 0 d)))) hM.x (hI 4 (by decide)) (cx_4 ad G _) rfl rfl rfl rfl (Nat.le_of_ble_eq_true rfl) hl.1 dX11_weigh_54 ⟨Nat.le_of_ble_eq_true rfl, Nat.le_of_ble_eq_true rfl⟩) hM (fun s54 H1 lc1 hp hM => ?_)
        obtain rfl := hp
        refine lv_aload_n C.1 C.2.1 dX11_weigh_57 rfl (lv_at hl 0 rfl) ?_
        refine g_X11_3 C hM.x (hI 0 (by decide)) wf_X11_36 dX11_weigh_58 ?_
        refine lv_aload_n C.1 C.2.1 dX11_weigh_61 rfl (lv_at hl 0 rfl) ?_
        refine g_X11_0 C hM.x (hI 0 (by decide)) wf_X11_13 dX11_weigh_62 ?_
        refine x_ciA (fun q h => Or.inr h) (x_runVA (As := [.ref (ad 1)]) (rest := []) C (⟨by show _ ≤ (9 : Nat); omega, by show _ ≤ (40 * 9 : Nat); omega⟩) cw_X11_175 (MET.toA (c_X2_evaluate l D ad G ids hI (upr (upr (upr (upr σ 5 (ups (σ 5) 0 a)) 6 (ups (σ 6) 0 b)) 7 (ups (σ 7) 0 d)) 11 (wpF ((upr (upr (upr σ 5 (ups (σ 5) 0 a)) 6 (ups (σ 6) 0 b)) 7 (ups (σ 7) 0 d)) 11) 64)) (GI_wt hG (by omega) (by omega) (by omega)))) hM.x (hI 3 (by decide)) (cx_3 ad G _) rfl rfl rfl rfl (Nat.le_of_ble_eq_true rfl) hl.1 dX11_weigh_65 ⟨Nat.le_of_ble_eq_true rfl, Nat.le_of_ble_eq_true rfl⟩) hM (fun r65 s65 H1 lc1 hp hM => ?_)
        obtain ⟨rfl, rfl⟩ := hp
        refine W.widen (k := 1) (n := 6) (Nat.le_of_ble_eq_true rfl) (Nat.le_of_ble_eq_true rfl) ?_
        refine vx_ret ?_
        exact x_iret C hr hM.x ⟨by omega, rfl, rfl⟩ dX11_weigh_68
      · exact x_throw (text := "a weight is out of its bounds") C hst hnx hTX hTZ hM hl.1 (hat_IAE C.2.2.2.2.1 hTX) kx_IAE ix_IAE ot_IAE (by decide +kernel) (List.mem_of_getElem? (i := 8) rfl) (Nat.le_of_ble_eq_true rfl) dX11_weigh_30 dX11_weigh_33 dX11_weigh_34 dX11_weigh_36 dX11_weigh_39 ⟨Nat.le_of_ble_eq_true rfl, Nat.le_of_ble_eq_true rfl, Nat.le_of_ble_eq_true rfl, Nat.le_of_ble_eq_true rfl⟩ ⟨rfl, rfl, show ¬ ((0 ≤ a ∧ a ≤ 50) ∧ (0 ≤ b ∧ b ≤ 20) ∧ (0 ≤ d ∧ d ≤ 10)) by omega⟩
set_option maxRecDepth 100000 in
set_option maxHeartbeats 4000000 in
theorem c_X11_play (l : Launch) (hst : l.stackTraces = false) (D : va_G) (ad : Nat → Nat) (G : Nat → Nat) (ids : List Nat) (hI : ∀ k, k < 81 → k ∈ ids) (σ : Sg) (sa : Nat → Nat) (i : Int) (hG : GI σ) (hL : LM σ 0 (MLs (σ 1) (σ 2 0) (σ 3 0) (σ 4 0)) (σ 1)) (hTR : TRI σ) (hi : IR i) : VME l yX11_play cX11_play 2 (some .int) 7 [.ref (ad 0), .int (iI i)] D ad G ids σ sa (QI D ad G ids (fun z σ' => (0 ≤ i ∧ i < ((MLs (σ 1) (σ 2 0) (σ 3 0) (σ 4 0)).length : Int)) ∧ σ 1 (((MLs (σ 1) (σ 2 0) (σ 3 0) (σ 4 0)).getD i.toNat (-1)) % 100) = z ∧ PLC σ σ' ((MLs (σ 1) (σ 2 0) (σ 3 0) (σ 4 0)).getD i.toNat (-1)))) (fun E τ => σ = τ ∧ (E = "java/lang/IndexOutOfBoundsException" ∧ ¬ (0 ≤ i ∧ i < ((MLs (σ 1) (σ 2 0) (σ 3 0) (σ 4 0)).length : Int)))) := by
  have h18 : (MLs (σ 1) (σ 2 0) (σ 3 0) (σ 4 0)).length ≤ 18 := MLs18 hG
  have hMB : ∀ v, v ∈ (MLs (σ 1) (σ 2 0) (σ 3 0) (σ 4 0)) → 0 ≤ v ∧ v < 2500 := MLsMB hG
  unfold IR at hi
  refine x_enterV (by decide) (Nat.le_of_ble_eq_true rfl) ?_
  intro pp ee ss mm args below meth cq C hnx hTX hTZ hr ls hl hM
  have hM := hM.e
  have hl : lv_has ls 2 [(0, .ref (ad 0)), (1, .int (iI i))] := hl
  refine lv_aload_n C.1 C.2.1 dX11_play_0 rfl (lv_at hl 0 rfl) ?_
  refine g_X11_1 C hM.x (hI 0 (by decide)) wf_X11_22 dX11_play_1 ?_
  refine lv_iload_n C.1 C.2.1 dX11_play_4 rfl (lv_at hl 1 rfl) ?_
  refine x_ciA (fun q h => Or.inr h) (x_runVA (As := [.int (iI i)]) (rest := []) C (⟨by show _ ≤ (7 : Nat); omega, by show _ ≤ (40 * 7 : Nat); omega⟩) cw_X11_145 (MET.toA (c_X5_has l D ad G ids hI σ 0 (MLs (σ 1) (σ 2 0) (σ 3 0) (σ 4 0)) (σ 1) i (by decide) hL h18 ⟨by omega, by omega⟩)) hM.x (hI _ (by omega)) (cx_lo ad G _ (by decide)) rfl rfl rfl rfl (Nat.le_of_ble_eq_true rfl) hl.1 dX11_play_5 ⟨Nat.le_of_ble_eq_true rfl, Nat.le_of_ble_eq_true rfl⟩) hM (fun r5 s5 H1 lc1 hp hM => ?_)
  obtain ⟨hbs5, rfl⟩ := hp
  obtain ⟨ts5, ks5⟩ := ite01 hbs5
  refine x_if_ne C ⟨by omega, by omega⟩ (tgt := 21) dX11_play_8 (by decide) (fun c8 => ?_) (fun c8 => ?_)
  · refine lv_aload_n C.1 C.2.1 dX11_play_21 rfl (lv_at hl 0 rfl) ?_
    refine lv_iload_n C.1 C.2.1 dX11_play_22 rfl (lv_at hl 1 rfl) ?_
    refine x_ciA (fun q h => Or.inr h) (x_runVA (As := [.int (iI i)]) (rest := []) C (⟨by show _ ≤ (7 : Nat); omega, by show _ ≤ (40 * 7 : Nat); omega⟩) cw_X11_150 (MET.toA (c_X11_playHere l D ad G ids hI σ i hG hL hTR (by omega))) hM.x (hI 0 (by decide)) (cx_0 ad G _) rfl rfl rfl rfl (Nat.le_of_ble_eq_true rfl) hl.1 dX11_play_23 ⟨Nat.le_of_ble_eq_true rfl, Nat.le_of_ble_eq_true rfl⟩) hM (fun r23 s23 H1 lc1 hp hM => ?_)
    obtain ⟨hzs23, hqs23⟩ := hp
    refine W.widen (k := 1) (n := 6) (Nat.le_of_ble_eq_true rfl) (Nat.le_of_ble_eq_true rfl) ?_
    refine vx_ret ?_
    exact x_iret C hr hM.x ⟨by omega, hzs23, hqs23⟩ dX11_play_26
  · exact x_throw (text := "there is no such move") C hst hnx hTX hTZ hM hl.1 (hat_OOB C.2.2.2.2.1 hTX) kx_OOB ix_OOB ot_OOB (by decide +kernel) (List.mem_of_getElem? (i := 6) rfl) (Nat.le_of_ble_eq_true rfl) dX11_play_11 dX11_play_14 dX11_play_15 dX11_play_17 dX11_play_20 ⟨Nat.le_of_ble_eq_true rfl, Nat.le_of_ble_eq_true rfl, Nat.le_of_ble_eq_true rfl, Nat.le_of_ble_eq_true rfl⟩ ⟨rfl, rfl, show ¬ (0 ≤ i ∧ i < ((MLs (σ 1) (σ 2 0) (σ 3 0) (σ 4 0)).length : Int)) by omega⟩
set_option maxRecDepth 100000 in
set_option maxHeartbeats 4000000 in
theorem c_X11_ways (l : Launch) (hst : l.stackTraces = false) (D : va_G) (ad : Nat → Nat) (G : Nat → Nat) (ids : List Nat) (hI : ∀ k, k < 81 → k ∈ ids) (σ : Sg) (sa : Nat → Nat) (d : Int) (hG : GI σ) (hd : IR d) : VME l yX11_ways cX11_ways 2 (some .int) 40 [.ref (ad 0), .int (iI d)] D ad G ids σ sa (QI D ad G ids (fun z σ' => (0 ≤ d ∧ d ≤ 3) ∧ waysF (cfg σ) d.toNat (σ 1) (σ 4 0) = z ∧ (∀ r : Nat, r < 46 → r ≠ 15 → σ' r = σ r))) (fun E τ => σ = τ ∧ (E = "java/lang/IllegalArgumentException" ∧ ¬ (0 ≤ d ∧ d ≤ 3))) := by
  unfold IR at hd
  refine x_enterV (by decide) (Nat.le_of_ble_eq_true rfl) ?_
  intro pp ee ss mm args below meth cq C hnx hTX hTZ hr ls hl hM
  have hM := hM.e
  have hl : lv_has ls 2 [(0, .ref (ad 0)), (1, .int (iI d))] := hl
  refine lv_iload_n C.1 C.2.1 dX11_ways_0 rfl (lv_at hl 1 rfl) ?_
  refine lv_iconst (v := iI 0) C.1 C.2.1 dX11_ways_1 (by decide) ?_
  refine lv_iconst (v := iI 3) C.1 C.2.1 dX11_ways_2 (by decide) ?_
  refine x_ciA (fun q h => Or.inr h) (x_runSA (As := [.int (iI d), .int (iI 0), .int (iI 3)]) (rest := []) C (⟨by show _ ≤ (40 : Nat); omega, by show _ ≤ (40 * 40 : Nat); omega⟩) cw_X11_81 (MET.toA (c_X11_isWithin l D ad G ids hI σ d 0 3 (by unfold IR; omega) (by unfold IR; omega) (by unfold IR; omega))) hM.x rfl rfl (Nat.le_of_ble_eq_true rfl) hl.1 dX11_ways_3 ⟨Nat.le_of_ble_eq_true rfl, Nat.le_of_ble_eq_true rfl⟩) hM (fun r3 s3 H1 lc1 hp hM => ?_)
  obtain ⟨hbs3, rfl⟩ := hp
  obtain ⟨ts3, ks3⟩ := ite01 hbs3
  refine x_if_ne C ⟨by omega, by omega⟩ (tgt := 19) dX11_ways_6 (by decide) (fun c6 => ?_) (fun c6 => ?_)
  · refine lv_aload_n C.1 C.2.1 dX11_ways_19 rfl (lv_at hl 0 rfl) ?_
    refine g_X11_5 C hM.x (hI 0 (by decide)) wf_X11_57 dX11_ways_20 ?_
    refine lv_iload_n C.1 C.2.1 dX11_ways_23 rfl (lv_at hl 1 rfl) ?_
    refine x_ciA (fun q h => Or.inr h) (x_runNA (As := [.int (iI d)]) (rest := []) C (⟨by show _ ≤ (40 : Nat); omega, by show _ ≤ (40 * 40 : Nat); omega⟩) cw_X11_226 (MET.toA (countWays_all l D ad G ids hI d.toNat (by omega) σ d (by omega) hG)) hM.x (hI 10 (by decide)) (cx_10 ad G _) rfl rfl rfl rfl (Nat.le_of_ble_eq_true rfl) hl.1 dX11_ways_24 ⟨Nat.le_of_ble_eq_true rfl, Nat.le_of_ble_eq_true rfl⟩) hM (fun r24 s24 H1 lc1 hp hM => ?_)
    obtain ⟨hzs24, hfs24⟩ := hp
    refine W.widen (k := 1) (n := 6) (Nat.le_of_ble_eq_true rfl) (Nat.le_of_ble_eq_true rfl) ?_
    refine vx_ret ?_
    exact x_iret C hr hM.x ⟨by omega, hzs24, fun r h1 h2 => by first | exact hfs24 r (by omega) h2 | exact hfs24 r (by omega)⟩ dX11_ways_27
  · exact x_throw (text := "depth is not 0 to 3") C hst hnx hTX hTZ hM hl.1 (hat_IAE C.2.2.2.2.1 hTX) kx_IAE ix_IAE ot_IAE (by decide +kernel) (List.mem_of_getElem? (i := 10) rfl) (Nat.le_of_ble_eq_true rfl) dX11_ways_9 dX11_ways_12 dX11_ways_13 dX11_ways_15 dX11_ways_18 ⟨Nat.le_of_ble_eq_true rfl, Nat.le_of_ble_eq_true rfl, Nat.le_of_ble_eq_true rfl, Nat.le_of_ble_eq_true rfl⟩ ⟨rfl, rfl, show ¬ (0 ≤ d ∧ d ≤ 3) by omega⟩
set_option maxRecDepth 100000 in
set_option maxHeartbeats 4000000 in
theorem c_X11_value (l : Launch) (hst : l.stackTraces = false) (D : va_G) (ad : Nat → Nat) (G : Nat → Nat) (ids : List Nat) (hI : ∀ k, k < 81 → k ∈ ids) (σ : Sg) (sa : Nat → Nat) (d : Int) (hG : GI σ) (hd : IR d) : VME l yX11_value cX11_value 2 (some .int) 40 [.ref (ad 0), .int (iI d)] D ad G ids σ sa (QI D ad G ids (fun z σ' => (0 ≤ d ∧ d ≤ 3) ∧ vv (cfg σ) d.toNat (σ 1) (σ 4 0) = z ∧ (∀ r : Nat, r < 46 → r ≠ 15 → σ' r = σ r))) (fun E τ => σ = τ ∧ (E = "java/lang/IllegalArgumentException" ∧ ¬ (0 ≤ d ∧ d ≤ 3))) := by
  unfold IR at hd
  refine x_enterV (by decide) (Nat.le_of_ble_eq_true rfl) ?_
  intro pp ee ss mm args below meth cq C hnx hTX hTZ hr ls hl hM
  have hM := hM.e
  have hl : lv_has ls 2 [(0, .ref (ad 0)), (1, .int (iI d))] := hl
  refine lv_iload_n C.1 C.2.1 dX11_value_0 rfl (lv_at hl 1 rfl) ?_
  refine lv_iconst (v := iI 0) C.1 C.2.1 dX11_value_1 (by decide) ?_
  refine lv_iconst (v := iI 3) C.1 C.2.1 dX11_value_2 (by decide) ?_
  refine x_ciA (fun q h => Or.inr h) (x_runSA (As := [.int (iI d), .int (iI 0), .int (iI 3)]) (rest := []) C (⟨by show _ ≤ (40 : Nat); omega, by show _ ≤ (40 * 40 : Nat); omega⟩) cw_X11_81 (MET.toA (c_X11_isWithin l D ad G ids hI σ d 0 3 (by unfold IR; omega) (by unfold IR; omega) (by unfold IR; omega))) hM.x rfl rfl (Nat.le_of_ble_eq_true rfl) hl.1 dX11_value_3 ⟨Nat.le_of_ble_eq_true rfl, Nat.le_of_ble_eq_true rfl⟩) hM (fun r3 s3 H1 lc1 hp hM => ?_)
  obtain ⟨hbs3, rfl⟩ := hp
  obtain ⟨ts3, ks3⟩ := ite01 hbs3
  refine x_if_ne C ⟨by omega, by omega⟩ (tgt := 19) dX11_value_6 (by decide) (fun c6 => ?_) (fun c6 => ?_)
  · refine lv_aload_n C.1 C.2.1 dX11_value_19 rfl (lv_at hl 0 rfl) ?_
    refine g_X11_5 C hM.x (hI 0 (by decide)) wf_X11_57 dX11_value_20 ?_
    refine lv_iload_n C.1 C.2.1 dX11_value_23 rfl (lv_at hl 1 rfl) ?_
    refine lv_sipush (v := iI (-9999)) C.1 C.2.1 dX11_value_24 (by decide) ?_
    refine lv_sipush (v := iI 9999) C.1 C.2.1 dX11_value_27 (by decide) ?_
    refine x_ciA (fun q h => Or.inr h) (x_runNA (As := [.int (iI d), .int (iI (-9999)), .int (iI 9999)]) (rest := []) C (⟨by show _ ≤ (40 : Nat); omega, by show _ ≤ (40 * 40 : Nat); omega⟩) cw_X11_229 (MET.toA (worth_all l D ad G ids hI d.toNat (by omega) σ d (-9999) 9999 (by omega) hG (by decide) (by decide))) hM.x (hI 10 (by decide)) (cx_10 ad G _) rfl rfl rfl rfl (Nat.le_of_ble_eq_true rfl) hl.1 dX11_value_30 ⟨Nat.le_of_ble_eq_true rfl, Nat.le_of_ble_eq_true rfl⟩) hM (fun r30 s30 H1 lc1 hp hM => ?_)
    obtain ⟨hzs30, hfs30⟩ := hp
    refine W.widen (k := 1) (n := 6) (Nat.le_of_ble_eq_true rfl) (Nat.le_of_ble_eq_true rfl) ?_
    refine vx_ret ?_
    exact x_iret C hr hM.x ⟨by omega, by rw [← hzs30, wb_vv hG.2.2.2.2 (by omega)], fun r h1 h2 => hfs30 r (by omega) h2⟩ dX11_value_33
  · exact x_throw (text := "depth is not 0 to 3") C hst hnx hTX hTZ hM hl.1 (hat_IAE C.2.2.2.2.1 hTX) kx_IAE ix_IAE ot_IAE (by decide +kernel) (List.mem_of_getElem? (i := 10) rfl) (Nat.le_of_ble_eq_true rfl) dX11_value_9 dX11_value_12 dX11_value_13 dX11_value_15 dX11_value_18 ⟨Nat.le_of_ble_eq_true rfl, Nat.le_of_ble_eq_true rfl, Nat.le_of_ble_eq_true rfl, Nat.le_of_ble_eq_true rfl⟩ ⟨rfl, rfl, show ¬ (0 ≤ d ∧ d ≤ 3) by omega⟩
set_option maxRecDepth 100000 in
set_option maxHeartbeats 4000000 in
theorem c_X11_valueOf (l : Launch) (hst : l.stackTraces = false) (D : va_G) (ad : Nat → Nat) (G : Nat → Nat) (ids : List Nat) (hI : ∀ k, k < 81 → k ∈ ids) (σ : Sg) (sa : Nat → Nat) (i d : Int) (hG : GI σ) (hL : LM σ 0 (MLs (σ 1) (σ 2 0) (σ 3 0) (σ 4 0)) (σ 1)) (hi : IR i) (hd : IR d) : VME l yX11_valueOf cX11_valueOf 3 (some .int) 44 [.ref (ad 0), .int (iI i), .int (iI d)] D ad G ids σ sa (QI D ad G ids (fun z σ' => ((0 ≤ i ∧ i < ((MLs (σ 1) (σ 2 0) (σ 3 0) (σ 4 0)).length : Int)) ∧ (1 ≤ d ∧ d ≤ 3)) ∧ -(vv (cfg σ) (d - 1).toNat (mvF (σ 1) ((MLs (σ 1) (σ 2 0) (σ 3 0) (σ 4 0)).getD i.toNat (-1))) (1 - σ 4 0)) = z ∧ (∀ r : Nat, r < 46 → r ≠ 15 → σ' r = σ r))) (fun E τ => σ = τ ∧ ((E = "java/lang/IndexOutOfBoundsException" ∧ ¬ (0 ≤ i ∧ i < ((MLs (σ 1) (σ 2 0) (σ 3 0) (σ 4 0)).length : Int))) ∨ (E = "java/lang/IllegalArgumentException" ∧ (0 ≤ i ∧ i < ((MLs (σ 1) (σ 2 0) (σ 3 0) (σ 4 0)).length : Int)) ∧ ¬ (1 ≤ d ∧ d ≤ 3)))) := by
  have h18 : (MLs (σ 1) (σ 2 0) (σ 3 0) (σ 4 0)).length ≤ 18 := MLs18 hG
  have hMB : ∀ v, v ∈ (MLs (σ 1) (σ 2 0) (σ 3 0) (σ 4 0)) → 0 ≤ v ∧ v < 2500 := MLsMB hG
  unfold IR at hi hd
  refine x_enterV (by decide) (Nat.le_of_ble_eq_true rfl) ?_
  intro pp ee ss mm args below meth cq C hnx hTX hTZ hr ls hl hM
  have hM := hM.e
  have hl : lv_has ls 3 [(0, .ref (ad 0)), (1, .int (iI i)), (2, .int (iI d))] := hl
  refine lv_aload_n C.1 C.2.1 dX11_valueOf_0 rfl (lv_at hl 0 rfl) ?_
  refine g_X11_1 C hM.x (hI 0 (by decide)) wf_X11_22 dX11_valueOf_1 ?_
  refine lv_iload_n C.1 C.2.1 dX11_valueOf_4 rfl (lv_at hl 1 rfl) ?_
  refine x_ciA (fun q h => Or.inr h) (x_runVA (As := [.int (iI i)]) (rest := []) C (⟨by show _ ≤ (44 : Nat); omega, by show _ ≤ (40 * 44 : Nat); omega⟩) cw_X11_145 (MET.toA (c_X5_has l D ad G ids hI σ 0 (MLs (σ 1) (σ 2 0) (σ 3 0) (σ 4 0)) (σ 1) i (by decide) hL h18 ⟨by omega, by omega⟩)) hM.x (hI _ (by omega)) (cx_lo ad G _ (by decide)) rfl rfl rfl rfl (Nat.le_of_ble_eq_true rfl) hl.1 dX11_valueOf_5 ⟨Nat.le_of_ble_eq_true rfl, Nat.le_of_ble_eq_true rfl⟩) hM (fun r5 s5 H1 lc1 hp hM => ?_)
  obtain ⟨hbs5, rfl⟩ := hp
  obtain ⟨ts5, ks5⟩ := ite01 hbs5
  refine x_if_ne C ⟨by omega, by omega⟩ (tgt := 21) dX11_valueOf_8 (by decide) (fun c8 => ?_) (fun c8 => ?_)
  · refine lv_iload_n C.1 C.2.1 dX11_valueOf_21 rfl (lv_at hl 2 rfl) ?_
    refine lv_iconst (v := iI 1) C.1 C.2.1 dX11_valueOf_22 (by decide) ?_
    refine lv_iconst (v := iI 3) C.1 C.2.1 dX11_valueOf_23 (by decide) ?_
    refine x_ciA (fun q h => Or.inr h) (x_runSA (As := [.int (iI d), .int (iI 1), .int (iI 3)]) (rest := []) C (⟨by show _ ≤ (44 : Nat); omega, by show _ ≤ (40 * 44 : Nat); omega⟩) cw_X11_81 (MET.toA (c_X11_isWithin l D ad G ids hI σ d 1 3 (by unfold IR; omega) (by unfold IR; omega) (by unfold IR; omega))) hM.x rfl rfl (Nat.le_of_ble_eq_true rfl) hl.1 dX11_valueOf_24 ⟨Nat.le_of_ble_eq_true rfl, Nat.le_of_ble_eq_true rfl⟩) hM (fun r24 s24 H1 lc1 hp hM => ?_)
    obtain ⟨hbs24, rfl⟩ := hp
    obtain ⟨ts24, ks24⟩ := ite01 hbs24
    refine x_if_ne C ⟨by omega, by omega⟩ (tgt := 40) dX11_valueOf_27 (by decide) (fun c27 => ?_) (fun c27 => ?_)
    · refine lv_aload_n C.1 C.2.1 dX11_valueOf_40 rfl (lv_at hl 0 rfl) ?_
      refine g_X11_5 C hM.x (hI 0 (by decide)) wf_X11_57 dX11_valueOf_41 ?_
      refine lv_aload_n C.1 C.2.1 dX11_valueOf_44 rfl (lv_at hl 0 rfl) ?_
      refine g_X11_1 C hM.x (hI 0 (by decide)) wf_X11_22 dX11_valueOf_45 ?_
      refine lv_iload_n C.1 C.2.1 dX11_valueOf_48 rfl (lv_at hl 1 rfl) ?_
      refine x_ciA (fun q h => Or.inr h) (x_runVA (As := [.int (iI i)]) (rest := [.ref (ad 10)]) C (⟨by show _ ≤ (44 : Nat); omega, by show _ ≤ (40 * 44 : Nat); omega⟩) cw_X11_205 (MET.toA (c_X5_moveAt l D ad G ids hI σ 0 (MLs (σ 1) (σ 2 0) (σ 3 0) (σ 4 0)) (σ 1) i (by decide) hL h18 ⟨by omega, by omega⟩)) hM.x (hI _ (by omega)) (cx_lo ad G _ (by decide)) rfl rfl rfl rfl (Nat.le_of_ble_eq_true rfl) hl.1 dX11_valueOf_49 ⟨Nat.le_of_ble_eq_true rfl, Nat.le_of_ble_eq_true rfl⟩) hM (fun r49 s49 H1 lc1 hp hM => ?_)
      obtain ⟨rfl, rfl⟩ := hp
      rw [if_pos (show 0 ≤ i by omega)]
      refine lv_iload_n C.1 C.2.1 dX11_valueOf_52 rfl (lv_at hl 2 rfl) ?_
      refine lv_sipush (v := iI (-9999)) C.1 C.2.1 dX11_valueOf_53 (by decide) ?_
      refine lv_sipush (v := iI 9999) C.1 C.2.1 dX11_valueOf_56 (by decide) ?_
      refine x_ciA (fun q h => Or.inr h) (x_runNA (As := [.int (iI ((MLs (σ 1) (σ 2 0) (σ 3 0) (σ 4 0)).getD (i).toNat (-1))), .int (iI d), .int (iI (-9999)), .int (iI 9999)]) (rest := []) C (⟨by show _ ≤ (44 : Nat); omega, by show _ ≤ (40 * 44 : Nat); omega⟩) cw_X11_235 (MET.toA (c_X10_worthBehind l D ad G ids hI σ (d - 1).toNat ((MLs (σ 1) (σ 2 0) (σ 3 0) (σ 4 0)).getD (i).toNat (-1)) d (-9999) 9999 (by omega) (by omega) (worth_all l D ad G ids hI (d - 1).toNat (by omega)) hG (getD_mem (by omega) (by omega)) (by decide) (by decide))) hM.x (hI 10 (by decide)) (cx_10 ad G _) rfl rfl rfl rfl (Nat.le_of_ble_eq_true rfl) hl.1 dX11_valueOf_59 ⟨Nat.le_of_ble_eq_true rfl, Nat.le_of_ble_eq_true rfl⟩) hM (fun r59 s59 H1 lc1 hp hM => ?_)
      obtain ⟨hzs59, hfs59⟩ := hp
      refine W.widen (k := 1) (n := 6) (Nat.le_of_ble_eq_true rfl) (Nat.le_of_ble_eq_true rfl) ?_
      refine vx_ret ?_
      exact x_iret C hr hM.x ⟨by omega, by rw [← hzs59]; exact congrArg (fun x : Int => -x) (wb_vv hG.2.2.2.2 (by omega) _ _).symm, fun r h1 h2 => hfs59 r (by omega) h2⟩ dX11_valueOf_62
    · exact x_throw (text := "depth is not 1 to 3") C hst hnx hTX hTZ hM hl.1 (hat_IAE C.2.2.2.2.1 hTX) kx_IAE ix_IAE ot_IAE (by decide +kernel) (List.mem_of_getElem? (i := 11) rfl) (Nat.le_of_ble_eq_true rfl) dX11_valueOf_30 dX11_valueOf_33 dX11_valueOf_34 dX11_valueOf_36 dX11_valueOf_39 ⟨Nat.le_of_ble_eq_true rfl, Nat.le_of_ble_eq_true rfl, Nat.le_of_ble_eq_true rfl, Nat.le_of_ble_eq_true rfl⟩ ⟨rfl, Or.inr (⟨rfl, show (0 ≤ i ∧ i < ((MLs (σ 1) (σ 2 0) (σ 3 0) (σ 4 0)).length : Int)) ∧ ¬ (1 ≤ d ∧ d ≤ 3) by omega⟩)⟩
  · exact x_throw (text := "there is no such move") C hst hnx hTX hTZ hM hl.1 (hat_OOB C.2.2.2.2.1 hTX) kx_OOB ix_OOB ot_OOB (by decide +kernel) (List.mem_of_getElem? (i := 6) rfl) (Nat.le_of_ble_eq_true rfl) dX11_valueOf_11 dX11_valueOf_14 dX11_valueOf_15 dX11_valueOf_17 dX11_valueOf_20 ⟨Nat.le_of_ble_eq_true rfl, Nat.le_of_ble_eq_true rfl, Nat.le_of_ble_eq_true rfl, Nat.le_of_ble_eq_true rfl⟩ ⟨rfl, Or.inl ⟨rfl, show ¬ (0 ≤ i ∧ i < ((MLs (σ 1) (σ 2 0) (σ 3 0) (σ 4 0)).length : Int)) by omega⟩⟩
set_option maxRecDepth 100000 in
set_option maxHeartbeats 4000000 in
theorem c_X11_ofSlot (l : Launch) (hst : l.stackTraces = false) (D : va_G) (ad : Nat → Nat) (G : Nat → Nat) (ids : List Nat) (hI : ∀ k, k < 81 → k ∈ ids) (σ : Sg) (sa : Nat → Nat) (s k : Int) (hTI : TI σ) (hs : IR s) (hk : IR k) : VME l yX11_ofSlot cX11_ofSlot 3 (some .int) 7 [.ref (ad 0), .int (iI s), .int (iI k)] D ad G ids σ sa (QI D ad G ids (fun z σ' => ((0 ≤ s ∧ s < σ 9 0) ∧ (0 ≤ k ∧ k ≤ 3)) ∧ tellF σ s k = z ∧ σ = σ')) (fun E τ => σ = τ ∧ ((E = "java/lang/IndexOutOfBoundsException" ∧ ¬ (0 ≤ s ∧ s < σ 9 0)) ∨ (E = "java/lang/IllegalArgumentException" ∧ (0 ≤ s ∧ s < σ 9 0) ∧ ¬ (0 ≤ k ∧ k ≤ 3)))) := by
  have h9 : 0 ≤ σ 9 0 ∧ σ 9 0 ≤ 64 := hTI.1
  unfold IR at hs hk
  refine x_enterV (by decide) (Nat.le_of_ble_eq_true rfl) ?_
  intro pp ee ss mm args below meth cq C hnx hTX hTZ hr ls hl hM
  have hM := hM.e
  have hl : lv_has ls 3 [(0, .ref (ad 0)), (1, .int (iI s)), (2, .int (iI k))] := hl
  refine lv_aload_n C.1 C.2.1 dX11_ofSlot_0 rfl (lv_at hl 0 rfl) ?_
  refine g_X11_4 C hM.x (hI 0 (by decide)) wf_X11_43 dX11_ofSlot_1 ?_
  refine lv_iload_n C.1 C.2.1 dX11_ofSlot_4 rfl (lv_at hl 1 rfl) ?_
  refine x_ciA (fun q h => Or.inr h) (x_runVA (As := [.int (iI s)]) (rest := []) C (⟨by show _ ≤ (7 : Nat); omega, by show _ ≤ (40 * 7 : Nat); omega⟩) cw_X11_265 (MET.toA (c_X8_isSlot l D ad G ids hI σ s hTI ⟨by omega, by omega⟩)) hM.x (hI 4 (by decide)) (cx_4 ad G _) rfl rfl rfl rfl (Nat.le_of_ble_eq_true rfl) hl.1 dX11_ofSlot_5 ⟨Nat.le_of_ble_eq_true rfl, Nat.le_of_ble_eq_true rfl⟩) hM (fun r5 s5 H1 lc1 hp hM => ?_)
  obtain ⟨hbs5, rfl⟩ := hp
  obtain ⟨ts5, ks5⟩ := ite01 hbs5
  refine x_if_ne C ⟨by omega, by omega⟩ (tgt := 22) dX11_ofSlot_8 (by decide) (fun c8 => ?_) (fun c8 => ?_)
  · refine lv_iload_n C.1 C.2.1 dX11_ofSlot_22 rfl (lv_at hl 2 rfl) ?_
    refine lv_iconst (v := iI 0) C.1 C.2.1 dX11_ofSlot_23 (by decide) ?_
    refine lv_iconst (v := iI 3) C.1 C.2.1 dX11_ofSlot_24 (by decide) ?_
    refine x_ciA (fun q h => Or.inr h) (x_runSA (As := [.int (iI k), .int (iI 0), .int (iI 3)]) (rest := []) C (⟨by show _ ≤ (7 : Nat); omega, by show _ ≤ (40 * 7 : Nat); omega⟩) cw_X11_81 (MET.toA (c_X11_isWithin l D ad G ids hI σ k 0 3 (by unfold IR; omega) (by unfold IR; omega) (by unfold IR; omega))) hM.x rfl rfl (Nat.le_of_ble_eq_true rfl) hl.1 dX11_ofSlot_25 ⟨Nat.le_of_ble_eq_true rfl, Nat.le_of_ble_eq_true rfl⟩) hM (fun r25 s25 H1 lc1 hp hM => ?_)
    obtain ⟨hbs25, rfl⟩ := hp
    obtain ⟨ts25, ks25⟩ := ite01 hbs25
    refine x_if_ne C ⟨by omega, by omega⟩ (tgt := 42) dX11_ofSlot_28 (by decide) (fun c28 => ?_) (fun c28 => ?_)
    · refine lv_aload_n C.1 C.2.1 dX11_ofSlot_42 rfl (lv_at hl 0 rfl) ?_
      refine g_X11_4 C hM.x (hI 0 (by decide)) wf_X11_43 dX11_ofSlot_43 ?_
      refine lv_iload_n C.1 C.2.1 dX11_ofSlot_46 rfl (lv_at hl 1 rfl) ?_
      refine lv_iload_n C.1 C.2.1 dX11_ofSlot_47 rfl (lv_at hl 2 rfl) ?_
      refine x_ciA (fun q h => Or.inr h) (x_runVA (As := [.int (iI s), .int (iI k)]) (rest := []) C (⟨by show _ ≤ (7 : Nat); omega, by show _ ≤ (40 * 7 : Nat); omega⟩) cw_X11_272 (MET.toA (c_X8_tell l D ad G ids hI σ s k hTI (by omega) (by omega))) hM.x (hI 4 (by decide)) (cx_4 ad G _) rfl rfl rfl rfl (Nat.le_of_ble_eq_true rfl) hl.1 dX11_ofSlot_48 ⟨Nat.le_of_ble_eq_true rfl, Nat.le_of_ble_eq_true rfl⟩) hM (fun r48 s48 H1 lc1 hp hM => ?_)
      obtain ⟨rfl, rfl⟩ := hp
      refine W.widen (k := 1) (n := 6) (Nat.le_of_ble_eq_true rfl) (Nat.le_of_ble_eq_true rfl) ?_
      refine vx_ret ?_
      exact x_iret C hr hM.x ⟨by omega, rfl, rfl⟩ dX11_ofSlot_51
    · exact x_throwW (text := "what is not 0 to 3") C hst hnx hTX hTZ hM hl.1 (hat_IAE C.2.2.2.2.1 hTX) kx_IAE ix_IAE ot_IAE (by decide +kernel) (List.mem_of_getElem? (i := 15) rfl) (Nat.le_of_ble_eq_true rfl) dX11_ofSlot_31 dX11_ofSlot_34 dX11_ofSlot_35 dX11_ofSlot_38 dX11_ofSlot_41 ⟨Nat.le_of_ble_eq_true rfl, Nat.le_of_ble_eq_true rfl, Nat.le_of_ble_eq_true rfl, Nat.le_of_ble_eq_true rfl⟩ ⟨rfl, Or.inr (⟨rfl, show (0 ≤ s ∧ s < σ 9 0) ∧ ¬ (0 ≤ k ∧ k ≤ 3) by omega⟩)⟩
  · exact x_throwW (text := "there is no such slot") C hst hnx hTX hTZ hM hl.1 (hat_OOB C.2.2.2.2.1 hTX) kx_OOB ix_OOB ot_OOB (by decide +kernel) (List.mem_of_getElem? (i := 14) rfl) (Nat.le_of_ble_eq_true rfl) dX11_ofSlot_11 dX11_ofSlot_14 dX11_ofSlot_15 dX11_ofSlot_18 dX11_ofSlot_21 ⟨Nat.le_of_ble_eq_true rfl, Nat.le_of_ble_eq_true rfl, Nat.le_of_ble_eq_true rfl, Nat.le_of_ble_eq_true rfl⟩ ⟨rfl, Or.inl ⟨rfl, show ¬ (0 ≤ s ∧ s < σ 9 0) by omega⟩⟩
