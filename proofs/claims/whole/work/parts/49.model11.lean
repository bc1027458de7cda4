theorem th_th (σ : Sg) (a b : Int) : th (th σ a) b = th σ b := by
  unfold th
  rw [upr_eq, ups_ups, upr_upr]
def clM (σ : Sg) (n : Int) : Sg := upr (upr σ 209 (ups (σ 209) 0 n)) 211 (wpF (σ 211) 64)
set_option maxRecDepth 100000 in
set_option maxHeartbeats 4000000 in
theorem c_X12_at (l : Launch) (D : va_G) (ad : Nat → Nat) (G : Nat → Nat) (ids : List Nat) (hJ : ∀ k, 100 ≤ k → k < 233 → k ∈ ids) (σ : Sg) (n : Int) (hB : BG (mw σ)) (hn : IR n) : MET l yX12_at cX12_at 2 (some .int) 3 [.ref (ad 100), .int (iI n)] D ad G ids σ (QI D ad G ids (fun z σ' => (if 0 ≤ n ∧ n < σ 202 0 * σ 203 0 then σ 201 n else 0) = z ∧ (if 0 ≤ n ∧ n < σ 202 0 * σ 203 0 then th σ 0 else th σ 1) = σ')) := by
  have w1 : 3 ≤ σ 202 0 := hB.1
  have w2 : σ 202 0 ≤ 5 := hB.2.1
  have h1 : 3 ≤ σ 203 0 := hB.2.2.1
  have h2 : σ 203 0 ≤ 5 := hB.2.2.2
  have wb := wh_bd w1 w2 h1 h2
  have hn0 := hn
  unfold IR at hn
  refine x_enter (by decide) (Nat.le_of_ble_eq_true rfl) ?_
  intro pp ee ss mm args below meth cq C hr ls hl hM
  have hl : lv_has ls 2 [(0, .ref (ad 100)), (1, .int (iI n))] := hl
  refine lv_aload_n C.1 C.2.1 dX12_at_0 rfl (lv_at hl 0 rfl) ?_
  refine lv_iconst (v := iI 0) C.1 C.2.1 dX12_at_1 (by decide) ?_
  refine p_X12_0 C hM (hJ 100 (by decide) (by decide)) wf_X12_64 dX12_at_2 (fun H1 lc1 hM => ?_)
  refine lv_aload_n C.1 C.2.1 dX12_at_5 rfl (lv_at hl 0 rfl) ?_
  refine lv_iload_n C.1 C.2.1 dX12_at_6 rfl (lv_at hl 1 rfl) ?_
  refine x_ci (x_runV (As := [.int (iI n)]) (rest := []) C (by omega) cw_X12_220 (c_X12_isField l D ad G ids hJ (upr σ 232 (ups (σ 232) 0 0)) n hB hn0) hM (hJ 100 (by decide) (by decide)) (cx_100 ad G _) rfl rfl rfl rfl (Nat.le_of_ble_eq_true rfl) hl.1 dX12_at_7) hM (fun r7 s7 H1 lc1 hp hM => ?_)
  obtain ⟨hbs7, rfl⟩ := hp
  have hbs7 : (if 0 ≤ n ∧ n < σ 202 0 * σ 203 0 then (1 : Int) else 0) = r7 := hbs7
  obtain ⟨ts7, ks7⟩ := ite01 hbs7
  refine x_if_eq C ⟨by omega, by omega⟩ (tgt := 22) dX12_at_10 (by decide) (fun c10 => ?_) (fun c10 => ?_)
  · refine lv_aload_n C.1 C.2.1 dX12_at_22 rfl (lv_at hl 0 rfl) ?_
    refine lv_iconst (v := iI 1) C.1 C.2.1 dX12_at_23 (by decide) ?_
    refine x_ci (x_runV (As := [.int (iI 1)]) (rest := []) C (by omega) cw_X12_217 (c_X12_refuse l D ad G ids hJ (upr σ 232 (ups (σ 232) 0 0)) 1) hM (hJ 100 (by decide) (by decide)) (cx_100 ad G _) rfl rfl rfl rfl (Nat.le_of_ble_eq_true rfl) hl.1 dX12_at_24) hM (fun r24 s24 H1 lc1 hp hM => ?_)
    obtain ⟨rfl, rfl⟩ := hp
    exact x_iret C hr hM ⟨if_neg (show ¬ (0 ≤ n ∧ n < σ 202 0 * σ 203 0) by omega), (if_neg (show ¬ (0 ≤ n ∧ n < σ 202 0 * σ 203 0) by omega)).trans (th_th σ 0 1).symm⟩ dX12_at_27
  · refine lv_aload_n C.1 C.2.1 dX12_at_13 rfl (lv_at hl 0 rfl) ?_
    refine g_X12_3 C hM (hJ 100 (by decide) (by decide)) wf_X12_73 dX12_at_14 ?_
    refine lv_iload_n C.1 C.2.1 dX12_at_17 rfl (lv_at hl 1 rfl) ?_
    refine al_now C hM (hJ 101 (by decide) (by decide)) (wh := (σ 202 0 * σ 203 0)) rfl (by omega) (by omega) (by omega) dX12_at_18 ?_
    rw [upr_ne _ _ (show (201 : Nat) ≠ 232 by omega)]
    refine lv_goto (tgt := 27) C.1 C.2.1 dX12_at_19 (by decide) ?_
    exact x_iret C hr hM ⟨if_pos (show 0 ≤ n ∧ n < σ 202 0 * σ 203 0 by omega), if_pos (show 0 ≤ n ∧ n < σ 202 0 * σ 203 0 by omega)⟩ dX12_at_27
set_option maxRecDepth 100000 in
set_option maxHeartbeats 4000000 in
theorem c_X12_setSlots (l : Launch) (D : va_G) (ad : Nat → Nat) (G : Nat → Nat) (ids : List Nat) (hJ : ∀ k, 100 ≤ k → k < 233 → k ∈ ids) (σ : Sg) (n : Int) (hT : TI (mw σ)) (hn : IR n) : MET l yX12_setSlots cX12_setSlots 3 (some .int) 3 [.ref (ad 100), .int (iI n)] D ad G ids σ (QI D ad G ids (fun z σ' => (if 0 ≤ n ∧ n ≤ 64 then σ 209 0 else 0) = z ∧ (if 0 ≤ n ∧ n ≤ 64 then clM (th σ 0) n else th σ 1) = σ')) := by
  unfold IR at hn
  refine x_enter (by decide) (Nat.le_of_ble_eq_true rfl) ?_
  intro pp ee ss mm args below meth cq C hr ls hl hM
  have hl : lv_has ls 3 [(0, .ref (ad 100)), (1, .int (iI n))] := hl
  refine lv_aload_n C.1 C.2.1 dX12_setSlots_0 rfl (lv_at hl 0 rfl) ?_
  refine lv_iconst (v := iI 0) C.1 C.2.1 dX12_setSlots_1 (by decide) ?_
  refine p_X12_0 C hM (hJ 100 (by decide) (by decide)) wf_X12_64 dX12_setSlots_2 (fun H1 lc1 hM => ?_)
  refine lv_iload_n C.1 C.2.1 dX12_setSlots_5 rfl (lv_at hl 1 rfl) ?_
  refine lv_iconst (v := iI 0) C.1 C.2.1 dX12_setSlots_6 (by decide) ?_
  refine lv_bipush (v := iI 64) C.1 C.2.1 dX12_setSlots_7 (by decide) ?_
  refine x_ci (x_runS (As := [.int (iI n), .int (iI 0), .int (iI 64)]) (rest := []) C (by omega) cw_X12_83 (c_X12_is l D ad G ids hJ (upr σ 232 (ups (σ 232) 0 0)) n 0 64 (by omega) (by omega) (by omega)) hM rfl rfl (Nat.le_of_ble_eq_true rfl) hl.1 dX12_setSlots_9) hM (fun r9 s9 H1 lc1 hp hM => ?_)
  obtain ⟨hbs9, rfl⟩ := hp
  obtain ⟨ts9, ks9⟩ := ite01 hbs9
  refine x_if_ne C ⟨by omega, by omega⟩ (tgt := 21) dX12_setSlots_12 (by decide) (fun c12 => ?_) (fun c12 => ?_)
  · refine lv_aload_n C.1 C.2.1 dX12_setSlots_21 rfl (lv_at hl 0 rfl) ?_
    refine g_X12_11 C hM (hJ 100 (by decide) (by decide)) wf_X12_32 dX12_setSlots_22 ?_
    rw [upr_ne _ _ (show (209 : Nat) ≠ 232 by omega)]
    refine lv_istore_n (lv' := [(2, .int (iI (σ 209 0))), (0, .ref (ad 100)), (1, .int (iI n))]) C.1 C.2.1 dX12_setSlots_25 rfl hl (by decide) rfl (fun ls hl => ?_)
    refine lv_aload_n C.1 C.2.1 dX12_setSlots_26 rfl (lv_at hl 1 rfl) ?_
    refine lv_iload_n C.1 C.2.1 dX12_setSlots_27 rfl (lv_at hl 2 rfl) ?_
    refine x_ci (x_runV (As := [.int (iI n)]) (rest := []) C (by omega) cw_X12_79 (c_X12_clear l D ad G ids hJ (upr σ 232 (ups (σ 232) 0 0)) n (TI_th 0 hT)) hM (hJ 100 (by decide) (by decide)) (cx_100 ad G _) rfl rfl rfl rfl (Nat.le_of_ble_eq_true rfl) hl.1 dX12_setSlots_28) hM (fun r28 s28 H1 lc1 hp hM => ?_)
    obtain ⟨rfl, rfl⟩ := hp
    refine lv_pop C.1 C.2.1 dX12_setSlots_31 rfl ?_
    refine lv_iload_n C.1 C.2.1 dX12_setSlots_32 rfl (lv_at hl 0 rfl) ?_
    exact x_iret C hr hM ⟨if_pos (show 0 ≤ n ∧ n ≤ 64 by omega), if_pos (show 0 ≤ n ∧ n ≤ 64 by omega)⟩ dX12_setSlots_33
  · refine lv_aload_n C.1 C.2.1 dX12_setSlots_15 rfl (lv_at hl 0 rfl) ?_
    refine lv_iconst (v := iI 1) C.1 C.2.1 dX12_setSlots_16 (by decide) ?_
    refine x_ci (x_runV (As := [.int (iI 1)]) (rest := []) C (by omega) cw_X12_217 (c_X12_refuse l D ad G ids hJ (upr σ 232 (ups (σ 232) 0 0)) 1) hM (hJ 100 (by decide) (by decide)) (cx_100 ad G _) rfl rfl rfl rfl (Nat.le_of_ble_eq_true rfl) hl.1 dX12_setSlots_17) hM (fun r17 s17 H1 lc1 hp hM => ?_)
    obtain ⟨rfl, rfl⟩ := hp
    exact x_iret C hr hM ⟨if_neg (show ¬ (0 ≤ n ∧ n ≤ 64) by omega), (if_neg (show ¬ (0 ≤ n ∧ n ≤ 64) by omega)).trans (th_th σ 0 1).symm⟩ dX12_setSlots_20
set_option maxRecDepth 100000 in
set_option maxHeartbeats 4000000 in
theorem c_X12_empty (l : Launch) (D : va_G) (ad : Nat → Nat) (G : Nat → Nat) (ids : List Nat) (hJ : ∀ k, 100 ≤ k → k < 233 → k ∈ ids) (σ : Sg)  (hT : TI (mw σ)) : MET l yX12_empty cX12_empty 1 (some .int) 3 [.ref (ad 100)] D ad G ids σ (QI D ad G ids (fun z σ' => cntE (σ 211) 64 = z ∧ clM (th σ 0) (σ 209 0) = σ')) := by
  refine x_enter (by decide) (Nat.le_of_ble_eq_true rfl) ?_
  intro pp ee ss mm args below meth cq C hr ls hl hM
  have hl : lv_has ls 1 [(0, .ref (ad 100))] := hl
  refine lv_aload_n C.1 C.2.1 dX12_empty_0 rfl (lv_at hl 0 rfl) ?_
  refine lv_iconst (v := iI 0) C.1 C.2.1 dX12_empty_1 (by decide) ?_
  refine p_X12_0 C hM (hJ 100 (by decide) (by decide)) wf_X12_64 dX12_empty_2 (fun H1 lc1 hM => ?_)
  refine lv_aload_n C.1 C.2.1 dX12_empty_5 rfl (lv_at hl 0 rfl) ?_
  refine lv_aload_n C.1 C.2.1 dX12_empty_6 rfl (lv_at hl 0 rfl) ?_
  refine g_X12_11 C hM (hJ 100 (by decide) (by decide)) wf_X12_32 dX12_empty_7 ?_
  rw [upr_ne _ _ (show (209 : Nat) ≠ 232 by omega)]
  refine x_ci (x_runV (As := [.int (iI (σ 209 0))]) (rest := []) C (by omega) cw_X12_79 (c_X12_clear l D ad G ids hJ (upr σ 232 (ups (σ 232) 0 0)) (σ 209 0) (TI_th 0 hT)) hM (hJ 100 (by decide) (by decide)) (cx_100 ad G _) rfl rfl rfl rfl (Nat.le_of_ble_eq_true rfl) hl.1 dX12_empty_10) hM (fun r10 s10 H1 lc1 hp hM => ?_)
  obtain ⟨rfl, rfl⟩ := hp
  exact x_iret C hr hM ⟨rfl, rfl⟩ dX12_empty_13
set_option maxRecDepth 100000 in
set_option maxHeartbeats 4000000 in
theorem c_X12_setQuiet (l : Launch) (D : va_G) (ad : Nat → Nat) (G : Nat → Nat) (ids : List Nat) (hJ : ∀ k, 100 ≤ k → k < 233 → k ∈ ids) (σ : Sg) (n : Int) (hT : TI (mw σ)) (hn : n = 0 ∨ n = 1) (hq : σ 208 0 = 0 ∨ σ 208 0 = 1) : MET l yX12_setQuiet cX12_setQuiet 3 (some .boolean) 3 [.ref (ad 100), .int (iI n)] D ad G ids σ (QI D ad G ids (fun z σ' => σ 208 0 = z ∧ (if σ 208 0 = n then upr (th σ 0) 208 (ups (σ 208) 0 n) else clM (upr (th σ 0) 208 (ups (σ 208) 0 n)) (σ 209 0)) = σ')) := by
  refine x_enter (by decide) (Nat.le_of_ble_eq_true rfl) ?_
  intro pp ee ss mm args below meth cq C hr ls hl hM
  have hl : lv_has ls 3 [(0, .ref (ad 100)), (1, .int (iI n))] := hl
  refine lv_aload_n C.1 C.2.1 dX12_setQuiet_0 rfl (lv_at hl 0 rfl) ?_
  refine lv_iconst (v := iI 0) C.1 C.2.1 dX12_setQuiet_1 (by decide) ?_
  refine p_X12_0 C hM (hJ 100 (by decide) (by decide)) wf_X12_64 dX12_setQuiet_2 (fun H1 lc1 hM => ?_)
  refine lv_aload_n C.1 C.2.1 dX12_setQuiet_5 rfl (lv_at hl 0 rfl) ?_
  refine g_X12_9 C hM (hJ 100 (by decide) (by decide)) wf_X12_23 dX12_setQuiet_6 ?_
  rw [upr_ne _ _ (show (208 : Nat) ≠ 232 by omega)]
  refine lv_istore_n (lv' := [(2, .int (iI (σ 208 0))), (0, .ref (ad 100)), (1, .int (iI n))]) C.1 C.2.1 dX12_setQuiet_9 rfl hl (by decide) rfl (fun ls hl => ?_)
  refine lv_aload_n C.1 C.2.1 dX12_setQuiet_10 rfl (lv_at hl 1 rfl) ?_
  refine lv_iload_n C.1 C.2.1 dX12_setQuiet_11 rfl (lv_at hl 2 rfl) ?_
  refine p_X12_9 C hM (hJ 100 (by decide) (by decide)) wf_X12_23 (by omega) dX12_setQuiet_12 (fun H1 lc1 hM => ?_)
  refine lv_iload_n C.1 C.2.1 dX12_setQuiet_15 rfl (lv_at hl 0 rfl) ?_
  refine lv_iload_n C.1 C.2.1 dX12_setQuiet_16 rfl (lv_at hl 2 rfl) ?_
  refine x_icmp_eq C ⟨by omega, by omega⟩ ⟨by omega, by omega⟩ (tgt := 29) dX12_setQuiet_17 (by decide) (fun c17 => ?_) (fun c17 => ?_)
  · refine lv_iload_n C.1 C.2.1 dX12_setQuiet_29 rfl (lv_at hl 0 rfl) ?_
    exact x_zret C hr hM (by first | exact Or.inl rfl | exact Or.inr rfl | omega) ⟨rfl, if_pos (by omega)⟩ dX12_setQuiet_30
  · refine lv_aload_n C.1 C.2.1 dX12_setQuiet_20 rfl (lv_at hl 1 rfl) ?_
    refine lv_aload_n C.1 C.2.1 dX12_setQuiet_21 rfl (lv_at hl 1 rfl) ?_
    refine g_X12_11 C hM (hJ 100 (by decide) (by decide)) wf_X12_32 dX12_setQuiet_22 ?_
    rw [upr_ne _ _ (show (209 : Nat) ≠ 208 by omega)]
    rw [upr_ne _ _ (show (209 : Nat) ≠ 232 by omega)]
    refine x_ci (x_runV (As := [.int (iI (σ 209 0))]) (rest := []) C (by omega) cw_X12_79 (c_X12_clear l D ad G ids hJ (upr (upr σ 232 (ups (σ 232) 0 0)) 208 (ups ((upr σ 232 (ups (σ 232) 0 0)) 208) 0 n)) (σ 209 0) (hT.of (fun r hr => (upr_ne _ _ (by omega)).trans (upr_ne _ _ (by omega))))) hM (hJ 100 (by decide) (by decide)) (cx_100 ad G _) rfl rfl rfl rfl (Nat.le_of_ble_eq_true rfl) hl.1 dX12_setQuiet_25) hM (fun r25 s25 H1 lc1 hp hM => ?_)
    obtain ⟨rfl, rfl⟩ := hp
    refine lv_pop C.1 C.2.1 dX12_setQuiet_28 rfl ?_
    refine lv_iload_n C.1 C.2.1 dX12_setQuiet_29 rfl (lv_at hl 0 rfl) ?_
    exact x_zret C hr hM (by first | exact Or.inl rfl | exact Or.inr rfl | omega) ⟨rfl, if_neg (by omega)⟩ dX12_setQuiet_30
set_option maxRecDepth 100000 in
set_option maxHeartbeats 4000000 in
theorem c_X12_setSide (l : Launch) (D : va_G) (ad : Nat → Nat) (G : Nat → Nat) (ids : List Nat) (hJ : ∀ k, 100 ≤ k → k < 233 → k ∈ ids) (σ : Sg) (n : Int) (hB : BG (mw σ)) (hn : IR n) : MET l yX12_setSide cX12_setSide 3 (some .int) 3 [.ref (ad 100), .int (iI n)] D ad G ids σ (QI D ad G ids (fun z σ' => (if 0 ≤ n ∧ n ≤ 1 then σ 204 0 else 0) = z ∧ (if 0 ≤ n ∧ n ≤ 1 then upr (upr (th σ 0) 204 (ups (σ 204) 0 n)) 230 (ups (σ 230) 0 0) else th σ 1) = σ')) := by
  have w1 : 3 ≤ σ 202 0 := hB.1
  have w2 : σ 202 0 ≤ 5 := hB.2.1
  have h1 : 3 ≤ σ 203 0 := hB.2.2.1
  have h2 : σ 203 0 ≤ 5 := hB.2.2.2
  have wb := wh_bd w1 w2 h1 h2
  unfold IR at hn
  refine x_enter (by decide) (Nat.le_of_ble_eq_true rfl) ?_
  intro pp ee ss mm args below meth cq C hr ls hl hM
  have hl : lv_has ls 3 [(0, .ref (ad 100)), (1, .int (iI n))] := hl
  refine lv_aload_n C.1 C.2.1 dX12_setSide_0 rfl (lv_at hl 0 rfl) ?_
  refine lv_iconst (v := iI 0) C.1 C.2.1 dX12_setSide_1 (by decide) ?_
  refine p_X12_0 C hM (hJ 100 (by decide) (by decide)) wf_X12_64 dX12_setSide_2 (fun H1 lc1 hM => ?_)
  refine lv_iload_n C.1 C.2.1 dX12_setSide_5 rfl (lv_at hl 1 rfl) ?_
  refine lv_iconst (v := iI 0) C.1 C.2.1 dX12_setSide_6 (by decide) ?_
  refine lv_iconst (v := iI 1) C.1 C.2.1 dX12_setSide_7 (by decide) ?_
  refine x_ci (x_runS (As := [.int (iI n), .int (iI 0), .int (iI 1)]) (rest := []) C (by omega) cw_X12_83 (c_X12_is l D ad G ids hJ (upr σ 232 (ups (σ 232) 0 0)) n 0 1 (by unfold IR; omega) (by unfold IR; omega) (by unfold IR; omega)) hM rfl rfl (Nat.le_of_ble_eq_true rfl) hl.1 dX12_setSide_8) hM (fun r8 s8 H1 lc1 hp hM => ?_)
  obtain ⟨hbs8, rfl⟩ := hp
  obtain ⟨ts8, ks8⟩ := ite01 hbs8
  refine x_if_ne C ⟨by omega, by omega⟩ (tgt := 20) dX12_setSide_11 (by decide) (fun c11 => ?_) (fun c11 => ?_)
  · refine lv_aload_n C.1 C.2.1 dX12_setSide_20 rfl (lv_at hl 0 rfl) ?_
    refine x_ci (x_runV (As := []) (rest := []) C (by omega) cw_X12_94 (c_X12_sideNow l D ad G ids hJ (upr σ 232 (ups (σ 232) 0 0)) hB) hM (hJ 100 (by decide) (by decide)) (cx_100 ad G _) rfl rfl rfl rfl (Nat.le_of_ble_eq_true rfl) hl.1 dX12_setSide_21) hM (fun r21 s21 H1 lc1 hp hM => ?_)
    obtain ⟨rfl, rfl⟩ := hp
    refine lv_istore_n (lv' := [(2, .int (iI ((upr σ 232 (ups (σ 232) 0 0)) 204 0))), (0, .ref (ad 100)), (1, .int (iI n))]) C.1 C.2.1 dX12_setSide_24 rfl hl (by decide) rfl (fun ls hl => ?_)
    refine lv_aload_n C.1 C.2.1 dX12_setSide_25 rfl (lv_at hl 1 rfl) ?_
    refine g_X12_3 C hM (hJ 100 (by decide) (by decide)) wf_X12_73 dX12_setSide_26 ?_
    refine lv_aload_n C.1 C.2.1 dX12_setSide_29 rfl (lv_at hl 1 rfl) ?_
    refine g_X12_3 C hM (hJ 100 (by decide) (by decide)) wf_X12_73 dX12_setSide_30 ?_
    refine ln_now C hM (hJ 101 (by decide) (by decide)) (wh := (σ 202 0 * σ 203 0)) rfl (by omega) dX12_setSide_33 ?_
    refine lv_iconst (v := iI 1) C.1 C.2.1 dX12_setSide_34 (by decide) ?_
    refine x_isub C dX12_setSide_35 ?_
    refine lv_iload_n C.1 C.2.1 dX12_setSide_36 rfl (lv_at hl 2 rfl) ?_
    refine as_nowS C hM (hJ 101 (by decide) (by decide)) (wh := (σ 202 0 * σ 203 0)) rfl (by omega) (by omega) dX12_setSide_37 (fun H1 lc1 hM => ?_)
    refine lv_aload_n C.1 C.2.1 dX12_setSide_38 rfl (lv_at hl 1 rfl) ?_
    refine lv_iconst (v := iI 0) C.1 C.2.1 dX12_setSide_39 (by decide) ?_
    refine p_X12_5 C hM (hJ 100 (by decide) (by decide)) wf_X12_76 dX12_setSide_40 (fun H1 lc1 hM => ?_)
    refine lv_iload_n C.1 C.2.1 dX12_setSide_43 rfl (lv_at hl 0 rfl) ?_
    exact x_iret C hr hM ⟨if_pos (show 0 ≤ n ∧ n ≤ 1 by omega), if_pos (show 0 ≤ n ∧ n ≤ 1 by omega)⟩ dX12_setSide_44
  · refine lv_aload_n C.1 C.2.1 dX12_setSide_14 rfl (lv_at hl 0 rfl) ?_
    refine lv_iconst (v := iI 1) C.1 C.2.1 dX12_setSide_15 (by decide) ?_
    refine x_ci (x_runV (As := [.int (iI 1)]) (rest := []) C (by omega) cw_X12_217 (c_X12_refuse l D ad G ids hJ (upr σ 232 (ups (σ 232) 0 0)) 1) hM (hJ 100 (by decide) (by decide)) (cx_100 ad G _) rfl rfl rfl rfl (Nat.le_of_ble_eq_true rfl) hl.1 dX12_setSide_16) hM (fun r16 s16 H1 lc1 hp hM => ?_)
    obtain ⟨rfl, rfl⟩ := hp
    exact x_iret C hr hM ⟨if_neg (show ¬ (0 ≤ n ∧ n ≤ 1) by omega), (if_neg (show ¬ (0 ≤ n ∧ n ≤ 1) by omega)).trans (th_th σ 0 1).symm⟩ dX12_setSide_19
set_option maxRecDepth 100000 in
set_option maxHeartbeats 4000000 in
theorem c_X12_toldOf (l : Launch) (D : va_G) (ad : Nat → Nat) (G : Nat → Nat) (ids : List Nat) (hJ : ∀ k, 100 ≤ k → k < 233 → k ∈ ids) (σ : Sg) (s k : Int) (hT : TI (mw σ)) (hs : 0 ≤ s ∧ s < 64) (hk : 0 ≤ k ∧ k ≤ 3) : MET l yX12_toldOf cX12_toldOf 3 (some .int) 1 [.ref (ad 100), .int (iI s), .int (iI k)] D ad G ids σ (QI D ad G ids (fun z σ' => tellF (mw σ) s k = z ∧ σ = σ')) := by
  have hq : 0 ≤ σ 211 s ∧ σ 211 s ≤ 4 := (hT.2.1 s).1
  refine x_enter (by decide) (Nat.le_of_ble_eq_true rfl) ?_
  intro pp ee ss mm args below meth cq C hr ls hl hM
  have hl : lv_has ls 3 [(0, .ref (ad 100)), (1, .int (iI s)), (2, .int (iI k))] := hl
  refine lv_aload_n C.1 C.2.1 dX12_toldOf_0 rfl (lv_at hl 0 rfl) ?_
  refine g_X12_13 C hM (hJ 100 (by decide) (by decide)) wf_X12_39 dX12_toldOf_1 ?_
  refine lv_iload_n C.1 C.2.1 dX12_toldOf_4 rfl (lv_at hl 1 rfl) ?_
  refine aaz_slot C hM (hJ 117 (by decide) (by decide)) (by omega) (by omega) dX12_toldOf_5 ?_
  refine lv_iconst (v := iI 0) C.1 C.2.1 dX12_toldOf_6 (by decide) ?_
  refine alz_ts0 C hM (by omega) (by omega) (hJ _ (by omega) (by omega)) dX12_toldOf_7 ?_
  refine x_if_ne C ⟨by omega, by omega⟩ (tgt := 15) dX12_toldOf_8 (by decide) (fun c8 => ?_) (fun c8 => ?_)
  · refine lv_aload_n C.1 C.2.1 dX12_toldOf_15 rfl (lv_at hl 0 rfl) ?_
    refine g_X12_13 C hM (hJ 100 (by decide) (by decide)) wf_X12_39 dX12_toldOf_16 ?_
    refine lv_iload_n C.1 C.2.1 dX12_toldOf_19 rfl (lv_at hl 1 rfl) ?_
    refine aaz_slot C hM (hJ 117 (by decide) (by decide)) (by omega) (by omega) dX12_toldOf_20 ?_
    refine lv_iload_n C.1 C.2.1 dX12_toldOf_21 rfl (lv_at hl 2 rfl) ?_
    refine alz_ts C hM (by omega) (by omega) (hJ _ (by omega) (by omega)) hk.1 (by omega) dX12_toldOf_22 ?_
    refine x_iret C hr hM ?_ dX12_toldOf_23
    exact ⟨by
      refine (if_neg (show ¬ σ 211 s = 0 by omega)).trans ?_
      obtain rfl | rfl | rfl | rfl : k = 0 ∨ k = 1 ∨ k = 2 ∨ k = 3 := by omega
      all_goals rfl, rfl⟩
  · refine lv_iconst (v := iI (-1)) C.1 C.2.1 dX12_toldOf_11 (by decide) ?_
    refine lv_goto (tgt := 23) C.1 C.2.1 dX12_toldOf_12 (by decide) ?_
    exact x_iret C hr hM ⟨if_pos (show σ 211 s = 0 by omega), rfl⟩ dX12_toldOf_23
set_option maxRecDepth 100000 in
set_option maxHeartbeats 4000000 in
theorem c_X12_knownNow (l : Launch) (D : va_G) (ad : Nat → Nat) (G : Nat → Nat) (ids : List Nat) (hJ : ∀ k, 100 ≤ k → k < 233 → k ∈ ids) (σ : Sg)  (hG : GI (mw σ)) (hT : TI (mw σ)) : MET l yX12_knownNow cX12_knownNow 2 (some .int) 3 [.ref (ad 100)] D ad G ids σ (QI D ad G ids (fun z σ' => (if fndT (mw σ) (keyS (cfg (mw σ)) (σ 201) (σ 204 0)) = -1 then 0 else σ 211 (fndT (mw σ) (keyS (cfg (mw σ)) (σ 201) (σ 204 0)))) = z ∧ σ = σ')) := by
  have hB : BG (mw σ) := hG.1
  have w1 : 3 ≤ σ 202 0 := hB.1
  have w2 : σ 202 0 ≤ 5 := hB.2.1
  have h1 : 3 ≤ σ 203 0 := hB.2.2.1
  have h2 : σ 203 0 ≤ 5 := hB.2.2.2
  have wb := wh_bd w1 w2 h1 h2
  have hC : BC (σ 201) := hG.2.1
  have hs : σ 204 0 = 0 ∨ σ 204 0 = 1 := hG.2.2.1
  have hkey : 0 ≤ (keyS (cfg (mw σ)) (σ 201) (σ 204 0)) ∧ (keyS (cfg (mw σ)) (σ 201) (σ 204 0)) < 4000000000000000000 := SB_key hG
  refine x_enter (by decide) (Nat.le_of_ble_eq_true rfl) ?_
  intro pp ee ss mm args below meth cq C hr ls hl hM
  have hl : lv_has ls 2 [(0, .ref (ad 100))] := hl
  refine lv_aload_n C.1 C.2.1 dX12_knownNow_0 rfl (lv_at hl 0 rfl) ?_
  refine lv_aload_n C.1 C.2.1 dX12_knownNow_1 rfl (lv_at hl 0 rfl) ?_
  refine x_cl (x_runV (As := []) (rest := [.ref (ad 100)]) C (by omega) cw_X12_157 (c_X12_keyNow l D ad G ids hJ σ hB hC (by unfold IR; omega)) hM (hJ 100 (by decide) (by decide)) (cx_100 ad G _) rfl rfl rfl rfl (Nat.le_of_ble_eq_true rfl) hl.1 dX12_knownNow_2) hM (fun r2 s2 H1 lc1 hp hM => ?_)
  obtain ⟨rfl, rfl⟩ := hp
  have hke : keyF (σ 201) (σ 202 0 * σ 203 0).toNat * 2 + σ 204 0 = (keyS (cfg (mw σ)) (σ 201) (σ 204 0)) := rfl
  rw [hke]
  refine x_ci (x_runV (As := [.long (jI (keyS (cfg (mw σ)) (σ 201) (σ 204 0)))]) (rest := []) C (by omega) cw_X12_175 (c_X12_slotOf l D ad G ids hJ σ (keyS (cfg (mw σ)) (σ 201) (σ 204 0)) hT hkey) hM (hJ 100 (by decide) (by decide)) (cx_100 ad G _) rfl rfl rfl rfl (Nat.le_of_ble_eq_true rfl) hl.1 dX12_knownNow_5) hM (fun r5 s5 H1 lc1 hp hM => ?_)
  obtain ⟨hbs5, rfl⟩ := hp
  have hcs : (0 ≤ r5 ∧ r5 < 64 ∧ 0 < σ 211 r5 ∧ σ 210 r5 = (keyS (cfg (mw σ)) (σ 201) (σ 204 0))) ∨ r5 = -1 := fnd_cs hT hbs5
  refine lv_istore_n (lv' := [(1, .int (iI r5)), (0, .ref (ad 100))]) C.1 C.2.1 dX12_knownNow_8 rfl hl (by decide) rfl (fun ls hl => ?_)
  refine lv_iload_n C.1 C.2.1 dX12_knownNow_9 rfl (lv_at hl 0 rfl) ?_
  refine lv_iconst (v := iI (-1)) C.1 C.2.1 dX12_knownNow_10 (by decide) ?_
  refine x_icmp_ne C ⟨by omega, by omega⟩ ⟨by omega, by omega⟩ (tgt := 18) dX12_knownNow_11 (by decide) (fun c11 => ?_) (fun c11 => ?_)
  · refine lv_aload_n C.1 C.2.1 dX12_knownNow_18 rfl (lv_at hl 1 rfl) ?_
    refine g_X12_13 C hM (hJ 100 (by decide) (by decide)) wf_X12_39 dX12_knownNow_19 ?_
    refine lv_iload_n C.1 C.2.1 dX12_knownNow_22 rfl (lv_at hl 0 rfl) ?_
    refine aaz_slot C hM (hJ 117 (by decide) (by decide)) (by omega) (by omega) dX12_knownNow_23 ?_
    refine lv_iconst (v := iI 0) C.1 C.2.1 dX12_knownNow_24 (by decide) ?_
    refine alz_ts0 C hM (by omega) (by omega) (hJ _ (by omega) (by omega)) dX12_knownNow_25 ?_
    exact x_iret C hr hM ⟨by rw [hbs5]; exact if_neg (by omega), rfl⟩ dX12_knownNow_26
  · refine lv_iconst (v := iI 0) C.1 C.2.1 dX12_knownNow_14 (by decide) ?_
    refine lv_goto (tgt := 26) C.1 C.2.1 dX12_knownNow_15 (by decide) ?_
    exact x_iret C hr hM ⟨by rw [hbs5]; exact if_pos (by omega), rfl⟩ dX12_knownNow_26
set_option maxRecDepth 100000 in
set_option maxHeartbeats 4000000 in
theorem c_X12_ofSlot (l : Launch) (D : va_G) (ad : Nat → Nat) (G : Nat → Nat) (ids : List Nat) (hJ : ∀ k, 100 ≤ k → k < 233 → k ∈ ids) (σ : Sg) (s k : Int) (hT : TI (mw σ)) (hs : IR s) (hk : IR k) : MET l yX12_ofSlot cX12_ofSlot 3 (some .int) 3 [.ref (ad 100), .int (iI s), .int (iI k)] D ad G ids σ (QI D ad G ids (fun z σ' => (if (0 ≤ s ∧ s ≤ σ 209 0 - 1) ∧ (0 ≤ k ∧ k ≤ 3) then tellF (mw σ) s k else 0) = z ∧ (if 0 ≤ s ∧ s ≤ σ 209 0 - 1 then (if 0 ≤ k ∧ k ≤ 3 then th σ 0 else th σ 2) else th σ 1) = σ')) := by
  have h9 : 0 ≤ σ 209 0 ∧ σ 209 0 ≤ 64 := hT.1
  unfold IR at hs hk
  refine x_enter (by decide) (Nat.le_of_ble_eq_true rfl) ?_
  intro pp ee ss mm args below meth cq C hr ls hl hM
  have hl : lv_has ls 3 [(0, .ref (ad 100)), (1, .int (iI s)), (2, .int (iI k))] := hl
  refine lv_aload_n C.1 C.2.1 dX12_ofSlot_0 rfl (lv_at hl 0 rfl) ?_
  refine lv_iconst (v := iI 0) C.1 C.2.1 dX12_ofSlot_1 (by decide) ?_
  refine p_X12_0 C hM (hJ 100 (by decide) (by decide)) wf_X12_64 dX12_ofSlot_2 (fun H1 lc1 hM => ?_)
  refine lv_iload_n C.1 C.2.1 dX12_ofSlot_5 rfl (lv_at hl 1 rfl) ?_
  refine lv_iconst (v := iI 0) C.1 C.2.1 dX12_ofSlot_6 (by decide) ?_
  refine lv_aload_n C.1 C.2.1 dX12_ofSlot_7 rfl (lv_at hl 0 rfl) ?_
  refine g_X12_11 C hM (hJ 100 (by decide) (by decide)) wf_X12_32 dX12_ofSlot_8 ?_
  rw [upr_ne _ _ (show (209 : Nat) ≠ 232 by omega)]
  refine lv_iconst (v := iI 1) C.1 C.2.1 dX12_ofSlot_11 (by decide) ?_
  refine x_isub C dX12_ofSlot_12 ?_
  refine x_ci (x_runS (As := [.int (iI s), .int (iI 0), .int (iI ((σ 209 0) - 1))]) (rest := []) C (by omega) cw_X12_83 (c_X12_is l D ad G ids hJ (upr σ 232 (ups (σ 232) 0 0)) s 0 ((σ 209 0) - 1) (by unfold IR; omega) (by unfold IR; omega) (by unfold IR; omega)) hM rfl rfl (Nat.le_of_ble_eq_true rfl) hl.1 dX12_ofSlot_13) hM (fun r13 s13 H1 lc1 hp hM => ?_)
  obtain ⟨hbs13, rfl⟩ := hp
  obtain ⟨ts13, ks13⟩ := ite01 hbs13
  refine x_if_ne C ⟨by omega, by omega⟩ (tgt := 25) dX12_ofSlot_16 (by decide) (fun c16 => ?_) (fun c16 => ?_)
  · refine lv_iload_n C.1 C.2.1 dX12_ofSlot_25 rfl (lv_at hl 2 rfl) ?_
    refine lv_iconst (v := iI 0) C.1 C.2.1 dX12_ofSlot_26 (by decide) ?_
    refine lv_iconst (v := iI 3) C.1 C.2.1 dX12_ofSlot_27 (by decide) ?_
    refine x_ci (x_runS (As := [.int (iI k), .int (iI 0), .int (iI 3)]) (rest := []) C (by omega) cw_X12_83 (c_X12_is l D ad G ids hJ (upr σ 232 (ups (σ 232) 0 0)) k 0 3 (by unfold IR; omega) (by unfold IR; omega) (by unfold IR; omega)) hM rfl rfl (Nat.le_of_ble_eq_true rfl) hl.1 dX12_ofSlot_28) hM (fun r28 s28 H1 lc1 hp hM => ?_)
    obtain ⟨hbs28, rfl⟩ := hp
    obtain ⟨ts28, ks28⟩ := ite01 hbs28
    refine x_if_eq C ⟨by omega, by omega⟩ (tgt := 43) dX12_ofSlot_31 (by decide) (fun c31 => ?_) (fun c31 => ?_)
    · refine lv_aload_n C.1 C.2.1 dX12_ofSlot_43 rfl (lv_at hl 0 rfl) ?_
      refine lv_iconst (v := iI 2) C.1 C.2.1 dX12_ofSlot_44 (by decide) ?_
      refine x_ci (x_runV (As := [.int (iI 2)]) (rest := []) C (by omega) cw_X12_217 (c_X12_refuse l D ad G ids hJ (upr σ 232 (ups (σ 232) 0 0)) 2) hM (hJ 100 (by decide) (by decide)) (cx_100 ad G _) rfl rfl rfl rfl (Nat.le_of_ble_eq_true rfl) hl.1 dX12_ofSlot_45) hM (fun r45 s45 H1 lc1 hp hM => ?_)
      obtain ⟨rfl, rfl⟩ := hp
      exact x_iret C hr hM ⟨if_neg (by omega), (if_pos (show 0 ≤ s ∧ s ≤ σ 209 0 - 1 by omega)).trans ((if_neg (show ¬ (0 ≤ k ∧ k ≤ 3) by omega)).trans (th_th σ 0 2).symm)⟩ dX12_ofSlot_48
    · refine lv_aload_n C.1 C.2.1 dX12_ofSlot_34 rfl (lv_at hl 0 rfl) ?_
      refine lv_iload_n C.1 C.2.1 dX12_ofSlot_35 rfl (lv_at hl 1 rfl) ?_
      refine lv_iload_n C.1 C.2.1 dX12_ofSlot_36 rfl (lv_at hl 2 rfl) ?_
      refine x_ci (x_runV (As := [.int (iI s), .int (iI k)]) (rest := []) C (by omega) cw_X12_244 (c_X12_toldOf l D ad G ids hJ (upr σ 232 (ups (σ 232) 0 0)) s k (TI_th 0 hT) (by omega) (by omega)) hM (hJ 100 (by decide) (by decide)) (cx_100 ad G _) rfl rfl rfl rfl (Nat.le_of_ble_eq_true rfl) hl.1 dX12_ofSlot_37) hM (fun r37 s37 H1 lc1 hp hM => ?_)
      obtain ⟨rfl, rfl⟩ := hp
      refine lv_goto (tgt := 48) C.1 C.2.1 dX12_ofSlot_40 (by decide) ?_
      exact x_iret C hr hM ⟨if_pos ⟨by omega, by omega⟩, (if_pos (show 0 ≤ s ∧ s ≤ σ 209 0 - 1 by omega)).trans (if_pos (show 0 ≤ k ∧ k ≤ 3 by omega))⟩ dX12_ofSlot_48
  · refine lv_aload_n C.1 C.2.1 dX12_ofSlot_19 rfl (lv_at hl 0 rfl) ?_
    refine lv_iconst (v := iI 1) C.1 C.2.1 dX12_ofSlot_20 (by decide) ?_
    refine x_ci (x_runV (As := [.int (iI 1)]) (rest := []) C (by omega) cw_X12_217 (c_X12_refuse l D ad G ids hJ (upr σ 232 (ups (σ 232) 0 0)) 1) hM (hJ 100 (by decide) (by decide)) (cx_100 ad G _) rfl rfl rfl rfl (Nat.le_of_ble_eq_true rfl) hl.1 dX12_ofSlot_21) hM (fun r21 s21 H1 lc1 hp hM => ?_)
    obtain ⟨rfl, rfl⟩ := hp
    exact x_iret C hr hM ⟨if_neg (by omega), (if_neg (show ¬ (0 ≤ s ∧ s ≤ σ 209 0 - 1) by omega)).trans (th_th σ 0 1).symm⟩ dX12_ofSlot_24
set_option maxRecDepth 100000 in
set_option maxHeartbeats 4000000 in
theorem c_X12_killerAt (l : Launch) (D : va_G) (ad : Nat → Nat) (G : Nat → Nat) (ids : List Nat) (hJ : ∀ k, 100 ≤ k → k < 233 → k ∈ ids) (σ : Sg) (d o : Int) (hd : IR d) (ho : o = 0 ∨ o = 1) (hr20 : IR (σ 220 0)) : MET l yX12_killerAt cX12_killerAt 3 (some .int) 2 [.ref (ad 100), .int (iI d), .int (iI o)] D ad G ids σ (QI D ad G ids (fun z σ' => (if (1 ≤ d ∧ d ≤ 4) ∧ 0 < σ 220 0 then kilF (mw σ) d o else -1) = z ∧ σ = σ')) := by
  unfold IR at hd hr20
  refine x_enter (by decide) (Nat.le_of_ble_eq_true rfl) ?_
  intro pp ee ss mm args below meth cq C hr ls hl hM
  have hl : lv_has ls 3 [(0, .ref (ad 100)), (1, .int (iI d)), (2, .int (iI o))] := hl
  refine lv_iload_n C.1 C.2.1 dX12_killerAt_0 rfl (lv_at hl 1 rfl) ?_
  refine lv_iconst (v := iI 1) C.1 C.2.1 dX12_killerAt_1 (by decide) ?_
  refine lv_iconst (v := iI 4) C.1 C.2.1 dX12_killerAt_2 (by decide) ?_
  refine x_ci (x_runS (As := [.int (iI d), .int (iI 1), .int (iI 4)]) (rest := []) C (by omega) cw_X12_83 (c_X12_is l D ad G ids hJ σ d 1 4 (by unfold IR; omega) (by unfold IR; omega) (by unfold IR; omega)) hM rfl rfl (Nat.le_of_ble_eq_true rfl) hl.1 dX12_killerAt_3) hM (fun r3 s3 H1 lc1 hp hM => ?_)
  obtain ⟨hbs3, rfl⟩ := hp
  obtain ⟨ts3, ks3⟩ := ite01 hbs3
  refine x_if_eq C ⟨by omega, by omega⟩ (tgt := 27) dX12_killerAt_6 (by decide) (fun c6 => ?_) (fun c6 => ?_)
  · refine lv_iconst (v := iI (-1)) C.1 C.2.1 dX12_killerAt_27 (by decide) ?_
    exact x_iret C hr hM ⟨if_neg (by omega), rfl⟩ dX12_killerAt_28
  · refine lv_aload_n C.1 C.2.1 dX12_killerAt_9 rfl (lv_at hl 0 rfl) ?_
    refine g_X12_19 C hM (hJ 100 (by decide) (by decide)) wf_X12_207 dX12_killerAt_10 ?_
    refine x_if_le C ⟨by omega, by omega⟩ (tgt := 27) dX12_killerAt_13 (by decide) (fun c13 => ?_) (fun c13 => ?_)
    · refine lv_iconst (v := iI (-1)) C.1 C.2.1 dX12_killerAt_27 (by decide) ?_
      exact x_iret C hr hM ⟨if_neg (by omega), rfl⟩ dX12_killerAt_28
    · refine lv_aload_n C.1 C.2.1 dX12_killerAt_16 rfl (lv_at hl 0 rfl) ?_
      refine g_X12_15 C hM (hJ 100 (by decide) (by decide)) wf_X12_45 dX12_killerAt_17 ?_
      refine lv_iload_n C.1 C.2.1 dX12_killerAt_20 rfl (lv_at hl 1 rfl) ?_
      refine aaz_killer C hM (hJ 195 (by decide) (by decide)) (by omega) (by omega) dX12_killerAt_21 ?_
      refine lv_iload_n C.1 C.2.1 dX12_killerAt_22 rfl (lv_at hl 2 rfl) ?_
      refine alz_ki C hM (by omega) (by omega) (hJ _ (by omega) (by omega)) (by omega) (by omega) dX12_killerAt_23 ?_
      refine lv_goto (tgt := 28) C.1 C.2.1 dX12_killerAt_24 (by decide) ?_
      refine x_iret C hr hM ?_ dX12_killerAt_28
      exact ⟨by
        rw [if_pos ⟨by omega, by omega⟩]
        unfold kilF
        rcases ho with rfl | rfl
        · exact (if_pos (by omega)).trans (if_neg (by decide))
        · exact (if_pos (by omega)).trans (if_pos (by decide)), rfl⟩
