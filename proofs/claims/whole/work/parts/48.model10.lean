def th (σ : Sg) (n : Int) : Sg := upr σ 232 (ups (σ 232) 0 n)
theorem th_o {σ : Sg} {n : Int} {r : Nat} (h : r ≠ 232) : th σ n r = σ r := upr_ne _ _ h
theorem th_mw (σ : Sg) (n : Int) {r : Nat} (h : r ≠ 32) : mw (th σ n) r = mw σ r := th_o (by omega)
theorem GI_th {σ : Sg} (n : Int) (h : GI (mw σ)) : GI (mw (th σ n)) := GIm_of h (fun r _ _ => th_o (by omega))
theorem TI_th {σ : Sg} (n : Int) (h : TI (mw σ)) : TI (mw (th σ n)) := h.of (fun r _ => th_o (by omega))
theorem T9_th {σ : Sg} (n : Int) (h : T9 (mw σ)) : T9 (mw (th σ n)) := h.of (th_o (by omega))
theorem BKI_th {σ : Sg} (n : Int) (h : BKI (mw σ)) : BKI (mw (th σ n)) := h
theorem tv_th (σ : Sg) (n : Int) : tv (mw (th σ n)) = tv (mw σ) := tv_mw (fun r _ => th_o (by omega))
theorem cfg_th (σ : Sg) (n : Int) : cfg (mw (th σ n)) = cfg (mw σ) := cfg_of (fun r _ => th_o (by omega))
set_option maxRecDepth 100000 in
set_option maxHeartbeats 4000000 in
theorem c_X12_columns (l : Launch) (D : va_G) (ad : Nat → Nat) (G : Nat → Nat) (ids : List Nat) (hJ : ∀ k, 100 ≤ k → k < 233 → k ∈ ids) (σ : Sg)   : MET l yX12_columns cX12_columns 1 (some .int) 1 [.ref (ad 100)] D ad G ids σ (QI D ad G ids (fun z σ' => σ 202 0 = z ∧ th σ 0 = σ')) := by
  refine x_enter (by decide) (Nat.le_of_ble_eq_true rfl) ?_
  intro pp ee ss mm args below meth cq C hr ls hl hM
  have hl : lv_has ls 1 [(0, .ref (ad 100))] := hl
  refine lv_aload_n C.1 C.2.1 dX12_columns_0 rfl (lv_at hl 0 rfl) ?_
  refine lv_iconst (v := iI 0) C.1 C.2.1 dX12_columns_1 (by decide) ?_
  refine p_X12_0 C hM (hJ 100 (by decide) (by decide)) wf_X12_64 dX12_columns_2 (fun H1 lc1 hM => ?_)
  refine lv_aload_n C.1 C.2.1 dX12_columns_5 rfl (lv_at hl 0 rfl) ?_
  refine g_X12_1 C hM (hJ 100 (by decide) (by decide)) wf_X12_67 dX12_columns_6 ?_
  rw [upr_ne _ _ (show (202 : Nat) ≠ 232 by omega)]
  exact x_iret C hr hM ⟨rfl, rfl⟩ dX12_columns_9
set_option maxRecDepth 100000 in
set_option maxHeartbeats 4000000 in
theorem c_X12_rows (l : Launch) (D : va_G) (ad : Nat → Nat) (G : Nat → Nat) (ids : List Nat) (hJ : ∀ k, 100 ≤ k → k < 233 → k ∈ ids) (σ : Sg)   : MET l yX12_rows cX12_rows 1 (some .int) 1 [.ref (ad 100)] D ad G ids σ (QI D ad G ids (fun z σ' => σ 203 0 = z ∧ th σ 0 = σ')) := by
  refine x_enter (by decide) (Nat.le_of_ble_eq_true rfl) ?_
  intro pp ee ss mm args below meth cq C hr ls hl hM
  have hl : lv_has ls 1 [(0, .ref (ad 100))] := hl
  refine lv_aload_n C.1 C.2.1 dX12_rows_0 rfl (lv_at hl 0 rfl) ?_
  refine lv_iconst (v := iI 0) C.1 C.2.1 dX12_rows_1 (by decide) ?_
  refine p_X12_0 C hM (hJ 100 (by decide) (by decide)) wf_X12_64 dX12_rows_2 (fun H1 lc1 hM => ?_)
  refine lv_aload_n C.1 C.2.1 dX12_rows_5 rfl (lv_at hl 0 rfl) ?_
  refine g_X12_2 C hM (hJ 100 (by decide) (by decide)) wf_X12_70 dX12_rows_6 ?_
  rw [upr_ne _ _ (show (203 : Nat) ≠ 232 by omega)]
  exact x_iret C hr hM ⟨rfl, rfl⟩ dX12_rows_9
set_option maxRecDepth 100000 in
set_option maxHeartbeats 4000000 in
theorem c_X12_played (l : Launch) (D : va_G) (ad : Nat → Nat) (G : Nat → Nat) (ids : List Nat) (hJ : ∀ k, 100 ≤ k → k < 233 → k ∈ ids) (σ : Sg)   : MET l yX12_played cX12_played 1 (some .int) 1 [.ref (ad 100)] D ad G ids σ (QI D ad G ids (fun z σ' => σ 230 0 = z ∧ th σ 0 = σ')) := by
  refine x_enter (by decide) (Nat.le_of_ble_eq_true rfl) ?_
  intro pp ee ss mm args below meth cq C hr ls hl hM
  have hl : lv_has ls 1 [(0, .ref (ad 100))] := hl
  refine lv_aload_n C.1 C.2.1 dX12_played_0 rfl (lv_at hl 0 rfl) ?_
  refine lv_iconst (v := iI 0) C.1 C.2.1 dX12_played_1 (by decide) ?_
  refine p_X12_0 C hM (hJ 100 (by decide) (by decide)) wf_X12_64 dX12_played_2 (fun H1 lc1 hM => ?_)
  refine lv_aload_n C.1 C.2.1 dX12_played_5 rfl (lv_at hl 0 rfl) ?_
  refine g_X12_5 C hM (hJ 100 (by decide) (by decide)) wf_X12_76 dX12_played_6 ?_
  rw [upr_ne _ _ (show (230 : Nat) ≠ 232 by omega)]
  exact x_iret C hr hM ⟨rfl, rfl⟩ dX12_played_9
set_option maxRecDepth 100000 in
set_option maxHeartbeats 4000000 in
theorem c_X12_reached (l : Launch) (D : va_G) (ad : Nat → Nat) (G : Nat → Nat) (ids : List Nat) (hJ : ∀ k, 100 ≤ k → k < 233 → k ∈ ids) (σ : Sg)   : MET l yX12_reached cX12_reached 1 (some .int) 1 [.ref (ad 100)] D ad G ids σ (QI D ad G ids (fun z σ' => σ 220 0 = z ∧ th σ 0 = σ')) := by
  refine x_enter (by decide) (Nat.le_of_ble_eq_true rfl) ?_
  intro pp ee ss mm args below meth cq C hr ls hl hM
  have hl : lv_has ls 1 [(0, .ref (ad 100))] := hl
  refine lv_aload_n C.1 C.2.1 dX12_reached_0 rfl (lv_at hl 0 rfl) ?_
  refine lv_iconst (v := iI 0) C.1 C.2.1 dX12_reached_1 (by decide) ?_
  refine p_X12_0 C hM (hJ 100 (by decide) (by decide)) wf_X12_64 dX12_reached_2 (fun H1 lc1 hM => ?_)
  refine lv_aload_n C.1 C.2.1 dX12_reached_5 rfl (lv_at hl 0 rfl) ?_
  refine g_X12_19 C hM (hJ 100 (by decide) (by decide)) wf_X12_207 dX12_reached_6 ?_
  rw [upr_ne _ _ (show (220 : Nat) ≠ 232 by omega)]
  exact x_iret C hr hM ⟨rfl, rfl⟩ dX12_reached_9
set_option maxRecDepth 100000 in
set_option maxHeartbeats 4000000 in
theorem c_X12_slots (l : Launch) (D : va_G) (ad : Nat → Nat) (G : Nat → Nat) (ids : List Nat) (hJ : ∀ k, 100 ≤ k → k < 233 → k ∈ ids) (σ : Sg)   : MET l yX12_slots cX12_slots 1 (some .int) 1 [.ref (ad 100)] D ad G ids σ (QI D ad G ids (fun z σ' => σ 209 0 = z ∧ th σ 0 = σ')) := by
  refine x_enter (by decide) (Nat.le_of_ble_eq_true rfl) ?_
  intro pp ee ss mm args below meth cq C hr ls hl hM
  have hl : lv_has ls 1 [(0, .ref (ad 100))] := hl
  refine lv_aload_n C.1 C.2.1 dX12_slots_0 rfl (lv_at hl 0 rfl) ?_
  refine lv_iconst (v := iI 0) C.1 C.2.1 dX12_slots_1 (by decide) ?_
  refine p_X12_0 C hM (hJ 100 (by decide) (by decide)) wf_X12_64 dX12_slots_2 (fun H1 lc1 hM => ?_)
  refine lv_aload_n C.1 C.2.1 dX12_slots_5 rfl (lv_at hl 0 rfl) ?_
  refine g_X12_11 C hM (hJ 100 (by decide) (by decide)) wf_X12_32 dX12_slots_6 ?_
  rw [upr_ne _ _ (show (209 : Nat) ≠ 232 by omega)]
  exact x_iret C hr hM ⟨rfl, rfl⟩ dX12_slots_9
set_option maxRecDepth 100000 in
set_option maxHeartbeats 4000000 in
theorem c_X12_pages (l : Launch) (D : va_G) (ad : Nat → Nat) (G : Nat → Nat) (ids : List Nat) (hJ : ∀ k, 100 ≤ k → k < 233 → k ∈ ids) (σ : Sg)   : MET l yX12_pages cX12_pages 1 (some .int) 1 [.ref (ad 100)] D ad G ids σ (QI D ad G ids (fun z σ' => σ 227 0 = z ∧ th σ 0 = σ')) := by
  refine x_enter (by decide) (Nat.le_of_ble_eq_true rfl) ?_
  intro pp ee ss mm args below meth cq C hr ls hl hM
  have hl : lv_has ls 1 [(0, .ref (ad 100))] := hl
  refine lv_aload_n C.1 C.2.1 dX12_pages_0 rfl (lv_at hl 0 rfl) ?_
  refine lv_iconst (v := iI 0) C.1 C.2.1 dX12_pages_1 (by decide) ?_
  refine p_X12_0 C hM (hJ 100 (by decide) (by decide)) wf_X12_64 dX12_pages_2 (fun H1 lc1 hM => ?_)
  refine lv_aload_n C.1 C.2.1 dX12_pages_5 rfl (lv_at hl 0 rfl) ?_
  refine g_X12_22 C hM (hJ 100 (by decide) (by decide)) wf_X12_210 dX12_pages_6 ?_
  rw [upr_ne _ _ (show (227 : Nat) ≠ 232 by omega)]
  exact x_iret C hr hM ⟨rfl, rfl⟩ dX12_pages_9
set_option maxRecDepth 100000 in
set_option maxHeartbeats 4000000 in
theorem c_X12_side (l : Launch) (D : va_G) (ad : Nat → Nat) (G : Nat → Nat) (ids : List Nat) (hJ : ∀ k, 100 ≤ k → k < 233 → k ∈ ids) (σ : Sg)  (hB : BG (mw σ)) : MET l yX12_side cX12_side 1 (some .int) 2 [.ref (ad 100)] D ad G ids σ (QI D ad G ids (fun z σ' => σ 204 0 = z ∧ th σ 0 = σ')) := by
  refine x_enter (by decide) (Nat.le_of_ble_eq_true rfl) ?_
  intro pp ee ss mm args below meth cq C hr ls hl hM
  have hl : lv_has ls 1 [(0, .ref (ad 100))] := hl
  refine lv_aload_n C.1 C.2.1 dX12_side_0 rfl (lv_at hl 0 rfl) ?_
  refine lv_iconst (v := iI 0) C.1 C.2.1 dX12_side_1 (by decide) ?_
  refine p_X12_0 C hM (hJ 100 (by decide) (by decide)) wf_X12_64 dX12_side_2 (fun H1 lc1 hM => ?_)
  refine lv_aload_n C.1 C.2.1 dX12_side_5 rfl (lv_at hl 0 rfl) ?_
  refine x_ci (x_runV (As := []) (rest := []) C (by omega) cw_X12_94 (c_X12_sideNow l D ad G ids hJ (upr σ 232 (ups (σ 232) 0 0)) hB) hM (hJ 100 (by decide) (by decide)) (cx_100 ad G _) rfl rfl rfl rfl (Nat.le_of_ble_eq_true rfl) hl.1 dX12_side_6) hM (fun r6 s6 H1 lc1 hp hM => ?_)
  obtain ⟨rfl, rfl⟩ := hp
  exact x_iret C hr hM ⟨rfl, rfl⟩ dX12_side_9
set_option maxRecDepth 100000 in
set_option maxHeartbeats 4000000 in
theorem c_X12_isLost (l : Launch) (D : va_G) (ad : Nat → Nat) (G : Nat → Nat) (ids : List Nat) (hJ : ∀ k, 100 ≤ k → k < 233 → k ∈ ids) (σ : Sg)  (hG : GI (mw σ)) : MET l yX12_isLost cX12_isLost 1 (some .boolean) 6 [.ref (ad 100)] D ad G ids σ (QI D ad G ids (fun z σ' => (if MLs (σ 201) (σ 202 0) (σ 203 0) (σ 204 0) = [] then 1 else 0) = z ∧ th σ 0 = σ')) := by
  refine x_enter (by decide) (Nat.le_of_ble_eq_true rfl) ?_
  intro pp ee ss mm args below meth cq C hr ls hl hM
  have hl : lv_has ls 1 [(0, .ref (ad 100))] := hl
  refine lv_aload_n C.1 C.2.1 dX12_isLost_0 rfl (lv_at hl 0 rfl) ?_
  refine lv_iconst (v := iI 0) C.1 C.2.1 dX12_isLost_1 (by decide) ?_
  refine p_X12_0 C hM (hJ 100 (by decide) (by decide)) wf_X12_64 dX12_isLost_2 (fun H1 lc1 hM => ?_)
  refine lv_aload_n C.1 C.2.1 dX12_isLost_5 rfl (lv_at hl 0 rfl) ?_
  refine x_ci (x_runV (As := []) (rest := []) C (by omega) cw_X12_104 (c_X12_isLostNow l D ad G ids hJ (upr σ 232 (ups (σ 232) 0 0)) (GI_th 0 hG)) hM (hJ 100 (by decide) (by decide)) (cx_100 ad G _) rfl rfl rfl rfl (Nat.le_of_ble_eq_true rfl) hl.1 dX12_isLost_6) hM (fun r6 s6 H1 lc1 hp hM => ?_)
  obtain ⟨hbs6, rfl⟩ := hp
  obtain ⟨ts6, ks6⟩ := ite01 hbs6
  exact x_zret C hr hM (by first | exact Or.inl rfl | exact Or.inr rfl | omega) ⟨hbs6, rfl⟩ dX12_isLost_9
set_option maxRecDepth 100000 in
set_option maxHeartbeats 4000000 in
theorem c_X12_key (l : Launch) (D : va_G) (ad : Nat → Nat) (G : Nat → Nat) (ids : List Nat) (hJ : ∀ k, 100 ≤ k → k < 233 → k ∈ ids) (σ : Sg)  (hG : GI (mw σ)) : MET l yX12_key cX12_key 1 (some .long) 3 [.ref (ad 100)] D ad G ids σ (QL D ad G ids (fun z σ' => (keyS (cfg (mw σ)) (σ 201) (σ 204 0)) = z ∧ th σ 0 = σ')) := by
  have hs : σ 204 0 = 0 ∨ σ 204 0 = 1 := hG.2.2.1
  refine x_enter (by decide) (Nat.le_of_ble_eq_true rfl) ?_
  intro pp ee ss mm args below meth cq C hr ls hl hM
  have hl : lv_has ls 1 [(0, .ref (ad 100))] := hl
  refine lv_aload_n C.1 C.2.1 dX12_key_0 rfl (lv_at hl 0 rfl) ?_
  refine lv_iconst (v := iI 0) C.1 C.2.1 dX12_key_1 (by decide) ?_
  refine p_X12_0 C hM (hJ 100 (by decide) (by decide)) wf_X12_64 dX12_key_2 (fun H1 lc1 hM => ?_)
  refine lv_aload_n C.1 C.2.1 dX12_key_5 rfl (lv_at hl 0 rfl) ?_
  refine x_cl (x_runV (As := []) (rest := []) C (by omega) cw_X12_157 (c_X12_keyNow l D ad G ids hJ (upr σ 232 (ups (σ 232) 0 0)) hG.1 hG.2.1 (show IR (σ 204 0) by unfold IR; omega)) hM (hJ 100 (by decide) (by decide)) (cx_100 ad G _) rfl rfl rfl rfl (Nat.le_of_ble_eq_true rfl) hl.1 dX12_key_6) hM (fun r6 s6 H1 lc1 hp hM => ?_)
  obtain ⟨rfl, rfl⟩ := hp
  exact x_lret C hr hM ⟨rfl, rfl⟩ dX12_key_9
set_option maxRecDepth 100000 in
set_option maxHeartbeats 4000000 in
theorem c_X12_evaluation (l : Launch) (D : va_G) (ad : Nat → Nat) (G : Nat → Nat) (ids : List Nat) (hJ : ∀ k, 100 ≤ k → k < 233 → k ∈ ids) (σ : Sg)  (hG : GI (mw σ)) : MET l yX12_evaluation cX12_evaluation 1 (some .int) 7 [.ref (ad 100)] D ad G ids σ (QI D ad G ids (fun z σ' => evS (cfg (mw σ)) (σ 201) (σ 204 0) = z ∧ th σ 0 = σ')) := by
  refine x_enter (by decide) (Nat.le_of_ble_eq_true rfl) ?_
  intro pp ee ss mm args below meth cq C hr ls hl hM
  have hl : lv_has ls 1 [(0, .ref (ad 100))] := hl
  refine lv_aload_n C.1 C.2.1 dX12_evaluation_0 rfl (lv_at hl 0 rfl) ?_
  refine lv_iconst (v := iI 0) C.1 C.2.1 dX12_evaluation_1 (by decide) ?_
  refine p_X12_0 C hM (hJ 100 (by decide) (by decide)) wf_X12_64 dX12_evaluation_2 (fun H1 lc1 hM => ?_)
  refine lv_aload_n C.1 C.2.1 dX12_evaluation_5 rfl (lv_at hl 0 rfl) ?_
  refine x_ci (x_runV (As := []) (rest := []) C (by omega) cw_X12_120 (c_X12_evaluated l D ad G ids hJ (upr σ 232 (ups (σ 232) 0 0)) (GI_th 0 hG)) hM (hJ 100 (by decide) (by decide)) (cx_100 ad G _) rfl rfl rfl rfl (Nat.le_of_ble_eq_true rfl) hl.1 dX12_evaluation_6) hM (fun r6 s6 H1 lc1 hp hM => ?_)
  obtain ⟨rfl, rfl⟩ := hp
  exact x_iret C hr hM ⟨rfl, rfl⟩ dX12_evaluation_9
set_option maxRecDepth 100000 in
set_option maxHeartbeats 4000000 in
theorem c_X12_isField (l : Launch) (D : va_G) (ad : Nat → Nat) (G : Nat → Nat) (ids : List Nat) (hJ : ∀ k, 100 ≤ k → k < 233 → k ∈ ids) (σ : Sg) (f : Int) (hB : BG (mw σ)) (hf : IR f) : MET l yX12_isField cX12_isField 2 (some .boolean) 2 [.ref (ad 100), .int (iI f)] D ad G ids σ (QI D ad G ids (fun z σ' => (if 0 ≤ f ∧ f < σ 202 0 * σ 203 0 then 1 else 0) = z ∧ σ = σ')) := by
  have w1 : 3 ≤ σ 202 0 := hB.1
  have w2 : σ 202 0 ≤ 5 := hB.2.1
  have h1 : 3 ≤ σ 203 0 := hB.2.2.1
  have h2 : σ 203 0 ≤ 5 := hB.2.2.2
  have wb := wh_bd w1 w2 h1 h2
  unfold IR at hf
  refine x_enter (by decide) (Nat.le_of_ble_eq_true rfl) ?_
  intro pp ee ss mm args below meth cq C hr ls hl hM
  have hl : lv_has ls 2 [(0, .ref (ad 100)), (1, .int (iI f))] := hl
  refine lv_iload_n C.1 C.2.1 dX12_isField_0 rfl (lv_at hl 1 rfl) ?_
  refine lv_iconst (v := iI 0) C.1 C.2.1 dX12_isField_1 (by decide) ?_
  refine lv_aload_n C.1 C.2.1 dX12_isField_2 rfl (lv_at hl 0 rfl) ?_
  refine g_X12_1 C hM (hJ 100 (by decide) (by decide)) wf_X12_67 dX12_isField_3 ?_
  refine lv_aload_n C.1 C.2.1 dX12_isField_6 rfl (lv_at hl 0 rfl) ?_
  refine g_X12_2 C hM (hJ 100 (by decide) (by decide)) wf_X12_70 dX12_isField_7 ?_
  refine x_imul C dX12_isField_10 ?_
  refine lv_iconst (v := iI 1) C.1 C.2.1 dX12_isField_11 (by decide) ?_
  refine x_isub C dX12_isField_12 ?_
  refine x_ci (x_runS (As := [.int (iI f), .int (iI 0), .int (iI (((σ 202 0) * (σ 203 0)) - 1))]) (rest := []) C (by omega) cw_X12_83 (c_X12_is l D ad G ids hJ σ f 0 (((σ 202 0) * (σ 203 0)) - 1) (by unfold IR; omega) (by unfold IR; omega) (by unfold IR; omega)) hM rfl rfl (Nat.le_of_ble_eq_true rfl) hl.1 dX12_isField_13) hM (fun r13 s13 H1 lc1 hp hM => ?_)
  obtain ⟨hbs13, rfl⟩ := hp
  obtain ⟨ts13, ks13⟩ := ite01 hbs13
  refine x_zret C hr hM (by first | exact Or.inl rfl | exact Or.inr rfl | omega) ?_ dX12_isField_16
  exact ⟨by
    rw [← hbs13]
    by_cases q : 0 ≤ f ∧ f < σ 202 0 * σ 203 0
    · rw [if_pos q, if_pos (by omega)]
    · rw [if_neg q, if_neg (by omega)], rfl⟩
set_option maxRecDepth 100000 in
set_option maxHeartbeats 4000000 in
theorem c_X12_pawns (l : Launch) (D : va_G) (ad : Nat → Nat) (G : Nat → Nat) (ids : List Nat) (hJ : ∀ k, 100 ≤ k → k < 233 → k ∈ ids) (σ : Sg) (v : Int) (hB : BG (mw σ)) (hC : BC (σ 201)) (hv : IR v) : MET l yX12_pawns cX12_pawns 4 (some .int) 1 [.ref (ad 100), .int (iI v)] D ad G ids σ (QI D ad G ids (fun z σ' => cntF (σ 201) v (σ 202 0 * σ 203 0).toNat = z ∧ σ = σ')) := by
  have w1 : 3 ≤ σ 202 0 := hB.1
  have w2 : σ 202 0 ≤ 5 := hB.2.1
  have h1 : 3 ≤ σ 203 0 := hB.2.2.1
  have h2 : σ 203 0 ≤ 5 := hB.2.2.2
  have wb := wh_bd w1 w2 h1 h2
  unfold IR at hv
  refine x_enter (by decide) (Nat.le_of_ble_eq_true rfl) ?_
  intro pp ee ss mm args below meth cq C hr ls hl hM
  have hl : lv_has ls 4 [(0, .ref (ad 100)), (1, .int (iI v))] := hl
  refine lv_iconst (v := iI 0) C.1 C.2.1 dX12_pawns_0 (by decide) ?_
  refine lv_istore_n (lv' := [(2, .int (iI 0)), (0, .ref (ad 100)), (1, .int (iI v))]) C.1 C.2.1 dX12_pawns_1 rfl hl (by decide) rfl (fun ls hl => ?_)
  refine lv_iconst (v := iI 0) C.1 C.2.1 dX12_pawns_2 (by decide) ?_
  refine lv_istore_n (lv' := [(3, .int (iI 0)), (2, .int (iI 0)), (0, .ref (ad 100)), (1, .int (iI v))]) C.1 C.2.1 dX12_pawns_3 rfl hl (by decide) rfl (fun ls hl => ?_)
  have L4 : ∀ (fu : Nat) (i : Int) (n : Int) (H1 : Heap) (lc1 : List Loc) (ls1 : Array Slot), (0 ≤ i ∧ i ≤ σ 202 0 * σ 203 0) → (n = cntF (σ 201) v i.toNat) → (30 - i).toNat < fu → XI D ad G ids (AN ad ids ss.heap.size) ss.heap H1 lc1 σ → lv_has ls1 4 [(3, .int (iI i)), (2, .int (iI n)), (0, .ref (ad 100)), (1, .int (iI v))] → W pp l ee (rmh 1) ss mm args below meth cq H1 lc1 0 0 (MQ below (QI D ad G ids (fun z σ' => cntF (σ 201) v (σ 202 0 * σ 203 0).toNat = z ∧ σ = σ') ss.heap.size) args ss 0 0 (AN ad ids ss.heap.size)) (F0 mm 4 ls1 []) := by
    intro fu
    induction fu with
    | zero => intro i n  H1 lc1 ls1 i0 hn hfu; exact absurd hfu (Nat.not_lt_zero _)
    | succ fu ih4 =>
      intro i n  H1 lc1 ls1 i0 hn hfu hM hl
      refine lv_iload_n C.1 C.2.1 dX12_pawns_4 rfl (lv_at hl 0 rfl) ?_
      refine lv_aload_n C.1 C.2.1 dX12_pawns_5 rfl (lv_at hl 2 rfl) ?_
      refine g_X12_1 C hM (hJ 100 (by decide) (by decide)) wf_X12_67 dX12_pawns_6 ?_
      refine lv_aload_n C.1 C.2.1 dX12_pawns_9 rfl (lv_at hl 2 rfl) ?_
      refine g_X12_2 C hM (hJ 100 (by decide) (by decide)) wf_X12_70 dX12_pawns_10 ?_
      refine x_imul C dX12_pawns_13 ?_
      refine x_icmp_ge C ⟨by omega, by omega⟩ ⟨by omega, by omega⟩ (tgt := 41) dX12_pawns_14 (by decide) (fun c14 => ?_) (fun c14 => ?_)
      · refine lv_iload_n C.1 C.2.1 dX12_pawns_41 rfl (lv_at hl 1 rfl) ?_
        exact x_iret C hr hM ⟨by rw [hn, show i = σ 202 0 * σ 203 0 by omega], rfl⟩ dX12_pawns_42
      · refine lv_iload_n C.1 C.2.1 dX12_pawns_17 rfl (lv_at hl 1 rfl) ?_
        refine lv_aload_n C.1 C.2.1 dX12_pawns_18 rfl (lv_at hl 2 rfl) ?_
        refine g_X12_3 C hM (hJ 100 (by decide) (by decide)) wf_X12_73 dX12_pawns_19 ?_
        refine lv_iload_n C.1 C.2.1 dX12_pawns_22 rfl (lv_at hl 0 rfl) ?_
        refine al_now C hM (hJ 101 (by decide) (by decide)) (wh := (σ 202 0 * σ 203 0)) rfl (by omega) (by omega) (by omega) dX12_pawns_23 ?_
        have hc := hC i
        refine lv_iload_n C.1 C.2.1 dX12_pawns_24 rfl (lv_at hl 3 rfl) ?_
        refine x_icmp_ne C ⟨by omega, by omega⟩ ⟨by omega, by omega⟩ (tgt := 32) dX12_pawns_25 (by decide) (fun c25 => ?_) (fun c25 => ?_)
        · refine lv_iconst (v := iI 0) C.1 C.2.1 dX12_pawns_32 (by decide) ?_
          refine x_iadd C dX12_pawns_33 ?_
          refine lv_istore_n (lv' := [(2, .int (iI (n + 0))), (3, .int (iI i)), (0, .ref (ad 100)), (1, .int (iI v))]) C.1 C.2.1 dX12_pawns_34 rfl hl (by decide) rfl (fun ls hl => ?_)
          refine x_iinc (lv1 := [(3, .int (iI (i + 1))), (2, .int (iI (n + 0))), (0, .ref (ad 100)), (1, .int (iI v))]) C dX12_pawns_35 hl (k := 1) rfl (by decide) rfl (fun ls hl => ?_)
          refine lv_goto (tgt := 4) C.1 C.2.1 dX12_pawns_38 (by decide) ?_
          exact ih4 (i + 1) (n + 0) _ _ _ (by omega) (by rw [cntF_s _ _ i0.1, if_neg (by omega), ← hn]) (by omega) hM (lv_sub hl [0, 1, 2, 3] rfl)
        · refine lv_iconst (v := iI 1) C.1 C.2.1 dX12_pawns_28 (by decide) ?_
          refine lv_goto (tgt := 33) C.1 C.2.1 dX12_pawns_29 (by decide) ?_
          refine x_iadd C dX12_pawns_33 ?_
          refine lv_istore_n (lv' := [(2, .int (iI (n + 1))), (3, .int (iI i)), (0, .ref (ad 100)), (1, .int (iI v))]) C.1 C.2.1 dX12_pawns_34 rfl hl (by decide) rfl (fun ls hl => ?_)
          refine x_iinc (lv1 := [(3, .int (iI (i + 1))), (2, .int (iI (n + 1))), (0, .ref (ad 100)), (1, .int (iI v))]) C dX12_pawns_35 hl (k := 1) rfl (by decide) rfl (fun ls hl => ?_)
          refine lv_goto (tgt := 4) C.1 C.2.1 dX12_pawns_38 (by decide) ?_
          exact ih4 (i + 1) (n + 1) _ _ _ (by omega) (by rw [cntF_s _ _ i0.1, if_pos (by omega), ← hn]) (by omega) hM (lv_sub hl [0, 1, 2, 3] rfl)
  exact L4 _ 0 0 _ _ _ (by omega) rfl (Nat.lt_succ_self _) hM (lv_sub hl [0, 1, 2, 3] rfl)
set_option maxRecDepth 100000 in
set_option maxHeartbeats 4000000 in
theorem c_X12_isMove (l : Launch) (D : va_G) (ad : Nat → Nat) (G : Nat → Nat) (ids : List Nat) (hJ : ∀ k, 100 ≤ k → k < 233 → k ∈ ids) (σ : Sg) (i : Int) (hG : GI (mw σ)) (hi : IR i) : MET l yX12_isMove cX12_isMove 2 (some .boolean) 7 [.ref (ad 100), .int (iI i)] D ad G ids σ (QI D ad G ids (fun z σ' => (if 0 ≤ i ∧ i < ((MLs (σ 201) (σ 202 0) (σ 203 0) (σ 204 0)).length : Int) then 1 else 0) = z ∧ RWL σ' 240 (MLs (σ 201) (σ 202 0) (σ 203 0) (σ 204 0)) ∧ OF 240 σ σ')) := by
  have h18 : (MLs (σ 201) (σ 202 0) (σ 203 0) (σ 204 0)).length ≤ 18 := MLs18 hG
  unfold IR at hi
  refine x_enter (by decide) (Nat.le_of_ble_eq_true rfl) ?_
  intro pp ee ss mm args below meth cq C hr ls hl hM
  have hl : lv_has ls 2 [(0, .ref (ad 100)), (1, .int (iI i))] := hl
  refine lv_iload_n C.1 C.2.1 dX12_isMove_0 rfl (lv_at hl 1 rfl) ?_
  refine lv_iconst (v := iI 0) C.1 C.2.1 dX12_isMove_1 (by decide) ?_
  refine lv_aload_n C.1 C.2.1 dX12_isMove_2 rfl (lv_at hl 0 rfl) ?_
  refine lv_iconst (v := iI 0) C.1 C.2.1 dX12_isMove_3 (by decide) ?_
  refine x_ci (x_runV (As := [.int (iI 0)]) (rest := [.int (iI 0), .int (iI i)]) C (by omega) cw_X12_123 (c_X12_list l D ad G ids hJ σ 0 0 rfl (by decide) hG) hM (hJ 100 (by decide) (by decide)) (cx_100 ad G _) rfl rfl rfl rfl (Nat.le_of_ble_eq_true rfl) hl.1 dX12_isMove_4) hM (fun r4 s4 H1 lc1 hp hM => ?_)
  obtain ⟨rfl, hLs4, hfs4⟩ := hp
  refine lv_iconst (v := iI 1) C.1 C.2.1 dX12_isMove_7 (by decide) ?_
  refine x_isub C dX12_isMove_8 ?_
  refine x_ci (x_runS (As := [.int (iI i), .int (iI 0), .int (iI (((MLs (σ 201) (σ 202 0) (σ 203 0) (σ 204 0)).length : Int) - 1))]) (rest := []) C (by omega) cw_X12_83 (c_X12_is l D ad G ids hJ s4 i 0 (((MLs (σ 201) (σ 202 0) (σ 203 0) (σ 204 0)).length : Int) - 1) (by unfold IR; omega) (by unfold IR; omega) (by unfold IR; omega)) hM rfl rfl (Nat.le_of_ble_eq_true rfl) hl.1 dX12_isMove_9) hM (fun r9 s9 H1 lc1 hp hM => ?_)
  obtain ⟨hbs9, rfl⟩ := hp
  obtain ⟨ts9, ks9⟩ := ite01 hbs9
  refine x_zret C hr hM (by first | exact Or.inl rfl | exact Or.inr rfl | omega) ?_ dX12_isMove_12
  exact ⟨by
    rw [← hbs9]
    by_cases q : 0 ≤ i ∧ i < ((MLs (σ 201) (σ 202 0) (σ 203 0) (σ 204 0)).length : Int)
    · rw [if_pos q, if_pos (by omega)]
    · rw [if_neg q, if_neg (by omega)], hLs4, hfs4⟩
set_option maxRecDepth 100000 in
set_option maxHeartbeats 4000000 in
theorem c_X12_entries (l : Launch) (D : va_G) (ad : Nat → Nat) (G : Nat → Nat) (ids : List Nat) (hJ : ∀ k, 100 ≤ k → k < 233 → k ∈ ids) (σ : Sg)  (hT : TI (mw σ)) : MET l yX12_entries cX12_entries 1 (some .int) 2 [.ref (ad 100)] D ad G ids σ (QI D ad G ids (fun z σ' => cntE (σ 211) 64 = z ∧ th σ 0 = σ')) := by
  refine x_enter (by decide) (Nat.le_of_ble_eq_true rfl) ?_
  intro pp ee ss mm args below meth cq C hr ls hl hM
  have hl : lv_has ls 1 [(0, .ref (ad 100))] := hl
  refine lv_aload_n C.1 C.2.1 dX12_entries_0 rfl (lv_at hl 0 rfl) ?_
  refine lv_iconst (v := iI 0) C.1 C.2.1 dX12_entries_1 (by decide) ?_
  refine p_X12_0 C hM (hJ 100 (by decide) (by decide)) wf_X12_64 dX12_entries_2 (fun H1 lc1 hM => ?_)
  refine lv_aload_n C.1 C.2.1 dX12_entries_5 rfl (lv_at hl 0 rfl) ?_
  refine x_ci (x_runV (As := []) (rest := []) C (by omega) cw_X12_154 (c_X12_entriesNow l D ad G ids hJ (upr σ 232 (ups (σ 232) 0 0)) (TI_th 0 hT)) hM (hJ 100 (by decide) (by decide)) (cx_100 ad G _) rfl rfl rfl rfl (Nat.le_of_ble_eq_true rfl) hl.1 dX12_entries_6) hM (fun r6 s6 H1 lc1 hp hM => ?_)
  obtain ⟨rfl, rfl⟩ := hp
  exact x_iret C hr hM ⟨rfl, rfl⟩ dX12_entries_9
