set_option maxRecDepth 100000 in
set_option maxHeartbeats 4000000 in
theorem c_X11_columns (l : Launch) (D : va_G) (ad : Nat → Nat) (G : Nat → Nat) (ids : List Nat) (hI : ∀ k, k < 81 → k ∈ ids) (σ : Sg)   : MET l yX11_columns cX11_columns 1 (some .int) 2 [.ref (ad 0)] D ad G ids σ (QI D ad G ids (fun z σ' => σ 2 0 = z ∧ σ = σ')) := by
  refine x_enter (by decide) (Nat.le_of_ble_eq_true rfl) ?_
  intro pp ee ss mm args below meth cq C hr ls hl hM
  have hl : lv_has ls 1 [(0, .ref (ad 0))] := hl
  refine lv_aload_n C.1 C.2.1 dX11_columns_0 rfl (lv_at hl 0 rfl) ?_
  refine g_X11_0 C hM (hI 0 (by decide)) wf_X11_13 dX11_columns_1 ?_
  refine x_ci (x_runV (As := []) (rest := []) C (by omega) cw_X11_198 (c_X0_width l D ad G ids hI σ) hM (hI 1 (by decide)) (cx_1 ad G _) rfl rfl rfl rfl (Nat.le_of_ble_eq_true rfl) hl.1 dX11_columns_4) hM (fun r4 s4 H1 lc1 hp hM => ?_)
  obtain ⟨rfl, rfl⟩ := hp
  exact x_iret C hr hM ⟨rfl, rfl⟩ dX11_columns_7
set_option maxRecDepth 100000 in
set_option maxHeartbeats 4000000 in
theorem c_X11_rows (l : Launch) (D : va_G) (ad : Nat → Nat) (G : Nat → Nat) (ids : List Nat) (hI : ∀ k, k < 81 → k ∈ ids) (σ : Sg)   : MET l yX11_rows cX11_rows 1 (some .int) 2 [.ref (ad 0)] D ad G ids σ (QI D ad G ids (fun z σ' => σ 3 0 = z ∧ σ = σ')) := by
  refine x_enter (by decide) (Nat.le_of_ble_eq_true rfl) ?_
  intro pp ee ss mm args below meth cq C hr ls hl hM
  have hl : lv_has ls 1 [(0, .ref (ad 0))] := hl
  refine lv_aload_n C.1 C.2.1 dX11_rows_0 rfl (lv_at hl 0 rfl) ?_
  refine g_X11_0 C hM (hI 0 (by decide)) wf_X11_13 dX11_rows_1 ?_
  refine x_ci (x_runV (As := []) (rest := []) C (by omega) cw_X11_201 (c_X0_height l D ad G ids hI σ) hM (hI 1 (by decide)) (cx_1 ad G _) rfl rfl rfl rfl (Nat.le_of_ble_eq_true rfl) hl.1 dX11_rows_4) hM (fun r4 s4 H1 lc1 hp hM => ?_)
  obtain ⟨rfl, rfl⟩ := hp
  exact x_iret C hr hM ⟨rfl, rfl⟩ dX11_rows_7
set_option maxRecDepth 100000 in
set_option maxHeartbeats 4000000 in
theorem c_X11_side (l : Launch) (D : va_G) (ad : Nat → Nat) (G : Nat → Nat) (ids : List Nat) (hI : ∀ k, k < 81 → k ∈ ids) (σ : Sg)   : MET l yX11_side cX11_side 1 (some .int) 2 [.ref (ad 0)] D ad G ids σ (QI D ad G ids (fun z σ' => σ 4 0 = z ∧ σ = σ')) := by
  refine x_enter (by decide) (Nat.le_of_ble_eq_true rfl) ?_
  intro pp ee ss mm args below meth cq C hr ls hl hM
  have hl : lv_has ls 1 [(0, .ref (ad 0))] := hl
  refine lv_aload_n C.1 C.2.1 dX11_side_0 rfl (lv_at hl 0 rfl) ?_
  refine g_X11_0 C hM (hI 0 (by decide)) wf_X11_13 dX11_side_1 ?_
  refine x_ci (x_runV (As := []) (rest := []) C (by omega) cw_X11_137 (c_X0_mover l D ad G ids hI σ) hM (hI 1 (by decide)) (cx_1 ad G _) rfl rfl rfl rfl (Nat.le_of_ble_eq_true rfl) hl.1 dX11_side_4) hM (fun r4 s4 H1 lc1 hp hM => ?_)
  obtain ⟨rfl, rfl⟩ := hp
  exact x_iret C hr hM ⟨rfl, rfl⟩ dX11_side_7
set_option maxRecDepth 100000 in
set_option maxHeartbeats 4000000 in
theorem c_X11_played (l : Launch) (D : va_G) (ad : Nat → Nat) (G : Nat → Nat) (ids : List Nat) (hI : ∀ k, k < 81 → k ∈ ids) (σ : Sg)   : MET l yX11_played cX11_played 1 (some .int) 2 [.ref (ad 0)] D ad G ids σ (QI D ad G ids (fun z σ' => σ 30 0 = z ∧ σ = σ')) := by
  refine x_enter (by decide) (Nat.le_of_ble_eq_true rfl) ?_
  intro pp ee ss mm args below meth cq C hr ls hl hM
  have hl : lv_has ls 1 [(0, .ref (ad 0))] := hl
  refine lv_aload_n C.1 C.2.1 dX11_played_0 rfl (lv_at hl 0 rfl) ?_
  refine g_X11_2 C hM (hI 0 (by decide)) wf_X11_29 dX11_played_1 ?_
  refine x_ci (x_runV (As := []) (rest := []) C (by omega) cw_X11_153 (c_X9_length l D ad G ids hI σ) hM (hI 21 (by decide)) (cx_21 ad G _) rfl rfl rfl rfl (Nat.le_of_ble_eq_true rfl) hl.1 dX11_played_4) hM (fun r4 s4 H1 lc1 hp hM => ?_)
  obtain ⟨rfl, rfl⟩ := hp
  exact x_iret C hr hM ⟨rfl, rfl⟩ dX11_played_7
set_option maxRecDepth 100000 in
set_option maxHeartbeats 4000000 in
theorem c_X11_reached (l : Launch) (D : va_G) (ad : Nat → Nat) (G : Nat → Nat) (ids : List Nat) (hI : ∀ k, k < 81 → k ∈ ids) (σ : Sg)   : MET l yX11_reached cX11_reached 1 (some .int) 2 [.ref (ad 0)] D ad G ids σ (QI D ad G ids (fun z σ' => σ 20 0 = z ∧ σ = σ')) := by
  refine x_enter (by decide) (Nat.le_of_ble_eq_true rfl) ?_
  intro pp ee ss mm args below meth cq C hr ls hl hM
  have hl : lv_has ls 1 [(0, .ref (ad 0))] := hl
  refine lv_aload_n C.1 C.2.1 dX11_reached_0 rfl (lv_at hl 0 rfl) ?_
  refine g_X11_6 C hM (hI 0 (by decide)) wf_X11_66 dX11_reached_1 ?_
  refine x_ci (x_runV (As := []) (rest := []) C (by omega) cw_X11_249 (c_X7_depthReached l D ad G ids hI σ) hM (hI 13 (by decide)) (cx_13 ad G _) rfl rfl rfl rfl (Nat.le_of_ble_eq_true rfl) hl.1 dX11_reached_4) hM (fun r4 s4 H1 lc1 hp hM => ?_)
  obtain ⟨rfl, rfl⟩ := hp
  exact x_iret C hr hM ⟨rfl, rfl⟩ dX11_reached_7
set_option maxRecDepth 100000 in
set_option maxHeartbeats 4000000 in
theorem c_X11_nodes (l : Launch) (D : va_G) (ad : Nat → Nat) (G : Nat → Nat) (ids : List Nat) (hI : ∀ k, k < 81 → k ∈ ids) (σ : Sg)   : MET l yX11_nodes cX11_nodes 1 (some .int) 3 [.ref (ad 0)] D ad G ids σ (QI D ad G ids (fun z σ' => σ 21 0 + σ 16 0 = z ∧ σ = σ')) := by
  refine x_enter (by decide) (Nat.le_of_ble_eq_true rfl) ?_
  intro pp ee ss mm args below meth cq C hr ls hl hM
  have hl : lv_has ls 1 [(0, .ref (ad 0))] := hl
  refine lv_aload_n C.1 C.2.1 dX11_nodes_0 rfl (lv_at hl 0 rfl) ?_
  refine g_X11_6 C hM (hI 0 (by decide)) wf_X11_66 dX11_nodes_1 ?_
  refine x_ci (x_runV (As := []) (rest := []) C (by omega) cw_X11_252 (c_X7_nodeCount l D ad G ids hI σ) hM (hI 13 (by decide)) (cx_13 ad G _) rfl rfl rfl rfl (Nat.le_of_ble_eq_true rfl) hl.1 dX11_nodes_4) hM (fun r4 s4 H1 lc1 hp hM => ?_)
  obtain ⟨rfl, rfl⟩ := hp
  exact x_iret C hr hM ⟨rfl, rfl⟩ dX11_nodes_7
set_option maxRecDepth 100000 in
set_option maxHeartbeats 4000000 in
theorem c_X11_hits (l : Launch) (D : va_G) (ad : Nat → Nat) (G : Nat → Nat) (ids : List Nat) (hI : ∀ k, k < 81 → k ∈ ids) (σ : Sg)   : MET l yX11_hits cX11_hits 1 (some .int) 2 [.ref (ad 0)] D ad G ids σ (QI D ad G ids (fun z σ' => σ 22 0 = z ∧ σ = σ')) := by
  refine x_enter (by decide) (Nat.le_of_ble_eq_true rfl) ?_
  intro pp ee ss mm args below meth cq C hr ls hl hM
  have hl : lv_has ls 1 [(0, .ref (ad 0))] := hl
  refine lv_aload_n C.1 C.2.1 dX11_hits_0 rfl (lv_at hl 0 rfl) ?_
  refine g_X11_6 C hM (hI 0 (by decide)) wf_X11_66 dX11_hits_1 ?_
  refine x_ci (x_runV (As := []) (rest := []) C (by omega) cw_X11_255 (c_X7_hitCount l D ad G ids hI σ) hM (hI 13 (by decide)) (cx_13 ad G _) rfl rfl rfl rfl (Nat.le_of_ble_eq_true rfl) hl.1 dX11_hits_4) hM (fun r4 s4 H1 lc1 hp hM => ?_)
  obtain ⟨rfl, rfl⟩ := hp
  exact x_iret C hr hM ⟨rfl, rfl⟩ dX11_hits_7
set_option maxRecDepth 100000 in
set_option maxHeartbeats 4000000 in
theorem c_X11_cuts (l : Launch) (D : va_G) (ad : Nat → Nat) (G : Nat → Nat) (ids : List Nat) (hI : ∀ k, k < 81 → k ∈ ids) (σ : Sg)   : MET l yX11_cuts cX11_cuts 1 (some .int) 2 [.ref (ad 0)] D ad G ids σ (QI D ad G ids (fun z σ' => σ 23 0 = z ∧ σ = σ')) := by
  refine x_enter (by decide) (Nat.le_of_ble_eq_true rfl) ?_
  intro pp ee ss mm args below meth cq C hr ls hl hM
  have hl : lv_has ls 1 [(0, .ref (ad 0))] := hl
  refine lv_aload_n C.1 C.2.1 dX11_cuts_0 rfl (lv_at hl 0 rfl) ?_
  refine g_X11_6 C hM (hI 0 (by decide)) wf_X11_66 dX11_cuts_1 ?_
  refine x_ci (x_runV (As := []) (rest := []) C (by omega) cw_X11_258 (c_X7_cutCount l D ad G ids hI σ) hM (hI 13 (by decide)) (cx_13 ad G _) rfl rfl rfl rfl (Nat.le_of_ble_eq_true rfl) hl.1 dX11_cuts_4) hM (fun r4 s4 H1 lc1 hp hM => ?_)
  obtain ⟨rfl, rfl⟩ := hp
  exact x_iret C hr hM ⟨rfl, rfl⟩ dX11_cuts_7
set_option maxRecDepth 100000 in
set_option maxHeartbeats 4000000 in
theorem c_X11_slots (l : Launch) (D : va_G) (ad : Nat → Nat) (G : Nat → Nat) (ids : List Nat) (hI : ∀ k, k < 81 → k ∈ ids) (σ : Sg)   : MET l yX11_slots cX11_slots 1 (some .int) 2 [.ref (ad 0)] D ad G ids σ (QI D ad G ids (fun z σ' => σ 9 0 = z ∧ σ = σ')) := by
  refine x_enter (by decide) (Nat.le_of_ble_eq_true rfl) ?_
  intro pp ee ss mm args below meth cq C hr ls hl hM
  have hl : lv_has ls 1 [(0, .ref (ad 0))] := hl
  refine lv_aload_n C.1 C.2.1 dX11_slots_0 rfl (lv_at hl 0 rfl) ?_
  refine g_X11_4 C hM (hI 0 (by decide)) wf_X11_43 dX11_slots_1 ?_
  refine x_ci (x_runV (As := []) (rest := []) C (by omega) cw_X11_189 (c_X8_size l D ad G ids hI σ) hM (hI 4 (by decide)) (cx_4 ad G _) rfl rfl rfl rfl (Nat.le_of_ble_eq_true rfl) hl.1 dX11_slots_4) hM (fun r4 s4 H1 lc1 hp hM => ?_)
  obtain ⟨rfl, rfl⟩ := hp
  exact x_iret C hr hM ⟨rfl, rfl⟩ dX11_slots_7
set_option maxRecDepth 100000 in
set_option maxHeartbeats 4000000 in
theorem c_X11_pages (l : Launch) (D : va_G) (ad : Nat → Nat) (G : Nat → Nat) (ids : List Nat) (hI : ∀ k, k < 81 → k ∈ ids) (σ : Sg)   : MET l yX11_pages cX11_pages 1 (some .int) 2 [.ref (ad 0)] D ad G ids σ (QI D ad G ids (fun z σ' => σ 27 0 = z ∧ σ = σ')) := by
  refine x_enter (by decide) (Nat.le_of_ble_eq_true rfl) ?_
  intro pp ee ss mm args below meth cq C hr ls hl hM
  have hl : lv_has ls 1 [(0, .ref (ad 0))] := hl
  refine lv_aload_n C.1 C.2.1 dX11_pages_0 rfl (lv_at hl 0 rfl) ?_
  refine g_X11_7 C hM (hI 0 (by decide)) wf_X11_73 dX11_pages_1 ?_
  refine x_ci (x_runV (As := []) (rest := []) C (by omega) cw_X11_297 (c_X1_length l D ad G ids hI σ) hM (hI 17 (by decide)) (cx_17 ad G _) rfl rfl rfl rfl (Nat.le_of_ble_eq_true rfl) hl.1 dX11_pages_4) hM (fun r4 s4 H1 lc1 hp hM => ?_)
  obtain ⟨rfl, rfl⟩ := hp
  exact x_iret C hr hM ⟨rfl, rfl⟩ dX11_pages_7
set_option maxRecDepth 100000 in
set_option maxHeartbeats 4000000 in
theorem c_X11_moves (l : Launch) (D : va_G) (ad : Nat → Nat) (G : Nat → Nat) (ids : List Nat) (hI : ∀ k, k < 81 → k ∈ ids) (σ : Sg)  (hG : GI σ) (hL : LM σ 0 (MLs (σ 1) (σ 2 0) (σ 3 0) (σ 4 0)) (σ 1)) : MET l yX11_moves cX11_moves 1 (some .int) 2 [.ref (ad 0)] D ad G ids σ (QI D ad G ids (fun z σ' => ((MLs (σ 1) (σ 2 0) (σ 3 0) (σ 4 0)).length : Int) = z ∧ σ = σ')) := by
  have h18 : (MLs (σ 1) (σ 2 0) (σ 3 0) (σ 4 0)).length ≤ 18 := MLs18 hG
  have hMB : ∀ v, v ∈ (MLs (σ 1) (σ 2 0) (σ 3 0) (σ 4 0)) → 0 ≤ v ∧ v < 2500 := MLsMB hG
  refine x_enter (by decide) (Nat.le_of_ble_eq_true rfl) ?_
  intro pp ee ss mm args below meth cq C hr ls hl hM
  have hl : lv_has ls 1 [(0, .ref (ad 0))] := hl
  refine lv_aload_n C.1 C.2.1 dX11_moves_0 rfl (lv_at hl 0 rfl) ?_
  refine g_X11_1 C hM (hI 0 (by decide)) wf_X11_22 dX11_moves_1 ?_
  refine x_ci (x_runV (As := []) (rest := []) C (by omega) cw_X11_204 (c_X5_size l D ad G ids hI σ 0 (MLs (σ 1) (σ 2 0) (σ 3 0) (σ 4 0)) (σ 1) (by decide) hL) hM (hI _ (by omega)) (cx_lo ad G _ (by decide)) rfl rfl rfl rfl (Nat.le_of_ble_eq_true rfl) hl.1 dX11_moves_4) hM (fun r4 s4 H1 lc1 hp hM => ?_)
  obtain ⟨rfl, rfl⟩ := hp
  exact x_iret C hr hM ⟨rfl, rfl⟩ dX11_moves_7
set_option maxRecDepth 100000 in
set_option maxHeartbeats 4000000 in
theorem c_X11_isLost (l : Launch) (D : va_G) (ad : Nat → Nat) (G : Nat → Nat) (ids : List Nat) (hI : ∀ k, k < 81 → k ∈ ids) (σ : Sg)  (hG : GI σ) (hL : LM σ 0 (MLs (σ 1) (σ 2 0) (σ 3 0) (σ 4 0)) (σ 1)) : MET l yX11_isLost cX11_isLost 1 (some .boolean) 3 [.ref (ad 0)] D ad G ids σ (QI D ad G ids (fun z σ' => (if (MLs (σ 1) (σ 2 0) (σ 3 0) (σ 4 0)) = [] then 1 else 0) = z ∧ σ = σ')) := by
  have h18 : (MLs (σ 1) (σ 2 0) (σ 3 0) (σ 4 0)).length ≤ 18 := MLs18 hG
  have hMB : ∀ v, v ∈ (MLs (σ 1) (σ 2 0) (σ 3 0) (σ 4 0)) → 0 ≤ v ∧ v < 2500 := MLsMB hG
  refine x_enter (by decide) (Nat.le_of_ble_eq_true rfl) ?_
  intro pp ee ss mm args below meth cq C hr ls hl hM
  have hl : lv_has ls 1 [(0, .ref (ad 0))] := hl
  refine lv_aload_n C.1 C.2.1 dX11_isLost_0 rfl (lv_at hl 0 rfl) ?_
  refine x_ci (x_runV (As := []) (rest := []) C (by omega) cw_X11_217 (c_X11_isOver l D ad G ids hI σ (MLs (σ 1) (σ 2 0) (σ 3 0) (σ 4 0)) (σ 1) hL h18) hM (hI 0 (by decide)) (cx_0 ad G _) rfl rfl rfl rfl (Nat.le_of_ble_eq_true rfl) hl.1 dX11_isLost_1) hM (fun r1 s1 H1 lc1 hp hM => ?_)
  obtain ⟨hbs1, rfl⟩ := hp
  obtain ⟨ts1, ks1⟩ := ite01 hbs1
  exact x_zret C hr hM (by first | exact Or.inl rfl | exact Or.inr rfl | omega) ⟨hbs1, rfl⟩ dX11_isLost_4
set_option maxRecDepth 100000 in
set_option maxHeartbeats 4000000 in
theorem c_X11_key (l : Launch) (D : va_G) (ad : Nat → Nat) (G : Nat → Nat) (ids : List Nat) (hI : ∀ k, k < 81 → k ∈ ids) (σ : Sg)  (hG : GI σ) : MET l yX11_key cX11_key 1 (some .long) 2 [.ref (ad 0)] D ad G ids σ (QL D ad G ids (fun z σ' => (keyS (cfg σ) (σ 1) (σ 4 0)) = z ∧ σ = σ')) := by
  have hs := hG.2.2.1
  refine x_enter (by decide) (Nat.le_of_ble_eq_true rfl) ?_
  intro pp ee ss mm args below meth cq C hr ls hl hM
  have hl : lv_has ls 1 [(0, .ref (ad 0))] := hl
  refine lv_aload_n C.1 C.2.1 dX11_key_0 rfl (lv_at hl 0 rfl) ?_
  refine g_X11_0 C hM (hI 0 (by decide)) wf_X11_13 dX11_key_1 ?_
  refine x_cl (x_runV (As := []) (rest := []) C (by omega) cw_X11_220 (c_X0_keyNumber l D ad G ids hI σ hG.1 hG.2.1 hs) hM (hI 1 (by decide)) (cx_1 ad G _) rfl rfl rfl rfl (Nat.le_of_ble_eq_true rfl) hl.1 dX11_key_4) hM (fun r4 s4 H1 lc1 hp hM => ?_)
  obtain ⟨rfl, rfl⟩ := hp
  exact x_lret C hr hM ⟨rfl, rfl⟩ dX11_key_7
set_option maxRecDepth 100000 in
set_option maxHeartbeats 4000000 in
theorem c_X11_evaluation (l : Launch) (D : va_G) (ad : Nat → Nat) (G : Nat → Nat) (ids : List Nat) (hI : ∀ k, k < 81 → k ∈ ids) (σ : Sg)  (hG : GI σ) : MET l yX11_evaluation cX11_evaluation 1 (some .int) 8 [.ref (ad 0)] D ad G ids σ (QI D ad G ids (fun z σ' => evS (cfg σ) (σ 1) (σ 4 0) = z ∧ σ = σ')) := by
  refine x_enter (by decide) (Nat.le_of_ble_eq_true rfl) ?_
  intro pp ee ss mm args below meth cq C hr ls hl hM
  have hl : lv_has ls 1 [(0, .ref (ad 0))] := hl
  refine lv_aload_n C.1 C.2.1 dX11_evaluation_0 rfl (lv_at hl 0 rfl) ?_
  refine g_X11_3 C hM (hI 0 (by decide)) wf_X11_36 dX11_evaluation_1 ?_
  refine lv_aload_n C.1 C.2.1 dX11_evaluation_4 rfl (lv_at hl 0 rfl) ?_
  refine g_X11_0 C hM (hI 0 (by decide)) wf_X11_13 dX11_evaluation_5 ?_
  refine x_ci (x_runV (As := [.ref (ad 1)]) (rest := []) C (by omega) cw_X11_175 (c_X2_evaluate l D ad G ids hI σ hG) hM (hI 3 (by decide)) (cx_3 ad G _) rfl rfl rfl rfl (Nat.le_of_ble_eq_true rfl) hl.1 dX11_evaluation_8) hM (fun r8 s8 H1 lc1 hp hM => ?_)
  obtain ⟨rfl, rfl⟩ := hp
  exact x_iret C hr hM ⟨rfl, rfl⟩ dX11_evaluation_11
set_option maxRecDepth 100000 in
set_option maxHeartbeats 4000000 in
theorem c_X11_entries (l : Launch) (D : va_G) (ad : Nat → Nat) (G : Nat → Nat) (ids : List Nat) (hI : ∀ k, k < 81 → k ∈ ids) (σ : Sg)  (hTI : TI σ) : MET l yX11_entries cX11_entries 1 (some .int) 2 [.ref (ad 0)] D ad G ids σ (QI D ad G ids (fun z σ' => cntE (σ 11) 64 = z ∧ σ = σ')) := by
  refine x_enter (by decide) (Nat.le_of_ble_eq_true rfl) ?_
  intro pp ee ss mm args below meth cq C hr ls hl hM
  have hl : lv_has ls 1 [(0, .ref (ad 0))] := hl
  refine lv_aload_n C.1 C.2.1 dX11_entries_0 rfl (lv_at hl 0 rfl) ?_
  refine g_X11_4 C hM (hI 0 (by decide)) wf_X11_43 dX11_entries_1 ?_
  refine x_ci (x_runV (As := []) (rest := []) C (by omega) cw_X11_195 (c_X8_countEntries l D ad G ids hI σ hTI) hM (hI 4 (by decide)) (cx_4 ad G _) rfl rfl rfl rfl (Nat.le_of_ble_eq_true rfl) hl.1 dX11_entries_4) hM (fun r4 s4 H1 lc1 hp hM => ?_)
  obtain ⟨rfl, rfl⟩ := hp
  exact x_iret C hr hM ⟨rfl, rfl⟩ dX11_entries_7
set_option maxRecDepth 100000 in
set_option maxHeartbeats 4000000 in
theorem c_X11_known (l : Launch) (D : va_G) (ad : Nat → Nat) (G : Nat → Nat) (ids : List Nat) (hI : ∀ k, k < 81 → k ∈ ids) (σ : Sg)  (hG : GI σ) (hTI : TI σ) : MET l yX11_known cX11_known 1 (some .int) 3 [.ref (ad 0)] D ad G ids σ (QI D ad G ids (fun z σ' => knF σ = z ∧ σ = σ')) := by
  have hs := hG.2.2.1
  have hkey : 0 ≤ (keyS (cfg σ) (σ 1) (σ 4 0)) ∧ (keyS (cfg σ) (σ 1) (σ 4 0)) < 4000000000000000000 := SB_key hG
  refine x_enter (by decide) (Nat.le_of_ble_eq_true rfl) ?_
  intro pp ee ss mm args below meth cq C hr ls hl hM
  have hl : lv_has ls 1 [(0, .ref (ad 0))] := hl
  refine lv_aload_n C.1 C.2.1 dX11_known_0 rfl (lv_at hl 0 rfl) ?_
  refine g_X11_4 C hM (hI 0 (by decide)) wf_X11_43 dX11_known_1 ?_
  refine lv_aload_n C.1 C.2.1 dX11_known_4 rfl (lv_at hl 0 rfl) ?_
  refine g_X11_4 C hM (hI 0 (by decide)) wf_X11_43 dX11_known_5 ?_
  refine lv_aload_n C.1 C.2.1 dX11_known_8 rfl (lv_at hl 0 rfl) ?_
  refine g_X11_0 C hM (hI 0 (by decide)) wf_X11_13 dX11_known_9 ?_
  refine x_cl (x_runV (As := []) (rest := [.ref (ad 4), .ref (ad 4)]) C (by omega) cw_X11_220 (c_X0_keyNumber l D ad G ids hI σ hG.1 hG.2.1 hs) hM (hI 1 (by decide)) (cx_1 ad G _) rfl rfl rfl rfl (Nat.le_of_ble_eq_true rfl) hl.1 dX11_known_12) hM (fun r12 s12 H1 lc1 hp hM => ?_)
  obtain ⟨rfl, rfl⟩ := hp
  have hke : keyF (σ 1) (σ 2 0 * σ 3 0).toNat * 2 + σ 4 0 = (keyS (cfg σ) (σ 1) (σ 4 0)) := rfl
  rw [hke]
  refine x_ci (x_runV (As := [.long (jI (keyS (cfg σ) (σ 1) (σ 4 0)))]) (rest := [.ref (ad 4)]) C (by omega) cw_X11_276 (c_X8_find l D ad G ids hI σ (keyS (cfg σ) (σ 1) (σ 4 0)) hTI hkey) hM (hI 4 (by decide)) (cx_4 ad G _) rfl rfl rfl rfl (Nat.le_of_ble_eq_true rfl) hl.1 dX11_known_15) hM (fun r15 s15 H1 lc1 hp hM => ?_)
  obtain ⟨hbs15, rfl⟩ := hp
  have hcs : (0 ≤ r15 ∧ r15 < 64 ∧ 0 < σ 11 r15 ∧ σ 10 r15 = (keyS (cfg σ) (σ 1) (σ 4 0))) ∨ r15 = -1 := fnd_cs hTI hbs15
  refine x_ci (x_runV (As := [.int (iI r15)]) (rest := []) C (by omega) cw_X11_280 (c_X8_depthAt l D ad G ids hI σ r15 hTI ⟨by omega, by omega⟩) hM (hI 4 (by decide)) (cx_4 ad G _) rfl rfl rfl rfl (Nat.le_of_ble_eq_true rfl) hl.1 dX11_known_18) hM (fun r18 s18 H1 lc1 hp hM => ?_)
  obtain ⟨hbs18, rfl⟩ := hp
  refine x_iret C hr hM ?_ dX11_known_21
  exact ⟨by
    unfold knF
    rw [hbs15, ← hbs18]
    rcases hcs with h | h
    · rw [if_neg (by omega), if_pos (by omega)]
    · rw [if_pos h, if_neg (by omega)], rfl⟩
set_option maxRecDepth 100000 in
set_option maxHeartbeats 4000000 in
theorem c_X11_told (l : Launch) (D : va_G) (ad : Nat → Nat) (G : Nat → Nat) (ids : List Nat) (hI : ∀ k, k < 81 → k ∈ ids) (σ : Sg)  (hG : GI σ) (hL : LM σ 0 (MLs (σ 1) (σ 2 0) (σ 3 0) (σ 4 0)) (σ 1)) (hBK : BKI σ) : MET l yX11_told cX11_told 1 (some .int) 3 [.ref (ad 0)] D ad G ids σ (QI D ad G ids (fun z σ' => tlF σ = z ∧ σ = σ')) := by
  have h18 : (MLs (σ 1) (σ 2 0) (σ 3 0) (σ 4 0)).length ≤ 18 := MLs18 hG
  have hMB : ∀ v, v ∈ (MLs (σ 1) (σ 2 0) (σ 3 0) (σ 4 0)) → 0 ≤ v ∧ v < 2500 := MLsMB hG
  have hs := hG.2.2.1
  have hkey : 0 ≤ (keyS (cfg σ) (σ 1) (σ 4 0)) ∧ (keyS (cfg σ) (σ 1) (σ 4 0)) < 4000000000000000000 := SB_key hG
  refine x_enter (by decide) (Nat.le_of_ble_eq_true rfl) ?_
  intro pp ee ss mm args below meth cq C hr ls hl hM
  have hl : lv_has ls 1 [(0, .ref (ad 0))] := hl
  refine lv_aload_n C.1 C.2.1 dX11_told_0 rfl (lv_at hl 0 rfl) ?_
  refine g_X11_7 C hM (hI 0 (by decide)) wf_X11_73 dX11_told_1 ?_
  refine lv_aload_n C.1 C.2.1 dX11_told_4 rfl (lv_at hl 0 rfl) ?_
  refine g_X11_0 C hM (hI 0 (by decide)) wf_X11_13 dX11_told_5 ?_
  refine x_cl (x_runV (As := []) (rest := [.ref (ad 17)]) C (by omega) cw_X11_220 (c_X0_keyNumber l D ad G ids hI σ hG.1 hG.2.1 hs) hM (hI 1 (by decide)) (cx_1 ad G _) rfl rfl rfl rfl (Nat.le_of_ble_eq_true rfl) hl.1 dX11_told_8) hM (fun r8 s8 H1 lc1 hp hM => ?_)
  obtain ⟨rfl, rfl⟩ := hp
  have hke : keyF (σ 1) (σ 2 0 * σ 3 0).toNat * 2 + σ 4 0 = (keyS (cfg σ) (σ 1) (σ 4 0)) := rfl
  rw [hke]
  refine lv_aload_n C.1 C.2.1 dX11_told_11 rfl (lv_at hl 0 rfl) ?_
  refine g_X11_1 C hM (hI 0 (by decide)) wf_X11_22 dX11_told_12 ?_
  refine x_ci (x_runV (As := [.long (jI (keyS (cfg σ) (σ 1) (σ 4 0))), .ref (ad (26 + 5 * 0))]) (rest := []) C (by omega) cw_X11_298 (c_X1_choose l D ad G ids hI σ 0 (MLs (σ 1) (σ 2 0) (σ 3 0) (σ 4 0)) (σ 1) (keyS (cfg σ) (σ 1) (σ 4 0)) (by decide) hL h18 hMB hBK hkey) hM (hI 17 (by decide)) (cx_17 ad G _) rfl rfl rfl rfl (Nat.le_of_ble_eq_true rfl) hl.1 dX11_told_15) hM (fun r15 s15 H1 lc1 hp hM => ?_)
  obtain ⟨rfl, rfl⟩ := hp
  exact x_iret C hr hM ⟨rfl, rfl⟩ dX11_told_18
set_option maxRecDepth 100000 in
set_option maxHeartbeats 4000000 in
theorem c_X11_setQuiet (l : Launch) (D : va_G) (ad : Nat → Nat) (G : Nat → Nat) (ids : List Nat) (hI : ∀ k, k < 81 → k ∈ ids) (σ : Sg) (n : Int) (hn : n = 0 ∨ n = 1) (hq : σ 8 0 = 0 ∨ σ 8 0 = 1) : MET l yX11_setQuiet cX11_setQuiet 3 (some .boolean) 2 [.ref (ad 0), .int (iI n)] D ad G ids σ (QI D ad G ids (fun z σ' => σ 8 0 = z ∧ (if σ 8 0 = n then σ else upr (upr σ 8 (ups (σ 8) 0 n)) 11 (wpF (σ 11) 64)) = σ')) := by
  refine x_enter (by decide) (Nat.le_of_ble_eq_true rfl) ?_
  intro pp ee ss mm args below meth cq C hr ls hl hM
  have hl : lv_has ls 3 [(0, .ref (ad 0)), (1, .int (iI n))] := hl
  refine lv_aload_n C.1 C.2.1 dX11_setQuiet_0 rfl (lv_at hl 0 rfl) ?_
  refine g_X11_3 C hM (hI 0 (by decide)) wf_X11_36 dX11_setQuiet_1 ?_
  refine x_ci (x_runV (As := []) (rest := []) C (by omega) cw_X11_179 (c_X2_isQuietOn l D ad G ids hI σ hq) hM (hI 3 (by decide)) (cx_3 ad G _) rfl rfl rfl rfl (Nat.le_of_ble_eq_true rfl) hl.1 dX11_setQuiet_4) hM (fun r4 s4 H1 lc1 hp hM => ?_)
  obtain ⟨rfl, rfl⟩ := hp
  refine lv_istore_n (lv' := [(2, .int (iI (σ 8 0))), (0, .ref (ad 0)), (1, .int (iI n))]) C.1 C.2.1 dX11_setQuiet_7 rfl hl (by decide) rfl (fun ls hl => ?_)
  refine lv_iload_n C.1 C.2.1 dX11_setQuiet_8 rfl (lv_at hl 0 rfl) ?_
  refine lv_iload_n C.1 C.2.1 dX11_setQuiet_9 rfl (lv_at hl 2 rfl) ?_
  refine x_icmp_eq C ⟨by omega, by omega⟩ ⟨by omega, by omega⟩ (tgt := 28) dX11_setQuiet_10 (by decide) (fun c10 => ?_) (fun c10 => ?_)
  · refine lv_iload_n C.1 C.2.1 dX11_setQuiet_28 rfl (lv_at hl 0 rfl) ?_
    exact x_zret C hr hM (by first | exact Or.inl rfl | exact Or.inr rfl | omega) ⟨rfl, if_pos (by omega)⟩ dX11_setQuiet_29
  · refine lv_aload_n C.1 C.2.1 dX11_setQuiet_13 rfl (lv_at hl 1 rfl) ?_
    refine g_X11_3 C hM (hI 0 (by decide)) wf_X11_36 dX11_setQuiet_14 ?_
    refine lv_iload_n C.1 C.2.1 dX11_setQuiet_17 rfl (lv_at hl 2 rfl) ?_
    refine x_cv (x_runV (As := [.int (iI n)]) (rest := []) C (by omega) cw_X11_183 (c_X2_switchQuiet l D ad G ids hI σ n (by omega)) hM (hI 3 (by decide)) (cx_3 ad G _) rfl rfl rfl rfl (Nat.le_of_ble_eq_true rfl) hl.1 dX11_setQuiet_18) hM (fun s18 H1 lc1 hp hM => ?_)
    obtain rfl := hp
    refine lv_aload_n C.1 C.2.1 dX11_setQuiet_21 rfl (lv_at hl 1 rfl) ?_
    refine g_X11_4 C hM (hI 0 (by decide)) wf_X11_43 dX11_setQuiet_22 ?_
    refine x_cv (x_runV (As := []) (rest := []) C (by omega) cw_X11_102 (c_X8_wipe l D ad G ids hI (upr σ 8 (ups (σ 8) 0 n))) hM (hI 4 (by decide)) (cx_4 ad G _) rfl rfl rfl rfl (Nat.le_of_ble_eq_true rfl) hl.1 dX11_setQuiet_25) hM (fun s25 H1 lc1 hp hM => ?_)
    obtain rfl := hp
    refine lv_iload_n C.1 C.2.1 dX11_setQuiet_28 rfl (lv_at hl 0 rfl) ?_
    exact x_zret C hr hM (by first | exact Or.inl rfl | exact Or.inr rfl | omega) ⟨rfl, if_neg (by omega)⟩ dX11_setQuiet_29
set_option maxRecDepth 100000 in
set_option maxHeartbeats 4000000 in
theorem c_X11_addBoard (l : Launch) (D : va_G) (ad : Nat → Nat) (G : Nat → Nat) (ids : List Nat) (hI : ∀ k, k < 81 → k ∈ ids) (σ : Sg) (d : Int) (hG : GI σ) (hL : LM σ 0 (MLs (σ 1) (σ 2 0) (σ 3 0) (σ 4 0)) (σ 1)) (hTR : TRI σ) : MET l yX11_addBoard cX11_addBoard 7 (some .long) 8 [.ref (ad 0), .long (jI d)] D ad G ids σ (QL D ad G ids (fun z σ' => dg2 σ (dgF (fun i => wI (σ 1 i)) (σ 2 0 * σ 3 0).toNat ((d * 31 + wI (σ 2 0)) * 31 + wI (σ 3 0))) = z ∧ σ = σ')) := by
  have h18 : (MLs (σ 1) (σ 2 0) (σ 3 0) (σ 4 0)).length ≤ 18 := MLs18 hG
  have hMB : ∀ v, v ∈ (MLs (σ 1) (σ 2 0) (σ 3 0) (σ 4 0)) → 0 ≤ v ∧ v < 2500 := MLsMB hG
  have hB := hG.1
  obtain ⟨w1, w2, h1, h2⟩ := hB
  have wb := wh_bd w1 w2 h1 h2
  have hs := hG.2.2.1
  refine x_enter (by decide) (Nat.le_of_ble_eq_true rfl) ?_
  intro pp ee ss mm args below meth cq C hr ls hl hM
  have hl : lv_has ls 7 [(0, .ref (ad 0)), (1, .long (jI d))] := hl
  refine lv_lload_n C.1 C.2.1 dX11_addBoard_0 rfl (lv_at hl 1 rfl) ?_
  refine lv_aload_n C.1 C.2.1 dX11_addBoard_1 rfl (lv_at hl 0 rfl) ?_
  refine g_X11_0 C hM (hI 0 (by decide)) wf_X11_13 dX11_addBoard_2 ?_
  refine x_ci (x_runV (As := []) (rest := [.long (jI d)]) C (by omega) cw_X11_198 (c_X0_width l D ad G ids hI σ) hM (hI 1 (by decide)) (cx_1 ad G _) rfl rfl rfl rfl (Nat.le_of_ble_eq_true rfl) hl.1 dX11_addBoard_5) hM (fun r5 s5 H1 lc1 hp hM => ?_)
  obtain ⟨rfl, rfl⟩ := hp
  refine x_i2lW C dX11_addBoard_8 ?_
  refine x_cl (x_runS (As := [.long (jI d), .long (jI (wI (σ 2 0)))]) (rest := []) C (by omega) cw_X11_325 (c_X11_join l D ad G ids hI σ d (wI (σ 2 0))) hM rfl rfl (Nat.le_of_ble_eq_true rfl) hl.1 dX11_addBoard_9) hM (fun r9 s9 H1 lc1 hp hM => ?_)
  obtain ⟨rfl, rfl⟩ := hp
  refine lv_aload_n C.1 C.2.1 dX11_addBoard_12 rfl (lv_at hl 0 rfl) ?_
  refine g_X11_0 C hM (hI 0 (by decide)) wf_X11_13 dX11_addBoard_13 ?_
  refine x_ci (x_runV (As := []) (rest := [.long (jI (d * 31 + (wI (σ 2 0))))]) C (by omega) cw_X11_201 (c_X0_height l D ad G ids hI σ) hM (hI 1 (by decide)) (cx_1 ad G _) rfl rfl rfl rfl (Nat.le_of_ble_eq_true rfl) hl.1 dX11_addBoard_16) hM (fun r16 s16 H1 lc1 hp hM => ?_)
  obtain ⟨rfl, rfl⟩ := hp
  refine x_i2lW C dX11_addBoard_19 ?_
  refine x_cl (x_runS (As := [.long (jI (d * 31 + (wI (σ 2 0)))), .long (jI (wI (σ 3 0)))]) (rest := []) C (by omega) cw_X11_325 (c_X11_join l D ad G ids hI σ (d * 31 + (wI (σ 2 0))) (wI (σ 3 0))) hM rfl rfl (Nat.le_of_ble_eq_true rfl) hl.1 dX11_addBoard_20) hM (fun r20 s20 H1 lc1 hp hM => ?_)
  obtain ⟨rfl, rfl⟩ := hp
  refine lv_lstore_n (lv' := [(3, .long (jI ((d * 31 + (wI (σ 2 0))) * 31 + (wI (σ 3 0))))), (0, .ref (ad 0)), (1, .long (jI d))]) C.1 C.2.1 dX11_addBoard_23 rfl hl (by decide) rfl (fun ls hl => ?_)
  refine lv_aload_n C.1 C.2.1 dX11_addBoard_24 rfl (lv_at hl 1 rfl) ?_
  refine g_X11_0 C hM (hI 0 (by decide)) wf_X11_13 dX11_addBoard_25 ?_
  refine x_ci (x_runV (As := []) (rest := []) C (by omega) cw_X11_332 (c_X0_countFields l D ad G ids hI σ) hM (hI 1 (by decide)) (cx_1 ad G _) rfl rfl rfl rfl (Nat.le_of_ble_eq_true rfl) hl.1 dX11_addBoard_28) hM (fun r28 s28 H1 lc1 hp hM => ?_)
  obtain ⟨rfl, rfl⟩ := hp
  refine lv_istore (lv' := [(5, .int (iI (σ 2 0 * σ 3 0))), (3, .long (jI ((d * 31 + (wI (σ 2 0))) * 31 + (wI (σ 3 0))))), (0, .ref (ad 0)), (1, .long (jI d))]) C.1 C.2.1 dX11_addBoard_31 hl (by decide) rfl (fun ls hl => ?_)
  refine lv_iconst (v := iI 0) C.1 C.2.1 dX11_addBoard_33 (by decide) ?_
  refine lv_istore (lv' := [(6, .int (iI 0)), (5, .int (iI (σ 2 0 * σ 3 0))), (3, .long (jI ((d * 31 + (wI (σ 2 0))) * 31 + (wI (σ 3 0))))), (0, .ref (ad 0)), (1, .long (jI d))]) C.1 C.2.1 dX11_addBoard_34 hl (by decide) rfl (fun ls hl => ?_)
  have L36 : ∀ (fu : Nat) (i : Int) (dd : Int) (H1 : Heap) (lc1 : List Loc) (ls1 : Array Slot), (0 ≤ i ∧ i ≤ σ 2 0 * σ 3 0) → (dd = dgF (fun i => wI (σ 1 i)) i.toNat ((d * 31 + wI (σ 2 0)) * 31 + wI (σ 3 0))) → (40 - i).toNat < fu → XI D ad G ids (AN ad ids ss.heap.size) ss.heap H1 lc1 σ → lv_has ls1 7 [(6, .int (iI i)), (5, .int (iI (σ 2 0 * σ 3 0))), (3, .long (jI dd)), (0, .ref (ad 0)), (1, .long (jI d))] → W pp l ee (rmh 8) ss mm args below meth cq H1 lc1 0 0 (MQ below (QL D ad G ids (fun z σ' => dg2 σ (dgF (fun i => wI (σ 1 i)) (σ 2 0 * σ 3 0).toNat ((d * 31 + wI (σ 2 0)) * 31 + wI (σ 3 0))) = z ∧ σ = σ') ss.heap.size) args ss 0 0 (AN ad ids ss.heap.size)) (F0 mm 36 ls1 []) := by
    intro fu
    induction fu with
    | zero => intro i dd  H1 lc1 ls1 i0 hd hfu; exact absurd hfu (Nat.not_lt_zero _)
    | succ fu ih36 =>
      intro i dd  H1 lc1 ls1 i0 hd hfu hM hl
      refine lv_iload C.1 C.2.1 dX11_addBoard_36 (lv_at hl 0 rfl) ?_
      refine lv_iload C.1 C.2.1 dX11_addBoard_38 (lv_at hl 1 rfl) ?_
      refine x_icmp_ge C ⟨by omega, by omega⟩ ⟨by omega, by omega⟩ (tgt := 64) dX11_addBoard_40 (by decide) (fun c40 => ?_) (fun c40 => ?_)
      · refine lv_lload_n C.1 C.2.1 dX11_addBoard_64 rfl (lv_at hl 2 rfl) ?_
        refine lv_aload_n C.1 C.2.1 dX11_addBoard_65 rfl (lv_at hl 3 rfl) ?_
        refine g_X11_0 C hM (hI 0 (by decide)) wf_X11_13 dX11_addBoard_66 ?_
        refine x_ci (x_runV (As := []) (rest := [.long (jI dd)]) C (by omega) cw_X11_137 (c_X0_mover l D ad G ids hI σ) hM (hI 1 (by decide)) (cx_1 ad G _) rfl rfl rfl rfl (Nat.le_of_ble_eq_true rfl) hl.1 dX11_addBoard_69) hM (fun r69 s69 H1 lc1 hp hM => ?_)
        obtain ⟨rfl, rfl⟩ := hp
        refine x_i2lW C dX11_addBoard_72 ?_
        refine x_cl (x_runS (As := [.long (jI dd), .long (jI (wI (σ 4 0)))]) (rest := []) C (by omega) cw_X11_325 (c_X11_join l D ad G ids hI σ dd (wI (σ 4 0))) hM rfl rfl (Nat.le_of_ble_eq_true rfl) hl.1 dX11_addBoard_73) hM (fun r73 s73 H1 lc1 hp hM => ?_)
        obtain ⟨rfl, rfl⟩ := hp
        refine lv_lstore_n (lv' := [(3, .long (jI (dd * 31 + (wI (σ 4 0))))), (6, .int (iI i)), (5, .int (iI (σ 2 0 * σ 3 0))), (0, .ref (ad 0)), (1, .long (jI d))]) C.1 C.2.1 dX11_addBoard_76 rfl hl (by decide) rfl (fun ls hl => ?_)
        refine lv_lload_n C.1 C.2.1 dX11_addBoard_77 rfl (lv_at hl 0 rfl) ?_
        refine lv_aload_n C.1 C.2.1 dX11_addBoard_78 rfl (lv_at hl 3 rfl) ?_
        refine g_X11_2 C hM (hI 0 (by decide)) wf_X11_29 dX11_addBoard_79 ?_
        refine x_ci (x_runV (As := []) (rest := [.long (jI (dd * 31 + (wI (σ 4 0))))]) C (by omega) cw_X11_153 (c_X9_length l D ad G ids hI σ) hM (hI 21 (by decide)) (cx_21 ad G _) rfl rfl rfl rfl (Nat.le_of_ble_eq_true rfl) hl.1 dX11_addBoard_82) hM (fun r82 s82 H1 lc1 hp hM => ?_)
        obtain ⟨rfl, rfl⟩ := hp
        refine x_i2lW C dX11_addBoard_85 ?_
        refine x_cl (x_runS (As := [.long (jI (dd * 31 + (wI (σ 4 0)))), .long (jI (wI (σ 30 0)))]) (rest := []) C (by omega) cw_X11_325 (c_X11_join l D ad G ids hI σ (dd * 31 + (wI (σ 4 0))) (wI (σ 30 0))) hM rfl rfl (Nat.le_of_ble_eq_true rfl) hl.1 dX11_addBoard_86) hM (fun r86 s86 H1 lc1 hp hM => ?_)
        obtain ⟨rfl, rfl⟩ := hp
        refine lv_lstore_n (lv' := [(3, .long (jI ((dd * 31 + (wI (σ 4 0))) * 31 + (wI (σ 30 0))))), (6, .int (iI i)), (5, .int (iI (σ 2 0 * σ 3 0))), (0, .ref (ad 0)), (1, .long (jI d))]) C.1 C.2.1 dX11_addBoard_89 rfl hl (by decide) rfl (fun ls hl => ?_)
        refine lv_lload_n C.1 C.2.1 dX11_addBoard_90 rfl (lv_at hl 0 rfl) ?_
        refine lv_aload_n C.1 C.2.1 dX11_addBoard_91 rfl (lv_at hl 3 rfl) ?_
        refine x_ci (x_runV (As := []) (rest := [.long (jI ((dd * 31 + (wI (σ 4 0))) * 31 + (wI (σ 30 0))))]) C (by omega) cw_X11_217 (c_X11_isOver l D ad G ids hI σ (MLs (σ 1) (σ 2 0) (σ 3 0) (σ 4 0)) (σ 1) hL h18) hM (hI 0 (by decide)) (cx_0 ad G _) rfl rfl rfl rfl (Nat.le_of_ble_eq_true rfl) hl.1 dX11_addBoard_92) hM (fun r92 s92 H1 lc1 hp hM => ?_)
        obtain ⟨hbs92, rfl⟩ := hp
        obtain ⟨ts92, ks92⟩ := ite01 hbs92
        refine x_if_eq C ⟨by omega, by omega⟩ (tgt := 102) dX11_addBoard_95 (by decide) (fun c95 => ?_) (fun c95 => ?_)
        · refine lv_lconst (v := jI 0) C.1 C.2.1 dX11_addBoard_102 (by decide) ?_
          refine x_cl (x_runS (As := [.long (jI ((dd * 31 + (wI (σ 4 0))) * 31 + (wI (σ 30 0)))), .long (jI 0)]) (rest := []) C (by omega) cw_X11_325 (c_X11_join l D ad G ids hI σ ((dd * 31 + (wI (σ 4 0))) * 31 + (wI (σ 30 0))) 0) hM rfl rfl (Nat.le_of_ble_eq_true rfl) hl.1 dX11_addBoard_103) hM (fun r103 s103 H1 lc1 hp hM => ?_)
          obtain ⟨rfl, rfl⟩ := hp
          refine lv_lstore_n (lv' := [(3, .long (jI (((dd * 31 + (wI (σ 4 0))) * 31 + (wI (σ 30 0))) * 31 + 0))), (6, .int (iI i)), (5, .int (iI (σ 2 0 * σ 3 0))), (0, .ref (ad 0)), (1, .long (jI d))]) C.1 C.2.1 dX11_addBoard_106 rfl hl (by decide) rfl (fun ls hl => ?_)
          refine lv_lload_n C.1 C.2.1 dX11_addBoard_107 rfl (lv_at hl 0 rfl) ?_
          refine lv_aload_n C.1 C.2.1 dX11_addBoard_108 rfl (lv_at hl 3 rfl) ?_
          refine g_X11_0 C hM (hI 0 (by decide)) wf_X11_13 dX11_addBoard_109 ?_
          refine x_cl (x_runV (As := []) (rest := [.long (jI (((dd * 31 + (wI (σ 4 0))) * 31 + (wI (σ 30 0))) * 31 + 0))]) C (by omega) cw_X11_220 (c_X0_keyNumber l D ad G ids hI σ hG.1 hG.2.1 hs) hM (hI 1 (by decide)) (cx_1 ad G _) rfl rfl rfl rfl (Nat.le_of_ble_eq_true rfl) hl.1 dX11_addBoard_112) hM (fun r112 s112 H1 lc1 hp hM => ?_)
          obtain ⟨rfl, rfl⟩ := hp
          have hke : keyF (σ 1) (σ 2 0 * σ 3 0).toNat * 2 + σ 4 0 = (keyS (cfg σ) (σ 1) (σ 4 0)) := rfl
          rw [hke]
          refine x_cl (x_runS (As := [.long (jI (((dd * 31 + (wI (σ 4 0))) * 31 + (wI (σ 30 0))) * 31 + 0)), .long (jI (keyS (cfg σ) (σ 1) (σ 4 0)))]) (rest := []) C (by omega) cw_X11_325 (c_X11_join l D ad G ids hI σ (((dd * 31 + (wI (σ 4 0))) * 31 + (wI (σ 30 0))) * 31 + 0) (keyS (cfg σ) (σ 1) (σ 4 0))) hM rfl rfl (Nat.le_of_ble_eq_true rfl) hl.1 dX11_addBoard_115) hM (fun r115 s115 H1 lc1 hp hM => ?_)
          obtain ⟨rfl, rfl⟩ := hp
          refine lv_lstore_n (lv' := [(3, .long (jI ((((dd * 31 + (wI (σ 4 0))) * 31 + (wI (σ 30 0))) * 31 + 0) * 31 + (keyS (cfg σ) (σ 1) (σ 4 0))))), (6, .int (iI i)), (5, .int (iI (σ 2 0 * σ 3 0))), (0, .ref (ad 0)), (1, .long (jI d))]) C.1 C.2.1 dX11_addBoard_118 rfl hl (by decide) rfl (fun ls hl => ?_)
          refine lv_lload_n C.1 C.2.1 dX11_addBoard_119 rfl (lv_at hl 0 rfl) ?_
          refine lv_aload_n C.1 C.2.1 dX11_addBoard_120 rfl (lv_at hl 3 rfl) ?_
          refine g_X11_3 C hM (hI 0 (by decide)) wf_X11_36 dX11_addBoard_121 ?_
          refine lv_aload_n C.1 C.2.1 dX11_addBoard_124 rfl (lv_at hl 3 rfl) ?_
          refine g_X11_0 C hM (hI 0 (by decide)) wf_X11_13 dX11_addBoard_125 ?_
          refine x_ci (x_runV (As := [.ref (ad 1)]) (rest := [.long (jI ((((dd * 31 + (wI (σ 4 0))) * 31 + (wI (σ 30 0))) * 31 + 0) * 31 + (keyS (cfg σ) (σ 1) (σ 4 0))))]) C (by omega) cw_X11_175 (c_X2_evaluate l D ad G ids hI σ hG) hM (hI 3 (by decide)) (cx_3 ad G _) rfl rfl rfl rfl (Nat.le_of_ble_eq_true rfl) hl.1 dX11_addBoard_128) hM (fun r128 s128 H1 lc1 hp hM => ?_)
          obtain ⟨rfl, rfl⟩ := hp
          refine x_i2lW C dX11_addBoard_131 ?_
          refine x_cl (x_runS (As := [.long (jI ((((dd * 31 + (wI (σ 4 0))) * 31 + (wI (σ 30 0))) * 31 + 0) * 31 + (keyS (cfg σ) (σ 1) (σ 4 0)))), .long (jI (wI (evS (cfg σ) (σ 1) (σ 4 0))))]) (rest := []) C (by omega) cw_X11_325 (c_X11_join l D ad G ids hI σ ((((dd * 31 + (wI (σ 4 0))) * 31 + (wI (σ 30 0))) * 31 + 0) * 31 + (keyS (cfg σ) (σ 1) (σ 4 0))) (wI (evS (cfg σ) (σ 1) (σ 4 0)))) hM rfl rfl (Nat.le_of_ble_eq_true rfl) hl.1 dX11_addBoard_132) hM (fun r132 s132 H1 lc1 hp hM => ?_)
          obtain ⟨rfl, rfl⟩ := hp
          refine x_lret C hr hM ?_ dX11_addBoard_135
          exact ⟨by
            rw [hd, show i = σ 2 0 * σ 3 0 by omega]
            unfold dg2
            first | rw [if_pos (ks92.mp (by omega))] | rw [if_neg (fun h => absurd (ks92.mpr h) (by omega))], rfl⟩
        · refine lv_lconst (v := jI 1) C.1 C.2.1 dX11_addBoard_98 (by decide) ?_
          refine lv_goto (tgt := 103) C.1 C.2.1 dX11_addBoard_99 (by decide) ?_
          refine x_cl (x_runS (As := [.long (jI ((dd * 31 + (wI (σ 4 0))) * 31 + (wI (σ 30 0)))), .long (jI 1)]) (rest := []) C (by omega) cw_X11_325 (c_X11_join l D ad G ids hI σ ((dd * 31 + (wI (σ 4 0))) * 31 + (wI (σ 30 0))) 1) hM rfl rfl (Nat.le_of_ble_eq_true rfl) hl.1 dX11_addBoard_103) hM (fun r103 s103 H1 lc1 hp hM => ?_)
          obtain ⟨rfl, rfl⟩ := hp
          refine lv_lstore_n (lv' := [(3, .long (jI (((dd * 31 + (wI (σ 4 0))) * 31 + (wI (σ 30 0))) * 31 + 1))), (6, .int (iI i)), (5, .int (iI (σ 2 0 * σ 3 0))), (0, .ref (ad 0)), (1, .long (jI d))]) C.1 C.2.1 dX11_addBoard_106 rfl hl (by decide) rfl (fun ls hl => ?_)
          refine lv_lload_n C.1 C.2.1 dX11_addBoard_107 rfl (lv_at hl 0 rfl) ?_
          refine lv_aload_n C.1 C.2.1 dX11_addBoard_108 rfl (lv_at hl 3 rfl) ?_
          refine g_X11_0 C hM (hI 0 (by decide)) wf_X11_13 dX11_addBoard_109 ?_
          refine x_cl (x_runV (As := []) (rest := [.long (jI (((dd * 31 + (wI (σ 4 0))) * 31 + (wI (σ 30 0))) * 31 + 1))]) C (by omega) cw_X11_220 (c_X0_keyNumber l D ad G ids hI σ hG.1 hG.2.1 hs) hM (hI 1 (by decide)) (cx_1 ad G _) rfl rfl rfl rfl (Nat.le_of_ble_eq_true rfl) hl.1 dX11_addBoard_112) hM (fun r112 s112 H1 lc1 hp hM => ?_)
          obtain ⟨rfl, rfl⟩ := hp
          have hke : keyF (σ 1) (σ 2 0 * σ 3 0).toNat * 2 + σ 4 0 = (keyS (cfg σ) (σ 1) (σ 4 0)) := rfl
          rw [hke]
          refine x_cl (x_runS (As := [.long (jI (((dd * 31 + (wI (σ 4 0))) * 31 + (wI (σ 30 0))) * 31 + 1)), .long (jI (keyS (cfg σ) (σ 1) (σ 4 0)))]) (rest := []) C (by omega) cw_X11_325 (c_X11_join l D ad G ids hI σ (((dd * 31 + (wI (σ 4 0))) * 31 + (wI (σ 30 0))) * 31 + 1) (keyS (cfg σ) (σ 1) (σ 4 0))) hM rfl rfl (Nat.le_of_ble_eq_true rfl) hl.1 dX11_addBoard_115) hM (fun r115 s115 H1 lc1 hp hM => ?_)
          obtain ⟨rfl, rfl⟩ := hp
          refine lv_lstore_n (lv' := [(3, .long (jI ((((dd * 31 + (wI (σ 4 0))) * 31 + (wI (σ 30 0))) * 31 + 1) * 31 + (keyS (cfg σ) (σ 1) (σ 4 0))))), (6, .int (iI i)), (5, .int (iI (σ 2 0 * σ 3 0))), (0, .ref (ad 0)), (1, .long (jI d))]) C.1 C.2.1 dX11_addBoard_118 rfl hl (by decide) rfl (fun ls hl => ?_)
          refine lv_lload_n C.1 C.2.1 dX11_addBoard_119 rfl (lv_at hl 0 rfl) ?_
          refine lv_aload_n C.1 C.2.1 dX11_addBoard_120 rfl (lv_at hl 3 rfl) ?_
          refine g_X11_3 C hM (hI 0 (by decide)) wf_X11_36 dX11_addBoard_121 ?_
          refine lv_aload_n C.1 C.2.1 dX11_addBoard_124 rfl (lv_at hl 3 rfl) ?_
          refine g_X11_0 C hM (hI 0 (by decide)) wf_X11_13 dX11_addBoard_125 ?_
          refine x_ci (x_runV (As := [.ref (ad 1)]) (rest := [.long (jI ((((dd * 31 + (wI (σ 4 0))) * 31 + (wI (σ 30 0))) * 31 + 1) * 31 + (keyS (cfg σ) (σ 1) (σ 4 0))))]) C (by omega) cw_X11_175 (c_X2_evaluate l D ad G ids hI σ hG) hM (hI 3 (by decide)) (cx_3 ad G _) rfl rfl rfl rfl (Nat.le_of_ble_eq_true rfl) hl.1 dX11_addBoard_128) hM (fun r128 s128 H1 lc1 hp hM => ?_)
          obtain ⟨rfl, rfl⟩ := hp
          refine x_i2lW C dX11_addBoard_131 ?_
          refine x_cl (x_runS (As := [.long (jI ((((dd * 31 + (wI (σ 4 0))) * 31 + (wI (σ 30 0))) * 31 + 1) * 31 + (keyS (cfg σ) (σ 1) (σ 4 0)))), .long (jI (wI (evS (cfg σ) (σ 1) (σ 4 0))))]) (rest := []) C (by omega) cw_X11_325 (c_X11_join l D ad G ids hI σ ((((dd * 31 + (wI (σ 4 0))) * 31 + (wI (σ 30 0))) * 31 + 1) * 31 + (keyS (cfg σ) (σ 1) (σ 4 0))) (wI (evS (cfg σ) (σ 1) (σ 4 0)))) hM rfl rfl (Nat.le_of_ble_eq_true rfl) hl.1 dX11_addBoard_132) hM (fun r132 s132 H1 lc1 hp hM => ?_)
          obtain ⟨rfl, rfl⟩ := hp
          refine x_lret C hr hM ?_ dX11_addBoard_135
          exact ⟨by
            rw [hd, show i = σ 2 0 * σ 3 0 by omega]
            unfold dg2
            first | rw [if_pos (ks92.mp (by omega))] | rw [if_neg (fun h => absurd (ks92.mpr h) (by omega))], rfl⟩
      · refine lv_lload_n C.1 C.2.1 dX11_addBoard_43 rfl (lv_at hl 2 rfl) ?_
        refine lv_aload_n C.1 C.2.1 dX11_addBoard_44 rfl (lv_at hl 3 rfl) ?_
        refine g_X11_0 C hM (hI 0 (by decide)) wf_X11_13 dX11_addBoard_45 ?_
        refine lv_iload C.1 C.2.1 dX11_addBoard_48 (lv_at hl 0 rfl) ?_
        refine x_ci (x_runV (As := [.int (iI i)]) (rest := [.long (jI dd)]) C (by omega) cw_X11_119 (c_X0_pawnAt l D ad G ids hI σ i ⟨by omega, by omega⟩) hM (hI 1 (by decide)) (cx_1 ad G _) rfl rfl rfl rfl (Nat.le_of_ble_eq_true rfl) hl.1 dX11_addBoard_50) hM (fun r50 s50 H1 lc1 hp hM => ?_)
        obtain ⟨rfl, rfl⟩ := hp
        rw [if_pos (show 0 ≤ i ∧ i < 25 by omega)]
        refine x_i2lW C dX11_addBoard_53 ?_
        refine x_cl (x_runS (As := [.long (jI dd), .long (jI (wI (σ 1 i)))]) (rest := []) C (by omega) cw_X11_325 (c_X11_join l D ad G ids hI σ dd (wI (σ 1 i))) hM rfl rfl (Nat.le_of_ble_eq_true rfl) hl.1 dX11_addBoard_54) hM (fun r54 s54 H1 lc1 hp hM => ?_)
        obtain ⟨rfl, rfl⟩ := hp
        refine lv_lstore_n (lv' := [(3, .long (jI (dd * 31 + (wI (σ 1 i))))), (6, .int (iI i)), (5, .int (iI (σ 2 0 * σ 3 0))), (0, .ref (ad 0)), (1, .long (jI d))]) C.1 C.2.1 dX11_addBoard_57 rfl hl (by decide) rfl (fun ls hl => ?_)
        refine x_iinc (lv1 := [(6, .int (iI (i + 1))), (3, .long (jI (dd * 31 + (wI (σ 1 i))))), (5, .int (iI (σ 2 0 * σ 3 0))), (0, .ref (ad 0)), (1, .long (jI d))]) C dX11_addBoard_58 hl (k := 1) rfl (by decide) rfl (fun ls hl => ?_)
        refine lv_goto (tgt := 36) C.1 C.2.1 dX11_addBoard_61 (by decide) ?_
        exact ih36 (i + 1) (dd * 31 + (wI (σ 1 i))) _ _ _ (by omega) (by rw [dgF_s (fun i => wI (σ 1 i)) i0.1, hd]) (by omega) hM (lv_sub hl [0, 2, 1, 3, 4] rfl)
  exact L36 _ 0 ((d * 31 + (wI (σ 2 0))) * 31 + (wI (σ 3 0))) _ _ _ (by omega) rfl (Nat.lt_succ_self _) hM (lv_sub hl [0, 1, 2, 3, 4] rfl)
set_option maxRecDepth 100000 in
set_option maxHeartbeats 4000000 in
theorem c_X11_addMoves (l : Launch) (D : va_G) (ad : Nat → Nat) (G : Nat → Nat) (ids : List Nat) (hI : ∀ k, k < 81 → k ∈ ids) (σ : Sg) (d : Int) (hG : GI σ) (hL : LM σ 0 (MLs (σ 1) (σ 2 0) (σ 3 0) (σ 4 0)) (σ 1)) : MET l yX11_addMoves cX11_addMoves 6 (some .long) 40 [.ref (ad 0), .long (jI d)] D ad G ids σ (QL D ad G ids (fun z σ' => dg4 σ (dg3 σ d) = z ∧ ∀ r : Nat, r < 46 → r ≠ 15 → σ' r = σ r)) := by
  have h18 : (MLs (σ 1) (σ 2 0) (σ 3 0) (σ 4 0)).length ≤ 18 := MLs18 hG
  have hMB : ∀ v, v ∈ (MLs (σ 1) (σ 2 0) (σ 3 0) (σ 4 0)) → 0 ≤ v ∧ v < 2500 := MLsMB hG
  refine x_enter (by decide) (Nat.le_of_ble_eq_true rfl) ?_
  intro pp ee ss mm args below meth cq C hr ls hl hM
  have hl : lv_has ls 6 [(0, .ref (ad 0)), (1, .long (jI d))] := hl
  refine lv_lload_n C.1 C.2.1 dX11_addMoves_0 rfl (lv_at hl 1 rfl) ?_
  refine lv_aload_n C.1 C.2.1 dX11_addMoves_1 rfl (lv_at hl 0 rfl) ?_
  refine g_X11_1 C hM (hI 0 (by decide)) wf_X11_22 dX11_addMoves_2 ?_
  refine x_ci (x_runV (As := []) (rest := [.long (jI d)]) C (by omega) cw_X11_204 (c_X5_size l D ad G ids hI σ 0 (MLs (σ 1) (σ 2 0) (σ 3 0) (σ 4 0)) (σ 1) (by decide) hL) hM (hI _ (by omega)) (cx_lo ad G _ (by decide)) rfl rfl rfl rfl (Nat.le_of_ble_eq_true rfl) hl.1 dX11_addMoves_5) hM (fun r5 s5 H1 lc1 hp hM => ?_)
  obtain ⟨rfl, rfl⟩ := hp
  refine x_i2lW C dX11_addMoves_8 ?_
  refine x_cl (x_runS (As := [.long (jI d), .long (jI (wI ((MLs (σ 1) (σ 2 0) (σ 3 0) (σ 4 0)).length : Int)))]) (rest := []) C (by omega) cw_X11_325 (c_X11_join l D ad G ids hI σ d (wI ((MLs (σ 1) (σ 2 0) (σ 3 0) (σ 4 0)).length : Int))) hM rfl rfl (Nat.le_of_ble_eq_true rfl) hl.1 dX11_addMoves_9) hM (fun r9 s9 H1 lc1 hp hM => ?_)
  obtain ⟨rfl, rfl⟩ := hp
  refine lv_lstore_n (lv' := [(3, .long (jI (d * 31 + (wI ((MLs (σ 1) (σ 2 0) (σ 3 0) (σ 4 0)).length : Int))))), (0, .ref (ad 0)), (1, .long (jI d))]) C.1 C.2.1 dX11_addMoves_12 rfl hl (by decide) rfl (fun ls hl => ?_)
  refine lv_iconst (v := iI 0) C.1 C.2.1 dX11_addMoves_13 (by decide) ?_
  refine lv_istore (lv' := [(5, .int (iI 0)), (3, .long (jI (d * 31 + (wI ((MLs (σ 1) (σ 2 0) (σ 3 0) (σ 4 0)).length : Int))))), (0, .ref (ad 0)), (1, .long (jI d))]) C.1 C.2.1 dX11_addMoves_14 hl (by decide) rfl (fun ls hl => ?_)
  have L16 : ∀ (fu : Nat) (m : Int) (dd : Int) (H1 : Heap) (lc1 : List Loc) (ls1 : Array Slot), (0 ≤ m ∧ m ≤ (MLs (σ 1) (σ 2 0) (σ 3 0) (σ 4 0)).length) → (dd = dgM (MLs (σ 1) (σ 2 0) (σ 3 0) (σ 4 0)) m.toNat (d * 31 + wI (MLs (σ 1) (σ 2 0) (σ 3 0) (σ 4 0)).length)) → (40 - m).toNat < fu → XI D ad G ids (AN ad ids ss.heap.size) ss.heap H1 lc1 σ → lv_has ls1 6 [(5, .int (iI m)), (3, .long (jI dd)), (0, .ref (ad 0)), (1, .long (jI d))] → W pp l ee (rmh 40) ss mm args below meth cq H1 lc1 0 0 (MQ below (QL D ad G ids (fun z σ' => dg4 σ (dg3 σ d) = z ∧ ∀ r : Nat, r < 46 → r ≠ 15 → σ' r = σ r) ss.heap.size) args ss 0 0 (AN ad ids ss.heap.size)) (F0 mm 16 ls1 []) := by
    intro fu
    induction fu with
    | zero => intro m dd  H1 lc1 ls1 m0 hd hfu; exact absurd hfu (Nat.not_lt_zero _)
    | succ fu ih16 =>
      intro m dd  H1 lc1 ls1 m0 hd hfu hM hl
      refine lv_iload C.1 C.2.1 dX11_addMoves_16 (lv_at hl 0 rfl) ?_
      refine lv_aload_n C.1 C.2.1 dX11_addMoves_18 rfl (lv_at hl 2 rfl) ?_
      refine g_X11_1 C hM (hI 0 (by decide)) wf_X11_22 dX11_addMoves_19 ?_
      refine x_ci (x_runV (As := []) (rest := [.int (iI m)]) C (by omega) cw_X11_204 (c_X5_size l D ad G ids hI σ 0 (MLs (σ 1) (σ 2 0) (σ 3 0) (σ 4 0)) (σ 1) (by decide) hL) hM (hI _ (by omega)) (cx_lo ad G _ (by decide)) rfl rfl rfl rfl (Nat.le_of_ble_eq_true rfl) hl.1 dX11_addMoves_22) hM (fun r22 s22 H1 lc1 hp hM => ?_)
      obtain ⟨rfl, rfl⟩ := hp
      refine x_icmp_ge C ⟨by omega, by omega⟩ ⟨by omega, by omega⟩ (tgt := 70) dX11_addMoves_25 (by decide) (fun c25 => ?_) (fun c25 => ?_)
      · refine lv_lload_n C.1 C.2.1 dX11_addMoves_70 rfl (lv_at hl 1 rfl) ?_
        refine lv_aload_n C.1 C.2.1 dX11_addMoves_71 rfl (lv_at hl 2 rfl) ?_
        refine g_X11_5 C hM (hI 0 (by decide)) wf_X11_57 dX11_addMoves_72 ?_
        refine lv_iconst (v := iI 2) C.1 C.2.1 dX11_addMoves_75 (by decide) ?_
        refine x_ci (x_runN (As := [.int (iI 2)]) (rest := [.long (jI dd)]) C (by omega) cw_X11_226 (countWays_all l D ad G ids hI 2 (by decide) σ 2 rfl hG) hM (hI 10 (by decide)) (cx_10 ad G _) rfl rfl rfl rfl (Nat.le_of_ble_eq_true rfl) hl.1 dX11_addMoves_76) hM (fun r76 s76 H1 lc1 hp hM => ?_)
        obtain ⟨hzs76, hfs76⟩ := hp
        have f76 : ∀ r : Nat, r < 46 → r ≠ 15 → s76 r = σ r := fun r h1 h2 => by first | exact hfs76 r (by omega) h2 | exact hfs76 r (by omega)
        have hG76 : GI s76 := hG.of (fun r hr => f76 r (by omega) (by omega))
        have hc76 : cfg s76 = cfg σ := cfg_of (fun r hr => f76 r (by omega) (by omega))
        refine x_i2lW C dX11_addMoves_79 ?_
        refine x_cl (x_runS (As := [.long (jI dd), .long (jI (wI r76))]) (rest := []) C (by omega) cw_X11_325 (c_X11_join l D ad G ids hI s76 dd (wI r76)) hM rfl rfl (Nat.le_of_ble_eq_true rfl) hl.1 dX11_addMoves_80) hM (fun r80 s80 H1 lc1 hp hM => ?_)
        obtain ⟨rfl, rfl⟩ := hp
        refine lv_lstore_n (lv' := [(3, .long (jI (dd * 31 + (wI r76)))), (5, .int (iI m)), (0, .ref (ad 0)), (1, .long (jI d))]) C.1 C.2.1 dX11_addMoves_83 rfl hl (by decide) rfl (fun ls hl => ?_)
        refine lv_lload_n C.1 C.2.1 dX11_addMoves_84 rfl (lv_at hl 0 rfl) ?_
        refine lv_aload_n C.1 C.2.1 dX11_addMoves_85 rfl (lv_at hl 2 rfl) ?_
        refine g_X11_5 C hM (hI 0 (by decide)) wf_X11_57 dX11_addMoves_86 ?_
        refine lv_iconst (v := iI 1) C.1 C.2.1 dX11_addMoves_89 (by decide) ?_
        refine lv_sipush (v := iI (-9999)) C.1 C.2.1 dX11_addMoves_90 (by decide) ?_
        refine lv_sipush (v := iI 9999) C.1 C.2.1 dX11_addMoves_93 (by decide) ?_
        refine x_ci (x_runN (As := [.int (iI 1), .int (iI (-9999)), .int (iI 9999)]) (rest := [.long (jI (dd * 31 + (wI r76)))]) C (by omega) cw_X11_229 (worth_all l D ad G ids hI 1 (by decide) s76 1 (-9999) 9999 rfl hG76 (by decide) (by decide)) hM (hI 10 (by decide)) (cx_10 ad G _) rfl rfl rfl rfl (Nat.le_of_ble_eq_true rfl) hl.1 dX11_addMoves_96) hM (fun r96 s96 H1 lc1 hp hM => ?_)
        obtain ⟨hzs96, hfs96⟩ := hp
        have f96 : ∀ r : Nat, r < 46 → r ≠ 15 → s96 r = σ r := fun r h1 h2 => (hfs96 r (by omega) h2).trans (f76 r h1 h2)
        rw [hc76, f76 1 (by decide) (by decide), f76 4 (by decide) (by decide), wb_vv hG.2.2.2.2 (by decide)] at hzs96
        refine x_i2lW C dX11_addMoves_99 ?_
        refine x_cl (x_runS (As := [.long (jI (dd * 31 + (wI r76))), .long (jI (wI r96))]) (rest := []) C (by omega) cw_X11_325 (c_X11_join l D ad G ids hI s96 (dd * 31 + (wI r76)) (wI r96)) hM rfl rfl (Nat.le_of_ble_eq_true rfl) hl.1 dX11_addMoves_100) hM (fun r100 s100 H1 lc1 hp hM => ?_)
        obtain ⟨rfl, rfl⟩ := hp
        refine x_lret C hr hM ?_ dX11_addMoves_103
        exact ⟨by
          rw [hd, show m = (MLs (σ 1) (σ 2 0) (σ 3 0) (σ 4 0)).length by omega, ← hzs76, ← hzs96]
          rfl, f96⟩
      · have hmm : 0 ≤ ((MLs (σ 1) (σ 2 0) (σ 3 0) (σ 4 0)).getD m.toNat (-1)) ∧ ((MLs (σ 1) (σ 2 0) (σ 3 0) (σ 4 0)).getD m.toNat (-1)) < 2500 := hMB _ (getD_mem (L := (MLs (σ 1) (σ 2 0) (σ 3 0) (σ 4 0))) m0.1 (by omega))
        refine lv_lload_n C.1 C.2.1 dX11_addMoves_28 rfl (lv_at hl 1 rfl) ?_
        refine lv_aload_n C.1 C.2.1 dX11_addMoves_29 rfl (lv_at hl 2 rfl) ?_
        refine g_X11_1 C hM (hI 0 (by decide)) wf_X11_22 dX11_addMoves_30 ?_
        refine lv_iload C.1 C.2.1 dX11_addMoves_33 (lv_at hl 0 rfl) ?_
        refine x_ci (x_runV (As := [.int (iI m)]) (rest := [.long (jI dd)]) C (by omega) cw_X11_205 (c_X5_moveAt l D ad G ids hI σ 0 (MLs (σ 1) (σ 2 0) (σ 3 0) (σ 4 0)) (σ 1) m (by decide) hL h18 ⟨by omega, by omega⟩) hM (hI _ (by omega)) (cx_lo ad G _ (by decide)) rfl rfl rfl rfl (Nat.le_of_ble_eq_true rfl) hl.1 dX11_addMoves_35) hM (fun r35 s35 H1 lc1 hp hM => ?_)
        obtain ⟨rfl, rfl⟩ := hp
        rw [if_pos (show 0 ≤ m by omega)]
        refine x_ci (x_runS (As := [.int (iI ((MLs (σ 1) (σ 2 0) (σ 3 0) (σ 4 0)).getD (m).toNat (-1)))]) (rest := [.long (jI dd)]) C (by omega) cw_X11_208 (c_X11_fromOf l D ad G ids hI σ ((MLs (σ 1) (σ 2 0) (σ 3 0) (σ 4 0)).getD (m).toNat (-1)) (by unfold IR; omega)) hM rfl rfl (Nat.le_of_ble_eq_true rfl) hl.1 dX11_addMoves_38) hM (fun r38 s38 H1 lc1 hp hM => ?_)
        obtain ⟨rfl, rfl⟩ := hp
        rw [if_neg (show ¬ ((MLs (σ 1) (σ 2 0) (σ 3 0) (σ 4 0)).getD m.toNat (-1)) < 0 by omega)]
        refine x_i2lW C dX11_addMoves_41 ?_
        refine x_cl (x_runS (As := [.long (jI dd), .long (jI (wI (((MLs (σ 1) (σ 2 0) (σ 3 0) (σ 4 0)).getD m.toNat (-1)) / 100)))]) (rest := []) C (by omega) cw_X11_325 (c_X11_join l D ad G ids hI σ dd (wI (((MLs (σ 1) (σ 2 0) (σ 3 0) (σ 4 0)).getD m.toNat (-1)) / 100))) hM rfl rfl (Nat.le_of_ble_eq_true rfl) hl.1 dX11_addMoves_42) hM (fun r42 s42 H1 lc1 hp hM => ?_)
        obtain ⟨rfl, rfl⟩ := hp
        refine lv_lstore_n (lv' := [(3, .long (jI (dd * 31 + (wI (((MLs (σ 1) (σ 2 0) (σ 3 0) (σ 4 0)).getD m.toNat (-1)) / 100))))), (5, .int (iI m)), (0, .ref (ad 0)), (1, .long (jI d))]) C.1 C.2.1 dX11_addMoves_45 rfl hl (by decide) rfl (fun ls hl => ?_)
        refine lv_lload_n C.1 C.2.1 dX11_addMoves_46 rfl (lv_at hl 0 rfl) ?_
        refine lv_aload_n C.1 C.2.1 dX11_addMoves_47 rfl (lv_at hl 2 rfl) ?_
        refine g_X11_1 C hM (hI 0 (by decide)) wf_X11_22 dX11_addMoves_48 ?_
        refine lv_iload C.1 C.2.1 dX11_addMoves_51 (lv_at hl 1 rfl) ?_
        refine x_ci (x_runV (As := [.int (iI m)]) (rest := [.long (jI (dd * 31 + (wI (((MLs (σ 1) (σ 2 0) (σ 3 0) (σ 4 0)).getD m.toNat (-1)) / 100))))]) C (by omega) cw_X11_205 (c_X5_moveAt l D ad G ids hI σ 0 (MLs (σ 1) (σ 2 0) (σ 3 0) (σ 4 0)) (σ 1) m (by decide) hL h18 ⟨by omega, by omega⟩) hM (hI _ (by omega)) (cx_lo ad G _ (by decide)) rfl rfl rfl rfl (Nat.le_of_ble_eq_true rfl) hl.1 dX11_addMoves_53) hM (fun r53 s53 H1 lc1 hp hM => ?_)
        obtain ⟨rfl, rfl⟩ := hp
        rw [if_pos (show 0 ≤ m by omega)]
        refine x_ci (x_runS (As := [.int (iI ((MLs (σ 1) (σ 2 0) (σ 3 0) (σ 4 0)).getD (m).toNat (-1)))]) (rest := [.long (jI (dd * 31 + (wI (((MLs (σ 1) (σ 2 0) (σ 3 0) (σ 4 0)).getD m.toNat (-1)) / 100))))]) C (by omega) cw_X11_211 (c_X11_toOf l D ad G ids hI σ ((MLs (σ 1) (σ 2 0) (σ 3 0) (σ 4 0)).getD (m).toNat (-1)) (by unfold IR; omega)) hM rfl rfl (Nat.le_of_ble_eq_true rfl) hl.1 dX11_addMoves_56) hM (fun r56 s56 H1 lc1 hp hM => ?_)
        obtain ⟨rfl, rfl⟩ := hp
        rw [if_neg (show ¬ ((MLs (σ 1) (σ 2 0) (σ 3 0) (σ 4 0)).getD m.toNat (-1)) < 0 by omega)]
        refine x_i2lW C dX11_addMoves_59 ?_
        refine x_cl (x_runS (As := [.long (jI (dd * 31 + (wI (((MLs (σ 1) (σ 2 0) (σ 3 0) (σ 4 0)).getD m.toNat (-1)) / 100)))), .long (jI (wI (((MLs (σ 1) (σ 2 0) (σ 3 0) (σ 4 0)).getD m.toNat (-1)) % 100)))]) (rest := []) C (by omega) cw_X11_325 (c_X11_join l D ad G ids hI σ (dd * 31 + (wI (((MLs (σ 1) (σ 2 0) (σ 3 0) (σ 4 0)).getD m.toNat (-1)) / 100))) (wI (((MLs (σ 1) (σ 2 0) (σ 3 0) (σ 4 0)).getD m.toNat (-1)) % 100))) hM rfl rfl (Nat.le_of_ble_eq_true rfl) hl.1 dX11_addMoves_60) hM (fun r60 s60 H1 lc1 hp hM => ?_)
        obtain ⟨rfl, rfl⟩ := hp
        refine lv_lstore_n (lv' := [(3, .long (jI ((dd * 31 + (wI (((MLs (σ 1) (σ 2 0) (σ 3 0) (σ 4 0)).getD m.toNat (-1)) / 100))) * 31 + (wI (((MLs (σ 1) (σ 2 0) (σ 3 0) (σ 4 0)).getD m.toNat (-1)) % 100))))), (5, .int (iI m)), (0, .ref (ad 0)), (1, .long (jI d))]) C.1 C.2.1 dX11_addMoves_63 rfl hl (by decide) rfl (fun ls hl => ?_)
        refine x_iinc (lv1 := [(5, .int (iI (m + 1))), (3, .long (jI ((dd * 31 + (wI (((MLs (σ 1) (σ 2 0) (σ 3 0) (σ 4 0)).getD m.toNat (-1)) / 100))) * 31 + (wI (((MLs (σ 1) (σ 2 0) (σ 3 0) (σ 4 0)).getD m.toNat (-1)) % 100))))), (0, .ref (ad 0)), (1, .long (jI d))]) C dX11_addMoves_64 hl (k := 1) rfl (by decide) rfl (fun ls hl => ?_)
        refine lv_goto (tgt := 16) C.1 C.2.1 dX11_addMoves_67 (by decide) ?_
        exact ih16 (m + 1) ((dd * 31 + (wI (((MLs (σ 1) (σ 2 0) (σ 3 0) (σ 4 0)).getD m.toNat (-1)) / 100))) * 31 + (wI (((MLs (σ 1) (σ 2 0) (σ 3 0) (σ 4 0)).getD m.toNat (-1)) % 100))) _ _ _ (by omega) (by rw [dgM_s (MLs (σ 1) (σ 2 0) (σ 3 0) (σ 4 0)) m0.1, hd]) (by omega) hM (lv_sub hl [0, 1, 2, 3] rfl)
  exact L16 _ 0 (d * 31 + (wI ((MLs (σ 1) (σ 2 0) (σ 3 0) (σ 4 0)).length : Int))) _ _ _ (by omega) rfl (Nat.lt_succ_self _) hM (lv_sub hl [0, 1, 2, 3] rfl)
set_option maxRecDepth 100000 in
set_option maxHeartbeats 4000000 in
theorem c_X11_addSearch (l : Launch) (D : va_G) (ad : Nat → Nat) (G : Nat → Nat) (ids : List Nat) (hI : ∀ k, k < 81 → k ∈ ids) (σ : Sg) (d : Int) (hb : -1 ≤ σ 19 0 ∧ σ 19 0 < 2500) (hre : 0 ≤ σ 20 0) (hk0 : σ 20 0 = 0 → ∀ d o : Int, 1 ≤ d → d ≤ 4 → kilF σ d o = -1) : MET l yX11_addSearch cX11_addSearch 6 (some .long) 4 [.ref (ad 0), .long (jI d)] D ad G ids σ (QL D ad G ids (fun z σ' => dg6 σ (σ 20 0) (dg5 σ (σ 20 0) (σ 21 0 + σ 16 0) (σ 19 0) d) = z ∧ σ = σ')) := by
  have hbf : (if σ 19 0 < 0 then -1 else σ 19 0 / 100) = (if σ 19 0 = -1 then -1 else σ 19 0 / 100) := by
    by_cases e : σ 19 0 = -1
    · rw [if_pos e, if_pos (by omega)]
    · rw [if_neg e, if_neg (by omega)]
  have hbt : (if σ 19 0 < 0 then -1 else σ 19 0 % 100) = (if σ 19 0 = -1 then -1 else σ 19 0 % 100) := by
    by_cases e : σ 19 0 = -1
    · rw [if_pos e, if_pos (by omega)]
    · rw [if_neg e, if_neg (by omega)]
  have hkk : ∀ d o : Int, 1 ≤ d → d ≤ 4 → wI (kilF σ d o) = kiF σ (σ 20 0) d o := fun d o a b => by
    unfold kiF
    by_cases e : 0 < σ 20 0
    · rw [if_pos e]
    · rw [if_neg e, hk0 (by omega) d o a b]
  refine x_enter (by decide) (Nat.le_of_ble_eq_true rfl) ?_
  intro pp ee ss mm args below meth cq C hr ls hl hM
  have hl : lv_has ls 6 [(0, .ref (ad 0)), (1, .long (jI d))] := hl
  refine lv_lload_n C.1 C.2.1 dX11_addSearch_0 rfl (lv_at hl 1 rfl) ?_
  refine lv_aload_n C.1 C.2.1 dX11_addSearch_1 rfl (lv_at hl 0 rfl) ?_
  refine g_X11_6 C hM (hI 0 (by decide)) wf_X11_66 dX11_addSearch_2 ?_
  refine x_ci (x_runV (As := []) (rest := [.long (jI d)]) C (by omega) cw_X11_246 (c_X7_bestMove l D ad G ids hI σ) hM (hI 13 (by decide)) (cx_13 ad G _) rfl rfl rfl rfl (Nat.le_of_ble_eq_true rfl) hl.1 dX11_addSearch_5) hM (fun r5 s5 H1 lc1 hp hM => ?_)
  obtain ⟨rfl, rfl⟩ := hp
  refine x_ci (x_runS (As := [.int (iI (σ 19 0))]) (rest := [.long (jI d)]) C (by omega) cw_X11_208 (c_X11_fromOf l D ad G ids hI σ (σ 19 0) (by unfold IR; omega)) hM rfl rfl (Nat.le_of_ble_eq_true rfl) hl.1 dX11_addSearch_8) hM (fun r8 s8 H1 lc1 hp hM => ?_)
  obtain ⟨rfl, rfl⟩ := hp
  refine x_i2lW C dX11_addSearch_11 ?_
  refine x_cl (x_runS (As := [.long (jI d), .long (jI (wI (if (σ 19 0) < 0 then -1 else (σ 19 0) / 100)))]) (rest := []) C (by omega) cw_X11_325 (c_X11_join l D ad G ids hI σ d (wI (if (σ 19 0) < 0 then -1 else (σ 19 0) / 100))) hM rfl rfl (Nat.le_of_ble_eq_true rfl) hl.1 dX11_addSearch_12) hM (fun r12 s12 H1 lc1 hp hM => ?_)
  obtain ⟨rfl, rfl⟩ := hp
  refine lv_lstore_n (lv' := [(3, .long (jI (d * 31 + (wI (if (σ 19 0) < 0 then -1 else (σ 19 0) / 100))))), (0, .ref (ad 0)), (1, .long (jI d))]) C.1 C.2.1 dX11_addSearch_15 rfl hl (by decide) rfl (fun ls hl => ?_)
  refine lv_lload_n C.1 C.2.1 dX11_addSearch_16 rfl (lv_at hl 0 rfl) ?_
  refine lv_aload_n C.1 C.2.1 dX11_addSearch_17 rfl (lv_at hl 1 rfl) ?_
  refine g_X11_6 C hM (hI 0 (by decide)) wf_X11_66 dX11_addSearch_18 ?_
  refine x_ci (x_runV (As := []) (rest := [.long (jI (d * 31 + (wI (if (σ 19 0) < 0 then -1 else (σ 19 0) / 100))))]) C (by omega) cw_X11_246 (c_X7_bestMove l D ad G ids hI σ) hM (hI 13 (by decide)) (cx_13 ad G _) rfl rfl rfl rfl (Nat.le_of_ble_eq_true rfl) hl.1 dX11_addSearch_21) hM (fun r21 s21 H1 lc1 hp hM => ?_)
  obtain ⟨rfl, rfl⟩ := hp
  refine x_ci (x_runS (As := [.int (iI (σ 19 0))]) (rest := [.long (jI (d * 31 + (wI (if (σ 19 0) < 0 then -1 else (σ 19 0) / 100))))]) C (by omega) cw_X11_211 (c_X11_toOf l D ad G ids hI σ (σ 19 0) (by unfold IR; omega)) hM rfl rfl (Nat.le_of_ble_eq_true rfl) hl.1 dX11_addSearch_24) hM (fun r24 s24 H1 lc1 hp hM => ?_)
  obtain ⟨rfl, rfl⟩ := hp
  refine x_i2lW C dX11_addSearch_27 ?_
  refine x_cl (x_runS (As := [.long (jI (d * 31 + (wI (if (σ 19 0) < 0 then -1 else (σ 19 0) / 100)))), .long (jI (wI (if (σ 19 0) < 0 then -1 else (σ 19 0) % 100)))]) (rest := []) C (by omega) cw_X11_325 (c_X11_join l D ad G ids hI σ (d * 31 + (wI (if (σ 19 0) < 0 then -1 else (σ 19 0) / 100))) (wI (if (σ 19 0) < 0 then -1 else (σ 19 0) % 100))) hM rfl rfl (Nat.le_of_ble_eq_true rfl) hl.1 dX11_addSearch_28) hM (fun r28 s28 H1 lc1 hp hM => ?_)
  obtain ⟨rfl, rfl⟩ := hp
  refine lv_lstore_n (lv' := [(3, .long (jI ((d * 31 + (wI (if (σ 19 0) < 0 then -1 else (σ 19 0) / 100))) * 31 + (wI (if (σ 19 0) < 0 then -1 else (σ 19 0) % 100))))), (0, .ref (ad 0)), (1, .long (jI d))]) C.1 C.2.1 dX11_addSearch_31 rfl hl (by decide) rfl (fun ls hl => ?_)
  refine lv_lload_n C.1 C.2.1 dX11_addSearch_32 rfl (lv_at hl 0 rfl) ?_
  refine lv_aload_n C.1 C.2.1 dX11_addSearch_33 rfl (lv_at hl 1 rfl) ?_
  refine g_X11_6 C hM (hI 0 (by decide)) wf_X11_66 dX11_addSearch_34 ?_
  refine x_ci (x_runV (As := []) (rest := [.long (jI ((d * 31 + (wI (if (σ 19 0) < 0 then -1 else (σ 19 0) / 100))) * 31 + (wI (if (σ 19 0) < 0 then -1 else (σ 19 0) % 100))))]) C (by omega) cw_X11_249 (c_X7_depthReached l D ad G ids hI σ) hM (hI 13 (by decide)) (cx_13 ad G _) rfl rfl rfl rfl (Nat.le_of_ble_eq_true rfl) hl.1 dX11_addSearch_37) hM (fun r37 s37 H1 lc1 hp hM => ?_)
  obtain ⟨rfl, rfl⟩ := hp
  refine x_i2lW C dX11_addSearch_40 ?_
  refine x_cl (x_runS (As := [.long (jI ((d * 31 + (wI (if (σ 19 0) < 0 then -1 else (σ 19 0) / 100))) * 31 + (wI (if (σ 19 0) < 0 then -1 else (σ 19 0) % 100)))), .long (jI (wI (σ 20 0)))]) (rest := []) C (by omega) cw_X11_325 (c_X11_join l D ad G ids hI σ ((d * 31 + (wI (if (σ 19 0) < 0 then -1 else (σ 19 0) / 100))) * 31 + (wI (if (σ 19 0) < 0 then -1 else (σ 19 0) % 100))) (wI (σ 20 0))) hM rfl rfl (Nat.le_of_ble_eq_true rfl) hl.1 dX11_addSearch_41) hM (fun r41 s41 H1 lc1 hp hM => ?_)
  obtain ⟨rfl, rfl⟩ := hp
  refine lv_lstore_n (lv' := [(3, .long (jI (((d * 31 + (wI (if (σ 19 0) < 0 then -1 else (σ 19 0) / 100))) * 31 + (wI (if (σ 19 0) < 0 then -1 else (σ 19 0) % 100))) * 31 + (wI (σ 20 0))))), (0, .ref (ad 0)), (1, .long (jI d))]) C.1 C.2.1 dX11_addSearch_44 rfl hl (by decide) rfl (fun ls hl => ?_)
  refine lv_lload_n C.1 C.2.1 dX11_addSearch_45 rfl (lv_at hl 0 rfl) ?_
  refine lv_aload_n C.1 C.2.1 dX11_addSearch_46 rfl (lv_at hl 1 rfl) ?_
  refine g_X11_6 C hM (hI 0 (by decide)) wf_X11_66 dX11_addSearch_47 ?_
  refine x_ci (x_runV (As := []) (rest := [.long (jI (((d * 31 + (wI (if (σ 19 0) < 0 then -1 else (σ 19 0) / 100))) * 31 + (wI (if (σ 19 0) < 0 then -1 else (σ 19 0) % 100))) * 31 + (wI (σ 20 0))))]) C (by omega) cw_X11_252 (c_X7_nodeCount l D ad G ids hI σ) hM (hI 13 (by decide)) (cx_13 ad G _) rfl rfl rfl rfl (Nat.le_of_ble_eq_true rfl) hl.1 dX11_addSearch_50) hM (fun r50 s50 H1 lc1 hp hM => ?_)
  obtain ⟨rfl, rfl⟩ := hp
  refine x_i2lW C dX11_addSearch_53 ?_
  refine x_cl (x_runS (As := [.long (jI (((d * 31 + (wI (if (σ 19 0) < 0 then -1 else (σ 19 0) / 100))) * 31 + (wI (if (σ 19 0) < 0 then -1 else (σ 19 0) % 100))) * 31 + (wI (σ 20 0)))), .long (jI (wI (σ 21 0 + σ 16 0)))]) (rest := []) C (by omega) cw_X11_325 (c_X11_join l D ad G ids hI σ (((d * 31 + (wI (if (σ 19 0) < 0 then -1 else (σ 19 0) / 100))) * 31 + (wI (if (σ 19 0) < 0 then -1 else (σ 19 0) % 100))) * 31 + (wI (σ 20 0))) (wI (σ 21 0 + σ 16 0))) hM rfl rfl (Nat.le_of_ble_eq_true rfl) hl.1 dX11_addSearch_54) hM (fun r54 s54 H1 lc1 hp hM => ?_)
  obtain ⟨rfl, rfl⟩ := hp
  refine lv_lstore_n (lv' := [(3, .long (jI ((((d * 31 + (wI (if (σ 19 0) < 0 then -1 else (σ 19 0) / 100))) * 31 + (wI (if (σ 19 0) < 0 then -1 else (σ 19 0) % 100))) * 31 + (wI (σ 20 0))) * 31 + (wI (σ 21 0 + σ 16 0))))), (0, .ref (ad 0)), (1, .long (jI d))]) C.1 C.2.1 dX11_addSearch_57 rfl hl (by decide) rfl (fun ls hl => ?_)
  refine lv_lload_n C.1 C.2.1 dX11_addSearch_58 rfl (lv_at hl 0 rfl) ?_
  refine lv_aload_n C.1 C.2.1 dX11_addSearch_59 rfl (lv_at hl 1 rfl) ?_
  refine g_X11_6 C hM (hI 0 (by decide)) wf_X11_66 dX11_addSearch_60 ?_
  refine x_ci (x_runV (As := []) (rest := [.long (jI ((((d * 31 + (wI (if (σ 19 0) < 0 then -1 else (σ 19 0) / 100))) * 31 + (wI (if (σ 19 0) < 0 then -1 else (σ 19 0) % 100))) * 31 + (wI (σ 20 0))) * 31 + (wI (σ 21 0 + σ 16 0))))]) C (by omega) cw_X11_255 (c_X7_hitCount l D ad G ids hI σ) hM (hI 13 (by decide)) (cx_13 ad G _) rfl rfl rfl rfl (Nat.le_of_ble_eq_true rfl) hl.1 dX11_addSearch_63) hM (fun r63 s63 H1 lc1 hp hM => ?_)
  obtain ⟨rfl, rfl⟩ := hp
  refine x_i2lW C dX11_addSearch_66 ?_
  refine x_cl (x_runS (As := [.long (jI ((((d * 31 + (wI (if (σ 19 0) < 0 then -1 else (σ 19 0) / 100))) * 31 + (wI (if (σ 19 0) < 0 then -1 else (σ 19 0) % 100))) * 31 + (wI (σ 20 0))) * 31 + (wI (σ 21 0 + σ 16 0)))), .long (jI (wI (σ 22 0)))]) (rest := []) C (by omega) cw_X11_325 (c_X11_join l D ad G ids hI σ ((((d * 31 + (wI (if (σ 19 0) < 0 then -1 else (σ 19 0) / 100))) * 31 + (wI (if (σ 19 0) < 0 then -1 else (σ 19 0) % 100))) * 31 + (wI (σ 20 0))) * 31 + (wI (σ 21 0 + σ 16 0))) (wI (σ 22 0))) hM rfl rfl (Nat.le_of_ble_eq_true rfl) hl.1 dX11_addSearch_67) hM (fun r67 s67 H1 lc1 hp hM => ?_)
  obtain ⟨rfl, rfl⟩ := hp
  refine lv_lstore_n (lv' := [(3, .long (jI (((((d * 31 + (wI (if (σ 19 0) < 0 then -1 else (σ 19 0) / 100))) * 31 + (wI (if (σ 19 0) < 0 then -1 else (σ 19 0) % 100))) * 31 + (wI (σ 20 0))) * 31 + (wI (σ 21 0 + σ 16 0))) * 31 + (wI (σ 22 0))))), (0, .ref (ad 0)), (1, .long (jI d))]) C.1 C.2.1 dX11_addSearch_70 rfl hl (by decide) rfl (fun ls hl => ?_)
  refine lv_lload_n C.1 C.2.1 dX11_addSearch_71 rfl (lv_at hl 0 rfl) ?_
  refine lv_aload_n C.1 C.2.1 dX11_addSearch_72 rfl (lv_at hl 1 rfl) ?_
  refine g_X11_6 C hM (hI 0 (by decide)) wf_X11_66 dX11_addSearch_73 ?_
  refine x_ci (x_runV (As := []) (rest := [.long (jI (((((d * 31 + (wI (if (σ 19 0) < 0 then -1 else (σ 19 0) / 100))) * 31 + (wI (if (σ 19 0) < 0 then -1 else (σ 19 0) % 100))) * 31 + (wI (σ 20 0))) * 31 + (wI (σ 21 0 + σ 16 0))) * 31 + (wI (σ 22 0))))]) C (by omega) cw_X11_258 (c_X7_cutCount l D ad G ids hI σ) hM (hI 13 (by decide)) (cx_13 ad G _) rfl rfl rfl rfl (Nat.le_of_ble_eq_true rfl) hl.1 dX11_addSearch_76) hM (fun r76 s76 H1 lc1 hp hM => ?_)
  obtain ⟨rfl, rfl⟩ := hp
  refine x_i2lW C dX11_addSearch_79 ?_
  refine x_cl (x_runS (As := [.long (jI (((((d * 31 + (wI (if (σ 19 0) < 0 then -1 else (σ 19 0) / 100))) * 31 + (wI (if (σ 19 0) < 0 then -1 else (σ 19 0) % 100))) * 31 + (wI (σ 20 0))) * 31 + (wI (σ 21 0 + σ 16 0))) * 31 + (wI (σ 22 0)))), .long (jI (wI (σ 23 0)))]) (rest := []) C (by omega) cw_X11_325 (c_X11_join l D ad G ids hI σ (((((d * 31 + (wI (if (σ 19 0) < 0 then -1 else (σ 19 0) / 100))) * 31 + (wI (if (σ 19 0) < 0 then -1 else (σ 19 0) % 100))) * 31 + (wI (σ 20 0))) * 31 + (wI (σ 21 0 + σ 16 0))) * 31 + (wI (σ 22 0))) (wI (σ 23 0))) hM rfl rfl (Nat.le_of_ble_eq_true rfl) hl.1 dX11_addSearch_80) hM (fun r80 s80 H1 lc1 hp hM => ?_)
  obtain ⟨rfl, rfl⟩ := hp
  refine lv_lstore_n (lv' := [(3, .long (jI ((((((d * 31 + (wI (if (σ 19 0) < 0 then -1 else (σ 19 0) / 100))) * 31 + (wI (if (σ 19 0) < 0 then -1 else (σ 19 0) % 100))) * 31 + (wI (σ 20 0))) * 31 + (wI (σ 21 0 + σ 16 0))) * 31 + (wI (σ 22 0))) * 31 + (wI (σ 23 0))))), (0, .ref (ad 0)), (1, .long (jI d))]) C.1 C.2.1 dX11_addSearch_83 rfl hl (by decide) rfl (fun ls hl => ?_)
  refine lv_iconst (v := iI 1) C.1 C.2.1 dX11_addSearch_84 (by decide) ?_
  refine lv_istore (lv' := [(5, .int (iI 1)), (3, .long (jI ((((((d * 31 + (wI (if (σ 19 0) < 0 then -1 else (σ 19 0) / 100))) * 31 + (wI (if (σ 19 0) < 0 then -1 else (σ 19 0) % 100))) * 31 + (wI (σ 20 0))) * 31 + (wI (σ 21 0 + σ 16 0))) * 31 + (wI (σ 22 0))) * 31 + (wI (σ 23 0))))), (0, .ref (ad 0)), (1, .long (jI d))]) C.1 C.2.1 dX11_addSearch_85 hl (by decide) rfl (fun ls hl => ?_)
  have L87 : ∀ (fu : Nat) (k : Int) (dd : Int) (H1 : Heap) (lc1 : List Loc) (ls1 : Array Slot), (1 ≤ k ∧ k ≤ 5) → (dd = dgK (kiF σ (σ 20 0)) (k - 1).toNat (dg5 σ (σ 20 0) (σ 21 0 + σ 16 0) (σ 19 0) d)) → (40 - k).toNat < fu → XI D ad G ids (AN ad ids ss.heap.size) ss.heap H1 lc1 σ → lv_has ls1 6 [(5, .int (iI k)), (3, .long (jI dd)), (0, .ref (ad 0)), (1, .long (jI d))] → W pp l ee (rmh 4) ss mm args below meth cq H1 lc1 0 0 (MQ below (QL D ad G ids (fun z σ' => dg6 σ (σ 20 0) (dg5 σ (σ 20 0) (σ 21 0 + σ 16 0) (σ 19 0) d) = z ∧ σ = σ') ss.heap.size) args ss 0 0 (AN ad ids ss.heap.size)) (F0 mm 87 ls1 []) := by
    intro fu
    induction fu with
    | zero => intro k dd  H1 lc1 ls1 k0 hd hfu; exact absurd hfu (Nat.not_lt_zero _)
    | succ fu ih87 =>
      intro k dd  H1 lc1 ls1 k0 hd hfu hM hl
      refine lv_iload C.1 C.2.1 dX11_addSearch_87 (lv_at hl 0 rfl) ?_
      refine lv_iconst (v := iI 4) C.1 C.2.1 dX11_addSearch_89 (by decide) ?_
      refine x_icmp_gt C ⟨by omega, by omega⟩ ⟨by omega, by omega⟩ (tgt := 131) dX11_addSearch_90 (by decide) (fun c90 => ?_) (fun c90 => ?_)
      · refine lv_lload_n C.1 C.2.1 dX11_addSearch_131 rfl (lv_at hl 1 rfl) ?_
        refine x_lret C hr hM ?_ dX11_addSearch_132
        exact ⟨by
          rw [hd, show k = 5 by omega]
          rfl, rfl⟩
      · refine lv_lload_n C.1 C.2.1 dX11_addSearch_93 rfl (lv_at hl 1 rfl) ?_
        refine lv_aload_n C.1 C.2.1 dX11_addSearch_94 rfl (lv_at hl 2 rfl) ?_
        refine g_X11_6 C hM (hI 0 (by decide)) wf_X11_66 dX11_addSearch_95 ?_
        refine lv_iload C.1 C.2.1 dX11_addSearch_98 (lv_at hl 0 rfl) ?_
        refine lv_iconst (v := iI 0) C.1 C.2.1 dX11_addSearch_100 (by decide) ?_
        refine x_ci (x_runV (As := [.int (iI k), .int (iI 0)]) (rest := [.long (jI dd)]) C (by omega) cw_X11_261 (c_X7_killerOf l D ad G ids hI σ k 0 ⟨by omega, by omega⟩ (by omega)) hM (hI 13 (by decide)) (cx_13 ad G _) rfl rfl rfl rfl (Nat.le_of_ble_eq_true rfl) hl.1 dX11_addSearch_101) hM (fun r101 s101 H1 lc1 hp hM => ?_)
        obtain ⟨rfl, rfl⟩ := hp
        refine x_i2lW C dX11_addSearch_104 ?_
        refine x_cl (x_runS (As := [.long (jI dd), .long (jI (wI (kilF σ k 0)))]) (rest := []) C (by omega) cw_X11_325 (c_X11_join l D ad G ids hI σ dd (wI (kilF σ k 0))) hM rfl rfl (Nat.le_of_ble_eq_true rfl) hl.1 dX11_addSearch_105) hM (fun r105 s105 H1 lc1 hp hM => ?_)
        obtain ⟨rfl, rfl⟩ := hp
        refine lv_lstore_n (lv' := [(3, .long (jI (dd * 31 + (wI (kilF σ k 0))))), (5, .int (iI k)), (0, .ref (ad 0)), (1, .long (jI d))]) C.1 C.2.1 dX11_addSearch_108 rfl hl (by decide) rfl (fun ls hl => ?_)
        refine lv_lload_n C.1 C.2.1 dX11_addSearch_109 rfl (lv_at hl 0 rfl) ?_
        refine lv_aload_n C.1 C.2.1 dX11_addSearch_110 rfl (lv_at hl 2 rfl) ?_
        refine g_X11_6 C hM (hI 0 (by decide)) wf_X11_66 dX11_addSearch_111 ?_
        refine lv_iload C.1 C.2.1 dX11_addSearch_114 (lv_at hl 1 rfl) ?_
        refine lv_iconst (v := iI 1) C.1 C.2.1 dX11_addSearch_116 (by decide) ?_
        refine x_ci (x_runV (As := [.int (iI k), .int (iI 1)]) (rest := [.long (jI (dd * 31 + (wI (kilF σ k 0))))]) C (by omega) cw_X11_261 (c_X7_killerOf l D ad G ids hI σ k 1 ⟨by omega, by omega⟩ (by omega)) hM (hI 13 (by decide)) (cx_13 ad G _) rfl rfl rfl rfl (Nat.le_of_ble_eq_true rfl) hl.1 dX11_addSearch_117) hM (fun r117 s117 H1 lc1 hp hM => ?_)
        obtain ⟨rfl, rfl⟩ := hp
        refine x_i2lW C dX11_addSearch_120 ?_
        refine x_cl (x_runS (As := [.long (jI (dd * 31 + (wI (kilF σ k 0)))), .long (jI (wI (kilF σ k 1)))]) (rest := []) C (by omega) cw_X11_325 (c_X11_join l D ad G ids hI σ (dd * 31 + (wI (kilF σ k 0))) (wI (kilF σ k 1))) hM rfl rfl (Nat.le_of_ble_eq_true rfl) hl.1 dX11_addSearch_121) hM (fun r121 s121 H1 lc1 hp hM => ?_)
        obtain ⟨rfl, rfl⟩ := hp
        refine lv_lstore_n (lv' := [(3, .long (jI ((dd * 31 + (wI (kilF σ k 0))) * 31 + (wI (kilF σ k 1))))), (5, .int (iI k)), (0, .ref (ad 0)), (1, .long (jI d))]) C.1 C.2.1 dX11_addSearch_124 rfl hl (by decide) rfl (fun ls hl => ?_)
        refine x_iinc (lv1 := [(5, .int (iI (k + 1))), (3, .long (jI ((dd * 31 + (wI (kilF σ k 0))) * 31 + (wI (kilF σ k 1))))), (0, .ref (ad 0)), (1, .long (jI d))]) C dX11_addSearch_125 hl (k := 1) rfl (by decide) rfl (fun ls hl => ?_)
        refine lv_goto (tgt := 87) C.1 C.2.1 dX11_addSearch_128 (by decide) ?_
        exact ih87 (k + 1) ((dd * 31 + (wI (kilF σ k 0))) * 31 + (wI (kilF σ k 1))) _ _ _ (by omega) (by rw [dgK_s (kiF σ (σ 20 0)) k0.1, ← hd, hkk k 0 (by omega) (by omega), hkk k 1 (by omega) (by omega)]; rfl) (by omega) hM (lv_sub hl [0, 1, 2, 3] rfl)
  exact L87 _ 1 ((((((d * 31 + (wI (if (σ 19 0) < 0 then -1 else (σ 19 0) / 100))) * 31 + (wI (if (σ 19 0) < 0 then -1 else (σ 19 0) % 100))) * 31 + (wI (σ 20 0))) * 31 + (wI (σ 21 0 + σ 16 0))) * 31 + (wI (σ 22 0))) * 31 + (wI (σ 23 0))) _ _ _ (by omega) (by rw [hbf, hbt]; rfl) (Nat.lt_succ_self _) hM (lv_sub hl [0, 1, 2, 3] rfl)
set_option maxRecDepth 100000 in
set_option maxHeartbeats 4000000 in
theorem c_X11_addTable (l : Launch) (D : va_G) (ad : Nat → Nat) (G : Nat → Nat) (ids : List Nat) (hI : ∀ k, k < 81 → k ∈ ids) (σ : Sg) (d : Int) (hTI : TI σ) : MET l yX11_addTable cX11_addTable 7 (some .long) 3 [.ref (ad 0), .long (jI d)] D ad G ids σ (QL D ad G ids (fun z σ' => dg7 σ d = z ∧ σ = σ')) := by
  have h9 : 0 ≤ σ 9 0 ∧ σ 9 0 ≤ 64 := hTI.1
  refine x_enter (by decide) (Nat.le_of_ble_eq_true rfl) ?_
  intro pp ee ss mm args below meth cq C hr ls hl hM
  have hl : lv_has ls 7 [(0, .ref (ad 0)), (1, .long (jI d))] := hl
  refine lv_lload_n C.1 C.2.1 dX11_addTable_0 rfl (lv_at hl 1 rfl) ?_
  refine lv_aload_n C.1 C.2.1 dX11_addTable_1 rfl (lv_at hl 0 rfl) ?_
  refine g_X11_4 C hM (hI 0 (by decide)) wf_X11_43 dX11_addTable_2 ?_
  refine x_ci (x_runV (As := []) (rest := [.long (jI d)]) C (by omega) cw_X11_189 (c_X8_size l D ad G ids hI σ) hM (hI 4 (by decide)) (cx_4 ad G _) rfl rfl rfl rfl (Nat.le_of_ble_eq_true rfl) hl.1 dX11_addTable_5) hM (fun r5 s5 H1 lc1 hp hM => ?_)
  obtain ⟨rfl, rfl⟩ := hp
  refine x_i2lW C dX11_addTable_8 ?_
  refine x_cl (x_runS (As := [.long (jI d), .long (jI (wI (σ 9 0)))]) (rest := []) C (by omega) cw_X11_325 (c_X11_join l D ad G ids hI σ d (wI (σ 9 0))) hM rfl rfl (Nat.le_of_ble_eq_true rfl) hl.1 dX11_addTable_9) hM (fun r9 s9 H1 lc1 hp hM => ?_)
  obtain ⟨rfl, rfl⟩ := hp
  refine lv_aload_n C.1 C.2.1 dX11_addTable_12 rfl (lv_at hl 0 rfl) ?_
  refine g_X11_4 C hM (hI 0 (by decide)) wf_X11_43 dX11_addTable_13 ?_
  refine x_ci (x_runV (As := []) (rest := [.long (jI (d * 31 + (wI (σ 9 0))))]) C (by omega) cw_X11_195 (c_X8_countEntries l D ad G ids hI σ hTI) hM (hI 4 (by decide)) (cx_4 ad G _) rfl rfl rfl rfl (Nat.le_of_ble_eq_true rfl) hl.1 dX11_addTable_16) hM (fun r16 s16 H1 lc1 hp hM => ?_)
  obtain ⟨rfl, rfl⟩ := hp
  refine x_i2lW C dX11_addTable_19 ?_
  refine x_cl (x_runS (As := [.long (jI (d * 31 + (wI (σ 9 0)))), .long (jI (wI (cntE (σ 11) 64)))]) (rest := []) C (by omega) cw_X11_325 (c_X11_join l D ad G ids hI σ (d * 31 + (wI (σ 9 0))) (wI (cntE (σ 11) 64))) hM rfl rfl (Nat.le_of_ble_eq_true rfl) hl.1 dX11_addTable_20) hM (fun r20 s20 H1 lc1 hp hM => ?_)
  obtain ⟨rfl, rfl⟩ := hp
  refine lv_lstore_n (lv' := [(3, .long (jI ((d * 31 + (wI (σ 9 0))) * 31 + (wI (cntE (σ 11) 64))))), (0, .ref (ad 0)), (1, .long (jI d))]) C.1 C.2.1 dX11_addTable_23 rfl hl (by decide) rfl (fun ls hl => ?_)
  refine lv_iconst (v := iI 0) C.1 C.2.1 dX11_addTable_24 (by decide) ?_
  refine lv_istore (lv' := [(5, .int (iI 0)), (3, .long (jI ((d * 31 + (wI (σ 9 0))) * 31 + (wI (cntE (σ 11) 64))))), (0, .ref (ad 0)), (1, .long (jI d))]) C.1 C.2.1 dX11_addTable_25 hl (by decide) rfl (fun ls hl => ?_)
  have L27 : ∀ (fu : Nat) (sl : Int) (dd : Int) (H1 : Heap) (lc1 : List Loc) (ls1 : Array Slot), (0 ≤ sl ∧ sl ≤ σ 9 0) → (dd = dgT (teF σ) sl.toNat ((d * 31 + wI (σ 9 0)) * 31 + wI (cntE (σ 11) 64))) → (70 - sl).toNat < fu → XI D ad G ids (AN ad ids ss.heap.size) ss.heap H1 lc1 σ → lv_has ls1 7 [(5, .int (iI sl)), (3, .long (jI dd)), (0, .ref (ad 0)), (1, .long (jI d))] → W pp l ee (rmh 3) ss mm args below meth cq H1 lc1 0 0 (MQ below (QL D ad G ids (fun z σ' => dg7 σ d = z ∧ σ = σ') ss.heap.size) args ss 0 0 (AN ad ids ss.heap.size)) (F0 mm 27 ls1 []) := by
    intro fu
    induction fu with
    | zero => intro sl dd  H1 lc1 ls1 l0 hd hfu; exact absurd hfu (Nat.not_lt_zero _)
    | succ fu ih27 =>
      intro sl dd  H1 lc1 ls1 l0 hd hfu hM hl
      refine lv_iload C.1 C.2.1 dX11_addTable_27 (lv_at hl 0 rfl) ?_
      refine lv_aload_n C.1 C.2.1 dX11_addTable_29 rfl (lv_at hl 2 rfl) ?_
      refine g_X11_4 C hM (hI 0 (by decide)) wf_X11_43 dX11_addTable_30 ?_
      refine x_ci (x_runV (As := []) (rest := [.int (iI sl)]) C (by omega) cw_X11_189 (c_X8_size l D ad G ids hI σ) hM (hI 4 (by decide)) (cx_4 ad G _) rfl rfl rfl rfl (Nat.le_of_ble_eq_true rfl) hl.1 dX11_addTable_33) hM (fun r33 s33 H1 lc1 hp hM => ?_)
      obtain ⟨rfl, rfl⟩ := hp
      refine x_icmp_ge C ⟨by omega, by omega⟩ ⟨by omega, by omega⟩ (tgt := 77) dX11_addTable_36 (by decide) (fun c36 => ?_) (fun c36 => ?_)
      · refine lv_lload_n C.1 C.2.1 dX11_addTable_77 rfl (lv_at hl 1 rfl) ?_
        refine x_lret C hr hM ?_ dX11_addTable_78
        exact ⟨by
          rw [hd, show sl = σ 9 0 by omega]
          rfl, rfl⟩
      · refine lv_iconst (v := iI 0) C.1 C.2.1 dX11_addTable_39 (by decide) ?_
        refine lv_istore (lv' := [(6, .int (iI 0)), (5, .int (iI sl)), (3, .long (jI dd)), (0, .ref (ad 0)), (1, .long (jI d))]) C.1 C.2.1 dX11_addTable_40 hl (by decide) rfl (fun ls hl => ?_)
        have L42 : ∀ (fu : Nat) (kk : Int) (e2 : Int) (H1 : Heap) (lc1 : List Loc) (ls1 : Array Slot), (0 ≤ kk ∧ kk ≤ 4) → (e2 = dgF ((teF σ) sl) kk.toNat (dgT (teF σ) sl.toNat ((d * 31 + wI (σ 9 0)) * 31 + wI (cntE (σ 11) 64)))) → (40 - kk).toNat < fu → XI D ad G ids (AN ad ids ss.heap.size) ss.heap H1 lc1 σ → lv_has ls1 7 [(6, .int (iI kk)), (5, .int (iI sl)), (3, .long (jI e2)), (0, .ref (ad 0)), (1, .long (jI d))] → W pp l ee (rmh 3) ss mm args below meth cq H1 lc1 0 0 (MQ below (QL D ad G ids (fun z σ' => dg7 σ d = z ∧ σ = σ') ss.heap.size) args ss 0 0 (AN ad ids ss.heap.size)) (F0 mm 42 ls1 []) := by
          intro fu
          induction fu with
          | zero => intro kk e2  H1 lc1 ls1 kk0 he hfu; exact absurd hfu (Nat.not_lt_zero _)
          | succ fu ih42 =>
            intro kk e2  H1 lc1 ls1 kk0 he hfu hM hl
            refine lv_iload C.1 C.2.1 dX11_addTable_42 (lv_at hl 0 rfl) ?_
            refine lv_iconst (v := iI 3) C.1 C.2.1 dX11_addTable_44 (by decide) ?_
            refine x_icmp_gt C ⟨by omega, by omega⟩ ⟨by omega, by omega⟩ (tgt := 71) dX11_addTable_45 (by decide) (fun c45 => ?_) (fun c45 => ?_)
            · refine x_iinc (lv1 := [(5, .int (iI (sl + 1))), (6, .int (iI kk)), (3, .long (jI e2)), (0, .ref (ad 0)), (1, .long (jI d))]) C dX11_addTable_71 hl (k := 1) rfl (by decide) rfl (fun ls hl => ?_)
              refine lv_goto (tgt := 27) C.1 C.2.1 dX11_addTable_74 (by decide) ?_
              exact ih27 (sl + 1) e2 _ _ _ (by omega) (by rw [dgT_s (teF σ) l0.1, he, show kk = 4 by omega]; rfl) (by omega) hM (lv_sub hl [0, 2, 3, 4] rfl)
            · refine lv_lload_n C.1 C.2.1 dX11_addTable_48 rfl (lv_at hl 2 rfl) ?_
              refine lv_aload_n C.1 C.2.1 dX11_addTable_49 rfl (lv_at hl 3 rfl) ?_
              refine g_X11_4 C hM (hI 0 (by decide)) wf_X11_43 dX11_addTable_50 ?_
              refine lv_iload C.1 C.2.1 dX11_addTable_53 (lv_at hl 1 rfl) ?_
              refine lv_iload C.1 C.2.1 dX11_addTable_55 (lv_at hl 0 rfl) ?_
              refine x_ci (x_runV (As := [.int (iI sl), .int (iI kk)]) (rest := [.long (jI e2)]) C (by omega) cw_X11_272 (c_X8_tell l D ad G ids hI σ sl kk hTI (by omega) (by omega)) hM (hI 4 (by decide)) (cx_4 ad G _) rfl rfl rfl rfl (Nat.le_of_ble_eq_true rfl) hl.1 dX11_addTable_57) hM (fun r57 s57 H1 lc1 hp hM => ?_)
              obtain ⟨rfl, rfl⟩ := hp
              refine x_i2lW C dX11_addTable_60 ?_
              refine x_cl (x_runS (As := [.long (jI e2), .long (jI (wI (tellF σ sl kk)))]) (rest := []) C (by omega) cw_X11_325 (c_X11_join l D ad G ids hI σ e2 (wI (tellF σ sl kk))) hM rfl rfl (Nat.le_of_ble_eq_true rfl) hl.1 dX11_addTable_61) hM (fun r61 s61 H1 lc1 hp hM => ?_)
              obtain ⟨rfl, rfl⟩ := hp
              refine lv_lstore_n (lv' := [(3, .long (jI (e2 * 31 + (wI (tellF σ sl kk))))), (6, .int (iI kk)), (5, .int (iI sl)), (0, .ref (ad 0)), (1, .long (jI d))]) C.1 C.2.1 dX11_addTable_64 rfl hl (by decide) rfl (fun ls hl => ?_)
              refine x_iinc (lv1 := [(6, .int (iI (kk + 1))), (3, .long (jI (e2 * 31 + (wI (tellF σ sl kk))))), (5, .int (iI sl)), (0, .ref (ad 0)), (1, .long (jI d))]) C dX11_addTable_65 hl (k := 1) rfl (by decide) rfl (fun ls hl => ?_)
              refine lv_goto (tgt := 42) C.1 C.2.1 dX11_addTable_68 (by decide) ?_
              exact ih42 (kk + 1) (e2 * 31 + (wI (tellF σ sl kk))) _ _ _ (by omega) (by rw [dgF_s ((teF σ) sl) kk0.1, ← he]; rfl) (by omega) hM (lv_sub hl [0, 2, 1, 3, 4] rfl)
        exact L42 _ 0 dd _ _ _ (by omega) hd (Nat.lt_succ_self _) hM (lv_sub hl [0, 1, 2, 3, 4] rfl)
  exact L27 _ 0 ((d * 31 + (wI (σ 9 0))) * 31 + (wI (cntE (σ 11) 64))) _ _ _ (by omega) rfl (Nat.lt_succ_self _) hM (lv_sub hl [0, 1, 2, 3] rfl)
set_option maxRecDepth 100000 in
set_option maxHeartbeats 4000000 in
theorem c_X11_digest (l : Launch) (D : va_G) (ad : Nat → Nat) (G : Nat → Nat) (ids : List Nat) (hI : ∀ k, k < 81 → k ∈ ids) (σ : Sg)  (hG : GI σ) (hL : LM σ 0 (MLs (σ 1) (σ 2 0) (σ 3 0) (σ 4 0)) (σ 1)) (hTI : TI σ) (hBK : BKI σ) (hTR : TRI σ) (hb : -1 ≤ σ 19 0 ∧ σ 19 0 < 2500) (hre : 0 ≤ σ 20 0) (hk0 : σ 20 0 = 0 → ∀ d o : Int, 1 ≤ d → d ≤ 4 → kilF σ d o = -1) : MET l yX11_digest cX11_digest 3 (some .long) 42 [.ref (ad 0)] D ad G ids σ (QL D ad G ids (fun z σ' => digF σ (σ 20 0) (σ 21 0 + σ 16 0) (σ 19 0) = z ∧ ∀ r : Nat, r < 46 → r ≠ 15 → σ' r = σ r)) := by
  refine x_enter (by decide) (Nat.le_of_ble_eq_true rfl) ?_
  intro pp ee ss mm args below meth cq C hr ls hl hM
  have hl : lv_has ls 3 [(0, .ref (ad 0))] := hl
  refine lv_aload_n C.1 C.2.1 dX11_digest_0 rfl (lv_at hl 0 rfl) ?_
  refine lv_ldc2 C.1 C.2.1 C.2.2.2.1 (C.2.2.2.2.1 _ wk_X11_307) dX11_digest_1 ?_
  refine x_cl (x_runV (As := [.long (jI 58036)]) (rest := []) C (by omega) cw_X11_309 (c_X11_addBoard l D ad G ids hI σ 58036 hG hL hTR) hM (hI 0 (by decide)) (cx_0 ad G _) rfl rfl rfl rfl (Nat.le_of_ble_eq_true rfl) hl.1 dX11_digest_4) hM (fun r4 s4 H1 lc1 hp hM => ?_)
  obtain ⟨rfl, rfl⟩ := hp
  refine lv_lstore_n (lv' := [(1, .long (jI (dg2 σ (dgF (fun i => wI (σ 1 i)) (σ 2 0 * σ 3 0).toNat ((58036 * 31 + wI (σ 2 0)) * 31 + wI (σ 3 0)))))), (0, .ref (ad 0))]) C.1 C.2.1 dX11_digest_7 rfl hl (by decide) rfl (fun ls hl => ?_)
  refine lv_aload_n C.1 C.2.1 dX11_digest_8 rfl (lv_at hl 1 rfl) ?_
  refine lv_lload_n C.1 C.2.1 dX11_digest_9 rfl (lv_at hl 0 rfl) ?_
  refine x_cl (x_runV (As := [.long (jI (dg2 σ (dgF (fun i => wI (σ 1 i)) (σ 2 0 * σ 3 0).toNat ((58036 * 31 + wI (σ 2 0)) * 31 + wI (σ 3 0)))))]) (rest := []) C (by omega) cw_X11_313 (c_X11_addMoves l D ad G ids hI σ (dg2 σ (dgF (fun i => wI (σ 1 i)) (σ 2 0 * σ 3 0).toNat ((58036 * 31 + wI (σ 2 0)) * 31 + wI (σ 3 0)))) hG hL) hM (hI 0 (by decide)) (cx_0 ad G _) rfl rfl rfl rfl (Nat.le_of_ble_eq_true rfl) hl.1 dX11_digest_10) hM (fun r10 s10 H1 lc1 hp hM => ?_)
  obtain ⟨hzs10, hfs10⟩ := hp
  have f10 : ∀ r : Nat, r < 46 → r ≠ 15 → s10 r = σ r := hfs10
  have hG1 : GI s10 := hG.of (fun r hr => f10 r (by omega) (by omega))
  have hT1 : TI s10 := hTI.of (fun r hr => f10 r (by omega) (by omega))
  have hB1 : BKI s10 := by
    unfold BKI at *; rw [f10 24 (by decide) (by decide), f10 25 (by decide) (by decide), f10 26 (by decide) (by decide), f10 27 (by decide) (by decide)]; exact hBK
  have hL1 : LM s10 0 (MLs (s10 1) (s10 2 0) (s10 3 0) (s10 4 0)) (s10 1) := by
    have q := hL
    unfold LM at *
    rw [f10 1 (by decide) (by decide), f10 2 (by decide) (by decide), f10 3 (by decide) (by decide), f10 4 (by decide) (by decide), f10 40 (by decide) (by decide), f10 41 (by decide) (by decide), f10 44 (by decide) (by decide)]
    exact q
  have e20 : s10 20 = σ 20 := f10 20 (by decide) (by decide)
  have e19 : s10 19 = σ 19 := f10 19 (by decide) (by decide)
  have hal : ∀ r : Nat, r < 32 → r ≠ 15 → s10 r = σ r := fun r a b => f10 r (by omega) b
  refine lv_lstore_n (lv' := [(1, .long (jI r10)), (0, .ref (ad 0))]) C.1 C.2.1 dX11_digest_13 rfl hl (by decide) rfl (fun ls hl => ?_)
  refine lv_aload_n C.1 C.2.1 dX11_digest_14 rfl (lv_at hl 1 rfl) ?_
  refine lv_lload_n C.1 C.2.1 dX11_digest_15 rfl (lv_at hl 0 rfl) ?_
  refine x_cl (x_runV (As := [.long (jI r10)]) (rest := []) C (by omega) cw_X11_316 (c_X11_addSearch l D ad G ids hI s10 r10 (by rw [e19]; exact hb) (by rw [e20]; exact hre) (by
      rw [e20]
      intro h d o a b
      have q := hk0 h d o a b
      unfold kilF at *
      rw [hal 17 (by decide) (by decide), hal 18 (by decide) (by decide)]; exact q)) hM (hI 0 (by decide)) (cx_0 ad G _) rfl rfl rfl rfl (Nat.le_of_ble_eq_true rfl) hl.1 dX11_digest_16) hM (fun r16 s16 H1 lc1 hp hM => ?_)
  obtain ⟨rfl, rfl⟩ := hp
  refine lv_lstore_n (lv' := [(1, .long (jI (dg6 s10 (s10 20 0) (dg5 s10 (s10 20 0) (s10 21 0 + s10 16 0) (s10 19 0) r10)))), (0, .ref (ad 0))]) C.1 C.2.1 dX11_digest_19 rfl hl (by decide) rfl (fun ls hl => ?_)
  refine lv_aload_n C.1 C.2.1 dX11_digest_20 rfl (lv_at hl 1 rfl) ?_
  refine lv_lload_n C.1 C.2.1 dX11_digest_21 rfl (lv_at hl 0 rfl) ?_
  refine x_cl (x_runV (As := [.long (jI (dg6 s10 (s10 20 0) (dg5 s10 (s10 20 0) (s10 21 0 + s10 16 0) (s10 19 0) r10)))]) (rest := []) C (by omega) cw_X11_319 (c_X11_addTable l D ad G ids hI s10 (dg6 s10 (s10 20 0) (dg5 s10 (s10 20 0) (s10 21 0 + s10 16 0) (s10 19 0) r10)) hT1) hM (hI 0 (by decide)) (cx_0 ad G _) rfl rfl rfl rfl (Nat.le_of_ble_eq_true rfl) hl.1 dX11_digest_22) hM (fun r22 s22 H1 lc1 hp hM => ?_)
  obtain ⟨rfl, rfl⟩ := hp
  refine lv_lstore_n (lv' := [(1, .long (jI (dg7 s10 (dg6 s10 (s10 20 0) (dg5 s10 (s10 20 0) (s10 21 0 + s10 16 0) (s10 19 0) r10))))), (0, .ref (ad 0))]) C.1 C.2.1 dX11_digest_25 rfl hl (by decide) rfl (fun ls hl => ?_)
  refine lv_lload_n C.1 C.2.1 dX11_digest_26 rfl (lv_at hl 0 rfl) ?_
  refine lv_aload_n C.1 C.2.1 dX11_digest_27 rfl (lv_at hl 1 rfl) ?_
  refine x_ci (x_runV (As := []) (rest := [.long (jI (dg7 s10 (dg6 s10 (s10 20 0) (dg5 s10 (s10 20 0) (s10 21 0 + s10 16 0) (s10 19 0) r10))))]) C (by omega) cw_X11_322 (c_X11_known l D ad G ids hI s10 hG1 hT1) hM (hI 0 (by decide)) (cx_0 ad G _) rfl rfl rfl rfl (Nat.le_of_ble_eq_true rfl) hl.1 dX11_digest_28) hM (fun r28 s28 H1 lc1 hp hM => ?_)
  obtain ⟨rfl, rfl⟩ := hp
  refine x_i2lW C dX11_digest_31 ?_
  refine x_cl (x_runS (As := [.long (jI (dg7 s10 (dg6 s10 (s10 20 0) (dg5 s10 (s10 20 0) (s10 21 0 + s10 16 0) (s10 19 0) r10)))), .long (jI (wI (knF s10)))]) (rest := []) C (by omega) cw_X11_325 (c_X11_join l D ad G ids hI s10 (dg7 s10 (dg6 s10 (s10 20 0) (dg5 s10 (s10 20 0) (s10 21 0 + s10 16 0) (s10 19 0) r10))) (wI (knF s10))) hM rfl rfl (Nat.le_of_ble_eq_true rfl) hl.1 dX11_digest_32) hM (fun r32 s32 H1 lc1 hp hM => ?_)
  obtain ⟨rfl, rfl⟩ := hp
  refine lv_lstore_n (lv' := [(1, .long (jI ((dg7 s10 (dg6 s10 (s10 20 0) (dg5 s10 (s10 20 0) (s10 21 0 + s10 16 0) (s10 19 0) r10))) * 31 + (wI (knF s10))))), (0, .ref (ad 0))]) C.1 C.2.1 dX11_digest_35 rfl hl (by decide) rfl (fun ls hl => ?_)
  refine lv_lload_n C.1 C.2.1 dX11_digest_36 rfl (lv_at hl 0 rfl) ?_
  refine lv_aload_n C.1 C.2.1 dX11_digest_37 rfl (lv_at hl 1 rfl) ?_
  refine x_ci (x_runV (As := []) (rest := [.long (jI ((dg7 s10 (dg6 s10 (s10 20 0) (dg5 s10 (s10 20 0) (s10 21 0 + s10 16 0) (s10 19 0) r10))) * 31 + (wI (knF s10))))]) C (by omega) cw_X11_329 (c_X11_told l D ad G ids hI s10 hG1 hL1 hB1) hM (hI 0 (by decide)) (cx_0 ad G _) rfl rfl rfl rfl (Nat.le_of_ble_eq_true rfl) hl.1 dX11_digest_38) hM (fun r38 s38 H1 lc1 hp hM => ?_)
  obtain ⟨rfl, rfl⟩ := hp
  refine x_i2lW C dX11_digest_41 ?_
  refine x_cl (x_runS (As := [.long (jI ((dg7 s10 (dg6 s10 (s10 20 0) (dg5 s10 (s10 20 0) (s10 21 0 + s10 16 0) (s10 19 0) r10))) * 31 + (wI (knF s10)))), .long (jI (wI (tlF s10)))]) (rest := []) C (by omega) cw_X11_325 (c_X11_join l D ad G ids hI s10 ((dg7 s10 (dg6 s10 (s10 20 0) (dg5 s10 (s10 20 0) (s10 21 0 + s10 16 0) (s10 19 0) r10))) * 31 + (wI (knF s10))) (wI (tlF s10))) hM rfl rfl (Nat.le_of_ble_eq_true rfl) hl.1 dX11_digest_42) hM (fun r42 s42 H1 lc1 hp hM => ?_)
  obtain ⟨rfl, rfl⟩ := hp
  refine lv_lstore_n (lv' := [(1, .long (jI (((dg7 s10 (dg6 s10 (s10 20 0) (dg5 s10 (s10 20 0) (s10 21 0 + s10 16 0) (s10 19 0) r10))) * 31 + (wI (knF s10))) * 31 + (wI (tlF s10))))), (0, .ref (ad 0))]) C.1 C.2.1 dX11_digest_45 rfl hl (by decide) rfl (fun ls hl => ?_)
  refine lv_lload_n C.1 C.2.1 dX11_digest_46 rfl (lv_at hl 0 rfl) ?_
  refine lv_aload_n C.1 C.2.1 dX11_digest_47 rfl (lv_at hl 1 rfl) ?_
  refine g_X11_7 C hM (hI 0 (by decide)) wf_X11_73 dX11_digest_48 ?_
  refine x_ci (x_runV (As := []) (rest := [.long (jI (((dg7 s10 (dg6 s10 (s10 20 0) (dg5 s10 (s10 20 0) (s10 21 0 + s10 16 0) (s10 19 0) r10))) * 31 + (wI (knF s10))) * 31 + (wI (tlF s10))))]) C (by omega) cw_X11_297 (c_X1_length l D ad G ids hI s10) hM (hI 17 (by decide)) (cx_17 ad G _) rfl rfl rfl rfl (Nat.le_of_ble_eq_true rfl) hl.1 dX11_digest_51) hM (fun r51 s51 H1 lc1 hp hM => ?_)
  obtain ⟨rfl, rfl⟩ := hp
  refine x_i2lW C dX11_digest_54 ?_
  refine x_cl (x_runS (As := [.long (jI (((dg7 s10 (dg6 s10 (s10 20 0) (dg5 s10 (s10 20 0) (s10 21 0 + s10 16 0) (s10 19 0) r10))) * 31 + (wI (knF s10))) * 31 + (wI (tlF s10)))), .long (jI (wI (s10 27 0)))]) (rest := []) C (by omega) cw_X11_325 (c_X11_join l D ad G ids hI s10 (((dg7 s10 (dg6 s10 (s10 20 0) (dg5 s10 (s10 20 0) (s10 21 0 + s10 16 0) (s10 19 0) r10))) * 31 + (wI (knF s10))) * 31 + (wI (tlF s10))) (wI (s10 27 0))) hM rfl rfl (Nat.le_of_ble_eq_true rfl) hl.1 dX11_digest_55) hM (fun r55 s55 H1 lc1 hp hM => ?_)
  obtain ⟨rfl, rfl⟩ := hp
  refine x_lret C hr hM ?_ dX11_digest_58
  exact ⟨by
    rw [knF_of hal, tlF_of hal, ← hzs10]
    unfold digF dg8 dg7 dg6 dg5
    rw [kiF_of hal, teF_of hal, e20, e19, hal 9 (by decide) (by decide), hal 11 (by decide) (by decide), hal 21 (by decide) (by decide), hal 16 (by decide) (by decide), hal 22 (by decide) (by decide), hal 23 (by decide) (by decide), hal 27 (by decide) (by decide)]
    rfl, f10⟩
