set_option maxRecDepth 100000 in
set_option maxHeartbeats 4000000 in
theorem c_X8_size (l : Launch) (D : va_G) (ad : Nat → Nat) (G : Nat → Nat) (ids : List Nat) (hI : ∀ k, k < 81 → k ∈ ids) (σ : Sg)   : MET l yX8_size cX8_size 1 (some .int) 1 [.ref (ad 4)] D ad G ids σ (QI D ad G ids (fun z σ' => σ 9 0 = z ∧ σ = σ')) := by
  refine x_enter (by decide) (Nat.le_of_ble_eq_true rfl) ?_
  intro pp ee ss mm args below meth cq C hr ls hl hM
  have hl : lv_has ls 1 [(0, .ref (ad 4))] := hl
  refine lv_aload_n C.1 C.2.1 dX8_size_0 rfl (lv_at hl 0 rfl) ?_
  refine g_X8_5 C hM (hI 4 (by decide)) wf_X8_28 dX8_size_1 ?_
  exact x_iret C hr hM ⟨rfl, rfl⟩ dX8_size_4
set_option maxRecDepth 100000 in
set_option maxHeartbeats 4000000 in
theorem c_X8_depthAt (l : Launch) (D : va_G) (ad : Nat → Nat) (G : Nat → Nat) (ids : List Nat) (hI : ∀ k, k < 81 → k ∈ ids) (σ : Sg) (s : Int) (hTI : TI σ) (hs : IR s) : MET l yX8_depthAt cX8_depthAt 2 (some .int) 1 [.ref (ad 4), .int (iI s)] D ad G ids σ (QI D ad G ids (fun z σ' => (if 0 ≤ s ∧ s < 64 then σ 11 s else 0) = z ∧ σ = σ')) := by
  refine x_enter (by decide) (Nat.le_of_ble_eq_true rfl) ?_
  intro pp ee ss mm args below meth cq C hr ls hl hM
  have hl : lv_has ls 2 [(0, .ref (ad 4)), (1, .int (iI s))] := hl
  refine lv_iload_n C.1 C.2.1 dX8_depthAt_0 rfl (lv_at hl 1 rfl) ?_
  refine x_if_lt C ⟨by omega, by omega⟩ (tgt := 22) dX8_depthAt_1 (by decide) (fun c1 => ?_) (fun c1 => ?_)
  · refine lv_iconst (v := iI 0) C.1 C.2.1 dX8_depthAt_22 (by decide) ?_
    exact x_iret C hr hM ⟨by rw [if_neg (by omega)], rfl⟩ dX8_depthAt_23
  · refine lv_iload_n C.1 C.2.1 dX8_depthAt_4 rfl (lv_at hl 1 rfl) ?_
    refine lv_aload_n C.1 C.2.1 dX8_depthAt_5 rfl (lv_at hl 0 rfl) ?_
    refine g_X8_1 C hM (hI 4 (by decide)) wf_X8_15 dX8_depthAt_6 ?_
    refine ln_6 C hM (hI 6 (by decide)) dX8_depthAt_9 ?_
    refine x_icmp_ge C ⟨by omega, by omega⟩ ⟨by omega, by omega⟩ (tgt := 22) dX8_depthAt_10 (by decide) (fun c10 => ?_) (fun c10 => ?_)
    · refine lv_iconst (v := iI 0) C.1 C.2.1 dX8_depthAt_22 (by decide) ?_
      exact x_iret C hr hM ⟨by rw [if_neg (by omega)], rfl⟩ dX8_depthAt_23
    · refine lv_aload_n C.1 C.2.1 dX8_depthAt_13 rfl (lv_at hl 0 rfl) ?_
      refine g_X8_1 C hM (hI 4 (by decide)) wf_X8_15 dX8_depthAt_14 ?_
      refine lv_iload_n C.1 C.2.1 dX8_depthAt_17 rfl (lv_at hl 1 rfl) ?_
      refine al_6 C hM (hI 6 (by decide)) (by omega) (by omega) dX8_depthAt_18 ?_
      refine lv_goto (tgt := 23) C.1 C.2.1 dX8_depthAt_19 (by decide) ?_
      exact x_iret C hr hM ⟨by rw [if_pos (by omega)], rfl⟩ dX8_depthAt_23
set_option maxRecDepth 100000 in
set_option maxHeartbeats 4000000 in
theorem c_X8_numberAt (l : Launch) (D : va_G) (ad : Nat → Nat) (G : Nat → Nat) (ids : List Nat) (hI : ∀ k, k < 81 → k ∈ ids) (σ : Sg) (s : Int) (hTI : TI σ) (hs : IR s) : MET l yX8_numberAt cX8_numberAt 2 (some .int) 1 [.ref (ad 4), .int (iI s)] D ad G ids σ (QI D ad G ids (fun z σ' => (if 0 ≤ s ∧ s < 64 then σ 12 s else 0) = z ∧ σ = σ')) := by
  refine x_enter (by decide) (Nat.le_of_ble_eq_true rfl) ?_
  intro pp ee ss mm args below meth cq C hr ls hl hM
  have hl : lv_has ls 2 [(0, .ref (ad 4)), (1, .int (iI s))] := hl
  refine lv_iload_n C.1 C.2.1 dX8_numberAt_0 rfl (lv_at hl 1 rfl) ?_
  refine x_if_lt C ⟨by omega, by omega⟩ (tgt := 22) dX8_numberAt_1 (by decide) (fun c1 => ?_) (fun c1 => ?_)
  · refine lv_iconst (v := iI 0) C.1 C.2.1 dX8_numberAt_22 (by decide) ?_
    exact x_iret C hr hM ⟨by rw [if_neg (by omega)], rfl⟩ dX8_numberAt_23
  · refine lv_iload_n C.1 C.2.1 dX8_numberAt_4 rfl (lv_at hl 1 rfl) ?_
    refine lv_aload_n C.1 C.2.1 dX8_numberAt_5 rfl (lv_at hl 0 rfl) ?_
    refine g_X8_2 C hM (hI 4 (by decide)) wf_X8_19 dX8_numberAt_6 ?_
    refine ln_7 C hM (hI 7 (by decide)) dX8_numberAt_9 ?_
    refine x_icmp_ge C ⟨by omega, by omega⟩ ⟨by omega, by omega⟩ (tgt := 22) dX8_numberAt_10 (by decide) (fun c10 => ?_) (fun c10 => ?_)
    · refine lv_iconst (v := iI 0) C.1 C.2.1 dX8_numberAt_22 (by decide) ?_
      exact x_iret C hr hM ⟨by rw [if_neg (by omega)], rfl⟩ dX8_numberAt_23
    · refine lv_aload_n C.1 C.2.1 dX8_numberAt_13 rfl (lv_at hl 0 rfl) ?_
      refine g_X8_2 C hM (hI 4 (by decide)) wf_X8_19 dX8_numberAt_14 ?_
      refine lv_iload_n C.1 C.2.1 dX8_numberAt_17 rfl (lv_at hl 1 rfl) ?_
      refine al_7 C hM (hI 7 (by decide)) (by omega) (by omega) dX8_numberAt_18 ?_
      refine lv_goto (tgt := 23) C.1 C.2.1 dX8_numberAt_19 (by decide) ?_
      exact x_iret C hr hM ⟨by rw [if_pos (by omega)], rfl⟩ dX8_numberAt_23
set_option maxRecDepth 100000 in
set_option maxHeartbeats 4000000 in
theorem c_X8_kindAt (l : Launch) (D : va_G) (ad : Nat → Nat) (G : Nat → Nat) (ids : List Nat) (hI : ∀ k, k < 81 → k ∈ ids) (σ : Sg) (s : Int) (hTI : TI σ) (hs : IR s) : MET l yX8_kindAt cX8_kindAt 2 (some .int) 1 [.ref (ad 4), .int (iI s)] D ad G ids σ (QI D ad G ids (fun z σ' => (if 0 ≤ s ∧ s < 64 then σ 13 s else -1) = z ∧ σ = σ')) := by
  refine x_enter (by decide) (Nat.le_of_ble_eq_true rfl) ?_
  intro pp ee ss mm args below meth cq C hr ls hl hM
  have hl : lv_has ls 2 [(0, .ref (ad 4)), (1, .int (iI s))] := hl
  refine lv_iload_n C.1 C.2.1 dX8_kindAt_0 rfl (lv_at hl 1 rfl) ?_
  refine x_if_lt C ⟨by omega, by omega⟩ (tgt := 22) dX8_kindAt_1 (by decide) (fun c1 => ?_) (fun c1 => ?_)
  · refine lv_iconst (v := iI (-1)) C.1 C.2.1 dX8_kindAt_22 (by decide) ?_
    exact x_iret C hr hM ⟨by rw [if_neg (by omega)], rfl⟩ dX8_kindAt_23
  · refine lv_iload_n C.1 C.2.1 dX8_kindAt_4 rfl (lv_at hl 1 rfl) ?_
    refine lv_aload_n C.1 C.2.1 dX8_kindAt_5 rfl (lv_at hl 0 rfl) ?_
    refine g_X8_3 C hM (hI 4 (by decide)) wf_X8_22 dX8_kindAt_6 ?_
    refine ln_8 C hM (hI 8 (by decide)) dX8_kindAt_9 ?_
    refine x_icmp_ge C ⟨by omega, by omega⟩ ⟨by omega, by omega⟩ (tgt := 22) dX8_kindAt_10 (by decide) (fun c10 => ?_) (fun c10 => ?_)
    · refine lv_iconst (v := iI (-1)) C.1 C.2.1 dX8_kindAt_22 (by decide) ?_
      exact x_iret C hr hM ⟨by rw [if_neg (by omega)], rfl⟩ dX8_kindAt_23
    · refine lv_aload_n C.1 C.2.1 dX8_kindAt_13 rfl (lv_at hl 0 rfl) ?_
      refine g_X8_3 C hM (hI 4 (by decide)) wf_X8_22 dX8_kindAt_14 ?_
      refine lv_iload_n C.1 C.2.1 dX8_kindAt_17 rfl (lv_at hl 1 rfl) ?_
      refine al_8 C hM (hI 8 (by decide)) (by omega) (by omega) dX8_kindAt_18 ?_
      refine lv_goto (tgt := 23) C.1 C.2.1 dX8_kindAt_19 (by decide) ?_
      exact x_iret C hr hM ⟨by rw [if_pos (by omega)], rfl⟩ dX8_kindAt_23
set_option maxRecDepth 100000 in
set_option maxHeartbeats 4000000 in
theorem c_X8_moveAt (l : Launch) (D : va_G) (ad : Nat → Nat) (G : Nat → Nat) (ids : List Nat) (hI : ∀ k, k < 81 → k ∈ ids) (σ : Sg) (s : Int) (hTI : TI σ) (hs : IR s) : MET l yX8_moveAt cX8_moveAt 2 (some .int) 1 [.ref (ad 4), .int (iI s)] D ad G ids σ (QI D ad G ids (fun z σ' => (if 0 ≤ s ∧ s < 64 then σ 14 s else -1) = z ∧ σ = σ')) := by
  refine x_enter (by decide) (Nat.le_of_ble_eq_true rfl) ?_
  intro pp ee ss mm args below meth cq C hr ls hl hM
  have hl : lv_has ls 2 [(0, .ref (ad 4)), (1, .int (iI s))] := hl
  refine lv_iload_n C.1 C.2.1 dX8_moveAt_0 rfl (lv_at hl 1 rfl) ?_
  refine x_if_lt C ⟨by omega, by omega⟩ (tgt := 22) dX8_moveAt_1 (by decide) (fun c1 => ?_) (fun c1 => ?_)
  · refine lv_iconst (v := iI (-1)) C.1 C.2.1 dX8_moveAt_22 (by decide) ?_
    exact x_iret C hr hM ⟨by rw [if_neg (by omega)], rfl⟩ dX8_moveAt_23
  · refine lv_iload_n C.1 C.2.1 dX8_moveAt_4 rfl (lv_at hl 1 rfl) ?_
    refine lv_aload_n C.1 C.2.1 dX8_moveAt_5 rfl (lv_at hl 0 rfl) ?_
    refine g_X8_4 C hM (hI 4 (by decide)) wf_X8_25 dX8_moveAt_6 ?_
    refine ln_9 C hM (hI 9 (by decide)) dX8_moveAt_9 ?_
    refine x_icmp_ge C ⟨by omega, by omega⟩ ⟨by omega, by omega⟩ (tgt := 22) dX8_moveAt_10 (by decide) (fun c10 => ?_) (fun c10 => ?_)
    · refine lv_iconst (v := iI (-1)) C.1 C.2.1 dX8_moveAt_22 (by decide) ?_
      exact x_iret C hr hM ⟨by rw [if_neg (by omega)], rfl⟩ dX8_moveAt_23
    · refine lv_aload_n C.1 C.2.1 dX8_moveAt_13 rfl (lv_at hl 0 rfl) ?_
      refine g_X8_4 C hM (hI 4 (by decide)) wf_X8_25 dX8_moveAt_14 ?_
      refine lv_iload_n C.1 C.2.1 dX8_moveAt_17 rfl (lv_at hl 1 rfl) ?_
      refine al_9 C hM (hI 9 (by decide)) (by omega) (by omega) dX8_moveAt_18 ?_
      refine lv_goto (tgt := 23) C.1 C.2.1 dX8_moveAt_19 (by decide) ?_
      exact x_iret C hr hM ⟨by rw [if_pos (by omega)], rfl⟩ dX8_moveAt_23
set_option maxRecDepth 100000 in
set_option maxHeartbeats 4000000 in
theorem c_X8_keyAt (l : Launch) (D : va_G) (ad : Nat → Nat) (G : Nat → Nat) (ids : List Nat) (hI : ∀ k, k < 81 → k ∈ ids) (σ : Sg) (s : Int) (hTI : TI σ) (hs : IR s) : MET l yX8_keyAt cX8_keyAt 2 (some .long) 1 [.ref (ad 4), .int (iI s)] D ad G ids σ (QL D ad G ids (fun z σ' => (if 0 ≤ s ∧ s < 64 then σ 10 s else -1) = z ∧ σ = σ')) := by
  refine x_enter (by decide) (Nat.le_of_ble_eq_true rfl) ?_
  intro pp ee ss mm args below meth cq C hr ls hl hM
  have hl : lv_has ls 2 [(0, .ref (ad 4)), (1, .int (iI s))] := hl
  refine lv_iload_n C.1 C.2.1 dX8_keyAt_0 rfl (lv_at hl 1 rfl) ?_
  refine x_if_lt C ⟨by omega, by omega⟩ (tgt := 22) dX8_keyAt_1 (by decide) (fun c1 => ?_) (fun c1 => ?_)
  · refine lv_ldc2 C.1 C.2.1 C.2.2.2.1 (C.2.2.2.2.1 _ wk_X8_60) dX8_keyAt_22 ?_
    exact x_lret C hr hM ⟨by rw [if_neg (by omega)], rfl⟩ dX8_keyAt_25
  · refine lv_iload_n C.1 C.2.1 dX8_keyAt_4 rfl (lv_at hl 1 rfl) ?_
    refine lv_aload_n C.1 C.2.1 dX8_keyAt_5 rfl (lv_at hl 0 rfl) ?_
    refine g_X8_0 C hM (hI 4 (by decide)) wf_X8_9 dX8_keyAt_6 ?_
    refine ln_5 C hM (hI 5 (by decide)) dX8_keyAt_9 ?_
    refine x_icmp_ge C ⟨by omega, by omega⟩ ⟨by omega, by omega⟩ (tgt := 22) dX8_keyAt_10 (by decide) (fun c10 => ?_) (fun c10 => ?_)
    · refine lv_ldc2 C.1 C.2.1 C.2.2.2.1 (C.2.2.2.2.1 _ wk_X8_60) dX8_keyAt_22 ?_
      exact x_lret C hr hM ⟨by rw [if_neg (by omega)], rfl⟩ dX8_keyAt_25
    · refine lv_aload_n C.1 C.2.1 dX8_keyAt_13 rfl (lv_at hl 0 rfl) ?_
      refine g_X8_0 C hM (hI 4 (by decide)) wf_X8_9 dX8_keyAt_14 ?_
      refine lv_iload_n C.1 C.2.1 dX8_keyAt_17 rfl (lv_at hl 1 rfl) ?_
      refine al_5 C hM (hI 5 (by decide)) (by omega) (by omega) dX8_keyAt_18 ?_
      refine lv_goto (tgt := 25) C.1 C.2.1 dX8_keyAt_19 (by decide) ?_
      exact x_lret C hr hM ⟨by rw [if_pos (by omega)], rfl⟩ dX8_keyAt_25
set_option maxRecDepth 100000 in
set_option maxHeartbeats 4000000 in
theorem c_X8_slotOf (l : Launch) (D : va_G) (ad : Nat → Nat) (G : Nat → Nat) (ids : List Nat) (hI : ∀ k, k < 81 → k ∈ ids) (σ : Sg) (key : Int) (hTI : TI σ) (hkey : 0 ≤ key ∧ key < 4000000000000000000) : MET l yX8_slotOf cX8_slotOf 3 (some .int) 1 [.ref (ad 4), .long (jI key)] D ad G ids σ (QI D ad G ids (fun z σ' => slotT σ key = z ∧ σ = σ')) := by
  have h9 := hTI.1
  refine x_enter (by decide) (Nat.le_of_ble_eq_true rfl) ?_
  intro pp ee ss mm args below meth cq C hr ls hl hM
  have hl : lv_has ls 3 [(0, .ref (ad 4)), (1, .long (jI key))] := hl
  refine lv_aload_n C.1 C.2.1 dX8_slotOf_0 rfl (lv_at hl 0 rfl) ?_
  refine g_X8_5 C hM (hI 4 (by decide)) wf_X8_28 dX8_slotOf_1 ?_
  refine x_if_le C ⟨by omega, by omega⟩ (tgt := 18) dX8_slotOf_4 (by decide) (fun c4 => ?_) (fun c4 => ?_)
  · refine lv_iconst (v := iI (-1)) C.1 C.2.1 dX8_slotOf_18 (by decide) ?_
    exact x_iret C hr hM ⟨by unfold slotT; rw [if_neg (by omega)], rfl⟩ dX8_slotOf_19
  · refine lv_lload_n C.1 C.2.1 dX8_slotOf_7 rfl (lv_at hl 1 rfl) ?_
    refine lv_aload_n C.1 C.2.1 dX8_slotOf_8 rfl (lv_at hl 0 rfl) ?_
    refine g_X8_5 C hM (hI 4 (by decide)) wf_X8_28 dX8_slotOf_9 ?_
    refine x_i2l C ⟨by omega, by omega⟩ dX8_slotOf_12 ?_
    refine x_lrem2 C ⟨by omega, by omega, by omega⟩ ⟨by omega, by omega, by omega⟩ dX8_slotOf_13 ?_
    refine x_l2i C dX8_slotOf_14 ?_
    refine lv_goto (tgt := 19) C.1 C.2.1 dX8_slotOf_15 (by decide) ?_
    exact x_iret C hr hM ⟨by unfold slotT; rw [if_pos (by omega)], rfl⟩ dX8_slotOf_19
set_option maxRecDepth 100000 in
set_option maxHeartbeats 4000000 in
theorem c_X8_find (l : Launch) (D : va_G) (ad : Nat → Nat) (G : Nat → Nat) (ids : List Nat) (hI : ∀ k, k < 81 → k ∈ ids) (σ : Sg) (key : Int) (hTI : TI σ) (hkey : 0 ≤ key ∧ key < 4000000000000000000) : MET l yX8_find cX8_find 4 (some .int) 2 [.ref (ad 4), .long (jI key)] D ad G ids σ (QI D ad G ids (fun z σ' => fndT σ key = z ∧ σ = σ')) := by
  have h9 := hTI.1
  refine x_enter (by decide) (Nat.le_of_ble_eq_true rfl) ?_
  intro pp ee ss mm args below meth cq C hr ls hl hM
  have hl : lv_has ls 4 [(0, .ref (ad 4)), (1, .long (jI key))] := hl
  refine lv_aload_n C.1 C.2.1 dX8_find_0 rfl (lv_at hl 0 rfl) ?_
  refine lv_lload_n C.1 C.2.1 dX8_find_1 rfl (lv_at hl 1 rfl) ?_
  refine x_ci (x_runV (As := [.long (jI key)]) (rest := []) C (by omega) cw_X8_35 (c_X8_slotOf l D ad G ids hI σ key hTI hkey) hM (hI 4 (by decide)) (cx_4 ad G _) rfl rfl rfl rfl (Nat.le_of_ble_eq_true rfl) hl.1 dX8_find_2) hM (fun r2 s2 H1 lc1 hp hM => ?_)
  obtain ⟨hbs2, rfl⟩ := hp
  have hcs := slotT_cs hTI hbs2
  refine lv_istore_n (lv' := [(3, .int (iI r2)), (0, .ref (ad 4)), (1, .long (jI key))]) C.1 C.2.1 dX8_find_5 rfl hl (by decide) rfl (fun ls hl => ?_)
  refine lv_aload_n C.1 C.2.1 dX8_find_6 rfl (lv_at hl 1 rfl) ?_
  refine lv_iload_n C.1 C.2.1 dX8_find_7 rfl (lv_at hl 0 rfl) ?_
  refine x_ci (x_runV (As := [.int (iI r2)]) (rest := []) C (by omega) cw_X8_39 (c_X8_depthAt l D ad G ids hI σ r2 hTI ⟨by omega, by omega⟩) hM (hI 4 (by decide)) (cx_4 ad G _) rfl rfl rfl rfl (Nat.le_of_ble_eq_true rfl) hl.1 dX8_find_8) hM (fun r8 s8 H1 lc1 hp hM => ?_)
  obtain ⟨hbs8, rfl⟩ := hp
  have hd := dep_cs hTI hbs2 hbs8
  refine x_if_le C ⟨by omega, by omega⟩ (tgt := 28) dX8_find_11 (by decide) (fun c11 => ?_) (fun c11 => ?_)
  · refine lv_iconst (v := iI (-1)) C.1 C.2.1 dX8_find_28 (by decide) ?_
    exact x_iret C hr hM ⟨fnd_n (fun q => by first | exact hd.2.2 (by omega) ⟨q.1, q.2.1⟩ | (have := q.2.2; rw [← g2] at this; omega)), rfl⟩ dX8_find_29
  · obtain ⟨g1, g2, g3, g4, g5⟩ := hd.2.1 (by omega)
    refine lv_aload_n C.1 C.2.1 dX8_find_14 rfl (lv_at hl 1 rfl) ?_
    refine lv_iload_n C.1 C.2.1 dX8_find_15 rfl (lv_at hl 0 rfl) ?_
    refine x_cl (x_runV (As := [.int (iI r2)]) (rest := []) C (by omega) cw_X8_43 (c_X8_keyAt l D ad G ids hI σ r2 hTI ⟨by omega, by omega⟩) hM (hI 4 (by decide)) (cx_4 ad G _) rfl rfl rfl rfl (Nat.le_of_ble_eq_true rfl) hl.1 dX8_find_16) hM (fun r16 s16 H1 lc1 hp hM => ?_)
    obtain ⟨hbs16, rfl⟩ := hp
    rw [if_pos (by omega)] at hbs16
    have hky := (hTI.2.1 r2).2.2.2.2
    refine lv_lload_n C.1 C.2.1 dX8_find_19 rfl (lv_at hl 2 rfl) ?_
    refine x_lcmp C ⟨by omega, by omega⟩ ⟨by omega, by omega⟩ dX8_find_20 (fun z20 i20 e20 g20 => ?_)
    refine x_if_ne C ⟨by omega, by omega⟩ (tgt := 28) dX8_find_21 (by decide) (fun c21 => ?_) (fun c21 => ?_)
    · refine lv_iconst (v := iI (-1)) C.1 C.2.1 dX8_find_28 (by decide) ?_
      exact x_iret C hr hM ⟨fnd_n (fun q => by first | exact hd.2.2 (by omega) ⟨q.1, q.2.1⟩ | (have := q.2.2; rw [← g2] at this; omega)), rfl⟩ dX8_find_29
    · refine lv_iload_n C.1 C.2.1 dX8_find_24 rfl (lv_at hl 0 rfl) ?_
      refine lv_goto (tgt := 29) C.1 C.2.1 dX8_find_25 (by decide) ?_
      exact x_iret C hr hM ⟨by rw [g2]; exact fnd_y ⟨g1, by rw [← g2]; omega, by rw [← g2]; omega⟩, rfl⟩ dX8_find_29
set_option maxRecDepth 100000 in
set_option maxHeartbeats 4000000 in
theorem c_X8_isSlot (l : Launch) (D : va_G) (ad : Nat → Nat) (G : Nat → Nat) (ids : List Nat) (hI : ∀ k, k < 81 → k ∈ ids) (σ : Sg) (s : Int) (hTI : TI σ) (hs : IR s) : MET l yX8_isSlot cX8_isSlot 2 (some .boolean) 1 [.ref (ad 4), .int (iI s)] D ad G ids σ (QI D ad G ids (fun z σ' => (if 0 ≤ s ∧ s < σ 9 0 then 1 else 0) = z ∧ σ = σ')) := by
  have h9 := hTI.1
  refine x_enter (by decide) (Nat.le_of_ble_eq_true rfl) ?_
  intro pp ee ss mm args below meth cq C hr ls hl hM
  have hl : lv_has ls 2 [(0, .ref (ad 4)), (1, .int (iI s))] := hl
  refine lv_iload_n C.1 C.2.1 dX8_isSlot_0 rfl (lv_at hl 1 rfl) ?_
  refine x_if_lt C ⟨by omega, by omega⟩ (tgt := 22) dX8_isSlot_1 (by decide) (fun c1 => ?_) (fun c1 => ?_)
  · refine lv_iconst (v := iI 0) C.1 C.2.1 dX8_isSlot_22 (by decide) ?_
    exact x_zret C hr hM (by first | exact Or.inl rfl | exact Or.inr rfl | omega) ⟨by rw [if_neg (by omega)], rfl⟩ dX8_isSlot_23
  · refine lv_iload_n C.1 C.2.1 dX8_isSlot_4 rfl (lv_at hl 1 rfl) ?_
    refine lv_aload_n C.1 C.2.1 dX8_isSlot_5 rfl (lv_at hl 0 rfl) ?_
    refine g_X8_5 C hM (hI 4 (by decide)) wf_X8_28 dX8_isSlot_6 ?_
    refine x_icmp_ge C ⟨by omega, by omega⟩ ⟨by omega, by omega⟩ (tgt := 22) dX8_isSlot_9 (by decide) (fun c9 => ?_) (fun c9 => ?_)
    · refine lv_iconst (v := iI 0) C.1 C.2.1 dX8_isSlot_22 (by decide) ?_
      exact x_zret C hr hM (by first | exact Or.inl rfl | exact Or.inr rfl | omega) ⟨by rw [if_neg (by omega)], rfl⟩ dX8_isSlot_23
    · refine lv_iload_n C.1 C.2.1 dX8_isSlot_12 rfl (lv_at hl 1 rfl) ?_
      refine lv_bipush (v := iI 64) C.1 C.2.1 dX8_isSlot_13 (by decide) ?_
      refine x_icmp_ge C ⟨by omega, by omega⟩ ⟨by omega, by omega⟩ (tgt := 22) dX8_isSlot_15 (by decide) (fun c15 => ?_) (fun c15 => ?_)
      · refine lv_iconst (v := iI 0) C.1 C.2.1 dX8_isSlot_22 (by decide) ?_
        exact x_zret C hr hM (by first | exact Or.inl rfl | exact Or.inr rfl | omega) ⟨by rw [if_neg (by omega)], rfl⟩ dX8_isSlot_23
      · refine lv_iconst (v := iI 1) C.1 C.2.1 dX8_isSlot_18 (by decide) ?_
        refine lv_goto (tgt := 23) C.1 C.2.1 dX8_isSlot_19 (by decide) ?_
        exact x_zret C hr hM (by first | exact Or.inl rfl | exact Or.inr rfl | omega) ⟨by rw [if_pos (by omega)], rfl⟩ dX8_isSlot_23
set_option maxRecDepth 100000 in
set_option maxHeartbeats 4000000 in
theorem c_X8_wipe (l : Launch) (D : va_G) (ad : Nat → Nat) (G : Nat → Nat) (ids : List Nat) (hI : ∀ k, k < 81 → k ∈ ids) (σ : Sg)   : MET l yX8_wipe cX8_wipe 2 none 1 [.ref (ad 4)] D ad G ids σ (QV D ad G ids (fun σ' => upr σ 11 (wpF (σ 11) 64) = σ')) := by
  refine x_enter (by decide) (Nat.le_of_ble_eq_true rfl) ?_
  intro pp ee ss mm args below meth cq C hr ls hl hM
  have hl : lv_has ls 2 [(0, .ref (ad 4))] := hl
  refine lv_iconst (v := iI 0) C.1 C.2.1 dX8_wipe_0 (by decide) ?_
  refine lv_istore_n (lv' := [(1, .int (iI 0)), (0, .ref (ad 4))]) C.1 C.2.1 dX8_wipe_1 rfl hl (by decide) rfl (fun ls hl => ?_)
  have L2 : ∀ (fu : Nat) (i : Int) (s1 : Sg) (H1 : Heap) (lc1 : List Loc) (ls1 : Array Slot), (0 ≤ i ∧ i ≤ 64) → (s1 = upr σ 11 (wpF (σ 11) i)) → (70 - i).toNat < fu → XI D ad G ids (AN ad ids ss.heap.size) ss.heap H1 lc1 s1 → lv_has ls1 2 [(1, .int (iI i)), (0, .ref (ad 4))] → W pp l ee (rmh 1) ss mm args below meth cq H1 lc1 0 0 (MQ below (QV D ad G ids (fun σ' => upr σ 11 (wpF (σ 11) 64) = σ') ss.heap.size) args ss 0 0 (AN ad ids ss.heap.size)) (F0 mm 2 ls1 []) := by
    intro fu
    induction fu with
    | zero => intro i s1 H1 lc1 ls1 i0 hs hfu; exact absurd hfu (Nat.not_lt_zero _)
    | succ fu ih2 =>
      intro i s1 H1 lc1 ls1 i0 hs hfu hM hl
      refine lv_iload_n C.1 C.2.1 dX8_wipe_2 rfl (lv_at hl 0 rfl) ?_
      refine lv_aload_n C.1 C.2.1 dX8_wipe_3 rfl (lv_at hl 1 rfl) ?_
      refine g_X8_1 C hM (hI 4 (by decide)) wf_X8_15 dX8_wipe_4 ?_
      refine ln_6 C hM (hI 6 (by decide)) dX8_wipe_7 ?_
      refine x_icmp_ge C ⟨by omega, by omega⟩ ⟨by omega, by omega⟩ (tgt := 24) dX8_wipe_8 (by decide) (fun c8 => ?_) (fun c8 => ?_)
      · exact x_vret C hr hM (by rw [hs, show i = 64 by omega]) dX8_wipe_24
      · refine lv_aload_n C.1 C.2.1 dX8_wipe_11 rfl (lv_at hl 1 rfl) ?_
        refine g_X8_1 C hM (hI 4 (by decide)) wf_X8_15 dX8_wipe_12 ?_
        refine lv_iload_n C.1 C.2.1 dX8_wipe_15 rfl (lv_at hl 0 rfl) ?_
        refine lv_iconst (v := iI 0) C.1 C.2.1 dX8_wipe_16 (by decide) ?_
        refine as_6 C hM (hI 6 (by decide)) (by omega) (by omega) dX8_wipe_17 (fun H1 lc1 hM => ?_)
        refine x_iinc (lv1 := [(1, .int (iI (i + 1))), (0, .ref (ad 4))]) C dX8_wipe_18 hl (k := 0) rfl (by decide) rfl (fun ls hl => ?_)
        refine lv_goto (tgt := 2) C.1 C.2.1 dX8_wipe_21 (by decide) ?_
        exact ih2 (i + 1) (upr s1 11 (ups (s1 11) i 0)) _ _ _ (by omega) (by rw [hs, upr_eq, wpF_s _ i0.1, upr_upr]) (by omega) hM (lv_sub hl [0, 1] rfl)
  exact L2 _ 0 σ _ _ _ (by omega) (by rw [wpF_0, upr_self]) (Nat.lt_succ_self _) hM (lv_sub hl [0, 1] rfl)
set_option maxRecDepth 100000 in
set_option maxHeartbeats 4000000 in
theorem c_X8_resize (l : Launch) (D : va_G) (ad : Nat → Nat) (G : Nat → Nat) (ids : List Nat) (hI : ∀ k, k < 81 → k ∈ ids) (σ : Sg) (n : Int)  : MET l yX8_resize cX8_resize 2 none 2 [.ref (ad 4), .int (iI n)] D ad G ids σ (QV D ad G ids (fun σ' => upr (upr σ 9 (ups (σ 9) 0 n)) 11 (wpF (σ 11) 64) = σ')) := by
  refine x_enter (by decide) (Nat.le_of_ble_eq_true rfl) ?_
  intro pp ee ss mm args below meth cq C hr ls hl hM
  have hl : lv_has ls 2 [(0, .ref (ad 4)), (1, .int (iI n))] := hl
  refine lv_aload_n C.1 C.2.1 dX8_resize_0 rfl (lv_at hl 0 rfl) ?_
  refine lv_iload_n C.1 C.2.1 dX8_resize_1 rfl (lv_at hl 1 rfl) ?_
  refine p_X8_5 C hM (hI 4 (by decide)) wf_X8_28 dX8_resize_2 (fun H1 lc1 hM => ?_)
  refine lv_aload_n C.1 C.2.1 dX8_resize_5 rfl (lv_at hl 0 rfl) ?_
  refine x_cv (x_runV (As := []) (rest := []) C (by omega) cw_X8_32 (c_X8_wipe l D ad G ids hI (upr σ 9 (ups (σ 9) 0 n))) hM (hI 4 (by decide)) (cx_4 ad G _) rfl rfl rfl rfl (Nat.le_of_ble_eq_true rfl) hl.1 dX8_resize_6) hM (fun s6 H1 lc1 hp hM => ?_)
  obtain rfl := hp
  exact x_vret C hr hM rfl dX8_resize_9
set_option maxRecDepth 100000 in
set_option maxHeartbeats 4000000 in
theorem c_X8_countEntries (l : Launch) (D : va_G) (ad : Nat → Nat) (G : Nat → Nat) (ids : List Nat) (hI : ∀ k, k < 81 → k ∈ ids) (σ : Sg)  (hTI : TI σ) : MET l yX8_countEntries cX8_countEntries 3 (some .int) 1 [.ref (ad 4)] D ad G ids σ (QI D ad G ids (fun z σ' => cntE (σ 11) 64 = z ∧ σ = σ')) := by
  refine x_enter (by decide) (Nat.le_of_ble_eq_true rfl) ?_
  intro pp ee ss mm args below meth cq C hr ls hl hM
  have hl : lv_has ls 3 [(0, .ref (ad 4))] := hl
  refine lv_iconst (v := iI 0) C.1 C.2.1 dX8_countEntries_0 (by decide) ?_
  refine lv_istore_n (lv' := [(1, .int (iI 0)), (0, .ref (ad 4))]) C.1 C.2.1 dX8_countEntries_1 rfl hl (by decide) rfl (fun ls hl => ?_)
  refine lv_iconst (v := iI 0) C.1 C.2.1 dX8_countEntries_2 (by decide) ?_
  refine lv_istore_n (lv' := [(2, .int (iI 0)), (1, .int (iI 0)), (0, .ref (ad 4))]) C.1 C.2.1 dX8_countEntries_3 rfl hl (by decide) rfl (fun ls hl => ?_)
  have L4 : ∀ (fu : Nat) (i : Int) (n : Int) (H1 : Heap) (lc1 : List Loc) (ls1 : Array Slot), (0 ≤ i ∧ i ≤ 64) → (n = cntE (σ 11) i.toNat) → (70 - i).toNat < fu → XI D ad G ids (AN ad ids ss.heap.size) ss.heap H1 lc1 σ → lv_has ls1 3 [(2, .int (iI i)), (1, .int (iI n)), (0, .ref (ad 4))] → W pp l ee (rmh 1) ss mm args below meth cq H1 lc1 0 0 (MQ below (QI D ad G ids (fun z σ' => cntE (σ 11) 64 = z ∧ σ = σ') ss.heap.size) args ss 0 0 (AN ad ids ss.heap.size)) (F0 mm 4 ls1 []) := by
    intro fu
    induction fu with
    | zero => intro i n  H1 lc1 ls1 i0 hn hfu; exact absurd hfu (Nat.not_lt_zero _)
    | succ fu ih4 =>
      intro i n  H1 lc1 ls1 i0 hn hfu hM hl
      refine lv_iload_n C.1 C.2.1 dX8_countEntries_4 rfl (lv_at hl 0 rfl) ?_
      refine lv_aload_n C.1 C.2.1 dX8_countEntries_5 rfl (lv_at hl 2 rfl) ?_
      refine g_X8_1 C hM (hI 4 (by decide)) wf_X8_15 dX8_countEntries_6 ?_
      refine ln_6 C hM (hI 6 (by decide)) dX8_countEntries_9 ?_
      refine x_icmp_ge C ⟨by omega, by omega⟩ ⟨by omega, by omega⟩ (tgt := 31) dX8_countEntries_10 (by decide) (fun c10 => ?_) (fun c10 => ?_)
      · refine lv_iload_n C.1 C.2.1 dX8_countEntries_31 rfl (lv_at hl 1 rfl) ?_
        exact x_iret C hr hM ⟨by rw [hn, show i.toNat = 64 by omega], rfl⟩ dX8_countEntries_32
      · refine lv_aload_n C.1 C.2.1 dX8_countEntries_13 rfl (lv_at hl 2 rfl) ?_
        refine g_X8_1 C hM (hI 4 (by decide)) wf_X8_15 dX8_countEntries_14 ?_
        refine lv_iload_n C.1 C.2.1 dX8_countEntries_17 rfl (lv_at hl 0 rfl) ?_
        have hq := (hTI.2.1 i).1
        refine al_6 C hM (hI 6 (by decide)) (by omega) (by omega) dX8_countEntries_18 ?_
        refine x_if_le C ⟨by omega, by omega⟩ (tgt := 25) dX8_countEntries_19 (by decide) (fun c19 => ?_) (fun c19 => ?_)
        · refine x_iinc (lv1 := [(2, .int (iI (i + 1))), (1, .int (iI n)), (0, .ref (ad 4))]) C dX8_countEntries_25 hl (k := 0) rfl (by decide) rfl (fun ls hl => ?_)
          refine lv_goto (tgt := 4) C.1 C.2.1 dX8_countEntries_28 (by decide) ?_
          exact ih4 (i + 1) n _ _ _ (by omega) (by rw [cntE_s _ i0.1]; split <;> omega) (by omega) hM (lv_sub hl [0, 1, 2] rfl)
        · refine x_iinc (lv1 := [(1, .int (iI (n + 1))), (2, .int (iI i)), (0, .ref (ad 4))]) C dX8_countEntries_22 hl (k := 1) rfl (by decide) rfl (fun ls hl => ?_)
          refine x_iinc (lv1 := [(2, .int (iI (i + 1))), (1, .int (iI (n + 1))), (0, .ref (ad 4))]) C dX8_countEntries_25 hl (k := 1) rfl (by decide) rfl (fun ls hl => ?_)
          refine lv_goto (tgt := 4) C.1 C.2.1 dX8_countEntries_28 (by decide) ?_
          exact ih4 (i + 1) (n + 1) _ _ _ (by omega) (by rw [cntE_s _ i0.1]; split <;> omega) (by omega) hM (lv_sub hl [0, 1, 2] rfl)
  exact L4 _ 0 0 _ _ _ (by omega) rfl (Nat.lt_succ_self _) hM (lv_sub hl [0, 1, 2] rfl)
set_option maxRecDepth 100000 in
set_option maxHeartbeats 4000000 in
theorem c_X8_store (l : Launch) (D : va_G) (ad : Nat → Nat) (G : Nat → Nat) (ids : List Nat) (hI : ∀ k, k < 81 → k ∈ ids) (σ : Sg) (key d b k v : Int) (hTI : TI σ) (hkey : 0 ≤ key ∧ key < 4000000000000000000) : MET l yX8_store cX8_store 8 none 2 [.ref (ad 4), .long (jI key), .int (iI d), .int (iI b), .int (iI k), .int (iI v)] D ad G ids σ (QV D ad G ids (fun σ' => stoT σ key d b k v = σ')) := by
  have h9 := hTI.1
  refine x_enter (by decide) (Nat.le_of_ble_eq_true rfl) ?_
  intro pp ee ss mm args below meth cq C hr ls hl hM
  have hl : lv_has ls 8 [(0, .ref (ad 4)), (1, .long (jI key)), (3, .int (iI d)), (4, .int (iI b)), (5, .int (iI k)), (6, .int (iI v))] := hl
  refine lv_aload_n C.1 C.2.1 dX8_store_0 rfl (lv_at hl 0 rfl) ?_
  refine lv_lload_n C.1 C.2.1 dX8_store_1 rfl (lv_at hl 1 rfl) ?_
  refine x_ci (x_runV (As := [.long (jI key)]) (rest := []) C (by omega) cw_X8_35 (c_X8_slotOf l D ad G ids hI σ key hTI hkey) hM (hI 4 (by decide)) (cx_4 ad G _) rfl rfl rfl rfl (Nat.le_of_ble_eq_true rfl) hl.1 dX8_store_2) hM (fun r2 s2 H1 lc1 hp hM => ?_)
  obtain ⟨hbs2, rfl⟩ := hp
  have hcs := slotT_cs hTI hbs2
  refine lv_istore (lv' := [(7, .int (iI r2)), (0, .ref (ad 4)), (1, .long (jI key)), (3, .int (iI d)), (4, .int (iI b)), (5, .int (iI k)), (6, .int (iI v))]) C.1 C.2.1 dX8_store_5 hl (by decide) rfl (fun ls hl => ?_)
  refine lv_aload_n C.1 C.2.1 dX8_store_7 rfl (lv_at hl 1 rfl) ?_
  refine lv_iload C.1 C.2.1 dX8_store_8 (lv_at hl 0 rfl) ?_
  refine x_ci (x_runV (As := [.int (iI r2)]) (rest := []) C (by omega) cw_X8_47 (c_X8_isSlot l D ad G ids hI σ r2 hTI ⟨by omega, by omega⟩) hM (hI 4 (by decide)) (cx_4 ad G _) rfl rfl rfl rfl (Nat.le_of_ble_eq_true rfl) hl.1 dX8_store_10) hM (fun r10 s10 H1 lc1 hp hM => ?_)
  obtain ⟨hbs10, rfl⟩ := hp
  obtain ⟨ts10, ks10⟩ := ite01 hbs10
  refine x_if_eq C ⟨by omega, by omega⟩ (tgt := 109) dX8_store_13 (by decide) (fun c13 => ?_) (fun c13 => ?_)
  · exact x_vret C hr hM (stoT_no (fun q => by have := ks10.mpr (by omega); omega)) dX8_store_109
  · refine lv_iload C.1 C.2.1 dX8_store_16 (lv_at hl 0 rfl) ?_
    refine lv_aload_n C.1 C.2.1 dX8_store_18 rfl (lv_at hl 1 rfl) ?_
    refine g_X8_0 C hM (hI 4 (by decide)) wf_X8_9 dX8_store_19 ?_
    refine ln_5 C hM (hI 5 (by decide)) dX8_store_22 ?_
    refine x_icmp_ge C ⟨by omega, by omega⟩ ⟨by omega, by omega⟩ (tgt := 109) dX8_store_23 (by decide) (fun c23 => ?_) (fun c23 => ?_)
    · exfalso; omega
    · refine lv_iload C.1 C.2.1 dX8_store_26 (lv_at hl 0 rfl) ?_
      refine lv_aload_n C.1 C.2.1 dX8_store_28 rfl (lv_at hl 1 rfl) ?_
      refine g_X8_1 C hM (hI 4 (by decide)) wf_X8_15 dX8_store_29 ?_
      refine ln_6 C hM (hI 6 (by decide)) dX8_store_32 ?_
      refine x_icmp_ge C ⟨by omega, by omega⟩ ⟨by omega, by omega⟩ (tgt := 109) dX8_store_33 (by decide) (fun c33 => ?_) (fun c33 => ?_)
      · exfalso; omega
      · refine lv_iload C.1 C.2.1 dX8_store_36 (lv_at hl 0 rfl) ?_
        refine lv_aload_n C.1 C.2.1 dX8_store_38 rfl (lv_at hl 1 rfl) ?_
        refine g_X8_2 C hM (hI 4 (by decide)) wf_X8_19 dX8_store_39 ?_
        refine ln_7 C hM (hI 7 (by decide)) dX8_store_42 ?_
        refine x_icmp_ge C ⟨by omega, by omega⟩ ⟨by omega, by omega⟩ (tgt := 109) dX8_store_43 (by decide) (fun c43 => ?_) (fun c43 => ?_)
        · exfalso; omega
        · refine lv_iload C.1 C.2.1 dX8_store_46 (lv_at hl 0 rfl) ?_
          refine lv_aload_n C.1 C.2.1 dX8_store_48 rfl (lv_at hl 1 rfl) ?_
          refine g_X8_3 C hM (hI 4 (by decide)) wf_X8_22 dX8_store_49 ?_
          refine ln_8 C hM (hI 8 (by decide)) dX8_store_52 ?_
          refine x_icmp_ge C ⟨by omega, by omega⟩ ⟨by omega, by omega⟩ (tgt := 109) dX8_store_53 (by decide) (fun c53 => ?_) (fun c53 => ?_)
          · exfalso; omega
          · refine lv_iload C.1 C.2.1 dX8_store_56 (lv_at hl 0 rfl) ?_
            refine lv_aload_n C.1 C.2.1 dX8_store_58 rfl (lv_at hl 1 rfl) ?_
            refine g_X8_4 C hM (hI 4 (by decide)) wf_X8_25 dX8_store_59 ?_
            refine ln_9 C hM (hI 9 (by decide)) dX8_store_62 ?_
            refine x_icmp_ge C ⟨by omega, by omega⟩ ⟨by omega, by omega⟩ (tgt := 109) dX8_store_63 (by decide) (fun c63 => ?_) (fun c63 => ?_)
            · exfalso; omega
            · refine lv_aload_n C.1 C.2.1 dX8_store_66 rfl (lv_at hl 1 rfl) ?_
              refine g_X8_0 C hM (hI 4 (by decide)) wf_X8_9 dX8_store_67 ?_
              refine lv_iload C.1 C.2.1 dX8_store_70 (lv_at hl 0 rfl) ?_
              refine lv_lload_n C.1 C.2.1 dX8_store_72 rfl (lv_at hl 2 rfl) ?_
              refine as_5 C hM (hI 5 (by decide)) (by omega) (by omega) dX8_store_73 (fun H1 lc1 hM => ?_)
              refine lv_aload_n C.1 C.2.1 dX8_store_74 rfl (lv_at hl 1 rfl) ?_
              refine g_X8_1 C hM (hI 4 (by decide)) wf_X8_15 dX8_store_75 ?_
              refine lv_iload C.1 C.2.1 dX8_store_78 (lv_at hl 0 rfl) ?_
              refine lv_iload_n C.1 C.2.1 dX8_store_80 rfl (lv_at hl 3 rfl) ?_
              refine as_6 C hM (hI 6 (by decide)) (by omega) (by omega) dX8_store_81 (fun H1 lc1 hM => ?_)
              refine lv_aload_n C.1 C.2.1 dX8_store_82 rfl (lv_at hl 1 rfl) ?_
              refine g_X8_2 C hM (hI 4 (by decide)) wf_X8_19 dX8_store_83 ?_
              refine lv_iload C.1 C.2.1 dX8_store_86 (lv_at hl 0 rfl) ?_
              refine lv_iload C.1 C.2.1 dX8_store_88 (lv_at hl 4 rfl) ?_
              refine as_7 C hM (hI 7 (by decide)) (by omega) (by omega) dX8_store_90 (fun H1 lc1 hM => ?_)
              refine lv_aload_n C.1 C.2.1 dX8_store_91 rfl (lv_at hl 1 rfl) ?_
              refine g_X8_3 C hM (hI 4 (by decide)) wf_X8_22 dX8_store_92 ?_
              refine lv_iload C.1 C.2.1 dX8_store_95 (lv_at hl 0 rfl) ?_
              refine lv_iload C.1 C.2.1 dX8_store_97 (lv_at hl 5 rfl) ?_
              refine as_8 C hM (hI 8 (by decide)) (by omega) (by omega) dX8_store_99 (fun H1 lc1 hM => ?_)
              refine lv_aload_n C.1 C.2.1 dX8_store_100 rfl (lv_at hl 1 rfl) ?_
              refine g_X8_4 C hM (hI 4 (by decide)) wf_X8_25 dX8_store_101 ?_
              refine lv_iload C.1 C.2.1 dX8_store_104 (lv_at hl 0 rfl) ?_
              refine lv_iload C.1 C.2.1 dX8_store_106 (lv_at hl 6 rfl) ?_
              refine as_9 C hM (hI 9 (by decide)) (by omega) (by omega) dX8_store_108 (fun H1 lc1 hM => ?_)
              refine x_vret C hr hM ?_ dX8_store_109
              unfold stoT; rw [if_pos (by omega), show key % σ 9 0 = r2 by omega]; rfl
set_option maxRecDepth 100000 in
set_option maxHeartbeats 4000000 in
theorem c_X8_isAnswer (l : Launch) (D : va_G) (ad : Nat → Nat) (G : Nat → Nat) (ids : List Nat) (hI : ∀ k, k < 81 → k ∈ ids) (σ : Sg) (s d lo up : Int) (hTI : TI σ) (hs : -1 ≤ s ∧ s < 64) (hd : 1 ≤ d ∧ d ≤ 4) (hlo : -10000 ≤ lo ∧ lo ≤ 10000) (hup : -10000 ≤ up ∧ up ≤ 10000) : MET l yX8_isAnswer cX8_isAnswer 7 (some .boolean) 2 [.ref (ad 4), .int (iI s), .int (iI d), .int (iI lo), .int (iI up)] D ad G ids σ (QI D ad G ids (fun z σ' => bI (ansB σ s d lo up) = z ∧ σ = σ')) := by
  refine x_enter (by decide) (Nat.le_of_ble_eq_true rfl) ?_
  intro pp ee ss mm args below meth cq C hr ls hl hM
  have hl : lv_has ls 7 [(0, .ref (ad 4)), (1, .int (iI s)), (2, .int (iI d)), (3, .int (iI lo)), (4, .int (iI up))] := hl
  refine lv_aload_n C.1 C.2.1 dX8_isAnswer_0 rfl (lv_at hl 0 rfl) ?_
  refine lv_iload_n C.1 C.2.1 dX8_isAnswer_1 rfl (lv_at hl 1 rfl) ?_
  refine x_ci (x_runV (As := [.int (iI s)]) (rest := []) C (by omega) cw_X8_39 (c_X8_depthAt l D ad G ids hI σ s hTI ⟨by omega, by omega⟩) hM (hI 4 (by decide)) (cx_4 ad G _) rfl rfl rfl rfl (Nat.le_of_ble_eq_true rfl) hl.1 dX8_isAnswer_2) hM (fun r2 s2 H1 lc1 hp hM => ?_)
  obtain ⟨hbs2, rfl⟩ := hp
  have q1 := (hTI.2.1 s).1
  have h2a : 0 ≤ r2 ∧ r2 ≤ 4 := by split at hbs2 <;> omega
  refine lv_iload_n C.1 C.2.1 dX8_isAnswer_5 rfl (lv_at hl 2 rfl) ?_
  refine x_icmp_eq C ⟨by omega, by omega⟩ ⟨by omega, by omega⟩ (tgt := 11) dX8_isAnswer_6 (by decide) (fun c6 => ?_) (fun c6 => ?_)
  · have h0s : 0 ≤ s := by split at hbs2 <;> omega
    rw [if_pos (by omega)] at hbs2
    refine lv_aload_n C.1 C.2.1 dX8_isAnswer_11 rfl (lv_at hl 0 rfl) ?_
    refine lv_iload_n C.1 C.2.1 dX8_isAnswer_12 rfl (lv_at hl 1 rfl) ?_
    refine x_ci (x_runV (As := [.int (iI s)]) (rest := []) C (by omega) cw_X8_51 (c_X8_kindAt l D ad G ids hI σ s hTI ⟨by omega, by omega⟩) hM (hI 4 (by decide)) (cx_4 ad G _) rfl rfl rfl rfl (Nat.le_of_ble_eq_true rfl) hl.1 dX8_isAnswer_13) hM (fun r13 s13 H1 lc1 hp hM => ?_)
    obtain ⟨hbs13, rfl⟩ := hp
    rw [if_pos (by omega)] at hbs13
    have q3 := (hTI.2.1 s).2.2.1
    refine lv_istore (lv' := [(5, .int (iI r13)), (0, .ref (ad 4)), (1, .int (iI s)), (2, .int (iI d)), (3, .int (iI lo)), (4, .int (iI up))]) C.1 C.2.1 dX8_isAnswer_16 hl (by decide) rfl (fun ls hl => ?_)
    refine lv_aload_n C.1 C.2.1 dX8_isAnswer_18 rfl (lv_at hl 1 rfl) ?_
    refine lv_iload_n C.1 C.2.1 dX8_isAnswer_19 rfl (lv_at hl 2 rfl) ?_
    refine x_ci (x_runV (As := [.int (iI s)]) (rest := []) C (by omega) cw_X8_54 (c_X8_numberAt l D ad G ids hI σ s hTI ⟨by omega, by omega⟩) hM (hI 4 (by decide)) (cx_4 ad G _) rfl rfl rfl rfl (Nat.le_of_ble_eq_true rfl) hl.1 dX8_isAnswer_20) hM (fun r20 s20 H1 lc1 hp hM => ?_)
    obtain ⟨hbs20, rfl⟩ := hp
    rw [if_pos (by omega)] at hbs20
    have q2 := (hTI.2.1 s).2.1
    refine lv_istore (lv' := [(6, .int (iI r20)), (5, .int (iI r13)), (0, .ref (ad 4)), (1, .int (iI s)), (2, .int (iI d)), (3, .int (iI lo)), (4, .int (iI up))]) C.1 C.2.1 dX8_isAnswer_23 hl (by decide) rfl (fun ls hl => ?_)
    refine lv_iload C.1 C.2.1 dX8_isAnswer_25 (lv_at hl 1 rfl) ?_
    refine x_if_eq C ⟨by omega, by omega⟩ (tgt := 55) dX8_isAnswer_27 (by decide) (fun c27 => ?_) (fun c27 => ?_)
    · refine lv_iconst (v := iI 1) C.1 C.2.1 dX8_isAnswer_55 (by decide) ?_
      refine lv_goto (tgt := 60) C.1 C.2.1 dX8_isAnswer_56 (by decide) ?_
      exact x_zret C hr hM (by first | exact Or.inl rfl | exact Or.inr rfl | omega) ⟨ans_t (by omega), rfl⟩ dX8_isAnswer_60
    · refine lv_iload C.1 C.2.1 dX8_isAnswer_30 (lv_at hl 1 rfl) ?_
      refine lv_iconst (v := iI 1) C.1 C.2.1 dX8_isAnswer_32 (by decide) ?_
      refine x_icmp_ne C ⟨by omega, by omega⟩ ⟨by omega, by omega⟩ (tgt := 43) dX8_isAnswer_33 (by decide) (fun c33 => ?_) (fun c33 => ?_)
      · refine lv_iload C.1 C.2.1 dX8_isAnswer_43 (lv_at hl 1 rfl) ?_
        refine lv_iconst (v := iI 2) C.1 C.2.1 dX8_isAnswer_45 (by decide) ?_
        refine x_icmp_ne C ⟨by omega, by omega⟩ ⟨by omega, by omega⟩ (tgt := 59) dX8_isAnswer_46 (by decide) (fun c46 => ?_) (fun c46 => ?_)
        · refine lv_iconst (v := iI 0) C.1 C.2.1 dX8_isAnswer_59 (by decide) ?_
          exact x_zret C hr hM (by first | exact Or.inl rfl | exact Or.inr rfl | omega) ⟨ans_f (by omega), rfl⟩ dX8_isAnswer_60
        · refine lv_iload C.1 C.2.1 dX8_isAnswer_49 (lv_at hl 0 rfl) ?_
          refine lv_iload_n C.1 C.2.1 dX8_isAnswer_51 rfl (lv_at hl 5 rfl) ?_
          refine x_icmp_gt C ⟨by omega, by omega⟩ ⟨by omega, by omega⟩ (tgt := 59) dX8_isAnswer_52 (by decide) (fun c52 => ?_) (fun c52 => ?_)
          · refine lv_iconst (v := iI 0) C.1 C.2.1 dX8_isAnswer_59 (by decide) ?_
            exact x_zret C hr hM (by first | exact Or.inl rfl | exact Or.inr rfl | omega) ⟨ans_f (by omega), rfl⟩ dX8_isAnswer_60
          · refine lv_iconst (v := iI 1) C.1 C.2.1 dX8_isAnswer_55 (by decide) ?_
            refine lv_goto (tgt := 60) C.1 C.2.1 dX8_isAnswer_56 (by decide) ?_
            exact x_zret C hr hM (by first | exact Or.inl rfl | exact Or.inr rfl | omega) ⟨ans_t (by omega), rfl⟩ dX8_isAnswer_60
      · refine lv_iload C.1 C.2.1 dX8_isAnswer_36 (lv_at hl 0 rfl) ?_
        refine lv_iload C.1 C.2.1 dX8_isAnswer_38 (lv_at hl 6 rfl) ?_
        refine x_icmp_ge C ⟨by omega, by omega⟩ ⟨by omega, by omega⟩ (tgt := 55) dX8_isAnswer_40 (by decide) (fun c40 => ?_) (fun c40 => ?_)
        · refine lv_iconst (v := iI 1) C.1 C.2.1 dX8_isAnswer_55 (by decide) ?_
          refine lv_goto (tgt := 60) C.1 C.2.1 dX8_isAnswer_56 (by decide) ?_
          exact x_zret C hr hM (by first | exact Or.inl rfl | exact Or.inr rfl | omega) ⟨ans_t (by omega), rfl⟩ dX8_isAnswer_60
        · refine lv_iload C.1 C.2.1 dX8_isAnswer_43 (lv_at hl 1 rfl) ?_
          refine lv_iconst (v := iI 2) C.1 C.2.1 dX8_isAnswer_45 (by decide) ?_
          refine x_icmp_ne C ⟨by omega, by omega⟩ ⟨by omega, by omega⟩ (tgt := 59) dX8_isAnswer_46 (by decide) (fun c46 => ?_) (fun c46 => ?_)
          · refine lv_iconst (v := iI 0) C.1 C.2.1 dX8_isAnswer_59 (by decide) ?_
            exact x_zret C hr hM (by first | exact Or.inl rfl | exact Or.inr rfl | omega) ⟨ans_f (by omega), rfl⟩ dX8_isAnswer_60
          · refine lv_iload C.1 C.2.1 dX8_isAnswer_49 (lv_at hl 0 rfl) ?_
            refine lv_iload_n C.1 C.2.1 dX8_isAnswer_51 rfl (lv_at hl 5 rfl) ?_
            refine x_icmp_gt C ⟨by omega, by omega⟩ ⟨by omega, by omega⟩ (tgt := 59) dX8_isAnswer_52 (by decide) (fun c52 => ?_) (fun c52 => ?_)
            · refine lv_iconst (v := iI 0) C.1 C.2.1 dX8_isAnswer_59 (by decide) ?_
              exact x_zret C hr hM (by first | exact Or.inl rfl | exact Or.inr rfl | omega) ⟨ans_f (by omega), rfl⟩ dX8_isAnswer_60
            · refine lv_iconst (v := iI 1) C.1 C.2.1 dX8_isAnswer_55 (by decide) ?_
              refine lv_goto (tgt := 60) C.1 C.2.1 dX8_isAnswer_56 (by decide) ?_
              exact x_zret C hr hM (by first | exact Or.inl rfl | exact Or.inr rfl | omega) ⟨ans_t (by omega), rfl⟩ dX8_isAnswer_60
  · refine lv_iconst (v := iI 0) C.1 C.2.1 dX8_isAnswer_9 (by decide) ?_
    exact x_zret C hr hM (by first | exact Or.inl rfl | exact Or.inr rfl | omega) ⟨ans_f (fun q => by rw [if_pos (by omega)] at hbs2; omega), rfl⟩ dX8_isAnswer_10
set_option maxRecDepth 100000 in
set_option maxHeartbeats 4000000 in
theorem c_X8_tell (l : Launch) (D : va_G) (ad : Nat → Nat) (G : Nat → Nat) (ids : List Nat) (hI : ∀ k, k < 81 → k ∈ ids) (σ : Sg) (s k : Int) (hTI : TI σ) (hs : 0 ≤ s ∧ s < 64) (hk : 0 ≤ k ∧ k ≤ 3) : MET l yX8_tell cX8_tell 3 (some .int) 2 [.ref (ad 4), .int (iI s), .int (iI k)] D ad G ids σ (QI D ad G ids (fun z σ' => tellF σ s k = z ∧ σ = σ')) := by
  refine x_enter (by decide) (Nat.le_of_ble_eq_true rfl) ?_
  intro pp ee ss mm args below meth cq C hr ls hl hM
  have hl : lv_has ls 3 [(0, .ref (ad 4)), (1, .int (iI s)), (2, .int (iI k))] := hl
  refine lv_aload_n C.1 C.2.1 dX8_tell_0 rfl (lv_at hl 0 rfl) ?_
  refine lv_iload_n C.1 C.2.1 dX8_tell_1 rfl (lv_at hl 1 rfl) ?_
  refine x_ci (x_runV (As := [.int (iI s)]) (rest := []) C (by omega) cw_X8_39 (c_X8_depthAt l D ad G ids hI σ s hTI ⟨by omega, by omega⟩) hM (hI 4 (by decide)) (cx_4 ad G _) rfl rfl rfl rfl (Nat.le_of_ble_eq_true rfl) hl.1 dX8_tell_2) hM (fun r2 s2 H1 lc1 hp hM => ?_)
  obtain ⟨hbs2, rfl⟩ := hp
  rw [if_pos (by omega)] at hbs2
  have q1 := (hTI.2.1 s).1
  refine x_if_ne C ⟨by omega, by omega⟩ (tgt := 10) dX8_tell_5 (by decide) (fun c5 => ?_) (fun c5 => ?_)
  · refine lv_iload_n C.1 C.2.1 dX8_tell_10 rfl (lv_at hl 2 rfl) ?_
    by_cases w11_0 : k = 0
    · refine lv_tableIn (off := 25) (tgt := 36) C.1 C.2.1 dX8_tell_11 (by rw [iI_toInt ⟨by omega, by omega⟩]; omega) (by rw [iI_toInt ⟨by omega, by omega⟩]; omega) (by rw [iI_toInt ⟨by omega, by omega⟩, w11_0]; rfl) (by decide) ?_
      refine lv_aload_n C.1 C.2.1 dX8_tell_36 rfl (lv_at hl 0 rfl) ?_
      refine lv_iload_n C.1 C.2.1 dX8_tell_37 rfl (lv_at hl 1 rfl) ?_
      refine x_ci (x_runV (As := [.int (iI s)]) (rest := []) C (by omega) cw_X8_39 (c_X8_depthAt l D ad G ids hI σ s hTI ⟨by omega, by omega⟩) hM (hI 4 (by decide)) (cx_4 ad G _) rfl rfl rfl rfl (Nat.le_of_ble_eq_true rfl) hl.1 dX8_tell_38) hM (fun r38 s38 H1 lc1 hp hM => ?_)
      obtain ⟨hbs38, rfl⟩ := hp
      exact x_iret C hr hM ⟨by unfold tellF; rw [if_neg (by omega), if_pos w11_0]; rw [if_pos (by omega)] at hbs38; exact hbs38, rfl⟩ dX8_tell_41
    by_cases w11_1 : k = 1
    · refine lv_tableIn (off := 31) (tgt := 42) C.1 C.2.1 dX8_tell_11 (by rw [iI_toInt ⟨by omega, by omega⟩]; omega) (by rw [iI_toInt ⟨by omega, by omega⟩]; omega) (by rw [iI_toInt ⟨by omega, by omega⟩, w11_1]; rfl) (by decide) ?_
      refine lv_aload_n C.1 C.2.1 dX8_tell_42 rfl (lv_at hl 0 rfl) ?_
      refine lv_iload_n C.1 C.2.1 dX8_tell_43 rfl (lv_at hl 1 rfl) ?_
      refine x_ci (x_runV (As := [.int (iI s)]) (rest := []) C (by omega) cw_X8_54 (c_X8_numberAt l D ad G ids hI σ s hTI ⟨by omega, by omega⟩) hM (hI 4 (by decide)) (cx_4 ad G _) rfl rfl rfl rfl (Nat.le_of_ble_eq_true rfl) hl.1 dX8_tell_44) hM (fun r44 s44 H1 lc1 hp hM => ?_)
      obtain ⟨hbs44, rfl⟩ := hp
      exact x_iret C hr hM ⟨by unfold tellF; rw [if_neg (by omega), if_neg w11_0, if_pos w11_1]; rw [if_pos (by omega)] at hbs44; exact hbs44, rfl⟩ dX8_tell_47
    by_cases w11_2 : k = 2
    · refine lv_tableIn (off := 37) (tgt := 48) C.1 C.2.1 dX8_tell_11 (by rw [iI_toInt ⟨by omega, by omega⟩]; omega) (by rw [iI_toInt ⟨by omega, by omega⟩]; omega) (by rw [iI_toInt ⟨by omega, by omega⟩, w11_2]; rfl) (by decide) ?_
      refine lv_aload_n C.1 C.2.1 dX8_tell_48 rfl (lv_at hl 0 rfl) ?_
      refine lv_iload_n C.1 C.2.1 dX8_tell_49 rfl (lv_at hl 1 rfl) ?_
      refine x_ci (x_runV (As := [.int (iI s)]) (rest := []) C (by omega) cw_X8_51 (c_X8_kindAt l D ad G ids hI σ s hTI ⟨by omega, by omega⟩) hM (hI 4 (by decide)) (cx_4 ad G _) rfl rfl rfl rfl (Nat.le_of_ble_eq_true rfl) hl.1 dX8_tell_50) hM (fun r50 s50 H1 lc1 hp hM => ?_)
      obtain ⟨hbs50, rfl⟩ := hp
      exact x_iret C hr hM ⟨by unfold tellF; rw [if_neg (by omega), if_neg w11_0, if_neg w11_1, if_pos w11_2]; rw [if_pos (by omega)] at hbs50; exact hbs50, rfl⟩ dX8_tell_53
    refine lv_tableOut (tgt := 54) C.1 C.2.1 dX8_tell_11 (by rw [iI_toInt ⟨by omega, by omega⟩]; omega) (by decide) ?_
    refine lv_aload_n C.1 C.2.1 dX8_tell_54 rfl (lv_at hl 0 rfl) ?_
    refine lv_iload_n C.1 C.2.1 dX8_tell_55 rfl (lv_at hl 1 rfl) ?_
    refine x_ci (x_runV (As := [.int (iI s)]) (rest := []) C (by omega) cw_X8_57 (c_X8_moveAt l D ad G ids hI σ s hTI ⟨by omega, by omega⟩) hM (hI 4 (by decide)) (cx_4 ad G _) rfl rfl rfl rfl (Nat.le_of_ble_eq_true rfl) hl.1 dX8_tell_56) hM (fun r56 s56 H1 lc1 hp hM => ?_)
    obtain ⟨hbs56, rfl⟩ := hp
    exact x_iret C hr hM ⟨by unfold tellF; rw [if_neg (by omega), if_neg w11_0, if_neg w11_1, if_neg w11_2]; rw [if_pos (by omega)] at hbs56; exact hbs56, rfl⟩ dX8_tell_59
  · refine lv_iconst (v := iI (-1)) C.1 C.2.1 dX8_tell_8 (by decide) ?_
    exact x_iret C hr hM ⟨by unfold tellF; rw [if_pos (by omega)], rfl⟩ dX8_tell_9
set_option maxRecDepth 100000 in
set_option maxHeartbeats 4000000 in
theorem c_X3_clear (l : Launch) (D : va_G) (ad : Nat → Nat) (G : Nat → Nat) (ids : List Nat) (hk1 : 14 ∈ ids) (hk2 : 15 ∈ ids) (hk3 : 16 ∈ ids) (σ : Sg)   : MET l yX3_clear cX3_clear 2 none 1 [.ref (ad 14)] D ad G ids σ (QV D ad G ids (fun σ' => upr (upr σ 17 (fiF (σ 17) 5)) 18 (fiF (σ 18) 5) = σ')) := by
  refine x_enter (by decide) (Nat.le_of_ble_eq_true rfl) ?_
  intro pp ee ss mm args below meth cq C hr ls hl hM
  have hl : lv_has ls 2 [(0, .ref (ad 14))] := hl
  refine lv_iconst (v := iI 0) C.1 C.2.1 dX3_clear_0 (by decide) ?_
  refine lv_istore_n (lv' := [(1, .int (iI 0)), (0, .ref (ad 14))]) C.1 C.2.1 dX3_clear_1 rfl hl (by decide) rfl (fun ls hl => ?_)
  have L2 : ∀ (fu : Nat) (i : Int) (s1 : Sg) (H1 : Heap) (lc1 : List Loc) (ls1 : Array Slot), (0 ≤ i ∧ i ≤ 5) → (s1 = upr (upr σ 17 (fiF (σ 17) i)) 18 (fiF (σ 18) i)) → (10 - i).toNat < fu → XI D ad G ids (AN ad ids ss.heap.size) ss.heap H1 lc1 s1 → lv_has ls1 2 [(1, .int (iI i)), (0, .ref (ad 14))] → W pp l ee (rmh 1) ss mm args below meth cq H1 lc1 0 0 (MQ below (QV D ad G ids (fun σ' => upr (upr σ 17 (fiF (σ 17) 5)) 18 (fiF (σ 18) 5) = σ') ss.heap.size) args ss 0 0 (AN ad ids ss.heap.size)) (F0 mm 2 ls1 []) := by
    intro fu
    induction fu with
    | zero => intro i s1 H1 lc1 ls1 i0 hs hfu; exact absurd hfu (Nat.not_lt_zero _)
    | succ fu ih2 =>
      intro i s1 H1 lc1 ls1 i0 hs hfu hM hl
      refine lv_iload_n C.1 C.2.1 dX3_clear_2 rfl (lv_at hl 0 rfl) ?_
      refine lv_aload_n C.1 C.2.1 dX3_clear_3 rfl (lv_at hl 1 rfl) ?_
      refine g_X3_0 C hM hk1 wf_X3_9 dX3_clear_4 ?_
      refine ln_15 C hM hk2 dX3_clear_7 ?_
      refine x_icmp_ge C ⟨by omega, by omega⟩ ⟨by omega, by omega⟩ (tgt := 40) dX3_clear_8 (by decide) (fun c8 => ?_) (fun c8 => ?_)
      · exact x_vret C hr hM (by rw [hs, show i = 5 by omega]) dX3_clear_40
      · refine lv_iload_n C.1 C.2.1 dX3_clear_11 rfl (lv_at hl 0 rfl) ?_
        refine lv_aload_n C.1 C.2.1 dX3_clear_12 rfl (lv_at hl 1 rfl) ?_
        refine g_X3_1 C hM hk1 wf_X3_15 dX3_clear_13 ?_
        refine ln_16 C hM hk3 dX3_clear_16 ?_
        refine x_icmp_ge C ⟨by omega, by omega⟩ ⟨by omega, by omega⟩ (tgt := 40) dX3_clear_17 (by decide) (fun c17 => ?_) (fun c17 => ?_)
        · exfalso; omega
        · refine lv_aload_n C.1 C.2.1 dX3_clear_20 rfl (lv_at hl 1 rfl) ?_
          refine g_X3_0 C hM hk1 wf_X3_9 dX3_clear_21 ?_
          refine lv_iload_n C.1 C.2.1 dX3_clear_24 rfl (lv_at hl 0 rfl) ?_
          refine lv_iconst (v := iI (-1)) C.1 C.2.1 dX3_clear_25 (by decide) ?_
          refine as_15 C hM hk2 (by omega) (by omega) dX3_clear_26 (fun H1 lc1 hM => ?_)
          refine lv_aload_n C.1 C.2.1 dX3_clear_27 rfl (lv_at hl 1 rfl) ?_
          refine g_X3_1 C hM hk1 wf_X3_15 dX3_clear_28 ?_
          refine lv_iload_n C.1 C.2.1 dX3_clear_31 rfl (lv_at hl 0 rfl) ?_
          refine lv_iconst (v := iI (-1)) C.1 C.2.1 dX3_clear_32 (by decide) ?_
          refine as_16 C hM hk3 (by omega) (by omega) dX3_clear_33 (fun H1 lc1 hM => ?_)
          refine x_iinc (lv1 := [(1, .int (iI (i + 1))), (0, .ref (ad 14))]) C dX3_clear_34 hl (k := 0) rfl (by decide) rfl (fun ls hl => ?_)
          refine lv_goto (tgt := 2) C.1 C.2.1 dX3_clear_37 (by decide) ?_
          exact ih2 (i + 1) (upr (upr s1 17 (ups (s1 17) i (-1))) 18 (ups ((upr s1 17 (ups (s1 17) i (-1))) 18) i (-1))) _ _ _ (by omega) (by
            rw [← fiF_s (σ 17) i0.1, ← fiF_s (σ 18) i0.1, hs]
            funext q
            by_cases e : q = 18
            · subst e; rfl
            by_cases e2 : q = 17
            · subst e2; rfl
            rw [upr_ne _ _ e, upr_ne _ _ e2, upr_ne _ _ e, upr_ne _ _ e2, upr_ne _ _ e, upr_ne _ _ e2]) (by omega) hM (lv_sub hl [0, 1] rfl)
  exact L2 _ 0 σ _ _ _ (by omega) (by rw [fiF_0, fiF_0, upr_self, upr_self]) (Nat.lt_succ_self _) hM (lv_sub hl [0, 1] rfl)
set_option maxRecDepth 100000 in
set_option maxHeartbeats 4000000 in
theorem c_X3_newerOf (l : Launch) (D : va_G) (ad : Nat → Nat) (G : Nat → Nat) (ids : List Nat) (hI : ∀ k, k < 81 → k ∈ ids) (σ : Sg) (d : Int) (hd : IR d) : MET l yX3_newerOf cX3_newerOf 2 (some .int) 1 [.ref (ad 14), .int (iI d)] D ad G ids σ (QI D ad G ids (fun z σ' => (if 0 ≤ d ∧ d < 5 then σ 17 d else -1) = z ∧ σ = σ')) := by
  refine x_enter (by decide) (Nat.le_of_ble_eq_true rfl) ?_
  intro pp ee ss mm args below meth cq C hr ls hl hM
  have hl : lv_has ls 2 [(0, .ref (ad 14)), (1, .int (iI d))] := hl
  refine lv_iload_n C.1 C.2.1 dX3_newerOf_0 rfl (lv_at hl 1 rfl) ?_
  refine x_if_lt C ⟨by omega, by omega⟩ (tgt := 22) dX3_newerOf_1 (by decide) (fun c1 => ?_) (fun c1 => ?_)
  · refine lv_iconst (v := iI (-1)) C.1 C.2.1 dX3_newerOf_22 (by decide) ?_
    exact x_iret C hr hM ⟨by rw [if_neg (by omega)], rfl⟩ dX3_newerOf_23
  · refine lv_iload_n C.1 C.2.1 dX3_newerOf_4 rfl (lv_at hl 1 rfl) ?_
    refine lv_aload_n C.1 C.2.1 dX3_newerOf_5 rfl (lv_at hl 0 rfl) ?_
    refine g_X3_0 C hM (hI 14 (by decide)) wf_X3_9 dX3_newerOf_6 ?_
    refine ln_15 C hM (hI 15 (by decide)) dX3_newerOf_9 ?_
    refine x_icmp_ge C ⟨by omega, by omega⟩ ⟨by omega, by omega⟩ (tgt := 22) dX3_newerOf_10 (by decide) (fun c10 => ?_) (fun c10 => ?_)
    · refine lv_iconst (v := iI (-1)) C.1 C.2.1 dX3_newerOf_22 (by decide) ?_
      exact x_iret C hr hM ⟨by rw [if_neg (by omega)], rfl⟩ dX3_newerOf_23
    · refine lv_aload_n C.1 C.2.1 dX3_newerOf_13 rfl (lv_at hl 0 rfl) ?_
      refine g_X3_0 C hM (hI 14 (by decide)) wf_X3_9 dX3_newerOf_14 ?_
      refine lv_iload_n C.1 C.2.1 dX3_newerOf_17 rfl (lv_at hl 1 rfl) ?_
      refine al_15 C hM (hI 15 (by decide)) (by omega) (by omega) dX3_newerOf_18 ?_
      refine lv_goto (tgt := 23) C.1 C.2.1 dX3_newerOf_19 (by decide) ?_
      exact x_iret C hr hM ⟨by rw [if_pos (by omega)], rfl⟩ dX3_newerOf_23
set_option maxRecDepth 100000 in
set_option maxHeartbeats 4000000 in
theorem c_X3_olderOf (l : Launch) (D : va_G) (ad : Nat → Nat) (G : Nat → Nat) (ids : List Nat) (hI : ∀ k, k < 81 → k ∈ ids) (σ : Sg) (d : Int) (hd : IR d) : MET l yX3_olderOf cX3_olderOf 2 (some .int) 1 [.ref (ad 14), .int (iI d)] D ad G ids σ (QI D ad G ids (fun z σ' => (if 0 ≤ d ∧ d < 5 then σ 18 d else -1) = z ∧ σ = σ')) := by
  refine x_enter (by decide) (Nat.le_of_ble_eq_true rfl) ?_
  intro pp ee ss mm args below meth cq C hr ls hl hM
  have hl : lv_has ls 2 [(0, .ref (ad 14)), (1, .int (iI d))] := hl
  refine lv_iload_n C.1 C.2.1 dX3_olderOf_0 rfl (lv_at hl 1 rfl) ?_
  refine x_if_lt C ⟨by omega, by omega⟩ (tgt := 22) dX3_olderOf_1 (by decide) (fun c1 => ?_) (fun c1 => ?_)
  · refine lv_iconst (v := iI (-1)) C.1 C.2.1 dX3_olderOf_22 (by decide) ?_
    exact x_iret C hr hM ⟨by rw [if_neg (by omega)], rfl⟩ dX3_olderOf_23
  · refine lv_iload_n C.1 C.2.1 dX3_olderOf_4 rfl (lv_at hl 1 rfl) ?_
    refine lv_aload_n C.1 C.2.1 dX3_olderOf_5 rfl (lv_at hl 0 rfl) ?_
    refine g_X3_1 C hM (hI 14 (by decide)) wf_X3_15 dX3_olderOf_6 ?_
    refine ln_16 C hM (hI 16 (by decide)) dX3_olderOf_9 ?_
    refine x_icmp_ge C ⟨by omega, by omega⟩ ⟨by omega, by omega⟩ (tgt := 22) dX3_olderOf_10 (by decide) (fun c10 => ?_) (fun c10 => ?_)
    · refine lv_iconst (v := iI (-1)) C.1 C.2.1 dX3_olderOf_22 (by decide) ?_
      exact x_iret C hr hM ⟨by rw [if_neg (by omega)], rfl⟩ dX3_olderOf_23
    · refine lv_aload_n C.1 C.2.1 dX3_olderOf_13 rfl (lv_at hl 0 rfl) ?_
      refine g_X3_1 C hM (hI 14 (by decide)) wf_X3_15 dX3_olderOf_14 ?_
      refine lv_iload_n C.1 C.2.1 dX3_olderOf_17 rfl (lv_at hl 1 rfl) ?_
      refine al_16 C hM (hI 16 (by decide)) (by omega) (by omega) dX3_olderOf_18 ?_
      refine lv_goto (tgt := 23) C.1 C.2.1 dX3_olderOf_19 (by decide) ?_
      exact x_iret C hr hM ⟨by rw [if_pos (by omega)], rfl⟩ dX3_olderOf_23
set_option maxRecDepth 100000 in
set_option maxHeartbeats 4000000 in
theorem c_X3_note (l : Launch) (D : va_G) (ad : Nat → Nat) (G : Nat → Nat) (ids : List Nat) (hI : ∀ k, k < 81 → k ∈ ids) (σ : Sg) (d v : Int) (hTI : TI σ) (hd : 0 ≤ d ∧ d < 5) (hv : IR v) : MET l yX3_note cX3_note 3 none 1 [.ref (ad 14), .int (iI d), .int (iI v)] D ad G ids σ (QV D ad G ids (fun σ' => noteT σ d v = σ')) := by
  have hq := (hTI.2.2 d).1
  refine x_enter (by decide) (Nat.le_of_ble_eq_true rfl) ?_
  intro pp ee ss mm args below meth cq C hr ls hl hM
  have hl : lv_has ls 3 [(0, .ref (ad 14)), (1, .int (iI d)), (2, .int (iI v))] := hl
  refine lv_iload_n C.1 C.2.1 dX3_note_0 rfl (lv_at hl 1 rfl) ?_
  refine x_if_lt C ⟨by omega, by omega⟩ (tgt := 51) dX3_note_1 (by decide) (fun c1 => ?_) (fun c1 => ?_)
  · exfalso; omega
  · refine lv_iload_n C.1 C.2.1 dX3_note_4 rfl (lv_at hl 1 rfl) ?_
    refine lv_aload_n C.1 C.2.1 dX3_note_5 rfl (lv_at hl 0 rfl) ?_
    refine g_X3_0 C hM (hI 14 (by decide)) wf_X3_9 dX3_note_6 ?_
    refine ln_15 C hM (hI 15 (by decide)) dX3_note_9 ?_
    refine x_icmp_ge C ⟨by omega, by omega⟩ ⟨by omega, by omega⟩ (tgt := 51) dX3_note_10 (by decide) (fun c10 => ?_) (fun c10 => ?_)
    · exfalso; omega
    · refine lv_iload_n C.1 C.2.1 dX3_note_13 rfl (lv_at hl 1 rfl) ?_
      refine lv_aload_n C.1 C.2.1 dX3_note_14 rfl (lv_at hl 0 rfl) ?_
      refine g_X3_1 C hM (hI 14 (by decide)) wf_X3_15 dX3_note_15 ?_
      refine ln_16 C hM (hI 16 (by decide)) dX3_note_18 ?_
      refine x_icmp_ge C ⟨by omega, by omega⟩ ⟨by omega, by omega⟩ (tgt := 51) dX3_note_19 (by decide) (fun c19 => ?_) (fun c19 => ?_)
      · exfalso; omega
      · refine lv_aload_n C.1 C.2.1 dX3_note_22 rfl (lv_at hl 0 rfl) ?_
        refine g_X3_0 C hM (hI 14 (by decide)) wf_X3_9 dX3_note_23 ?_
        refine lv_iload_n C.1 C.2.1 dX3_note_26 rfl (lv_at hl 1 rfl) ?_
        refine al_15 C hM (hI 15 (by decide)) (by omega) (by omega) dX3_note_27 ?_
        refine lv_iload_n C.1 C.2.1 dX3_note_28 rfl (lv_at hl 2 rfl) ?_
        refine x_icmp_eq C ⟨by omega, by omega⟩ ⟨by omega, by omega⟩ (tgt := 51) dX3_note_29 (by decide) (fun c29 => ?_) (fun c29 => ?_)
        · refine x_vret C hr hM ?_ dX3_note_51
          unfold noteT; rw [if_pos c29]
        · refine lv_aload_n C.1 C.2.1 dX3_note_32 rfl (lv_at hl 0 rfl) ?_
          refine g_X3_1 C hM (hI 14 (by decide)) wf_X3_15 dX3_note_33 ?_
          refine lv_iload_n C.1 C.2.1 dX3_note_36 rfl (lv_at hl 1 rfl) ?_
          refine lv_aload_n C.1 C.2.1 dX3_note_37 rfl (lv_at hl 0 rfl) ?_
          refine g_X3_0 C hM (hI 14 (by decide)) wf_X3_9 dX3_note_38 ?_
          refine lv_iload_n C.1 C.2.1 dX3_note_41 rfl (lv_at hl 1 rfl) ?_
          refine al_15 C hM (hI 15 (by decide)) (by omega) (by omega) dX3_note_42 ?_
          refine as_16 C hM (hI 16 (by decide)) (by omega) (by omega) dX3_note_43 (fun H1 lc1 hM => ?_)
          refine lv_aload_n C.1 C.2.1 dX3_note_44 rfl (lv_at hl 0 rfl) ?_
          refine g_X3_0 C hM (hI 14 (by decide)) wf_X3_9 dX3_note_45 ?_
          refine lv_iload_n C.1 C.2.1 dX3_note_48 rfl (lv_at hl 1 rfl) ?_
          refine lv_iload_n C.1 C.2.1 dX3_note_49 rfl (lv_at hl 2 rfl) ?_
          refine as_15 C hM (hI 15 (by decide)) (by omega) (by omega) dX3_note_50 (fun H1 lc1 hM => ?_)
          refine x_vret C hr hM ?_ dX3_note_51
          unfold noteT; rw [if_neg c29]; rfl
set_option maxRecDepth 100000 in
set_option maxHeartbeats 4000000 in
theorem c_X9_length (l : Launch) (D : va_G) (ad : Nat → Nat) (G : Nat → Nat) (ids : List Nat) (hI : ∀ k, k < 81 → k ∈ ids) (σ : Sg)   : MET l yX9_length cX9_length 1 (some .int) 1 [.ref (ad 21)] D ad G ids σ (QI D ad G ids (fun z σ' => σ 30 0 = z ∧ σ = σ')) := by
  refine x_enter (by decide) (Nat.le_of_ble_eq_true rfl) ?_
  intro pp ee ss mm args below meth cq C hr ls hl hM
  have hl : lv_has ls 1 [(0, .ref (ad 21))] := hl
  refine lv_aload_n C.1 C.2.1 dX9_length_0 rfl (lv_at hl 0 rfl) ?_
  refine g_X9_2 C hM (hI 21 (by decide)) wf_X9_18 dX9_length_1 ?_
  exact x_iret C hr hM ⟨rfl, rfl⟩ dX9_length_4
set_option maxRecDepth 100000 in
set_option maxHeartbeats 4000000 in
theorem c_X9_clear (l : Launch) (D : va_G) (ad : Nat → Nat) (G : Nat → Nat) (ids : List Nat) (hI : ∀ k, k < 81 → k ∈ ids) (σ : Sg)   : MET l yX9_clear cX9_clear 1 none 1 [.ref (ad 21)] D ad G ids σ (QV D ad G ids (fun σ' => upr σ 30 (ups (σ 30) 0 0) = σ')) := by
  refine x_enter (by decide) (Nat.le_of_ble_eq_true rfl) ?_
  intro pp ee ss mm args below meth cq C hr ls hl hM
  have hl : lv_has ls 1 [(0, .ref (ad 21))] := hl
  refine lv_aload_n C.1 C.2.1 dX9_clear_0 rfl (lv_at hl 0 rfl) ?_
  refine lv_iconst (v := iI 0) C.1 C.2.1 dX9_clear_1 (by decide) ?_
  refine p_X9_2 C hM (hI 21 (by decide)) wf_X9_18 dX9_clear_2 (fun H1 lc1 hM => ?_)
  exact x_vret C hr hM rfl dX9_clear_5
set_option maxRecDepth 100000 in
set_option maxHeartbeats 4000000 in
theorem c_X9_forgetOldest (l : Launch) (D : va_G) (ad : Nat → Nat) (G : Nat → Nat) (ids : List Nat) (hI : ∀ k, k < 81 → k ∈ ids) (σ : Sg)  (hTR : TRI σ) : MET l yX9_forgetOldest cX9_forgetOldest 2 none 1 [.ref (ad 21)] D ad G ids σ (QV D ad G ids (fun σ' => shT σ = σ')) := by
  have h30 := hTR
  refine x_enter (by decide) (Nat.le_of_ble_eq_true rfl) ?_
  intro pp ee ss mm args below meth cq C hr ls hl hM
  have hl : lv_has ls 2 [(0, .ref (ad 21))] := hl
  refine lv_iconst (v := iI 0) C.1 C.2.1 dX9_forgetOldest_0 (by decide) ?_
  refine lv_istore_n (lv' := [(1, .int (iI 0)), (0, .ref (ad 21))]) C.1 C.2.1 dX9_forgetOldest_1 rfl hl (by decide) rfl (fun ls hl => ?_)
  have L2 : ∀ (fu : Nat) (i : Int) (s1 : Sg) (H1 : Heap) (lc1 : List Loc) (ls1 : Array Slot), (0 ≤ i ∧ i ≤ 39) → (s1 = upr (upr σ 28 (shF (σ 28) i)) 29 (shF (σ 29) i)) → (50 - i).toNat < fu → XI D ad G ids (AN ad ids ss.heap.size) ss.heap H1 lc1 s1 → lv_has ls1 2 [(1, .int (iI i)), (0, .ref (ad 21))] → W pp l ee (rmh 1) ss mm args below meth cq H1 lc1 0 0 (MQ below (QV D ad G ids (fun σ' => shT σ = σ') ss.heap.size) args ss 0 0 (AN ad ids ss.heap.size)) (F0 mm 2 ls1 []) := by
    intro fu
    induction fu with
    | zero => intro i s1 H1 lc1 ls1 i0 hs hfu; exact absurd hfu (Nat.not_lt_zero _)
    | succ fu ih2 =>
      intro i s1 H1 lc1 ls1 i0 hs hfu hM hl
      refine lv_iload_n C.1 C.2.1 dX9_forgetOldest_2 rfl (lv_at hl 0 rfl) ?_
      refine lv_iconst (v := iI 1) C.1 C.2.1 dX9_forgetOldest_3 (by decide) ?_
      refine x_iadd C dX9_forgetOldest_4 ?_
      refine lv_aload_n C.1 C.2.1 dX9_forgetOldest_5 rfl (lv_at hl 1 rfl) ?_
      refine g_X9_0 C hM (hI 21 (by decide)) wf_X9_9 dX9_forgetOldest_6 ?_
      refine ln_22 C hM (hI 22 (by decide)) dX9_forgetOldest_9 ?_
      refine x_icmp_ge C ⟨by omega, by omega⟩ ⟨by omega, by omega⟩ (tgt := 58) dX9_forgetOldest_10 (by decide) (fun c10 => ?_) (fun c10 => ?_)
      · refine lv_aload_n C.1 C.2.1 dX9_forgetOldest_58 rfl (lv_at hl 1 rfl) ?_
        refine lv_dup C.1 C.2.1 dX9_forgetOldest_59 rfl ?_
        refine g_X9_2 C hM (hI 21 (by decide)) wf_X9_18 dX9_forgetOldest_60 ?_
        refine lv_iconst (v := iI 1) C.1 C.2.1 dX9_forgetOldest_63 (by decide) ?_
        refine x_isub C dX9_forgetOldest_64 ?_
        refine p_X9_2 C hM (hI 21 (by decide)) wf_X9_18 dX9_forgetOldest_65 (fun H1 lc1 hM => ?_)
        exact x_vret C hr hM (by rw [hs, show i = 39 by omega]; rfl) dX9_forgetOldest_68
      · refine lv_iload_n C.1 C.2.1 dX9_forgetOldest_13 rfl (lv_at hl 0 rfl) ?_
        refine lv_iconst (v := iI 1) C.1 C.2.1 dX9_forgetOldest_14 (by decide) ?_
        refine x_iadd C dX9_forgetOldest_15 ?_
        refine lv_aload_n C.1 C.2.1 dX9_forgetOldest_16 rfl (lv_at hl 1 rfl) ?_
        refine g_X9_1 C hM (hI 21 (by decide)) wf_X9_15 dX9_forgetOldest_17 ?_
        refine ln_23 C hM (hI 23 (by decide)) dX9_forgetOldest_20 ?_
        refine x_icmp_ge C ⟨by omega, by omega⟩ ⟨by omega, by omega⟩ (tgt := 58) dX9_forgetOldest_21 (by decide) (fun c21 => ?_) (fun c21 => ?_)
        · exfalso; omega
        · refine lv_aload_n C.1 C.2.1 dX9_forgetOldest_24 rfl (lv_at hl 1 rfl) ?_
          refine g_X9_0 C hM (hI 21 (by decide)) wf_X9_9 dX9_forgetOldest_25 ?_
          refine lv_iload_n C.1 C.2.1 dX9_forgetOldest_28 rfl (lv_at hl 0 rfl) ?_
          refine lv_aload_n C.1 C.2.1 dX9_forgetOldest_29 rfl (lv_at hl 1 rfl) ?_
          refine g_X9_0 C hM (hI 21 (by decide)) wf_X9_9 dX9_forgetOldest_30 ?_
          refine lv_iload_n C.1 C.2.1 dX9_forgetOldest_33 rfl (lv_at hl 0 rfl) ?_
          refine lv_iconst (v := iI 1) C.1 C.2.1 dX9_forgetOldest_34 (by decide) ?_
          refine x_iadd C dX9_forgetOldest_35 ?_
          refine al_22 C hM (hI 22 (by decide)) (by omega) (by omega) dX9_forgetOldest_36 ?_
          refine as_22 C hM (hI 22 (by decide)) (by omega) (by omega) dX9_forgetOldest_37 (fun H1 lc1 hM => ?_)
          refine lv_aload_n C.1 C.2.1 dX9_forgetOldest_38 rfl (lv_at hl 1 rfl) ?_
          refine g_X9_1 C hM (hI 21 (by decide)) wf_X9_15 dX9_forgetOldest_39 ?_
          refine lv_iload_n C.1 C.2.1 dX9_forgetOldest_42 rfl (lv_at hl 0 rfl) ?_
          refine lv_aload_n C.1 C.2.1 dX9_forgetOldest_43 rfl (lv_at hl 1 rfl) ?_
          refine g_X9_1 C hM (hI 21 (by decide)) wf_X9_15 dX9_forgetOldest_44 ?_
          refine lv_iload_n C.1 C.2.1 dX9_forgetOldest_47 rfl (lv_at hl 0 rfl) ?_
          refine lv_iconst (v := iI 1) C.1 C.2.1 dX9_forgetOldest_48 (by decide) ?_
          refine x_iadd C dX9_forgetOldest_49 ?_
          refine al_23 C hM (hI 23 (by decide)) (by omega) (by omega) dX9_forgetOldest_50 ?_
          rw [upr_ne _ _ (show (29 : Nat) ≠ 28 by omega)]
          refine as_23 C hM (hI 23 (by decide)) (by omega) (by omega) dX9_forgetOldest_51 (fun H1 lc1 hM => ?_)
          refine x_iinc (lv1 := [(1, .int (iI (i + 1))), (0, .ref (ad 21))]) C dX9_forgetOldest_52 hl (k := 0) rfl (by decide) rfl (fun ls hl => ?_)
          refine lv_goto (tgt := 2) C.1 C.2.1 dX9_forgetOldest_55 (by decide) ?_
          exact ih2 (i + 1) (upr (upr s1 28 (ups (s1 28) i (s1 28 (i + 1)))) 29 (ups ((upr s1 28 (ups (s1 28) i (s1 28 (i + 1)))) 29) i (s1 29 (i + 1)))) _ _ _ (by omega) (by
            rw [← shF_s (σ 28) i0.1, ← shF_s (σ 29) i0.1, ← shF_at (σ 28) i0.1, ← shF_at (σ 29) i0.1, hs]
            funext q
            by_cases e : q = 29
            · subst e; rfl
            by_cases e2 : q = 28
            · subst e2; rfl
            rw [upr_ne _ _ e, upr_ne _ _ e2, upr_ne _ _ e, upr_ne _ _ e2, upr_ne _ _ e, upr_ne _ _ e2]) (by omega) hM (lv_sub hl [0, 1] rfl)
  exact L2 _ 0 σ _ _ _ (by omega) (by rw [shF_0, shF_0, upr_self, upr_self]) (Nat.lt_succ_self _) hM (lv_sub hl [0, 1] rfl)
set_option maxRecDepth 100000 in
set_option maxHeartbeats 4000000 in
theorem c_X9_add (l : Launch) (D : va_G) (ad : Nat → Nat) (G : Nat → Nat) (ids : List Nat) (hI : ∀ k, k < 81 → k ∈ ids) (σ : Sg) (v t : Int) (hTR : TRI σ) : MET l yX9_add cX9_add 3 none 2 [.ref (ad 21), .int (iI v), .int (iI t)] D ad G ids σ (QV D ad G ids (fun σ' => addT σ v t = σ')) := by
  obtain ⟨h30, h31⟩ := id hTR
  refine x_enter (by decide) (Nat.le_of_ble_eq_true rfl) ?_
  intro pp ee ss mm args below meth cq C hr ls hl hM
  have hl : lv_has ls 3 [(0, .ref (ad 21)), (1, .int (iI v)), (2, .int (iI t))] := hl
  refine lv_aload_n C.1 C.2.1 dX9_add_0 rfl (lv_at hl 0 rfl) ?_
  refine g_X9_2 C hM (hI 21 (by decide)) wf_X9_18 dX9_add_1 ?_
  refine lv_aload_n C.1 C.2.1 dX9_add_4 rfl (lv_at hl 0 rfl) ?_
  refine g_X9_0 C hM (hI 21 (by decide)) wf_X9_9 dX9_add_5 ?_
  refine ln_22 C hM (hI 22 (by decide)) dX9_add_8 ?_
  refine x_icmp_lt C ⟨by omega, by omega⟩ ⟨by omega, by omega⟩ (tgt := 16) dX9_add_9 (by decide) (fun c9 => ?_) (fun c9 => ?_)
  · refine lv_aload_n C.1 C.2.1 dX9_add_16 rfl (lv_at hl 0 rfl) ?_
    refine g_X9_2 C hM (hI 21 (by decide)) wf_X9_18 dX9_add_17 ?_
    refine x_if_lt C ⟨by omega, by omega⟩ (tgt := 77) dX9_add_20 (by decide) (fun c20 => ?_) (fun c20 => ?_)
    · exfalso; omega
    · refine lv_aload_n C.1 C.2.1 dX9_add_23 rfl (lv_at hl 0 rfl) ?_
      refine g_X9_2 C hM (hI 21 (by decide)) wf_X9_18 dX9_add_24 ?_
      refine lv_aload_n C.1 C.2.1 dX9_add_27 rfl (lv_at hl 0 rfl) ?_
      refine g_X9_0 C hM (hI 21 (by decide)) wf_X9_9 dX9_add_28 ?_
      refine ln_22 C hM (hI 22 (by decide)) dX9_add_31 ?_
      refine x_icmp_ge C ⟨by omega, by omega⟩ ⟨by omega, by omega⟩ (tgt := 77) dX9_add_32 (by decide) (fun c32 => ?_) (fun c32 => ?_)
      · exfalso; omega
      · refine lv_aload_n C.1 C.2.1 dX9_add_35 rfl (lv_at hl 0 rfl) ?_
        refine g_X9_2 C hM (hI 21 (by decide)) wf_X9_18 dX9_add_36 ?_
        refine lv_aload_n C.1 C.2.1 dX9_add_39 rfl (lv_at hl 0 rfl) ?_
        refine g_X9_1 C hM (hI 21 (by decide)) wf_X9_15 dX9_add_40 ?_
        refine ln_23 C hM (hI 23 (by decide)) dX9_add_43 ?_
        refine x_icmp_ge C ⟨by omega, by omega⟩ ⟨by omega, by omega⟩ (tgt := 77) dX9_add_44 (by decide) (fun c44 => ?_) (fun c44 => ?_)
        · exfalso; omega
        · refine lv_aload_n C.1 C.2.1 dX9_add_47 rfl (lv_at hl 0 rfl) ?_
          refine g_X9_0 C hM (hI 21 (by decide)) wf_X9_9 dX9_add_48 ?_
          refine lv_aload_n C.1 C.2.1 dX9_add_51 rfl (lv_at hl 0 rfl) ?_
          refine g_X9_2 C hM (hI 21 (by decide)) wf_X9_18 dX9_add_52 ?_
          refine lv_iload_n C.1 C.2.1 dX9_add_55 rfl (lv_at hl 1 rfl) ?_
          refine as_22 C hM (hI 22 (by decide)) (by omega) (by omega) dX9_add_56 (fun H1 lc1 hM => ?_)
          refine lv_aload_n C.1 C.2.1 dX9_add_57 rfl (lv_at hl 0 rfl) ?_
          refine g_X9_1 C hM (hI 21 (by decide)) wf_X9_15 dX9_add_58 ?_
          refine lv_aload_n C.1 C.2.1 dX9_add_61 rfl (lv_at hl 0 rfl) ?_
          refine g_X9_2 C hM (hI 21 (by decide)) wf_X9_18 dX9_add_62 ?_
          rw [upr_ne _ _ (show (30 : Nat) ≠ 28 by omega)]
          refine lv_iload_n C.1 C.2.1 dX9_add_65 rfl (lv_at hl 2 rfl) ?_
          refine as_23 C hM (hI 23 (by decide)) (by omega) (by omega) dX9_add_66 (fun H1 lc1 hM => ?_)
          refine lv_aload_n C.1 C.2.1 dX9_add_67 rfl (lv_at hl 0 rfl) ?_
          refine lv_dup C.1 C.2.1 dX9_add_68 rfl ?_
          refine g_X9_2 C hM (hI 21 (by decide)) wf_X9_18 dX9_add_69 ?_
          rw [upr_ne _ _ (show (30 : Nat) ≠ 29 by omega)]
          rw [upr_ne _ _ (show (30 : Nat) ≠ 28 by omega)]
          refine lv_iconst (v := iI 1) C.1 C.2.1 dX9_add_72 (by decide) ?_
          refine x_iadd C dX9_add_73 ?_
          refine p_X9_2 C hM (hI 21 (by decide)) wf_X9_18 dX9_add_74 (fun H1 lc1 hM => ?_)
          refine x_vret C hr hM ?_ dX9_add_77
          unfold addT; rw [if_neg (by omega)]; rfl
  · refine lv_aload_n C.1 C.2.1 dX9_add_12 rfl (lv_at hl 0 rfl) ?_
    refine x_cv (x_runV (As := []) (rest := []) C (by omega) cw_X9_22 (c_X9_forgetOldest l D ad G ids hI σ hTR) hM (hI 21 (by decide)) (cx_21 ad G _) rfl rfl rfl rfl (Nat.le_of_ble_eq_true rfl) hl.1 dX9_add_13) hM (fun s13 H1 lc1 hp hM => ?_)
    obtain rfl := hp
    have e30 : shT σ 30 0 = 39 := by show σ 30 0 - 1 = 39; omega
    refine lv_aload_n C.1 C.2.1 dX9_add_16 rfl (lv_at hl 0 rfl) ?_
    refine g_X9_2 C hM (hI 21 (by decide)) wf_X9_18 dX9_add_17 ?_
    refine x_if_lt C ⟨by omega, by omega⟩ (tgt := 77) dX9_add_20 (by decide) (fun c20 => ?_) (fun c20 => ?_)
    · exfalso; omega
    · refine lv_aload_n C.1 C.2.1 dX9_add_23 rfl (lv_at hl 0 rfl) ?_
      refine g_X9_2 C hM (hI 21 (by decide)) wf_X9_18 dX9_add_24 ?_
      refine lv_aload_n C.1 C.2.1 dX9_add_27 rfl (lv_at hl 0 rfl) ?_
      refine g_X9_0 C hM (hI 21 (by decide)) wf_X9_9 dX9_add_28 ?_
      refine ln_22 C hM (hI 22 (by decide)) dX9_add_31 ?_
      refine x_icmp_ge C ⟨by omega, by omega⟩ ⟨by omega, by omega⟩ (tgt := 77) dX9_add_32 (by decide) (fun c32 => ?_) (fun c32 => ?_)
      · exfalso; omega
      · refine lv_aload_n C.1 C.2.1 dX9_add_35 rfl (lv_at hl 0 rfl) ?_
        refine g_X9_2 C hM (hI 21 (by decide)) wf_X9_18 dX9_add_36 ?_
        refine lv_aload_n C.1 C.2.1 dX9_add_39 rfl (lv_at hl 0 rfl) ?_
        refine g_X9_1 C hM (hI 21 (by decide)) wf_X9_15 dX9_add_40 ?_
        refine ln_23 C hM (hI 23 (by decide)) dX9_add_43 ?_
        refine x_icmp_ge C ⟨by omega, by omega⟩ ⟨by omega, by omega⟩ (tgt := 77) dX9_add_44 (by decide) (fun c44 => ?_) (fun c44 => ?_)
        · exfalso; omega
        · refine lv_aload_n C.1 C.2.1 dX9_add_47 rfl (lv_at hl 0 rfl) ?_
          refine g_X9_0 C hM (hI 21 (by decide)) wf_X9_9 dX9_add_48 ?_
          refine lv_aload_n C.1 C.2.1 dX9_add_51 rfl (lv_at hl 0 rfl) ?_
          refine g_X9_2 C hM (hI 21 (by decide)) wf_X9_18 dX9_add_52 ?_
          refine lv_iload_n C.1 C.2.1 dX9_add_55 rfl (lv_at hl 1 rfl) ?_
          refine as_22 C hM (hI 22 (by decide)) (by omega) (by omega) dX9_add_56 (fun H1 lc1 hM => ?_)
          refine lv_aload_n C.1 C.2.1 dX9_add_57 rfl (lv_at hl 0 rfl) ?_
          refine g_X9_1 C hM (hI 21 (by decide)) wf_X9_15 dX9_add_58 ?_
          refine lv_aload_n C.1 C.2.1 dX9_add_61 rfl (lv_at hl 0 rfl) ?_
          refine g_X9_2 C hM (hI 21 (by decide)) wf_X9_18 dX9_add_62 ?_
          rw [upr_ne _ _ (show (30 : Nat) ≠ 28 by omega)]
          refine lv_iload_n C.1 C.2.1 dX9_add_65 rfl (lv_at hl 2 rfl) ?_
          refine as_23 C hM (hI 23 (by decide)) (by omega) (by omega) dX9_add_66 (fun H1 lc1 hM => ?_)
          refine lv_aload_n C.1 C.2.1 dX9_add_67 rfl (lv_at hl 0 rfl) ?_
          refine lv_dup C.1 C.2.1 dX9_add_68 rfl ?_
          refine g_X9_2 C hM (hI 21 (by decide)) wf_X9_18 dX9_add_69 ?_
          rw [upr_ne _ _ (show (30 : Nat) ≠ 29 by omega)]
          rw [upr_ne _ _ (show (30 : Nat) ≠ 28 by omega)]
          refine lv_iconst (v := iI 1) C.1 C.2.1 dX9_add_72 (by decide) ?_
          refine x_iadd C dX9_add_73 ?_
          refine p_X9_2 C hM (hI 21 (by decide)) wf_X9_18 dX9_add_74 (fun H1 lc1 hM => ?_)
          refine x_vret C hr hM ?_ dX9_add_77
          unfold addT; rw [if_pos (by omega)]; rfl
set_option maxRecDepth 100000 in
set_option maxHeartbeats 4000000 in
theorem c_X9_lastMove (l : Launch) (D : va_G) (ad : Nat → Nat) (G : Nat → Nat) (ids : List Nat) (hI : ∀ k, k < 81 → k ∈ ids) (σ : Sg)  (hTR : 1 ≤ σ 30 0 ∧ σ 30 0 ≤ 40) : MET l yX9_lastMove cX9_lastMove 2 (some .int) 1 [.ref (ad 21)] D ad G ids σ (QI D ad G ids (fun z σ' => σ 28 (σ 30 0 - 1) = z ∧ σ = σ')) := by
  refine x_enter (by decide) (Nat.le_of_ble_eq_true rfl) ?_
  intro pp ee ss mm args below meth cq C hr ls hl hM
  have hl : lv_has ls 2 [(0, .ref (ad 21))] := hl
  refine lv_aload_n C.1 C.2.1 dX9_lastMove_0 rfl (lv_at hl 0 rfl) ?_
  refine g_X9_2 C hM (hI 21 (by decide)) wf_X9_18 dX9_lastMove_1 ?_
  refine lv_iconst (v := iI 1) C.1 C.2.1 dX9_lastMove_4 (by decide) ?_
  refine x_isub C dX9_lastMove_5 ?_
  refine lv_istore_n (lv' := [(1, .int (iI ((σ 30 0) - 1))), (0, .ref (ad 21))]) C.1 C.2.1 dX9_lastMove_6 rfl hl (by decide) rfl (fun ls hl => ?_)
  refine lv_iload_n C.1 C.2.1 dX9_lastMove_7 rfl (lv_at hl 0 rfl) ?_
  refine x_if_lt C ⟨by omega, by omega⟩ (tgt := 29) dX9_lastMove_8 (by decide) (fun c8 => ?_) (fun c8 => ?_)
  · exfalso; omega
  · refine lv_iload_n C.1 C.2.1 dX9_lastMove_11 rfl (lv_at hl 0 rfl) ?_
    refine lv_aload_n C.1 C.2.1 dX9_lastMove_12 rfl (lv_at hl 1 rfl) ?_
    refine g_X9_0 C hM (hI 21 (by decide)) wf_X9_9 dX9_lastMove_13 ?_
    refine ln_22 C hM (hI 22 (by decide)) dX9_lastMove_16 ?_
    refine x_icmp_ge C ⟨by omega, by omega⟩ ⟨by omega, by omega⟩ (tgt := 29) dX9_lastMove_17 (by decide) (fun c17 => ?_) (fun c17 => ?_)
    · exfalso; omega
    · refine lv_aload_n C.1 C.2.1 dX9_lastMove_20 rfl (lv_at hl 1 rfl) ?_
      refine g_X9_0 C hM (hI 21 (by decide)) wf_X9_9 dX9_lastMove_21 ?_
      refine lv_iload_n C.1 C.2.1 dX9_lastMove_24 rfl (lv_at hl 0 rfl) ?_
      refine al_22 C hM (hI 22 (by decide)) (by omega) (by omega) dX9_lastMove_25 ?_
      refine lv_goto (tgt := 30) C.1 C.2.1 dX9_lastMove_26 (by decide) ?_
      exact x_iret C hr hM ⟨rfl, rfl⟩ dX9_lastMove_30
set_option maxRecDepth 100000 in
set_option maxHeartbeats 4000000 in
theorem c_X9_lastTaken (l : Launch) (D : va_G) (ad : Nat → Nat) (G : Nat → Nat) (ids : List Nat) (hI : ∀ k, k < 81 → k ∈ ids) (σ : Sg)  (hTR : 1 ≤ σ 30 0 ∧ σ 30 0 ≤ 40) : MET l yX9_lastTaken cX9_lastTaken 2 (some .int) 1 [.ref (ad 21)] D ad G ids σ (QI D ad G ids (fun z σ' => σ 29 (σ 30 0 - 1) = z ∧ σ = σ')) := by
  refine x_enter (by decide) (Nat.le_of_ble_eq_true rfl) ?_
  intro pp ee ss mm args below meth cq C hr ls hl hM
  have hl : lv_has ls 2 [(0, .ref (ad 21))] := hl
  refine lv_aload_n C.1 C.2.1 dX9_lastTaken_0 rfl (lv_at hl 0 rfl) ?_
  refine g_X9_2 C hM (hI 21 (by decide)) wf_X9_18 dX9_lastTaken_1 ?_
  refine lv_iconst (v := iI 1) C.1 C.2.1 dX9_lastTaken_4 (by decide) ?_
  refine x_isub C dX9_lastTaken_5 ?_
  refine lv_istore_n (lv' := [(1, .int (iI ((σ 30 0) - 1))), (0, .ref (ad 21))]) C.1 C.2.1 dX9_lastTaken_6 rfl hl (by decide) rfl (fun ls hl => ?_)
  refine lv_iload_n C.1 C.2.1 dX9_lastTaken_7 rfl (lv_at hl 0 rfl) ?_
  refine x_if_lt C ⟨by omega, by omega⟩ (tgt := 29) dX9_lastTaken_8 (by decide) (fun c8 => ?_) (fun c8 => ?_)
  · exfalso; omega
  · refine lv_iload_n C.1 C.2.1 dX9_lastTaken_11 rfl (lv_at hl 0 rfl) ?_
    refine lv_aload_n C.1 C.2.1 dX9_lastTaken_12 rfl (lv_at hl 1 rfl) ?_
    refine g_X9_1 C hM (hI 21 (by decide)) wf_X9_15 dX9_lastTaken_13 ?_
    refine ln_23 C hM (hI 23 (by decide)) dX9_lastTaken_16 ?_
    refine x_icmp_ge C ⟨by omega, by omega⟩ ⟨by omega, by omega⟩ (tgt := 29) dX9_lastTaken_17 (by decide) (fun c17 => ?_) (fun c17 => ?_)
    · exfalso; omega
    · refine lv_aload_n C.1 C.2.1 dX9_lastTaken_20 rfl (lv_at hl 1 rfl) ?_
      refine g_X9_1 C hM (hI 21 (by decide)) wf_X9_15 dX9_lastTaken_21 ?_
      refine lv_iload_n C.1 C.2.1 dX9_lastTaken_24 rfl (lv_at hl 0 rfl) ?_
      refine al_23 C hM (hI 23 (by decide)) (by omega) (by omega) dX9_lastTaken_25 ?_
      refine lv_goto (tgt := 30) C.1 C.2.1 dX9_lastTaken_26 (by decide) ?_
      exact x_iret C hr hM ⟨rfl, rfl⟩ dX9_lastTaken_30
set_option maxRecDepth 100000 in
set_option maxHeartbeats 4000000 in
theorem c_X9_dropLast (l : Launch) (D : va_G) (ad : Nat → Nat) (G : Nat → Nat) (ids : List Nat) (hI : ∀ k, k < 81 → k ∈ ids) (σ : Sg)  (hTR : 1 ≤ σ 30 0 ∧ σ 30 0 ≤ 40) : MET l yX9_dropLast cX9_dropLast 1 none 1 [.ref (ad 21)] D ad G ids σ (QV D ad G ids (fun σ' => upr σ 30 (ups (σ 30) 0 (σ 30 0 - 1)) = σ')) := by
  refine x_enter (by decide) (Nat.le_of_ble_eq_true rfl) ?_
  intro pp ee ss mm args below meth cq C hr ls hl hM
  have hl : lv_has ls 1 [(0, .ref (ad 21))] := hl
  refine lv_aload_n C.1 C.2.1 dX9_dropLast_0 rfl (lv_at hl 0 rfl) ?_
  refine g_X9_2 C hM (hI 21 (by decide)) wf_X9_18 dX9_dropLast_1 ?_
  refine x_if_le C ⟨by omega, by omega⟩ (tgt := 17) dX9_dropLast_4 (by decide) (fun c4 => ?_) (fun c4 => ?_)
  · exfalso; omega
  · refine lv_aload_n C.1 C.2.1 dX9_dropLast_7 rfl (lv_at hl 0 rfl) ?_
    refine lv_dup C.1 C.2.1 dX9_dropLast_8 rfl ?_
    refine g_X9_2 C hM (hI 21 (by decide)) wf_X9_18 dX9_dropLast_9 ?_
    refine lv_iconst (v := iI 1) C.1 C.2.1 dX9_dropLast_12 (by decide) ?_
    refine x_isub C dX9_dropLast_13 ?_
    refine p_X9_2 C hM (hI 21 (by decide)) wf_X9_18 dX9_dropLast_14 (fun H1 lc1 hM => ?_)
    exact x_vret C hr hM rfl dX9_dropLast_17
