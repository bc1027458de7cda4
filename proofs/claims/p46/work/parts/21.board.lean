set_option maxRecDepth 100000 in
set_option maxHeartbeats 4000000 in
theorem c_X0_width (l : Launch) (D : va_G) (ad : Nat → Nat) (G : Nat → Nat) (ids : List Nat) (hI : ∀ k, k < 81 → k ∈ ids) (σ : Sg)   : MET l yX0_width cX0_width 1 (some .int) 1 [.ref (ad 1)] D ad G ids σ (QI D ad G ids (fun z σ' => σ 2 0 = z ∧ σ = σ')) := by
  refine x_enter (by decide) (Nat.le_of_ble_eq_true rfl) ?_
  intro pp ee ss mm args below meth cq C hr ls hl hM
  have hl : lv_has ls 1 [(0, .ref (ad 1))] := hl
  refine lv_aload_n C.1 C.2.1 dX0_width_0 rfl (lv_at hl 0 rfl) ?_
  refine g_X0_1 C hM (hI 1 (by decide)) wf_X0_19 dX0_width_1 ?_
  exact x_iret C hr hM ⟨rfl, rfl⟩ dX0_width_4
set_option maxRecDepth 100000 in
set_option maxHeartbeats 4000000 in
theorem c_X0_height (l : Launch) (D : va_G) (ad : Nat → Nat) (G : Nat → Nat) (ids : List Nat) (hI : ∀ k, k < 81 → k ∈ ids) (σ : Sg)   : MET l yX0_height cX0_height 1 (some .int) 1 [.ref (ad 1)] D ad G ids σ (QI D ad G ids (fun z σ' => σ 3 0 = z ∧ σ = σ')) := by
  refine x_enter (by decide) (Nat.le_of_ble_eq_true rfl) ?_
  intro pp ee ss mm args below meth cq C hr ls hl hM
  have hl : lv_has ls 1 [(0, .ref (ad 1))] := hl
  refine lv_aload_n C.1 C.2.1 dX0_height_0 rfl (lv_at hl 0 rfl) ?_
  refine g_X0_2 C hM (hI 1 (by decide)) wf_X0_23 dX0_height_1 ?_
  exact x_iret C hr hM ⟨rfl, rfl⟩ dX0_height_4
set_option maxRecDepth 100000 in
set_option maxHeartbeats 4000000 in
theorem c_X0_mover (l : Launch) (D : va_G) (ad : Nat → Nat) (G : Nat → Nat) (ids : List Nat) (hI : ∀ k, k < 81 → k ∈ ids) (σ : Sg)   : MET l yX0_mover cX0_mover 1 (some .int) 1 [.ref (ad 1)] D ad G ids σ (QI D ad G ids (fun z σ' => σ 4 0 = z ∧ σ = σ')) := by
  refine x_enter (by decide) (Nat.le_of_ble_eq_true rfl) ?_
  intro pp ee ss mm args below meth cq C hr ls hl hM
  have hl : lv_has ls 1 [(0, .ref (ad 1))] := hl
  refine lv_aload_n C.1 C.2.1 dX0_mover_0 rfl (lv_at hl 0 rfl) ?_
  refine g_X0_3 C hM (hI 1 (by decide)) wf_X0_26 dX0_mover_1 ?_
  exact x_iret C hr hM ⟨rfl, rfl⟩ dX0_mover_4
set_option maxRecDepth 100000 in
set_option maxHeartbeats 4000000 in
theorem c_X0_countFields (l : Launch) (D : va_G) (ad : Nat → Nat) (G : Nat → Nat) (ids : List Nat) (hI : ∀ k, k < 81 → k ∈ ids) (σ : Sg)   : MET l yX0_countFields cX0_countFields 1 (some .int) 1 [.ref (ad 1)] D ad G ids σ (QI D ad G ids (fun z σ' => σ 2 0 * σ 3 0 = z ∧ σ = σ')) := by
  refine x_enter (by decide) (Nat.le_of_ble_eq_true rfl) ?_
  intro pp ee ss mm args below meth cq C hr ls hl hM
  have hl : lv_has ls 1 [(0, .ref (ad 1))] := hl
  refine lv_aload_n C.1 C.2.1 dX0_countFields_0 rfl (lv_at hl 0 rfl) ?_
  refine g_X0_1 C hM (hI 1 (by decide)) wf_X0_19 dX0_countFields_1 ?_
  refine lv_aload_n C.1 C.2.1 dX0_countFields_4 rfl (lv_at hl 0 rfl) ?_
  refine g_X0_2 C hM (hI 1 (by decide)) wf_X0_23 dX0_countFields_5 ?_
  refine x_imul C dX0_countFields_8 ?_
  exact x_iret C hr hM ⟨rfl, rfl⟩ dX0_countFields_9
set_option maxRecDepth 100000 in
set_option maxHeartbeats 4000000 in
theorem c_X0_isField (l : Launch) (D : va_G) (ad : Nat → Nat) (G : Nat → Nat) (ids : List Nat) (hI : ∀ k, k < 81 → k ∈ ids) (σ : Sg) (f : Int) (hf : IR f) (hB : BG σ) : MET l yX0_isField cX0_isField 2 (some .boolean) 1 [.ref (ad 1), .int (iI f)] D ad G ids σ (QI D ad G ids (fun z σ' => (if 0 ≤ f ∧ f < σ 2 0 * σ 3 0 then 1 else 0) = z ∧ σ = σ')) := by
  obtain ⟨w1, w2, h1, h2⟩ := hB
  have wb := wh_bd w1 w2 h1 h2
  refine x_enter (by decide) (Nat.le_of_ble_eq_true rfl) ?_
  intro pp ee ss mm args below meth cq C hr ls hl hM
  have hl : lv_has ls 2 [(0, .ref (ad 1)), (1, .int (iI f))] := hl
  refine lv_iload_n C.1 C.2.1 dX0_isField_0 rfl (lv_at hl 1 rfl) ?_
  refine x_if_lt C ⟨by omega, by omega⟩ (tgt := 30) dX0_isField_1 (by decide) (fun c1 => ?_) (fun c1 => ?_)
  · refine lv_iconst (v := iI 0) C.1 C.2.1 dX0_isField_30 (by decide) ?_
    exact x_zret C hr hM (by first | exact Or.inl rfl | exact Or.inr rfl | omega) ⟨by rw [if_neg (by omega)], rfl⟩ dX0_isField_31
  · refine lv_iload_n C.1 C.2.1 dX0_isField_4 rfl (lv_at hl 1 rfl) ?_
    refine lv_aload_n C.1 C.2.1 dX0_isField_5 rfl (lv_at hl 0 rfl) ?_
    refine g_X0_1 C hM (hI 1 (by decide)) wf_X0_19 dX0_isField_6 ?_
    refine lv_aload_n C.1 C.2.1 dX0_isField_9 rfl (lv_at hl 0 rfl) ?_
    refine g_X0_2 C hM (hI 1 (by decide)) wf_X0_23 dX0_isField_10 ?_
    refine x_imul C dX0_isField_13 ?_
    refine x_icmp_ge C ⟨by omega, by omega⟩ ⟨by omega, by omega⟩ (tgt := 30) dX0_isField_14 (by decide) (fun c14 => ?_) (fun c14 => ?_)
    · refine lv_iconst (v := iI 0) C.1 C.2.1 dX0_isField_30 (by decide) ?_
      exact x_zret C hr hM (by first | exact Or.inl rfl | exact Or.inr rfl | omega) ⟨by rw [if_neg (by omega)], rfl⟩ dX0_isField_31
    · refine lv_iload_n C.1 C.2.1 dX0_isField_17 rfl (lv_at hl 1 rfl) ?_
      refine lv_aload_n C.1 C.2.1 dX0_isField_18 rfl (lv_at hl 0 rfl) ?_
      refine g_X0_0 C hM (hI 1 (by decide)) wf_X0_9 dX0_isField_19 ?_
      refine ln_2 C hM (hI 2 (by decide)) dX0_isField_22 ?_
      refine x_icmp_ge C ⟨by omega, by omega⟩ ⟨by omega, by omega⟩ (tgt := 30) dX0_isField_23 (by decide) (fun c23 => ?_) (fun c23 => ?_)
      · refine lv_iconst (v := iI 0) C.1 C.2.1 dX0_isField_30 (by decide) ?_
        exact x_zret C hr hM (by first | exact Or.inl rfl | exact Or.inr rfl | omega) ⟨by rw [if_neg (by omega)], rfl⟩ dX0_isField_31
      · refine lv_iconst (v := iI 1) C.1 C.2.1 dX0_isField_26 (by decide) ?_
        refine lv_goto (tgt := 31) C.1 C.2.1 dX0_isField_27 (by decide) ?_
        exact x_zret C hr hM (by first | exact Or.inl rfl | exact Or.inr rfl | omega) ⟨by rw [if_pos (by omega)], rfl⟩ dX0_isField_31
set_option maxRecDepth 100000 in
set_option maxHeartbeats 4000000 in
theorem c_X0_pawnAt (l : Launch) (D : va_G) (ad : Nat → Nat) (G : Nat → Nat) (ids : List Nat) (hI : ∀ k, k < 81 → k ∈ ids) (σ : Sg) (f : Int) (hf : IR f) : MET l yX0_pawnAt cX0_pawnAt 2 (some .int) 1 [.ref (ad 1), .int (iI f)] D ad G ids σ (QI D ad G ids (fun z σ' => (if 0 ≤ f ∧ f < 25 then σ 1 f else 0) = z ∧ σ = σ')) := by
  refine x_enter (by decide) (Nat.le_of_ble_eq_true rfl) ?_
  intro pp ee ss mm args below meth cq C hr ls hl hM
  have hl : lv_has ls 2 [(0, .ref (ad 1)), (1, .int (iI f))] := hl
  refine lv_iload_n C.1 C.2.1 dX0_pawnAt_0 rfl (lv_at hl 1 rfl) ?_
  refine x_if_lt C ⟨by omega, by omega⟩ (tgt := 22) dX0_pawnAt_1 (by decide) (fun c1 => ?_) (fun c1 => ?_)
  · refine lv_iconst (v := iI 0) C.1 C.2.1 dX0_pawnAt_22 (by decide) ?_
    exact x_iret C hr hM ⟨by rw [if_neg (by omega)], rfl⟩ dX0_pawnAt_23
  · refine lv_iload_n C.1 C.2.1 dX0_pawnAt_4 rfl (lv_at hl 1 rfl) ?_
    refine lv_aload_n C.1 C.2.1 dX0_pawnAt_5 rfl (lv_at hl 0 rfl) ?_
    refine g_X0_0 C hM (hI 1 (by decide)) wf_X0_9 dX0_pawnAt_6 ?_
    refine ln_2 C hM (hI 2 (by decide)) dX0_pawnAt_9 ?_
    refine x_icmp_ge C ⟨by omega, by omega⟩ ⟨by omega, by omega⟩ (tgt := 22) dX0_pawnAt_10 (by decide) (fun c10 => ?_) (fun c10 => ?_)
    · refine lv_iconst (v := iI 0) C.1 C.2.1 dX0_pawnAt_22 (by decide) ?_
      exact x_iret C hr hM ⟨by rw [if_neg (by omega)], rfl⟩ dX0_pawnAt_23
    · refine lv_aload_n C.1 C.2.1 dX0_pawnAt_13 rfl (lv_at hl 0 rfl) ?_
      refine g_X0_0 C hM (hI 1 (by decide)) wf_X0_9 dX0_pawnAt_14 ?_
      refine lv_iload_n C.1 C.2.1 dX0_pawnAt_17 rfl (lv_at hl 1 rfl) ?_
      refine al_2 C hM (hI 2 (by decide)) (by omega) (by omega) dX0_pawnAt_18 ?_
      refine lv_goto (tgt := 23) C.1 C.2.1 dX0_pawnAt_19 (by decide) ?_
      exact x_iret C hr hM ⟨by rw [if_pos (by omega)], rfl⟩ dX0_pawnAt_23
set_option maxRecDepth 100000 in
set_option maxHeartbeats 4000000 in
theorem c_X0_turnTo (l : Launch) (D : va_G) (ad : Nat → Nat) (G : Nat → Nat) (ids : List Nat) (hI : ∀ k, k < 81 → k ∈ ids) (σ : Sg) (v : Int)  : MET l yX0_turnTo cX0_turnTo 2 none 1 [.ref (ad 1), .int (iI v)] D ad G ids σ (QV D ad G ids (fun σ' => upr σ 4 (ups (σ 4) 0 v) = σ')) := by
  refine x_enter (by decide) (Nat.le_of_ble_eq_true rfl) ?_
  intro pp ee ss mm args below meth cq C hr ls hl hM
  have hl : lv_has ls 2 [(0, .ref (ad 1)), (1, .int (iI v))] := hl
  refine lv_aload_n C.1 C.2.1 dX0_turnTo_0 rfl (lv_at hl 0 rfl) ?_
  refine lv_iload_n C.1 C.2.1 dX0_turnTo_1 rfl (lv_at hl 1 rfl) ?_
  refine p_X0_3 C hM (hI 1 (by decide)) wf_X0_26 dX0_turnTo_2 (fun H1 lc1 hM => ?_)
  exact x_vret C hr hM rfl dX0_turnTo_5
set_option maxRecDepth 100000 in
set_option maxHeartbeats 4000000 in
theorem c_X0_canStep (l : Launch) (D : va_G) (ad : Nat → Nat) (G : Nat → Nat) (ids : List Nat) (hI : ∀ k, k < 81 → k ∈ ids) (σ : Sg) (r k d : Int) (hB : BG σ) (hC : BC (σ 1)) (hr0 : 0 ≤ r ∧ r < σ 3 0) (hk0 : 0 ≤ k ∧ k < σ 2 0) (hd : -1 ≤ d ∧ d ≤ 1) : MET l yX0_canStep cX0_canStep 9 (some .boolean) 1 [.ref (ad 1), .int (iI r), .int (iI k), .int (iI d)] D ad G ids σ (QI D ad G ids (fun z σ' => bI (canS (σ 1) (σ 2 0) (σ 3 0) r k d) = z ∧ σ = σ')) := by
  obtain ⟨w1, w2, h1, h2⟩ := hB
  have wb := wh_bd w1 w2 h1 h2
  have g1 := geo hr0.1 hr0.2 w1 w2 h2
  have cb := hC (r * σ 2 0 + k)
  refine x_enter (by decide) (Nat.le_of_ble_eq_true rfl) ?_
  intro pp ee ss mm args below meth cq C hr ls hl hM
  have hl : lv_has ls 9 [(0, .ref (ad 1)), (1, .int (iI r)), (2, .int (iI k)), (3, .int (iI d))] := hl
  refine lv_iload_n C.1 C.2.1 dX0_canStep_0 rfl (lv_at hl 1 rfl) ?_
  refine lv_aload_n C.1 C.2.1 dX0_canStep_1 rfl (lv_at hl 0 rfl) ?_
  refine g_X0_1 C hM (hI 1 (by decide)) wf_X0_19 dX0_canStep_2 ?_
  refine x_imul C dX0_canStep_5 ?_
  refine lv_iload_n C.1 C.2.1 dX0_canStep_6 rfl (lv_at hl 2 rfl) ?_
  refine x_iadd C dX0_canStep_7 ?_
  refine lv_istore (lv' := [(4, .int (iI ((r * (σ 2 0)) + k))), (0, .ref (ad 1)), (1, .int (iI r)), (2, .int (iI k)), (3, .int (iI d))]) C.1 C.2.1 dX0_canStep_8 hl (by decide) rfl (fun ls hl => ?_)
  refine lv_iload_n C.1 C.2.1 dX0_canStep_10 rfl (lv_at hl 3 rfl) ?_
  refine lv_iload_n C.1 C.2.1 dX0_canStep_11 rfl (lv_at hl 4 rfl) ?_
  refine x_iadd C dX0_canStep_12 ?_
  refine lv_istore (lv' := [(5, .int (iI (k + d))), (4, .int (iI ((r * (σ 2 0)) + k))), (0, .ref (ad 1)), (1, .int (iI r)), (2, .int (iI k)), (3, .int (iI d))]) C.1 C.2.1 dX0_canStep_13 hl (by decide) rfl (fun ls hl => ?_)
  refine lv_iload C.1 C.2.1 dX0_canStep_15 (lv_at hl 1 rfl) ?_
  refine x_if_lt C ⟨by omega, by omega⟩ (tgt := 44) dX0_canStep_17 (by decide) (fun c17 => ?_) (fun c17 => ?_)
  · exfalso; omega
  · refine lv_iload C.1 C.2.1 dX0_canStep_20 (lv_at hl 1 rfl) ?_
    refine lv_aload_n C.1 C.2.1 dX0_canStep_22 rfl (lv_at hl 2 rfl) ?_
    refine g_X0_0 C hM (hI 1 (by decide)) wf_X0_9 dX0_canStep_23 ?_
    refine ln_2 C hM (hI 2 (by decide)) dX0_canStep_26 ?_
    refine x_icmp_ge C ⟨by omega, by omega⟩ ⟨by omega, by omega⟩ (tgt := 44) dX0_canStep_27 (by decide) (fun c27 => ?_) (fun c27 => ?_)
    · exfalso; omega
    · refine lv_iload C.1 C.2.1 dX0_canStep_30 (lv_at hl 0 rfl) ?_
      refine x_if_lt C ⟨by omega, by omega⟩ (tgt := 44) dX0_canStep_32 (by decide) (fun c32 => ?_) (fun c32 => ?_)
      · refine lv_iconst (v := iI 0) C.1 C.2.1 dX0_canStep_44 (by decide) ?_
        exact x_zret C hr hM (by first | exact Or.inl rfl | exact Or.inr rfl | omega) ⟨canS_f rfl (fun q => by obtain ⟨q1, q2, q3, q4, q5, q6⟩ := q; omega), rfl⟩ dX0_canStep_45
      · refine lv_iload C.1 C.2.1 dX0_canStep_35 (lv_at hl 0 rfl) ?_
        refine lv_aload_n C.1 C.2.1 dX0_canStep_37 rfl (lv_at hl 2 rfl) ?_
        refine g_X0_1 C hM (hI 1 (by decide)) wf_X0_19 dX0_canStep_38 ?_
        refine x_icmp_lt C ⟨by omega, by omega⟩ ⟨by omega, by omega⟩ (tgt := 46) dX0_canStep_41 (by decide) (fun c41 => ?_) (fun c41 => ?_)
        · refine lv_aload_n C.1 C.2.1 dX0_canStep_46 rfl (lv_at hl 2 rfl) ?_
          refine g_X0_0 C hM (hI 1 (by decide)) wf_X0_9 dX0_canStep_47 ?_
          refine lv_iload C.1 C.2.1 dX0_canStep_50 (lv_at hl 1 rfl) ?_
          refine al_2 C hM (hI 2 (by decide)) (by omega) (by omega) dX0_canStep_52 ?_
          refine lv_istore (lv' := [(6, .int (iI (σ 1 ((r * (σ 2 0)) + k)))), (5, .int (iI (k + d))), (4, .int (iI ((r * (σ 2 0)) + k))), (0, .ref (ad 1)), (1, .int (iI r)), (2, .int (iI k)), (3, .int (iI d))]) C.1 C.2.1 dX0_canStep_53 hl (by decide) rfl (fun ls hl => ?_)
          refine lv_iload C.1 C.2.1 dX0_canStep_55 (lv_at hl 0 rfl) ?_
          refine lv_iconst (v := iI 1) C.1 C.2.1 dX0_canStep_57 (by decide) ?_
          refine x_icmp_ne C ⟨by omega, by omega⟩ ⟨by omega, by omega⟩ (tgt := 67) dX0_canStep_58 (by decide) (fun c58 => ?_) (fun c58 => ?_)
          · refine lv_iload_n C.1 C.2.1 dX0_canStep_67 rfl (lv_at hl 4 rfl) ?_
            refine lv_iconst (v := iI 1) C.1 C.2.1 dX0_canStep_68 (by decide) ?_
            refine x_isub C dX0_canStep_69 ?_
            refine lv_istore (lv' := [(7, .int (iI (r - 1))), (6, .int (iI (σ 1 ((r * (σ 2 0)) + k)))), (5, .int (iI (k + d))), (4, .int (iI ((r * (σ 2 0)) + k))), (0, .ref (ad 1)), (1, .int (iI r)), (2, .int (iI k)), (3, .int (iI d))]) C.1 C.2.1 dX0_canStep_70 hl (by decide) rfl (fun ls hl => ?_)
            have ht : trow (σ 1 (r * σ 2 0 + k)) r = r - 1 := if_neg (by omega)
            refine lv_iload C.1 C.2.1 dX0_canStep_72 (lv_at hl 0 rfl) ?_
            refine lv_aload_n C.1 C.2.1 dX0_canStep_74 rfl (lv_at hl 4 rfl) ?_
            refine g_X0_1 C hM (hI 1 (by decide)) wf_X0_19 dX0_canStep_75 ?_
            refine x_imul C dX0_canStep_78 ?_
            refine lv_iload C.1 C.2.1 dX0_canStep_79 (lv_at hl 2 rfl) ?_
            refine x_iadd C dX0_canStep_81 ?_
            refine lv_istore (lv' := [(8, .int (iI (((r - 1) * (σ 2 0)) + (k + d)))), (7, .int (iI (r - 1))), (6, .int (iI (σ 1 ((r * (σ 2 0)) + k)))), (5, .int (iI (k + d))), (4, .int (iI ((r * (σ 2 0)) + k))), (0, .ref (ad 1)), (1, .int (iI r)), (2, .int (iI k)), (3, .int (iI d))]) C.1 C.2.1 dX0_canStep_82 hl (by decide) rfl (fun ls hl => ?_)
            refine lv_iload C.1 C.2.1 dX0_canStep_84 (lv_at hl 2 rfl) ?_
            refine x_if_eq C ⟨by omega, by omega⟩ (tgt := 118) dX0_canStep_86 (by decide) (fun c86 => ?_) (fun c86 => ?_)
            · refine lv_iconst (v := iI 0) C.1 C.2.1 dX0_canStep_118 (by decide) ?_
              exact x_zret C hr hM (by first | exact Or.inl rfl | exact Or.inr rfl | omega) ⟨canS_f ht (fun q => by obtain ⟨q1, q2, q3, q4, q5, q6⟩ := q; omega), rfl⟩ dX0_canStep_119
            · refine lv_iload C.1 C.2.1 dX0_canStep_89 (lv_at hl 1 rfl) ?_
              refine x_if_lt C ⟨by omega, by omega⟩ (tgt := 118) dX0_canStep_91 (by decide) (fun c91 => ?_) (fun c91 => ?_)
              · refine lv_iconst (v := iI 0) C.1 C.2.1 dX0_canStep_118 (by decide) ?_
                exact x_zret C hr hM (by first | exact Or.inl rfl | exact Or.inr rfl | omega) ⟨canS_f ht (fun q => by obtain ⟨q1, q2, q3, q4, q5, q6⟩ := q; omega), rfl⟩ dX0_canStep_119
              · refine lv_iload C.1 C.2.1 dX0_canStep_94 (lv_at hl 1 rfl) ?_
                refine lv_aload_n C.1 C.2.1 dX0_canStep_96 rfl (lv_at hl 5 rfl) ?_
                refine g_X0_2 C hM (hI 1 (by decide)) wf_X0_23 dX0_canStep_97 ?_
                refine x_icmp_ge C ⟨by omega, by omega⟩ ⟨by omega, by omega⟩ (tgt := 118) dX0_canStep_100 (by decide) (fun c100 => ?_) (fun c100 => ?_)
                · refine lv_iconst (v := iI 0) C.1 C.2.1 dX0_canStep_118 (by decide) ?_
                  exact x_zret C hr hM (by first | exact Or.inl rfl | exact Or.inr rfl | omega) ⟨canS_f ht (fun q => by obtain ⟨q1, q2, q3, q4, q5, q6⟩ := q; omega), rfl⟩ dX0_canStep_119
                · have g2 := geo (r := r - 1) (by omega) (by omega) w1 w2 h2
                  have cb2 := hC ((r - 1) * σ 2 0 + (k + d))
                  refine lv_iload C.1 C.2.1 dX0_canStep_103 (lv_at hl 0 rfl) ?_
                  refine x_if_lt C ⟨by omega, by omega⟩ (tgt := 118) dX0_canStep_105 (by decide) (fun c105 => ?_) (fun c105 => ?_)
                  · exfalso; omega
                  · refine lv_iload C.1 C.2.1 dX0_canStep_108 (lv_at hl 0 rfl) ?_
                    refine lv_aload_n C.1 C.2.1 dX0_canStep_110 rfl (lv_at hl 5 rfl) ?_
                    refine g_X0_0 C hM (hI 1 (by decide)) wf_X0_9 dX0_canStep_111 ?_
                    refine ln_2 C hM (hI 2 (by decide)) dX0_canStep_114 ?_
                    refine x_icmp_lt C ⟨by omega, by omega⟩ ⟨by omega, by omega⟩ (tgt := 120) dX0_canStep_115 (by decide) (fun c115 => ?_) (fun c115 => ?_)
                    · refine lv_iload_n C.1 C.2.1 dX0_canStep_120 rfl (lv_at hl 8 rfl) ?_
                      refine x_if_ne C ⟨by omega, by omega⟩ (tgt := 142) dX0_canStep_121 (by decide) (fun c121 => ?_) (fun c121 => ?_)
                      · refine lv_aload_n C.1 C.2.1 dX0_canStep_142 rfl (lv_at hl 5 rfl) ?_
                        refine g_X0_0 C hM (hI 1 (by decide)) wf_X0_9 dX0_canStep_143 ?_
                        refine lv_iload C.1 C.2.1 dX0_canStep_146 (lv_at hl 0 rfl) ?_
                        refine al_2 C hM (hI 2 (by decide)) (by omega) (by omega) dX0_canStep_148 ?_
                        refine lv_iconst (v := iI 3) C.1 C.2.1 dX0_canStep_149 (by decide) ?_
                        refine lv_iload C.1 C.2.1 dX0_canStep_150 (lv_at hl 2 rfl) ?_
                        refine x_isub C dX0_canStep_152 ?_
                        refine x_icmp_ne C ⟨by omega, by omega⟩ ⟨by omega, by omega⟩ (tgt := 160) dX0_canStep_153 (by decide) (fun c153 => ?_) (fun c153 => ?_)
                        · refine lv_iconst (v := iI 0) C.1 C.2.1 dX0_canStep_160 (by decide) ?_
                          exact x_zret C hr hM (by first | exact Or.inl rfl | exact Or.inr rfl | omega) ⟨canS_f ht (fun q => by obtain ⟨q1, q2, q3, q4, q5, q6⟩ := q; split at q6 <;> omega), rfl⟩ dX0_canStep_161
                        · refine lv_iconst (v := iI 1) C.1 C.2.1 dX0_canStep_156 (by decide) ?_
                          refine lv_goto (tgt := 161) C.1 C.2.1 dX0_canStep_157 (by decide) ?_
                          exact x_zret C hr hM (by first | exact Or.inl rfl | exact Or.inr rfl | omega) ⟨canS_t ht ⟨by omega, by omega, by omega, by omega, by omega, by split <;> omega⟩, rfl⟩ dX0_canStep_161
                      · refine lv_aload_n C.1 C.2.1 dX0_canStep_124 rfl (lv_at hl 5 rfl) ?_
                        refine g_X0_0 C hM (hI 1 (by decide)) wf_X0_9 dX0_canStep_125 ?_
                        refine lv_iload C.1 C.2.1 dX0_canStep_128 (lv_at hl 0 rfl) ?_
                        refine al_2 C hM (hI 2 (by decide)) (by omega) (by omega) dX0_canStep_130 ?_
                        refine x_if_ne C ⟨by omega, by omega⟩ (tgt := 138) dX0_canStep_131 (by decide) (fun c131 => ?_) (fun c131 => ?_)
                        · refine lv_iconst (v := iI 0) C.1 C.2.1 dX0_canStep_138 (by decide) ?_
                          refine lv_goto (tgt := 161) C.1 C.2.1 dX0_canStep_139 (by decide) ?_
                          exact x_zret C hr hM (by first | exact Or.inl rfl | exact Or.inr rfl | omega) ⟨canS_f ht (fun q => by obtain ⟨q1, q2, q3, q4, q5, q6⟩ := q; split at q6 <;> omega), rfl⟩ dX0_canStep_161
                        · refine lv_iconst (v := iI 1) C.1 C.2.1 dX0_canStep_134 (by decide) ?_
                          refine lv_goto (tgt := 161) C.1 C.2.1 dX0_canStep_135 (by decide) ?_
                          exact x_zret C hr hM (by first | exact Or.inl rfl | exact Or.inr rfl | omega) ⟨canS_t ht ⟨by omega, by omega, by omega, by omega, by omega, by split <;> omega⟩, rfl⟩ dX0_canStep_161
                    · exfalso; omega
          · refine lv_iload_n C.1 C.2.1 dX0_canStep_61 rfl (lv_at hl 4 rfl) ?_
            refine lv_iconst (v := iI 1) C.1 C.2.1 dX0_canStep_62 (by decide) ?_
            refine x_iadd C dX0_canStep_63 ?_
            refine lv_goto (tgt := 70) C.1 C.2.1 dX0_canStep_64 (by decide) ?_
            refine lv_istore (lv' := [(7, .int (iI (r + 1))), (6, .int (iI (σ 1 ((r * (σ 2 0)) + k)))), (5, .int (iI (k + d))), (4, .int (iI ((r * (σ 2 0)) + k))), (0, .ref (ad 1)), (1, .int (iI r)), (2, .int (iI k)), (3, .int (iI d))]) C.1 C.2.1 dX0_canStep_70 hl (by decide) rfl (fun ls hl => ?_)
            have ht : trow (σ 1 (r * σ 2 0 + k)) r = r + 1 := if_pos (by omega)
            refine lv_iload C.1 C.2.1 dX0_canStep_72 (lv_at hl 0 rfl) ?_
            refine lv_aload_n C.1 C.2.1 dX0_canStep_74 rfl (lv_at hl 4 rfl) ?_
            refine g_X0_1 C hM (hI 1 (by decide)) wf_X0_19 dX0_canStep_75 ?_
            refine x_imul C dX0_canStep_78 ?_
            refine lv_iload C.1 C.2.1 dX0_canStep_79 (lv_at hl 2 rfl) ?_
            refine x_iadd C dX0_canStep_81 ?_
            refine lv_istore (lv' := [(8, .int (iI (((r + 1) * (σ 2 0)) + (k + d)))), (7, .int (iI (r + 1))), (6, .int (iI (σ 1 ((r * (σ 2 0)) + k)))), (5, .int (iI (k + d))), (4, .int (iI ((r * (σ 2 0)) + k))), (0, .ref (ad 1)), (1, .int (iI r)), (2, .int (iI k)), (3, .int (iI d))]) C.1 C.2.1 dX0_canStep_82 hl (by decide) rfl (fun ls hl => ?_)
            refine lv_iload C.1 C.2.1 dX0_canStep_84 (lv_at hl 2 rfl) ?_
            refine x_if_eq C ⟨by omega, by omega⟩ (tgt := 118) dX0_canStep_86 (by decide) (fun c86 => ?_) (fun c86 => ?_)
            · refine lv_iconst (v := iI 0) C.1 C.2.1 dX0_canStep_118 (by decide) ?_
              exact x_zret C hr hM (by first | exact Or.inl rfl | exact Or.inr rfl | omega) ⟨canS_f ht (fun q => by obtain ⟨q1, q2, q3, q4, q5, q6⟩ := q; omega), rfl⟩ dX0_canStep_119
            · refine lv_iload C.1 C.2.1 dX0_canStep_89 (lv_at hl 1 rfl) ?_
              refine x_if_lt C ⟨by omega, by omega⟩ (tgt := 118) dX0_canStep_91 (by decide) (fun c91 => ?_) (fun c91 => ?_)
              · refine lv_iconst (v := iI 0) C.1 C.2.1 dX0_canStep_118 (by decide) ?_
                exact x_zret C hr hM (by first | exact Or.inl rfl | exact Or.inr rfl | omega) ⟨canS_f ht (fun q => by obtain ⟨q1, q2, q3, q4, q5, q6⟩ := q; omega), rfl⟩ dX0_canStep_119
              · refine lv_iload C.1 C.2.1 dX0_canStep_94 (lv_at hl 1 rfl) ?_
                refine lv_aload_n C.1 C.2.1 dX0_canStep_96 rfl (lv_at hl 5 rfl) ?_
                refine g_X0_2 C hM (hI 1 (by decide)) wf_X0_23 dX0_canStep_97 ?_
                refine x_icmp_ge C ⟨by omega, by omega⟩ ⟨by omega, by omega⟩ (tgt := 118) dX0_canStep_100 (by decide) (fun c100 => ?_) (fun c100 => ?_)
                · refine lv_iconst (v := iI 0) C.1 C.2.1 dX0_canStep_118 (by decide) ?_
                  exact x_zret C hr hM (by first | exact Or.inl rfl | exact Or.inr rfl | omega) ⟨canS_f ht (fun q => by obtain ⟨q1, q2, q3, q4, q5, q6⟩ := q; omega), rfl⟩ dX0_canStep_119
                · have g2 := geo (r := r + 1) (by omega) (by omega) w1 w2 h2
                  have cb2 := hC ((r + 1) * σ 2 0 + (k + d))
                  refine lv_iload C.1 C.2.1 dX0_canStep_103 (lv_at hl 0 rfl) ?_
                  refine x_if_lt C ⟨by omega, by omega⟩ (tgt := 118) dX0_canStep_105 (by decide) (fun c105 => ?_) (fun c105 => ?_)
                  · exfalso; omega
                  · refine lv_iload C.1 C.2.1 dX0_canStep_108 (lv_at hl 0 rfl) ?_
                    refine lv_aload_n C.1 C.2.1 dX0_canStep_110 rfl (lv_at hl 5 rfl) ?_
                    refine g_X0_0 C hM (hI 1 (by decide)) wf_X0_9 dX0_canStep_111 ?_
                    refine ln_2 C hM (hI 2 (by decide)) dX0_canStep_114 ?_
                    refine x_icmp_lt C ⟨by omega, by omega⟩ ⟨by omega, by omega⟩ (tgt := 120) dX0_canStep_115 (by decide) (fun c115 => ?_) (fun c115 => ?_)
                    · refine lv_iload_n C.1 C.2.1 dX0_canStep_120 rfl (lv_at hl 8 rfl) ?_
                      refine x_if_ne C ⟨by omega, by omega⟩ (tgt := 142) dX0_canStep_121 (by decide) (fun c121 => ?_) (fun c121 => ?_)
                      · refine lv_aload_n C.1 C.2.1 dX0_canStep_142 rfl (lv_at hl 5 rfl) ?_
                        refine g_X0_0 C hM (hI 1 (by decide)) wf_X0_9 dX0_canStep_143 ?_
                        refine lv_iload C.1 C.2.1 dX0_canStep_146 (lv_at hl 0 rfl) ?_
                        refine al_2 C hM (hI 2 (by decide)) (by omega) (by omega) dX0_canStep_148 ?_
                        refine lv_iconst (v := iI 3) C.1 C.2.1 dX0_canStep_149 (by decide) ?_
                        refine lv_iload C.1 C.2.1 dX0_canStep_150 (lv_at hl 2 rfl) ?_
                        refine x_isub C dX0_canStep_152 ?_
                        refine x_icmp_ne C ⟨by omega, by omega⟩ ⟨by omega, by omega⟩ (tgt := 160) dX0_canStep_153 (by decide) (fun c153 => ?_) (fun c153 => ?_)
                        · refine lv_iconst (v := iI 0) C.1 C.2.1 dX0_canStep_160 (by decide) ?_
                          exact x_zret C hr hM (by first | exact Or.inl rfl | exact Or.inr rfl | omega) ⟨canS_f ht (fun q => by obtain ⟨q1, q2, q3, q4, q5, q6⟩ := q; split at q6 <;> omega), rfl⟩ dX0_canStep_161
                        · refine lv_iconst (v := iI 1) C.1 C.2.1 dX0_canStep_156 (by decide) ?_
                          refine lv_goto (tgt := 161) C.1 C.2.1 dX0_canStep_157 (by decide) ?_
                          exact x_zret C hr hM (by first | exact Or.inl rfl | exact Or.inr rfl | omega) ⟨canS_t ht ⟨by omega, by omega, by omega, by omega, by omega, by split <;> omega⟩, rfl⟩ dX0_canStep_161
                      · refine lv_aload_n C.1 C.2.1 dX0_canStep_124 rfl (lv_at hl 5 rfl) ?_
                        refine g_X0_0 C hM (hI 1 (by decide)) wf_X0_9 dX0_canStep_125 ?_
                        refine lv_iload C.1 C.2.1 dX0_canStep_128 (lv_at hl 0 rfl) ?_
                        refine al_2 C hM (hI 2 (by decide)) (by omega) (by omega) dX0_canStep_130 ?_
                        refine x_if_ne C ⟨by omega, by omega⟩ (tgt := 138) dX0_canStep_131 (by decide) (fun c131 => ?_) (fun c131 => ?_)
                        · refine lv_iconst (v := iI 0) C.1 C.2.1 dX0_canStep_138 (by decide) ?_
                          refine lv_goto (tgt := 161) C.1 C.2.1 dX0_canStep_139 (by decide) ?_
                          exact x_zret C hr hM (by first | exact Or.inl rfl | exact Or.inr rfl | omega) ⟨canS_f ht (fun q => by obtain ⟨q1, q2, q3, q4, q5, q6⟩ := q; split at q6 <;> omega), rfl⟩ dX0_canStep_161
                        · refine lv_iconst (v := iI 1) C.1 C.2.1 dX0_canStep_134 (by decide) ?_
                          refine lv_goto (tgt := 161) C.1 C.2.1 dX0_canStep_135 (by decide) ?_
                          exact x_zret C hr hM (by first | exact Or.inl rfl | exact Or.inr rfl | omega) ⟨canS_t ht ⟨by omega, by omega, by omega, by omega, by omega, by split <;> omega⟩, rfl⟩ dX0_canStep_161
                    · exfalso; omega
        · refine lv_iconst (v := iI 0) C.1 C.2.1 dX0_canStep_44 (by decide) ?_
          exact x_zret C hr hM (by first | exact Or.inl rfl | exact Or.inr rfl | omega) ⟨canS_f rfl (fun q => by obtain ⟨q1, q2, q3, q4, q5, q6⟩ := q; omega), rfl⟩ dX0_canStep_45
