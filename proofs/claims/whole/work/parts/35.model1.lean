set_option maxRecDepth 100000 in
set_option maxHeartbeats 4000000 in
theorem c_X12_sideNow (l : Launch) (D : va_G) (ad : Nat → Nat) (G : Nat → Nat) (ids : List Nat) (hJ : ∀ k, 100 ≤ k → k < 233 → k ∈ ids) (σ : Sg)  (hB : BG (mw σ)) : MET l yX12_sideNow cX12_sideNow 1 (some .int) 1 [.ref (ad 100)] D ad G ids σ (QI D ad G ids (fun z σ' => σ 204 0 = z ∧ σ = σ')) := by
  have w1 : 3 ≤ σ 202 0 := hB.1
  have w2 : σ 202 0 ≤ 5 := hB.2.1
  have h1 : 3 ≤ σ 203 0 := hB.2.2.1
  have h2 : σ 203 0 ≤ 5 := hB.2.2.2
  have wb := wh_bd w1 w2 h1 h2
  refine x_enter (by decide) (Nat.le_of_ble_eq_true rfl) ?_
  intro pp ee ss mm args below meth cq C hr ls hl hM
  have hl : lv_has ls 1 [(0, .ref (ad 100))] := hl
  refine lv_aload_n C.1 C.2.1 dX12_sideNow_0 rfl (lv_at hl 0 rfl) ?_
  refine g_X12_3 C hM (hJ 100 (by decide) (by decide)) wf_X12_73 dX12_sideNow_1 ?_
  refine lv_aload_n C.1 C.2.1 dX12_sideNow_4 rfl (lv_at hl 0 rfl) ?_
  refine g_X12_3 C hM (hJ 100 (by decide) (by decide)) wf_X12_73 dX12_sideNow_5 ?_
  refine ln_now C hM (hJ 101 (by decide) (by decide)) (wh := (σ 202 0 * σ 203 0)) rfl (by omega) dX12_sideNow_8 ?_
  refine lv_iconst (v := iI 1) C.1 C.2.1 dX12_sideNow_9 (by decide) ?_
  refine x_isub C dX12_sideNow_10 ?_
  refine al_nowS C hM (hJ 101 (by decide) (by decide)) (wh := (σ 202 0 * σ 203 0)) rfl (by omega) (by omega) dX12_sideNow_11 ?_
  exact x_iret C hr hM ⟨rfl, rfl⟩ dX12_sideNow_12
set_option maxRecDepth 100000 in
set_option maxHeartbeats 4000000 in
theorem c_X12_goal (l : Launch) (D : va_G) (ad : Nat → Nat) (G : Nat → Nat) (ids : List Nat) (hJ : ∀ k, 100 ≤ k → k < 233 → k ∈ ids) (σ : Sg) (s : Int) (hB : BG (mw σ)) (hs : IR s) : MET l yX12_goal cX12_goal 2 (some .int) 1 [.ref (ad 100), .int (iI s)] D ad G ids σ (QI D ad G ids (fun z σ' => (if s = 0 then σ 203 0 - 1 else 0) = z ∧ σ = σ')) := by
  have w1 : 3 ≤ σ 202 0 := hB.1
  have w2 : σ 202 0 ≤ 5 := hB.2.1
  have h1 : 3 ≤ σ 203 0 := hB.2.2.1
  have h2 : σ 203 0 ≤ 5 := hB.2.2.2
  have wb := wh_bd w1 w2 h1 h2
  refine x_enter (by decide) (Nat.le_of_ble_eq_true rfl) ?_
  intro pp ee ss mm args below meth cq C hr ls hl hM
  have hl : lv_has ls 2 [(0, .ref (ad 100)), (1, .int (iI s))] := hl
  refine lv_iload_n C.1 C.2.1 dX12_goal_0 rfl (lv_at hl 1 rfl) ?_
  refine x_if_ne C ⟨by omega, by omega⟩ (tgt := 13) dX12_goal_1 (by decide) (fun c1 => ?_) (fun c1 => ?_)
  · refine lv_iconst (v := iI 0) C.1 C.2.1 dX12_goal_13 (by decide) ?_
    exact x_iret C hr hM ⟨by rw [if_neg (by omega)], rfl⟩ dX12_goal_14
  · refine lv_aload_n C.1 C.2.1 dX12_goal_4 rfl (lv_at hl 0 rfl) ?_
    refine g_X12_2 C hM (hJ 100 (by decide) (by decide)) wf_X12_70 dX12_goal_5 ?_
    refine lv_iconst (v := iI 1) C.1 C.2.1 dX12_goal_8 (by decide) ?_
    refine x_isub C dX12_goal_9 ?_
    refine lv_goto (tgt := 14) C.1 C.2.1 dX12_goal_10 (by decide) ?_
    exact x_iret C hr hM ⟨by rw [if_pos (by omega)], rfl⟩ dX12_goal_14
set_option maxRecDepth 100000 in
set_option maxHeartbeats 4000000 in
theorem c_X12_is (l : Launch) (D : va_G) (ad : Nat → Nat) (G : Nat → Nat) (ids : List Nat) (hJ : ∀ k, 100 ≤ k → k < 233 → k ∈ ids) (σ : Sg) (a b d : Int) (ha : IR a) (hb : IR b) (hd : IR d) : MET l yX12_is cX12_is 3 (some .boolean) 1 [.int (iI a), .int (iI b), .int (iI d)] D ad G ids σ (QI D ad G ids (fun z σ' => (if b ≤ a ∧ a ≤ d then 1 else 0) = z ∧ σ = σ')) := by
  refine x_enter (by decide) (Nat.le_of_ble_eq_true rfl) ?_
  intro pp ee ss mm args below meth cq C hr ls hl hM
  have hl : lv_has ls 3 [(0, .int (iI a)), (1, .int (iI b)), (2, .int (iI d))] := hl
  refine lv_iload_n C.1 C.2.1 dX12_is_0 rfl (lv_at hl 0 rfl) ?_
  refine lv_iload_n C.1 C.2.1 dX12_is_1 rfl (lv_at hl 1 rfl) ?_
  refine x_icmp_lt C ⟨by omega, by omega⟩ ⟨by omega, by omega⟩ (tgt := 14) dX12_is_2 (by decide) (fun c2 => ?_) (fun c2 => ?_)
  · refine lv_iconst (v := iI 0) C.1 C.2.1 dX12_is_14 (by decide) ?_
    exact x_zret C hr hM (by first | exact Or.inl rfl | exact Or.inr rfl | omega) ⟨by rw [if_neg (by omega)], rfl⟩ dX12_is_15
  · refine lv_iload_n C.1 C.2.1 dX12_is_5 rfl (lv_at hl 0 rfl) ?_
    refine lv_iload_n C.1 C.2.1 dX12_is_6 rfl (lv_at hl 2 rfl) ?_
    refine x_icmp_gt C ⟨by omega, by omega⟩ ⟨by omega, by omega⟩ (tgt := 14) dX12_is_7 (by decide) (fun c7 => ?_) (fun c7 => ?_)
    · refine lv_iconst (v := iI 0) C.1 C.2.1 dX12_is_14 (by decide) ?_
      exact x_zret C hr hM (by first | exact Or.inl rfl | exact Or.inr rfl | omega) ⟨by rw [if_neg (by omega)], rfl⟩ dX12_is_15
    · refine lv_iconst (v := iI 1) C.1 C.2.1 dX12_is_10 (by decide) ?_
      refine lv_goto (tgt := 15) C.1 C.2.1 dX12_is_11 (by decide) ?_
      exact x_zret C hr hM (by first | exact Or.inl rfl | exact Or.inr rfl | omega) ⟨by rw [if_pos (by omega)], rfl⟩ dX12_is_15
set_option maxRecDepth 100000 in
set_option maxHeartbeats 4000000 in
theorem c_X12_target (l : Launch) (D : va_G) (ad : Nat → Nat) (G : Nat → Nat) (ids : List Nat) (hJ : ∀ k, 100 ≤ k → k < 233 → k ∈ ids) (σ : Sg) (s f d : Int) (hB : BG (mw σ)) (hf0 : 0 ≤ f ∧ f < σ 202 0 * σ 203 0) (hs0 : s = 0 ∨ s = 1) (hd0 : -1 ≤ d ∧ d ≤ 1) : MET l yX12_target cX12_target 6 (some .int) 2 [.ref (ad 100), .int (iI s), .int (iI f), .int (iI d)] D ad G ids σ (QI D ad G ids (fun z σ' => tgM (σ 202 0) (σ 203 0) s f d = z ∧ σ = σ')) := by
  have w1 : 3 ≤ σ 202 0 := hB.1
  have w2 : σ 202 0 ≤ 5 := hB.2.1
  have h1 : 3 ≤ σ 203 0 := hB.2.2.1
  have h2 : σ 203 0 ≤ 5 := hB.2.2.2
  have wb := wh_bd w1 w2 h1 h2
  have g := fld2 hf0.1 hf0.2 w1 w2 h1 h2
  refine x_enter (by decide) (Nat.le_of_ble_eq_true rfl) ?_
  intro pp ee ss mm args below meth cq C hr ls hl hM
  have hl : lv_has ls 6 [(0, .ref (ad 100)), (1, .int (iI s)), (2, .int (iI f)), (3, .int (iI d))] := hl
  refine lv_iload_n C.1 C.2.1 dX12_target_0 rfl (lv_at hl 2 rfl) ?_
  refine lv_aload_n C.1 C.2.1 dX12_target_1 rfl (lv_at hl 0 rfl) ?_
  refine g_X12_1 C hM (hJ 100 (by decide) (by decide)) wf_X12_67 dX12_target_2 ?_
  refine x_idiv2 C ⟨by omega, by omega, by omega⟩ ⟨by omega, by omega, by omega⟩ dX12_target_5 ?_
  refine lv_iload_n C.1 C.2.1 dX12_target_6 rfl (lv_at hl 1 rfl) ?_
  refine x_if_ne C ⟨by omega, by omega⟩ (tgt := 14) dX12_target_7 (by decide) (fun c7 => ?_) (fun c7 => ?_)
  · refine lv_iconst (v := iI (-1)) C.1 C.2.1 dX12_target_14 (by decide) ?_
    refine x_iadd C dX12_target_15 ?_
    refine lv_istore (lv' := [(4, .int (iI ((f / (σ 202 0)) + (-1)))), (0, .ref (ad 100)), (1, .int (iI s)), (2, .int (iI f)), (3, .int (iI d))]) C.1 C.2.1 dX12_target_16 hl (by decide) rfl (fun ls hl => ?_)
    refine lv_iload_n C.1 C.2.1 dX12_target_18 rfl (lv_at hl 3 rfl) ?_
    refine lv_aload_n C.1 C.2.1 dX12_target_19 rfl (lv_at hl 1 rfl) ?_
    refine g_X12_1 C hM (hJ 100 (by decide) (by decide)) wf_X12_67 dX12_target_20 ?_
    refine x_irem2 C ⟨by omega, by omega, by omega⟩ ⟨by omega, by omega, by omega⟩ dX12_target_23 ?_
    refine lv_iload_n C.1 C.2.1 dX12_target_24 rfl (lv_at hl 4 rfl) ?_
    refine x_iadd C dX12_target_25 ?_
    refine lv_istore (lv' := [(5, .int (iI ((f % (σ 202 0)) + d))), (4, .int (iI ((f / (σ 202 0)) + (-1)))), (0, .ref (ad 100)), (1, .int (iI s)), (2, .int (iI f)), (3, .int (iI d))]) C.1 C.2.1 dX12_target_26 hl (by decide) rfl (fun ls hl => ?_)
    refine lv_iload C.1 C.2.1 dX12_target_28 (lv_at hl 1 rfl) ?_
    refine lv_iconst (v := iI 0) C.1 C.2.1 dX12_target_30 (by decide) ?_
    refine lv_aload_n C.1 C.2.1 dX12_target_31 rfl (lv_at hl 2 rfl) ?_
    refine g_X12_2 C hM (hJ 100 (by decide) (by decide)) wf_X12_70 dX12_target_32 ?_
    refine lv_iconst (v := iI 1) C.1 C.2.1 dX12_target_35 (by decide) ?_
    refine x_isub C dX12_target_36 ?_
    refine x_ci (x_runS (As := [.int (iI ((f / (σ 202 0)) + (-1))), .int (iI 0), .int (iI ((σ 203 0) - 1))]) (rest := []) C (by omega) cw_X12_83 (c_X12_is l D ad G ids hJ σ ((f / (σ 202 0)) + (-1)) 0 ((σ 203 0) - 1) (by omega) (by omega) (by omega)) hM rfl rfl (Nat.le_of_ble_eq_true rfl) hl.1 dX12_target_37) hM (fun r37 s37 H1 lc1 hp hM => ?_)
    obtain ⟨hbs37, rfl⟩ := hp
    obtain ⟨ts37, ks37⟩ := ite01 hbs37
    refine x_if_eq C ⟨by omega, by omega⟩ (tgt := 71) dX12_target_40 (by decide) (fun c40 => ?_) (fun c40 => ?_)
    · refine lv_iconst (v := iI (-1)) C.1 C.2.1 dX12_target_71 (by decide) ?_
      exact x_iret C hr hM ⟨by unfold tgM; rw [if_neg (show ¬ s = 0 by omega)]; exact if_neg (by omega), rfl⟩ dX12_target_72
    · refine lv_iload C.1 C.2.1 dX12_target_43 (lv_at hl 0 rfl) ?_
      refine lv_iconst (v := iI 0) C.1 C.2.1 dX12_target_45 (by decide) ?_
      refine lv_aload_n C.1 C.2.1 dX12_target_46 rfl (lv_at hl 2 rfl) ?_
      refine g_X12_1 C hM (hJ 100 (by decide) (by decide)) wf_X12_67 dX12_target_47 ?_
      refine lv_iconst (v := iI 1) C.1 C.2.1 dX12_target_50 (by decide) ?_
      refine x_isub C dX12_target_51 ?_
      refine x_ci (x_runS (As := [.int (iI ((f % (σ 202 0)) + d)), .int (iI 0), .int (iI ((σ 202 0) - 1))]) (rest := []) C (by omega) cw_X12_83 (c_X12_is l D ad G ids hJ σ ((f % (σ 202 0)) + d) 0 ((σ 202 0) - 1) (by omega) (by omega) (by omega)) hM rfl rfl (Nat.le_of_ble_eq_true rfl) hl.1 dX12_target_52) hM (fun r52 s52 H1 lc1 hp hM => ?_)
      obtain ⟨hbs52, rfl⟩ := hp
      obtain ⟨ts52, ks52⟩ := ite01 hbs52
      refine x_if_eq C ⟨by omega, by omega⟩ (tgt := 71) dX12_target_55 (by decide) (fun c55 => ?_) (fun c55 => ?_)
      · refine lv_iconst (v := iI (-1)) C.1 C.2.1 dX12_target_71 (by decide) ?_
        exact x_iret C hr hM ⟨by unfold tgM; rw [if_neg (show ¬ s = 0 by omega)]; exact if_neg (by omega), rfl⟩ dX12_target_72
      · refine lv_iload C.1 C.2.1 dX12_target_58 (lv_at hl 1 rfl) ?_
        refine lv_aload_n C.1 C.2.1 dX12_target_60 rfl (lv_at hl 2 rfl) ?_
        refine g_X12_1 C hM (hJ 100 (by decide) (by decide)) wf_X12_67 dX12_target_61 ?_
        refine x_imul C dX12_target_64 ?_
        refine lv_iload C.1 C.2.1 dX12_target_65 (lv_at hl 0 rfl) ?_
        refine x_iadd C dX12_target_67 ?_
        refine lv_goto (tgt := 72) C.1 C.2.1 dX12_target_68 (by decide) ?_
        exact x_iret C hr hM ⟨by unfold tgM; rw [if_neg (show ¬ s = 0 by omega)]; exact if_pos (by omega), rfl⟩ dX12_target_72
  · refine lv_iconst (v := iI 1) C.1 C.2.1 dX12_target_10 (by decide) ?_
    refine lv_goto (tgt := 15) C.1 C.2.1 dX12_target_11 (by decide) ?_
    refine x_iadd C dX12_target_15 ?_
    refine lv_istore (lv' := [(4, .int (iI ((f / (σ 202 0)) + 1))), (0, .ref (ad 100)), (1, .int (iI s)), (2, .int (iI f)), (3, .int (iI d))]) C.1 C.2.1 dX12_target_16 hl (by decide) rfl (fun ls hl => ?_)
    refine lv_iload_n C.1 C.2.1 dX12_target_18 rfl (lv_at hl 3 rfl) ?_
    refine lv_aload_n C.1 C.2.1 dX12_target_19 rfl (lv_at hl 1 rfl) ?_
    refine g_X12_1 C hM (hJ 100 (by decide) (by decide)) wf_X12_67 dX12_target_20 ?_
    refine x_irem2 C ⟨by omega, by omega, by omega⟩ ⟨by omega, by omega, by omega⟩ dX12_target_23 ?_
    refine lv_iload_n C.1 C.2.1 dX12_target_24 rfl (lv_at hl 4 rfl) ?_
    refine x_iadd C dX12_target_25 ?_
    refine lv_istore (lv' := [(5, .int (iI ((f % (σ 202 0)) + d))), (4, .int (iI ((f / (σ 202 0)) + 1))), (0, .ref (ad 100)), (1, .int (iI s)), (2, .int (iI f)), (3, .int (iI d))]) C.1 C.2.1 dX12_target_26 hl (by decide) rfl (fun ls hl => ?_)
    refine lv_iload C.1 C.2.1 dX12_target_28 (lv_at hl 1 rfl) ?_
    refine lv_iconst (v := iI 0) C.1 C.2.1 dX12_target_30 (by decide) ?_
    refine lv_aload_n C.1 C.2.1 dX12_target_31 rfl (lv_at hl 2 rfl) ?_
    refine g_X12_2 C hM (hJ 100 (by decide) (by decide)) wf_X12_70 dX12_target_32 ?_
    refine lv_iconst (v := iI 1) C.1 C.2.1 dX12_target_35 (by decide) ?_
    refine x_isub C dX12_target_36 ?_
    refine x_ci (x_runS (As := [.int (iI ((f / (σ 202 0)) + 1)), .int (iI 0), .int (iI ((σ 203 0) - 1))]) (rest := []) C (by omega) cw_X12_83 (c_X12_is l D ad G ids hJ σ ((f / (σ 202 0)) + 1) 0 ((σ 203 0) - 1) (by omega) (by omega) (by omega)) hM rfl rfl (Nat.le_of_ble_eq_true rfl) hl.1 dX12_target_37) hM (fun r37 s37 H1 lc1 hp hM => ?_)
    obtain ⟨hbs37, rfl⟩ := hp
    obtain ⟨ts37, ks37⟩ := ite01 hbs37
    refine x_if_eq C ⟨by omega, by omega⟩ (tgt := 71) dX12_target_40 (by decide) (fun c40 => ?_) (fun c40 => ?_)
    · refine lv_iconst (v := iI (-1)) C.1 C.2.1 dX12_target_71 (by decide) ?_
      exact x_iret C hr hM ⟨by unfold tgM; rw [if_pos (show s = 0 by omega)]; exact if_neg (by omega), rfl⟩ dX12_target_72
    · refine lv_iload C.1 C.2.1 dX12_target_43 (lv_at hl 0 rfl) ?_
      refine lv_iconst (v := iI 0) C.1 C.2.1 dX12_target_45 (by decide) ?_
      refine lv_aload_n C.1 C.2.1 dX12_target_46 rfl (lv_at hl 2 rfl) ?_
      refine g_X12_1 C hM (hJ 100 (by decide) (by decide)) wf_X12_67 dX12_target_47 ?_
      refine lv_iconst (v := iI 1) C.1 C.2.1 dX12_target_50 (by decide) ?_
      refine x_isub C dX12_target_51 ?_
      refine x_ci (x_runS (As := [.int (iI ((f % (σ 202 0)) + d)), .int (iI 0), .int (iI ((σ 202 0) - 1))]) (rest := []) C (by omega) cw_X12_83 (c_X12_is l D ad G ids hJ σ ((f % (σ 202 0)) + d) 0 ((σ 202 0) - 1) (by omega) (by omega) (by omega)) hM rfl rfl (Nat.le_of_ble_eq_true rfl) hl.1 dX12_target_52) hM (fun r52 s52 H1 lc1 hp hM => ?_)
      obtain ⟨hbs52, rfl⟩ := hp
      obtain ⟨ts52, ks52⟩ := ite01 hbs52
      refine x_if_eq C ⟨by omega, by omega⟩ (tgt := 71) dX12_target_55 (by decide) (fun c55 => ?_) (fun c55 => ?_)
      · refine lv_iconst (v := iI (-1)) C.1 C.2.1 dX12_target_71 (by decide) ?_
        exact x_iret C hr hM ⟨by unfold tgM; rw [if_pos (show s = 0 by omega)]; exact if_neg (by omega), rfl⟩ dX12_target_72
      · refine lv_iload C.1 C.2.1 dX12_target_58 (lv_at hl 1 rfl) ?_
        refine lv_aload_n C.1 C.2.1 dX12_target_60 rfl (lv_at hl 2 rfl) ?_
        refine g_X12_1 C hM (hJ 100 (by decide) (by decide)) wf_X12_67 dX12_target_61 ?_
        refine x_imul C dX12_target_64 ?_
        refine lv_iload C.1 C.2.1 dX12_target_65 (lv_at hl 0 rfl) ?_
        refine x_iadd C dX12_target_67 ?_
        refine lv_goto (tgt := 72) C.1 C.2.1 dX12_target_68 (by decide) ?_
        exact x_iret C hr hM ⟨by unfold tgM; rw [if_pos (show s = 0 by omega)]; exact if_pos (by omega), rfl⟩ dX12_target_72
set_option maxRecDepth 100000 in
set_option maxHeartbeats 4000000 in
theorem c_X12_isStep (l : Launch) (D : va_G) (ad : Nat → Nat) (G : Nat → Nat) (ids : List Nat) (hJ : ∀ k, 100 ≤ k → k < 233 → k ∈ ids) (σ : Sg) (s f d : Int) (hB : BG (mw σ)) (hC : BC (σ 201)) (hf0 : 0 ≤ f ∧ f < σ 202 0 * σ 203 0) (hs0 : s = 0 ∨ s = 1) (hd0 : -1 ≤ d ∧ d ≤ 1) : MET l yX12_isStep cX12_isStep 5 (some .boolean) 3 [.ref (ad 100), .int (iI s), .int (iI f), .int (iI d)] D ad G ids σ (QI D ad G ids (fun z σ' => bI (isM (σ 201) (σ 202 0) (σ 203 0) s f d) = z ∧ σ = σ')) := by
  have w1 : 3 ≤ σ 202 0 := hB.1
  have w2 : σ 202 0 ≤ 5 := hB.2.1
  have h1 : 3 ≤ σ 203 0 := hB.2.2.1
  have h2 : σ 203 0 ≤ 5 := hB.2.2.2
  have wb := wh_bd w1 w2 h1 h2
  have hcf := hC f
  refine x_enter (by decide) (Nat.le_of_ble_eq_true rfl) ?_
  intro pp ee ss mm args below meth cq C hr ls hl hM
  have hl : lv_has ls 5 [(0, .ref (ad 100)), (1, .int (iI s)), (2, .int (iI f)), (3, .int (iI d))] := hl
  refine lv_aload_n C.1 C.2.1 dX12_isStep_0 rfl (lv_at hl 0 rfl) ?_
  refine g_X12_3 C hM (hJ 100 (by decide) (by decide)) wf_X12_73 dX12_isStep_1 ?_
  refine lv_iload_n C.1 C.2.1 dX12_isStep_4 rfl (lv_at hl 2 rfl) ?_
  refine al_now C hM (hJ 101 (by decide) (by decide)) (wh := (σ 202 0 * σ 203 0)) rfl (by omega) (by omega) (by omega) dX12_isStep_5 ?_
  refine lv_iload_n C.1 C.2.1 dX12_isStep_6 rfl (lv_at hl 1 rfl) ?_
  refine lv_iconst (v := iI 1) C.1 C.2.1 dX12_isStep_7 (by decide) ?_
  refine x_iadd C dX12_isStep_8 ?_
  refine x_icmp_ne C ⟨by omega, by omega⟩ ⟨by omega, by omega⟩ (tgt := 22) dX12_isStep_9 (by decide) (fun c9 => ?_) (fun c9 => ?_)
  · refine lv_iconst (v := iI (-1)) C.1 C.2.1 dX12_isStep_22 (by decide) ?_
    refine lv_istore (lv' := [(4, .int (iI (-1))), (0, .ref (ad 100)), (1, .int (iI s)), (2, .int (iI f)), (3, .int (iI d))]) C.1 C.2.1 dX12_isStep_23 hl (by decide) rfl (fun ls hl => ?_)
    refine lv_iload C.1 C.2.1 dX12_isStep_25 (lv_at hl 0 rfl) ?_
    refine lv_iconst (v := iI (-1)) C.1 C.2.1 dX12_isStep_27 (by decide) ?_
    refine x_icmp_eq C ⟨by omega, by omega⟩ ⟨by omega, by omega⟩ (tgt := 56) dX12_isStep_28 (by decide) (fun c28 => ?_) (fun c28 => ?_)
    · refine lv_iconst (v := iI 0) C.1 C.2.1 dX12_isStep_56 (by decide) ?_
      exact x_zret C hr hM (by first | exact Or.inl rfl | exact Or.inr rfl | omega) ⟨isM_f (fun q => by omega), rfl⟩ dX12_isStep_57
    · exact absurd rfl c28
  · have hst := step_of (d := d) hs0 w1 w2 h1 h2 hf0.1 hf0.2 (show σ 201 f = s + 1 by omega)
    have hir : -1 ≤ tgM (σ 202 0) (σ 203 0) s f d ∧ tgM (σ 202 0) (σ 203 0) s f d < 25 := by
      by_cases q : tgM (σ 202 0) (σ 203 0) s f d = -1
      · omega
      · have := hst.2 q; omega
    refine lv_aload_n C.1 C.2.1 dX12_isStep_12 rfl (lv_at hl 0 rfl) ?_
    refine lv_iload_n C.1 C.2.1 dX12_isStep_13 rfl (lv_at hl 1 rfl) ?_
    refine lv_iload_n C.1 C.2.1 dX12_isStep_14 rfl (lv_at hl 2 rfl) ?_
    refine lv_iload_n C.1 C.2.1 dX12_isStep_15 rfl (lv_at hl 3 rfl) ?_
    refine x_ci (x_runV (As := [.int (iI s), .int (iI f), .int (iI d)]) (rest := []) C (by omega) cw_X12_87 (c_X12_target l D ad G ids hJ σ s f d hB (by omega) (by omega) (by omega)) hM (hJ 100 (by decide) (by decide)) (cx_100 ad G _) rfl rfl rfl rfl (Nat.le_of_ble_eq_true rfl) hl.1 dX12_isStep_16) hM (fun r16 s16 H1 lc1 hp hM => ?_)
    obtain ⟨rfl, rfl⟩ := hp
    refine lv_goto (tgt := 23) C.1 C.2.1 dX12_isStep_19 (by decide) ?_
    refine lv_istore (lv' := [(4, .int (iI (tgM (σ 202 0) (σ 203 0) s f d))), (0, .ref (ad 100)), (1, .int (iI s)), (2, .int (iI f)), (3, .int (iI d))]) C.1 C.2.1 dX12_isStep_23 hl (by decide) rfl (fun ls hl => ?_)
    refine lv_iload C.1 C.2.1 dX12_isStep_25 (lv_at hl 0 rfl) ?_
    refine lv_iconst (v := iI (-1)) C.1 C.2.1 dX12_isStep_27 (by decide) ?_
    refine x_icmp_eq C ⟨by omega, by omega⟩ ⟨by omega, by omega⟩ (tgt := 56) dX12_isStep_28 (by decide) (fun c28 => ?_) (fun c28 => ?_)
    · refine lv_iconst (v := iI 0) C.1 C.2.1 dX12_isStep_56 (by decide) ?_
      refine x_zret C hr hM (by first | exact Or.inl rfl | exact Or.inr rfl | omega) ?_ dX12_isStep_57
      exact ⟨isM_f (fun q => by
        have q2 := hst.1.mp q.2
        first | omega | (rw [if_pos (by omega)] at q2; omega) | (rw [if_neg (by omega)] at q2; omega)), rfl⟩
    · have hcs := hst.2 (by omega)
      have hct := hC (tgM (σ 202 0) (σ 203 0) s f d)
      refine lv_aload_n C.1 C.2.1 dX12_isStep_31 rfl (lv_at hl 1 rfl) ?_
      refine g_X12_3 C hM (hJ 100 (by decide) (by decide)) wf_X12_73 dX12_isStep_32 ?_
      refine lv_iload C.1 C.2.1 dX12_isStep_35 (lv_at hl 0 rfl) ?_
      refine al_now C hM (hJ 101 (by decide) (by decide)) (wh := (σ 202 0 * σ 203 0)) rfl (by omega) (by omega) (by omega) dX12_isStep_37 ?_
      refine lv_iload_n C.1 C.2.1 dX12_isStep_38 rfl (lv_at hl 4 rfl) ?_
      refine x_if_ne C ⟨by omega, by omega⟩ (tgt := 46) dX12_isStep_39 (by decide) (fun c39 => ?_) (fun c39 => ?_)
      · refine lv_iconst (v := iI 2) C.1 C.2.1 dX12_isStep_46 (by decide) ?_
        refine lv_iload_n C.1 C.2.1 dX12_isStep_47 rfl (lv_at hl 2 rfl) ?_
        refine x_isub C dX12_isStep_48 ?_
        refine x_icmp_ne C ⟨by omega, by omega⟩ ⟨by omega, by omega⟩ (tgt := 56) dX12_isStep_49 (by decide) (fun c49 => ?_) (fun c49 => ?_)
        · refine lv_iconst (v := iI 0) C.1 C.2.1 dX12_isStep_56 (by decide) ?_
          refine x_zret C hr hM (by first | exact Or.inl rfl | exact Or.inr rfl | omega) ?_ dX12_isStep_57
          exact ⟨isM_f (fun q => by
            have q2 := hst.1.mp q.2
            first | omega | (rw [if_pos (by omega)] at q2; omega) | (rw [if_neg (by omega)] at q2; omega)), rfl⟩
        · refine lv_iconst (v := iI 1) C.1 C.2.1 dX12_isStep_52 (by decide) ?_
          refine lv_goto (tgt := 57) C.1 C.2.1 dX12_isStep_53 (by decide) ?_
          exact x_zret C hr hM (by first | exact Or.inl rfl | exact Or.inr rfl | omega) ⟨isM_t (by omega) (hst.1.mpr ⟨by omega, by first | (rw [if_pos (by omega)]; omega) | (rw [if_neg (by omega)]; omega)⟩), rfl⟩ dX12_isStep_57
      · refine lv_iconst (v := iI 0) C.1 C.2.1 dX12_isStep_42 (by decide) ?_
        refine lv_goto (tgt := 49) C.1 C.2.1 dX12_isStep_43 (by decide) ?_
        refine x_icmp_ne C ⟨by omega, by omega⟩ ⟨by omega, by omega⟩ (tgt := 56) dX12_isStep_49 (by decide) (fun c49 => ?_) (fun c49 => ?_)
        · refine lv_iconst (v := iI 0) C.1 C.2.1 dX12_isStep_56 (by decide) ?_
          refine x_zret C hr hM (by first | exact Or.inl rfl | exact Or.inr rfl | omega) ?_ dX12_isStep_57
          exact ⟨isM_f (fun q => by
            have q2 := hst.1.mp q.2
            first | omega | (rw [if_pos (by omega)] at q2; omega) | (rw [if_neg (by omega)] at q2; omega)), rfl⟩
        · refine lv_iconst (v := iI 1) C.1 C.2.1 dX12_isStep_52 (by decide) ?_
          refine lv_goto (tgt := 57) C.1 C.2.1 dX12_isStep_53 (by decide) ?_
          exact x_zret C hr hM (by first | exact Or.inl rfl | exact Or.inr rfl | omega) ⟨isM_t (by omega) (hst.1.mpr ⟨by omega, by first | (rw [if_pos (by omega)]; omega) | (rw [if_neg (by omega)]; omega)⟩), rfl⟩ dX12_isStep_57
set_option maxRecDepth 100000 in
set_option maxHeartbeats 4000000 in
theorem c_X12_countSteps (l : Launch) (D : va_G) (ad : Nat → Nat) (G : Nat → Nat) (ids : List Nat) (hJ : ∀ k, 100 ≤ k → k < 233 → k ∈ ids) (σ : Sg) (s : Int) (hB : BG (mw σ)) (hC : BC (σ 201)) (hs0 : s = 0 ∨ s = 1) : MET l yX12_countSteps cX12_countSteps 5 (some .int) 4 [.ref (ad 100), .int (iI s)] D ad G ids σ (QI D ad G ids (fun z σ' => cstM (σ 201) (σ 202 0) (σ 203 0) s (σ 202 0 * σ 203 0).toNat = z ∧ σ = σ')) := by
  have w1 : 3 ≤ σ 202 0 := hB.1
  have w2 : σ 202 0 ≤ 5 := hB.2.1
  have h1 : 3 ≤ σ 203 0 := hB.2.2.1
  have h2 : σ 203 0 ≤ 5 := hB.2.2.2
  have wb := wh_bd w1 w2 h1 h2
  refine x_enter (by decide) (Nat.le_of_ble_eq_true rfl) ?_
  intro pp ee ss mm args below meth cq C hr ls hl hM
  have hl : lv_has ls 5 [(0, .ref (ad 100)), (1, .int (iI s))] := hl
  refine lv_iconst (v := iI 0) C.1 C.2.1 dX12_countSteps_0 (by decide) ?_
  refine lv_istore_n (lv' := [(2, .int (iI 0)), (0, .ref (ad 100)), (1, .int (iI s))]) C.1 C.2.1 dX12_countSteps_1 rfl hl (by decide) rfl (fun ls hl => ?_)
  refine lv_iconst (v := iI 0) C.1 C.2.1 dX12_countSteps_2 (by decide) ?_
  refine lv_istore_n (lv' := [(3, .int (iI 0)), (2, .int (iI 0)), (0, .ref (ad 100)), (1, .int (iI s))]) C.1 C.2.1 dX12_countSteps_3 rfl hl (by decide) rfl (fun ls hl => ?_)
  have L4 : ∀ (fu : Nat) (f : Int) (n : Int) (H1 : Heap) (lc1 : List Loc) (ls1 : Array Slot), (0 ≤ f ∧ f ≤ σ 202 0 * σ 203 0) → (n = cstM (σ 201) (σ 202 0) (σ 203 0) s f.toNat) → (30 - f).toNat < fu → XI D ad G ids (AN ad ids ss.heap.size) ss.heap H1 lc1 σ → lv_has ls1 5 [(3, .int (iI f)), (2, .int (iI n)), (0, .ref (ad 100)), (1, .int (iI s))] → W pp l ee (rmh 4) ss mm args below meth cq H1 lc1 0 0 (MQ below (QI D ad G ids (fun z σ' => cstM (σ 201) (σ 202 0) (σ 203 0) s (σ 202 0 * σ 203 0).toNat = z ∧ σ = σ') ss.heap.size) args ss 0 0 (AN ad ids ss.heap.size)) (F0 mm 4 ls1 []) := by
    intro fu
    induction fu with
    | zero => intro f n  H1 lc1 ls1 f0 hn hfu; exact absurd hfu (Nat.not_lt_zero _)
    | succ fu ih4 =>
      intro f n  H1 lc1 ls1 f0 hn hfu hM hl
      refine lv_iload_n C.1 C.2.1 dX12_countSteps_4 rfl (lv_at hl 0 rfl) ?_
      refine lv_iconst (v := iI 1) C.1 C.2.1 dX12_countSteps_5 (by decide) ?_
      refine x_iadd C dX12_countSteps_6 ?_
      refine lv_aload_n C.1 C.2.1 dX12_countSteps_7 rfl (lv_at hl 2 rfl) ?_
      refine g_X12_3 C hM (hJ 100 (by decide) (by decide)) wf_X12_73 dX12_countSteps_8 ?_
      refine ln_now C hM (hJ 101 (by decide) (by decide)) (wh := (σ 202 0 * σ 203 0)) rfl (by omega) dX12_countSteps_11 ?_
      refine x_icmp_ge C ⟨by omega, by omega⟩ ⟨by omega, by omega⟩ (tgt := 55) dX12_countSteps_12 (by decide) (fun c12 => ?_) (fun c12 => ?_)
      · refine lv_iload_n C.1 C.2.1 dX12_countSteps_55 rfl (lv_at hl 1 rfl) ?_
        exact x_iret C hr hM ⟨by rw [hn, show f = σ 202 0 * σ 203 0 by omega], rfl⟩ dX12_countSteps_56
      · refine lv_iconst (v := iI (-1)) C.1 C.2.1 dX12_countSteps_15 (by decide) ?_
        refine lv_istore (lv' := [(4, .int (iI (-1))), (3, .int (iI f)), (2, .int (iI n)), (0, .ref (ad 100)), (1, .int (iI s))]) C.1 C.2.1 dX12_countSteps_16 hl (by decide) rfl (fun ls hl => ?_)
        have L18 : ∀ (fu : Nat) (a : Int) (m : Int) (H1 : Heap) (lc1 : List Loc) (ls1 : Array Slot), (-1 ≤ a ∧ a ≤ 2) → (m = n + stM (σ 201) (σ 202 0) (σ 203 0) s f a) → (3 - a).toNat < fu → XI D ad G ids (AN ad ids ss.heap.size) ss.heap H1 lc1 σ → lv_has ls1 5 [(4, .int (iI a)), (3, .int (iI f)), (2, .int (iI m)), (0, .ref (ad 100)), (1, .int (iI s))] → W pp l ee (rmh 4) ss mm args below meth cq H1 lc1 0 0 (MQ below (QI D ad G ids (fun z σ' => cstM (σ 201) (σ 202 0) (σ 203 0) s (σ 202 0 * σ 203 0).toNat = z ∧ σ = σ') ss.heap.size) args ss 0 0 (AN ad ids ss.heap.size)) (F0 mm 18 ls1 []) := by
          intro fu
          induction fu with
          | zero => intro a m  H1 lc1 ls1 a0 hm hfu; exact absurd hfu (Nat.not_lt_zero _)
          | succ fu ih18 =>
            intro a m  H1 lc1 ls1 a0 hm hfu hM hl
            refine lv_iload C.1 C.2.1 dX12_countSteps_18 (lv_at hl 0 rfl) ?_
            refine lv_iconst (v := iI 1) C.1 C.2.1 dX12_countSteps_20 (by decide) ?_
            refine x_icmp_gt C ⟨by omega, by omega⟩ ⟨by omega, by omega⟩ (tgt := 49) dX12_countSteps_21 (by decide) (fun c21 => ?_) (fun c21 => ?_)
            · refine x_iinc (lv1 := [(3, .int (iI (f + 1))), (4, .int (iI a)), (2, .int (iI m)), (0, .ref (ad 100)), (1, .int (iI s))]) C dX12_countSteps_49 hl (k := 1) rfl (by decide) rfl (fun ls hl => ?_)
              refine lv_goto (tgt := 4) C.1 C.2.1 dX12_countSteps_52 (by decide) ?_
              exact ih4 (f + 1) m _ _ _ (by omega) (by rw [cstM_s _ _ _ _ f0.1, ← stM_3 _ _ _ _ _ (show 2 ≤ a by omega), ← hn]; exact hm) (by omega) hM (lv_sub hl [0, 2, 3, 4] rfl)
            · refine lv_iload_n C.1 C.2.1 dX12_countSteps_24 rfl (lv_at hl 2 rfl) ?_
              refine lv_aload_n C.1 C.2.1 dX12_countSteps_25 rfl (lv_at hl 3 rfl) ?_
              refine lv_iload_n C.1 C.2.1 dX12_countSteps_26 rfl (lv_at hl 4 rfl) ?_
              refine lv_iload_n C.1 C.2.1 dX12_countSteps_27 rfl (lv_at hl 1 rfl) ?_
              refine lv_iload C.1 C.2.1 dX12_countSteps_28 (lv_at hl 0 rfl) ?_
              refine x_ci (x_runV (As := [.int (iI s), .int (iI f), .int (iI a)]) (rest := [.int (iI m)]) C (by omega) cw_X12_91 (c_X12_isStep l D ad G ids hJ σ s f a hB hC (by omega) (by omega) (by omega)) hM (hJ 100 (by decide) (by decide)) (cx_100 ad G _) rfl rfl rfl rfl (Nat.le_of_ble_eq_true rfl) hl.1 dX12_countSteps_30) hM (fun r30 s30 H1 lc1 hp hM => ?_)
              obtain ⟨hbs30, rfl⟩ := hp
              obtain ⟨ts30, ks30⟩ := bI01 hbs30
              refine x_if_eq C ⟨by omega, by omega⟩ (tgt := 40) dX12_countSteps_33 (by decide) (fun c33 => ?_) (fun c33 => ?_)
              · refine lv_iconst (v := iI 0) C.1 C.2.1 dX12_countSteps_40 (by decide) ?_
                refine x_iadd C dX12_countSteps_41 ?_
                refine lv_istore_n (lv' := [(2, .int (iI (m + 0))), (4, .int (iI a)), (3, .int (iI f)), (0, .ref (ad 100)), (1, .int (iI s))]) C.1 C.2.1 dX12_countSteps_42 rfl hl (by decide) rfl (fun ls hl => ?_)
                refine x_iinc (lv1 := [(4, .int (iI (a + 1))), (2, .int (iI (m + 0))), (3, .int (iI f)), (0, .ref (ad 100)), (1, .int (iI s))]) C dX12_countSteps_43 hl (k := 1) rfl (by decide) rfl (fun ls hl => ?_)
                refine lv_goto (tgt := 18) C.1 C.2.1 dX12_countSteps_46 (by decide) ?_
                exact ih18 (a + 1) (m + 0) _ _ _ (by omega) (by rw [stM_s _ _ _ _ _ a0.1 (by omega), hbs30]; omega) (by omega) hM (lv_sub hl [0, 2, 1, 3, 4] rfl)
              · refine lv_iconst (v := iI 1) C.1 C.2.1 dX12_countSteps_36 (by decide) ?_
                refine lv_goto (tgt := 41) C.1 C.2.1 dX12_countSteps_37 (by decide) ?_
                refine x_iadd C dX12_countSteps_41 ?_
                refine lv_istore_n (lv' := [(2, .int (iI (m + 1))), (4, .int (iI a)), (3, .int (iI f)), (0, .ref (ad 100)), (1, .int (iI s))]) C.1 C.2.1 dX12_countSteps_42 rfl hl (by decide) rfl (fun ls hl => ?_)
                refine x_iinc (lv1 := [(4, .int (iI (a + 1))), (2, .int (iI (m + 1))), (3, .int (iI f)), (0, .ref (ad 100)), (1, .int (iI s))]) C dX12_countSteps_43 hl (k := 1) rfl (by decide) rfl (fun ls hl => ?_)
                refine lv_goto (tgt := 18) C.1 C.2.1 dX12_countSteps_46 (by decide) ?_
                exact ih18 (a + 1) (m + 1) _ _ _ (by omega) (by rw [stM_s _ _ _ _ _ a0.1 (by omega), hbs30]; omega) (by omega) hM (lv_sub hl [0, 2, 1, 3, 4] rfl)
        exact L18 _ (-1) n _ _ _ (by omega) (by rw [stM_0]; omega) (Nat.lt_succ_self _) hM (lv_sub hl [0, 1, 2, 3, 4] rfl)
  exact L4 _ 0 0 _ _ _ (by omega) rfl (Nat.lt_succ_self _) hM (lv_sub hl [0, 1, 2, 3] rfl)
set_option maxRecDepth 100000 in
set_option maxHeartbeats 4000000 in
theorem c_X12_isLostNow (l : Launch) (D : va_G) (ad : Nat → Nat) (G : Nat → Nat) (ids : List Nat) (hJ : ∀ k, 100 ≤ k → k < 233 → k ∈ ids) (σ : Sg)  (hG : GI (mw σ)) : MET l yX12_isLostNow cX12_isLostNow 3 (some .boolean) 5 [.ref (ad 100)] D ad G ids σ (QI D ad G ids (fun z σ' => (if MLs (σ 201) (σ 202 0) (σ 203 0) (σ 204 0) = [] then 1 else 0) = z ∧ σ = σ')) := by
  have hB : BG (mw σ) := hG.1
  have w1 : 3 ≤ σ 202 0 := hB.1
  have w2 : σ 202 0 ≤ 5 := hB.2.1
  have h1 : 3 ≤ σ 203 0 := hB.2.2.1
  have h2 : σ 203 0 ≤ 5 := hB.2.2.2
  have wb := wh_bd w1 w2 h1 h2
  have hC : BC (σ 201) := hG.2.1
  have hs : σ 204 0 = 0 ∨ σ 204 0 = 1 := hG.2.2.1
  refine x_enter (by decide) (Nat.le_of_ble_eq_true rfl) ?_
  intro pp ee ss mm args below meth cq C hr ls hl hM
  have hl : lv_has ls 3 [(0, .ref (ad 100))] := hl
  refine lv_iconst (v := iI 1) C.1 C.2.1 dX12_isLostNow_0 (by decide) ?_
  refine lv_aload_n C.1 C.2.1 dX12_isLostNow_1 rfl (lv_at hl 0 rfl) ?_
  refine x_ci (x_runV (As := []) (rest := [.int (iI 1)]) C (by omega) cw_X12_94 (c_X12_sideNow l D ad G ids hJ σ hB) hM (hJ 100 (by decide) (by decide)) (cx_100 ad G _) rfl rfl rfl rfl (Nat.le_of_ble_eq_true rfl) hl.1 dX12_isLostNow_2) hM (fun r2 s2 H1 lc1 hp hM => ?_)
  obtain ⟨rfl, rfl⟩ := hp
  refine x_isub C dX12_isLostNow_5 ?_
  refine lv_istore_n (lv' := [(1, .int (iI (1 - (σ 204 0)))), (0, .ref (ad 100))]) C.1 C.2.1 dX12_isLostNow_6 rfl hl (by decide) rfl (fun ls hl => ?_)
  refine lv_iconst (v := iI 0) C.1 C.2.1 dX12_isLostNow_7 (by decide) ?_
  refine lv_istore_n (lv' := [(2, .int (iI 0)), (1, .int (iI (1 - (σ 204 0)))), (0, .ref (ad 100))]) C.1 C.2.1 dX12_isLostNow_8 rfl hl (by decide) rfl (fun ls hl => ?_)
  have L9 : ∀ (fu : Nat) (x : Int) (H1 : Heap) (lc1 : List Loc) (ls1 : Array Slot), (0 ≤ x ∧ x ≤ σ 202 0) → (thruF (σ 201) (if σ 204 0 = 0 then 0 else (σ 203 0 - 1) * σ 202 0) (2 - σ 204 0) x.toNat = false) → (10 - x).toNat < fu → XI D ad G ids (AN ad ids ss.heap.size) ss.heap H1 lc1 σ → lv_has ls1 3 [(2, .int (iI x)), (1, .int (iI (1 - (σ 204 0)))), (0, .ref (ad 100))] → W pp l ee (rmh 5) ss mm args below meth cq H1 lc1 0 0 (MQ below (QI D ad G ids (fun z σ' => (if MLs (σ 201) (σ 202 0) (σ 203 0) (σ 204 0) = [] then 1 else 0) = z ∧ σ = σ') ss.heap.size) args ss 0 0 (AN ad ids ss.heap.size)) (F0 mm 9 ls1 []) := by
    intro fu
    induction fu with
    | zero => intro x  H1 lc1 ls1 x0 hth hfu; exact absurd hfu (Nat.not_lt_zero _)
    | succ fu ih9 =>
      intro x  H1 lc1 ls1 x0 hth hfu hM hl
      refine lv_iload_n C.1 C.2.1 dX12_isLostNow_9 rfl (lv_at hl 0 rfl) ?_
      refine lv_aload_n C.1 C.2.1 dX12_isLostNow_10 rfl (lv_at hl 2 rfl) ?_
      refine g_X12_1 C hM (hJ 100 (by decide) (by decide)) wf_X12_67 dX12_isLostNow_11 ?_
      refine x_icmp_ge C ⟨by omega, by omega⟩ ⟨by omega, by omega⟩ (tgt := 48) dX12_isLostNow_14 (by decide) (fun c14 => ?_) (fun c14 => ?_)
      · refine lv_aload_n C.1 C.2.1 dX12_isLostNow_48 rfl (lv_at hl 2 rfl) ?_
        refine lv_aload_n C.1 C.2.1 dX12_isLostNow_49 rfl (lv_at hl 2 rfl) ?_
        refine x_ci (x_runV (As := []) (rest := [.ref (ad 100)]) C (by omega) cw_X12_94 (c_X12_sideNow l D ad G ids hJ σ hB) hM (hJ 100 (by decide) (by decide)) (cx_100 ad G _) rfl rfl rfl rfl (Nat.le_of_ble_eq_true rfl) hl.1 dX12_isLostNow_50) hM (fun r50 s50 H1 lc1 hp hM => ?_)
        obtain ⟨rfl, rfl⟩ := hp
        have hcb := cstM_bd (σ 201) (σ 202 0) (σ 203 0) (σ 204 0) (σ 202 0 * σ 203 0).toNat
        refine x_ci (x_runV (As := [.int (iI (σ 204 0))]) (rest := []) C (by omega) cw_X12_101 (c_X12_countSteps l D ad G ids hJ σ (σ 204 0) hB hC (by omega)) hM (hJ 100 (by decide) (by decide)) (cx_100 ad G _) rfl rfl rfl rfl (Nat.le_of_ble_eq_true rfl) hl.1 dX12_isLostNow_53) hM (fun r53 s53 H1 lc1 hp hM => ?_)
        obtain ⟨rfl, rfl⟩ := hp
        refine x_if_ne C ⟨by omega, by omega⟩ (tgt := 63) dX12_isLostNow_56 (by decide) (fun c56 => ?_) (fun c56 => ?_)
        · refine lv_iconst (v := iI 0) C.1 C.2.1 dX12_isLostNow_63 (by decide) ?_
          refine x_zret C hr hM (by first | exact Or.inl rfl | exact Or.inr rfl | omega) ?_ dX12_isLostNow_64
          exact ⟨by
            have e1 : ¬ thru (σ 201) (σ 202 0) (σ 203 0) (σ 204 0) = true := by
              unfold thru
              rw [show (σ 202 0).toNat = x.toNat by omega, hth]
              decide
            have e2 : ¬ MLs (σ 201) (σ 202 0) (σ 203 0) (σ 204 0) = [] := fun q => (MLs_nil.mp q).elim e1 (fun z => by omega)
            rw [if_neg e2], rfl⟩
        · refine lv_iconst (v := iI 1) C.1 C.2.1 dX12_isLostNow_59 (by decide) ?_
          refine lv_goto (tgt := 64) C.1 C.2.1 dX12_isLostNow_60 (by decide) ?_
          refine x_zret C hr hM (by first | exact Or.inl rfl | exact Or.inr rfl | omega) ?_ dX12_isLostNow_64
          exact ⟨by
            have e1 : ¬ thru (σ 201) (σ 202 0) (σ 203 0) (σ 204 0) = true := by
              unfold thru
              rw [show (σ 202 0).toNat = x.toNat by omega, hth]
              decide
            have e2 : MLs (σ 201) (σ 202 0) (σ 203 0) (σ 204 0) = [] := MLs_nil.mpr (Or.inr (by omega))
            rw [if_pos e2], rfl⟩
      · refine lv_aload_n C.1 C.2.1 dX12_isLostNow_17 rfl (lv_at hl 2 rfl) ?_
        refine g_X12_3 C hM (hJ 100 (by decide) (by decide)) wf_X12_73 dX12_isLostNow_18 ?_
        refine lv_aload_n C.1 C.2.1 dX12_isLostNow_21 rfl (lv_at hl 2 rfl) ?_
        refine lv_iload_n C.1 C.2.1 dX12_isLostNow_22 rfl (lv_at hl 1 rfl) ?_
        refine x_ci (x_runV (As := [.int (iI (1 - (σ 204 0)))]) (rest := [.ref (ad 101)]) C (by omega) cw_X12_98 (c_X12_goal l D ad G ids hJ σ (1 - (σ 204 0)) hB (by omega)) hM (hJ 100 (by decide) (by decide)) (cx_100 ad G _) rfl rfl rfl rfl (Nat.le_of_ble_eq_true rfl) hl.1 dX12_isLostNow_23) hM (fun r23 s23 H1 lc1 hp hM => ?_)
        obtain ⟨rfl, rfl⟩ := hp
        have hgo : (if (1 - σ 204 0) = 0 then σ 203 0 - 1 else 0) * σ 202 0 = if σ 204 0 = 0 then 0 else (σ 203 0 - 1) * σ 202 0 := by
          rcases hs with h | h
          · rw [if_neg (by omega), if_pos h, Int.zero_mul]
          · rw [if_pos (by omega), if_neg (by omega)]
        have hgb : 0 ≤ (if σ 204 0 = 0 then 0 else (σ 203 0 - 1) * σ 202 0) ∧ (if σ 204 0 = 0 then 0 else (σ 203 0 - 1) * σ 202 0) ≤ σ 202 0 * σ 203 0 - σ 202 0 := by split <;> omega
        refine lv_aload_n C.1 C.2.1 dX12_isLostNow_26 rfl (lv_at hl 2 rfl) ?_
        refine g_X12_1 C hM (hJ 100 (by decide) (by decide)) wf_X12_67 dX12_isLostNow_27 ?_
        refine x_imul C dX12_isLostNow_30 ?_
        refine lv_iload_n C.1 C.2.1 dX12_isLostNow_31 rfl (lv_at hl 0 rfl) ?_
        refine x_iadd C dX12_isLostNow_32 ?_
        rw [hgo]
        have hcc := hC ((if σ 204 0 = 0 then 0 else (σ 203 0 - 1) * σ 202 0) + x)
        refine al_now C hM (hJ 101 (by decide) (by decide)) (wh := (σ 202 0 * σ 203 0)) rfl (by omega) (by omega) (by omega) dX12_isLostNow_33 ?_
        refine lv_iload_n C.1 C.2.1 dX12_isLostNow_34 rfl (lv_at hl 1 rfl) ?_
        refine lv_iconst (v := iI 1) C.1 C.2.1 dX12_isLostNow_35 (by decide) ?_
        refine x_iadd C dX12_isLostNow_36 ?_
        refine x_icmp_ne C ⟨by omega, by omega⟩ ⟨by omega, by omega⟩ (tgt := 42) dX12_isLostNow_37 (by decide) (fun c37 => ?_) (fun c37 => ?_)
        · refine x_iinc (lv1 := [(2, .int (iI (x + 1))), (1, .int (iI (1 - (σ 204 0)))), (0, .ref (ad 100))]) C dX12_isLostNow_42 hl (k := 0) rfl (by decide) rfl (fun ls hl => ?_)
          refine lv_goto (tgt := 9) C.1 C.2.1 dX12_isLostNow_45 (by decide) ?_
          exact ih9 (x + 1) _ _ _ (by omega) (by rw [thruF_s _ _ _ x0.1, hth, decide_eq_false (by omega)]; rfl) (by omega) hM (lv_sub hl [0, 1, 2] rfl)
        · refine lv_iconst (v := iI 1) C.1 C.2.1 dX12_isLostNow_40 (by decide) ?_
          refine x_zret C hr hM (by first | exact Or.inl rfl | exact Or.inr rfl | omega) ?_ dX12_isLostNow_41
          exact ⟨by
            have e1 : thru (σ 201) (σ 202 0) (σ 203 0) (σ 204 0) = true := by
              unfold thru
              refine thruF_mono (n := (x + 1).toNat) (by omega) ?_
              rw [thruF_s _ _ _ x0.1, decide_eq_true (by omega), Bool.or_true]
            rw [if_pos (MLs_nil.mpr (Or.inl e1))], rfl⟩
  exact L9 _ 0 _ _ _ (by omega) rfl (Nat.lt_succ_self _) hM (lv_sub hl [0, 1, 2] rfl)
set_option maxRecDepth 100000 in
set_option maxHeartbeats 4000000 in
theorem c_X12_isTaking (l : Launch) (D : va_G) (ad : Nat → Nat) (G : Nat → Nat) (ids : List Nat) (hJ : ∀ k, 100 ≤ k → k < 233 → k ∈ ids) (σ : Sg) (v : Int) (hB : BG (mw σ)) (hC : BC (σ 201)) (hv : 0 ≤ v ∧ v < 2500 ∧ v % 100 < σ 202 0 * σ 203 0) : MET l yX12_isTaking cX12_isTaking 2 (some .boolean) 1 [.ref (ad 100), .int (iI v)] D ad G ids σ (QI D ad G ids (fun z σ' => (if σ 201 (v % 100) ≠ 0 then 1 else 0) = z ∧ σ = σ')) := by
  have w1 : 3 ≤ σ 202 0 := hB.1
  have w2 : σ 202 0 ≤ 5 := hB.2.1
  have h1 : 3 ≤ σ 203 0 := hB.2.2.1
  have h2 : σ 203 0 ≤ 5 := hB.2.2.2
  have wb := wh_bd w1 w2 h1 h2
  have hcc := hC (v % 100)
  refine x_enter (by decide) (Nat.le_of_ble_eq_true rfl) ?_
  intro pp ee ss mm args below meth cq C hr ls hl hM
  have hl : lv_has ls 2 [(0, .ref (ad 100)), (1, .int (iI v))] := hl
  refine lv_aload_n C.1 C.2.1 dX12_isTaking_0 rfl (lv_at hl 0 rfl) ?_
  refine g_X12_3 C hM (hJ 100 (by decide) (by decide)) wf_X12_73 dX12_isTaking_1 ?_
  refine lv_iload_n C.1 C.2.1 dX12_isTaking_4 rfl (lv_at hl 1 rfl) ?_
  refine lv_bipush (v := iI 100) C.1 C.2.1 dX12_isTaking_5 (by decide) ?_
  refine x_irem2 C ⟨by omega, by omega, by omega⟩ ⟨by omega, by omega, by omega⟩ dX12_isTaking_7 ?_
  refine al_now C hM (hJ 101 (by decide) (by decide)) (wh := (σ 202 0 * σ 203 0)) rfl (by omega) (by omega) (by omega) dX12_isTaking_8 ?_
  refine x_if_eq C ⟨by omega, by omega⟩ (tgt := 16) dX12_isTaking_9 (by decide) (fun c9 => ?_) (fun c9 => ?_)
  · refine lv_iconst (v := iI 0) C.1 C.2.1 dX12_isTaking_16 (by decide) ?_
    exact x_zret C hr hM (by first | exact Or.inl rfl | exact Or.inr rfl | omega) ⟨by rw [if_neg (by omega)], rfl⟩ dX12_isTaking_17
  · refine lv_iconst (v := iI 1) C.1 C.2.1 dX12_isTaking_12 (by decide) ?_
    refine lv_goto (tgt := 17) C.1 C.2.1 dX12_isTaking_13 (by decide) ?_
    exact x_zret C hr hM (by first | exact Or.inl rfl | exact Or.inr rfl | omega) ⟨by rw [if_pos (by omega)], rfl⟩ dX12_isTaking_17
set_option maxRecDepth 100000 in
set_option maxHeartbeats 4000000 in
theorem c_X12_make (l : Launch) (D : va_G) (ad : Nat → Nat) (G : Nat → Nat) (ids : List Nat) (hJ : ∀ k, 100 ≤ k → k < 233 → k ∈ ids) (σ : Sg) (v : Int) (hB : BG (mw σ)) (hv : 0 ≤ v ∧ v < 2500 ∧ v / 100 < σ 202 0 * σ 203 0 ∧ v % 100 < σ 202 0 * σ 203 0) : MET l yX12_make cX12_make 3 (some .int) 2 [.ref (ad 100), .int (iI v)] D ad G ids σ (QI D ad G ids (fun z σ' => σ 201 (v % 100) = z ∧ mvM σ v = σ')) := by
  have w1 : 3 ≤ σ 202 0 := hB.1
  have w2 : σ 202 0 ≤ 5 := hB.2.1
  have h1 : 3 ≤ σ 203 0 := hB.2.2.1
  have h2 : σ 203 0 ≤ 5 := hB.2.2.2
  have wb := wh_bd w1 w2 h1 h2
  refine x_enter (by decide) (Nat.le_of_ble_eq_true rfl) ?_
  intro pp ee ss mm args below meth cq C hr ls hl hM
  have hl : lv_has ls 3 [(0, .ref (ad 100)), (1, .int (iI v))] := hl
  refine lv_aload_n C.1 C.2.1 dX12_make_0 rfl (lv_at hl 0 rfl) ?_
  refine g_X12_3 C hM (hJ 100 (by decide) (by decide)) wf_X12_73 dX12_make_1 ?_
  refine lv_iload_n C.1 C.2.1 dX12_make_4 rfl (lv_at hl 1 rfl) ?_
  refine lv_bipush (v := iI 100) C.1 C.2.1 dX12_make_5 (by decide) ?_
  refine x_irem2 C ⟨by omega, by omega, by omega⟩ ⟨by omega, by omega, by omega⟩ dX12_make_7 ?_
  refine al_now C hM (hJ 101 (by decide) (by decide)) (wh := (σ 202 0 * σ 203 0)) rfl (by omega) (by omega) (by omega) dX12_make_8 ?_
  refine lv_istore_n (lv' := [(2, .int (iI (σ 201 (v % 100)))), (0, .ref (ad 100)), (1, .int (iI v))]) C.1 C.2.1 dX12_make_9 rfl hl (by decide) rfl (fun ls hl => ?_)
  refine lv_aload_n C.1 C.2.1 dX12_make_10 rfl (lv_at hl 1 rfl) ?_
  refine g_X12_3 C hM (hJ 100 (by decide) (by decide)) wf_X12_73 dX12_make_11 ?_
  refine lv_iload_n C.1 C.2.1 dX12_make_14 rfl (lv_at hl 2 rfl) ?_
  refine lv_bipush (v := iI 100) C.1 C.2.1 dX12_make_15 (by decide) ?_
  refine x_irem2 C ⟨by omega, by omega, by omega⟩ ⟨by omega, by omega, by omega⟩ dX12_make_17 ?_
  refine lv_aload_n C.1 C.2.1 dX12_make_18 rfl (lv_at hl 1 rfl) ?_
  refine g_X12_3 C hM (hJ 100 (by decide) (by decide)) wf_X12_73 dX12_make_19 ?_
  refine lv_iload_n C.1 C.2.1 dX12_make_22 rfl (lv_at hl 2 rfl) ?_
  refine lv_bipush (v := iI 100) C.1 C.2.1 dX12_make_23 (by decide) ?_
  refine x_idiv2 C ⟨by omega, by omega, by omega⟩ ⟨by omega, by omega, by omega⟩ dX12_make_25 ?_
  refine al_now C hM (hJ 101 (by decide) (by decide)) (wh := (σ 202 0 * σ 203 0)) rfl (by omega) (by omega) (by omega) dX12_make_26 ?_
  refine as_now C hM (hJ 101 (by decide) (by decide)) (wh := (σ 202 0 * σ 203 0)) rfl (by omega) (by omega) (by omega) dX12_make_27 (fun H1 lc1 hM => ?_)
  refine lv_aload_n C.1 C.2.1 dX12_make_28 rfl (lv_at hl 1 rfl) ?_
  refine g_X12_3 C hM (hJ 100 (by decide) (by decide)) wf_X12_73 dX12_make_29 ?_
  refine lv_iload_n C.1 C.2.1 dX12_make_32 rfl (lv_at hl 2 rfl) ?_
  refine lv_bipush (v := iI 100) C.1 C.2.1 dX12_make_33 (by decide) ?_
  refine x_idiv2 C ⟨by omega, by omega, by omega⟩ ⟨by omega, by omega, by omega⟩ dX12_make_35 ?_
  refine lv_iconst (v := iI 0) C.1 C.2.1 dX12_make_36 (by decide) ?_
  refine as_now C hM (hJ 101 (by decide) (by decide)) (wh := (σ 202 0 * σ 203 0)) rfl (by omega) (by omega) (by omega) dX12_make_37 (fun H1 lc1 hM => ?_)
  refine lv_aload_n C.1 C.2.1 dX12_make_38 rfl (lv_at hl 1 rfl) ?_
  refine g_X12_3 C hM (hJ 100 (by decide) (by decide)) wf_X12_73 dX12_make_39 ?_
  refine lv_aload_n C.1 C.2.1 dX12_make_42 rfl (lv_at hl 1 rfl) ?_
  refine g_X12_3 C hM (hJ 100 (by decide) (by decide)) wf_X12_73 dX12_make_43 ?_
  refine ln_now C hM (hJ 101 (by decide) (by decide)) (wh := (σ 202 0 * σ 203 0)) rfl (by omega) dX12_make_46 ?_
  refine lv_iconst (v := iI 1) C.1 C.2.1 dX12_make_47 (by decide) ?_
  refine x_isub C dX12_make_48 ?_
  refine lv_iconst (v := iI 1) C.1 C.2.1 dX12_make_49 (by decide) ?_
  refine lv_aload_n C.1 C.2.1 dX12_make_50 rfl (lv_at hl 1 rfl) ?_
  refine x_ci (x_runV (As := []) (rest := [.int (iI 1), .int (iI (((σ 202 0 * σ 203 0) + 1) - 1)), .ref (ad 101)]) C (by omega) cw_X12_94 (c_X12_sideNow l D ad G ids hJ (upr (upr σ 201 (ups (σ 201) (v % 100) (σ 201 (v / 100)))) 201 (ups ((upr σ 201 (ups (σ 201) (v % 100) (σ 201 (v / 100)))) 201) (v / 100) 0)) (show BG (mw _) from hB)) hM (hJ 100 (by decide) (by decide)) (cx_100 ad G _) rfl rfl rfl rfl (Nat.le_of_ble_eq_true rfl) hl.1 dX12_make_51) hM (fun r51 s51 H1 lc1 hp hM => ?_)
  obtain ⟨rfl, rfl⟩ := hp
  refine x_isub C dX12_make_54 ?_
  refine as_nowS C hM (hJ 101 (by decide) (by decide)) (wh := (σ 202 0 * σ 203 0)) rfl (by omega) (by omega) dX12_make_55 (fun H1 lc1 hM => ?_)
  refine lv_iload_n C.1 C.2.1 dX12_make_56 rfl (lv_at hl 0 rfl) ?_
  exact x_iret C hr hM ⟨rfl, by unfold mvM; rw [upr_eq, upr_upr]; rfl⟩ dX12_make_57
set_option maxRecDepth 100000 in
set_option maxHeartbeats 4000000 in
theorem c_X12_unmake (l : Launch) (D : va_G) (ad : Nat → Nat) (G : Nat → Nat) (ids : List Nat) (hJ : ∀ k, 100 ≤ k → k < 233 → k ∈ ids) (σ : Sg) (v t : Int) (hB : BG (mw σ)) (hv : 0 ≤ v ∧ v < 2500 ∧ v / 100 < σ 202 0 * σ 203 0 ∧ v % 100 < σ 202 0 * σ 203 0) : MET l yX12_unmake cX12_unmake 3 none 2 [.ref (ad 100), .int (iI v), .int (iI t)] D ad G ids σ (QV D ad G ids (fun σ' => unM σ v t = σ')) := by
  have w1 : 3 ≤ σ 202 0 := hB.1
  have w2 : σ 202 0 ≤ 5 := hB.2.1
  have h1 : 3 ≤ σ 203 0 := hB.2.2.1
  have h2 : σ 203 0 ≤ 5 := hB.2.2.2
  have wb := wh_bd w1 w2 h1 h2
  refine x_enter (by decide) (Nat.le_of_ble_eq_true rfl) ?_
  intro pp ee ss mm args below meth cq C hr ls hl hM
  have hl : lv_has ls 3 [(0, .ref (ad 100)), (1, .int (iI v)), (2, .int (iI t))] := hl
  refine lv_aload_n C.1 C.2.1 dX12_unmake_0 rfl (lv_at hl 0 rfl) ?_
  refine g_X12_3 C hM (hJ 100 (by decide) (by decide)) wf_X12_73 dX12_unmake_1 ?_
  refine lv_iload_n C.1 C.2.1 dX12_unmake_4 rfl (lv_at hl 1 rfl) ?_
  refine lv_bipush (v := iI 100) C.1 C.2.1 dX12_unmake_5 (by decide) ?_
  refine x_idiv2 C ⟨by omega, by omega, by omega⟩ ⟨by omega, by omega, by omega⟩ dX12_unmake_7 ?_
  refine lv_aload_n C.1 C.2.1 dX12_unmake_8 rfl (lv_at hl 0 rfl) ?_
  refine g_X12_3 C hM (hJ 100 (by decide) (by decide)) wf_X12_73 dX12_unmake_9 ?_
  refine lv_iload_n C.1 C.2.1 dX12_unmake_12 rfl (lv_at hl 1 rfl) ?_
  refine lv_bipush (v := iI 100) C.1 C.2.1 dX12_unmake_13 (by decide) ?_
  refine x_irem2 C ⟨by omega, by omega, by omega⟩ ⟨by omega, by omega, by omega⟩ dX12_unmake_15 ?_
  refine al_now C hM (hJ 101 (by decide) (by decide)) (wh := (σ 202 0 * σ 203 0)) rfl (by omega) (by omega) (by omega) dX12_unmake_16 ?_
  refine as_now C hM (hJ 101 (by decide) (by decide)) (wh := (σ 202 0 * σ 203 0)) rfl (by omega) (by omega) (by omega) dX12_unmake_17 (fun H1 lc1 hM => ?_)
  refine lv_aload_n C.1 C.2.1 dX12_unmake_18 rfl (lv_at hl 0 rfl) ?_
  refine g_X12_3 C hM (hJ 100 (by decide) (by decide)) wf_X12_73 dX12_unmake_19 ?_
  refine lv_iload_n C.1 C.2.1 dX12_unmake_22 rfl (lv_at hl 1 rfl) ?_
  refine lv_bipush (v := iI 100) C.1 C.2.1 dX12_unmake_23 (by decide) ?_
  refine x_irem2 C ⟨by omega, by omega, by omega⟩ ⟨by omega, by omega, by omega⟩ dX12_unmake_25 ?_
  refine lv_iload_n C.1 C.2.1 dX12_unmake_26 rfl (lv_at hl 2 rfl) ?_
  refine as_now C hM (hJ 101 (by decide) (by decide)) (wh := (σ 202 0 * σ 203 0)) rfl (by omega) (by omega) (by omega) dX12_unmake_27 (fun H1 lc1 hM => ?_)
  refine lv_aload_n C.1 C.2.1 dX12_unmake_28 rfl (lv_at hl 0 rfl) ?_
  refine g_X12_3 C hM (hJ 100 (by decide) (by decide)) wf_X12_73 dX12_unmake_29 ?_
  refine lv_aload_n C.1 C.2.1 dX12_unmake_32 rfl (lv_at hl 0 rfl) ?_
  refine g_X12_3 C hM (hJ 100 (by decide) (by decide)) wf_X12_73 dX12_unmake_33 ?_
  refine ln_now C hM (hJ 101 (by decide) (by decide)) (wh := (σ 202 0 * σ 203 0)) rfl (by omega) dX12_unmake_36 ?_
  refine lv_iconst (v := iI 1) C.1 C.2.1 dX12_unmake_37 (by decide) ?_
  refine x_isub C dX12_unmake_38 ?_
  refine lv_iconst (v := iI 1) C.1 C.2.1 dX12_unmake_39 (by decide) ?_
  refine lv_aload_n C.1 C.2.1 dX12_unmake_40 rfl (lv_at hl 0 rfl) ?_
  refine x_ci (x_runV (As := []) (rest := [.int (iI 1), .int (iI (((σ 202 0 * σ 203 0) + 1) - 1)), .ref (ad 101)]) C (by omega) cw_X12_94 (c_X12_sideNow l D ad G ids hJ (upr (upr σ 201 (ups (σ 201) (v / 100) (σ 201 (v % 100)))) 201 (ups ((upr σ 201 (ups (σ 201) (v / 100) (σ 201 (v % 100)))) 201) (v % 100) t)) (show BG (mw _) from hB)) hM (hJ 100 (by decide) (by decide)) (cx_100 ad G _) rfl rfl rfl rfl (Nat.le_of_ble_eq_true rfl) hl.1 dX12_unmake_41) hM (fun r41 s41 H1 lc1 hp hM => ?_)
  obtain ⟨rfl, rfl⟩ := hp
  refine x_isub C dX12_unmake_44 ?_
  refine as_nowS C hM (hJ 101 (by decide) (by decide)) (wh := (σ 202 0 * σ 203 0)) rfl (by omega) (by omega) dX12_unmake_45 (fun H1 lc1 hM => ?_)
  refine x_vret C hr hM ?_ dX12_unmake_46
  unfold unM; rw [upr_eq, upr_upr]; rfl
set_option maxRecDepth 100000 in
set_option maxHeartbeats 4000000 in
theorem c_X12_keyNow (l : Launch) (D : va_G) (ad : Nat → Nat) (G : Nat → Nat) (ids : List Nat) (hJ : ∀ k, 100 ≤ k → k < 233 → k ∈ ids) (σ : Sg)  (hB : BG (mw σ)) (hC : BC (σ 201)) (hsr : IR (σ 204 0)) : MET l yX12_keyNow cX12_keyNow 4 (some .long) 2 [.ref (ad 100)] D ad G ids σ (QL D ad G ids (fun z σ' => keyF (σ 201) (σ 202 0 * σ 203 0).toNat * 2 + σ 204 0 = z ∧ σ = σ')) := by
  have w1 : 3 ≤ σ 202 0 := hB.1
  have w2 : σ 202 0 ≤ 5 := hB.2.1
  have h1 : 3 ≤ σ 203 0 := hB.2.2.1
  have h2 : σ 203 0 ≤ 5 := hB.2.2.2
  have wb := wh_bd w1 w2 h1 h2
  refine x_enter (by decide) (Nat.le_of_ble_eq_true rfl) ?_
  intro pp ee ss mm args below meth cq C hr ls hl hM
  have hl : lv_has ls 4 [(0, .ref (ad 100))] := hl
  refine lv_lconst (v := jI 0) C.1 C.2.1 dX12_keyNow_0 (by decide) ?_
  refine lv_lstore_n (lv' := [(1, .long (jI 0)), (0, .ref (ad 100))]) C.1 C.2.1 dX12_keyNow_1 rfl hl (by decide) rfl (fun ls hl => ?_)
  refine lv_iconst (v := iI 0) C.1 C.2.1 dX12_keyNow_2 (by decide) ?_
  refine lv_istore_n (lv' := [(3, .int (iI 0)), (1, .long (jI 0)), (0, .ref (ad 100))]) C.1 C.2.1 dX12_keyNow_3 rfl hl (by decide) rfl (fun ls hl => ?_)
  have L4 : ∀ (fu : Nat) (i : Int) (n : Int) (H1 : Heap) (lc1 : List Loc) (ls1 : Array Slot), (0 ≤ i ∧ i ≤ σ 202 0 * σ 203 0) → (n = keyF (σ 201) i.toNat) → (30 - i).toNat < fu → XI D ad G ids (AN ad ids ss.heap.size) ss.heap H1 lc1 σ → lv_has ls1 4 [(3, .int (iI i)), (1, .long (jI n)), (0, .ref (ad 100))] → W pp l ee (rmh 2) ss mm args below meth cq H1 lc1 0 0 (MQ below (QL D ad G ids (fun z σ' => keyF (σ 201) (σ 202 0 * σ 203 0).toNat * 2 + σ 204 0 = z ∧ σ = σ') ss.heap.size) args ss 0 0 (AN ad ids ss.heap.size)) (F0 mm 4 ls1 []) := by
    intro fu
    induction fu with
    | zero => intro i n  H1 lc1 ls1 i0 hn hfu; exact absurd hfu (Nat.not_lt_zero _)
    | succ fu ih4 =>
      intro i n  H1 lc1 ls1 i0 hn hfu hM hl
      refine lv_iload_n C.1 C.2.1 dX12_keyNow_4 rfl (lv_at hl 0 rfl) ?_
      refine lv_iconst (v := iI 1) C.1 C.2.1 dX12_keyNow_5 (by decide) ?_
      refine x_iadd C dX12_keyNow_6 ?_
      refine lv_aload_n C.1 C.2.1 dX12_keyNow_7 rfl (lv_at hl 2 rfl) ?_
      refine g_X12_3 C hM (hJ 100 (by decide) (by decide)) wf_X12_73 dX12_keyNow_8 ?_
      refine ln_now C hM (hJ 101 (by decide) (by decide)) (wh := (σ 202 0 * σ 203 0)) rfl (by omega) dX12_keyNow_11 ?_
      refine x_icmp_ge C ⟨by omega, by omega⟩ ⟨by omega, by omega⟩ (tgt := 35) dX12_keyNow_12 (by decide) (fun c12 => ?_) (fun c12 => ?_)
      · refine lv_ldc2 C.1 C.2.1 C.2.2.2.1 (C.2.2.2.2.1 _ wk_X12_110) dX12_keyNow_35 ?_
        refine lv_lload_n C.1 C.2.1 dX12_keyNow_38 rfl (lv_at hl 1 rfl) ?_
        refine x_lmul C dX12_keyNow_39 ?_
        refine lv_aload_n C.1 C.2.1 dX12_keyNow_40 rfl (lv_at hl 2 rfl) ?_
        refine x_ci (x_runV (As := []) (rest := [.long (jI (2 * n))]) C (by omega) cw_X12_94 (c_X12_sideNow l D ad G ids hJ σ hB) hM (hJ 100 (by decide) (by decide)) (cx_100 ad G _) rfl rfl rfl rfl (Nat.le_of_ble_eq_true rfl) hl.1 dX12_keyNow_41) hM (fun r41 s41 H1 lc1 hp hM => ?_)
        obtain ⟨rfl, rfl⟩ := hp
        refine x_i2l C hsr dX12_keyNow_44 ?_
        refine x_ladd C dX12_keyNow_45 ?_
        exact x_lret C hr hM ⟨by rw [hn, show i = σ 202 0 * σ 203 0 by omega]; omega, rfl⟩ dX12_keyNow_46
      · refine lv_ldc2 C.1 C.2.1 C.2.2.2.1 (C.2.2.2.2.1 _ wk_X12_108) dX12_keyNow_15 ?_
        refine lv_lload_n C.1 C.2.1 dX12_keyNow_18 rfl (lv_at hl 1 rfl) ?_
        refine x_lmul C dX12_keyNow_19 ?_
        refine lv_aload_n C.1 C.2.1 dX12_keyNow_20 rfl (lv_at hl 2 rfl) ?_
        refine g_X12_3 C hM (hJ 100 (by decide) (by decide)) wf_X12_73 dX12_keyNow_21 ?_
        refine lv_iload_n C.1 C.2.1 dX12_keyNow_24 rfl (lv_at hl 0 rfl) ?_
        refine al_now C hM (hJ 101 (by decide) (by decide)) (wh := (σ 202 0 * σ 203 0)) rfl (by omega) (by omega) (by omega) dX12_keyNow_25 ?_
        have hc := hC i
        refine x_i2l C ⟨by omega, by omega⟩ dX12_keyNow_26 ?_
        refine x_ladd C dX12_keyNow_27 ?_
        refine lv_lstore_n (lv' := [(1, .long (jI ((3 * n) + (σ 201 i)))), (3, .int (iI i)), (0, .ref (ad 100))]) C.1 C.2.1 dX12_keyNow_28 rfl hl (by decide) rfl (fun ls hl => ?_)
        refine x_iinc (lv1 := [(3, .int (iI (i + 1))), (1, .long (jI ((3 * n) + (σ 201 i)))), (0, .ref (ad 100))]) C dX12_keyNow_29 hl (k := 1) rfl (by decide) rfl (fun ls hl => ?_)
        refine lv_goto (tgt := 4) C.1 C.2.1 dX12_keyNow_32 (by decide) ?_
        exact ih4 (i + 1) ((3 * n) + (σ 201 i)) _ _ _ (by omega) (by rw [keyF_s _ i0.1, ← hn]; omega) (by omega) hM (lv_sub hl [0, 1, 2] rfl)
  exact L4 _ 0 0 _ _ _ (by omega) rfl (Nat.lt_succ_self _) hM (lv_sub hl [0, 1, 2] rfl)
set_option maxRecDepth 100000 in
set_option maxHeartbeats 4000000 in
theorem c_X12_worth (l : Launch) (D : va_G) (ad : Nat → Nat) (G : Nat → Nat) (ids : List Nat) (hJ : ∀ k, 100 ≤ k → k < 233 → k ∈ ids) (σ : Sg) (s : Int) (hB : BG (mw σ)) (hC : BC (σ 201)) (hs0 : s = 0 ∨ s = 1) : MET l yX12_worth cX12_worth 4 (some .int) 5 [.ref (ad 100), .int (iI s)] D ad G ids σ (QI D ad G ids (fun z σ' => wsum (σ 201) (σ 202 0) (σ 203 0) (σ 205 0) (σ 206 0) (σ 207 0) s (σ 202 0 * σ 203 0).toNat = z ∧ σ = σ')) := by
  have w1 : 3 ≤ σ 202 0 := hB.1
  have w2 : σ 202 0 ≤ 5 := hB.2.1
  have h1 : 3 ≤ σ 203 0 := hB.2.2.1
  have h2 : σ 203 0 ≤ 5 := hB.2.2.2
  have wb := wh_bd w1 w2 h1 h2
  refine x_enter (by decide) (Nat.le_of_ble_eq_true rfl) ?_
  intro pp ee ss mm args below meth cq C hr ls hl hM
  have hl : lv_has ls 4 [(0, .ref (ad 100)), (1, .int (iI s))] := hl
  refine lv_aload_n C.1 C.2.1 dX12_worth_0 rfl (lv_at hl 0 rfl) ?_
  refine g_X12_8 C hM (hJ 100 (by decide) (by decide)) wf_X12_20 dX12_worth_1 ?_
  refine lv_aload_n C.1 C.2.1 dX12_worth_4 rfl (lv_at hl 0 rfl) ?_
  refine lv_iload_n C.1 C.2.1 dX12_worth_5 rfl (lv_at hl 1 rfl) ?_
  refine x_ci (x_runV (As := [.int (iI s)]) (rest := [.int (iI (σ 207 0))]) C (by omega) cw_X12_101 (c_X12_countSteps l D ad G ids hJ σ s hB hC (by omega)) hM (hJ 100 (by decide) (by decide)) (cx_100 ad G _) rfl rfl rfl rfl (Nat.le_of_ble_eq_true rfl) hl.1 dX12_worth_6) hM (fun r6 s6 H1 lc1 hp hM => ?_)
  obtain ⟨rfl, rfl⟩ := hp
  refine x_imul C dX12_worth_9 ?_
  refine lv_istore_n (lv' := [(2, .int (iI ((σ 207 0) * (cstM (σ 201) (σ 202 0) (σ 203 0) s (σ 202 0 * σ 203 0).toNat)))), (0, .ref (ad 100)), (1, .int (iI s))]) C.1 C.2.1 dX12_worth_10 rfl hl (by decide) rfl (fun ls hl => ?_)
  refine lv_iconst (v := iI 0) C.1 C.2.1 dX12_worth_11 (by decide) ?_
  refine lv_istore_n (lv' := [(3, .int (iI 0)), (2, .int (iI ((σ 207 0) * (cstM (σ 201) (σ 202 0) (σ 203 0) s (σ 202 0 * σ 203 0).toNat)))), (0, .ref (ad 100)), (1, .int (iI s))]) C.1 C.2.1 dX12_worth_12 rfl hl (by decide) rfl (fun ls hl => ?_)
  have L13 : ∀ (fu : Nat) (f : Int) (n : Int) (H1 : Heap) (lc1 : List Loc) (ls1 : Array Slot), (0 ≤ f ∧ f ≤ σ 202 0 * σ 203 0) → (n = σ 207 0 * cstM (σ 201) (σ 202 0) (σ 203 0) s (σ 202 0 * σ 203 0).toNat + wbs (σ 201) (σ 202 0) (σ 203 0) (σ 205 0) (σ 206 0) s f.toNat) → (30 - f).toNat < fu → XI D ad G ids (AN ad ids ss.heap.size) ss.heap H1 lc1 σ → lv_has ls1 4 [(3, .int (iI f)), (2, .int (iI n)), (0, .ref (ad 100)), (1, .int (iI s))] → W pp l ee (rmh 5) ss mm args below meth cq H1 lc1 0 0 (MQ below (QI D ad G ids (fun z σ' => wsum (σ 201) (σ 202 0) (σ 203 0) (σ 205 0) (σ 206 0) (σ 207 0) s (σ 202 0 * σ 203 0).toNat = z ∧ σ = σ') ss.heap.size) args ss 0 0 (AN ad ids ss.heap.size)) (F0 mm 13 ls1 []) := by
    intro fu
    induction fu with
    | zero => intro f n  H1 lc1 ls1 f0 hn hfu; exact absurd hfu (Nat.not_lt_zero _)
    | succ fu ih13 =>
      intro f n  H1 lc1 ls1 f0 hn hfu hM hl
      refine lv_iload_n C.1 C.2.1 dX12_worth_13 rfl (lv_at hl 0 rfl) ?_
      refine lv_iconst (v := iI 1) C.1 C.2.1 dX12_worth_14 (by decide) ?_
      refine x_iadd C dX12_worth_15 ?_
      refine lv_aload_n C.1 C.2.1 dX12_worth_16 rfl (lv_at hl 2 rfl) ?_
      refine g_X12_3 C hM (hJ 100 (by decide) (by decide)) wf_X12_73 dX12_worth_17 ?_
      refine ln_now C hM (hJ 101 (by decide) (by decide)) (wh := (σ 202 0 * σ 203 0)) rfl (by omega) dX12_worth_20 ?_
      refine x_icmp_ge C ⟨by omega, by omega⟩ ⟨by omega, by omega⟩ (tgt := 72) dX12_worth_21 (by decide) (fun c21 => ?_) (fun c21 => ?_)
      · refine lv_iload_n C.1 C.2.1 dX12_worth_72 rfl (lv_at hl 1 rfl) ?_
        exact x_iret C hr hM ⟨by rw [wsum_split hs0, hn, show f = σ 202 0 * σ 203 0 by omega], rfl⟩ dX12_worth_73
      · refine lv_aload_n C.1 C.2.1 dX12_worth_24 rfl (lv_at hl 2 rfl) ?_
        refine g_X12_3 C hM (hJ 100 (by decide) (by decide)) wf_X12_73 dX12_worth_25 ?_
        refine lv_iload_n C.1 C.2.1 dX12_worth_28 rfl (lv_at hl 0 rfl) ?_
        have hc := hC f
        refine al_now C hM (hJ 101 (by decide) (by decide)) (wh := (σ 202 0 * σ 203 0)) rfl (by omega) (by omega) (by omega) dX12_worth_29 ?_
        refine lv_iload_n C.1 C.2.1 dX12_worth_30 rfl (lv_at hl 3 rfl) ?_
        refine lv_iconst (v := iI 1) C.1 C.2.1 dX12_worth_31 (by decide) ?_
        refine x_iadd C dX12_worth_32 ?_
        refine x_icmp_ne C ⟨by omega, by omega⟩ ⟨by omega, by omega⟩ (tgt := 66) dX12_worth_33 (by decide) (fun c33 => ?_) (fun c33 => ?_)
        · refine x_iinc (lv1 := [(3, .int (iI (f + 1))), (2, .int (iI n)), (0, .ref (ad 100)), (1, .int (iI s))]) C dX12_worth_66 hl (k := 0) rfl (by decide) rfl (fun ls hl => ?_)
          refine lv_goto (tgt := 13) C.1 C.2.1 dX12_worth_69 (by decide) ?_
          exact ih13 (f + 1) n _ _ _ (by omega) (by rw [wbs_s _ _ _ _ _ _ f0.1, if_neg (show ¬ σ 201 f = s + 1 by omega), Int.add_zero]; exact hn) (by omega) hM (lv_sub hl [0, 1, 2, 3] rfl)
        · have g := fld2 (n := f) f0.1 (by omega) w1 w2 h1 h2
          refine lv_iload_n C.1 C.2.1 dX12_worth_36 rfl (lv_at hl 1 rfl) ?_
          refine lv_aload_n C.1 C.2.1 dX12_worth_37 rfl (lv_at hl 2 rfl) ?_
          refine g_X12_6 C hM (hJ 100 (by decide) (by decide)) wf_X12_13 dX12_worth_38 ?_
          refine lv_aload_n C.1 C.2.1 dX12_worth_41 rfl (lv_at hl 2 rfl) ?_
          refine g_X12_7 C hM (hJ 100 (by decide) (by decide)) wf_X12_17 dX12_worth_42 ?_
          refine lv_iload_n C.1 C.2.1 dX12_worth_45 rfl (lv_at hl 0 rfl) ?_
          refine lv_aload_n C.1 C.2.1 dX12_worth_46 rfl (lv_at hl 2 rfl) ?_
          refine g_X12_1 C hM (hJ 100 (by decide) (by decide)) wf_X12_67 dX12_worth_47 ?_
          refine x_idiv2 C ⟨by omega, by omega, by omega⟩ ⟨by omega, by omega, by omega⟩ dX12_worth_50 ?_
          refine lv_aload_n C.1 C.2.1 dX12_worth_51 rfl (lv_at hl 2 rfl) ?_
          refine lv_iconst (v := iI 1) C.1 C.2.1 dX12_worth_52 (by decide) ?_
          refine lv_iload_n C.1 C.2.1 dX12_worth_53 rfl (lv_at hl 3 rfl) ?_
          refine x_isub C dX12_worth_54 ?_
          refine x_ci (x_runV (As := [.int (iI (1 - s))]) (rest := [.int (iI (f / (σ 202 0))), .int (iI (σ 206 0)), .int (iI (σ 205 0)), .int (iI n)]) C (by omega) cw_X12_98 (c_X12_goal l D ad G ids hJ σ (1 - s) hB (by omega)) hM (hJ 100 (by decide) (by decide)) (cx_100 ad G _) rfl rfl rfl rfl (Nat.le_of_ble_eq_true rfl) hl.1 dX12_worth_55) hM (fun r55 s55 H1 lc1 hp hM => ?_)
          obtain ⟨rfl, rfl⟩ := hp
          have hgl : (if (1 - s) = 0 then σ 203 0 - 1 else 0) = if s = 0 then 0 else σ 203 0 - 1 := by
            rcases hs0 with h | h
            · rw [if_neg (by omega), if_pos h]
            · rw [if_pos (by omega), if_neg (by omega)]
          have hab : (if f / σ 202 0 - (if (1 - s) = 0 then σ 203 0 - 1 else 0) < 0 then -(f / σ 202 0 - (if (1 - s) = 0 then σ 203 0 - 1 else 0)) else f / σ 202 0 - (if (1 - s) = 0 then σ 203 0 - 1 else 0)) = if s = 0 then f / σ 202 0 else σ 203 0 - 1 - f / σ 202 0 := by
            rw [hgl]
            have q1 : s = 0 → (if s = 0 then (0 : Int) else σ 203 0 - 1) = 0 := fun h => if_pos h
            have q2 : s ≠ 0 → (if s = 0 then (0 : Int) else σ 203 0 - 1) = σ 203 0 - 1 := fun h => if_neg h
            generalize (if s = 0 then (0 : Int) else σ 203 0 - 1) = gg at q1 q2 ⊢
            rcases hs0 with h | h
            · rw [if_pos h]
              have := q1 h
              split <;> omega
            · rw [if_neg (show ¬ s = 0 by omega)]
              have := q2 (by omega)
              split <;> omega
          have hgi : 0 ≤ (if (1 - s) = 0 then σ 203 0 - 1 else 0) ∧ (if (1 - s) = 0 then σ 203 0 - 1 else 0) ≤ 5 := by split <;> omega
          refine x_isub C dX12_worth_58 ?_
          refine x_abs C (by omega) hl.1 wM_X12_112 ⟨⟨by omega, by omega⟩, by omega⟩ (Nat.le_of_ble_eq_true rfl) dX12_worth_59 ?_
          refine x_imul C dX12_worth_62 ?_
          refine x_iadd C dX12_worth_63 ?_
          refine x_iadd C dX12_worth_64 ?_
          refine lv_istore_n (lv' := [(2, .int (iI (n + ((σ 205 0) + ((σ 206 0) * (if (f / (σ 202 0)) - (if (1 - s) = 0 then σ 203 0 - 1 else 0) < 0 then -((f / (σ 202 0)) - (if (1 - s) = 0 then σ 203 0 - 1 else 0)) else (f / (σ 202 0)) - (if (1 - s) = 0 then σ 203 0 - 1 else 0))))))), (3, .int (iI f)), (0, .ref (ad 100)), (1, .int (iI s))]) C.1 C.2.1 dX12_worth_65 rfl hl (by decide) rfl (fun ls hl => ?_)
          refine x_iinc (lv1 := [(3, .int (iI (f + 1))), (2, .int (iI (n + ((σ 205 0) + ((σ 206 0) * (if (f / (σ 202 0)) - (if (1 - s) = 0 then σ 203 0 - 1 else 0) < 0 then -((f / (σ 202 0)) - (if (1 - s) = 0 then σ 203 0 - 1 else 0)) else (f / (σ 202 0)) - (if (1 - s) = 0 then σ 203 0 - 1 else 0))))))), (0, .ref (ad 100)), (1, .int (iI s))]) C dX12_worth_66 hl (k := 1) rfl (by decide) rfl (fun ls hl => ?_)
          refine lv_goto (tgt := 13) C.1 C.2.1 dX12_worth_69 (by decide) ?_
          exact ih13 (f + 1) (n + ((σ 205 0) + ((σ 206 0) * (if (f / (σ 202 0)) - (if (1 - s) = 0 then σ 203 0 - 1 else 0) < 0 then -((f / (σ 202 0)) - (if (1 - s) = 0 then σ 203 0 - 1 else 0)) else (f / (σ 202 0)) - (if (1 - s) = 0 then σ 203 0 - 1 else 0))))) _ _ _ (by omega) (by rw [wbs_s _ _ _ _ _ _ f0.1, hab, if_pos (show σ 201 f = s + 1 by omega), hn, Int.add_assoc]) (by omega) hM (lv_sub hl [0, 1, 2, 3] rfl)
  exact L13 _ 0 ((σ 207 0) * (cstM (σ 201) (σ 202 0) (σ 203 0) s (σ 202 0 * σ 203 0).toNat)) _ _ _ (by omega) (by show _ = _ + 0; rw [Int.add_zero]) (Nat.lt_succ_self _) hM (lv_sub hl [0, 1, 2, 3] rfl)
set_option maxRecDepth 100000 in
set_option maxHeartbeats 4000000 in
theorem c_X12_evaluated (l : Launch) (D : va_G) (ad : Nat → Nat) (G : Nat → Nat) (ids : List Nat) (hJ : ∀ k, 100 ≤ k → k < 233 → k ∈ ids) (σ : Sg)  (hG : GI (mw σ)) : MET l yX12_evaluated cX12_evaluated 1 (some .int) 6 [.ref (ad 100)] D ad G ids σ (QI D ad G ids (fun z σ' => evS (cfg (mw σ)) (σ 201) (σ 204 0) = z ∧ σ = σ')) := by
  have hB : BG (mw σ) := hG.1
  have w1 : 3 ≤ σ 202 0 := hB.1
  have w2 : σ 202 0 ≤ 5 := hB.2.1
  have h1 : 3 ≤ σ 203 0 := hB.2.2.1
  have h2 : σ 203 0 ≤ 5 := hB.2.2.2
  have wb := wh_bd w1 w2 h1 h2
  have hC : BC (σ 201) := hG.2.1
  have hs : σ 204 0 = 0 ∨ σ 204 0 = 1 := hG.2.2.1
  refine x_enter (by decide) (Nat.le_of_ble_eq_true rfl) ?_
  intro pp ee ss mm args below meth cq C hr ls hl hM
  have hl : lv_has ls 1 [(0, .ref (ad 100))] := hl
  refine lv_aload_n C.1 C.2.1 dX12_evaluated_0 rfl (lv_at hl 0 rfl) ?_
  refine lv_aload_n C.1 C.2.1 dX12_evaluated_1 rfl (lv_at hl 0 rfl) ?_
  refine x_ci (x_runV (As := []) (rest := [.ref (ad 100)]) C (by omega) cw_X12_94 (c_X12_sideNow l D ad G ids hJ σ hB) hM (hJ 100 (by decide) (by decide)) (cx_100 ad G _) rfl rfl rfl rfl (Nat.le_of_ble_eq_true rfl) hl.1 dX12_evaluated_2) hM (fun r2 s2 H1 lc1 hp hM => ?_)
  obtain ⟨rfl, rfl⟩ := hp
  refine x_ci (x_runV (As := [.int (iI (σ 204 0))]) (rest := []) C (by omega) cw_X12_117 (c_X12_worth l D ad G ids hJ σ (σ 204 0) hB hC (by omega)) hM (hJ 100 (by decide) (by decide)) (cx_100 ad G _) rfl rfl rfl rfl (Nat.le_of_ble_eq_true rfl) hl.1 dX12_evaluated_5) hM (fun r5 s5 H1 lc1 hp hM => ?_)
  obtain ⟨rfl, rfl⟩ := hp
  refine lv_aload_n C.1 C.2.1 dX12_evaluated_8 rfl (lv_at hl 0 rfl) ?_
  refine lv_iconst (v := iI 1) C.1 C.2.1 dX12_evaluated_9 (by decide) ?_
  refine lv_aload_n C.1 C.2.1 dX12_evaluated_10 rfl (lv_at hl 0 rfl) ?_
  refine x_ci (x_runV (As := []) (rest := [.int (iI 1), .ref (ad 100), .int (iI (wsum (σ 201) (σ 202 0) (σ 203 0) (σ 205 0) (σ 206 0) (σ 207 0) (σ 204 0) (σ 202 0 * σ 203 0).toNat))]) C (by omega) cw_X12_94 (c_X12_sideNow l D ad G ids hJ σ hB) hM (hJ 100 (by decide) (by decide)) (cx_100 ad G _) rfl rfl rfl rfl (Nat.le_of_ble_eq_true rfl) hl.1 dX12_evaluated_11) hM (fun r11 s11 H1 lc1 hp hM => ?_)
  obtain ⟨rfl, rfl⟩ := hp
  refine x_isub C dX12_evaluated_14 ?_
  refine x_ci (x_runV (As := [.int (iI (1 - (σ 204 0)))]) (rest := [.int (iI (wsum (σ 201) (σ 202 0) (σ 203 0) (σ 205 0) (σ 206 0) (σ 207 0) (σ 204 0) (σ 202 0 * σ 203 0).toNat))]) C (by omega) cw_X12_117 (c_X12_worth l D ad G ids hJ σ (1 - (σ 204 0)) hB hC (by omega)) hM (hJ 100 (by decide) (by decide)) (cx_100 ad G _) rfl rfl rfl rfl (Nat.le_of_ble_eq_true rfl) hl.1 dX12_evaluated_15) hM (fun r15 s15 H1 lc1 hp hM => ?_)
  obtain ⟨rfl, rfl⟩ := hp
  refine x_isub C dX12_evaluated_18 ?_
  exact x_iret C hr hM ⟨rfl, rfl⟩ dX12_evaluated_19
