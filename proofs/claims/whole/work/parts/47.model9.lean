theorem sh_mv (τ : Sg) (v : Int) : shT (mvG τ v) = mvG (shT τ) v := by
  funext q
  by_cases e : q = 30
  · subst e; rfl
  by_cases e : q = 29
  · subst e; rfl
  by_cases e : q = 28
  · subst e; rfl
  by_cases e : q = 4
  · subst e; rfl
  by_cases e : q = 1
  · subst e; rfl
  unfold shT mvG
  rw [upr_ne _ _ (by omega), upr_ne _ _ (by omega), upr_ne _ _ (by omega), upr_ne _ _ (by omega), upr_ne _ _ (by omega), upr_ne _ _ (by omega), upr_ne _ _ (by omega), upr_ne _ _ (by omega), upr_ne _ _ (by omega), upr_ne _ _ (by omega)]
theorem mw_put (X : Sg) (v t : Int) : mw (upr (upr (upr X 228 (ups (X 228) (X 230 0) v)) 229 (ups (X 229) (X 230 0) t)) 230 (ups (X 230) 0 (X 230 0 + 1))) = putT (mw X) v t := by
  unfold putT
  rw [mw_upr (r := 30), mw_upr (r := 29), mw_upr (r := 28)]
  rfl
set_option maxRecDepth 100000 in
set_option maxHeartbeats 4000000 in
theorem c_X12_playNow (l : Launch) (D : va_G) (ad : Nat → Nat) (G : Nat → Nat) (ids : List Nat) (hJ : ∀ k, 100 ≤ k → k < 233 → k ∈ ids) (σ : Sg) (v : Int) (hB : BG (mw σ)) (htr : 0 ≤ σ 230 0 ∧ σ 230 0 ≤ 40) (hv : 0 ≤ v ∧ v < 2500 ∧ v / 100 < σ 202 0 * σ 203 0 ∧ v % 100 < σ 202 0 * σ 203 0) : MET l yX12_playNow cX12_playNow 3 (some .int) 3 [.ref (ad 100), .int (iI v)] D ad G ids σ (QI D ad G ids (fun z σ' => σ 201 (v % 100) = z ∧ mw σ' = addT (mvG (mw σ) v) v (σ 201 (v % 100)) ∧ ∀ r : Nat, ¬ (r = 201 ∨ r = 204 ∨ r = 228 ∨ r = 229 ∨ r = 230) → σ' r = σ r)) := by
  have w1 : 3 ≤ σ 202 0 := hB.1
  have w2 : σ 202 0 ≤ 5 := hB.2.1
  have h1 : 3 ≤ σ 203 0 := hB.2.2.1
  have h2 : σ 203 0 ≤ 5 := hB.2.2.2
  have wb := wh_bd w1 w2 h1 h2
  refine x_enter (by decide) (Nat.le_of_ble_eq_true rfl) ?_
  intro pp ee ss mm args below meth cq C hr ls hl hM
  have hl : lv_has ls 3 [(0, .ref (ad 100)), (1, .int (iI v))] := hl
  refine lv_aload_n C.1 C.2.1 dX12_playNow_0 rfl (lv_at hl 0 rfl) ?_
  refine g_X12_5 C hM (hJ 100 (by decide) (by decide)) wf_X12_76 dX12_playNow_1 ?_
  refine lv_bipush (v := iI 40) C.1 C.2.1 dX12_playNow_4 (by decide) ?_
  refine x_icmp_ne C ⟨by omega, by omega⟩ ⟨by omega, by omega⟩ (tgt := 34) dX12_playNow_6 (by decide) (fun c6 => ?_) (fun c6 => ?_)
  · obtain ⟨s2, hs2⟩ : ∃ sx_ : Sg, sx_ = σ := ⟨_, rfl⟩
    rw [← hs2] at hM
    have bo : ∀ r : Nat, ¬ (r = 228 ∨ r = 229 ∨ r = 230) → s2 r = σ r := fun r _ => by rw [hs2]
    have b2 : 0 ≤ s2 230 0 ∧ s2 230 0 ≤ 39 := by rw [hs2]; omega
    have b0 : mw s2 = if 40 ≤ σ 230 0 then shT (mw σ) else mw σ := by rw [if_neg (by omega), hs2]
    have hB2 : BG (mw s2) := (BG_of (a := mw σ) (b := mw s2) (bo 202 (by decide)) (bo 203 (by decide))).mpr hB
    have hw2 : s2 202 0 * s2 203 0 = σ 202 0 * σ 203 0 := by rw [bo 202 (by decide), bo 203 (by decide)]
    have hp : mvM s2 v 230 0 = s2 230 0 := congrFun (mvM_o s2 v (by decide) (by decide)) 0
    refine lv_aload_n C.1 C.2.1 dX12_playNow_34 rfl (lv_at hl 0 rfl) ?_
    refine lv_iload_n C.1 C.2.1 dX12_playNow_35 rfl (lv_at hl 1 rfl) ?_
    refine x_ci (x_runV (As := [.int (iI v)]) (rest := []) C (by omega) cw_X12_130 (c_X12_make l D ad G ids hJ s2 v hB2 (by rw [hw2]; exact hv)) hM (hJ 100 (by decide) (by decide)) (cx_100 ad G _) rfl rfl rfl rfl (Nat.le_of_ble_eq_true rfl) hl.1 dX12_playNow_36) hM (fun r36 s36 H1 lc1 hp hM => ?_)
    obtain ⟨rfl, rfl⟩ := hp
    refine lv_istore_n (lv' := [(2, .int (iI (s2 201 (v % 100)))), (0, .ref (ad 100)), (1, .int (iI v))]) C.1 C.2.1 dX12_playNow_39 rfl hl (by decide) rfl (fun ls hl => ?_)
    refine lv_aload_n C.1 C.2.1 dX12_playNow_40 rfl (lv_at hl 1 rfl) ?_
    refine g_X12_4 C hM (hJ 100 (by decide) (by decide)) wf_X12_9 dX12_playNow_41 ?_
    refine lv_iconst (v := iI 2) C.1 C.2.1 dX12_playNow_44 (by decide) ?_
    refine lv_aload_n C.1 C.2.1 dX12_playNow_45 rfl (lv_at hl 1 rfl) ?_
    refine g_X12_5 C hM (hJ 100 (by decide) (by decide)) wf_X12_76 dX12_playNow_46 ?_
    refine x_imul C dX12_playNow_49 ?_
    refine lv_iload_n C.1 C.2.1 dX12_playNow_50 rfl (lv_at hl 2 rfl) ?_
    refine as_g0 C hM (hJ 102 (by decide) (by decide)) (q := (mvM s2 v 230 0)) (by omega) (by omega) dX12_playNow_51 (fun H1 lc1 hM => ?_)
    refine lv_aload_n C.1 C.2.1 dX12_playNow_52 rfl (lv_at hl 1 rfl) ?_
    refine g_X12_4 C hM (hJ 100 (by decide) (by decide)) wf_X12_9 dX12_playNow_53 ?_
    refine lv_iconst (v := iI 2) C.1 C.2.1 dX12_playNow_56 (by decide) ?_
    refine lv_aload_n C.1 C.2.1 dX12_playNow_57 rfl (lv_at hl 1 rfl) ?_
    refine g_X12_5 C hM (hJ 100 (by decide) (by decide)) wf_X12_76 dX12_playNow_58 ?_
    rw [upr_ne _ _ (show (230 : Nat) ≠ 228 by omega)]
    refine x_imul C dX12_playNow_61 ?_
    refine lv_iconst (v := iI 1) C.1 C.2.1 dX12_playNow_62 (by decide) ?_
    refine x_iadd C dX12_playNow_63 ?_
    refine lv_iload_n C.1 C.2.1 dX12_playNow_64 rfl (lv_at hl 0 rfl) ?_
    refine as_g1 C hM (hJ 102 (by decide) (by decide)) (q := (mvM s2 v 230 0)) (by omega) (by omega) dX12_playNow_65 (fun H1 lc1 hM => ?_)
    refine lv_aload_n C.1 C.2.1 dX12_playNow_66 rfl (lv_at hl 1 rfl) ?_
    refine lv_dup C.1 C.2.1 dX12_playNow_67 rfl ?_
    refine g_X12_5 C hM (hJ 100 (by decide) (by decide)) wf_X12_76 dX12_playNow_68 ?_
    rw [upr_ne _ _ (show (230 : Nat) ≠ 229 by omega)]
    rw [upr_ne _ _ (show (230 : Nat) ≠ 228 by omega)]
    refine lv_iconst (v := iI 1) C.1 C.2.1 dX12_playNow_71 (by decide) ?_
    refine x_iadd C dX12_playNow_72 ?_
    refine p_X12_5 C hM (hJ 100 (by decide) (by decide)) wf_X12_76 dX12_playNow_73 (fun H1 lc1 hM => ?_)
    refine lv_iload_n C.1 C.2.1 dX12_playNow_76 rfl (lv_at hl 0 rfl) ?_
    refine x_iret C hr hM ?_ dX12_playNow_77
    exact by
      have ht : s2 201 (v % 100) = σ 201 (v % 100) := by rw [bo 201 (by decide)]
      refine ⟨ht.symm, ?_, fun r hr => ?_⟩
      · refine (mw_put (mvM s2 v) v (s2 201 (v % 100))).trans ?_
        rw [ht, mw_mv, b0]
        unfold addT
        rw [show mvG (mw σ) v 30 0 = σ 230 0 from congrFun (mvG_o (mw σ) v (by decide) (by decide)) 0]
        by_cases e : 40 ≤ σ 230 0
        · rw [if_pos e, if_pos e, sh_mv]
        · rw [if_neg e, if_neg e]
      · rw [upr_ne _ _ (by omega), upr_ne _ _ (by omega), upr_ne _ _ (by omega), mvM_o _ _ (by omega) (by omega)]; exact bo r (by omega)
  · refine lv_aload_n C.1 C.2.1 dX12_playNow_9 rfl (lv_at hl 0 rfl) ?_
    refine g_X12_4 C hM (hJ 100 (by decide) (by decide)) wf_X12_9 dX12_playNow_10 ?_
    refine lv_iconst (v := iI 2) C.1 C.2.1 dX12_playNow_13 (by decide) ?_
    refine lv_aload_n C.1 C.2.1 dX12_playNow_14 rfl (lv_at hl 0 rfl) ?_
    refine g_X12_4 C hM (hJ 100 (by decide) (by decide)) wf_X12_9 dX12_playNow_15 ?_
    refine lv_iconst (v := iI 0) C.1 C.2.1 dX12_playNow_18 (by decide) ?_
    refine lv_bipush (v := iI 78) C.1 C.2.1 dX12_playNow_19 (by decide) ?_
    refine x_cpy C hM hl.1 (hJ 102 (by decide) (by decide)) (by decide) dX12_playNow_21 (fun H1 lc1 hM => ?_)
    obtain ⟨s1, hs1⟩ : ∃ sx_ : Sg, sx_ = upr (upr σ 228 (shF (σ 228) 39)) 229 (shF (σ 229) 39) := ⟨_, rfl⟩
    rw [← hs1] at hM
    have hq230 : s1 230 0 = σ 230 0 := by rw [hs1, upr_ne _ _ (by decide), upr_ne _ _ (by decide)]
    refine lv_aload_n C.1 C.2.1 dX12_playNow_24 rfl (lv_at hl 0 rfl) ?_
    refine lv_dup C.1 C.2.1 dX12_playNow_25 rfl ?_
    refine g_X12_5 C hM (hJ 100 (by decide) (by decide)) wf_X12_76 dX12_playNow_26 ?_
    refine lv_iconst (v := iI 1) C.1 C.2.1 dX12_playNow_29 (by decide) ?_
    refine x_isub C dX12_playNow_30 ?_
    refine p_X12_5 C hM (hJ 100 (by decide) (by decide)) wf_X12_76 dX12_playNow_31 (fun H1 lc1 hM => ?_)
    obtain ⟨s2, hs2⟩ : ∃ sx_ : Sg, sx_ = upr s1 230 (ups (s1 230) 0 ((s1 230 0) - 1)) := ⟨_, rfl⟩
    rw [← hs2] at hM
    have bo : ∀ r : Nat, ¬ (r = 228 ∨ r = 229 ∨ r = 230) → s2 r = σ r := fun r hr => by rw [hs2, upr_ne _ _ (by omega), hs1, upr_ne _ _ (by omega), upr_ne _ _ (by omega)]
    have b1 : s2 230 0 = 39 := by rw [hs2, upr_eq, ups_eq, hs1, upr_ne _ _ (by decide), upr_ne _ _ (by decide)]; omega
    have b0 : mw s2 = if 40 ≤ σ 230 0 then shT (mw σ) else mw σ := by
      rw [if_pos (by omega), hs2, hs1]
      unfold shT
      rw [mw_upr (r := 30), mw_upr (r := 29), mw_upr (r := 28)]
      rfl
    have b2 : 0 ≤ s2 230 0 ∧ s2 230 0 ≤ 39 := by omega
    have hB2 : BG (mw s2) := (BG_of (a := mw σ) (b := mw s2) (bo 202 (by decide)) (bo 203 (by decide))).mpr hB
    have hw2 : s2 202 0 * s2 203 0 = σ 202 0 * σ 203 0 := by rw [bo 202 (by decide), bo 203 (by decide)]
    have hp : mvM s2 v 230 0 = s2 230 0 := congrFun (mvM_o s2 v (by decide) (by decide)) 0
    refine lv_aload_n C.1 C.2.1 dX12_playNow_34 rfl (lv_at hl 0 rfl) ?_
    refine lv_iload_n C.1 C.2.1 dX12_playNow_35 rfl (lv_at hl 1 rfl) ?_
    refine x_ci (x_runV (As := [.int (iI v)]) (rest := []) C (by omega) cw_X12_130 (c_X12_make l D ad G ids hJ s2 v hB2 (by rw [hw2]; exact hv)) hM (hJ 100 (by decide) (by decide)) (cx_100 ad G _) rfl rfl rfl rfl (Nat.le_of_ble_eq_true rfl) hl.1 dX12_playNow_36) hM (fun r36 s36 H1 lc1 hp hM => ?_)
    obtain ⟨rfl, rfl⟩ := hp
    refine lv_istore_n (lv' := [(2, .int (iI (s2 201 (v % 100)))), (0, .ref (ad 100)), (1, .int (iI v))]) C.1 C.2.1 dX12_playNow_39 rfl hl (by decide) rfl (fun ls hl => ?_)
    refine lv_aload_n C.1 C.2.1 dX12_playNow_40 rfl (lv_at hl 1 rfl) ?_
    refine g_X12_4 C hM (hJ 100 (by decide) (by decide)) wf_X12_9 dX12_playNow_41 ?_
    refine lv_iconst (v := iI 2) C.1 C.2.1 dX12_playNow_44 (by decide) ?_
    refine lv_aload_n C.1 C.2.1 dX12_playNow_45 rfl (lv_at hl 1 rfl) ?_
    refine g_X12_5 C hM (hJ 100 (by decide) (by decide)) wf_X12_76 dX12_playNow_46 ?_
    refine x_imul C dX12_playNow_49 ?_
    refine lv_iload_n C.1 C.2.1 dX12_playNow_50 rfl (lv_at hl 2 rfl) ?_
    refine as_g0 C hM (hJ 102 (by decide) (by decide)) (q := (mvM s2 v 230 0)) (by omega) (by omega) dX12_playNow_51 (fun H1 lc1 hM => ?_)
    refine lv_aload_n C.1 C.2.1 dX12_playNow_52 rfl (lv_at hl 1 rfl) ?_
    refine g_X12_4 C hM (hJ 100 (by decide) (by decide)) wf_X12_9 dX12_playNow_53 ?_
    refine lv_iconst (v := iI 2) C.1 C.2.1 dX12_playNow_56 (by decide) ?_
    refine lv_aload_n C.1 C.2.1 dX12_playNow_57 rfl (lv_at hl 1 rfl) ?_
    refine g_X12_5 C hM (hJ 100 (by decide) (by decide)) wf_X12_76 dX12_playNow_58 ?_
    rw [upr_ne _ _ (show (230 : Nat) ≠ 228 by omega)]
    refine x_imul C dX12_playNow_61 ?_
    refine lv_iconst (v := iI 1) C.1 C.2.1 dX12_playNow_62 (by decide) ?_
    refine x_iadd C dX12_playNow_63 ?_
    refine lv_iload_n C.1 C.2.1 dX12_playNow_64 rfl (lv_at hl 0 rfl) ?_
    refine as_g1 C hM (hJ 102 (by decide) (by decide)) (q := (mvM s2 v 230 0)) (by omega) (by omega) dX12_playNow_65 (fun H1 lc1 hM => ?_)
    refine lv_aload_n C.1 C.2.1 dX12_playNow_66 rfl (lv_at hl 1 rfl) ?_
    refine lv_dup C.1 C.2.1 dX12_playNow_67 rfl ?_
    refine g_X12_5 C hM (hJ 100 (by decide) (by decide)) wf_X12_76 dX12_playNow_68 ?_
    rw [upr_ne _ _ (show (230 : Nat) ≠ 229 by omega)]
    rw [upr_ne _ _ (show (230 : Nat) ≠ 228 by omega)]
    refine lv_iconst (v := iI 1) C.1 C.2.1 dX12_playNow_71 (by decide) ?_
    refine x_iadd C dX12_playNow_72 ?_
    refine p_X12_5 C hM (hJ 100 (by decide) (by decide)) wf_X12_76 dX12_playNow_73 (fun H1 lc1 hM => ?_)
    refine lv_iload_n C.1 C.2.1 dX12_playNow_76 rfl (lv_at hl 0 rfl) ?_
    refine x_iret C hr hM ?_ dX12_playNow_77
    exact by
      have ht : s2 201 (v % 100) = σ 201 (v % 100) := by rw [bo 201 (by decide)]
      refine ⟨ht.symm, ?_, fun r hr => ?_⟩
      · refine (mw_put (mvM s2 v) v (s2 201 (v % 100))).trans ?_
        rw [ht, mw_mv, b0]
        unfold addT
        rw [show mvG (mw σ) v 30 0 = σ 230 0 from congrFun (mvG_o (mw σ) v (by decide) (by decide)) 0]
        by_cases e : 40 ≤ σ 230 0
        · rw [if_pos e, if_pos e, sh_mv]
        · rw [if_neg e, if_neg e]
      · rw [upr_ne _ _ (by omega), upr_ne _ _ (by omega), upr_ne _ _ (by omega), mvM_o _ _ (by omega) (by omega)]; exact bo r (by omega)
