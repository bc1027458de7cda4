theorem wtN_of {a b : Sg} (h4 : a 24 = b 24) (h5 : a 25 = b 25) (h6 : a 26 = b 26) (key v : Int) : ∀ n : Nat, wtN a key v n = wtN b key v n
  | 0 => rfl
  | n + 1 => by
    unfold wtN
    rw [h4, h5, h6, wtN_of h4 h5 h6 key v n]
theorem wtF_of {a b : Sg} (h4 : a 24 = b 24) (h5 : a 25 = b 25) (h6 : a 26 = b 26) (h7 : a 27 = b 27) {key : Int} : wtF a key = wtF b key := by
  funext v
  unfold wtF
  rw [h7, wtN_of h4 h5 h6]
set_option maxRecDepth 100000 in
set_option maxHeartbeats 4000000 in
theorem c_X12_bestFrom (l : Launch) (D : va_G) (ad : Nat → Nat) (G : Nat → Nat) (ids : List Nat) (hJ : ∀ k, 100 ≤ k → k < 233 → k ∈ ids) (σ : Sg)  (hb : -1 ≤ σ 231 0 ∧ σ 231 0 < 2500) : MET l yX12_bestFrom cX12_bestFrom 1 (some .int) 1 [.ref (ad 100)] D ad G ids σ (QI D ad G ids (fun z σ' => (if σ 231 0 = -1 then -1 else σ 231 0 / 100) = z ∧ th σ 0 = σ')) := by
  refine x_enter (by decide) (Nat.le_of_ble_eq_true rfl) ?_
  intro pp ee ss mm args below meth cq C hr ls hl hM
  have hl : lv_has ls 1 [(0, .ref (ad 100))] := hl
  refine lv_aload_n C.1 C.2.1 dX12_bestFrom_0 rfl (lv_at hl 0 rfl) ?_
  refine lv_iconst (v := iI 0) C.1 C.2.1 dX12_bestFrom_1 (by decide) ?_
  refine p_X12_0 C hM (hJ 100 (by decide) (by decide)) wf_X12_64 dX12_bestFrom_2 (fun H1 lc1 hM => ?_)
  refine lv_aload_n C.1 C.2.1 dX12_bestFrom_5 rfl (lv_at hl 0 rfl) ?_
  refine g_X12_21 C hM (hJ 100 (by decide) (by decide)) wf_X12_51 dX12_bestFrom_6 ?_
  rw [upr_ne _ _ (show (231 : Nat) ≠ 232 by omega)]
  refine lv_iconst (v := iI (-1)) C.1 C.2.1 dX12_bestFrom_9 (by decide) ?_
  refine x_icmp_ne C ⟨by omega, by omega⟩ ⟨by omega, by omega⟩ (tgt := 17) dX12_bestFrom_10 (by decide) (fun c10 => ?_) (fun c10 => ?_)
  · refine lv_aload_n C.1 C.2.1 dX12_bestFrom_17 rfl (lv_at hl 0 rfl) ?_
    refine g_X12_21 C hM (hJ 100 (by decide) (by decide)) wf_X12_51 dX12_bestFrom_18 ?_
    rw [upr_ne _ _ (show (231 : Nat) ≠ 232 by omega)]
    refine lv_bipush (v := iI 100) C.1 C.2.1 dX12_bestFrom_21 (by decide) ?_
    refine x_idiv2 C ⟨by omega, by omega, by omega⟩ ⟨by omega, by omega, by omega⟩ dX12_bestFrom_23 ?_
    exact x_iret C hr hM ⟨if_neg (by omega), rfl⟩ dX12_bestFrom_24
  · refine lv_iconst (v := iI (-1)) C.1 C.2.1 dX12_bestFrom_13 (by decide) ?_
    refine lv_goto (tgt := 24) C.1 C.2.1 dX12_bestFrom_14 (by decide) ?_
    exact x_iret C hr hM ⟨if_pos (by omega), rfl⟩ dX12_bestFrom_24
set_option maxRecDepth 100000 in
set_option maxHeartbeats 4000000 in
theorem c_X12_bestTo (l : Launch) (D : va_G) (ad : Nat → Nat) (G : Nat → Nat) (ids : List Nat) (hJ : ∀ k, 100 ≤ k → k < 233 → k ∈ ids) (σ : Sg)  (hb : -1 ≤ σ 231 0 ∧ σ 231 0 < 2500) : MET l yX12_bestTo cX12_bestTo 1 (some .int) 1 [.ref (ad 100)] D ad G ids σ (QI D ad G ids (fun z σ' => (if σ 231 0 = -1 then -1 else σ 231 0 % 100) = z ∧ th σ 0 = σ')) := by
  refine x_enter (by decide) (Nat.le_of_ble_eq_true rfl) ?_
  intro pp ee ss mm args below meth cq C hr ls hl hM
  have hl : lv_has ls 1 [(0, .ref (ad 100))] := hl
  refine lv_aload_n C.1 C.2.1 dX12_bestTo_0 rfl (lv_at hl 0 rfl) ?_
  refine lv_iconst (v := iI 0) C.1 C.2.1 dX12_bestTo_1 (by decide) ?_
  refine p_X12_0 C hM (hJ 100 (by decide) (by decide)) wf_X12_64 dX12_bestTo_2 (fun H1 lc1 hM => ?_)
  refine lv_aload_n C.1 C.2.1 dX12_bestTo_5 rfl (lv_at hl 0 rfl) ?_
  refine g_X12_21 C hM (hJ 100 (by decide) (by decide)) wf_X12_51 dX12_bestTo_6 ?_
  rw [upr_ne _ _ (show (231 : Nat) ≠ 232 by omega)]
  refine lv_iconst (v := iI (-1)) C.1 C.2.1 dX12_bestTo_9 (by decide) ?_
  refine x_icmp_ne C ⟨by omega, by omega⟩ ⟨by omega, by omega⟩ (tgt := 17) dX12_bestTo_10 (by decide) (fun c10 => ?_) (fun c10 => ?_)
  · refine lv_aload_n C.1 C.2.1 dX12_bestTo_17 rfl (lv_at hl 0 rfl) ?_
    refine g_X12_21 C hM (hJ 100 (by decide) (by decide)) wf_X12_51 dX12_bestTo_18 ?_
    rw [upr_ne _ _ (show (231 : Nat) ≠ 232 by omega)]
    refine lv_bipush (v := iI 100) C.1 C.2.1 dX12_bestTo_21 (by decide) ?_
    refine x_irem2 C ⟨by omega, by omega, by omega⟩ ⟨by omega, by omega, by omega⟩ dX12_bestTo_23 ?_
    exact x_iret C hr hM ⟨if_neg (by omega), rfl⟩ dX12_bestTo_24
  · refine lv_iconst (v := iI (-1)) C.1 C.2.1 dX12_bestTo_13 (by decide) ?_
    refine lv_goto (tgt := 24) C.1 C.2.1 dX12_bestTo_14 (by decide) ?_
    exact x_iret C hr hM ⟨if_pos (by omega), rfl⟩ dX12_bestTo_24
set_option maxRecDepth 100000 in
set_option maxHeartbeats 4000000 in
theorem c_X12_add (l : Launch) (D : va_G) (ad : Nat → Nat) (G : Nat → Nat) (ids : List Nat) (hJ : ∀ k, 100 ≤ k → k < 233 → k ∈ ids) (σ : Sg) (x : Int)  : MET l yX12_add cX12_add 3 none 1 [.ref (ad 100), .long (jI x)] D ad G ids σ (QV D ad G ids (fun σ' => upr σ 233 (ups (σ 233) 0 (σ 233 0 * 31 + x)) = σ')) := by
  refine x_enter (by decide) (Nat.le_of_ble_eq_true rfl) ?_
  intro pp ee ss mm args below meth cq C hr ls hl hM
  have hl : lv_has ls 3 [(0, .ref (ad 100)), (1, .long (jI x))] := hl
  refine lv_aload_n C.1 C.2.1 dX12_add_0 rfl (lv_at hl 0 rfl) ?_
  refine lv_aload_n C.1 C.2.1 dX12_add_1 rfl (lv_at hl 0 rfl) ?_
  refine g_X12_25 C hM (hJ 100 (by decide) (by decide)) wf_X12_256 dX12_add_2 ?_
  refine lv_ldc2 C.1 C.2.1 C.2.2.2.1 (C.2.2.2.2.1 _ wk_X12_260) dX12_add_5 ?_
  refine x_lmul C dX12_add_8 ?_
  refine lv_lload_n C.1 C.2.1 dX12_add_9 rfl (lv_at hl 1 rfl) ?_
  refine x_ladd C dX12_add_10 ?_
  refine p_X12_25 C hM (hJ 100 (by decide) (by decide)) wf_X12_256 dX12_add_11 (fun H1 lc1 hM => ?_)
  exact x_vret C hr hM rfl dX12_add_14
set_option maxRecDepth 100000 in
set_option maxHeartbeats 4000000 in
theorem c_X12_told (l : Launch) (D : va_G) (ad : Nat → Nat) (G : Nat → Nat) (ids : List Nat) (hJ : ∀ k, 100 ≤ k → k < 233 → k ∈ ids) (σ : Sg)  (hG : GI (mw σ)) (hBK : BKI (mw σ)) : MET l yX12_told cX12_told 1 (some .int) 8 [.ref (ad 100)] D ad G ids σ (QI D ad G ids (fun z σ' => chF (wtF (mw σ) (keyS (cfg (mw σ)) (σ 201) (σ 204 0))) (MLs (σ 201) (σ 202 0) (σ 203 0) (σ 204 0)) 0 (-1) 0 = z ∧ EQT σ' (th σ 0))) := by
  refine x_enter (by decide) (Nat.le_of_ble_eq_true rfl) ?_
  intro pp ee ss mm args below meth cq C hr ls hl hM
  have hl : lv_has ls 1 [(0, .ref (ad 100))] := hl
  refine lv_aload_n C.1 C.2.1 dX12_told_0 rfl (lv_at hl 0 rfl) ?_
  refine lv_iconst (v := iI 0) C.1 C.2.1 dX12_told_1 (by decide) ?_
  refine p_X12_0 C hM (hJ 100 (by decide) (by decide)) wf_X12_64 dX12_told_2 (fun H1 lc1 hM => ?_)
  refine lv_aload_n C.1 C.2.1 dX12_told_5 rfl (lv_at hl 0 rfl) ?_
  refine x_ci (x_runV (As := []) (rest := []) C (by omega) cw_X12_250 (c_X12_toldNow l D ad G ids hJ (upr σ 232 (ups (σ 232) 0 0)) (GI_th 0 hG) (BKI_th 0 hBK)) hM (hJ 100 (by decide) (by decide)) (cx_100 ad G _) rfl rfl rfl rfl (Nat.le_of_ble_eq_true rfl) hl.1 dX12_told_6) hM (fun r6 s6 H1 lc1 hp hM => ?_)
  obtain ⟨hzs6, hLs6, hfs6⟩ := hp
  refine x_iret C hr hM ?_ dX12_told_9
  exact by
    refine ⟨?_, fun r hr => hfs6 r (by omega)⟩
    rw [← hzs6]
    have e := cfg_th σ 0
    change cfg (mw (upr σ 232 (ups (σ 232) 0 0))) = _ at e
    rw [e, wtF_of (a := mw (upr σ 232 (ups (σ 232) 0 0))) (b := mw σ) rfl rfl rfl rfl]
    rfl
abbrev baPost (σ : Sg) : Int → Sg → Prop := fun z σ' => (σ 230 0 = 0 → z = 0 ∧ th σ 1 = σ') ∧ (σ 230 0 ≠ 0 → σ 230 0 - 1 = z ∧ unM (upr (th σ 0) 230 (ups (σ 230) 0 (σ 230 0 - 1))) (σ 228 (σ 230 0 - 1)) (σ 229 (σ 230 0 - 1)) = σ')
set_option maxRecDepth 100000 in
set_option maxHeartbeats 4000000 in
theorem c_X12_back (l : Launch) (D : va_G) (ad : Nat → Nat) (G : Nat → Nat) (ids : List Nat) (hJ : ∀ k, 100 ≤ k → k < 233 → k ∈ ids) (σ : Sg)  (hB : BG (mw σ)) (htr : 0 ≤ σ 230 0 ∧ σ 230 0 ≤ 40) (hv : σ 230 0 ≠ 0 → 0 ≤ σ 228 (σ 230 0 - 1) ∧ σ 228 (σ 230 0 - 1) < 2500 ∧ σ 228 (σ 230 0 - 1) / 100 < σ 202 0 * σ 203 0 ∧ σ 228 (σ 230 0 - 1) % 100 < σ 202 0 * σ 203 0) : MET l yX12_back cX12_back 1 (some .int) 3 [.ref (ad 100)] D ad G ids σ (QI D ad G ids (baPost σ)) := by
  refine x_enter (by decide) (Nat.le_of_ble_eq_true rfl) ?_
  intro pp ee ss mm args below meth cq C hr ls hl hM
  have hl : lv_has ls 1 [(0, .ref (ad 100))] := hl
  refine lv_aload_n C.1 C.2.1 dX12_back_0 rfl (lv_at hl 0 rfl) ?_
  refine lv_iconst (v := iI 0) C.1 C.2.1 dX12_back_1 (by decide) ?_
  refine p_X12_0 C hM (hJ 100 (by decide) (by decide)) wf_X12_64 dX12_back_2 (fun H1 lc1 hM => ?_)
  refine lv_aload_n C.1 C.2.1 dX12_back_5 rfl (lv_at hl 0 rfl) ?_
  refine g_X12_5 C hM (hJ 100 (by decide) (by decide)) wf_X12_76 dX12_back_6 ?_
  rw [upr_ne _ _ (show (230 : Nat) ≠ 232 by omega)]
  refine x_if_ne C ⟨by omega, by omega⟩ (tgt := 18) dX12_back_9 (by decide) (fun c9 => ?_) (fun c9 => ?_)
  · refine lv_aload_n C.1 C.2.1 dX12_back_18 rfl (lv_at hl 0 rfl) ?_
    refine lv_dup C.1 C.2.1 dX12_back_19 rfl ?_
    refine g_X12_5 C hM (hJ 100 (by decide) (by decide)) wf_X12_76 dX12_back_20 ?_
    rw [upr_ne _ _ (show (230 : Nat) ≠ 232 by omega)]
    refine lv_iconst (v := iI 1) C.1 C.2.1 dX12_back_23 (by decide) ?_
    refine x_isub C dX12_back_24 ?_
    refine p_X12_5 C hM (hJ 100 (by decide) (by decide)) wf_X12_76 dX12_back_25 (fun H1 lc1 hM => ?_)
    refine lv_aload_n C.1 C.2.1 dX12_back_28 rfl (lv_at hl 0 rfl) ?_
    refine lv_aload_n C.1 C.2.1 dX12_back_29 rfl (lv_at hl 0 rfl) ?_
    refine g_X12_4 C hM (hJ 100 (by decide) (by decide)) wf_X12_9 dX12_back_30 ?_
    refine lv_iconst (v := iI 2) C.1 C.2.1 dX12_back_33 (by decide) ?_
    refine lv_aload_n C.1 C.2.1 dX12_back_34 rfl (lv_at hl 0 rfl) ?_
    refine g_X12_5 C hM (hJ 100 (by decide) (by decide)) wf_X12_76 dX12_back_35 ?_
    rw [upr_eq, ups_eq]
    refine x_imul C dX12_back_38 ?_
    refine al_g0 C hM (hJ 102 (by decide) (by decide)) (q := (σ 230 0 - 1)) (by omega) (by omega) dX12_back_39 ?_
    rw [upr_ne _ _ (show (228 : Nat) ≠ 230 by omega)]
    rw [upr_ne _ _ (show (228 : Nat) ≠ 232 by omega)]
    refine lv_aload_n C.1 C.2.1 dX12_back_40 rfl (lv_at hl 0 rfl) ?_
    refine g_X12_4 C hM (hJ 100 (by decide) (by decide)) wf_X12_9 dX12_back_41 ?_
    refine lv_iconst (v := iI 2) C.1 C.2.1 dX12_back_44 (by decide) ?_
    refine lv_aload_n C.1 C.2.1 dX12_back_45 rfl (lv_at hl 0 rfl) ?_
    refine g_X12_5 C hM (hJ 100 (by decide) (by decide)) wf_X12_76 dX12_back_46 ?_
    rw [upr_eq, ups_eq]
    refine x_imul C dX12_back_49 ?_
    refine lv_iconst (v := iI 1) C.1 C.2.1 dX12_back_50 (by decide) ?_
    refine x_iadd C dX12_back_51 ?_
    refine al_g1 C hM (hJ 102 (by decide) (by decide)) (q := (σ 230 0 - 1)) (by omega) (by omega) dX12_back_52 ?_
    rw [upr_ne _ _ (show (229 : Nat) ≠ 230 by omega)]
    rw [upr_ne _ _ (show (229 : Nat) ≠ 232 by omega)]
    refine x_cv (x_runV (As := [.int (iI (σ 228 (σ 230 0 - 1))), .int (iI (σ 229 (σ 230 0 - 1)))]) (rest := []) C (by omega) cw_X12_140 (c_X12_unmake l D ad G ids hJ (upr (upr σ 232 (ups (σ 232) 0 0)) 230 (ups ((upr σ 232 (ups (σ 232) 0 0)) 230) 0 ((σ 230 0) - 1))) (σ 228 (σ 230 0 - 1)) (σ 229 (σ 230 0 - 1)) hB (hv (by omega))) hM (hJ 100 (by decide) (by decide)) (cx_100 ad G _) rfl rfl rfl rfl (Nat.le_of_ble_eq_true rfl) hl.1 dX12_back_53) hM (fun s53 H1 lc1 hp hM => ?_)
    obtain rfl := hp
    refine lv_aload_n C.1 C.2.1 dX12_back_56 rfl (lv_at hl 0 rfl) ?_
    refine g_X12_5 C hM (hJ 100 (by decide) (by decide)) wf_X12_76 dX12_back_57 ?_
    exact x_iret C hr hM ⟨fun h => absurd h (by omega), fun _ => ⟨rfl, rfl⟩⟩ dX12_back_60
  · refine lv_aload_n C.1 C.2.1 dX12_back_12 rfl (lv_at hl 0 rfl) ?_
    refine lv_iconst (v := iI 1) C.1 C.2.1 dX12_back_13 (by decide) ?_
    refine x_ci (x_runV (As := [.int (iI 1)]) (rest := []) C (by omega) cw_X12_217 (c_X12_refuse l D ad G ids hJ (upr σ 232 (ups (σ 232) 0 0)) 1) hM (hJ 100 (by decide) (by decide)) (cx_100 ad G _) rfl rfl rfl rfl (Nat.le_of_ble_eq_true rfl) hl.1 dX12_back_14) hM (fun r14 s14 H1 lc1 hp hM => ?_)
    obtain ⟨rfl, rfl⟩ := hp
    exact x_iret C hr hM ⟨fun _ => ⟨rfl, (th_th σ 0 1).symm⟩, fun h => absurd (by omega) h⟩ dX12_back_17
set_option maxRecDepth 100000 in
set_option maxHeartbeats 4000000 in
theorem c_X12_takes (l : Launch) (D : va_G) (ad : Nat → Nat) (G : Nat → Nat) (ids : List Nat) (hJ : ∀ k, 100 ≤ k → k < 233 → k ∈ ids) (σ : Sg) (i : Int) (hG : GI (mw σ)) (hi : IR i) : MET l yX12_takes cX12_takes 2 (some .boolean) 9 [.ref (ad 100), .int (iI i)] D ad G ids σ (QI D ad G ids (fun z σ' => (if (0 ≤ i ∧ i < ((MLs (σ 201) (σ 202 0) (σ 203 0) (σ 204 0)).length : Int)) ∧ σ 201 (((MLs (σ 201) (σ 202 0) (σ 203 0) (σ 204 0)).getD i.toNat (-1)) % 100) ≠ 0 then 1 else 0) = z ∧ EQT σ' (if 0 ≤ i ∧ i < ((MLs (σ 201) (σ 202 0) (σ 203 0) (σ 204 0)).length : Int) then th σ 0 else th σ 1))) := by
  have hi0 := hi
  have h18 : (MLs (σ 201) (σ 202 0) (σ 203 0) (σ 204 0)).length ≤ 18 := MLs18 hG
  unfold IR at hi
  refine x_enter (by decide) (Nat.le_of_ble_eq_true rfl) ?_
  intro pp ee ss mm args below meth cq C hr ls hl hM
  have hl : lv_has ls 2 [(0, .ref (ad 100)), (1, .int (iI i))] := hl
  refine lv_aload_n C.1 C.2.1 dX12_takes_0 rfl (lv_at hl 0 rfl) ?_
  refine lv_aload_n C.1 C.2.1 dX12_takes_1 rfl (lv_at hl 0 rfl) ?_
  refine lv_iload_n C.1 C.2.1 dX12_takes_2 rfl (lv_at hl 1 rfl) ?_
  refine x_ci (x_runV (As := [.int (iI i)]) (rest := [.ref (ad 100)]) C (by omega) cw_X12_232 (c_X12_isMove l D ad G ids hJ σ i hG hi0) hM (hJ 100 (by decide) (by decide)) (cx_100 ad G _) rfl rfl rfl rfl (Nat.le_of_ble_eq_true rfl) hl.1 dX12_takes_3) hM (fun r3 s3 H1 lc1 hp hM => ?_)
  obtain ⟨hbs3, hLs3, hfs3⟩ := hp
  obtain ⟨ts3, ks3⟩ := ite01 hbs3
  refine x_if_eq C ⟨by omega, by omega⟩ (tgt := 13) dX12_takes_6 (by decide) (fun c6 => ?_) (fun c6 => ?_)
  · refine lv_iconst (v := iI 1) C.1 C.2.1 dX12_takes_13 (by decide) ?_
    refine p_X12_0 C hM (hJ 100 (by decide) (by decide)) wf_X12_64 dX12_takes_14 (fun H1 lc1 hM => ?_)
    refine lv_aload_n C.1 C.2.1 dX12_takes_17 rfl (lv_at hl 0 rfl) ?_
    refine g_X12_0 C hM (hJ 100 (by decide) (by decide)) wf_X12_64 dX12_takes_18 ?_
    rw [upr_eq, ups_eq]
    refine x_if_ne C ⟨by omega, by omega⟩ (tgt := 43) dX12_takes_21 (by decide) (fun c21 => ?_) (fun c21 => ?_)
    · refine lv_iconst (v := iI 0) C.1 C.2.1 dX12_takes_43 (by decide) ?_
      refine x_zret C hr hM (by first | exact Or.inl rfl | exact Or.inr rfl | omega) ?_ dX12_takes_44
      exact ⟨by first | exact if_pos ⟨by omega, ks33.mp (by omega)⟩ | exact if_neg (fun q => by omega) | exact if_neg (fun q => absurd (ks33.mpr q.2) (by omega)), fun r hr => by
        first | (exfalso; omega) | (rw [if_pos (show 0 ≤ i ∧ i < ((MLs (σ 201) (σ 202 0) (σ 203 0) (σ 204 0)).length : Int) by omega)]; exact EQT_up (τ := σ) (fun q hq => hfs3 q (by omega)) 232 (by decide) _ r hr) | (rw [if_neg (show ¬ (0 ≤ i ∧ i < ((MLs (σ 201) (σ 202 0) (σ 203 0) (σ 204 0)).length : Int)) by omega)]; exact EQT_up (τ := σ) (fun q hq => hfs3 q (by omega)) 232 (by decide) _ r hr)⟩
    · refine lv_aload_n C.1 C.2.1 dX12_takes_24 rfl (lv_at hl 0 rfl) ?_
      refine lv_aload_n C.1 C.2.1 dX12_takes_25 rfl (lv_at hl 0 rfl) ?_
      refine g_X12_10 C hM (hJ 100 (by decide) (by decide)) wf_X12_29 dX12_takes_26 ?_
      refine lv_iconst (v := iI 0) C.1 C.2.1 dX12_takes_29 (by decide) ?_
      refine aa_listed C hM (hJ 103 (by decide) (by decide)) (i := 0) (by omega) dX12_takes_30 ?_
      refine lv_iload_n C.1 C.2.1 dX12_takes_31 rfl (lv_at hl 1 rfl) ?_
      refine al_li C hM (by omega) (hJ _ (by omega) (by omega)) (by omega) (by omega) dX12_takes_32 ?_
      rw [upr_ne _ _ (show ((240 + 0) : Nat) ≠ 232 by omega)]
      rw [RWL.at (L := (MLs (σ 201) (σ 202 0) (σ 203 0) (σ 204 0))) (hLs3.of rfl) (by omega) (by omega)]
      have hmi : ((MLs (σ 201) (σ 202 0) (σ 203 0) (σ 204 0)).getD i.toNat (-1)) ∈ (MLs (σ 201) (σ 202 0) (σ 203 0) (σ 204 0)) := getD_mem (by omega) (by omega)
      have hmv : MV (mw σ) ((MLs (σ 201) (σ 202 0) (σ 203 0) (σ 204 0)).getD i.toNat (-1)) := hmi
      have hok := hmv.ok hG
      have hok : (0 ≤ ((MLs (σ 201) (σ 202 0) (σ 203 0) (σ 204 0)).getD i.toNat (-1)) ∧ ((MLs (σ 201) (σ 202 0) (σ 203 0) (σ 204 0)).getD i.toNat (-1)) / 100 < σ 202 0 * σ 203 0 ∧ ((MLs (σ 201) (σ 202 0) (σ 203 0) (σ 204 0)).getD i.toNat (-1)) % 100 < σ 202 0 * σ 203 0) ∧ ((MLs (σ 201) (σ 202 0) (σ 203 0) (σ 204 0)).getD i.toNat (-1)) / 100 ≠ ((MLs (σ 201) (σ 202 0) (σ 203 0) (σ 204 0)).getD i.toNat (-1)) % 100 ∧ ((MLs (σ 201) (σ 202 0) (σ 203 0) (σ 204 0)).getD i.toNat (-1)) < 2500 := hok
      have hGs : GI (mw s3) := GIm_of hG (fun r _ _ => hfs3 r (by omega))
      have hw7 : s3 202 0 * s3 203 0 = σ 202 0 * σ 203 0 := by rw [hfs3 202 (by omega), hfs3 203 (by omega)]
      refine x_ci (x_runV (As := [.int (iI ((MLs (σ 201) (σ 202 0) (σ 203 0) (σ 204 0)).getD i.toNat (-1)))]) (rest := []) C (by omega) cw_X12_126 (c_X12_isTaking l D ad G ids hJ (upr s3 232 (ups (s3 232) 0 1)) ((MLs (σ 201) (σ 202 0) (σ 203 0) (σ 204 0)).getD i.toNat (-1)) hGs.1 hGs.2.1 (show 0 ≤ ((MLs (σ 201) (σ 202 0) (σ 203 0) (σ 204 0)).getD i.toNat (-1)) ∧ ((MLs (σ 201) (σ 202 0) (σ 203 0) (σ 204 0)).getD i.toNat (-1)) < 2500 ∧ ((MLs (σ 201) (σ 202 0) (σ 203 0) (σ 204 0)).getD i.toNat (-1)) % 100 < s3 202 0 * s3 203 0 by omega)) hM (hJ 100 (by decide) (by decide)) (cx_100 ad G _) rfl rfl rfl rfl (Nat.le_of_ble_eq_true rfl) hl.1 dX12_takes_33) hM (fun r33 s33 H1 lc1 hp hM => ?_)
      obtain ⟨hbs33, rfl⟩ := hp
      have hbs33 : (if s3 201 (((MLs (σ 201) (σ 202 0) (σ 203 0) (σ 204 0)).getD i.toNat (-1)) % 100) ≠ 0 then (1 : Int) else 0) = r33 := hbs33
      rw [hfs3 201 (by omega)] at hbs33
      obtain ⟨ts33, ks33⟩ := ite01 hbs33
      refine x_if_eq C ⟨by omega, by omega⟩ (tgt := 43) dX12_takes_36 (by decide) (fun c36 => ?_) (fun c36 => ?_)
      · refine lv_iconst (v := iI 0) C.1 C.2.1 dX12_takes_43 (by decide) ?_
        refine x_zret C hr hM (by first | exact Or.inl rfl | exact Or.inr rfl | omega) ?_ dX12_takes_44
        exact ⟨by first | exact if_pos ⟨by omega, ks33.mp (by omega)⟩ | exact if_neg (fun q => by omega) | exact if_neg (fun q => absurd (ks33.mpr q.2) (by omega)), fun r hr => by
          first | (exfalso; omega) | (rw [if_pos (show 0 ≤ i ∧ i < ((MLs (σ 201) (σ 202 0) (σ 203 0) (σ 204 0)).length : Int) by omega)]; exact EQT_up (τ := σ) (fun q hq => hfs3 q (by omega)) 232 (by decide) _ r hr) | (rw [if_neg (show ¬ (0 ≤ i ∧ i < ((MLs (σ 201) (σ 202 0) (σ 203 0) (σ 204 0)).length : Int)) by omega)]; exact EQT_up (τ := σ) (fun q hq => hfs3 q (by omega)) 232 (by decide) _ r hr)⟩
      · refine lv_iconst (v := iI 1) C.1 C.2.1 dX12_takes_39 (by decide) ?_
        refine lv_goto (tgt := 44) C.1 C.2.1 dX12_takes_40 (by decide) ?_
        refine x_zret C hr hM (by first | exact Or.inl rfl | exact Or.inr rfl | omega) ?_ dX12_takes_44
        exact ⟨by first | exact if_pos ⟨by omega, ks33.mp (by omega)⟩ | exact if_neg (fun q => by omega) | exact if_neg (fun q => absurd (ks33.mpr q.2) (by omega)), fun r hr => by
          first | (exfalso; omega) | (rw [if_pos (show 0 ≤ i ∧ i < ((MLs (σ 201) (σ 202 0) (σ 203 0) (σ 204 0)).length : Int) by omega)]; exact EQT_up (τ := σ) (fun q hq => hfs3 q (by omega)) 232 (by decide) _ r hr) | (rw [if_neg (show ¬ (0 ≤ i ∧ i < ((MLs (σ 201) (σ 202 0) (σ 203 0) (σ 204 0)).length : Int)) by omega)]; exact EQT_up (τ := σ) (fun q hq => hfs3 q (by omega)) 232 (by decide) _ r hr)⟩
  · refine lv_iconst (v := iI 0) C.1 C.2.1 dX12_takes_9 (by decide) ?_
    refine lv_goto (tgt := 14) C.1 C.2.1 dX12_takes_10 (by decide) ?_
    refine p_X12_0 C hM (hJ 100 (by decide) (by decide)) wf_X12_64 dX12_takes_14 (fun H1 lc1 hM => ?_)
    refine lv_aload_n C.1 C.2.1 dX12_takes_17 rfl (lv_at hl 0 rfl) ?_
    refine g_X12_0 C hM (hJ 100 (by decide) (by decide)) wf_X12_64 dX12_takes_18 ?_
    rw [upr_eq, ups_eq]
    refine x_if_ne C ⟨by omega, by omega⟩ (tgt := 43) dX12_takes_21 (by decide) (fun c21 => ?_) (fun c21 => ?_)
    · refine lv_iconst (v := iI 0) C.1 C.2.1 dX12_takes_43 (by decide) ?_
      refine x_zret C hr hM (by first | exact Or.inl rfl | exact Or.inr rfl | omega) ?_ dX12_takes_44
      exact ⟨by first | exact if_pos ⟨by omega, ks33.mp (by omega)⟩ | exact if_neg (fun q => by omega) | exact if_neg (fun q => absurd (ks33.mpr q.2) (by omega)), fun r hr => by
        first | (exfalso; omega) | (rw [if_pos (show 0 ≤ i ∧ i < ((MLs (σ 201) (σ 202 0) (σ 203 0) (σ 204 0)).length : Int) by omega)]; exact EQT_up (τ := σ) (fun q hq => hfs3 q (by omega)) 232 (by decide) _ r hr) | (rw [if_neg (show ¬ (0 ≤ i ∧ i < ((MLs (σ 201) (σ 202 0) (σ 203 0) (σ 204 0)).length : Int)) by omega)]; exact EQT_up (τ := σ) (fun q hq => hfs3 q (by omega)) 232 (by decide) _ r hr)⟩
    · refine lv_aload_n C.1 C.2.1 dX12_takes_24 rfl (lv_at hl 0 rfl) ?_
      refine lv_aload_n C.1 C.2.1 dX12_takes_25 rfl (lv_at hl 0 rfl) ?_
      refine g_X12_10 C hM (hJ 100 (by decide) (by decide)) wf_X12_29 dX12_takes_26 ?_
      refine lv_iconst (v := iI 0) C.1 C.2.1 dX12_takes_29 (by decide) ?_
      refine aa_listed C hM (hJ 103 (by decide) (by decide)) (i := 0) (by omega) dX12_takes_30 ?_
      refine lv_iload_n C.1 C.2.1 dX12_takes_31 rfl (lv_at hl 1 rfl) ?_
      refine al_li C hM (by omega) (hJ _ (by omega) (by omega)) (by omega) (by omega) dX12_takes_32 ?_
      rw [upr_ne _ _ (show ((240 + 0) : Nat) ≠ 232 by omega)]
      rw [RWL.at (L := (MLs (σ 201) (σ 202 0) (σ 203 0) (σ 204 0))) (hLs3.of rfl) (by omega) (by omega)]
      have hmi : ((MLs (σ 201) (σ 202 0) (σ 203 0) (σ 204 0)).getD i.toNat (-1)) ∈ (MLs (σ 201) (σ 202 0) (σ 203 0) (σ 204 0)) := getD_mem (by omega) (by omega)
      have hmv : MV (mw σ) ((MLs (σ 201) (σ 202 0) (σ 203 0) (σ 204 0)).getD i.toNat (-1)) := hmi
      have hok := hmv.ok hG
      have hok : (0 ≤ ((MLs (σ 201) (σ 202 0) (σ 203 0) (σ 204 0)).getD i.toNat (-1)) ∧ ((MLs (σ 201) (σ 202 0) (σ 203 0) (σ 204 0)).getD i.toNat (-1)) / 100 < σ 202 0 * σ 203 0 ∧ ((MLs (σ 201) (σ 202 0) (σ 203 0) (σ 204 0)).getD i.toNat (-1)) % 100 < σ 202 0 * σ 203 0) ∧ ((MLs (σ 201) (σ 202 0) (σ 203 0) (σ 204 0)).getD i.toNat (-1)) / 100 ≠ ((MLs (σ 201) (σ 202 0) (σ 203 0) (σ 204 0)).getD i.toNat (-1)) % 100 ∧ ((MLs (σ 201) (σ 202 0) (σ 203 0) (σ 204 0)).getD i.toNat (-1)) < 2500 := hok
      have hGs : GI (mw s3) := GIm_of hG (fun r _ _ => hfs3 r (by omega))
      have hw7 : s3 202 0 * s3 203 0 = σ 202 0 * σ 203 0 := by rw [hfs3 202 (by omega), hfs3 203 (by omega)]
      refine x_ci (x_runV (As := [.int (iI ((MLs (σ 201) (σ 202 0) (σ 203 0) (σ 204 0)).getD i.toNat (-1)))]) (rest := []) C (by omega) cw_X12_126 (c_X12_isTaking l D ad G ids hJ (upr s3 232 (ups (s3 232) 0 0)) ((MLs (σ 201) (σ 202 0) (σ 203 0) (σ 204 0)).getD i.toNat (-1)) hGs.1 hGs.2.1 (show 0 ≤ ((MLs (σ 201) (σ 202 0) (σ 203 0) (σ 204 0)).getD i.toNat (-1)) ∧ ((MLs (σ 201) (σ 202 0) (σ 203 0) (σ 204 0)).getD i.toNat (-1)) < 2500 ∧ ((MLs (σ 201) (σ 202 0) (σ 203 0) (σ 204 0)).getD i.toNat (-1)) % 100 < s3 202 0 * s3 203 0 by omega)) hM (hJ 100 (by decide) (by decide)) (cx_100 ad G _) rfl rfl rfl rfl (Nat.le_of_ble_eq_true rfl) hl.1 dX12_takes_33) hM (fun r33 s33 H1 lc1 hp hM => ?_)
      obtain ⟨hbs33, rfl⟩ := hp
      have hbs33 : (if s3 201 (((MLs (σ 201) (σ 202 0) (σ 203 0) (σ 204 0)).getD i.toNat (-1)) % 100) ≠ 0 then (1 : Int) else 0) = r33 := hbs33
      rw [hfs3 201 (by omega)] at hbs33
      obtain ⟨ts33, ks33⟩ := ite01 hbs33
      refine x_if_eq C ⟨by omega, by omega⟩ (tgt := 43) dX12_takes_36 (by decide) (fun c36 => ?_) (fun c36 => ?_)
      · refine lv_iconst (v := iI 0) C.1 C.2.1 dX12_takes_43 (by decide) ?_
        refine x_zret C hr hM (by first | exact Or.inl rfl | exact Or.inr rfl | omega) ?_ dX12_takes_44
        exact ⟨by first | exact if_pos ⟨by omega, ks33.mp (by omega)⟩ | exact if_neg (fun q => by omega) | exact if_neg (fun q => absurd (ks33.mpr q.2) (by omega)), fun r hr => by
          first | (exfalso; omega) | (rw [if_pos (show 0 ≤ i ∧ i < ((MLs (σ 201) (σ 202 0) (σ 203 0) (σ 204 0)).length : Int) by omega)]; exact EQT_up (τ := σ) (fun q hq => hfs3 q (by omega)) 232 (by decide) _ r hr) | (rw [if_neg (show ¬ (0 ≤ i ∧ i < ((MLs (σ 201) (σ 202 0) (σ 203 0) (σ 204 0)).length : Int)) by omega)]; exact EQT_up (τ := σ) (fun q hq => hfs3 q (by omega)) 232 (by decide) _ r hr)⟩
      · refine lv_iconst (v := iI 1) C.1 C.2.1 dX12_takes_39 (by decide) ?_
        refine lv_goto (tgt := 44) C.1 C.2.1 dX12_takes_40 (by decide) ?_
        refine x_zret C hr hM (by first | exact Or.inl rfl | exact Or.inr rfl | omega) ?_ dX12_takes_44
        exact ⟨by first | exact if_pos ⟨by omega, ks33.mp (by omega)⟩ | exact if_neg (fun q => by omega) | exact if_neg (fun q => absurd (ks33.mpr q.2) (by omega)), fun r hr => by
          first | (exfalso; omega) | (rw [if_pos (show 0 ≤ i ∧ i < ((MLs (σ 201) (σ 202 0) (σ 203 0) (σ 204 0)).length : Int) by omega)]; exact EQT_up (τ := σ) (fun q hq => hfs3 q (by omega)) 232 (by decide) _ r hr) | (rw [if_neg (show ¬ (0 ≤ i ∧ i < ((MLs (σ 201) (σ 202 0) (σ 203 0) (σ 204 0)).length : Int)) by omega)]; exact EQT_up (τ := σ) (fun q hq => hfs3 q (by omega)) 232 (by decide) _ r hr)⟩
