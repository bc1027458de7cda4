set_option maxRecDepth 100000 in
set_option maxHeartbeats 4000000 in
theorem c_X12_nodes (l : Launch) (D : va_G) (ad : Nat → Nat) (G : Nat → Nat) (ids : List Nat) (hJ : ∀ k, 100 ≤ k → k < 233 → k ∈ ids) (σ : Sg)   : MET l yX12_nodes cX12_nodes 1 (some .int) 1 [.ref (ad 100)] D ad G ids σ (QI D ad G ids (fun z σ' => σ 221 0 = z ∧ th σ 0 = σ')) := by
  refine x_enter (by decide) (Nat.le_of_ble_eq_true rfl) ?_
  intro pp ee ss mm args below meth cq C hr ls hl hM
  have hl : lv_has ls 1 [(0, .ref (ad 100))] := hl
  refine lv_aload_n C.1 C.2.1 dX12_nodes_0 rfl (lv_at hl 0 rfl) ?_
  refine lv_iconst (v := iI 0) C.1 C.2.1 dX12_nodes_1 (by decide) ?_
  refine p_X12_0 C hM (hJ 100 (by decide) (by decide)) wf_X12_64 dX12_nodes_2 (fun H1 lc1 hM => ?_)
  refine lv_aload_n C.1 C.2.1 dX12_nodes_5 rfl (lv_at hl 0 rfl) ?_
  refine g_X12_16 C hM (hJ 100 (by decide) (by decide)) wf_X12_169 dX12_nodes_6 ?_
  rw [upr_ne _ _ (show (221 : Nat) ≠ 232 by omega)]
  exact x_iret C hr hM ⟨rfl, rfl⟩ dX12_nodes_9
set_option maxRecDepth 100000 in
set_option maxHeartbeats 4000000 in
theorem c_X12_hits (l : Launch) (D : va_G) (ad : Nat → Nat) (G : Nat → Nat) (ids : List Nat) (hJ : ∀ k, 100 ≤ k → k < 233 → k ∈ ids) (σ : Sg)   : MET l yX12_hits cX12_hits 1 (some .int) 1 [.ref (ad 100)] D ad G ids σ (QI D ad G ids (fun z σ' => σ 222 0 = z ∧ th σ 0 = σ')) := by
  refine x_enter (by decide) (Nat.le_of_ble_eq_true rfl) ?_
  intro pp ee ss mm args below meth cq C hr ls hl hM
  have hl : lv_has ls 1 [(0, .ref (ad 100))] := hl
  refine lv_aload_n C.1 C.2.1 dX12_hits_0 rfl (lv_at hl 0 rfl) ?_
  refine lv_iconst (v := iI 0) C.1 C.2.1 dX12_hits_1 (by decide) ?_
  refine p_X12_0 C hM (hJ 100 (by decide) (by decide)) wf_X12_64 dX12_hits_2 (fun H1 lc1 hM => ?_)
  refine lv_aload_n C.1 C.2.1 dX12_hits_5 rfl (lv_at hl 0 rfl) ?_
  refine g_X12_17 C hM (hJ 100 (by decide) (by decide)) wf_X12_182 dX12_hits_6 ?_
  rw [upr_ne _ _ (show (222 : Nat) ≠ 232 by omega)]
  exact x_iret C hr hM ⟨rfl, rfl⟩ dX12_hits_9
set_option maxRecDepth 100000 in
set_option maxHeartbeats 4000000 in
theorem c_X12_cuts (l : Launch) (D : va_G) (ad : Nat → Nat) (G : Nat → Nat) (ids : List Nat) (hJ : ∀ k, 100 ≤ k → k < 233 → k ∈ ids) (σ : Sg)   : MET l yX12_cuts cX12_cuts 1 (some .int) 1 [.ref (ad 100)] D ad G ids σ (QI D ad G ids (fun z σ' => σ 223 0 = z ∧ th σ 0 = σ')) := by
  refine x_enter (by decide) (Nat.le_of_ble_eq_true rfl) ?_
  intro pp ee ss mm args below meth cq C hr ls hl hM
  have hl : lv_has ls 1 [(0, .ref (ad 100))] := hl
  refine lv_aload_n C.1 C.2.1 dX12_cuts_0 rfl (lv_at hl 0 rfl) ?_
  refine lv_iconst (v := iI 0) C.1 C.2.1 dX12_cuts_1 (by decide) ?_
  refine p_X12_0 C hM (hJ 100 (by decide) (by decide)) wf_X12_64 dX12_cuts_2 (fun H1 lc1 hM => ?_)
  refine lv_aload_n C.1 C.2.1 dX12_cuts_5 rfl (lv_at hl 0 rfl) ?_
  refine g_X12_18 C hM (hJ 100 (by decide) (by decide)) wf_X12_198 dX12_cuts_6 ?_
  rw [upr_ne _ _ (show (223 : Nat) ≠ 232 by omega)]
  exact x_iret C hr hM ⟨rfl, rfl⟩ dX12_cuts_9
def weM (σ : Sg) (a b d : Int) : Sg := upr (upr (upr (th σ 0) 205 (ups (σ 205) 0 a)) 206 (ups (σ 206) 0 b)) 207 (ups (σ 207) 0 d)
theorem weM_o {σ : Sg} {a b d : Int} {r : Nat} (h : ¬ (r = 205 ∨ r = 206 ∨ r = 207 ∨ r = 232)) : weM σ a b d r = σ r := by
  unfold weM
  rw [upr_ne _ _ (by omega), upr_ne _ _ (by omega), upr_ne _ _ (by omega), th_o (by omega)]
theorem clM_o {σ : Sg} {n : Int} {r : Nat} (h : ¬ (r = 209 ∨ r = 211)) : clM σ n r = σ r := by
  unfold clM
  rw [upr_ne _ _ (by omega), upr_ne _ _ (by omega)]
theorem GI_we {σ : Sg} {a b d : Int} (h : GI (mw σ)) (ha : 0 ≤ a ∧ a ≤ 50) (hb : 0 ≤ b ∧ b ≤ 20) (hd : 0 ≤ d ∧ d ≤ 10) (n : Int) : GI (mw (clM (weM σ a b d) n)) := by
  have e : ∀ r : Nat, ¬ (r = 205 ∨ r = 206 ∨ r = 207 ∨ r = 232 ∨ r = 209 ∨ r = 211) → clM (weM σ a b d) n r = σ r := fun r hr => (clM_o (by omega)).trans (weM_o (by omega))
  obtain ⟨g1, g2, g3, g4, g5⟩ := h
  refine ⟨(BG_of (a := mw σ) (e 202 (by decide)) (e 203 (by decide))).mpr g1, (show BC (clM (weM σ a b d) n 201) by rw [e 201 (by decide)]; exact g2), (show clM (weM σ a b d) n 204 0 = 0 ∨ clM (weM σ a b d) n 204 0 = 1 by rw [e 204 (by decide)]; exact g3), (show PW (clM (weM σ a b d) n 201) by rw [e 201 (by decide)]; exact g4), ?_⟩
  obtain ⟨s1, s2, s3, s4, s5⟩ := g5
  refine ⟨(show 3 ≤ clM (weM σ a b d) n 202 0 ∧ clM (weM σ a b d) n 202 0 ≤ 5 ∧ 3 ≤ clM (weM σ a b d) n 203 0 ∧ clM (weM σ a b d) n 203 0 ≤ 5 by rw [e 202 (by decide), e 203 (by decide)]; exact s1), ha, hb, hd, (show clM (weM σ a b d) n 208 0 = 0 ∨ clM (weM σ a b d) n 208 0 = 1 by rw [e 208 (by decide)]; exact s5)⟩
set_option maxRecDepth 100000 in
set_option maxHeartbeats 4000000 in
theorem c_X12_weigh (l : Launch) (D : va_G) (ad : Nat → Nat) (G : Nat → Nat) (ids : List Nat) (hJ : ∀ k, 100 ≤ k → k < 233 → k ∈ ids) (σ : Sg) (a b d : Int) (hG : GI (mw σ)) (hT : TI (mw σ)) (ha : IR a) (hb : IR b) (hd : IR d) : MET l yX12_weigh cX12_weigh 4 (some .int) 8 [.ref (ad 100), .int (iI a), .int (iI b), .int (iI d)] D ad G ids σ (QI D ad G ids (fun z σ' => (if (0 ≤ a ∧ a ≤ 50) ∧ (0 ≤ b ∧ b ≤ 20) ∧ (0 ≤ d ∧ d ≤ 10) then evS (cfg (mw (clM (weM σ a b d) (σ 209 0)))) (σ 201) (σ 204 0) else 0) = z ∧ (if (0 ≤ a ∧ a ≤ 50) ∧ (0 ≤ b ∧ b ≤ 20) ∧ (0 ≤ d ∧ d ≤ 10) then clM (weM σ a b d) (σ 209 0) else th σ 1) = σ')) := by
  unfold IR at ha hb hd
  refine x_enter (by decide) (Nat.le_of_ble_eq_true rfl) ?_
  intro pp ee ss mm args below meth cq C hr ls hl hM
  have hl : lv_has ls 4 [(0, .ref (ad 100)), (1, .int (iI a)), (2, .int (iI b)), (3, .int (iI d))] := hl
  refine lv_aload_n C.1 C.2.1 dX12_weigh_0 rfl (lv_at hl 0 rfl) ?_
  refine lv_iconst (v := iI 0) C.1 C.2.1 dX12_weigh_1 (by decide) ?_
  refine p_X12_0 C hM (hJ 100 (by decide) (by decide)) wf_X12_64 dX12_weigh_2 (fun H1 lc1 hM => ?_)
  refine lv_iload_n C.1 C.2.1 dX12_weigh_5 rfl (lv_at hl 1 rfl) ?_
  refine lv_iconst (v := iI 0) C.1 C.2.1 dX12_weigh_6 (by decide) ?_
  refine lv_bipush (v := iI 50) C.1 C.2.1 dX12_weigh_7 (by decide) ?_
  refine x_ci (x_runS (As := [.int (iI a), .int (iI 0), .int (iI 50)]) (rest := []) C (by omega) cw_X12_83 (c_X12_is l D ad G ids hJ (upr σ 232 (ups (σ 232) 0 0)) a 0 50 (by unfold IR; omega) (by unfold IR; omega) (by unfold IR; omega)) hM rfl rfl (Nat.le_of_ble_eq_true rfl) hl.1 dX12_weigh_9) hM (fun r9 s9 H1 lc1 hp hM => ?_)
  obtain ⟨hbs9, rfl⟩ := hp
  obtain ⟨ts9, ks9⟩ := ite01 hbs9
  refine x_if_eq C ⟨by omega, by omega⟩ (tgt := 35) dX12_weigh_12 (by decide) (fun c12 => ?_) (fun c12 => ?_)
  · refine lv_aload_n C.1 C.2.1 dX12_weigh_35 rfl (lv_at hl 0 rfl) ?_
    refine lv_iconst (v := iI 1) C.1 C.2.1 dX12_weigh_36 (by decide) ?_
    refine x_ci (x_runV (As := [.int (iI 1)]) (rest := []) C (by omega) cw_X12_217 (c_X12_refuse l D ad G ids hJ (upr σ 232 (ups (σ 232) 0 0)) 1) hM (hJ 100 (by decide) (by decide)) (cx_100 ad G _) rfl rfl rfl rfl (Nat.le_of_ble_eq_true rfl) hl.1 dX12_weigh_37) hM (fun r37 s37 H1 lc1 hp hM => ?_)
    obtain ⟨rfl, rfl⟩ := hp
    exact x_iret C hr hM ⟨if_neg (show ¬ ((0 ≤ a ∧ a ≤ 50) ∧ (0 ≤ b ∧ b ≤ 20) ∧ (0 ≤ d ∧ d ≤ 10)) by omega), (if_neg (show ¬ ((0 ≤ a ∧ a ≤ 50) ∧ (0 ≤ b ∧ b ≤ 20) ∧ (0 ≤ d ∧ d ≤ 10)) by omega)).trans (th_th σ 0 1).symm⟩ dX12_weigh_40
  · refine lv_iload_n C.1 C.2.1 dX12_weigh_15 rfl (lv_at hl 2 rfl) ?_
    refine lv_iconst (v := iI 0) C.1 C.2.1 dX12_weigh_16 (by decide) ?_
    refine lv_bipush (v := iI 20) C.1 C.2.1 dX12_weigh_17 (by decide) ?_
    refine x_ci (x_runS (As := [.int (iI b), .int (iI 0), .int (iI 20)]) (rest := []) C (by omega) cw_X12_83 (c_X12_is l D ad G ids hJ (upr σ 232 (ups (σ 232) 0 0)) b 0 20 (by unfold IR; omega) (by unfold IR; omega) (by unfold IR; omega)) hM rfl rfl (Nat.le_of_ble_eq_true rfl) hl.1 dX12_weigh_19) hM (fun r19 s19 H1 lc1 hp hM => ?_)
    obtain ⟨hbs19, rfl⟩ := hp
    obtain ⟨ts19, ks19⟩ := ite01 hbs19
    refine x_if_eq C ⟨by omega, by omega⟩ (tgt := 35) dX12_weigh_22 (by decide) (fun c22 => ?_) (fun c22 => ?_)
    · refine lv_aload_n C.1 C.2.1 dX12_weigh_35 rfl (lv_at hl 0 rfl) ?_
      refine lv_iconst (v := iI 1) C.1 C.2.1 dX12_weigh_36 (by decide) ?_
      refine x_ci (x_runV (As := [.int (iI 1)]) (rest := []) C (by omega) cw_X12_217 (c_X12_refuse l D ad G ids hJ (upr σ 232 (ups (σ 232) 0 0)) 1) hM (hJ 100 (by decide) (by decide)) (cx_100 ad G _) rfl rfl rfl rfl (Nat.le_of_ble_eq_true rfl) hl.1 dX12_weigh_37) hM (fun r37 s37 H1 lc1 hp hM => ?_)
      obtain ⟨rfl, rfl⟩ := hp
      exact x_iret C hr hM ⟨if_neg (show ¬ ((0 ≤ a ∧ a ≤ 50) ∧ (0 ≤ b ∧ b ≤ 20) ∧ (0 ≤ d ∧ d ≤ 10)) by omega), (if_neg (show ¬ ((0 ≤ a ∧ a ≤ 50) ∧ (0 ≤ b ∧ b ≤ 20) ∧ (0 ≤ d ∧ d ≤ 10)) by omega)).trans (th_th σ 0 1).symm⟩ dX12_weigh_40
    · refine lv_iload_n C.1 C.2.1 dX12_weigh_25 rfl (lv_at hl 3 rfl) ?_
      refine lv_iconst (v := iI 0) C.1 C.2.1 dX12_weigh_26 (by decide) ?_
      refine lv_bipush (v := iI 10) C.1 C.2.1 dX12_weigh_27 (by decide) ?_
      refine x_ci (x_runS (As := [.int (iI d), .int (iI 0), .int (iI 10)]) (rest := []) C (by omega) cw_X12_83 (c_X12_is l D ad G ids hJ (upr σ 232 (ups (σ 232) 0 0)) d 0 10 (by unfold IR; omega) (by unfold IR; omega) (by unfold IR; omega)) hM rfl rfl (Nat.le_of_ble_eq_true rfl) hl.1 dX12_weigh_29) hM (fun r29 s29 H1 lc1 hp hM => ?_)
      obtain ⟨hbs29, rfl⟩ := hp
      obtain ⟨ts29, ks29⟩ := ite01 hbs29
      refine x_if_ne C ⟨by omega, by omega⟩ (tgt := 41) dX12_weigh_32 (by decide) (fun c32 => ?_) (fun c32 => ?_)
      · refine lv_aload_n C.1 C.2.1 dX12_weigh_41 rfl (lv_at hl 0 rfl) ?_
        refine lv_iload_n C.1 C.2.1 dX12_weigh_42 rfl (lv_at hl 1 rfl) ?_
        refine p_X12_6 C hM (hJ 100 (by decide) (by decide)) wf_X12_13 dX12_weigh_43 (fun H1 lc1 hM => ?_)
        refine lv_aload_n C.1 C.2.1 dX12_weigh_46 rfl (lv_at hl 0 rfl) ?_
        refine lv_iload_n C.1 C.2.1 dX12_weigh_47 rfl (lv_at hl 2 rfl) ?_
        refine p_X12_7 C hM (hJ 100 (by decide) (by decide)) wf_X12_17 dX12_weigh_48 (fun H1 lc1 hM => ?_)
        refine lv_aload_n C.1 C.2.1 dX12_weigh_51 rfl (lv_at hl 0 rfl) ?_
        refine lv_iload_n C.1 C.2.1 dX12_weigh_52 rfl (lv_at hl 3 rfl) ?_
        refine p_X12_8 C hM (hJ 100 (by decide) (by decide)) wf_X12_20 dX12_weigh_53 (fun H1 lc1 hM => ?_)
        refine lv_aload_n C.1 C.2.1 dX12_weigh_56 rfl (lv_at hl 0 rfl) ?_
        refine lv_aload_n C.1 C.2.1 dX12_weigh_57 rfl (lv_at hl 0 rfl) ?_
        refine g_X12_11 C hM (hJ 100 (by decide) (by decide)) wf_X12_32 dX12_weigh_58 ?_
        rw [upr_ne _ _ (show (209 : Nat) ≠ 207 by omega)]
        rw [upr_ne _ _ (show (209 : Nat) ≠ 206 by omega)]
        rw [upr_ne _ _ (show (209 : Nat) ≠ 205 by omega)]
        rw [upr_ne _ _ (show (209 : Nat) ≠ 232 by omega)]
        refine x_ci (x_runV (As := [.int (iI (σ 209 0))]) (rest := []) C (by omega) cw_X12_79 (c_X12_clear l D ad G ids hJ (upr (upr (upr (upr σ 232 (ups (σ 232) 0 0)) 205 (ups ((upr σ 232 (ups (σ 232) 0 0)) 205) 0 a)) 206 (ups ((upr (upr σ 232 (ups (σ 232) 0 0)) 205 (ups ((upr σ 232 (ups (σ 232) 0 0)) 205) 0 a)) 206) 0 b)) 207 (ups ((upr (upr (upr σ 232 (ups (σ 232) 0 0)) 205 (ups ((upr σ 232 (ups (σ 232) 0 0)) 205) 0 a)) 206 (ups ((upr (upr σ 232 (ups (σ 232) 0 0)) 205 (ups ((upr σ 232 (ups (σ 232) 0 0)) 205) 0 a)) 206) 0 b)) 207) 0 d)) (σ 209 0) (hT.of (fun r hr => (weM_o (a := a) (b := b) (d := d) (by omega) : weM σ a b d (200 + r) = σ (200 + r))))) hM (hJ 100 (by decide) (by decide)) (cx_100 ad G _) rfl rfl rfl rfl (Nat.le_of_ble_eq_true rfl) hl.1 dX12_weigh_61) hM (fun r61 s61 H1 lc1 hp hM => ?_)
        obtain ⟨rfl, rfl⟩ := hp
        refine lv_pop C.1 C.2.1 dX12_weigh_64 rfl ?_
        refine lv_aload_n C.1 C.2.1 dX12_weigh_65 rfl (lv_at hl 0 rfl) ?_
        refine x_ci (x_runV (As := []) (rest := []) C (by omega) cw_X12_120 (c_X12_evaluated l D ad G ids hJ (upr (upr (upr (upr (upr (upr σ 232 (ups (σ 232) 0 0)) 205 (ups ((upr σ 232 (ups (σ 232) 0 0)) 205) 0 a)) 206 (ups ((upr (upr σ 232 (ups (σ 232) 0 0)) 205 (ups ((upr σ 232 (ups (σ 232) 0 0)) 205) 0 a)) 206) 0 b)) 207 (ups ((upr (upr (upr σ 232 (ups (σ 232) 0 0)) 205 (ups ((upr σ 232 (ups (σ 232) 0 0)) 205) 0 a)) 206 (ups ((upr (upr σ 232 (ups (σ 232) 0 0)) 205 (ups ((upr σ 232 (ups (σ 232) 0 0)) 205) 0 a)) 206) 0 b)) 207) 0 d)) 209 (ups ((upr (upr (upr (upr σ 232 (ups (σ 232) 0 0)) 205 (ups ((upr σ 232 (ups (σ 232) 0 0)) 205) 0 a)) 206 (ups ((upr (upr σ 232 (ups (σ 232) 0 0)) 205 (ups ((upr σ 232 (ups (σ 232) 0 0)) 205) 0 a)) 206) 0 b)) 207 (ups ((upr (upr (upr σ 232 (ups (σ 232) 0 0)) 205 (ups ((upr σ 232 (ups (σ 232) 0 0)) 205) 0 a)) 206 (ups ((upr (upr σ 232 (ups (σ 232) 0 0)) 205 (ups ((upr σ 232 (ups (σ 232) 0 0)) 205) 0 a)) 206) 0 b)) 207) 0 d)) 209) 0 (σ 209 0))) 211 (wpF ((upr (upr (upr (upr σ 232 (ups (σ 232) 0 0)) 205 (ups ((upr σ 232 (ups (σ 232) 0 0)) 205) 0 a)) 206 (ups ((upr (upr σ 232 (ups (σ 232) 0 0)) 205 (ups ((upr σ 232 (ups (σ 232) 0 0)) 205) 0 a)) 206) 0 b)) 207 (ups ((upr (upr (upr σ 232 (ups (σ 232) 0 0)) 205 (ups ((upr σ 232 (ups (σ 232) 0 0)) 205) 0 a)) 206 (ups ((upr (upr σ 232 (ups (σ 232) 0 0)) 205 (ups ((upr σ 232 (ups (σ 232) 0 0)) 205) 0 a)) 206) 0 b)) 207) 0 d)) 211) 64)) (GI_we hG (by omega) (by omega) (by omega) (σ 209 0))) hM (hJ 100 (by decide) (by decide)) (cx_100 ad G _) rfl rfl rfl rfl (Nat.le_of_ble_eq_true rfl) hl.1 dX12_weigh_66) hM (fun r66 s66 H1 lc1 hp hM => ?_)
        obtain ⟨rfl, rfl⟩ := hp
        exact x_iret C hr hM ⟨if_pos (show (0 ≤ a ∧ a ≤ 50) ∧ (0 ≤ b ∧ b ≤ 20) ∧ (0 ≤ d ∧ d ≤ 10) by omega), if_pos (show (0 ≤ a ∧ a ≤ 50) ∧ (0 ≤ b ∧ b ≤ 20) ∧ (0 ≤ d ∧ d ≤ 10) by omega)⟩ dX12_weigh_69
      · refine lv_aload_n C.1 C.2.1 dX12_weigh_35 rfl (lv_at hl 0 rfl) ?_
        refine lv_iconst (v := iI 1) C.1 C.2.1 dX12_weigh_36 (by decide) ?_
        refine x_ci (x_runV (As := [.int (iI 1)]) (rest := []) C (by omega) cw_X12_217 (c_X12_refuse l D ad G ids hJ (upr σ 232 (ups (σ 232) 0 0)) 1) hM (hJ 100 (by decide) (by decide)) (cx_100 ad G _) rfl rfl rfl rfl (Nat.le_of_ble_eq_true rfl) hl.1 dX12_weigh_37) hM (fun r37 s37 H1 lc1 hp hM => ?_)
        obtain ⟨rfl, rfl⟩ := hp
        exact x_iret C hr hM ⟨if_neg (show ¬ ((0 ≤ a ∧ a ≤ 50) ∧ (0 ≤ b ∧ b ≤ 20) ∧ (0 ≤ d ∧ d ≤ 10)) by omega), (if_neg (show ¬ ((0 ≤ a ∧ a ≤ 50) ∧ (0 ≤ b ∧ b ≤ 20) ∧ (0 ≤ d ∧ d ≤ 10)) by omega)).trans (th_th σ 0 1).symm⟩ dX12_weigh_40
