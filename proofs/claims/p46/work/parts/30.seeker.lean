abbrev exPost (d : Nat) (σ : Sg) (lo up : Int) : Int → Sg → Prop := fun z σ' => (sb (cfg σ) d (σ 1) (σ 4 0) lo up (tv σ)).1 = z ∧ tv σ' = (sb (cfg σ) d (σ 1) (σ 4 0) lo up (tv σ)).2.2 ∧ σ' 21 0 + σ' 16 0 = σ 21 0 + σ 16 0 + (sb (cfg σ) d (σ 1) (σ 4 0) lo up (tv σ)).2.1 ∧ ∀ r : Nat, (r < 46 ∨ 76 + 6 * d ≤ r) → NSR r → σ' r = σ r
def EXc (l : Launch) (D : va_G) (ad : Nat → Nat) (G : Nat → Nat) (ids : List Nat) (d : Nat) : Prop := ∀ (σ : Sg) (dn lo up : Int), dn = (d : Int) → GI σ → TI σ → (-9999 ≤ lo ∧ lo ≤ 9999) → (-9999 ≤ up ∧ up ≤ 9999) → MET l yX7_explore cX7_explore 8 (some .int) (20 + 4 * d) [.ref (ad 13), .int (iI dn), .int (iI lo), .int (iI up)] D ad G ids σ (QI D ad G ids (exPost d σ lo up))
abbrev bePost (d : Nat) (σ : Sg) (v lo up : Int) : Int → Sg → Prop := fun z σ' => -(sb (cfg σ) d (mvF (σ 1) v) (1 - σ 4 0) (-up) (-lo) (tv σ)).1 = z ∧ tv σ' = (sb (cfg σ) d (mvF (σ 1) v) (1 - σ 4 0) (-up) (-lo) (tv σ)).2.2 ∧ σ' 21 0 + σ' 16 0 = σ 21 0 + σ 16 0 + (sb (cfg σ) d (mvF (σ 1) v) (1 - σ 4 0) (-up) (-lo) (tv σ)).2.1 ∧ ∀ r : Nat, (r < 46 ∨ 76 + 6 * d ≤ r) → NSR r → σ' r = σ r
abbrev trR (d1 : Nat) (σ : Sg) (O : List Int) (lo up : Int) : Int × Int × Int × Sg := slp (sb (cfg σ) d1) (σ 1) (σ 4 0) lo up O (-10000) (-1) 1 (tv σ)
abbrev trPost (d1 : Nat) (σ : Sg) (O : List Int) (key lo up : Int) : Int → Sg → Prop := fun z σ' => (trR d1 σ O lo up).1 = z ∧ tv σ' = setT (endT (σ 1) ((d1 : Int) + 1) lo up key (trR d1 σ O lo up)) 19 (trR d1 σ O lo up).2.1 ∧ σ' 21 0 + σ' 16 0 + 1 = σ 21 0 + σ 16 0 + (trR d1 σ O lo up).2.2.1 ∧ ∀ r : Nat, (r < 46 ∨ 82 + 6 * d1 ≤ r) → NSR r → σ' r = σ r
set_option maxRecDepth 100000 in
set_option maxHeartbeats 4000000 in
theorem c_X7_bestMove (l : Launch) (D : va_G) (ad : Nat → Nat) (G : Nat → Nat) (ids : List Nat) (hI : ∀ k, k < 81 → k ∈ ids) (σ : Sg)   : MET l yX7_bestMove cX7_bestMove 1 (some .int) 1 [.ref (ad 13)] D ad G ids σ (QI D ad G ids (fun z σ' => σ 19 0 = z ∧ σ = σ')) := by
  refine x_enter (by decide) (Nat.le_of_ble_eq_true rfl) ?_
  intro pp ee ss mm args below meth cq C hr ls hl hM
  have hl : lv_has ls 1 [(0, .ref (ad 13))] := hl
  refine lv_aload_n C.1 C.2.1 dX7_bestMove_0 rfl (lv_at hl 0 rfl) ?_
  refine g_X7_5 C hM (hI 13 (by decide)) wf_X7_34 dX7_bestMove_1 ?_
  exact x_iret C hr hM ⟨rfl, rfl⟩ dX7_bestMove_4
set_option maxRecDepth 100000 in
set_option maxHeartbeats 4000000 in
theorem c_X7_depthReached (l : Launch) (D : va_G) (ad : Nat → Nat) (G : Nat → Nat) (ids : List Nat) (hI : ∀ k, k < 81 → k ∈ ids) (σ : Sg)   : MET l yX7_depthReached cX7_depthReached 1 (some .int) 1 [.ref (ad 13)] D ad G ids σ (QI D ad G ids (fun z σ' => σ 20 0 = z ∧ σ = σ')) := by
  refine x_enter (by decide) (Nat.le_of_ble_eq_true rfl) ?_
  intro pp ee ss mm args below meth cq C hr ls hl hM
  have hl : lv_has ls 1 [(0, .ref (ad 13))] := hl
  refine lv_aload_n C.1 C.2.1 dX7_depthReached_0 rfl (lv_at hl 0 rfl) ?_
  refine g_X7_6 C hM (hI 13 (by decide)) wf_X7_38 dX7_depthReached_1 ?_
  exact x_iret C hr hM ⟨rfl, rfl⟩ dX7_depthReached_4
set_option maxRecDepth 100000 in
set_option maxHeartbeats 4000000 in
theorem c_X7_hitCount (l : Launch) (D : va_G) (ad : Nat → Nat) (G : Nat → Nat) (ids : List Nat) (hI : ∀ k, k < 81 → k ∈ ids) (σ : Sg)   : MET l yX7_hitCount cX7_hitCount 1 (some .int) 1 [.ref (ad 13)] D ad G ids σ (QI D ad G ids (fun z σ' => σ 22 0 = z ∧ σ = σ')) := by
  refine x_enter (by decide) (Nat.le_of_ble_eq_true rfl) ?_
  intro pp ee ss mm args below meth cq C hr ls hl hM
  have hl : lv_has ls 1 [(0, .ref (ad 13))] := hl
  refine lv_aload_n C.1 C.2.1 dX7_hitCount_0 rfl (lv_at hl 0 rfl) ?_
  refine g_X7_8 C hM (hI 13 (by decide)) wf_X7_50 dX7_hitCount_1 ?_
  exact x_iret C hr hM ⟨rfl, rfl⟩ dX7_hitCount_4
set_option maxRecDepth 100000 in
set_option maxHeartbeats 4000000 in
theorem c_X7_cutCount (l : Launch) (D : va_G) (ad : Nat → Nat) (G : Nat → Nat) (ids : List Nat) (hI : ∀ k, k < 81 → k ∈ ids) (σ : Sg)   : MET l yX7_cutCount cX7_cutCount 1 (some .int) 1 [.ref (ad 13)] D ad G ids σ (QI D ad G ids (fun z σ' => σ 23 0 = z ∧ σ = σ')) := by
  refine x_enter (by decide) (Nat.le_of_ble_eq_true rfl) ?_
  intro pp ee ss mm args below meth cq C hr ls hl hM
  have hl : lv_has ls 1 [(0, .ref (ad 13))] := hl
  refine lv_aload_n C.1 C.2.1 dX7_cutCount_0 rfl (lv_at hl 0 rfl) ?_
  refine g_X7_9 C hM (hI 13 (by decide)) wf_X7_53 dX7_cutCount_1 ?_
  exact x_iret C hr hM ⟨rfl, rfl⟩ dX7_cutCount_4
set_option maxRecDepth 100000 in
set_option maxHeartbeats 4000000 in
theorem c_X7_nodeCount (l : Launch) (D : va_G) (ad : Nat → Nat) (G : Nat → Nat) (ids : List Nat) (hI : ∀ k, k < 81 → k ∈ ids) (σ : Sg)   : MET l yX7_nodeCount cX7_nodeCount 1 (some .int) 2 [.ref (ad 13)] D ad G ids σ (QI D ad G ids (fun z σ' => σ 21 0 + σ 16 0 = z ∧ σ = σ')) := by
  refine x_enter (by decide) (Nat.le_of_ble_eq_true rfl) ?_
  intro pp ee ss mm args below meth cq C hr ls hl hM
  have hl : lv_has ls 1 [(0, .ref (ad 13))] := hl
  refine lv_aload_n C.1 C.2.1 dX7_nodeCount_0 rfl (lv_at hl 0 rfl) ?_
  refine g_X7_7 C hM (hI 13 (by decide)) wf_X7_41 dX7_nodeCount_1 ?_
  refine lv_aload_n C.1 C.2.1 dX7_nodeCount_4 rfl (lv_at hl 0 rfl) ?_
  refine g_X7_3 C hM (hI 13 (by decide)) wf_X7_23 dX7_nodeCount_5 ?_
  refine x_ci (x_runV (As := []) (rest := [.int (iI (σ 21 0))]) C (by omega) cw_X7_44 (c_X6_nodeCount l D ad G ids hI σ 1 (by decide)) hM (hI _ (by omega)) (cx_q ad G _ (by decide)) rfl rfl rfl rfl (Nat.le_of_ble_eq_true rfl) hl.1 dX7_nodeCount_8) hM (fun r8 s8 H1 lc1 hp hM => ?_)
  obtain ⟨rfl, rfl⟩ := hp
  refine x_iadd C dX7_nodeCount_11 ?_
  exact x_iret C hr hM ⟨rfl, rfl⟩ dX7_nodeCount_12
set_option maxRecDepth 100000 in
set_option maxHeartbeats 4000000 in
theorem c_X7_killerOf (l : Launch) (D : va_G) (ad : Nat → Nat) (G : Nat → Nat) (ids : List Nat) (hI : ∀ k, k < 81 → k ∈ ids) (σ : Sg) (d o : Int) (hd : IR d) (ho : o = 0 ∨ o = 1) : MET l yX7_killerOf cX7_killerOf 3 (some .int) 2 [.ref (ad 13), .int (iI d), .int (iI o)] D ad G ids σ (QI D ad G ids (fun z σ' => kilF σ d o = z ∧ σ = σ')) := by
  refine x_enter (by decide) (Nat.le_of_ble_eq_true rfl) ?_
  intro pp ee ss mm args below meth cq C hr ls hl hM
  have hl : lv_has ls 3 [(0, .ref (ad 13)), (1, .int (iI d)), (2, .int (iI o))] := hl
  refine lv_iload_n C.1 C.2.1 dX7_killerOf_0 rfl (lv_at hl 2 rfl) ?_
  refine x_if_eq C ⟨by omega, by omega⟩ (tgt := 15) dX7_killerOf_1 (by decide) (fun c1 => ?_) (fun c1 => ?_)
  · refine lv_aload_n C.1 C.2.1 dX7_killerOf_15 rfl (lv_at hl 0 rfl) ?_
    refine g_X7_4 C hM (hI 13 (by decide)) wf_X7_30 dX7_killerOf_16 ?_
    refine lv_iload_n C.1 C.2.1 dX7_killerOf_19 rfl (lv_at hl 1 rfl) ?_
    refine x_ci (x_runV (As := [.int (iI d)]) (rest := []) C (by omega) cw_X7_60 (c_X3_newerOf l D ad G ids hI σ d ⟨by omega, by omega⟩) hM (hI 14 (by decide)) (cx_14 ad G _) rfl rfl rfl rfl (Nat.le_of_ble_eq_true rfl) hl.1 dX7_killerOf_20) hM (fun r20 s20 H1 lc1 hp hM => ?_)
    obtain ⟨rfl, rfl⟩ := hp
    exact x_iret C hr hM ⟨(kil_n (by omega)).symm, rfl⟩ dX7_killerOf_23
  · refine lv_aload_n C.1 C.2.1 dX7_killerOf_4 rfl (lv_at hl 0 rfl) ?_
    refine g_X7_4 C hM (hI 13 (by decide)) wf_X7_30 dX7_killerOf_5 ?_
    refine lv_iload_n C.1 C.2.1 dX7_killerOf_8 rfl (lv_at hl 1 rfl) ?_
    refine x_ci (x_runV (As := [.int (iI d)]) (rest := []) C (by omega) cw_X7_56 (c_X3_olderOf l D ad G ids hI σ d ⟨by omega, by omega⟩) hM (hI 14 (by decide)) (cx_14 ad G _) rfl rfl rfl rfl (Nat.le_of_ble_eq_true rfl) hl.1 dX7_killerOf_9) hM (fun r9 s9 H1 lc1 hp hM => ?_)
    obtain ⟨rfl, rfl⟩ := hp
    refine lv_goto (tgt := 23) C.1 C.2.1 dX7_killerOf_12 (by decide) ?_
    exact x_iret C hr hM ⟨(kil_o (by omega)).symm, rfl⟩ dX7_killerOf_23
set_option maxRecDepth 100000 in
set_option maxHeartbeats 4000000 in
theorem c_X7_behind (l : Launch) (D : va_G) (ad : Nat → Nat) (G : Nat → Nat) (ids : List Nat) (hI : ∀ k, k < 81 → k ∈ ids) (σ : Sg) (d : Nat) (v dn lo up : Int) (htn : dn - 1 = (d : Int)) (hd4 : d ≤ 4) (hrec : EXc l D ad G ids d) (hG : GI σ) (hTI : TI σ) (hMV : MV σ v) (hlo : -9999 ≤ lo ∧ lo ≤ 9999) (hup : -9999 ≤ up ∧ up ≤ 9999) : MET l yX7_behind cX7_behind 7 (some .int) (21 + 4 * d) [.ref (ad 13), .int (iI v), .int (iI dn), .int (iI lo), .int (iI up)] D ad G ids σ (QI D ad G ids (bePost d σ v lo up)) := by
  have hv := hMV.ok hG
  have hv2 := hG.mv hMV
  have hcc := hG.2.1 (v % 100)
  have hT2 : TI (mvG σ v) := hTI.of (fun r hr => mvG_o σ v (by omega) (by omega))
  have htv : tv (mvG σ v) = tv σ := tv_ext (fun r hr => mvG_o σ v (by omega) (by omega))
  refine x_enter (by decide) (Nat.le_of_ble_eq_true rfl) ?_
  intro pp ee ss mm args below meth cq C hr ls hl hM
  have hl : lv_has ls 7 [(0, .ref (ad 13)), (1, .int (iI v)), (2, .int (iI dn)), (3, .int (iI lo)), (4, .int (iI up))] := hl
  refine lv_aload_n C.1 C.2.1 dX7_behind_0 rfl (lv_at hl 0 rfl) ?_
  refine g_X7_0 C hM (hI 13 (by decide)) wf_X7_9 dX7_behind_1 ?_
  refine lv_iload_n C.1 C.2.1 dX7_behind_4 rfl (lv_at hl 1 rfl) ?_
  refine x_ci (x_runV (As := [.int (iI v)]) (rest := []) C (by omega) cw_X7_144 (c_X0_advance l D ad G ids hI σ v (hG).1 (hG).2.2.1 hv.1) hM (hI 1 (by decide)) (cx_1 ad G _) rfl rfl rfl rfl (Nat.le_of_ble_eq_true rfl) hl.1 dX7_behind_5) hM (fun r5 s5 H1 lc1 hp hM => ?_)
  obtain ⟨rfl, rfl⟩ := hp
  refine lv_istore (lv' := [(5, .int (iI (σ 1 (v % 100)))), (0, .ref (ad 13)), (1, .int (iI v)), (2, .int (iI dn)), (3, .int (iI lo)), (4, .int (iI up))]) C.1 C.2.1 dX7_behind_8 hl (by decide) rfl (fun ls hl => ?_)
  refine lv_aload_n C.1 C.2.1 dX7_behind_10 rfl (lv_at hl 1 rfl) ?_
  refine lv_iload_n C.1 C.2.1 dX7_behind_11 rfl (lv_at hl 3 rfl) ?_
  refine lv_iconst (v := iI 1) C.1 C.2.1 dX7_behind_12 (by decide) ?_
  refine x_isub C dX7_behind_13 ?_
  refine lv_iload C.1 C.2.1 dX7_behind_14 (lv_at hl 5 rfl) ?_
  refine x_ineg C dX7_behind_16 ?_
  refine lv_iload_n C.1 C.2.1 dX7_behind_17 rfl (lv_at hl 4 rfl) ?_
  refine x_ineg C dX7_behind_18 ?_
  refine x_ci (x_runV (As := [.int (iI (dn - 1)), .int (iI (-up)), .int (iI (-lo))]) (rest := []) C (by omega) cw_X7_70 (hrec (mvG σ v) (dn - 1) (-up) (-lo) htn (hv2) (hT2) (by omega) (by omega)) hM (hI 13 (by decide)) (cx_13 ad G _) rfl rfl rfl rfl (Nat.le_of_ble_eq_true rfl) hl.1 dX7_behind_19) hM (fun r19 s19 H1 lc1 hp hM => ?_)
  obtain ⟨hzs19, hts19, hns19, hfs19⟩ := hp
  have hu := unG_mv (σ := σ) (b := s19) hv.2.1 (hfs19 1 (by omega) (by unfold NSR; omega)) (hfs19 4 (by omega) (by unfold NSR; omega))
  have hgb : GI s19 := hv2.of (fun r hr => hfs19 r (by omega) (by unfold NSR; omega))
  have hg2 := hfs19 2 (by omega) (by unfold NSR; omega)
  have hg3 := hfs19 3 (by omega) (by unfold NSR; omega)
  rw [mvG_o σ v (by decide) (by decide)] at hg2 hg3
  refine x_ineg C dX7_behind_22 ?_
  refine lv_istore (lv' := [(6, .int (iI (-r19))), (5, .int (iI (σ 1 (v % 100)))), (0, .ref (ad 13)), (1, .int (iI v)), (2, .int (iI dn)), (3, .int (iI lo)), (4, .int (iI up))]) C.1 C.2.1 dX7_behind_23 hl (by decide) rfl (fun ls hl => ?_)
  refine lv_aload_n C.1 C.2.1 dX7_behind_25 rfl (lv_at hl 2 rfl) ?_
  refine g_X7_0 C hM (hI 13 (by decide)) wf_X7_9 dX7_behind_26 ?_
  refine lv_iload_n C.1 C.2.1 dX7_behind_29 rfl (lv_at hl 3 rfl) ?_
  refine lv_iload C.1 C.2.1 dX7_behind_30 (lv_at hl 1 rfl) ?_
  refine x_cv (x_runV (As := [.int (iI v), .int (iI (σ 1 (v % 100)))]) (rest := []) C (by omega) cw_X7_147 (c_X0_retreat l D ad G ids hI s19 v (σ 1 (v % 100)) (hgb).1 (hgb).2.2.1 (by rw [hg2, hg3]; exact hv.1)) hM (hI 1 (by decide)) (cx_1 ad G _) rfl rfl rfl rfl (Nat.le_of_ble_eq_true rfl) hl.1 dX7_behind_32) hM (fun s32 H1 lc1 hp hM => ?_)
  obtain rfl := hp
  refine lv_iload C.1 C.2.1 dX7_behind_35 (lv_at hl 0 rfl) ?_
  refine x_iret C hr hM ?_ dX7_behind_37
  exact ⟨by rw [← hzs19, mvG_1, mvG_4, ups_eq, mvG_cfg, htv], by
    rw [tv_ext (a := s19) (fun r hr => hu.2.2 r (by omega) (by omega)), hts19, mvG_1, mvG_4, ups_eq, mvG_cfg, htv], by
    rw [hu.2.2 21 (by omega) (by omega), hu.2.2 16 (by omega) (by omega), hns19, mvG_o σ v (by omega) (by omega), mvG_o σ v (by omega) (by omega), mvG_1, mvG_4, ups_eq, mvG_cfg, htv], fun r h1 h2 => by
    by_cases e1 : r = 1
    · rw [e1]; exact hu.1
    by_cases e4 : r = 4
    · rw [e4]; exact hu.2.1
    rw [hu.2.2 r e1 e4, hfs19 r h1 h2, mvG_o σ v e1 e4]⟩
set_option maxRecDepth 100000 in
set_option maxHeartbeats 4000000 in
theorem c_X7_noteCut (l : Launch) (D : va_G) (ad : Nat → Nat) (G : Nat → Nat) (ids : List Nat) (hI : ∀ k, k < 81 → k ∈ ids) (σ : Sg) (j : Nat) (L : List Int) (c : Fn) (d v : Int) (hj : j < 11) (hL : LM σ j L c) (h18 : L.length ≤ 18) (hMB : ∀ v, v ∈ L → 0 ≤ v ∧ v < 2500) (hTI : TI σ) (hd : 0 ≤ d ∧ d < 5) (hvL : v ∈ L) : MET l yX7_noteCut cX7_noteCut 4 none 2 [.ref (ad 13), .ref (ad (26 + 5 * j)), .int (iI d), .int (iI v)] D ad G ids σ (QV D ad G ids (fun σ' => cutT σ c d v = σ')) := by
  have hvb := hMB v hvL
  refine x_enter (by decide) (Nat.le_of_ble_eq_true rfl) ?_
  intro pp ee ss mm args below meth cq C hr ls hl hM
  have hl : lv_has ls 4 [(0, .ref (ad 13)), (1, .ref (ad (26 + 5 * j))), (2, .int (iI d)), (3, .int (iI v))] := hl
  refine lv_aload_n C.1 C.2.1 dX7_noteCut_0 rfl (lv_at hl 0 rfl) ?_
  refine lv_dup C.1 C.2.1 dX7_noteCut_1 rfl ?_
  refine g_X7_9 C hM (hI 13 (by decide)) wf_X7_53 dX7_noteCut_2 ?_
  refine lv_iconst (v := iI 1) C.1 C.2.1 dX7_noteCut_5 (by decide) ?_
  refine x_iadd C dX7_noteCut_6 ?_
  refine p_X7_9 C hM (hI 13 (by decide)) wf_X7_53 dX7_noteCut_7 (fun H1 lc1 hM => ?_)
  have hL2 : LM (upr σ 23 (ups (σ 23) 0 (σ 23 0 + 1))) j L c := by unfold LM at *; rw [upr_ne _ _ (by omega), upr_ne (q := 40 + 6 * j) _ _ (by omega), upr_ne (q := 40 + 6 * j + 1) _ _ (by omega)]; exact hL
  have hT2 : TI (upr σ 23 (ups (σ 23) 0 (σ 23 0 + 1))) := hTI.set (by omega) _
  refine lv_aload_n C.1 C.2.1 dX7_noteCut_10 rfl (lv_at hl 1 rfl) ?_
  refine lv_aload_n C.1 C.2.1 dX7_noteCut_11 rfl (lv_at hl 1 rfl) ?_
  refine lv_iload_n C.1 C.2.1 dX7_noteCut_12 rfl (lv_at hl 3 rfl) ?_
  refine x_ci (x_runV (As := [.int (iI v)]) (rest := [.ref (ad (26 + 5 * j))]) C (by omega) cw_X7_151 (c_X5_indexOf l D ad G ids hI (upr σ 23 (ups (σ 23) 0 ((σ 23 0) + 1))) j L c v hj hL2 h18 hMB (by omega)) hM (hI _ (by omega)) (cx_lo ad G _ hj) rfl rfl rfl rfl (Nat.le_of_ble_eq_true rfl) hl.1 dX7_noteCut_13) hM (fun r13 s13 H1 lc1 hp hM => ?_)
  obtain ⟨hxs13, rfl⟩ := hp
  obtain ⟨i, hi, hri⟩ : ∃ i : Nat, L[i]? = some v ∧ r13 = (i : Int) := hxs13.resolve_left (fun q => q.2 hvL)
  obtain ⟨hi1, hi2⟩ := List.getElem?_eq_some_iff.mp hi
  have hgd : L.getD r13.toNat (-1) = v := by rw [show r13.toNat = i by omega, getD_lt hi1]; exact hi2
  refine x_ci (x_runV (As := [.int (iI r13)]) (rest := []) C (by omega) cw_X7_154 (c_X5_isTaking l D ad G ids hI (upr σ 23 (ups (σ 23) 0 ((σ 23 0) + 1))) j L c r13 hj hL2 h18 ⟨by omega, by omega⟩) hM (hI _ (by omega)) (cx_lo ad G _ hj) rfl rfl rfl rfl (Nat.le_of_ble_eq_true rfl) hl.1 dX7_noteCut_16) hM (fun r16 s16 H1 lc1 hp hM => ?_)
  obtain ⟨hbs16, rfl⟩ := hp
  obtain ⟨ts16, ks16⟩ := ite01 hbs16
  rw [hgd] at ks16
  refine x_if_ne C ⟨by omega, by omega⟩ (tgt := 31) dX7_noteCut_19 (by decide) (fun c19 => ?_) (fun c19 => ?_)
  · refine x_vret C hr hM ?_ dX7_noteCut_31
    unfold cutT; rw [if_pos (ks16.mp c19).2.2]; rfl
  · refine lv_aload_n C.1 C.2.1 dX7_noteCut_22 rfl (lv_at hl 0 rfl) ?_
    refine g_X7_4 C hM (hI 13 (by decide)) wf_X7_30 dX7_noteCut_23 ?_
    refine lv_iload_n C.1 C.2.1 dX7_noteCut_26 rfl (lv_at hl 2 rfl) ?_
    refine lv_iload_n C.1 C.2.1 dX7_noteCut_27 rfl (lv_at hl 3 rfl) ?_
    refine x_cv (x_runV (As := [.int (iI d), .int (iI v)]) (rest := []) C (by omega) cw_X7_158 (c_X3_note l D ad G ids hI (upr σ 23 (ups (σ 23) 0 ((σ 23 0) + 1))) d v hT2 (by omega) ⟨by omega, by omega⟩) hM (hI 14 (by decide)) (cx_14 ad G _) rfl rfl rfl rfl (Nat.le_of_ble_eq_true rfl) hl.1 dX7_noteCut_28) hM (fun s28 H1 lc1 hp hM => ?_)
    obtain rfl := hp
    refine x_vret C hr hM ?_ dX7_noteCut_31
    unfold cutT; rw [if_neg (fun q => c19 (ks16.mpr ⟨by omega, by omega, q⟩))]; rfl
set_option maxRecDepth 100000 in
set_option maxHeartbeats 4000000 in
theorem c_X7_tryMoves (l : Launch) (D : va_G) (ad : Nat → Nat) (G : Nat → Nat) (ids : List Nat) (hI : ∀ k, k < 81 → k ∈ ids) (σ : Sg) (d1 : Nat) (O : List Int) (key dn lo up : Int) (htn : dn = (d1 : Int) + 1) (hd4 : d1 + 1 ≤ 4) (hrec : EXc l D ad G ids d1) (hG : GI σ) (hTI : TI σ) (hkey : 0 ≤ key ∧ key < 4000000000000000000) (hL : LM σ (4 + (d1 + 1) + 1) (MLs (σ 1) (σ 2 0) (σ 3 0) (σ 4 0)) (σ 1)) (hO : OR σ (4 + (d1 + 1) + 1) (MLs (σ 1) (σ 2 0) (σ 3 0) (σ 4 0)) O) (hOL : O.length = (MLs (σ 1) (σ 2 0) (σ 3 0) (σ 4 0)).length) (hlo : -9999 ≤ lo ∧ lo ≤ 9999) (hup : -9999 ≤ up ∧ up ≤ 9999) : MET l yX7_tryMoves cX7_tryMoves 13 (some .int) (22 + 4 * d1) [.ref (ad 13), .ref (ad (26 + 5 * (4 + (d1 + 1) + 1))), .long (jI key), .int (iI dn), .int (iI lo), .int (iI up)] D ad G ids σ (QI D ad G ids (trPost d1 σ O key lo up)) := by
  have h18 := MLs18 hG
  have hMB := MLsMB hG
  have hOl := hOL
  refine x_enter (by decide) (Nat.le_of_ble_eq_true rfl) ?_
  intro pp ee ss mm args below meth cq C hr ls hl hM
  have hl : lv_has ls 13 [(0, .ref (ad 13)), (1, .ref (ad (26 + 5 * (4 + (d1 + 1) + 1)))), (2, .long (jI key)), (4, .int (iI dn)), (5, .int (iI lo)), (6, .int (iI up))] := hl
  refine lv_sipush (v := iI (-10000)) C.1 C.2.1 dX7_tryMoves_0 (by decide) ?_
  refine lv_istore (lv' := [(7, .int (iI (-10000))), (0, .ref (ad 13)), (1, .ref (ad (26 + 5 * (4 + (d1 + 1) + 1)))), (2, .long (jI key)), (4, .int (iI dn)), (5, .int (iI lo)), (6, .int (iI up))]) C.1 C.2.1 dX7_tryMoves_3 hl (by decide) rfl (fun ls hl => ?_)
  refine lv_iconst (v := iI (-1)) C.1 C.2.1 dX7_tryMoves_5 (by decide) ?_
  refine lv_istore (lv' := [(8, .int (iI (-1))), (7, .int (iI (-10000))), (0, .ref (ad 13)), (1, .ref (ad (26 + 5 * (4 + (d1 + 1) + 1)))), (2, .long (jI key)), (4, .int (iI dn)), (5, .int (iI lo)), (6, .int (iI up))]) C.1 C.2.1 dX7_tryMoves_6 hl (by decide) rfl (fun ls hl => ?_)
  refine lv_iload C.1 C.2.1 dX7_tryMoves_8 (lv_at hl 6 rfl) ?_
  refine lv_istore (lv' := [(9, .int (iI lo)), (8, .int (iI (-1))), (7, .int (iI (-10000))), (0, .ref (ad 13)), (1, .ref (ad (26 + 5 * (4 + (d1 + 1) + 1)))), (2, .long (jI key)), (4, .int (iI dn)), (5, .int (iI lo)), (6, .int (iI up))]) C.1 C.2.1 dX7_tryMoves_10 hl (by decide) rfl (fun ls hl => ?_)
  refine lv_iconst (v := iI 0) C.1 C.2.1 dX7_tryMoves_12 (by decide) ?_
  refine lv_istore (lv' := [(10, .int (iI 0)), (9, .int (iI lo)), (8, .int (iI (-1))), (7, .int (iI (-10000))), (0, .ref (ad 13)), (1, .ref (ad (26 + 5 * (4 + (d1 + 1) + 1)))), (2, .long (jI key)), (4, .int (iI dn)), (5, .int (iI lo)), (6, .int (iI up))]) C.1 C.2.1 dX7_tryMoves_13 hl (by decide) rfl (fun ls hl => ?_)
  have L15 : ∀ (fu : Nat) (x : Int) (b : Int) (f : Int) (bd : Int) (n : Int) (s1 : Sg) (H1 : Heap) (lc1 : List Loc) (ls1 : Array Slot), (0 ≤ x ∧ x ≤ O.length) → (-10000 ≤ b ∧ b ≤ 10000) → ((b = -10000 ∧ f = -1) ∨ f ∈ MLs (σ 1) (σ 2 0) (σ 3 0) (σ 4 0)) → (bd = max lo b) → (LM s1 (4 + (d1 + 1) + 1) (MLs (σ 1) (σ 2 0) (σ 3 0) (σ 4 0)) (σ 1)) → (OR s1 (4 + (d1 + 1) + 1) (MLs (σ 1) (σ 2 0) (σ 3 0) (σ 4 0)) O) → (TI s1) → (∀ r : Nat, (r < 46 ∨ 76 + 6 * d1 ≤ r) → NSR r → s1 r = σ r) → (s1 21 0 + s1 16 0 + 1 = σ 21 0 + σ 16 0 + n) → (slp (sb (cfg σ) d1) (σ 1) (σ 4 0) lo up (O.drop x.toNat) b f n (tv s1) = trR d1 σ O lo up) → (20 - x).toNat < fu → XI D ad G ids (AN ad ids ss.heap.size) ss.heap H1 lc1 s1 → lv_has ls1 13 [(10, .int (iI x)), (9, .int (iI bd)), (8, .int (iI f)), (7, .int (iI b)), (0, .ref (ad 13)), (1, .ref (ad (26 + 5 * (4 + (d1 + 1) + 1)))), (2, .long (jI key)), (4, .int (iI dn)), (5, .int (iI lo)), (6, .int (iI up))] → W pp l ee (rmh (22 + 4 * d1)) ss mm args below meth cq H1 lc1 0 0 (MQ below (QI D ad G ids (trPost d1 σ O key lo up) ss.heap.size) args ss 0 0 (AN ad ids ss.heap.size)) (F0 mm 15 ls1 []) := by
    intro fu
    induction fu with
    | zero => intro x b f bd n s1 H1 lc1 ls1 x0 hb hf hbd hL1 hO1 hT1 hfr hn hq hfu; exact absurd hfu (Nat.not_lt_zero _)
    | succ fu ih15 =>
      intro x b f bd n s1 H1 lc1 ls1 x0 hb hf hbd hL1 hO1 hT1 hfr hn hq hfu hM hl
      refine lv_iload C.1 C.2.1 dX7_tryMoves_15 (lv_at hl 0 rfl) ?_
      refine lv_aload_n C.1 C.2.1 dX7_tryMoves_17 rfl (lv_at hl 5 rfl) ?_
      refine x_ci (x_runV (As := []) (rest := [.int (iI x)]) C (by omega) cw_X7_89 (c_X5_size l D ad G ids hI s1 (4 + (d1 + 1) + 1) (MLs (σ 1) (σ 2 0) (σ 3 0) (σ 4 0)) (σ 1) (by omega) hL1) hM (hI _ (by omega)) (cx_lo ad G _ (show (4 + (d1 + 1) + 1) < 11 by omega)) rfl rfl rfl rfl (Nat.le_of_ble_eq_true rfl) hl.1 dX7_tryMoves_18) hM (fun r18 s18 H1 lc1 hp hM => ?_)
      obtain ⟨rfl, rfl⟩ := hp
      refine x_icmp_ge C ⟨by omega, by omega⟩ ⟨by omega, by omega⟩ (tgt := 87) dX7_tryMoves_21 (by decide) (fun c21 => ?_) (fun c21 => ?_)
      · have hF : trR d1 σ O lo up = (b, f, n, tv s1) := by
          rw [← hq]
          by_cases e : x < O.length
          · rw [drop_s (L := O) (by omega) e, slp, if_neg (by omega)]
          · rw [drop_e (L := O) (by omega) e, slp]
        have hfb : -1 ≤ f ∧ f < 2500 := by
          rcases hf with ⟨-, q⟩ | q
          · omega
          · have := hMB f q; omega
        have k2 := hfr 2 (by omega) (by unfold NSR; omega)
        have k3 := hfr 3 (by omega) (by unfold NSR; omega)
        have k1 := hfr 1 (by omega) (by unfold NSR; omega)
        have k4 := hfr 4 (by omega) (by unfold NSR; omega)
        have hGs : GI s1 := hG.of (fun r hr => hfr r (by omega) (by unfold NSR; omega))
        have hcs : cfg s1 = cfg σ := cfg_of (fun r hr => hfr r (by omega) (by unfold NSR; omega))
        refine lv_iload C.1 C.2.1 dX7_tryMoves_87 (lv_at hl 3 rfl) ?_
        refine lv_iload C.1 C.2.1 dX7_tryMoves_89 (lv_at hl 9 rfl) ?_
        refine x_icmp_lt C ⟨by omega, by omega⟩ ⟨by omega, by omega⟩ (tgt := 103) dX7_tryMoves_91 (by decide) (fun c91 => ?_) (fun c91 => ?_)
        · refine lv_iload C.1 C.2.1 dX7_tryMoves_103 (lv_at hl 3 rfl) ?_
          refine lv_iload C.1 C.2.1 dX7_tryMoves_105 (lv_at hl 9 rfl) ?_
          refine x_icmp_lt C ⟨by omega, by omega⟩ ⟨by omega, by omega⟩ (tgt := 114) dX7_tryMoves_107 (by decide) (fun c107 => ?_) (fun c107 => ?_)
          · refine lv_iload C.1 C.2.1 dX7_tryMoves_114 (lv_at hl 3 rfl) ?_
            refine lv_iload C.1 C.2.1 dX7_tryMoves_116 (lv_at hl 8 rfl) ?_
            refine x_icmp_gt C ⟨by omega, by omega⟩ ⟨by omega, by omega⟩ (tgt := 125) dX7_tryMoves_118 (by decide) (fun c118 => ?_) (fun c118 => ?_)
            · refine lv_iconst (v := iI 0) C.1 C.2.1 dX7_tryMoves_125 (by decide) ?_
              refine lv_istore (lv' := [(10, .int (iI 0)), (9, .int (iI bd)), (8, .int (iI f)), (7, .int (iI b)), (0, .ref (ad 13)), (1, .ref (ad (26 + 5 * (4 + (d1 + 1) + 1)))), (2, .long (jI key)), (4, .int (iI dn)), (5, .int (iI lo)), (6, .int (iI up))]) C.1 C.2.1 dX7_tryMoves_126 hl (by decide) rfl (fun ls hl => ?_)
              have hT9 : TI (s1) := hT1
              refine lv_aload_n C.1 C.2.1 dX7_tryMoves_128 rfl (lv_at hl 4 rfl) ?_
              refine g_X7_2 C hM (hI 13 (by decide)) wf_X7_19 dX7_tryMoves_129 ?_
              refine lv_lload_n C.1 C.2.1 dX7_tryMoves_132 rfl (lv_at hl 6 rfl) ?_
              refine lv_iload C.1 C.2.1 dX7_tryMoves_133 (lv_at hl 7 rfl) ?_
              refine lv_iload C.1 C.2.1 dX7_tryMoves_135 (lv_at hl 3 rfl) ?_
              refine lv_iload C.1 C.2.1 dX7_tryMoves_137 (lv_at hl 0 rfl) ?_
              refine lv_iload C.1 C.2.1 dX7_tryMoves_139 (lv_at hl 2 rfl) ?_
              refine x_cv (x_runV (As := [.long (jI key), .int (iI dn), .int (iI b), .int (iI 0), .int (iI f)]) (rest := []) C (by omega) cw_X7_140 (c_X8_store l D ad G ids hI s1 key dn b 0 f hT9 hkey) hM (hI 4 (by decide)) (cx_4 ad G _) rfl rfl rfl rfl (Nat.le_of_ble_eq_true rfl) hl.1 dX7_tryMoves_141) hM (fun s141 H1 lc1 hp hM => ?_)
              obtain rfl := hp
              refine lv_aload_n C.1 C.2.1 dX7_tryMoves_144 rfl (lv_at hl 4 rfl) ?_
              refine lv_iload C.1 C.2.1 dX7_tryMoves_145 (lv_at hl 2 rfl) ?_
              refine p_X7_5 C hM (hI 13 (by decide)) wf_X7_34 dX7_tryMoves_147 (fun H1 lc1 hM => ?_)
              refine lv_iload C.1 C.2.1 dX7_tryMoves_150 (lv_at hl 3 rfl) ?_
              refine x_iret C hr hM ?_ dX7_tryMoves_152
              (refine ⟨by rw [hF], ?_, ?_, ?_⟩)
              · show tv (setT (stoT s1 key dn b 0 f) 19 f) = _
                rw [tv_set _ _ (by omega), tv_sto, hF, htn]
                have hc : ¬ up ≤ b := by omega
                have hc2 : ¬ b ≤ lo := by omega
                simp only [endT, if_neg hc, if_neg hc2]
              · rw [upr_ne _ _ (show (21 : Nat) ≠ 19 by decide), upr_ne _ _ (show (16 : Nat) ≠ 19 by decide), sto_o _ _ _ _ _ _ (by omega), sto_o _ _ _ _ _ _ (by omega), hF]
                exact hn
              · intro r a q
                have q2 := q
                unfold NSR at q2
                rw [upr_ne _ _ (by omega), sto_o _ _ _ _ _ _ (by omega)]
                exact hfr r (by omega) q
            · refine lv_iconst (v := iI 2) C.1 C.2.1 dX7_tryMoves_121 (by decide) ?_
              refine lv_goto (tgt := 126) C.1 C.2.1 dX7_tryMoves_122 (by decide) ?_
              refine lv_istore (lv' := [(10, .int (iI 2)), (9, .int (iI bd)), (8, .int (iI f)), (7, .int (iI b)), (0, .ref (ad 13)), (1, .ref (ad (26 + 5 * (4 + (d1 + 1) + 1)))), (2, .long (jI key)), (4, .int (iI dn)), (5, .int (iI lo)), (6, .int (iI up))]) C.1 C.2.1 dX7_tryMoves_126 hl (by decide) rfl (fun ls hl => ?_)
              have hT9 : TI (s1) := hT1
              refine lv_aload_n C.1 C.2.1 dX7_tryMoves_128 rfl (lv_at hl 4 rfl) ?_
              refine g_X7_2 C hM (hI 13 (by decide)) wf_X7_19 dX7_tryMoves_129 ?_
              refine lv_lload_n C.1 C.2.1 dX7_tryMoves_132 rfl (lv_at hl 6 rfl) ?_
              refine lv_iload C.1 C.2.1 dX7_tryMoves_133 (lv_at hl 7 rfl) ?_
              refine lv_iload C.1 C.2.1 dX7_tryMoves_135 (lv_at hl 3 rfl) ?_
              refine lv_iload C.1 C.2.1 dX7_tryMoves_137 (lv_at hl 0 rfl) ?_
              refine lv_iload C.1 C.2.1 dX7_tryMoves_139 (lv_at hl 2 rfl) ?_
              refine x_cv (x_runV (As := [.long (jI key), .int (iI dn), .int (iI b), .int (iI 2), .int (iI f)]) (rest := []) C (by omega) cw_X7_140 (c_X8_store l D ad G ids hI s1 key dn b 2 f hT9 hkey) hM (hI 4 (by decide)) (cx_4 ad G _) rfl rfl rfl rfl (Nat.le_of_ble_eq_true rfl) hl.1 dX7_tryMoves_141) hM (fun s141 H1 lc1 hp hM => ?_)
              obtain rfl := hp
              refine lv_aload_n C.1 C.2.1 dX7_tryMoves_144 rfl (lv_at hl 4 rfl) ?_
              refine lv_iload C.1 C.2.1 dX7_tryMoves_145 (lv_at hl 2 rfl) ?_
              refine p_X7_5 C hM (hI 13 (by decide)) wf_X7_34 dX7_tryMoves_147 (fun H1 lc1 hM => ?_)
              refine lv_iload C.1 C.2.1 dX7_tryMoves_150 (lv_at hl 3 rfl) ?_
              refine x_iret C hr hM ?_ dX7_tryMoves_152
              (refine ⟨by rw [hF], ?_, ?_, ?_⟩)
              · show tv (setT (stoT s1 key dn b 2 f) 19 f) = _
                rw [tv_set _ _ (by omega), tv_sto, hF, htn]
                have hc : ¬ up ≤ b := by omega
                have hc2 : b ≤ lo := by omega
                simp only [endT, if_neg hc, if_pos hc2]
              · rw [upr_ne _ _ (show (21 : Nat) ≠ 19 by decide), upr_ne _ _ (show (16 : Nat) ≠ 19 by decide), sto_o _ _ _ _ _ _ (by omega), sto_o _ _ _ _ _ _ (by omega), hF]
                exact hn
              · intro r a q
                have q2 := q
                unfold NSR at q2
                rw [upr_ne _ _ (by omega), sto_o _ _ _ _ _ _ (by omega)]
                exact hfr r (by omega) q
          · refine lv_iconst (v := iI 1) C.1 C.2.1 dX7_tryMoves_110 (by decide) ?_
            refine lv_goto (tgt := 126) C.1 C.2.1 dX7_tryMoves_111 (by decide) ?_
            refine lv_istore (lv' := [(10, .int (iI 1)), (9, .int (iI bd)), (8, .int (iI f)), (7, .int (iI b)), (0, .ref (ad 13)), (1, .ref (ad (26 + 5 * (4 + (d1 + 1) + 1)))), (2, .long (jI key)), (4, .int (iI dn)), (5, .int (iI lo)), (6, .int (iI up))]) C.1 C.2.1 dX7_tryMoves_126 hl (by decide) rfl (fun ls hl => ?_)
            have hT9 : TI (s1) := hT1
            refine lv_aload_n C.1 C.2.1 dX7_tryMoves_128 rfl (lv_at hl 4 rfl) ?_
            refine g_X7_2 C hM (hI 13 (by decide)) wf_X7_19 dX7_tryMoves_129 ?_
            refine lv_lload_n C.1 C.2.1 dX7_tryMoves_132 rfl (lv_at hl 6 rfl) ?_
            refine lv_iload C.1 C.2.1 dX7_tryMoves_133 (lv_at hl 7 rfl) ?_
            refine lv_iload C.1 C.2.1 dX7_tryMoves_135 (lv_at hl 3 rfl) ?_
            refine lv_iload C.1 C.2.1 dX7_tryMoves_137 (lv_at hl 0 rfl) ?_
            refine lv_iload C.1 C.2.1 dX7_tryMoves_139 (lv_at hl 2 rfl) ?_
            refine x_cv (x_runV (As := [.long (jI key), .int (iI dn), .int (iI b), .int (iI 1), .int (iI f)]) (rest := []) C (by omega) cw_X7_140 (c_X8_store l D ad G ids hI s1 key dn b 1 f hT9 hkey) hM (hI 4 (by decide)) (cx_4 ad G _) rfl rfl rfl rfl (Nat.le_of_ble_eq_true rfl) hl.1 dX7_tryMoves_141) hM (fun s141 H1 lc1 hp hM => ?_)
            obtain rfl := hp
            refine lv_aload_n C.1 C.2.1 dX7_tryMoves_144 rfl (lv_at hl 4 rfl) ?_
            refine lv_iload C.1 C.2.1 dX7_tryMoves_145 (lv_at hl 2 rfl) ?_
            refine p_X7_5 C hM (hI 13 (by decide)) wf_X7_34 dX7_tryMoves_147 (fun H1 lc1 hM => ?_)
            refine lv_iload C.1 C.2.1 dX7_tryMoves_150 (lv_at hl 3 rfl) ?_
            refine x_iret C hr hM ?_ dX7_tryMoves_152
            (exfalso; omega)
        · have hfL : f ∈ MLs (σ 1) (σ 2 0) (σ 3 0) (σ 4 0) := hf.resolve_left (fun q => by omega)
          refine lv_aload_n C.1 C.2.1 dX7_tryMoves_94 rfl (lv_at hl 4 rfl) ?_
          refine lv_aload_n C.1 C.2.1 dX7_tryMoves_95 rfl (lv_at hl 5 rfl) ?_
          refine lv_iload C.1 C.2.1 dX7_tryMoves_96 (lv_at hl 7 rfl) ?_
          refine lv_iload C.1 C.2.1 dX7_tryMoves_98 (lv_at hl 2 rfl) ?_
          refine x_cv (x_runV (As := [.ref (ad (26 + 5 * (4 + (d1 + 1) + 1))), .int (iI dn), .int (iI f)]) (rest := []) C (by omega) cw_X7_136 (c_X7_noteCut l D ad G ids hI s1 (4 + (d1 + 1) + 1) (MLs (σ 1) (σ 2 0) (σ 3 0) (σ 4 0)) (σ 1) dn f (show (4 + (d1 + 1) + 1) < 11 by omega) hL1 h18 hMB hT1 (by omega) hfL) hM (hI 13 (by decide)) (cx_13 ad G _) rfl rfl rfl rfl (Nat.le_of_ble_eq_true rfl) hl.1 dX7_tryMoves_100) hM (fun s100 H1 lc1 hp hM => ?_)
          obtain rfl := hp
          refine lv_iload C.1 C.2.1 dX7_tryMoves_103 (lv_at hl 3 rfl) ?_
          refine lv_iload C.1 C.2.1 dX7_tryMoves_105 (lv_at hl 9 rfl) ?_
          refine x_icmp_lt C ⟨by omega, by omega⟩ ⟨by omega, by omega⟩ (tgt := 114) dX7_tryMoves_107 (by decide) (fun c107 => ?_) (fun c107 => ?_)
          · refine lv_iload C.1 C.2.1 dX7_tryMoves_114 (lv_at hl 3 rfl) ?_
            refine lv_iload C.1 C.2.1 dX7_tryMoves_116 (lv_at hl 8 rfl) ?_
            refine x_icmp_gt C ⟨by omega, by omega⟩ ⟨by omega, by omega⟩ (tgt := 125) dX7_tryMoves_118 (by decide) (fun c118 => ?_) (fun c118 => ?_)
            · refine lv_iconst (v := iI 0) C.1 C.2.1 dX7_tryMoves_125 (by decide) ?_
              refine lv_istore (lv' := [(10, .int (iI 0)), (9, .int (iI bd)), (8, .int (iI f)), (7, .int (iI b)), (0, .ref (ad 13)), (1, .ref (ad (26 + 5 * (4 + (d1 + 1) + 1)))), (2, .long (jI key)), (4, .int (iI dn)), (5, .int (iI lo)), (6, .int (iI up))]) C.1 C.2.1 dX7_tryMoves_126 hl (by decide) rfl (fun ls hl => ?_)
              have hT9 : TI (cutT s1 (σ 1) dn f) := hT1.cut _ _ hfb
              refine lv_aload_n C.1 C.2.1 dX7_tryMoves_128 rfl (lv_at hl 4 rfl) ?_
              refine g_X7_2 C hM (hI 13 (by decide)) wf_X7_19 dX7_tryMoves_129 ?_
              refine lv_lload_n C.1 C.2.1 dX7_tryMoves_132 rfl (lv_at hl 6 rfl) ?_
              refine lv_iload C.1 C.2.1 dX7_tryMoves_133 (lv_at hl 7 rfl) ?_
              refine lv_iload C.1 C.2.1 dX7_tryMoves_135 (lv_at hl 3 rfl) ?_
              refine lv_iload C.1 C.2.1 dX7_tryMoves_137 (lv_at hl 0 rfl) ?_
              refine lv_iload C.1 C.2.1 dX7_tryMoves_139 (lv_at hl 2 rfl) ?_
              refine x_cv (x_runV (As := [.long (jI key), .int (iI dn), .int (iI b), .int (iI 0), .int (iI f)]) (rest := []) C (by omega) cw_X7_140 (c_X8_store l D ad G ids hI (cutT s1 (σ 1) dn f) key dn b 0 f hT9 hkey) hM (hI 4 (by decide)) (cx_4 ad G _) rfl rfl rfl rfl (Nat.le_of_ble_eq_true rfl) hl.1 dX7_tryMoves_141) hM (fun s141 H1 lc1 hp hM => ?_)
              obtain rfl := hp
              refine lv_aload_n C.1 C.2.1 dX7_tryMoves_144 rfl (lv_at hl 4 rfl) ?_
              refine lv_iload C.1 C.2.1 dX7_tryMoves_145 (lv_at hl 2 rfl) ?_
              refine p_X7_5 C hM (hI 13 (by decide)) wf_X7_34 dX7_tryMoves_147 (fun H1 lc1 hM => ?_)
              refine lv_iload C.1 C.2.1 dX7_tryMoves_150 (lv_at hl 3 rfl) ?_
              refine x_iret C hr hM ?_ dX7_tryMoves_152
              (exfalso; omega)
            · refine lv_iconst (v := iI 2) C.1 C.2.1 dX7_tryMoves_121 (by decide) ?_
              refine lv_goto (tgt := 126) C.1 C.2.1 dX7_tryMoves_122 (by decide) ?_
              refine lv_istore (lv' := [(10, .int (iI 2)), (9, .int (iI bd)), (8, .int (iI f)), (7, .int (iI b)), (0, .ref (ad 13)), (1, .ref (ad (26 + 5 * (4 + (d1 + 1) + 1)))), (2, .long (jI key)), (4, .int (iI dn)), (5, .int (iI lo)), (6, .int (iI up))]) C.1 C.2.1 dX7_tryMoves_126 hl (by decide) rfl (fun ls hl => ?_)
              have hT9 : TI (cutT s1 (σ 1) dn f) := hT1.cut _ _ hfb
              refine lv_aload_n C.1 C.2.1 dX7_tryMoves_128 rfl (lv_at hl 4 rfl) ?_
              refine g_X7_2 C hM (hI 13 (by decide)) wf_X7_19 dX7_tryMoves_129 ?_
              refine lv_lload_n C.1 C.2.1 dX7_tryMoves_132 rfl (lv_at hl 6 rfl) ?_
              refine lv_iload C.1 C.2.1 dX7_tryMoves_133 (lv_at hl 7 rfl) ?_
              refine lv_iload C.1 C.2.1 dX7_tryMoves_135 (lv_at hl 3 rfl) ?_
              refine lv_iload C.1 C.2.1 dX7_tryMoves_137 (lv_at hl 0 rfl) ?_
              refine lv_iload C.1 C.2.1 dX7_tryMoves_139 (lv_at hl 2 rfl) ?_
              refine x_cv (x_runV (As := [.long (jI key), .int (iI dn), .int (iI b), .int (iI 2), .int (iI f)]) (rest := []) C (by omega) cw_X7_140 (c_X8_store l D ad G ids hI (cutT s1 (σ 1) dn f) key dn b 2 f hT9 hkey) hM (hI 4 (by decide)) (cx_4 ad G _) rfl rfl rfl rfl (Nat.le_of_ble_eq_true rfl) hl.1 dX7_tryMoves_141) hM (fun s141 H1 lc1 hp hM => ?_)
              obtain rfl := hp
              refine lv_aload_n C.1 C.2.1 dX7_tryMoves_144 rfl (lv_at hl 4 rfl) ?_
              refine lv_iload C.1 C.2.1 dX7_tryMoves_145 (lv_at hl 2 rfl) ?_
              refine p_X7_5 C hM (hI 13 (by decide)) wf_X7_34 dX7_tryMoves_147 (fun H1 lc1 hM => ?_)
              refine lv_iload C.1 C.2.1 dX7_tryMoves_150 (lv_at hl 3 rfl) ?_
              refine x_iret C hr hM ?_ dX7_tryMoves_152
              (exfalso; omega)
          · refine lv_iconst (v := iI 1) C.1 C.2.1 dX7_tryMoves_110 (by decide) ?_
            refine lv_goto (tgt := 126) C.1 C.2.1 dX7_tryMoves_111 (by decide) ?_
            refine lv_istore (lv' := [(10, .int (iI 1)), (9, .int (iI bd)), (8, .int (iI f)), (7, .int (iI b)), (0, .ref (ad 13)), (1, .ref (ad (26 + 5 * (4 + (d1 + 1) + 1)))), (2, .long (jI key)), (4, .int (iI dn)), (5, .int (iI lo)), (6, .int (iI up))]) C.1 C.2.1 dX7_tryMoves_126 hl (by decide) rfl (fun ls hl => ?_)
            have hT9 : TI (cutT s1 (σ 1) dn f) := hT1.cut _ _ hfb
            refine lv_aload_n C.1 C.2.1 dX7_tryMoves_128 rfl (lv_at hl 4 rfl) ?_
            refine g_X7_2 C hM (hI 13 (by decide)) wf_X7_19 dX7_tryMoves_129 ?_
            refine lv_lload_n C.1 C.2.1 dX7_tryMoves_132 rfl (lv_at hl 6 rfl) ?_
            refine lv_iload C.1 C.2.1 dX7_tryMoves_133 (lv_at hl 7 rfl) ?_
            refine lv_iload C.1 C.2.1 dX7_tryMoves_135 (lv_at hl 3 rfl) ?_
            refine lv_iload C.1 C.2.1 dX7_tryMoves_137 (lv_at hl 0 rfl) ?_
            refine lv_iload C.1 C.2.1 dX7_tryMoves_139 (lv_at hl 2 rfl) ?_
            refine x_cv (x_runV (As := [.long (jI key), .int (iI dn), .int (iI b), .int (iI 1), .int (iI f)]) (rest := []) C (by omega) cw_X7_140 (c_X8_store l D ad G ids hI (cutT s1 (σ 1) dn f) key dn b 1 f hT9 hkey) hM (hI 4 (by decide)) (cx_4 ad G _) rfl rfl rfl rfl (Nat.le_of_ble_eq_true rfl) hl.1 dX7_tryMoves_141) hM (fun s141 H1 lc1 hp hM => ?_)
            obtain rfl := hp
            refine lv_aload_n C.1 C.2.1 dX7_tryMoves_144 rfl (lv_at hl 4 rfl) ?_
            refine lv_iload C.1 C.2.1 dX7_tryMoves_145 (lv_at hl 2 rfl) ?_
            refine p_X7_5 C hM (hI 13 (by decide)) wf_X7_34 dX7_tryMoves_147 (fun H1 lc1 hM => ?_)
            refine lv_iload C.1 C.2.1 dX7_tryMoves_150 (lv_at hl 3 rfl) ?_
            refine x_iret C hr hM ?_ dX7_tryMoves_152
            (refine ⟨by rw [hF], ?_, ?_, ?_⟩)
            · show tv (setT (stoT (cutT s1 (σ 1) dn f) key dn b 1 f) 19 f) = _
              rw [tv_set _ _ (by omega), tv_sto, tv_cut, hF, htn]
              have hc : up ≤ b := by omega
              simp only [endT, if_pos hc]
            · rw [upr_ne _ _ (show (21 : Nat) ≠ 19 by decide), upr_ne _ _ (show (16 : Nat) ≠ 19 by decide), sto_o _ _ _ _ _ _ (by omega), cut_o _ _ _ _ (by omega), sto_o _ _ _ _ _ _ (by omega), cut_o _ _ _ _ (by omega), hF]
              exact hn
            · intro r a q
              have q2 := q
              unfold NSR at q2
              rw [upr_ne _ _ (by omega), sto_o _ _ _ _ _ _ (by omega), cut_o _ _ _ _ (by omega)]
              exact hfr r (by omega) q
      · refine lv_iload C.1 C.2.1 dX7_tryMoves_24 (lv_at hl 3 rfl) ?_
        refine lv_iload C.1 C.2.1 dX7_tryMoves_26 (lv_at hl 9 rfl) ?_
        refine x_icmp_ge C ⟨by omega, by omega⟩ ⟨by omega, by omega⟩ (tgt := 87) dX7_tryMoves_28 (by decide) (fun c28 => ?_) (fun c28 => ?_)
        · have hF : trR d1 σ O lo up = (b, f, n, tv s1) := by
            rw [← hq]
            by_cases e : x < O.length
            · rw [drop_s (L := O) (by omega) e, slp, if_neg (by omega)]
            · rw [drop_e (L := O) (by omega) e, slp]
          have hfb : -1 ≤ f ∧ f < 2500 := by
            rcases hf with ⟨-, q⟩ | q
            · omega
            · have := hMB f q; omega
          have k2 := hfr 2 (by omega) (by unfold NSR; omega)
          have k3 := hfr 3 (by omega) (by unfold NSR; omega)
          have k1 := hfr 1 (by omega) (by unfold NSR; omega)
          have k4 := hfr 4 (by omega) (by unfold NSR; omega)
          have hGs : GI s1 := hG.of (fun r hr => hfr r (by omega) (by unfold NSR; omega))
          have hcs : cfg s1 = cfg σ := cfg_of (fun r hr => hfr r (by omega) (by unfold NSR; omega))
          refine lv_iload C.1 C.2.1 dX7_tryMoves_87 (lv_at hl 3 rfl) ?_
          refine lv_iload C.1 C.2.1 dX7_tryMoves_89 (lv_at hl 9 rfl) ?_
          refine x_icmp_lt C ⟨by omega, by omega⟩ ⟨by omega, by omega⟩ (tgt := 103) dX7_tryMoves_91 (by decide) (fun c91 => ?_) (fun c91 => ?_)
          · refine lv_iload C.1 C.2.1 dX7_tryMoves_103 (lv_at hl 3 rfl) ?_
            refine lv_iload C.1 C.2.1 dX7_tryMoves_105 (lv_at hl 9 rfl) ?_
            refine x_icmp_lt C ⟨by omega, by omega⟩ ⟨by omega, by omega⟩ (tgt := 114) dX7_tryMoves_107 (by decide) (fun c107 => ?_) (fun c107 => ?_)
            · refine lv_iload C.1 C.2.1 dX7_tryMoves_114 (lv_at hl 3 rfl) ?_
              refine lv_iload C.1 C.2.1 dX7_tryMoves_116 (lv_at hl 8 rfl) ?_
              refine x_icmp_gt C ⟨by omega, by omega⟩ ⟨by omega, by omega⟩ (tgt := 125) dX7_tryMoves_118 (by decide) (fun c118 => ?_) (fun c118 => ?_)
              · refine lv_iconst (v := iI 0) C.1 C.2.1 dX7_tryMoves_125 (by decide) ?_
                refine lv_istore (lv' := [(10, .int (iI 0)), (9, .int (iI bd)), (8, .int (iI f)), (7, .int (iI b)), (0, .ref (ad 13)), (1, .ref (ad (26 + 5 * (4 + (d1 + 1) + 1)))), (2, .long (jI key)), (4, .int (iI dn)), (5, .int (iI lo)), (6, .int (iI up))]) C.1 C.2.1 dX7_tryMoves_126 hl (by decide) rfl (fun ls hl => ?_)
                have hT9 : TI (s1) := hT1
                refine lv_aload_n C.1 C.2.1 dX7_tryMoves_128 rfl (lv_at hl 4 rfl) ?_
                refine g_X7_2 C hM (hI 13 (by decide)) wf_X7_19 dX7_tryMoves_129 ?_
                refine lv_lload_n C.1 C.2.1 dX7_tryMoves_132 rfl (lv_at hl 6 rfl) ?_
                refine lv_iload C.1 C.2.1 dX7_tryMoves_133 (lv_at hl 7 rfl) ?_
                refine lv_iload C.1 C.2.1 dX7_tryMoves_135 (lv_at hl 3 rfl) ?_
                refine lv_iload C.1 C.2.1 dX7_tryMoves_137 (lv_at hl 0 rfl) ?_
                refine lv_iload C.1 C.2.1 dX7_tryMoves_139 (lv_at hl 2 rfl) ?_
                refine x_cv (x_runV (As := [.long (jI key), .int (iI dn), .int (iI b), .int (iI 0), .int (iI f)]) (rest := []) C (by omega) cw_X7_140 (c_X8_store l D ad G ids hI s1 key dn b 0 f hT9 hkey) hM (hI 4 (by decide)) (cx_4 ad G _) rfl rfl rfl rfl (Nat.le_of_ble_eq_true rfl) hl.1 dX7_tryMoves_141) hM (fun s141 H1 lc1 hp hM => ?_)
                obtain rfl := hp
                refine lv_aload_n C.1 C.2.1 dX7_tryMoves_144 rfl (lv_at hl 4 rfl) ?_
                refine lv_iload C.1 C.2.1 dX7_tryMoves_145 (lv_at hl 2 rfl) ?_
                refine p_X7_5 C hM (hI 13 (by decide)) wf_X7_34 dX7_tryMoves_147 (fun H1 lc1 hM => ?_)
                refine lv_iload C.1 C.2.1 dX7_tryMoves_150 (lv_at hl 3 rfl) ?_
                refine x_iret C hr hM ?_ dX7_tryMoves_152
                (refine ⟨by rw [hF], ?_, ?_, ?_⟩)
                · show tv (setT (stoT s1 key dn b 0 f) 19 f) = _
                  rw [tv_set _ _ (by omega), tv_sto, hF, htn]
                  have hc : ¬ up ≤ b := by omega
                  have hc2 : ¬ b ≤ lo := by omega
                  simp only [endT, if_neg hc, if_neg hc2]
                · rw [upr_ne _ _ (show (21 : Nat) ≠ 19 by decide), upr_ne _ _ (show (16 : Nat) ≠ 19 by decide), sto_o _ _ _ _ _ _ (by omega), sto_o _ _ _ _ _ _ (by omega), hF]
                  exact hn
                · intro r a q
                  have q2 := q
                  unfold NSR at q2
                  rw [upr_ne _ _ (by omega), sto_o _ _ _ _ _ _ (by omega)]
                  exact hfr r (by omega) q
              · refine lv_iconst (v := iI 2) C.1 C.2.1 dX7_tryMoves_121 (by decide) ?_
                refine lv_goto (tgt := 126) C.1 C.2.1 dX7_tryMoves_122 (by decide) ?_
                refine lv_istore (lv' := [(10, .int (iI 2)), (9, .int (iI bd)), (8, .int (iI f)), (7, .int (iI b)), (0, .ref (ad 13)), (1, .ref (ad (26 + 5 * (4 + (d1 + 1) + 1)))), (2, .long (jI key)), (4, .int (iI dn)), (5, .int (iI lo)), (6, .int (iI up))]) C.1 C.2.1 dX7_tryMoves_126 hl (by decide) rfl (fun ls hl => ?_)
                have hT9 : TI (s1) := hT1
                refine lv_aload_n C.1 C.2.1 dX7_tryMoves_128 rfl (lv_at hl 4 rfl) ?_
                refine g_X7_2 C hM (hI 13 (by decide)) wf_X7_19 dX7_tryMoves_129 ?_
                refine lv_lload_n C.1 C.2.1 dX7_tryMoves_132 rfl (lv_at hl 6 rfl) ?_
                refine lv_iload C.1 C.2.1 dX7_tryMoves_133 (lv_at hl 7 rfl) ?_
                refine lv_iload C.1 C.2.1 dX7_tryMoves_135 (lv_at hl 3 rfl) ?_
                refine lv_iload C.1 C.2.1 dX7_tryMoves_137 (lv_at hl 0 rfl) ?_
                refine lv_iload C.1 C.2.1 dX7_tryMoves_139 (lv_at hl 2 rfl) ?_
                refine x_cv (x_runV (As := [.long (jI key), .int (iI dn), .int (iI b), .int (iI 2), .int (iI f)]) (rest := []) C (by omega) cw_X7_140 (c_X8_store l D ad G ids hI s1 key dn b 2 f hT9 hkey) hM (hI 4 (by decide)) (cx_4 ad G _) rfl rfl rfl rfl (Nat.le_of_ble_eq_true rfl) hl.1 dX7_tryMoves_141) hM (fun s141 H1 lc1 hp hM => ?_)
                obtain rfl := hp
                refine lv_aload_n C.1 C.2.1 dX7_tryMoves_144 rfl (lv_at hl 4 rfl) ?_
                refine lv_iload C.1 C.2.1 dX7_tryMoves_145 (lv_at hl 2 rfl) ?_
                refine p_X7_5 C hM (hI 13 (by decide)) wf_X7_34 dX7_tryMoves_147 (fun H1 lc1 hM => ?_)
                refine lv_iload C.1 C.2.1 dX7_tryMoves_150 (lv_at hl 3 rfl) ?_
                refine x_iret C hr hM ?_ dX7_tryMoves_152
                (refine ⟨by rw [hF], ?_, ?_, ?_⟩)
                · show tv (setT (stoT s1 key dn b 2 f) 19 f) = _
                  rw [tv_set _ _ (by omega), tv_sto, hF, htn]
                  have hc : ¬ up ≤ b := by omega
                  have hc2 : b ≤ lo := by omega
                  simp only [endT, if_neg hc, if_pos hc2]
                · rw [upr_ne _ _ (show (21 : Nat) ≠ 19 by decide), upr_ne _ _ (show (16 : Nat) ≠ 19 by decide), sto_o _ _ _ _ _ _ (by omega), sto_o _ _ _ _ _ _ (by omega), hF]
                  exact hn
                · intro r a q
                  have q2 := q
                  unfold NSR at q2
                  rw [upr_ne _ _ (by omega), sto_o _ _ _ _ _ _ (by omega)]
                  exact hfr r (by omega) q
            · refine lv_iconst (v := iI 1) C.1 C.2.1 dX7_tryMoves_110 (by decide) ?_
              refine lv_goto (tgt := 126) C.1 C.2.1 dX7_tryMoves_111 (by decide) ?_
              refine lv_istore (lv' := [(10, .int (iI 1)), (9, .int (iI bd)), (8, .int (iI f)), (7, .int (iI b)), (0, .ref (ad 13)), (1, .ref (ad (26 + 5 * (4 + (d1 + 1) + 1)))), (2, .long (jI key)), (4, .int (iI dn)), (5, .int (iI lo)), (6, .int (iI up))]) C.1 C.2.1 dX7_tryMoves_126 hl (by decide) rfl (fun ls hl => ?_)
              have hT9 : TI (s1) := hT1
              refine lv_aload_n C.1 C.2.1 dX7_tryMoves_128 rfl (lv_at hl 4 rfl) ?_
              refine g_X7_2 C hM (hI 13 (by decide)) wf_X7_19 dX7_tryMoves_129 ?_
              refine lv_lload_n C.1 C.2.1 dX7_tryMoves_132 rfl (lv_at hl 6 rfl) ?_
              refine lv_iload C.1 C.2.1 dX7_tryMoves_133 (lv_at hl 7 rfl) ?_
              refine lv_iload C.1 C.2.1 dX7_tryMoves_135 (lv_at hl 3 rfl) ?_
              refine lv_iload C.1 C.2.1 dX7_tryMoves_137 (lv_at hl 0 rfl) ?_
              refine lv_iload C.1 C.2.1 dX7_tryMoves_139 (lv_at hl 2 rfl) ?_
              refine x_cv (x_runV (As := [.long (jI key), .int (iI dn), .int (iI b), .int (iI 1), .int (iI f)]) (rest := []) C (by omega) cw_X7_140 (c_X8_store l D ad G ids hI s1 key dn b 1 f hT9 hkey) hM (hI 4 (by decide)) (cx_4 ad G _) rfl rfl rfl rfl (Nat.le_of_ble_eq_true rfl) hl.1 dX7_tryMoves_141) hM (fun s141 H1 lc1 hp hM => ?_)
              obtain rfl := hp
              refine lv_aload_n C.1 C.2.1 dX7_tryMoves_144 rfl (lv_at hl 4 rfl) ?_
              refine lv_iload C.1 C.2.1 dX7_tryMoves_145 (lv_at hl 2 rfl) ?_
              refine p_X7_5 C hM (hI 13 (by decide)) wf_X7_34 dX7_tryMoves_147 (fun H1 lc1 hM => ?_)
              refine lv_iload C.1 C.2.1 dX7_tryMoves_150 (lv_at hl 3 rfl) ?_
              refine x_iret C hr hM ?_ dX7_tryMoves_152
              (exfalso; omega)
          · have hfL : f ∈ MLs (σ 1) (σ 2 0) (σ 3 0) (σ 4 0) := hf.resolve_left (fun q => by omega)
            refine lv_aload_n C.1 C.2.1 dX7_tryMoves_94 rfl (lv_at hl 4 rfl) ?_
            refine lv_aload_n C.1 C.2.1 dX7_tryMoves_95 rfl (lv_at hl 5 rfl) ?_
            refine lv_iload C.1 C.2.1 dX7_tryMoves_96 (lv_at hl 7 rfl) ?_
            refine lv_iload C.1 C.2.1 dX7_tryMoves_98 (lv_at hl 2 rfl) ?_
            refine x_cv (x_runV (As := [.ref (ad (26 + 5 * (4 + (d1 + 1) + 1))), .int (iI dn), .int (iI f)]) (rest := []) C (by omega) cw_X7_136 (c_X7_noteCut l D ad G ids hI s1 (4 + (d1 + 1) + 1) (MLs (σ 1) (σ 2 0) (σ 3 0) (σ 4 0)) (σ 1) dn f (show (4 + (d1 + 1) + 1) < 11 by omega) hL1 h18 hMB hT1 (by omega) hfL) hM (hI 13 (by decide)) (cx_13 ad G _) rfl rfl rfl rfl (Nat.le_of_ble_eq_true rfl) hl.1 dX7_tryMoves_100) hM (fun s100 H1 lc1 hp hM => ?_)
            obtain rfl := hp
            refine lv_iload C.1 C.2.1 dX7_tryMoves_103 (lv_at hl 3 rfl) ?_
            refine lv_iload C.1 C.2.1 dX7_tryMoves_105 (lv_at hl 9 rfl) ?_
            refine x_icmp_lt C ⟨by omega, by omega⟩ ⟨by omega, by omega⟩ (tgt := 114) dX7_tryMoves_107 (by decide) (fun c107 => ?_) (fun c107 => ?_)
            · refine lv_iload C.1 C.2.1 dX7_tryMoves_114 (lv_at hl 3 rfl) ?_
              refine lv_iload C.1 C.2.1 dX7_tryMoves_116 (lv_at hl 8 rfl) ?_
              refine x_icmp_gt C ⟨by omega, by omega⟩ ⟨by omega, by omega⟩ (tgt := 125) dX7_tryMoves_118 (by decide) (fun c118 => ?_) (fun c118 => ?_)
              · refine lv_iconst (v := iI 0) C.1 C.2.1 dX7_tryMoves_125 (by decide) ?_
                refine lv_istore (lv' := [(10, .int (iI 0)), (9, .int (iI bd)), (8, .int (iI f)), (7, .int (iI b)), (0, .ref (ad 13)), (1, .ref (ad (26 + 5 * (4 + (d1 + 1) + 1)))), (2, .long (jI key)), (4, .int (iI dn)), (5, .int (iI lo)), (6, .int (iI up))]) C.1 C.2.1 dX7_tryMoves_126 hl (by decide) rfl (fun ls hl => ?_)
                have hT9 : TI (cutT s1 (σ 1) dn f) := hT1.cut _ _ hfb
                refine lv_aload_n C.1 C.2.1 dX7_tryMoves_128 rfl (lv_at hl 4 rfl) ?_
                refine g_X7_2 C hM (hI 13 (by decide)) wf_X7_19 dX7_tryMoves_129 ?_
                refine lv_lload_n C.1 C.2.1 dX7_tryMoves_132 rfl (lv_at hl 6 rfl) ?_
                refine lv_iload C.1 C.2.1 dX7_tryMoves_133 (lv_at hl 7 rfl) ?_
                refine lv_iload C.1 C.2.1 dX7_tryMoves_135 (lv_at hl 3 rfl) ?_
                refine lv_iload C.1 C.2.1 dX7_tryMoves_137 (lv_at hl 0 rfl) ?_
                refine lv_iload C.1 C.2.1 dX7_tryMoves_139 (lv_at hl 2 rfl) ?_
                refine x_cv (x_runV (As := [.long (jI key), .int (iI dn), .int (iI b), .int (iI 0), .int (iI f)]) (rest := []) C (by omega) cw_X7_140 (c_X8_store l D ad G ids hI (cutT s1 (σ 1) dn f) key dn b 0 f hT9 hkey) hM (hI 4 (by decide)) (cx_4 ad G _) rfl rfl rfl rfl (Nat.le_of_ble_eq_true rfl) hl.1 dX7_tryMoves_141) hM (fun s141 H1 lc1 hp hM => ?_)
                obtain rfl := hp
                refine lv_aload_n C.1 C.2.1 dX7_tryMoves_144 rfl (lv_at hl 4 rfl) ?_
                refine lv_iload C.1 C.2.1 dX7_tryMoves_145 (lv_at hl 2 rfl) ?_
                refine p_X7_5 C hM (hI 13 (by decide)) wf_X7_34 dX7_tryMoves_147 (fun H1 lc1 hM => ?_)
                refine lv_iload C.1 C.2.1 dX7_tryMoves_150 (lv_at hl 3 rfl) ?_
                refine x_iret C hr hM ?_ dX7_tryMoves_152
                (exfalso; omega)
              · refine lv_iconst (v := iI 2) C.1 C.2.1 dX7_tryMoves_121 (by decide) ?_
                refine lv_goto (tgt := 126) C.1 C.2.1 dX7_tryMoves_122 (by decide) ?_
                refine lv_istore (lv' := [(10, .int (iI 2)), (9, .int (iI bd)), (8, .int (iI f)), (7, .int (iI b)), (0, .ref (ad 13)), (1, .ref (ad (26 + 5 * (4 + (d1 + 1) + 1)))), (2, .long (jI key)), (4, .int (iI dn)), (5, .int (iI lo)), (6, .int (iI up))]) C.1 C.2.1 dX7_tryMoves_126 hl (by decide) rfl (fun ls hl => ?_)
                have hT9 : TI (cutT s1 (σ 1) dn f) := hT1.cut _ _ hfb
                refine lv_aload_n C.1 C.2.1 dX7_tryMoves_128 rfl (lv_at hl 4 rfl) ?_
                refine g_X7_2 C hM (hI 13 (by decide)) wf_X7_19 dX7_tryMoves_129 ?_
                refine lv_lload_n C.1 C.2.1 dX7_tryMoves_132 rfl (lv_at hl 6 rfl) ?_
                refine lv_iload C.1 C.2.1 dX7_tryMoves_133 (lv_at hl 7 rfl) ?_
                refine lv_iload C.1 C.2.1 dX7_tryMoves_135 (lv_at hl 3 rfl) ?_
                refine lv_iload C.1 C.2.1 dX7_tryMoves_137 (lv_at hl 0 rfl) ?_
                refine lv_iload C.1 C.2.1 dX7_tryMoves_139 (lv_at hl 2 rfl) ?_
                refine x_cv (x_runV (As := [.long (jI key), .int (iI dn), .int (iI b), .int (iI 2), .int (iI f)]) (rest := []) C (by omega) cw_X7_140 (c_X8_store l D ad G ids hI (cutT s1 (σ 1) dn f) key dn b 2 f hT9 hkey) hM (hI 4 (by decide)) (cx_4 ad G _) rfl rfl rfl rfl (Nat.le_of_ble_eq_true rfl) hl.1 dX7_tryMoves_141) hM (fun s141 H1 lc1 hp hM => ?_)
                obtain rfl := hp
                refine lv_aload_n C.1 C.2.1 dX7_tryMoves_144 rfl (lv_at hl 4 rfl) ?_
                refine lv_iload C.1 C.2.1 dX7_tryMoves_145 (lv_at hl 2 rfl) ?_
                refine p_X7_5 C hM (hI 13 (by decide)) wf_X7_34 dX7_tryMoves_147 (fun H1 lc1 hM => ?_)
                refine lv_iload C.1 C.2.1 dX7_tryMoves_150 (lv_at hl 3 rfl) ?_
                refine x_iret C hr hM ?_ dX7_tryMoves_152
                (exfalso; omega)
            · refine lv_iconst (v := iI 1) C.1 C.2.1 dX7_tryMoves_110 (by decide) ?_
              refine lv_goto (tgt := 126) C.1 C.2.1 dX7_tryMoves_111 (by decide) ?_
              refine lv_istore (lv' := [(10, .int (iI 1)), (9, .int (iI bd)), (8, .int (iI f)), (7, .int (iI b)), (0, .ref (ad 13)), (1, .ref (ad (26 + 5 * (4 + (d1 + 1) + 1)))), (2, .long (jI key)), (4, .int (iI dn)), (5, .int (iI lo)), (6, .int (iI up))]) C.1 C.2.1 dX7_tryMoves_126 hl (by decide) rfl (fun ls hl => ?_)
              have hT9 : TI (cutT s1 (σ 1) dn f) := hT1.cut _ _ hfb
              refine lv_aload_n C.1 C.2.1 dX7_tryMoves_128 rfl (lv_at hl 4 rfl) ?_
              refine g_X7_2 C hM (hI 13 (by decide)) wf_X7_19 dX7_tryMoves_129 ?_
              refine lv_lload_n C.1 C.2.1 dX7_tryMoves_132 rfl (lv_at hl 6 rfl) ?_
              refine lv_iload C.1 C.2.1 dX7_tryMoves_133 (lv_at hl 7 rfl) ?_
              refine lv_iload C.1 C.2.1 dX7_tryMoves_135 (lv_at hl 3 rfl) ?_
              refine lv_iload C.1 C.2.1 dX7_tryMoves_137 (lv_at hl 0 rfl) ?_
              refine lv_iload C.1 C.2.1 dX7_tryMoves_139 (lv_at hl 2 rfl) ?_
              refine x_cv (x_runV (As := [.long (jI key), .int (iI dn), .int (iI b), .int (iI 1), .int (iI f)]) (rest := []) C (by omega) cw_X7_140 (c_X8_store l D ad G ids hI (cutT s1 (σ 1) dn f) key dn b 1 f hT9 hkey) hM (hI 4 (by decide)) (cx_4 ad G _) rfl rfl rfl rfl (Nat.le_of_ble_eq_true rfl) hl.1 dX7_tryMoves_141) hM (fun s141 H1 lc1 hp hM => ?_)
              obtain rfl := hp
              refine lv_aload_n C.1 C.2.1 dX7_tryMoves_144 rfl (lv_at hl 4 rfl) ?_
              refine lv_iload C.1 C.2.1 dX7_tryMoves_145 (lv_at hl 2 rfl) ?_
              refine p_X7_5 C hM (hI 13 (by decide)) wf_X7_34 dX7_tryMoves_147 (fun H1 lc1 hM => ?_)
              refine lv_iload C.1 C.2.1 dX7_tryMoves_150 (lv_at hl 3 rfl) ?_
              refine x_iret C hr hM ?_ dX7_tryMoves_152
              (refine ⟨by rw [hF], ?_, ?_, ?_⟩)
              · show tv (setT (stoT (cutT s1 (σ 1) dn f) key dn b 1 f) 19 f) = _
                rw [tv_set _ _ (by omega), tv_sto, tv_cut, hF, htn]
                have hc : up ≤ b := by omega
                simp only [endT, if_pos hc]
              · rw [upr_ne _ _ (show (21 : Nat) ≠ 19 by decide), upr_ne _ _ (show (16 : Nat) ≠ 19 by decide), sto_o _ _ _ _ _ _ (by omega), cut_o _ _ _ _ (by omega), sto_o _ _ _ _ _ _ (by omega), cut_o _ _ _ _ (by omega), hF]
                exact hn
              · intro r a q
                have q2 := q
                unfold NSR at q2
                rw [upr_ne _ _ (by omega), sto_o _ _ _ _ _ _ (by omega), cut_o _ _ _ _ (by omega)]
                exact hfr r (by omega) q
        · refine lv_aload_n C.1 C.2.1 dX7_tryMoves_31 rfl (lv_at hl 5 rfl) ?_
          refine lv_aload_n C.1 C.2.1 dX7_tryMoves_32 rfl (lv_at hl 5 rfl) ?_
          refine lv_iload C.1 C.2.1 dX7_tryMoves_33 (lv_at hl 0 rfl) ?_
          have k2 := hfr 2 (by omega) (by unfold NSR; omega)
          have k3 := hfr 3 (by omega) (by unfold NSR; omega)
          have k1 := hfr 1 (by omega) (by unfold NSR; omega)
          have k4 := hfr 4 (by omega) (by unfold NSR; omega)
          have hGs : GI s1 := hG.of (fun r hr => hfr r (by omega) (by unfold NSR; omega))
          have hcs : cfg s1 = cfg σ := cfg_of (fun r hr => hfr r (by omega) (by unfold NSR; omega))
          refine x_ci (x_runV (As := [.int (iI x)]) (rest := [.ref (ad (26 + 5 * (4 + (d1 + 1) + 1)))]) C (by omega) cw_X7_122 (c_X5_inOrder l D ad G ids hI s1 (4 + (d1 + 1) + 1) (MLs (σ 1) (σ 2 0) (σ 3 0) (σ 4 0)) (σ 1) O x (by omega) hL1 h18 hO1 (by omega)) hM (hI _ (by omega)) (cx_lo ad G _ (show (4 + (d1 + 1) + 1) < 11 by omega)) rfl rfl rfl rfl (Nat.le_of_ble_eq_true rfl) hl.1 dX7_tryMoves_35) hM (fun r35 s35 H1 lc1 hp hM => ?_)
          obtain ⟨hxs35, rfl⟩ := hp
          refine x_ci (x_runV (As := [.int (iI r35)]) (rest := []) C (by omega) cw_X7_125 (c_X5_moveAt l D ad G ids hI s1 (4 + (d1 + 1) + 1) (MLs (σ 1) (σ 2 0) (σ 3 0) (σ 4 0)) (σ 1) r35 (by omega) hL1 h18 ⟨by omega, by omega⟩) hM (hI _ (by omega)) (cx_lo ad G _ (show (4 + (d1 + 1) + 1) < 11 by omega)) rfl rfl rfl rfl (Nat.le_of_ble_eq_true rfl) hl.1 dX7_tryMoves_38) hM (fun r38 s38 H1 lc1 hp hM => ?_)
          obtain ⟨rfl, rfl⟩ := hp
          rw [if_pos (show 0 ≤ r35 by omega)]
          rw [hxs35.2.2]
          refine lv_istore (lv' := [(11, .int (iI (O.getD x.toNat (-1)))), (10, .int (iI x)), (9, .int (iI bd)), (8, .int (iI f)), (7, .int (iI b)), (0, .ref (ad 13)), (1, .ref (ad (26 + 5 * (4 + (d1 + 1) + 1)))), (2, .long (jI key)), (4, .int (iI dn)), (5, .int (iI lo)), (6, .int (iI up))]) C.1 C.2.1 dX7_tryMoves_41 hl (by decide) rfl (fun ls hl => ?_)
          have hmv : MV σ (O.getD x.toNat (-1)) := by
            have h := hO1.2.2.1 _ (getD_mem (L := O) (i := x) (by omega) (by omega))
            exact h
          refine lv_aload_n C.1 C.2.1 dX7_tryMoves_43 rfl (lv_at hl 5 rfl) ?_
          refine lv_iload C.1 C.2.1 dX7_tryMoves_44 (lv_at hl 0 rfl) ?_
          refine lv_iload C.1 C.2.1 dX7_tryMoves_46 (lv_at hl 8 rfl) ?_
          refine lv_iload C.1 C.2.1 dX7_tryMoves_48 (lv_at hl 2 rfl) ?_
          refine lv_iload C.1 C.2.1 dX7_tryMoves_50 (lv_at hl 10 rfl) ?_
          refine x_ci (x_runV (As := [.int (iI (O.getD x.toNat (-1))), .int (iI dn), .int (iI bd), .int (iI up)]) (rest := []) C (by omega) cw_X7_126 (c_X7_behind l D ad G ids hI s1 d1 (O.getD x.toNat (-1)) dn bd up (by omega) (by omega) hrec (hGs) (hT1) (by unfold MV; rw [k1, k2, k3, k4]; exact hmv) (by omega) (by omega)) hM (hI 13 (by decide)) (cx_13 ad G _) rfl rfl rfl rfl (Nat.le_of_ble_eq_true rfl) hl.1 dX7_tryMoves_52) hM (fun r52 s52 H1 lc1 hp hM => ?_)
          obtain ⟨hzs52, hts52, hns52, hfs52⟩ := hp
          rw [hcs, k1, k4] at hzs52 hts52 hns52
          have hok := sb_ok hG.2.2.2.2 d1 (mvF (σ 1) (O.getD x.toNat (-1))) (1 - σ 4 0) (-up) (-bd) (tv s1) (by omega) (mvF_BC hG.2.1 _) (mvF_side hG.2.2.1) (TI_tv.mpr hT1)
          have hT5 : TI s52 := TI_tv.mp (by rw [hts52]; exact hok.1)
          refine lv_istore (lv' := [(12, .int (iI r52)), (11, .int (iI (O.getD x.toNat (-1)))), (10, .int (iI x)), (9, .int (iI bd)), (8, .int (iI f)), (7, .int (iI b)), (0, .ref (ad 13)), (1, .ref (ad (26 + 5 * (4 + (d1 + 1) + 1)))), (2, .long (jI key)), (4, .int (iI dn)), (5, .int (iI lo)), (6, .int (iI up))]) C.1 C.2.1 dX7_tryMoves_55 hl (by decide) rfl (fun ls hl => ?_)
          refine lv_iload C.1 C.2.1 dX7_tryMoves_57 (lv_at hl 0 rfl) ?_
          refine lv_iload C.1 C.2.1 dX7_tryMoves_59 (lv_at hl 5 rfl) ?_
          refine x_icmp_le C ⟨by omega, by omega⟩ ⟨by omega, by omega⟩ (tgt := 72) dX7_tryMoves_61 (by decide) (fun c61 => ?_) (fun c61 => ?_)
          · refine lv_iload C.1 C.2.1 dX7_tryMoves_72 (lv_at hl 3 rfl) ?_
            refine lv_iload C.1 C.2.1 dX7_tryMoves_74 (lv_at hl 5 rfl) ?_
            refine x_max C (by omega) hl.1 wM_X7_130 ⟨by omega, by omega⟩ ⟨by omega, by omega⟩ (Nat.le_of_ble_eq_true rfl) dX7_tryMoves_76 ?_
            refine lv_istore (lv' := [(9, .int (iI (max bd b))), (12, .int (iI r52)), (11, .int (iI (O.getD x.toNat (-1)))), (10, .int (iI x)), (8, .int (iI f)), (7, .int (iI b)), (0, .ref (ad 13)), (1, .ref (ad (26 + 5 * (4 + (d1 + 1) + 1)))), (2, .long (jI key)), (4, .int (iI dn)), (5, .int (iI lo)), (6, .int (iI up))]) C.1 C.2.1 dX7_tryMoves_79 hl (by decide) rfl (fun ls hl => ?_)
            refine x_iinc (lv1 := [(10, .int (iI (x + 1))), (9, .int (iI (max bd b))), (12, .int (iI r52)), (11, .int (iI (O.getD x.toNat (-1)))), (8, .int (iI f)), (7, .int (iI b)), (0, .ref (ad 13)), (1, .ref (ad (26 + 5 * (4 + (d1 + 1) + 1)))), (2, .long (jI key)), (4, .int (iI dn)), (5, .int (iI lo)), (6, .int (iI up))]) C dX7_tryMoves_81 hl (k := 3) rfl (by decide) rfl (fun ls hl => ?_)
            refine lv_goto (tgt := 15) C.1 C.2.1 dX7_tryMoves_84 (by decide) ?_
            exact ih15 (x + 1) b f (max bd b) (n + (sb (cfg σ) d1 (mvF (σ 1) (O.getD x.toNat (-1))) (1 - σ 4 0) (-up) (-bd) (tv s1)).2.1) s52 _ _ _ (by omega) (by omega) hf (by omega) (by unfold LM at *; rw [hfs52 _ (by omega) (by unfold NSR; omega), hfs52 (40 + 6 * (4 + (d1 + 1) + 1)) (by omega) (by unfold NSR; omega), hfs52 (40 + 6 * (4 + (d1 + 1) + 1) + 1) (by omega) (by unfold NSR; omega)]; exact hL1) (by unfold OR at *; rw [hfs52 _ (by omega) (by unfold NSR; omega), hfs52 (40 + 6 * (4 + (d1 + 1) + 1) + 2) (by omega) (by unfold NSR; omega), hfs52 (40 + 6 * (4 + (d1 + 1) + 1) + 3) (by omega) (by unfold NSR; omega)]; exact hO1) hT5 (fun r a q => (hfs52 r (by omega) q).trans (hfr r a q)) (by rw [hns52]; omega) (by rw [← hq, drop_s (L := O) (i := x) (by omega) (by omega), slp, if_pos (by omega), ← hbd, hzs52, if_neg (by omega), hts52]) (by omega) hM (lv_sub hl [0, 1, 4, 5, 6, 7, 8, 9, 10, 11] rfl)
          · refine lv_iload C.1 C.2.1 dX7_tryMoves_64 (lv_at hl 0 rfl) ?_
            refine lv_istore (lv' := [(7, .int (iI r52)), (12, .int (iI r52)), (11, .int (iI (O.getD x.toNat (-1)))), (10, .int (iI x)), (9, .int (iI bd)), (8, .int (iI f)), (0, .ref (ad 13)), (1, .ref (ad (26 + 5 * (4 + (d1 + 1) + 1)))), (2, .long (jI key)), (4, .int (iI dn)), (5, .int (iI lo)), (6, .int (iI up))]) C.1 C.2.1 dX7_tryMoves_66 hl (by decide) rfl (fun ls hl => ?_)
            refine lv_iload C.1 C.2.1 dX7_tryMoves_68 (lv_at hl 2 rfl) ?_
            refine lv_istore (lv' := [(8, .int (iI (O.getD x.toNat (-1)))), (7, .int (iI r52)), (12, .int (iI r52)), (11, .int (iI (O.getD x.toNat (-1)))), (10, .int (iI x)), (9, .int (iI bd)), (0, .ref (ad 13)), (1, .ref (ad (26 + 5 * (4 + (d1 + 1) + 1)))), (2, .long (jI key)), (4, .int (iI dn)), (5, .int (iI lo)), (6, .int (iI up))]) C.1 C.2.1 dX7_tryMoves_70 hl (by decide) rfl (fun ls hl => ?_)
            refine lv_iload C.1 C.2.1 dX7_tryMoves_72 (lv_at hl 5 rfl) ?_
            refine lv_iload C.1 C.2.1 dX7_tryMoves_74 (lv_at hl 1 rfl) ?_
            refine x_max C (by omega) hl.1 wM_X7_130 ⟨by omega, by omega⟩ ⟨by omega, by omega⟩ (Nat.le_of_ble_eq_true rfl) dX7_tryMoves_76 ?_
            refine lv_istore (lv' := [(9, .int (iI (max bd r52))), (8, .int (iI (O.getD x.toNat (-1)))), (7, .int (iI r52)), (12, .int (iI r52)), (11, .int (iI (O.getD x.toNat (-1)))), (10, .int (iI x)), (0, .ref (ad 13)), (1, .ref (ad (26 + 5 * (4 + (d1 + 1) + 1)))), (2, .long (jI key)), (4, .int (iI dn)), (5, .int (iI lo)), (6, .int (iI up))]) C.1 C.2.1 dX7_tryMoves_79 hl (by decide) rfl (fun ls hl => ?_)
            refine x_iinc (lv1 := [(10, .int (iI (x + 1))), (9, .int (iI (max bd r52))), (8, .int (iI (O.getD x.toNat (-1)))), (7, .int (iI r52)), (12, .int (iI r52)), (11, .int (iI (O.getD x.toNat (-1)))), (0, .ref (ad 13)), (1, .ref (ad (26 + 5 * (4 + (d1 + 1) + 1)))), (2, .long (jI key)), (4, .int (iI dn)), (5, .int (iI lo)), (6, .int (iI up))]) C dX7_tryMoves_81 hl (k := 5) rfl (by decide) rfl (fun ls hl => ?_)
            refine lv_goto (tgt := 15) C.1 C.2.1 dX7_tryMoves_84 (by decide) ?_
            exact ih15 (x + 1) r52 (O.getD x.toNat (-1)) (max bd r52) (n + (sb (cfg σ) d1 (mvF (σ 1) (O.getD x.toNat (-1))) (1 - σ 4 0) (-up) (-bd) (tv s1)).2.1) s52 _ _ _ (by omega) (by omega) (Or.inr hmv) (by omega) (by unfold LM at *; rw [hfs52 _ (by omega) (by unfold NSR; omega), hfs52 (40 + 6 * (4 + (d1 + 1) + 1)) (by omega) (by unfold NSR; omega), hfs52 (40 + 6 * (4 + (d1 + 1) + 1) + 1) (by omega) (by unfold NSR; omega)]; exact hL1) (by unfold OR at *; rw [hfs52 _ (by omega) (by unfold NSR; omega), hfs52 (40 + 6 * (4 + (d1 + 1) + 1) + 2) (by omega) (by unfold NSR; omega), hfs52 (40 + 6 * (4 + (d1 + 1) + 1) + 3) (by omega) (by unfold NSR; omega)]; exact hO1) hT5 (fun r a q => (hfs52 r (by omega) q).trans (hfr r a q)) (by rw [hns52]; omega) (by rw [← hq, drop_s (L := O) (i := x) (by omega) (by omega), slp, if_pos (by omega), ← hbd, hzs52, if_pos (by omega), hts52]) (by omega) hM (lv_sub hl [0, 1, 2, 3, 6, 7, 8, 9, 10, 11] rfl)
  exact L15 _ 0 (-10000) (-1) lo 1 σ _ _ _ (by omega) (by omega) (Or.inl ⟨rfl, rfl⟩) (by omega) hL hO hTI (fun r _ _ => rfl) rfl rfl (Nat.lt_succ_self _) hM (lv_sub hl [0, 1, 2, 3, 4, 5, 6, 7, 8, 9] rfl)
