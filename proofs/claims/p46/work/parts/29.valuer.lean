abbrev cwPost (d : Nat) (σ : Sg) : Int → Sg → Prop := fun z σ' => waysF (cfg σ) d (σ 1) (σ 4 0) = z ∧ ∀ r : Nat, (r < 46 ∨ 76 + 6 * d ≤ r) → σ' r = σ r
def CWc (l : Launch) (D : va_G) (ad : Nat → Nat) (G : Nat → Nat) (ids : List Nat) (d : Nat) : Prop := ∀ (σ : Sg) (dn : Int), dn = (d : Int) → GI σ → MET l yX10_countWays cX10_countWays 5 (some .int) (5 + 3 * d) [.ref (ad 10), .int (iI dn)] D ad G ids σ (QI D ad G ids (cwPost d σ))
abbrev woPost (d : Nat) (σ : Sg) (lo up : Int) : Int → Sg → Prop := fun z σ' => wb (cfg σ) d (σ 1) (σ 4 0) lo up = z ∧ ∀ r : Nat, (r < 46 ∨ 76 + 6 * d ≤ r) → r ≠ 15 → σ' r = σ r
def WOc (l : Launch) (D : va_G) (ad : Nat → Nat) (G : Nat → Nat) (ids : List Nat) (d : Nat) : Prop := ∀ (σ : Sg) (dn lo up : Int), dn = (d : Int) → GI σ → (-10000 ≤ lo ∧ lo ≤ 10000) → (-10000 ≤ up ∧ up ≤ 10000) → MET l yX10_worth cX10_worth 8 (some .int) (15 + 3 * d) [.ref (ad 10), .int (iI dn), .int (iI lo), .int (iI up)] D ad G ids σ (QI D ad G ids (woPost d σ lo up))
set_option maxRecDepth 100000 in
set_option maxHeartbeats 4000000 in
theorem c_X6_clearCount (l : Launch) (D : va_G) (ad : Nat → Nat) (G : Nat → Nat) (ids : List Nat) (hI : ∀ k, k < 81 → k ∈ ids) (σ : Sg) (i : Nat) (hi2 : i < 2) : MET l yX6_clearCount cX6_clearCount 1 none 1 [.ref (ad (11 + i))] D ad G ids σ (QV D ad G ids (fun σ' => upr σ (15 + i) (ups (σ (15 + i)) 0 0) = σ')) := by
  refine x_enter (by decide) (Nat.le_of_ble_eq_true rfl) ?_
  intro pp ee ss mm args below meth cq C hr ls hl hM
  have hl : lv_has ls 1 [(0, .ref (ad (11 + i)))] := hl
  refine lv_aload_n C.1 C.2.1 dX6_clearCount_0 rfl (lv_at hl 0 rfl) ?_
  refine lv_iconst (v := iI 0) C.1 C.2.1 dX6_clearCount_1 (by decide) ?_
  refine p_X6_3 C hM hi2 (hI _ (by omega)) wf_X6_23 dX6_clearCount_2 (fun H1 lc1 hM => ?_)
  exact x_vret C hr hM rfl dX6_clearCount_5
set_option maxRecDepth 100000 in
set_option maxHeartbeats 4000000 in
theorem c_X6_nodeCount (l : Launch) (D : va_G) (ad : Nat → Nat) (G : Nat → Nat) (ids : List Nat) (hI : ∀ k, k < 81 → k ∈ ids) (σ : Sg) (i : Nat) (hi2 : i < 2) : MET l yX6_nodeCount cX6_nodeCount 1 (some .int) 1 [.ref (ad (11 + i))] D ad G ids σ (QI D ad G ids (fun z σ' => σ (15 + i) 0 = z ∧ σ = σ')) := by
  refine x_enter (by decide) (Nat.le_of_ble_eq_true rfl) ?_
  intro pp ee ss mm args below meth cq C hr ls hl hM
  have hl : lv_has ls 1 [(0, .ref (ad (11 + i)))] := hl
  refine lv_aload_n C.1 C.2.1 dX6_nodeCount_0 rfl (lv_at hl 0 rfl) ?_
  refine g_X6_3 C hM hi2 (hI _ (by omega)) wf_X6_23 dX6_nodeCount_1 ?_
  exact x_iret C hr hM ⟨rfl, rfl⟩ dX6_nodeCount_4
set_option maxRecDepth 100000 in
set_option maxHeartbeats 4000000 in
theorem c_X10_countBehind (l : Launch) (D : va_G) (ad : Nat → Nat) (G : Nat → Nat) (ids : List Nat) (hI : ∀ k, k < 81 → k ∈ ids) (σ : Sg) (d : Nat) (v dn : Int) (htn : dn - 1 = (d : Int)) (hrec : CWc l D ad G ids d) (hG : GI σ) (hMV : MV σ v) : MET l yX10_countBehind cX10_countBehind 5 (some .int) (6 + 3 * d) [.ref (ad 10), .int (iI v), .int (iI dn)] D ad G ids σ (QI D ad G ids (fun z σ' => waysF (cfg σ) d (mvF (σ 1) v) (1 - σ 4 0) = z ∧ ∀ r : Nat, (r < 46 ∨ 76 + 6 * d ≤ r) → σ' r = σ r)) := by
  have hv := hMV.ok hG
  have hv2 := hG.mv hMV
  have hcc := hG.2.1 (v % 100)
  refine x_enter (by decide) (Nat.le_of_ble_eq_true rfl) ?_
  intro pp ee ss mm args below meth cq C hr ls hl hM
  have hl : lv_has ls 5 [(0, .ref (ad 10)), (1, .int (iI v)), (2, .int (iI dn))] := hl
  refine lv_aload_n C.1 C.2.1 dX10_countBehind_0 rfl (lv_at hl 0 rfl) ?_
  refine g_X10_0 C hM (hI 10 (by decide)) wf_X10_9 dX10_countBehind_1 ?_
  refine lv_iload_n C.1 C.2.1 dX10_countBehind_4 rfl (lv_at hl 1 rfl) ?_
  refine x_ci (x_runV (As := [.int (iI v)]) (rest := []) C (by omega) cw_X10_49 (c_X0_advance l D ad G ids hI σ v (hG).1 (hG).2.2.1 hv.1) hM (hI 1 (by decide)) (cx_1 ad G _) rfl rfl rfl rfl (Nat.le_of_ble_eq_true rfl) hl.1 dX10_countBehind_5) hM (fun r5 s5 H1 lc1 hp hM => ?_)
  obtain ⟨rfl, rfl⟩ := hp
  refine lv_istore_n (lv' := [(3, .int (iI (σ 1 (v % 100)))), (0, .ref (ad 10)), (1, .int (iI v)), (2, .int (iI dn))]) C.1 C.2.1 dX10_countBehind_8 rfl hl (by decide) rfl (fun ls hl => ?_)
  refine lv_aload_n C.1 C.2.1 dX10_countBehind_9 rfl (lv_at hl 1 rfl) ?_
  refine lv_iload_n C.1 C.2.1 dX10_countBehind_10 rfl (lv_at hl 3 rfl) ?_
  refine lv_iconst (v := iI 1) C.1 C.2.1 dX10_countBehind_11 (by decide) ?_
  refine x_isub C dX10_countBehind_12 ?_
  refine x_ci (x_runV (As := [.int (iI (dn - 1))]) (rest := []) C (by omega) cw_X10_52 (hrec (mvG σ v) (dn - 1) htn (hv2)) hM (hI 10 (by decide)) (cx_10 ad G _) rfl rfl rfl rfl (Nat.le_of_ble_eq_true rfl) hl.1 dX10_countBehind_13) hM (fun r13 s13 H1 lc1 hp hM => ?_)
  obtain ⟨hzs13, hfs13⟩ := hp
  have hu := unG_mv (σ := σ) (b := s13) hv.2.1 (hfs13 1 (by omega)) (hfs13 4 (by omega))
  have hgb : GI s13 := hv2.of (fun r hr => hfs13 r (by omega))
  have hg2 := hfs13 2 (by omega)
  have hg3 := hfs13 3 (by omega)
  rw [mvG_o σ v (by decide) (by decide)] at hg2 hg3
  refine lv_istore (lv' := [(4, .int (iI r13)), (3, .int (iI (σ 1 (v % 100)))), (0, .ref (ad 10)), (1, .int (iI v)), (2, .int (iI dn))]) C.1 C.2.1 dX10_countBehind_16 hl (by decide) rfl (fun ls hl => ?_)
  refine lv_aload_n C.1 C.2.1 dX10_countBehind_18 rfl (lv_at hl 2 rfl) ?_
  refine g_X10_0 C hM (hI 10 (by decide)) wf_X10_9 dX10_countBehind_19 ?_
  refine lv_iload_n C.1 C.2.1 dX10_countBehind_22 rfl (lv_at hl 3 rfl) ?_
  refine lv_iload_n C.1 C.2.1 dX10_countBehind_23 rfl (lv_at hl 1 rfl) ?_
  refine x_cv (x_runV (As := [.int (iI v), .int (iI (σ 1 (v % 100)))]) (rest := []) C (by omega) cw_X10_55 (c_X0_retreat l D ad G ids hI s13 v (σ 1 (v % 100)) (hgb).1 (hgb).2.2.1 (by rw [hg2, hg3]; exact hv.1)) hM (hI 1 (by decide)) (cx_1 ad G _) rfl rfl rfl rfl (Nat.le_of_ble_eq_true rfl) hl.1 dX10_countBehind_24) hM (fun s24 H1 lc1 hp hM => ?_)
  obtain rfl := hp
  refine lv_iload C.1 C.2.1 dX10_countBehind_27 (lv_at hl 0 rfl) ?_
  refine x_iret C hr hM ?_ dX10_countBehind_29
  exact ⟨by rw [← hzs13, mvG_1, mvG_4, ups_eq, mvG_cfg], fun r h1 => by
    by_cases e1 : r = 1
    · rw [e1]; exact hu.1
    by_cases e4 : r = 4
    · rw [e4]; exact hu.2.1
    rw [hu.2.2 r e1 e4, hfs13 r h1, mvG_o σ v e1 e4]⟩
set_option maxRecDepth 100000 in
set_option maxHeartbeats 4000000 in
theorem c_X10_countWays (l : Launch) (D : va_G) (ad : Nat → Nat) (G : Nat → Nat) (ids : List Nat) (hI : ∀ k, k < 81 → k ∈ ids) (σ : Sg) (d : Nat) (dn : Int) (htn : dn = (d : Int)) (hd4 : d ≤ 4) (hrec : ∀ d1, d = d1 + 1 → CWc l D ad G ids d1) (hG : GI σ) : MET l yX10_countWays cX10_countWays 5 (some .int) (5 + 3 * d) [.ref (ad 10), .int (iI dn)] D ad G ids σ (QI D ad G ids (cwPost d σ)) := by
  have h18 := MLs18 hG
  refine x_enter (by decide) (Nat.le_of_ble_eq_true rfl) ?_
  intro pp ee ss mm args below meth cq C hr ls hl hM
  have hl : lv_has ls 5 [(0, .ref (ad 10)), (1, .int (iI dn))] := hl
  refine lv_iload_n C.1 C.2.1 dX10_countWays_0 rfl (lv_at hl 1 rfl) ?_
  refine x_if_gt C ⟨by omega, by omega⟩ (tgt := 6) dX10_countWays_1 (by decide) (fun c1 => ?_) (fun c1 => ?_)
  · obtain ⟨d1, hd1⟩ : ∃ d1, d = d1 + 1 := ⟨d - 1, by omega⟩
    refine lv_aload_n C.1 C.2.1 dX10_countWays_6 rfl (lv_at hl 0 rfl) ?_
    refine g_X10_1 C hM (hI 10 (by decide)) wf_X10_15 dX10_countWays_7 ?_
    refine lv_iload_n C.1 C.2.1 dX10_countWays_10 rfl (lv_at hl 1 rfl) ?_
    refine x_cr (x_runV (As := [.int (iI dn)]) (rest := []) C (by omega) cw_X10_23 (c_X4_ofDepth l D ad G ids hI σ (4 + d) dn (by omega) (by omega)) hM (hI 24 (by decide)) (cx_24 ad G _) rfl rfl rfl rfl (Nat.le_of_ble_eq_true rfl) hl.1 dX10_countWays_11) hM (fun r11 s11 H1 lc1 hp hM => ?_)
    obtain ⟨rfl, rfl⟩ := hp
    refine lv_astore_n (lv' := [(2, .ref (ad (26 + 5 * ((4 + d) + 1)))), (0, .ref (ad 10)), (1, .int (iI dn))]) C.1 C.2.1 dX10_countWays_14 rfl hl (by decide) rfl (fun ls hl => ?_)
    refine lv_aload_n C.1 C.2.1 dX10_countWays_15 rfl (lv_at hl 1 rfl) ?_
    refine g_X10_0 C hM (hI 10 (by decide)) wf_X10_9 dX10_countWays_16 ?_
    refine lv_aload_n C.1 C.2.1 dX10_countWays_19 rfl (lv_at hl 0 rfl) ?_
    refine x_cv (x_runV (As := [.ref (ad (26 + 5 * ((4 + d) + 1)))]) (rest := []) C (by omega) cw_X10_29 (c_X0_listMoves l D ad G ids hI σ ((4 + d) + 1) (show (4 + d) + 1 < 11 by omega) (hG).1 (hG).2.1 (hG).2.2.1 (hG).2.2.2.1) hM (hI 1 (by decide)) (cx_1 ad G _) rfl rfl rfl rfl (Nat.le_of_ble_eq_true rfl) hl.1 dX10_countWays_20) hM (fun s20 H1 lc1 hp hM => ?_)
    obtain ⟨hos20, hLs20⟩ := hp
    have f2 : ∀ r, (r < 46 ∨ 76 + 6 * d ≤ r) → s20 r = σ r := fun r a => hos20 r (by omega)
    have hQ : waysF (cfg σ) d (σ 1) (σ 4 0) = (MLs (σ 1) (σ 2 0) (σ 3 0) (σ 4 0)).foldl (fun a v => a + waysF (cfg σ) d1 (mvF (σ 1) v) (1 - σ 4 0)) 0 := by subst hd1; rfl
    refine lv_iconst (v := iI 0) C.1 C.2.1 dX10_countWays_23 (by decide) ?_
    refine lv_istore_n (lv' := [(3, .int (iI 0)), (2, .ref (ad (26 + 5 * ((4 + d) + 1)))), (0, .ref (ad 10)), (1, .int (iI dn))]) C.1 C.2.1 dX10_countWays_24 rfl hl (by decide) rfl (fun ls hl => ?_)
    refine lv_iconst (v := iI 0) C.1 C.2.1 dX10_countWays_25 (by decide) ?_
    refine lv_istore (lv' := [(4, .int (iI 0)), (3, .int (iI 0)), (2, .ref (ad (26 + 5 * ((4 + d) + 1)))), (0, .ref (ad 10)), (1, .int (iI dn))]) C.1 C.2.1 dX10_countWays_26 hl (by decide) rfl (fun ls hl => ?_)
    have L28 : ∀ (fu : Nat) (x : Int) (n : Int) (s1 : Sg) (H1 : Heap) (lc1 : List Loc) (ls1 : Array Slot), (0 ≤ x ∧ x ≤ (MLs (σ 1) (σ 2 0) (σ 3 0) (σ 4 0)).length) → (LM s1 (4 + d + 1) (MLs (σ 1) (σ 2 0) (σ 3 0) (σ 4 0)) (σ 1)) → (∀ r : Nat, (r < 46 ∨ 76 + 6 * d ≤ r) → s1 r = σ r) → (((MLs (σ 1) (σ 2 0) (σ 3 0) (σ 4 0)).drop x.toNat).foldl (fun a v => a + waysF (cfg σ) d1 (mvF (σ 1) v) (1 - σ 4 0)) n = waysF (cfg σ) d (σ 1) (σ 4 0)) → (20 - x).toNat < fu → XI D ad G ids (AN ad ids ss.heap.size) ss.heap H1 lc1 s1 → lv_has ls1 5 [(4, .int (iI x)), (3, .int (iI n)), (2, .ref (ad (26 + 5 * ((4 + d) + 1)))), (0, .ref (ad 10)), (1, .int (iI dn))] → W pp l ee (rmh (5 + 3 * d)) ss mm args below meth cq H1 lc1 0 0 (MQ below (QI D ad G ids (cwPost d σ) ss.heap.size) args ss 0 0 (AN ad ids ss.heap.size)) (F0 mm 28 ls1 []) := by
      intro fu
      induction fu with
      | zero => intro x n s1 H1 lc1 ls1 x0 hL1 hfr hq hfu; exact absurd hfu (Nat.not_lt_zero _)
      | succ fu ih28 =>
        intro x n s1 H1 lc1 ls1 x0 hL1 hfr hq hfu hM hl
        refine lv_iload C.1 C.2.1 dX10_countWays_28 (lv_at hl 0 rfl) ?_
        have h18x := hL1.1
        refine lv_aload_n C.1 C.2.1 dX10_countWays_30 rfl (lv_at hl 2 rfl) ?_
        refine x_ci (x_runV (As := []) (rest := [.int (iI x)]) C (by omega) cw_X10_35 (c_X5_size l D ad G ids hI s1 ((4 + d) + 1) (MLs (σ 1) (σ 2 0) (σ 3 0) (σ 4 0)) (σ 1) (show (4 + d) + 1 < 11 by omega) hL1) hM (hI _ (by omega)) (cx_lo ad G _ (show (4 + d) + 1 < 11 by omega)) rfl rfl rfl rfl (Nat.le_of_ble_eq_true rfl) hl.1 dX10_countWays_31) hM (fun r31 s31 H1 lc1 hp hM => ?_)
        obtain ⟨rfl, rfl⟩ := hp
        refine x_icmp_ge C ⟨by omega, by omega⟩ ⟨by omega, by omega⟩ (tgt := 57) dX10_countWays_34 (by decide) (fun c34 => ?_) (fun c34 => ?_)
        · refine lv_iload_n C.1 C.2.1 dX10_countWays_57 rfl (lv_at hl 1 rfl) ?_
          exact x_iret C hr hM ⟨by rw [← hq, drop_e (L := MLs (σ 1) (σ 2 0) (σ 3 0) (σ 4 0)) (by omega) (by omega)]; rfl, hfr⟩ dX10_countWays_58
        · have k2 := hfr 2 (by omega)
          have k3 := hfr 3 (by omega)
          have k1 := hfr 1 (by omega)
          have k4 := hfr 4 (by omega)
          have hGs : GI s1 := hG.of (fun r hr => hfr r (by omega))
          have hcs : cfg s1 = cfg σ := cfg_of (fun r hr => hfr r (by omega))
          have hmv : MV σ ((MLs (σ 1) (σ 2 0) (σ 3 0) (σ 4 0)).getD x.toNat (-1)) := getD_mem (by omega) (by omega)
          refine lv_iload_n C.1 C.2.1 dX10_countWays_37 rfl (lv_at hl 1 rfl) ?_
          refine lv_aload_n C.1 C.2.1 dX10_countWays_38 rfl (lv_at hl 3 rfl) ?_
          refine lv_aload_n C.1 C.2.1 dX10_countWays_39 rfl (lv_at hl 2 rfl) ?_
          refine lv_iload C.1 C.2.1 dX10_countWays_40 (lv_at hl 0 rfl) ?_
          refine x_ci (x_runV (As := [.int (iI x)]) (rest := [.ref (ad 10), .int (iI n)]) C (by omega) cw_X10_41 (c_X5_moveAt l D ad G ids hI s1 ((4 + d) + 1) (MLs (σ 1) (σ 2 0) (σ 3 0) (σ 4 0)) (σ 1) x (show (4 + d) + 1 < 11 by omega) hL1 h18 ⟨by omega, by omega⟩) hM (hI _ (by omega)) (cx_lo ad G _ (show (4 + d) + 1 < 11 by omega)) rfl rfl rfl rfl (Nat.le_of_ble_eq_true rfl) hl.1 dX10_countWays_42) hM (fun r42 s42 H1 lc1 hp hM => ?_)
          obtain ⟨rfl, rfl⟩ := hp
          rw [if_pos (show 0 ≤ x by omega)]
          refine lv_iload_n C.1 C.2.1 dX10_countWays_45 rfl (lv_at hl 4 rfl) ?_
          refine x_ci (x_runV (As := [.int (iI ((MLs (σ 1) (σ 2 0) (σ 3 0) (σ 4 0)).getD (x).toNat (-1))), .int (iI dn)]) (rest := [.int (iI n)]) C (by omega) cw_X10_45 (c_X10_countBehind l D ad G ids hI s1 d1 ((MLs (σ 1) (σ 2 0) (σ 3 0) (σ 4 0)).getD (x).toNat (-1)) dn (by omega) (hrec d1 hd1) (hGs) (by unfold MV; rw [k1, k2, k3, k4]; exact hmv)) hM (hI 10 (by decide)) (cx_10 ad G _) rfl rfl rfl rfl (Nat.le_of_ble_eq_true rfl) hl.1 dX10_countWays_46) hM (fun r46 s46 H1 lc1 hp hM => ?_)
          obtain ⟨hzs46, hfs46⟩ := hp
          rw [hcs, k1, k4] at hzs46
          refine x_iadd C dX10_countWays_49 ?_
          refine lv_istore_n (lv' := [(3, .int (iI (n + r46))), (4, .int (iI x)), (2, .ref (ad (26 + 5 * ((4 + d) + 1)))), (0, .ref (ad 10)), (1, .int (iI dn))]) C.1 C.2.1 dX10_countWays_50 rfl hl (by decide) rfl (fun ls hl => ?_)
          refine x_iinc (lv1 := [(4, .int (iI (x + 1))), (3, .int (iI (n + r46))), (2, .ref (ad (26 + 5 * ((4 + d) + 1)))), (0, .ref (ad 10)), (1, .int (iI dn))]) C dX10_countWays_51 hl (k := 1) rfl (by decide) rfl (fun ls hl => ?_)
          refine lv_goto (tgt := 28) C.1 C.2.1 dX10_countWays_54 (by decide) ?_
          exact ih28 (x + 1) (n + r46) s46 _ _ _ (by omega) (by unfold LM at *; rw [hfs46 _ (by omega), hfs46 (40 + 6 * (4 + d + 1)) (by omega), hfs46 (40 + 6 * (4 + d + 1) + 1) (by omega)]; exact hL1) (fun r a => (hfs46 r (by omega)).trans (hfr r a)) (by rw [← hq, drop_s (L := MLs (σ 1) (σ 2 0) (σ 3 0) (σ 4 0)) (i := x) (by omega) (by omega), List.foldl_cons, ← hzs46]) (by omega) hM (lv_sub hl [0, 1, 2, 3, 4] rfl)
    exact L28 _ 0 0 s20 _ _ _ (by omega) hLs20 f2 hQ.symm (Nat.lt_succ_self _) hM (lv_sub hl [0, 1, 2, 3, 4] rfl)
  · refine lv_iconst (v := iI 1) C.1 C.2.1 dX10_countWays_4 (by decide) ?_
    exact x_iret C hr hM ⟨by rw [show d = 0 by omega]; rfl, fun r h => rfl⟩ dX10_countWays_5
theorem countWays_all (l : Launch) (D : va_G) (ad : Nat → Nat) (G : Nat → Nat) (ids : List Nat) (hI : ∀ k, k < 81 → k ∈ ids) : ∀ d : Nat, d ≤ 4 → CWc l D ad G ids d := by
  intro d
  induction d with
  | zero => intro h4 σ dn htn hG; exact c_X10_countWays l D ad G ids hI σ 0 dn htn h4 (fun d1 h => by omega) hG
  | succ d ih => intro h4 σ dn htn hG; exact c_X10_countWays l D ad G ids hI σ (d + 1) dn htn h4 (fun d1 h => by
      have e : d1 = d := by omega
      subst e; exact ih (by omega)) hG
set_option maxRecDepth 100000 in
set_option maxHeartbeats 4000000 in
theorem c_X10_worthBehind (l : Launch) (D : va_G) (ad : Nat → Nat) (G : Nat → Nat) (ids : List Nat) (hI : ∀ k, k < 81 → k ∈ ids) (σ : Sg) (d : Nat) (v dn lo up : Int) (htn : dn - 1 = (d : Int)) (hd3 : d ≤ 4) (hrec : WOc l D ad G ids d) (hG : GI σ) (hMV : MV σ v) (hlo : -10000 ≤ lo ∧ lo ≤ 10000) (hup : -10000 ≤ up ∧ up ≤ 10000) : MET l yX10_worthBehind cX10_worthBehind 7 (some .int) (16 + 3 * d) [.ref (ad 10), .int (iI v), .int (iI dn), .int (iI lo), .int (iI up)] D ad G ids σ (QI D ad G ids (fun z σ' => -(wb (cfg σ) d (mvF (σ 1) v) (1 - σ 4 0) (-up) (-lo)) = z ∧ ∀ r : Nat, (r < 46 ∨ 76 + 6 * d ≤ r) → r ≠ 15 → σ' r = σ r)) := by
  have hv := hMV.ok hG
  have hv2 := hG.mv hMV
  have hcc := hG.2.1 (v % 100)
  refine x_enter (by decide) (Nat.le_of_ble_eq_true rfl) ?_
  intro pp ee ss mm args below meth cq C hr ls hl hM
  have hl : lv_has ls 7 [(0, .ref (ad 10)), (1, .int (iI v)), (2, .int (iI dn)), (3, .int (iI lo)), (4, .int (iI up))] := hl
  refine lv_aload_n C.1 C.2.1 dX10_worthBehind_0 rfl (lv_at hl 0 rfl) ?_
  refine g_X10_0 C hM (hI 10 (by decide)) wf_X10_9 dX10_worthBehind_1 ?_
  refine lv_iload_n C.1 C.2.1 dX10_worthBehind_4 rfl (lv_at hl 1 rfl) ?_
  refine x_ci (x_runV (As := [.int (iI v)]) (rest := []) C (by omega) cw_X10_49 (c_X0_advance l D ad G ids hI σ v (hG).1 (hG).2.2.1 hv.1) hM (hI 1 (by decide)) (cx_1 ad G _) rfl rfl rfl rfl (Nat.le_of_ble_eq_true rfl) hl.1 dX10_worthBehind_5) hM (fun r5 s5 H1 lc1 hp hM => ?_)
  obtain ⟨rfl, rfl⟩ := hp
  refine lv_istore (lv' := [(5, .int (iI (σ 1 (v % 100)))), (0, .ref (ad 10)), (1, .int (iI v)), (2, .int (iI dn)), (3, .int (iI lo)), (4, .int (iI up))]) C.1 C.2.1 dX10_worthBehind_8 hl (by decide) rfl (fun ls hl => ?_)
  refine lv_aload_n C.1 C.2.1 dX10_worthBehind_10 rfl (lv_at hl 1 rfl) ?_
  refine lv_iload_n C.1 C.2.1 dX10_worthBehind_11 rfl (lv_at hl 3 rfl) ?_
  refine lv_iconst (v := iI 1) C.1 C.2.1 dX10_worthBehind_12 (by decide) ?_
  refine x_isub C dX10_worthBehind_13 ?_
  refine lv_iload C.1 C.2.1 dX10_worthBehind_14 (lv_at hl 5 rfl) ?_
  refine x_ineg C dX10_worthBehind_16 ?_
  refine lv_iload_n C.1 C.2.1 dX10_worthBehind_17 rfl (lv_at hl 4 rfl) ?_
  refine x_ineg C dX10_worthBehind_18 ?_
  refine x_ci (x_runV (As := [.int (iI (dn - 1)), .int (iI (-up)), .int (iI (-lo))]) (rest := []) C (by omega) cw_X10_74 (hrec (mvG σ v) (dn - 1) (-up) (-lo) htn (hv2) (by omega) (by omega)) hM (hI 10 (by decide)) (cx_10 ad G _) rfl rfl rfl rfl (Nat.le_of_ble_eq_true rfl) hl.1 dX10_worthBehind_19) hM (fun r19 s19 H1 lc1 hp hM => ?_)
  obtain ⟨hzs19, hfs19⟩ := hp
  have hu := unG_mv (σ := σ) (b := s19) hv.2.1 (hfs19 1 (by omega) (by omega)) (hfs19 4 (by omega) (by omega))
  have hgb : GI s19 := hv2.of (fun r hr => hfs19 r (by omega) (by omega))
  have hg2 := hfs19 2 (by omega) (by omega)
  have hg3 := hfs19 3 (by omega) (by omega)
  rw [mvG_o σ v (by decide) (by decide)] at hg2 hg3
  refine x_ineg C dX10_worthBehind_22 ?_
  refine lv_istore (lv' := [(6, .int (iI (-r19))), (5, .int (iI (σ 1 (v % 100)))), (0, .ref (ad 10)), (1, .int (iI v)), (2, .int (iI dn)), (3, .int (iI lo)), (4, .int (iI up))]) C.1 C.2.1 dX10_worthBehind_23 hl (by decide) rfl (fun ls hl => ?_)
  refine lv_aload_n C.1 C.2.1 dX10_worthBehind_25 rfl (lv_at hl 2 rfl) ?_
  refine g_X10_0 C hM (hI 10 (by decide)) wf_X10_9 dX10_worthBehind_26 ?_
  refine lv_iload_n C.1 C.2.1 dX10_worthBehind_29 rfl (lv_at hl 3 rfl) ?_
  refine lv_iload C.1 C.2.1 dX10_worthBehind_30 (lv_at hl 1 rfl) ?_
  refine x_cv (x_runV (As := [.int (iI v), .int (iI (σ 1 (v % 100)))]) (rest := []) C (by omega) cw_X10_55 (c_X0_retreat l D ad G ids hI s19 v (σ 1 (v % 100)) (hgb).1 (hgb).2.2.1 (by rw [hg2, hg3]; exact hv.1)) hM (hI 1 (by decide)) (cx_1 ad G _) rfl rfl rfl rfl (Nat.le_of_ble_eq_true rfl) hl.1 dX10_worthBehind_32) hM (fun s32 H1 lc1 hp hM => ?_)
  obtain rfl := hp
  refine lv_iload C.1 C.2.1 dX10_worthBehind_35 (lv_at hl 0 rfl) ?_
  refine x_iret C hr hM ?_ dX10_worthBehind_37
  exact ⟨by rw [← hzs19, mvG_1, mvG_4, ups_eq, mvG_cfg], fun r h1 h2 => by
    by_cases e1 : r = 1
    · rw [e1]; exact hu.1
    by_cases e4 : r = 4
    · rw [e4]; exact hu.2.1
    rw [hu.2.2 r e1 e4, hfs19 r h1 h2, mvG_o σ v e1 e4]⟩
set_option maxRecDepth 100000 in
set_option maxHeartbeats 4000000 in
theorem c_X10_worth (l : Launch) (D : va_G) (ad : Nat → Nat) (G : Nat → Nat) (ids : List Nat) (hI : ∀ k, k < 81 → k ∈ ids) (σ : Sg) (d : Nat) (dn lo up : Int) (htn : dn = (d : Int)) (hd4 : d ≤ 4) (hrec : ∀ d1, d = d1 + 1 → WOc l D ad G ids d1) (hG : GI σ) (hlo : -10000 ≤ lo ∧ lo ≤ 10000) (hup : -10000 ≤ up ∧ up ≤ 10000) : MET l yX10_worth cX10_worth 8 (some .int) (15 + 3 * d) [.ref (ad 10), .int (iI dn), .int (iI lo), .int (iI up)] D ad G ids σ (QI D ad G ids (woPost d σ lo up)) := by
  have h18 := MLs18 hG
  refine x_enter (by decide) (Nat.le_of_ble_eq_true rfl) ?_
  intro pp ee ss mm args below meth cq C hr ls hl hM
  have hl : lv_has ls 8 [(0, .ref (ad 10)), (1, .int (iI dn)), (2, .int (iI lo)), (3, .int (iI up))] := hl
  refine lv_iload_n C.1 C.2.1 dX10_worth_0 rfl (lv_at hl 1 rfl) ?_
  refine x_if_gt C ⟨by omega, by omega⟩ (tgt := 15) dX10_worth_1 (by decide) (fun c1 => ?_) (fun c1 => ?_)
  · obtain ⟨d1, hd1⟩ : ∃ d1, d = d1 + 1 := ⟨d - 1, by omega⟩
    refine lv_aload_n C.1 C.2.1 dX10_worth_15 rfl (lv_at hl 0 rfl) ?_
    refine g_X10_1 C hM (hI 10 (by decide)) wf_X10_15 dX10_worth_16 ?_
    refine lv_iload_n C.1 C.2.1 dX10_worth_19 rfl (lv_at hl 1 rfl) ?_
    refine x_cr (x_runV (As := [.int (iI dn)]) (rest := []) C (by omega) cw_X10_23 (c_X4_ofDepth l D ad G ids hI σ (4 + d) dn (by omega) (by omega)) hM (hI 24 (by decide)) (cx_24 ad G _) rfl rfl rfl rfl (Nat.le_of_ble_eq_true rfl) hl.1 dX10_worth_20) hM (fun r20 s20 H1 lc1 hp hM => ?_)
    obtain ⟨rfl, rfl⟩ := hp
    refine lv_astore (lv' := [(4, .ref (ad (26 + 5 * ((4 + d) + 1)))), (0, .ref (ad 10)), (1, .int (iI dn)), (2, .int (iI lo)), (3, .int (iI up))]) C.1 C.2.1 dX10_worth_23 hl (by decide) rfl (fun ls hl => ?_)
    refine lv_aload_n C.1 C.2.1 dX10_worth_25 rfl (lv_at hl 1 rfl) ?_
    refine g_X10_0 C hM (hI 10 (by decide)) wf_X10_9 dX10_worth_26 ?_
    refine lv_aload C.1 C.2.1 dX10_worth_29 (lv_at hl 0 rfl) ?_
    refine x_cv (x_runV (As := [.ref (ad (26 + 5 * ((4 + d) + 1)))]) (rest := []) C (by omega) cw_X10_29 (c_X0_listMoves l D ad G ids hI σ ((4 + d) + 1) (show (4 + d) + 1 < 11 by omega) (hG).1 (hG).2.1 (hG).2.2.1 (hG).2.2.2.1) hM (hI 1 (by decide)) (cx_1 ad G _) rfl rfl rfl rfl (Nat.le_of_ble_eq_true rfl) hl.1 dX10_worth_31) hM (fun s31 H1 lc1 hp hM => ?_)
    obtain ⟨hos31, hLs31⟩ := hp
    have f2 : ∀ r, (r < 46 ∨ 76 + 6 * d ≤ r) → r ≠ 15 → s31 r = σ r := fun r a _ => hos31 r (by omega)
    refine lv_aload C.1 C.2.1 dX10_worth_34 (lv_at hl 0 rfl) ?_
    refine x_ci (x_runV (As := []) (rest := []) C (by omega) cw_X10_35 (c_X5_size l D ad G ids hI s31 ((4 + d) + 1) (MLs (σ 1) (σ 2 0) (σ 3 0) (σ 4 0)) (σ 1) (show (4 + d) + 1 < 11 by omega) hLs31) hM (hI _ (by omega)) (cx_lo ad G _ (show (4 + d) + 1 < 11 by omega)) rfl rfl rfl rfl (Nat.le_of_ble_eq_true rfl) hl.1 dX10_worth_36) hM (fun r36 s36 H1 lc1 hp hM => ?_)
    obtain ⟨rfl, rfl⟩ := hp
    refine x_if_ne C ⟨by omega, by omega⟩ (tgt := 48) dX10_worth_39 (by decide) (fun c39 => ?_) (fun c39 => ?_)
    · have hQ : wb (cfg σ) d (σ 1) (σ 4 0) lo up = wlp (wb (cfg σ) d1) (σ 1) (σ 4 0) lo up (MLs (σ 1) (σ 2 0) (σ 3 0) (σ 4 0)) (-10000) := by
        subst hd1
        rw [wb, if_neg (fun q => by
          have q : MLs (σ 1) (σ 2 0) (σ 3 0) (σ 4 0) = [] := q
          rw [q] at c39; exact c39 rfl)]
        rfl
      refine lv_sipush (v := iI (-10000)) C.1 C.2.1 dX10_worth_48 (by decide) ?_
      refine lv_istore (lv' := [(5, .int (iI (-10000))), (4, .ref (ad (26 + 5 * ((4 + d) + 1)))), (0, .ref (ad 10)), (1, .int (iI dn)), (2, .int (iI lo)), (3, .int (iI up))]) C.1 C.2.1 dX10_worth_51 hl (by decide) rfl (fun ls hl => ?_)
      refine lv_iload_n C.1 C.2.1 dX10_worth_53 rfl (lv_at hl 4 rfl) ?_
      refine lv_istore (lv' := [(6, .int (iI lo)), (5, .int (iI (-10000))), (4, .ref (ad (26 + 5 * ((4 + d) + 1)))), (0, .ref (ad 10)), (1, .int (iI dn)), (2, .int (iI lo)), (3, .int (iI up))]) C.1 C.2.1 dX10_worth_54 hl (by decide) rfl (fun ls hl => ?_)
      refine lv_iconst (v := iI 0) C.1 C.2.1 dX10_worth_56 (by decide) ?_
      refine lv_istore (lv' := [(7, .int (iI 0)), (6, .int (iI lo)), (5, .int (iI (-10000))), (4, .ref (ad (26 + 5 * ((4 + d) + 1)))), (0, .ref (ad 10)), (1, .int (iI dn)), (2, .int (iI lo)), (3, .int (iI up))]) C.1 C.2.1 dX10_worth_57 hl (by decide) rfl (fun ls hl => ?_)
      have L59 : ∀ (fu : Nat) (x : Int) (b : Int) (bd : Int) (s1 : Sg) (H1 : Heap) (lc1 : List Loc) (ls1 : Array Slot), (0 ≤ x ∧ x ≤ (MLs (σ 1) (σ 2 0) (σ 3 0) (σ 4 0)).length) → (-10000 ≤ b ∧ b ≤ 10000) → (bd = max lo b) → (LM s1 (4 + d + 1) (MLs (σ 1) (σ 2 0) (σ 3 0) (σ 4 0)) (σ 1)) → (∀ r : Nat, (r < 46 ∨ 76 + 6 * d ≤ r) → r ≠ 15 → s1 r = σ r) → (wlp (wb (cfg σ) d1) (σ 1) (σ 4 0) lo up ((MLs (σ 1) (σ 2 0) (σ 3 0) (σ 4 0)).drop x.toNat) b = wb (cfg σ) d (σ 1) (σ 4 0) lo up) → (20 - x).toNat < fu → XI D ad G ids (AN ad ids ss.heap.size) ss.heap H1 lc1 s1 → lv_has ls1 8 [(7, .int (iI x)), (6, .int (iI bd)), (5, .int (iI b)), (4, .ref (ad (26 + 5 * ((4 + d) + 1)))), (0, .ref (ad 10)), (1, .int (iI dn)), (2, .int (iI lo)), (3, .int (iI up))] → W pp l ee (rmh (15 + 3 * d)) ss mm args below meth cq H1 lc1 0 0 (MQ below (QI D ad G ids (woPost d σ lo up) ss.heap.size) args ss 0 0 (AN ad ids ss.heap.size)) (F0 mm 59 ls1 []) := by
        intro fu
        induction fu with
        | zero => intro x b bd s1 H1 lc1 ls1 x0 hb hbd hL1 hfr hq hfu; exact absurd hfu (Nat.not_lt_zero _)
        | succ fu ih59 =>
          intro x b bd s1 H1 lc1 ls1 x0 hb hbd hL1 hfr hq hfu hM hl
          refine lv_iload C.1 C.2.1 dX10_worth_59 (lv_at hl 0 rfl) ?_
          have h18x := hL1.1
          refine lv_aload C.1 C.2.1 dX10_worth_61 (lv_at hl 3 rfl) ?_
          refine x_ci (x_runV (As := []) (rest := [.int (iI x)]) C (by omega) cw_X10_35 (c_X5_size l D ad G ids hI s1 ((4 + d) + 1) (MLs (σ 1) (σ 2 0) (σ 3 0) (σ 4 0)) (σ 1) (show (4 + d) + 1 < 11 by omega) hL1) hM (hI _ (by omega)) (cx_lo ad G _ (show (4 + d) + 1 < 11 by omega)) rfl rfl rfl rfl (Nat.le_of_ble_eq_true rfl) hl.1 dX10_worth_63) hM (fun r63 s63 H1 lc1 hp hM => ?_)
          obtain ⟨rfl, rfl⟩ := hp
          refine x_icmp_ge C ⟨by omega, by omega⟩ ⟨by omega, by omega⟩ (tgt := 112) dX10_worth_66 (by decide) (fun c66 => ?_) (fun c66 => ?_)
          · refine lv_iload C.1 C.2.1 dX10_worth_112 (lv_at hl 2 rfl) ?_
            refine x_iret C hr hM ?_ dX10_worth_114
            exact ⟨by
              rw [← hq]
              by_cases e : x < (MLs (σ 1) (σ 2 0) (σ 3 0) (σ 4 0)).length
              · rw [drop_s (L := MLs (σ 1) (σ 2 0) (σ 3 0) (σ 4 0)) (by omega) e, wlp, if_neg (by omega)]
              · rw [drop_e (L := MLs (σ 1) (σ 2 0) (σ 3 0) (σ 4 0)) (by omega) e, wlp], hfr⟩
          · refine lv_iload C.1 C.2.1 dX10_worth_69 (lv_at hl 2 rfl) ?_
            refine lv_iload_n C.1 C.2.1 dX10_worth_71 rfl (lv_at hl 7 rfl) ?_
            refine x_icmp_ge C ⟨by omega, by omega⟩ ⟨by omega, by omega⟩ (tgt := 112) dX10_worth_72 (by decide) (fun c72 => ?_) (fun c72 => ?_)
            · refine lv_iload C.1 C.2.1 dX10_worth_112 (lv_at hl 2 rfl) ?_
              refine x_iret C hr hM ?_ dX10_worth_114
              exact ⟨by
                rw [← hq]
                by_cases e : x < (MLs (σ 1) (σ 2 0) (σ 3 0) (σ 4 0)).length
                · rw [drop_s (L := MLs (σ 1) (σ 2 0) (σ 3 0) (σ 4 0)) (by omega) e, wlp, if_neg (by omega)]
                · rw [drop_e (L := MLs (σ 1) (σ 2 0) (σ 3 0) (σ 4 0)) (by omega) e, wlp], hfr⟩
            · have k2 := hfr 2 (by omega) (by omega)
              have k3 := hfr 3 (by omega) (by omega)
              have k1 := hfr 1 (by omega) (by omega)
              have k4 := hfr 4 (by omega) (by omega)
              have hGs : GI s1 := hG.of (fun r hr => hfr r (by omega) (by omega))
              have hcs : cfg s1 = cfg σ := cfg_of (fun r hr => hfr r (by omega) (by omega))
              have hmv : MV σ ((MLs (σ 1) (σ 2 0) (σ 3 0) (σ 4 0)).getD x.toNat (-1)) := getD_mem (by omega) (by omega)
              refine lv_iload C.1 C.2.1 dX10_worth_75 (lv_at hl 2 rfl) ?_
              refine lv_aload_n C.1 C.2.1 dX10_worth_77 rfl (lv_at hl 4 rfl) ?_
              refine lv_aload C.1 C.2.1 dX10_worth_78 (lv_at hl 3 rfl) ?_
              refine lv_iload C.1 C.2.1 dX10_worth_80 (lv_at hl 0 rfl) ?_
              refine x_ci (x_runV (As := [.int (iI x)]) (rest := [.ref (ad 10), .int (iI b)]) C (by omega) cw_X10_41 (c_X5_moveAt l D ad G ids hI s1 ((4 + d) + 1) (MLs (σ 1) (σ 2 0) (σ 3 0) (σ 4 0)) (σ 1) x (show (4 + d) + 1 < 11 by omega) hL1 h18 ⟨by omega, by omega⟩) hM (hI _ (by omega)) (cx_lo ad G _ (show (4 + d) + 1 < 11 by omega)) rfl rfl rfl rfl (Nat.le_of_ble_eq_true rfl) hl.1 dX10_worth_82) hM (fun r82 s82 H1 lc1 hp hM => ?_)
              obtain ⟨rfl, rfl⟩ := hp
              rw [if_pos (show 0 ≤ x by omega)]
              refine lv_iload_n C.1 C.2.1 dX10_worth_85 rfl (lv_at hl 5 rfl) ?_
              refine lv_iload C.1 C.2.1 dX10_worth_86 (lv_at hl 1 rfl) ?_
              refine lv_iload_n C.1 C.2.1 dX10_worth_88 rfl (lv_at hl 7 rfl) ?_
              refine x_ci (x_runV (As := [.int (iI ((MLs (σ 1) (σ 2 0) (σ 3 0) (σ 4 0)).getD (x).toNat (-1))), .int (iI dn), .int (iI bd), .int (iI up)]) (rest := [.int (iI b)]) C (by omega) cw_X10_65 (c_X10_worthBehind l D ad G ids hI s1 d1 ((MLs (σ 1) (σ 2 0) (σ 3 0) (σ 4 0)).getD (x).toNat (-1)) dn bd up (by omega) (by omega) (hrec d1 hd1) (hGs) (by unfold MV; rw [k1, k2, k3, k4]; exact hmv) (by omega) (by omega)) hM (hI 10 (by decide)) (cx_10 ad G _) rfl rfl rfl rfl (Nat.le_of_ble_eq_true rfl) hl.1 dX10_worth_89) hM (fun r89 s89 H1 lc1 hp hM => ?_)
              obtain ⟨hzs89, hfs89⟩ := hp
              rw [hcs, k1, k4] at hzs89
              have hqb := wb_bd hG.2.2.2.2 d1 (by omega) (mvF (σ 1) ((MLs (σ 1) (σ 2 0) (σ 3 0) (σ 4 0)).getD x.toNat (-1))) (1 - σ 4 0) (-up) (-bd)
              refine x_max C (by omega) hl.1 wM_X10_69 ⟨by omega, by omega⟩ ⟨by omega, by omega⟩ (Nat.le_of_ble_eq_true rfl) dX10_worth_92 ?_
              refine lv_istore (lv' := [(5, .int (iI (max b r89))), (7, .int (iI x)), (6, .int (iI bd)), (4, .ref (ad (26 + 5 * ((4 + d) + 1)))), (0, .ref (ad 10)), (1, .int (iI dn)), (2, .int (iI lo)), (3, .int (iI up))]) C.1 C.2.1 dX10_worth_95 hl (by decide) rfl (fun ls hl => ?_)
              refine lv_iload C.1 C.2.1 dX10_worth_97 (lv_at hl 2 rfl) ?_
              refine lv_iload C.1 C.2.1 dX10_worth_99 (lv_at hl 0 rfl) ?_
              refine x_max C (by omega) hl.1 wM_X10_69 ⟨by omega, by omega⟩ ⟨by omega, by omega⟩ (Nat.le_of_ble_eq_true rfl) dX10_worth_101 ?_
              refine lv_istore (lv' := [(6, .int (iI (max bd (max b r89)))), (5, .int (iI (max b r89))), (7, .int (iI x)), (4, .ref (ad (26 + 5 * ((4 + d) + 1)))), (0, .ref (ad 10)), (1, .int (iI dn)), (2, .int (iI lo)), (3, .int (iI up))]) C.1 C.2.1 dX10_worth_104 hl (by decide) rfl (fun ls hl => ?_)
              refine x_iinc (lv1 := [(7, .int (iI (x + 1))), (6, .int (iI (max bd (max b r89)))), (5, .int (iI (max b r89))), (4, .ref (ad (26 + 5 * ((4 + d) + 1)))), (0, .ref (ad 10)), (1, .int (iI dn)), (2, .int (iI lo)), (3, .int (iI up))]) C dX10_worth_106 hl (k := 2) rfl (by decide) rfl (fun ls hl => ?_)
              refine lv_goto (tgt := 59) C.1 C.2.1 dX10_worth_109 (by decide) ?_
              exact ih59 (x + 1) (max b r89) (max bd (max b r89)) s89 _ _ _ (by omega) (by omega) (by omega) (by unfold LM at *; rw [hfs89 _ (by omega) (by omega), hfs89 (40 + 6 * (4 + d + 1)) (by omega) (by omega), hfs89 (40 + 6 * (4 + d + 1) + 1) (by omega) (by omega)]; exact hL1) (fun r a q => (hfs89 r (by omega) q).trans (hfr r a q)) (by rw [← hq, drop_s (L := MLs (σ 1) (σ 2 0) (σ 3 0) (σ 4 0)) (i := x) (by omega) (by omega), wlp, if_pos (by omega), ← hbd, ← hzs89]) (by omega) hM (lv_sub hl [0, 1, 2, 3, 4, 5, 6, 7] rfl)
      exact L59 _ 0 (-10000) lo s31 _ _ _ (by omega) (by omega) (by omega) hLs31 f2 hQ.symm (Nat.lt_succ_self _) hM (lv_sub hl [0, 1, 2, 3, 4, 5, 6, 7] rfl)
    · have hne : MLs (σ 1) (σ 2 0) (σ 3 0) (σ 4 0) = [] := List.eq_nil_of_length_eq_zero (by omega)
      refine lv_sipush (v := iI (-1000)) C.1 C.2.1 dX10_worth_42 (by decide) ?_
      refine lv_iload_n C.1 C.2.1 dX10_worth_45 rfl (lv_at hl 2 rfl) ?_
      refine x_isub C dX10_worth_46 ?_
      refine x_iret C hr hM ?_ dX10_worth_47
      exact ⟨by
        subst hd1
        rw [wb, if_pos (show MLs (σ 1) (cfg σ 2) (cfg σ 3) (σ 4 0) = [] from hne), htn]
        omega, f2⟩
  · refine lv_aload_n C.1 C.2.1 dX10_worth_4 rfl (lv_at hl 0 rfl) ?_
    refine g_X10_2 C hM (hI 10 (by decide)) wf_X10_19 dX10_worth_5 ?_
    refine lv_iconst (v := iI 4) C.1 C.2.1 dX10_worth_8 (by decide) ?_
    refine lv_iload_n C.1 C.2.1 dX10_worth_9 rfl (lv_at hl 2 rfl) ?_
    refine lv_iload_n C.1 C.2.1 dX10_worth_10 rfl (lv_at hl 3 rfl) ?_
    refine x_ci (x_runN (As := [.int (iI 4), .int (iI lo), .int (iI up)]) (rest := []) C (by omega) cw_X10_59 (lookOn_all l D ad G ids hI (i := 0) (by decide) 4 (by decide) σ 4 lo up rfl hG hlo hup) hM (hI _ (by omega)) (cx_q ad G _ (by decide)) rfl rfl rfl rfl (Nat.le_of_ble_eq_true rfl) hl.1 dX10_worth_11) hM (fun r11 s11 H1 lc1 hp hM => ?_)
    obtain ⟨hzs11, hns11, hfs11⟩ := hp
    exact x_iret C hr hM ⟨by rw [show d = 0 by omega]; exact hzs11, fun r h q => hfs11 r (by omega) q⟩ dX10_worth_14
theorem worth_all (l : Launch) (D : va_G) (ad : Nat → Nat) (G : Nat → Nat) (ids : List Nat) (hI : ∀ k, k < 81 → k ∈ ids) : ∀ d : Nat, d ≤ 4 → WOc l D ad G ids d := by
  intro d
  induction d with
  | zero => intro h4 σ dn lo up htn hG hlo hup; exact c_X10_worth l D ad G ids hI σ 0 dn lo up htn h4 (fun d1 h => by omega) hG hlo hup
  | succ d ih => intro h4 σ dn lo up htn hG hlo hup; exact c_X10_worth l D ad G ids hI σ (d + 1) dn lo up htn h4 (fun d1 h => by
      have e : d1 = d := by omega
      subst e; exact ih (by omega)) hG hlo hup
