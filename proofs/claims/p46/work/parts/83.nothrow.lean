/-! methods that throw, where they do not -/
set_option maxRecDepth 100000 in
set_option maxHeartbeats 4000000 in
theorem n_X11_at (l : Launch) (D : va_G) (ad : Nat → Nat) (G : Nat → Nat) (ids : List Nat) (hI : ∀ k, k < 81 → k ∈ ids) (σ : Sg) (n : Int) (hG : GI σ) (hn : 0 ≤ n ∧ n < σ 2 0 * σ 3 0) : MET l yX11_at cX11_at 2 (some .int) 7 [.ref (ad 0), .int (iI n)] D ad G ids σ (QI D ad G ids (fun z σ' => σ 1 n = z ∧ σ = σ')) := by
  have hB := hG.1
  have w1 := hB.1
  have w2 := hB.2.1
  have h1 := hB.2.2.1
  have h2 := hB.2.2.2
  have wb := wh_bd w1 w2 h1 h2
  have hs := hG.2.2.1
  
  refine x_enter (by decide) (Nat.le_of_ble_eq_true rfl) ?_
  intro pp ee ss mm args below meth cq C hr ls hl hM
  have hl : lv_has ls 2 [(0, .ref (ad 0)), (1, .int (iI n))] := hl
  refine lv_aload_n C.1 C.2.1 dX11_at_0 rfl (lv_at hl 0 rfl) ?_
  refine g_X11_0 C hM (hI 0 (by decide)) wf_X11_13 dX11_at_1 ?_
  refine lv_iload_n C.1 C.2.1 dX11_at_4 rfl (lv_at hl 1 rfl) ?_
  refine x_ci (x_runV (As := [.int (iI n)]) (rest := []) C (by omega) cw_X11_108 (c_X0_isField l D ad G ids hI σ n ⟨by omega, by omega⟩ hG.1) hM (hI 1 (by decide)) (cx_1 ad G _) rfl rfl rfl rfl (Nat.le_of_ble_eq_true rfl) hl.1 dX11_at_5) hM (fun r5 s5 H1 lc1 hp hM => ?_)
  obtain ⟨hbs5, rfl⟩ := hp
  obtain ⟨ts5, ks5⟩ := ite01 hbs5
  refine x_if_ne C ⟨by omega, by omega⟩ (tgt := 21) dX11_at_8 (by decide) (fun c8 => ?_) (fun c8 => ?_)
  · refine lv_aload_n C.1 C.2.1 dX11_at_21 rfl (lv_at hl 0 rfl) ?_
    refine g_X11_0 C hM (hI 0 (by decide)) wf_X11_13 dX11_at_22 ?_
    refine lv_iload_n C.1 C.2.1 dX11_at_25 rfl (lv_at hl 1 rfl) ?_
    refine x_ci (x_runV (As := [.int (iI n)]) (rest := []) C (by omega) cw_X11_119 (c_X0_pawnAt l D ad G ids hI σ n ⟨by omega, by omega⟩) hM (hI 1 (by decide)) (cx_1 ad G _) rfl rfl rfl rfl (Nat.le_of_ble_eq_true rfl) hl.1 dX11_at_26) hM (fun r26 s26 H1 lc1 hp hM => ?_)
    obtain ⟨rfl, rfl⟩ := hp
    rw [if_pos (show 0 ≤ n ∧ n < 25 by omega)]
    exact x_iret C hr hM ⟨rfl, rfl⟩ dX11_at_29
  · exfalso; omega
set_option maxRecDepth 100000 in
set_option maxHeartbeats 4000000 in
theorem n_X11_from (l : Launch) (D : va_G) (ad : Nat → Nat) (G : Nat → Nat) (ids : List Nat) (hI : ∀ k, k < 81 → k ∈ ids) (σ : Sg) (i : Int) (hG : GI σ) (hL : LM σ 0 (MLs (σ 1) (σ 2 0) (σ 3 0) (σ 4 0)) (σ 1)) (hi : 0 ≤ i ∧ i < ((MLs (σ 1) (σ 2 0) (σ 3 0) (σ 4 0)).length : Int)) : MET l yX11_from cX11_from 2 (some .int) 7 [.ref (ad 0), .int (iI i)] D ad G ids σ (QI D ad G ids (fun z σ' => ((MLs (σ 1) (σ 2 0) (σ 3 0) (σ 4 0)).getD i.toNat (-1)) / 100 = z ∧ σ = σ')) := by
  have h18 : (MLs (σ 1) (σ 2 0) (σ 3 0) (σ 4 0)).length ≤ 18 := MLs18 hG
  have hMB : ∀ v, v ∈ (MLs (σ 1) (σ 2 0) (σ 3 0) (σ 4 0)) → 0 ≤ v ∧ v < 2500 := MLsMB hG
  refine x_enter (by decide) (Nat.le_of_ble_eq_true rfl) ?_
  intro pp ee ss mm args below meth cq C hr ls hl hM
  have hl : lv_has ls 2 [(0, .ref (ad 0)), (1, .int (iI i))] := hl
  refine lv_aload_n C.1 C.2.1 dX11_from_0 rfl (lv_at hl 0 rfl) ?_
  refine g_X11_1 C hM (hI 0 (by decide)) wf_X11_22 dX11_from_1 ?_
  refine lv_iload_n C.1 C.2.1 dX11_from_4 rfl (lv_at hl 1 rfl) ?_
  refine x_ci (x_runV (As := [.int (iI i)]) (rest := []) C (by omega) cw_X11_145 (c_X5_has l D ad G ids hI σ 0 (MLs (σ 1) (σ 2 0) (σ 3 0) (σ 4 0)) (σ 1) i (by decide) hL h18 ⟨by omega, by omega⟩) hM (hI _ (by omega)) (cx_lo ad G _ (by decide)) rfl rfl rfl rfl (Nat.le_of_ble_eq_true rfl) hl.1 dX11_from_5) hM (fun r5 s5 H1 lc1 hp hM => ?_)
  obtain ⟨hbs5, rfl⟩ := hp
  obtain ⟨ts5, ks5⟩ := ite01 hbs5
  refine x_if_ne C ⟨by omega, by omega⟩ (tgt := 21) dX11_from_8 (by decide) (fun c8 => ?_) (fun c8 => ?_)
  · have hmi : ((MLs (σ 1) (σ 2 0) (σ 3 0) (σ 4 0)).getD i.toNat (-1)) ∈ (MLs (σ 1) (σ 2 0) (σ 3 0) (σ 4 0)) := getD_mem (by omega) (by omega)
    have hmb : 0 ≤ ((MLs (σ 1) (σ 2 0) (σ 3 0) (σ 4 0)).getD i.toNat (-1)) ∧ ((MLs (σ 1) (σ 2 0) (σ 3 0) (σ 4 0)).getD i.toNat (-1)) < 2500 := hMB _ hmi
    refine lv_aload_n C.1 C.2.1 dX11_from_21 rfl (lv_at hl 0 rfl) ?_
    refine g_X11_1 C hM (hI 0 (by decide)) wf_X11_22 dX11_from_22 ?_
    refine lv_iload_n C.1 C.2.1 dX11_from_25 rfl (lv_at hl 1 rfl) ?_
    refine x_ci (x_runV (As := [.int (iI i)]) (rest := []) C (by omega) cw_X11_205 (c_X5_moveAt l D ad G ids hI σ 0 (MLs (σ 1) (σ 2 0) (σ 3 0) (σ 4 0)) (σ 1) i (by decide) hL h18 ⟨by omega, by omega⟩) hM (hI _ (by omega)) (cx_lo ad G _ (by decide)) rfl rfl rfl rfl (Nat.le_of_ble_eq_true rfl) hl.1 dX11_from_26) hM (fun r26 s26 H1 lc1 hp hM => ?_)
    obtain ⟨rfl, rfl⟩ := hp
    rw [if_pos (show 0 ≤ i by omega)]
    refine x_ci (x_runS (As := [.int (iI ((MLs (σ 1) (σ 2 0) (σ 3 0) (σ 4 0)).getD (i).toNat (-1)))]) (rest := []) C (by omega) cw_X11_208 (c_X11_fromOf l D ad G ids hI σ ((MLs (σ 1) (σ 2 0) (σ 3 0) (σ 4 0)).getD (i).toNat (-1)) (by unfold IR; omega)) hM rfl rfl (Nat.le_of_ble_eq_true rfl) hl.1 dX11_from_29) hM (fun r29 s29 H1 lc1 hp hM => ?_)
    obtain ⟨rfl, rfl⟩ := hp
    rw [if_neg (show ¬ ((MLs (σ 1) (σ 2 0) (σ 3 0) (σ 4 0)).getD i.toNat (-1)) < 0 by omega)]
    exact x_iret C hr hM ⟨rfl, rfl⟩ dX11_from_32
  · exfalso; omega
set_option maxRecDepth 100000 in
set_option maxHeartbeats 4000000 in
theorem n_X11_to (l : Launch) (D : va_G) (ad : Nat → Nat) (G : Nat → Nat) (ids : List Nat) (hI : ∀ k, k < 81 → k ∈ ids) (σ : Sg) (i : Int) (hG : GI σ) (hL : LM σ 0 (MLs (σ 1) (σ 2 0) (σ 3 0) (σ 4 0)) (σ 1)) (hi : 0 ≤ i ∧ i < ((MLs (σ 1) (σ 2 0) (σ 3 0) (σ 4 0)).length : Int)) : MET l yX11_to cX11_to 2 (some .int) 7 [.ref (ad 0), .int (iI i)] D ad G ids σ (QI D ad G ids (fun z σ' => ((MLs (σ 1) (σ 2 0) (σ 3 0) (σ 4 0)).getD i.toNat (-1)) % 100 = z ∧ σ = σ')) := by
  have h18 : (MLs (σ 1) (σ 2 0) (σ 3 0) (σ 4 0)).length ≤ 18 := MLs18 hG
  have hMB : ∀ v, v ∈ (MLs (σ 1) (σ 2 0) (σ 3 0) (σ 4 0)) → 0 ≤ v ∧ v < 2500 := MLsMB hG
  refine x_enter (by decide) (Nat.le_of_ble_eq_true rfl) ?_
  intro pp ee ss mm args below meth cq C hr ls hl hM
  have hl : lv_has ls 2 [(0, .ref (ad 0)), (1, .int (iI i))] := hl
  refine lv_aload_n C.1 C.2.1 dX11_to_0 rfl (lv_at hl 0 rfl) ?_
  refine g_X11_1 C hM (hI 0 (by decide)) wf_X11_22 dX11_to_1 ?_
  refine lv_iload_n C.1 C.2.1 dX11_to_4 rfl (lv_at hl 1 rfl) ?_
  refine x_ci (x_runV (As := [.int (iI i)]) (rest := []) C (by omega) cw_X11_145 (c_X5_has l D ad G ids hI σ 0 (MLs (σ 1) (σ 2 0) (σ 3 0) (σ 4 0)) (σ 1) i (by decide) hL h18 ⟨by omega, by omega⟩) hM (hI _ (by omega)) (cx_lo ad G _ (by decide)) rfl rfl rfl rfl (Nat.le_of_ble_eq_true rfl) hl.1 dX11_to_5) hM (fun r5 s5 H1 lc1 hp hM => ?_)
  obtain ⟨hbs5, rfl⟩ := hp
  obtain ⟨ts5, ks5⟩ := ite01 hbs5
  refine x_if_ne C ⟨by omega, by omega⟩ (tgt := 21) dX11_to_8 (by decide) (fun c8 => ?_) (fun c8 => ?_)
  · have hmi : ((MLs (σ 1) (σ 2 0) (σ 3 0) (σ 4 0)).getD i.toNat (-1)) ∈ (MLs (σ 1) (σ 2 0) (σ 3 0) (σ 4 0)) := getD_mem (by omega) (by omega)
    have hmb : 0 ≤ ((MLs (σ 1) (σ 2 0) (σ 3 0) (σ 4 0)).getD i.toNat (-1)) ∧ ((MLs (σ 1) (σ 2 0) (σ 3 0) (σ 4 0)).getD i.toNat (-1)) < 2500 := hMB _ hmi
    refine lv_aload_n C.1 C.2.1 dX11_to_21 rfl (lv_at hl 0 rfl) ?_
    refine g_X11_1 C hM (hI 0 (by decide)) wf_X11_22 dX11_to_22 ?_
    refine lv_iload_n C.1 C.2.1 dX11_to_25 rfl (lv_at hl 1 rfl) ?_
    refine x_ci (x_runV (As := [.int (iI i)]) (rest := []) C (by omega) cw_X11_205 (c_X5_moveAt l D ad G ids hI σ 0 (MLs (σ 1) (σ 2 0) (σ 3 0) (σ 4 0)) (σ 1) i (by decide) hL h18 ⟨by omega, by omega⟩) hM (hI _ (by omega)) (cx_lo ad G _ (by decide)) rfl rfl rfl rfl (Nat.le_of_ble_eq_true rfl) hl.1 dX11_to_26) hM (fun r26 s26 H1 lc1 hp hM => ?_)
    obtain ⟨rfl, rfl⟩ := hp
    rw [if_pos (show 0 ≤ i by omega)]
    refine x_ci (x_runS (As := [.int (iI ((MLs (σ 1) (σ 2 0) (σ 3 0) (σ 4 0)).getD (i).toNat (-1)))]) (rest := []) C (by omega) cw_X11_211 (c_X11_toOf l D ad G ids hI σ ((MLs (σ 1) (σ 2 0) (σ 3 0) (σ 4 0)).getD (i).toNat (-1)) (by unfold IR; omega)) hM rfl rfl (Nat.le_of_ble_eq_true rfl) hl.1 dX11_to_29) hM (fun r29 s29 H1 lc1 hp hM => ?_)
    obtain ⟨rfl, rfl⟩ := hp
    rw [if_neg (show ¬ ((MLs (σ 1) (σ 2 0) (σ 3 0) (σ 4 0)).getD i.toNat (-1)) < 0 by omega)]
    exact x_iret C hr hM ⟨rfl, rfl⟩ dX11_to_32
  · exfalso; omega
set_option maxRecDepth 100000 in
set_option maxHeartbeats 4000000 in
theorem n_X11_takes (l : Launch) (D : va_G) (ad : Nat → Nat) (G : Nat → Nat) (ids : List Nat) (hI : ∀ k, k < 81 → k ∈ ids) (σ : Sg) (i : Int) (hG : GI σ) (hL : LM σ 0 (MLs (σ 1) (σ 2 0) (σ 3 0) (σ 4 0)) (σ 1)) (hi : 0 ≤ i ∧ i < ((MLs (σ 1) (σ 2 0) (σ 3 0) (σ 4 0)).length : Int)) : MET l yX11_takes cX11_takes 2 (some .boolean) 7 [.ref (ad 0), .int (iI i)] D ad G ids σ (QI D ad G ids (fun z σ' => (if σ 1 (((MLs (σ 1) (σ 2 0) (σ 3 0) (σ 4 0)).getD i.toNat (-1)) % 100) ≠ 0 then 1 else 0) = z ∧ σ = σ')) := by
  have h18 : (MLs (σ 1) (σ 2 0) (σ 3 0) (σ 4 0)).length ≤ 18 := MLs18 hG
  have hMB : ∀ v, v ∈ (MLs (σ 1) (σ 2 0) (σ 3 0) (σ 4 0)) → 0 ≤ v ∧ v < 2500 := MLsMB hG
  refine x_enter (by decide) (Nat.le_of_ble_eq_true rfl) ?_
  intro pp ee ss mm args below meth cq C hr ls hl hM
  have hl : lv_has ls 2 [(0, .ref (ad 0)), (1, .int (iI i))] := hl
  refine lv_aload_n C.1 C.2.1 dX11_takes_0 rfl (lv_at hl 0 rfl) ?_
  refine g_X11_1 C hM (hI 0 (by decide)) wf_X11_22 dX11_takes_1 ?_
  refine lv_iload_n C.1 C.2.1 dX11_takes_4 rfl (lv_at hl 1 rfl) ?_
  refine x_ci (x_runV (As := [.int (iI i)]) (rest := []) C (by omega) cw_X11_145 (c_X5_has l D ad G ids hI σ 0 (MLs (σ 1) (σ 2 0) (σ 3 0) (σ 4 0)) (σ 1) i (by decide) hL h18 ⟨by omega, by omega⟩) hM (hI _ (by omega)) (cx_lo ad G _ (by decide)) rfl rfl rfl rfl (Nat.le_of_ble_eq_true rfl) hl.1 dX11_takes_5) hM (fun r5 s5 H1 lc1 hp hM => ?_)
  obtain ⟨hbs5, rfl⟩ := hp
  obtain ⟨ts5, ks5⟩ := ite01 hbs5
  refine x_if_ne C ⟨by omega, by omega⟩ (tgt := 21) dX11_takes_8 (by decide) (fun c8 => ?_) (fun c8 => ?_)
  · refine lv_aload_n C.1 C.2.1 dX11_takes_21 rfl (lv_at hl 0 rfl) ?_
    refine g_X11_1 C hM (hI 0 (by decide)) wf_X11_22 dX11_takes_22 ?_
    refine lv_iload_n C.1 C.2.1 dX11_takes_25 rfl (lv_at hl 1 rfl) ?_
    refine x_ci (x_runV (As := [.int (iI i)]) (rest := []) C (by omega) cw_X11_214 (c_X5_isTaking l D ad G ids hI σ 0 (MLs (σ 1) (σ 2 0) (σ 3 0) (σ 4 0)) (σ 1) i (by decide) hL h18 ⟨by omega, by omega⟩) hM (hI _ (by omega)) (cx_lo ad G _ (by decide)) rfl rfl rfl rfl (Nat.le_of_ble_eq_true rfl) hl.1 dX11_takes_26) hM (fun r26 s26 H1 lc1 hp hM => ?_)
    obtain ⟨hbs26, rfl⟩ := hp
    obtain ⟨ts26, ks26⟩ := ite01 hbs26
    refine x_zret C hr hM (by first | exact Or.inl rfl | exact Or.inr rfl | omega) ?_ dX11_takes_29
    exact ⟨by
      rw [← hbs26]
      by_cases e : σ 1 (((MLs (σ 1) (σ 2 0) (σ 3 0) (σ 4 0)).getD i.toNat (-1)) % 100) ≠ 0
      · rw [if_pos e, if_pos ⟨by omega, by omega, e⟩]
      · rw [if_neg e, if_neg (fun q => e q.2.2)], rfl⟩
  · exfalso; omega
set_option maxRecDepth 100000 in
set_option maxHeartbeats 4000000 in
theorem n_X11_ways (l : Launch) (D : va_G) (ad : Nat → Nat) (G : Nat → Nat) (ids : List Nat) (hI : ∀ k, k < 81 → k ∈ ids) (σ : Sg) (d : Int) (hG : GI σ) (hd : 0 ≤ d ∧ d ≤ 3) : MET l yX11_ways cX11_ways 2 (some .int) 40 [.ref (ad 0), .int (iI d)] D ad G ids σ (QI D ad G ids (fun z σ' => waysF (cfg σ) d.toNat (σ 1) (σ 4 0) = z ∧ (∀ r : Nat, r < 46 → r ≠ 15 → σ' r = σ r))) := by
  refine x_enter (by decide) (Nat.le_of_ble_eq_true rfl) ?_
  intro pp ee ss mm args below meth cq C hr ls hl hM
  have hl : lv_has ls 2 [(0, .ref (ad 0)), (1, .int (iI d))] := hl
  refine lv_iload_n C.1 C.2.1 dX11_ways_0 rfl (lv_at hl 1 rfl) ?_
  refine lv_iconst (v := iI 0) C.1 C.2.1 dX11_ways_1 (by decide) ?_
  refine lv_iconst (v := iI 3) C.1 C.2.1 dX11_ways_2 (by decide) ?_
  refine x_ci (x_runS (As := [.int (iI d), .int (iI 0), .int (iI 3)]) (rest := []) C (by omega) cw_X11_81 (c_X11_isWithin l D ad G ids hI σ d 0 3 (by unfold IR; omega) (by unfold IR; omega) (by unfold IR; omega)) hM rfl rfl (Nat.le_of_ble_eq_true rfl) hl.1 dX11_ways_3) hM (fun r3 s3 H1 lc1 hp hM => ?_)
  obtain ⟨hbs3, rfl⟩ := hp
  obtain ⟨ts3, ks3⟩ := ite01 hbs3
  refine x_if_ne C ⟨by omega, by omega⟩ (tgt := 19) dX11_ways_6 (by decide) (fun c6 => ?_) (fun c6 => ?_)
  · refine lv_aload_n C.1 C.2.1 dX11_ways_19 rfl (lv_at hl 0 rfl) ?_
    refine g_X11_5 C hM (hI 0 (by decide)) wf_X11_57 dX11_ways_20 ?_
    refine lv_iload_n C.1 C.2.1 dX11_ways_23 rfl (lv_at hl 1 rfl) ?_
    refine x_ci (x_runN (As := [.int (iI d)]) (rest := []) C (by omega) cw_X11_226 (countWays_all l D ad G ids hI d.toNat (by omega) σ d (by omega) hG) hM (hI 10 (by decide)) (cx_10 ad G _) rfl rfl rfl rfl (Nat.le_of_ble_eq_true rfl) hl.1 dX11_ways_24) hM (fun r24 s24 H1 lc1 hp hM => ?_)
    obtain ⟨hzs24, hfs24⟩ := hp
    exact x_iret C hr hM ⟨hzs24, fun r h1 h2 => by first | exact hfs24 r (by omega) h2 | exact hfs24 r (by omega)⟩ dX11_ways_27
  · exfalso; omega
set_option maxRecDepth 100000 in
set_option maxHeartbeats 4000000 in
theorem n_X11_value (l : Launch) (D : va_G) (ad : Nat → Nat) (G : Nat → Nat) (ids : List Nat) (hI : ∀ k, k < 81 → k ∈ ids) (σ : Sg) (d : Int) (hG : GI σ) (hd : 0 ≤ d ∧ d ≤ 3) : MET l yX11_value cX11_value 2 (some .int) 40 [.ref (ad 0), .int (iI d)] D ad G ids σ (QI D ad G ids (fun z σ' => vv (cfg σ) d.toNat (σ 1) (σ 4 0) = z ∧ (∀ r : Nat, r < 46 → r ≠ 15 → σ' r = σ r))) := by
  refine x_enter (by decide) (Nat.le_of_ble_eq_true rfl) ?_
  intro pp ee ss mm args below meth cq C hr ls hl hM
  have hl : lv_has ls 2 [(0, .ref (ad 0)), (1, .int (iI d))] := hl
  refine lv_iload_n C.1 C.2.1 dX11_value_0 rfl (lv_at hl 1 rfl) ?_
  refine lv_iconst (v := iI 0) C.1 C.2.1 dX11_value_1 (by decide) ?_
  refine lv_iconst (v := iI 3) C.1 C.2.1 dX11_value_2 (by decide) ?_
  refine x_ci (x_runS (As := [.int (iI d), .int (iI 0), .int (iI 3)]) (rest := []) C (by omega) cw_X11_81 (c_X11_isWithin l D ad G ids hI σ d 0 3 (by unfold IR; omega) (by unfold IR; omega) (by unfold IR; omega)) hM rfl rfl (Nat.le_of_ble_eq_true rfl) hl.1 dX11_value_3) hM (fun r3 s3 H1 lc1 hp hM => ?_)
  obtain ⟨hbs3, rfl⟩ := hp
  obtain ⟨ts3, ks3⟩ := ite01 hbs3
  refine x_if_ne C ⟨by omega, by omega⟩ (tgt := 19) dX11_value_6 (by decide) (fun c6 => ?_) (fun c6 => ?_)
  · refine lv_aload_n C.1 C.2.1 dX11_value_19 rfl (lv_at hl 0 rfl) ?_
    refine g_X11_5 C hM (hI 0 (by decide)) wf_X11_57 dX11_value_20 ?_
    refine lv_iload_n C.1 C.2.1 dX11_value_23 rfl (lv_at hl 1 rfl) ?_
    refine lv_sipush (v := iI (-9999)) C.1 C.2.1 dX11_value_24 (by decide) ?_
    refine lv_sipush (v := iI 9999) C.1 C.2.1 dX11_value_27 (by decide) ?_
    refine x_ci (x_runN (As := [.int (iI d), .int (iI (-9999)), .int (iI 9999)]) (rest := []) C (by omega) cw_X11_229 (worth_all l D ad G ids hI d.toNat (by omega) σ d (-9999) 9999 (by omega) hG (by decide) (by decide)) hM (hI 10 (by decide)) (cx_10 ad G _) rfl rfl rfl rfl (Nat.le_of_ble_eq_true rfl) hl.1 dX11_value_30) hM (fun r30 s30 H1 lc1 hp hM => ?_)
    obtain ⟨hzs30, hfs30⟩ := hp
    exact x_iret C hr hM ⟨by rw [← hzs30, wb_vv hG.2.2.2.2 (by omega)], fun r h1 h2 => hfs30 r (by omega) h2⟩ dX11_value_33
  · exfalso; omega
set_option maxRecDepth 100000 in
set_option maxHeartbeats 4000000 in
theorem n_X11_valueOf (l : Launch) (D : va_G) (ad : Nat → Nat) (G : Nat → Nat) (ids : List Nat) (hI : ∀ k, k < 81 → k ∈ ids) (σ : Sg) (i d : Int) (hG : GI σ) (hL : LM σ 0 (MLs (σ 1) (σ 2 0) (σ 3 0) (σ 4 0)) (σ 1)) (hi : 0 ≤ i ∧ i < ((MLs (σ 1) (σ 2 0) (σ 3 0) (σ 4 0)).length : Int)) (hd : 1 ≤ d ∧ d ≤ 3) : MET l yX11_valueOf cX11_valueOf 3 (some .int) 44 [.ref (ad 0), .int (iI i), .int (iI d)] D ad G ids σ (QI D ad G ids (fun z σ' => -(vv (cfg σ) (d - 1).toNat (mvF (σ 1) ((MLs (σ 1) (σ 2 0) (σ 3 0) (σ 4 0)).getD i.toNat (-1))) (1 - σ 4 0)) = z ∧ (∀ r : Nat, r < 46 → r ≠ 15 → σ' r = σ r))) := by
  have h18 : (MLs (σ 1) (σ 2 0) (σ 3 0) (σ 4 0)).length ≤ 18 := MLs18 hG
  have hMB : ∀ v, v ∈ (MLs (σ 1) (σ 2 0) (σ 3 0) (σ 4 0)) → 0 ≤ v ∧ v < 2500 := MLsMB hG
  refine x_enter (by decide) (Nat.le_of_ble_eq_true rfl) ?_
  intro pp ee ss mm args below meth cq C hr ls hl hM
  have hl : lv_has ls 3 [(0, .ref (ad 0)), (1, .int (iI i)), (2, .int (iI d))] := hl
  refine lv_aload_n C.1 C.2.1 dX11_valueOf_0 rfl (lv_at hl 0 rfl) ?_
  refine g_X11_1 C hM (hI 0 (by decide)) wf_X11_22 dX11_valueOf_1 ?_
  refine lv_iload_n C.1 C.2.1 dX11_valueOf_4 rfl (lv_at hl 1 rfl) ?_
  refine x_ci (x_runV (As := [.int (iI i)]) (rest := []) C (by omega) cw_X11_145 (c_X5_has l D ad G ids hI σ 0 (MLs (σ 1) (σ 2 0) (σ 3 0) (σ 4 0)) (σ 1) i (by decide) hL h18 ⟨by omega, by omega⟩) hM (hI _ (by omega)) (cx_lo ad G _ (by decide)) rfl rfl rfl rfl (Nat.le_of_ble_eq_true rfl) hl.1 dX11_valueOf_5) hM (fun r5 s5 H1 lc1 hp hM => ?_)
  obtain ⟨hbs5, rfl⟩ := hp
  obtain ⟨ts5, ks5⟩ := ite01 hbs5
  refine x_if_ne C ⟨by omega, by omega⟩ (tgt := 21) dX11_valueOf_8 (by decide) (fun c8 => ?_) (fun c8 => ?_)
  · refine lv_iload_n C.1 C.2.1 dX11_valueOf_21 rfl (lv_at hl 2 rfl) ?_
    refine lv_iconst (v := iI 1) C.1 C.2.1 dX11_valueOf_22 (by decide) ?_
    refine lv_iconst (v := iI 3) C.1 C.2.1 dX11_valueOf_23 (by decide) ?_
    refine x_ci (x_runS (As := [.int (iI d), .int (iI 1), .int (iI 3)]) (rest := []) C (by omega) cw_X11_81 (c_X11_isWithin l D ad G ids hI σ d 1 3 (by unfold IR; omega) (by unfold IR; omega) (by unfold IR; omega)) hM rfl rfl (Nat.le_of_ble_eq_true rfl) hl.1 dX11_valueOf_24) hM (fun r24 s24 H1 lc1 hp hM => ?_)
    obtain ⟨hbs24, rfl⟩ := hp
    obtain ⟨ts24, ks24⟩ := ite01 hbs24
    refine x_if_ne C ⟨by omega, by omega⟩ (tgt := 40) dX11_valueOf_27 (by decide) (fun c27 => ?_) (fun c27 => ?_)
    · refine lv_aload_n C.1 C.2.1 dX11_valueOf_40 rfl (lv_at hl 0 rfl) ?_
      refine g_X11_5 C hM (hI 0 (by decide)) wf_X11_57 dX11_valueOf_41 ?_
      refine lv_aload_n C.1 C.2.1 dX11_valueOf_44 rfl (lv_at hl 0 rfl) ?_
      refine g_X11_1 C hM (hI 0 (by decide)) wf_X11_22 dX11_valueOf_45 ?_
      refine lv_iload_n C.1 C.2.1 dX11_valueOf_48 rfl (lv_at hl 1 rfl) ?_
      refine x_ci (x_runV (As := [.int (iI i)]) (rest := [.ref (ad 10)]) C (by omega) cw_X11_205 (c_X5_moveAt l D ad G ids hI σ 0 (MLs (σ 1) (σ 2 0) (σ 3 0) (σ 4 0)) (σ 1) i (by decide) hL h18 ⟨by omega, by omega⟩) hM (hI _ (by omega)) (cx_lo ad G _ (by decide)) rfl rfl rfl rfl (Nat.le_of_ble_eq_true rfl) hl.1 dX11_valueOf_49) hM (fun r49 s49 H1 lc1 hp hM => ?_)
      obtain ⟨rfl, rfl⟩ := hp
      rw [if_pos (show 0 ≤ i by omega)]
      refine lv_iload_n C.1 C.2.1 dX11_valueOf_52 rfl (lv_at hl 2 rfl) ?_
      refine lv_sipush (v := iI (-9999)) C.1 C.2.1 dX11_valueOf_53 (by decide) ?_
      refine lv_sipush (v := iI 9999) C.1 C.2.1 dX11_valueOf_56 (by decide) ?_
      refine x_ci (x_runN (As := [.int (iI ((MLs (σ 1) (σ 2 0) (σ 3 0) (σ 4 0)).getD (i).toNat (-1))), .int (iI d), .int (iI (-9999)), .int (iI 9999)]) (rest := []) C (by omega) cw_X11_235 (c_X10_worthBehind l D ad G ids hI σ (d - 1).toNat ((MLs (σ 1) (σ 2 0) (σ 3 0) (σ 4 0)).getD (i).toNat (-1)) d (-9999) 9999 (by omega) (by omega) (worth_all l D ad G ids hI (d - 1).toNat (by omega)) hG (getD_mem (by omega) (by omega)) (by decide) (by decide)) hM (hI 10 (by decide)) (cx_10 ad G _) rfl rfl rfl rfl (Nat.le_of_ble_eq_true rfl) hl.1 dX11_valueOf_59) hM (fun r59 s59 H1 lc1 hp hM => ?_)
      obtain ⟨hzs59, hfs59⟩ := hp
      exact x_iret C hr hM ⟨by rw [← hzs59]; exact congrArg (fun x : Int => -x) (wb_vv hG.2.2.2.2 (by omega) _ _).symm, fun r h1 h2 => hfs59 r (by omega) h2⟩ dX11_valueOf_62
    · exfalso; omega
  · exfalso; omega
set_option maxRecDepth 100000 in
set_option maxHeartbeats 4000000 in
theorem n_X11_ofSlot (l : Launch) (D : va_G) (ad : Nat → Nat) (G : Nat → Nat) (ids : List Nat) (hI : ∀ k, k < 81 → k ∈ ids) (σ : Sg) (s k : Int) (hTI : TI σ) (hs : 0 ≤ s ∧ s < σ 9 0) (hk : 0 ≤ k ∧ k ≤ 3) : MET l yX11_ofSlot cX11_ofSlot 3 (some .int) 7 [.ref (ad 0), .int (iI s), .int (iI k)] D ad G ids σ (QI D ad G ids (fun z σ' => tellF σ s k = z ∧ σ = σ')) := by
  have h9 : 0 ≤ σ 9 0 ∧ σ 9 0 ≤ 64 := hTI.1
  refine x_enter (by decide) (Nat.le_of_ble_eq_true rfl) ?_
  intro pp ee ss mm args below meth cq C hr ls hl hM
  have hl : lv_has ls 3 [(0, .ref (ad 0)), (1, .int (iI s)), (2, .int (iI k))] := hl
  refine lv_aload_n C.1 C.2.1 dX11_ofSlot_0 rfl (lv_at hl 0 rfl) ?_
  refine g_X11_4 C hM (hI 0 (by decide)) wf_X11_43 dX11_ofSlot_1 ?_
  refine lv_iload_n C.1 C.2.1 dX11_ofSlot_4 rfl (lv_at hl 1 rfl) ?_
  refine x_ci (x_runV (As := [.int (iI s)]) (rest := []) C (by omega) cw_X11_265 (c_X8_isSlot l D ad G ids hI σ s hTI ⟨by omega, by omega⟩) hM (hI 4 (by decide)) (cx_4 ad G _) rfl rfl rfl rfl (Nat.le_of_ble_eq_true rfl) hl.1 dX11_ofSlot_5) hM (fun r5 s5 H1 lc1 hp hM => ?_)
  obtain ⟨hbs5, rfl⟩ := hp
  obtain ⟨ts5, ks5⟩ := ite01 hbs5
  refine x_if_ne C ⟨by omega, by omega⟩ (tgt := 22) dX11_ofSlot_8 (by decide) (fun c8 => ?_) (fun c8 => ?_)
  · refine lv_iload_n C.1 C.2.1 dX11_ofSlot_22 rfl (lv_at hl 2 rfl) ?_
    refine lv_iconst (v := iI 0) C.1 C.2.1 dX11_ofSlot_23 (by decide) ?_
    refine lv_iconst (v := iI 3) C.1 C.2.1 dX11_ofSlot_24 (by decide) ?_
    refine x_ci (x_runS (As := [.int (iI k), .int (iI 0), .int (iI 3)]) (rest := []) C (by omega) cw_X11_81 (c_X11_isWithin l D ad G ids hI σ k 0 3 (by unfold IR; omega) (by unfold IR; omega) (by unfold IR; omega)) hM rfl rfl (Nat.le_of_ble_eq_true rfl) hl.1 dX11_ofSlot_25) hM (fun r25 s25 H1 lc1 hp hM => ?_)
    obtain ⟨hbs25, rfl⟩ := hp
    obtain ⟨ts25, ks25⟩ := ite01 hbs25
    refine x_if_ne C ⟨by omega, by omega⟩ (tgt := 42) dX11_ofSlot_28 (by decide) (fun c28 => ?_) (fun c28 => ?_)
    · refine lv_aload_n C.1 C.2.1 dX11_ofSlot_42 rfl (lv_at hl 0 rfl) ?_
      refine g_X11_4 C hM (hI 0 (by decide)) wf_X11_43 dX11_ofSlot_43 ?_
      refine lv_iload_n C.1 C.2.1 dX11_ofSlot_46 rfl (lv_at hl 1 rfl) ?_
      refine lv_iload_n C.1 C.2.1 dX11_ofSlot_47 rfl (lv_at hl 2 rfl) ?_
      refine x_ci (x_runV (As := [.int (iI s), .int (iI k)]) (rest := []) C (by omega) cw_X11_272 (c_X8_tell l D ad G ids hI σ s k hTI (by omega) (by omega)) hM (hI 4 (by decide)) (cx_4 ad G _) rfl rfl rfl rfl (Nat.le_of_ble_eq_true rfl) hl.1 dX11_ofSlot_48) hM (fun r48 s48 H1 lc1 hp hM => ?_)
      obtain ⟨rfl, rfl⟩ := hp
      exact x_iret C hr hM ⟨rfl, rfl⟩ dX11_ofSlot_51
    · exfalso; omega
  · exfalso; omega
