abbrev EQT (σ' τ : Sg) : Prop := ∀ r : Nat, (r < 240 ∨ 267 ≤ r) → σ' r = τ r
theorem EQT_up {σ' τ : Sg} (h : EQT σ' τ) (r : Nat) (hr : r < 240) (n : Int) : EQT (upr σ' r (ups (σ' r) 0 n)) (upr τ r (ups (τ r) 0 n)) := by
  intro q hq
  by_cases e : q = r
  · subst e; rw [upr_eq, upr_eq, h q (by omega)]
  · rw [upr_ne _ _ e, upr_ne _ _ e]; exact h q hq
theorem EQT_th {σ' σ : Sg} (h : EQT σ' (th σ 0)) (n : Int) : EQT (th σ' n) (th σ n) := by
  have q := EQT_up h 232 (by decide) n
  rw [← th_th σ 0 n]
  exact q
set_option maxRecDepth 100000 in
set_option maxHeartbeats 4000000 in
theorem c_X12_moves (l : Launch) (D : va_G) (ad : Nat → Nat) (G : Nat → Nat) (ids : List Nat) (hJ : ∀ k, 100 ≤ k → k < 233 → k ∈ ids) (σ : Sg)  (hG : GI (mw σ)) : MET l yX12_moves cX12_moves 1 (some .int) 8 [.ref (ad 100)] D ad G ids σ (QI D ad G ids (fun z σ' => ((MLs (σ 201) (σ 202 0) (σ 203 0) (σ 204 0)).length : Int) = z ∧ EQT σ' (th σ 0))) := by
  refine x_enter (by decide) (Nat.le_of_ble_eq_true rfl) ?_
  intro pp ee ss mm args below meth cq C hr ls hl hM
  have hl : lv_has ls 1 [(0, .ref (ad 100))] := hl
  refine lv_aload_n C.1 C.2.1 dX12_moves_0 rfl (lv_at hl 0 rfl) ?_
  refine lv_iconst (v := iI 0) C.1 C.2.1 dX12_moves_1 (by decide) ?_
  refine p_X12_0 C hM (hJ 100 (by decide) (by decide)) wf_X12_64 dX12_moves_2 (fun H1 lc1 hM => ?_)
  refine lv_aload_n C.1 C.2.1 dX12_moves_5 rfl (lv_at hl 0 rfl) ?_
  refine lv_iconst (v := iI 0) C.1 C.2.1 dX12_moves_6 (by decide) ?_
  refine x_ci (x_runV (As := [.int (iI 0)]) (rest := []) C (by omega) cw_X12_123 (c_X12_list l D ad G ids hJ (upr σ 232 (ups (σ 232) 0 0)) 0 0 rfl (by decide) (GI_th 0 hG)) hM (hJ 100 (by decide) (by decide)) (cx_100 ad G _) rfl rfl rfl rfl (Nat.le_of_ble_eq_true rfl) hl.1 dX12_moves_7) hM (fun r7 s7 H1 lc1 hp hM => ?_)
  obtain ⟨rfl, hLs7, hfs7⟩ := hp
  exact x_iret C hr hM ⟨rfl, fun r hr => hfs7 r (by omega)⟩ dX12_moves_10
set_option maxRecDepth 100000 in
set_option maxHeartbeats 4000000 in
theorem c_X12_from (l : Launch) (D : va_G) (ad : Nat → Nat) (G : Nat → Nat) (ids : List Nat) (hJ : ∀ k, 100 ≤ k → k < 233 → k ∈ ids) (σ : Sg) (i : Int) (hG : GI (mw σ)) (hi : IR i) : MET l yX12_from cX12_from 2 (some .int) 9 [.ref (ad 100), .int (iI i)] D ad G ids σ (QI D ad G ids (fun z σ' => (if 0 ≤ i ∧ i < ((MLs (σ 201) (σ 202 0) (σ 203 0) (σ 204 0)).length : Int) then ((MLs (σ 201) (σ 202 0) (σ 203 0) (σ 204 0)).getD i.toNat (-1)) / 100 else 0) = z ∧ EQT σ' (if 0 ≤ i ∧ i < ((MLs (σ 201) (σ 202 0) (σ 203 0) (σ 204 0)).length : Int) then th σ 0 else th σ 1))) := by
  have hi0 := hi
  have h18 : (MLs (σ 201) (σ 202 0) (σ 203 0) (σ 204 0)).length ≤ 18 := MLs18 hG
  unfold IR at hi
  refine x_enter (by decide) (Nat.le_of_ble_eq_true rfl) ?_
  intro pp ee ss mm args below meth cq C hr ls hl hM
  have hl : lv_has ls 2 [(0, .ref (ad 100)), (1, .int (iI i))] := hl
  refine lv_aload_n C.1 C.2.1 dX12_from_0 rfl (lv_at hl 0 rfl) ?_
  refine lv_iconst (v := iI 0) C.1 C.2.1 dX12_from_1 (by decide) ?_
  refine p_X12_0 C hM (hJ 100 (by decide) (by decide)) wf_X12_64 dX12_from_2 (fun H1 lc1 hM => ?_)
  refine lv_aload_n C.1 C.2.1 dX12_from_5 rfl (lv_at hl 0 rfl) ?_
  refine lv_iload_n C.1 C.2.1 dX12_from_6 rfl (lv_at hl 1 rfl) ?_
  refine x_ci (x_runV (As := [.int (iI i)]) (rest := []) C (by omega) cw_X12_232 (c_X12_isMove l D ad G ids hJ (upr σ 232 (ups (σ 232) 0 0)) i (GI_th 0 hG) hi0) hM (hJ 100 (by decide) (by decide)) (cx_100 ad G _) rfl rfl rfl rfl (Nat.le_of_ble_eq_true rfl) hl.1 dX12_from_7) hM (fun r7 s7 H1 lc1 hp hM => ?_)
  obtain ⟨hbs7, hLs7, hfs7⟩ := hp
  have hbs7 : (if 0 ≤ i ∧ i < ((MLs (σ 201) (σ 202 0) (σ 203 0) (σ 204 0)).length : Int) then (1 : Int) else 0) = r7 := hbs7
  have hLs7 : RWL s7 (240 + 0) (MLs (σ 201) (σ 202 0) (σ 203 0) (σ 204 0)) := hLs7
  have hE : EQT s7 (th σ 0) := fun r hr => hfs7 r (by omega)
  obtain ⟨ts7, ks7⟩ := ite01 hbs7
  refine x_if_eq C ⟨by omega, by omega⟩ (tgt := 27) dX12_from_10 (by decide) (fun c10 => ?_) (fun c10 => ?_)
  · refine lv_aload_n C.1 C.2.1 dX12_from_27 rfl (lv_at hl 0 rfl) ?_
    refine lv_iconst (v := iI 1) C.1 C.2.1 dX12_from_28 (by decide) ?_
    refine x_ci (x_runV (As := [.int (iI 1)]) (rest := []) C (by omega) cw_X12_217 (c_X12_refuse l D ad G ids hJ s7 1) hM (hJ 100 (by decide) (by decide)) (cx_100 ad G _) rfl rfl rfl rfl (Nat.le_of_ble_eq_true rfl) hl.1 dX12_from_29) hM (fun r29 s29 H1 lc1 hp hM => ?_)
    obtain ⟨rfl, rfl⟩ := hp
    exact x_iret C hr hM ⟨if_neg (by omega), by rw [if_neg (show ¬ (0 ≤ i ∧ i < ((MLs (σ 201) (σ 202 0) (σ 203 0) (σ 204 0)).length : Int)) by omega)]; exact EQT_th hE 1⟩ dX12_from_32
  · have hmi : ((MLs (σ 201) (σ 202 0) (σ 203 0) (σ 204 0)).getD i.toNat (-1)) ∈ (MLs (σ 201) (σ 202 0) (σ 203 0) (σ 204 0)) := getD_mem (by omega) (by omega)
    have hmb : 0 ≤ ((MLs (σ 201) (σ 202 0) (σ 203 0) (σ 204 0)).getD i.toNat (-1)) ∧ ((MLs (σ 201) (σ 202 0) (σ 203 0) (σ 204 0)).getD i.toNat (-1)) < 2500 := MLsMB hG _ hmi
    refine lv_aload_n C.1 C.2.1 dX12_from_13 rfl (lv_at hl 0 rfl) ?_
    refine g_X12_10 C hM (hJ 100 (by decide) (by decide)) wf_X12_29 dX12_from_14 ?_
    refine lv_iconst (v := iI 0) C.1 C.2.1 dX12_from_17 (by decide) ?_
    refine aa_listed C hM (hJ 103 (by decide) (by decide)) (i := 0) (by omega) dX12_from_18 ?_
    refine lv_iload_n C.1 C.2.1 dX12_from_19 rfl (lv_at hl 1 rfl) ?_
    refine al_li C hM (by omega) (hJ _ (by omega) (by omega)) (by omega) (by omega) dX12_from_20 ?_
    rw [hLs7.at (by omega) (by omega)]
    refine lv_bipush (v := iI 100) C.1 C.2.1 dX12_from_21 (by decide) ?_
    refine x_idiv2 C ⟨by omega, by omega, by omega⟩ ⟨by omega, by omega, by omega⟩ dX12_from_23 ?_
    refine lv_goto (tgt := 32) C.1 C.2.1 dX12_from_24 (by decide) ?_
    exact x_iret C hr hM ⟨if_pos (by omega), by rw [if_pos (show 0 ≤ i ∧ i < ((MLs (σ 201) (σ 202 0) (σ 203 0) (σ 204 0)).length : Int) by omega)]; exact hE⟩ dX12_from_32
set_option maxRecDepth 100000 in
set_option maxHeartbeats 4000000 in
theorem c_X12_to (l : Launch) (D : va_G) (ad : Nat → Nat) (G : Nat → Nat) (ids : List Nat) (hJ : ∀ k, 100 ≤ k → k < 233 → k ∈ ids) (σ : Sg) (i : Int) (hG : GI (mw σ)) (hi : IR i) : MET l yX12_to cX12_to 2 (some .int) 9 [.ref (ad 100), .int (iI i)] D ad G ids σ (QI D ad G ids (fun z σ' => (if 0 ≤ i ∧ i < ((MLs (σ 201) (σ 202 0) (σ 203 0) (σ 204 0)).length : Int) then ((MLs (σ 201) (σ 202 0) (σ 203 0) (σ 204 0)).getD i.toNat (-1)) % 100 else 0) = z ∧ EQT σ' (if 0 ≤ i ∧ i < ((MLs (σ 201) (σ 202 0) (σ 203 0) (σ 204 0)).length : Int) then th σ 0 else th σ 1))) := by
  have hi0 := hi
  have h18 : (MLs (σ 201) (σ 202 0) (σ 203 0) (σ 204 0)).length ≤ 18 := MLs18 hG
  unfold IR at hi
  refine x_enter (by decide) (Nat.le_of_ble_eq_true rfl) ?_
  intro pp ee ss mm args below meth cq C hr ls hl hM
  have hl : lv_has ls 2 [(0, .ref (ad 100)), (1, .int (iI i))] := hl
  refine lv_aload_n C.1 C.2.1 dX12_to_0 rfl (lv_at hl 0 rfl) ?_
  refine lv_iconst (v := iI 0) C.1 C.2.1 dX12_to_1 (by decide) ?_
  refine p_X12_0 C hM (hJ 100 (by decide) (by decide)) wf_X12_64 dX12_to_2 (fun H1 lc1 hM => ?_)
  refine lv_aload_n C.1 C.2.1 dX12_to_5 rfl (lv_at hl 0 rfl) ?_
  refine lv_iload_n C.1 C.2.1 dX12_to_6 rfl (lv_at hl 1 rfl) ?_
  refine x_ci (x_runV (As := [.int (iI i)]) (rest := []) C (by omega) cw_X12_232 (c_X12_isMove l D ad G ids hJ (upr σ 232 (ups (σ 232) 0 0)) i (GI_th 0 hG) hi0) hM (hJ 100 (by decide) (by decide)) (cx_100 ad G _) rfl rfl rfl rfl (Nat.le_of_ble_eq_true rfl) hl.1 dX12_to_7) hM (fun r7 s7 H1 lc1 hp hM => ?_)
  obtain ⟨hbs7, hLs7, hfs7⟩ := hp
  have hbs7 : (if 0 ≤ i ∧ i < ((MLs (σ 201) (σ 202 0) (σ 203 0) (σ 204 0)).length : Int) then (1 : Int) else 0) = r7 := hbs7
  have hLs7 : RWL s7 (240 + 0) (MLs (σ 201) (σ 202 0) (σ 203 0) (σ 204 0)) := hLs7
  have hE : EQT s7 (th σ 0) := fun r hr => hfs7 r (by omega)
  obtain ⟨ts7, ks7⟩ := ite01 hbs7
  refine x_if_eq C ⟨by omega, by omega⟩ (tgt := 27) dX12_to_10 (by decide) (fun c10 => ?_) (fun c10 => ?_)
  · refine lv_aload_n C.1 C.2.1 dX12_to_27 rfl (lv_at hl 0 rfl) ?_
    refine lv_iconst (v := iI 1) C.1 C.2.1 dX12_to_28 (by decide) ?_
    refine x_ci (x_runV (As := [.int (iI 1)]) (rest := []) C (by omega) cw_X12_217 (c_X12_refuse l D ad G ids hJ s7 1) hM (hJ 100 (by decide) (by decide)) (cx_100 ad G _) rfl rfl rfl rfl (Nat.le_of_ble_eq_true rfl) hl.1 dX12_to_29) hM (fun r29 s29 H1 lc1 hp hM => ?_)
    obtain ⟨rfl, rfl⟩ := hp
    exact x_iret C hr hM ⟨if_neg (by omega), by rw [if_neg (show ¬ (0 ≤ i ∧ i < ((MLs (σ 201) (σ 202 0) (σ 203 0) (σ 204 0)).length : Int)) by omega)]; exact EQT_th hE 1⟩ dX12_to_32
  · have hmi : ((MLs (σ 201) (σ 202 0) (σ 203 0) (σ 204 0)).getD i.toNat (-1)) ∈ (MLs (σ 201) (σ 202 0) (σ 203 0) (σ 204 0)) := getD_mem (by omega) (by omega)
    have hmb : 0 ≤ ((MLs (σ 201) (σ 202 0) (σ 203 0) (σ 204 0)).getD i.toNat (-1)) ∧ ((MLs (σ 201) (σ 202 0) (σ 203 0) (σ 204 0)).getD i.toNat (-1)) < 2500 := MLsMB hG _ hmi
    refine lv_aload_n C.1 C.2.1 dX12_to_13 rfl (lv_at hl 0 rfl) ?_
    refine g_X12_10 C hM (hJ 100 (by decide) (by decide)) wf_X12_29 dX12_to_14 ?_
    refine lv_iconst (v := iI 0) C.1 C.2.1 dX12_to_17 (by decide) ?_
    refine aa_listed C hM (hJ 103 (by decide) (by decide)) (i := 0) (by omega) dX12_to_18 ?_
    refine lv_iload_n C.1 C.2.1 dX12_to_19 rfl (lv_at hl 1 rfl) ?_
    refine al_li C hM (by omega) (hJ _ (by omega) (by omega)) (by omega) (by omega) dX12_to_20 ?_
    rw [hLs7.at (by omega) (by omega)]
    refine lv_bipush (v := iI 100) C.1 C.2.1 dX12_to_21 (by decide) ?_
    refine x_irem2 C ⟨by omega, by omega, by omega⟩ ⟨by omega, by omega, by omega⟩ dX12_to_23 ?_
    refine lv_goto (tgt := 32) C.1 C.2.1 dX12_to_24 (by decide) ?_
    exact x_iret C hr hM ⟨if_pos (by omega), by rw [if_pos (show 0 ≤ i ∧ i < ((MLs (σ 201) (σ 202 0) (σ 203 0) (σ 204 0)).length : Int) by omega)]; exact hE⟩ dX12_to_32
set_option maxRecDepth 100000 in
set_option maxHeartbeats 4000000 in
theorem c_X12_ways (l : Launch) (D : va_G) (ad : Nat → Nat) (G : Nat → Nat) (ids : List Nat) (hJ : ∀ k, 100 ≤ k → k < 233 → k ∈ ids) (σ : Sg) (d : Int) (hG : GI (mw σ)) (hd : IR d) : MET l yX12_ways cX12_ways 2 (some .int) 20 [.ref (ad 100), .int (iI d)] D ad G ids σ (QI D ad G ids (fun z σ' => (if 0 ≤ d ∧ d ≤ 3 then waysF (cfg (mw σ)) d.toNat (σ 201) (σ 204 0) else 0) = z ∧ EQT σ' (if 0 ≤ d ∧ d ≤ 3 then th σ 0 else th σ 1))) := by
  unfold IR at hd
  refine x_enter (by decide) (Nat.le_of_ble_eq_true rfl) ?_
  intro pp ee ss mm args below meth cq C hr ls hl hM
  have hl : lv_has ls 2 [(0, .ref (ad 100)), (1, .int (iI d))] := hl
  refine lv_aload_n C.1 C.2.1 dX12_ways_0 rfl (lv_at hl 0 rfl) ?_
  refine lv_iconst (v := iI 0) C.1 C.2.1 dX12_ways_1 (by decide) ?_
  refine p_X12_0 C hM (hJ 100 (by decide) (by decide)) wf_X12_64 dX12_ways_2 (fun H1 lc1 hM => ?_)
  refine lv_iload_n C.1 C.2.1 dX12_ways_5 rfl (lv_at hl 1 rfl) ?_
  refine lv_iconst (v := iI 0) C.1 C.2.1 dX12_ways_6 (by decide) ?_
  refine lv_iconst (v := iI 3) C.1 C.2.1 dX12_ways_7 (by decide) ?_
  refine x_ci (x_runS (As := [.int (iI d), .int (iI 0), .int (iI 3)]) (rest := []) C (by omega) cw_X12_83 (c_X12_is l D ad G ids hJ (upr σ 232 (ups (σ 232) 0 0)) d 0 3 (by unfold IR; omega) (by unfold IR; omega) (by unfold IR; omega)) hM rfl rfl (Nat.le_of_ble_eq_true rfl) hl.1 dX12_ways_8) hM (fun r8 s8 H1 lc1 hp hM => ?_)
  obtain ⟨hbs8, rfl⟩ := hp
  obtain ⟨ts8, ks8⟩ := ite01 hbs8
  refine x_if_eq C ⟨by omega, by omega⟩ (tgt := 23) dX12_ways_11 (by decide) (fun c11 => ?_) (fun c11 => ?_)
  · refine lv_aload_n C.1 C.2.1 dX12_ways_23 rfl (lv_at hl 0 rfl) ?_
    refine lv_iconst (v := iI 1) C.1 C.2.1 dX12_ways_24 (by decide) ?_
    refine x_ci (x_runV (As := [.int (iI 1)]) (rest := []) C (by omega) cw_X12_217 (c_X12_refuse l D ad G ids hJ (upr σ 232 (ups (σ 232) 0 0)) 1) hM (hJ 100 (by decide) (by decide)) (cx_100 ad G _) rfl rfl rfl rfl (Nat.le_of_ble_eq_true rfl) hl.1 dX12_ways_25) hM (fun r25 s25 H1 lc1 hp hM => ?_)
    obtain ⟨rfl, rfl⟩ := hp
    exact x_iret C hr hM ⟨if_neg (by omega), by rw [if_neg (show ¬ (0 ≤ d ∧ d ≤ 3) by omega)]; exact fun r _ => by rw [← th_th σ 0 1]; rfl⟩ dX12_ways_28
  · refine lv_aload_n C.1 C.2.1 dX12_ways_14 rfl (lv_at hl 0 rfl) ?_
    refine lv_iconst (v := iI 0) C.1 C.2.1 dX12_ways_15 (by decide) ?_
    refine lv_iload_n C.1 C.2.1 dX12_ways_16 rfl (lv_at hl 1 rfl) ?_
    refine x_ci (x_runV (As := [.int (iI 0), .int (iI d)]) (rest := []) C (by omega) cw_X12_151 (ways_all l D ad G ids hJ d.toNat (by omega) (upr σ 232 (ups (σ 232) 0 0)) 0 0 d rfl (by omega) (by omega) (GI_th 0 hG)) hM (hJ 100 (by decide) (by decide)) (cx_100 ad G _) rfl rfl rfl rfl (Nat.le_of_ble_eq_true rfl) hl.1 dX12_ways_17) hM (fun r17 s17 H1 lc1 hp hM => ?_)
    obtain ⟨hzs17, hfs17⟩ := hp
    have hz17 : waysF (cfg (mw (th σ 0))) d.toNat (σ 201) (σ 204 0) = r17 := hzs17
    rw [cfg_th] at hz17
    refine lv_goto (tgt := 28) C.1 C.2.1 dX12_ways_20 (by decide) ?_
    exact x_iret C hr hM ⟨(if_pos (by omega)).trans hz17, by rw [if_pos (show 0 ≤ d ∧ d ≤ 3 by omega)]; exact fun r hr => hfs17 r (by omega)⟩ dX12_ways_28
set_option maxRecDepth 100000 in
set_option maxHeartbeats 4000000 in
theorem c_X12_value (l : Launch) (D : va_G) (ad : Nat → Nat) (G : Nat → Nat) (ids : List Nat) (hJ : ∀ k, 100 ≤ k → k < 233 → k ∈ ids) (σ : Sg) (d : Int) (hG : GI (mw σ)) (hd : IR d) : MET l yX12_value cX12_value 2 (some .int) 20 [.ref (ad 100), .int (iI d)] D ad G ids σ (QI D ad G ids (fun z σ' => (if 0 ≤ d ∧ d ≤ 3 then vv (cfg (mw σ)) d.toNat (σ 201) (σ 204 0) else 0) = z ∧ EQT σ' (if 0 ≤ d ∧ d ≤ 3 then th σ 0 else th σ 1))) := by
  unfold IR at hd
  refine x_enter (by decide) (Nat.le_of_ble_eq_true rfl) ?_
  intro pp ee ss mm args below meth cq C hr ls hl hM
  have hl : lv_has ls 2 [(0, .ref (ad 100)), (1, .int (iI d))] := hl
  refine lv_aload_n C.1 C.2.1 dX12_value_0 rfl (lv_at hl 0 rfl) ?_
  refine lv_iconst (v := iI 0) C.1 C.2.1 dX12_value_1 (by decide) ?_
  refine p_X12_0 C hM (hJ 100 (by decide) (by decide)) wf_X12_64 dX12_value_2 (fun H1 lc1 hM => ?_)
  refine lv_iload_n C.1 C.2.1 dX12_value_5 rfl (lv_at hl 1 rfl) ?_
  refine lv_iconst (v := iI 0) C.1 C.2.1 dX12_value_6 (by decide) ?_
  refine lv_iconst (v := iI 3) C.1 C.2.1 dX12_value_7 (by decide) ?_
  refine x_ci (x_runS (As := [.int (iI d), .int (iI 0), .int (iI 3)]) (rest := []) C (by omega) cw_X12_83 (c_X12_is l D ad G ids hJ (upr σ 232 (ups (σ 232) 0 0)) d 0 3 (by unfold IR; omega) (by unfold IR; omega) (by unfold IR; omega)) hM rfl rfl (Nat.le_of_ble_eq_true rfl) hl.1 dX12_value_8) hM (fun r8 s8 H1 lc1 hp hM => ?_)
  obtain ⟨hbs8, rfl⟩ := hp
  obtain ⟨ts8, ks8⟩ := ite01 hbs8
  refine x_if_eq C ⟨by omega, by omega⟩ (tgt := 23) dX12_value_11 (by decide) (fun c11 => ?_) (fun c11 => ?_)
  · refine lv_aload_n C.1 C.2.1 dX12_value_23 rfl (lv_at hl 0 rfl) ?_
    refine lv_iconst (v := iI 1) C.1 C.2.1 dX12_value_24 (by decide) ?_
    refine x_ci (x_runV (As := [.int (iI 1)]) (rest := []) C (by omega) cw_X12_217 (c_X12_refuse l D ad G ids hJ (upr σ 232 (ups (σ 232) 0 0)) 1) hM (hJ 100 (by decide) (by decide)) (cx_100 ad G _) rfl rfl rfl rfl (Nat.le_of_ble_eq_true rfl) hl.1 dX12_value_25) hM (fun r25 s25 H1 lc1 hp hM => ?_)
    obtain ⟨rfl, rfl⟩ := hp
    exact x_iret C hr hM ⟨if_neg (by omega), by rw [if_neg (show ¬ (0 ≤ d ∧ d ≤ 3) by omega)]; exact fun r _ => by rw [← th_th σ 0 1]; rfl⟩ dX12_value_28
  · refine lv_aload_n C.1 C.2.1 dX12_value_14 rfl (lv_at hl 0 rfl) ?_
    refine lv_iconst (v := iI 0) C.1 C.2.1 dX12_value_15 (by decide) ?_
    refine lv_iload_n C.1 C.2.1 dX12_value_16 rfl (lv_at hl 1 rfl) ?_
    refine x_ci (x_runV (As := [.int (iI 0), .int (iI d)]) (rest := []) C (by omega) cw_X12_148 (value_all l D ad G ids hJ d.toNat (upr σ 232 (ups (σ 232) 0 0)) 0 0 d rfl (by omega) (by omega) (GI_th 0 hG)) hM (hJ 100 (by decide) (by decide)) (cx_100 ad G _) rfl rfl rfl rfl (Nat.le_of_ble_eq_true rfl) hl.1 dX12_value_17) hM (fun r17 s17 H1 lc1 hp hM => ?_)
    obtain ⟨hzs17, hfs17⟩ := hp
    have hz17 : vv (cfg (mw (th σ 0))) d.toNat (σ 201) (σ 204 0) = r17 := hzs17
    rw [cfg_th] at hz17
    refine lv_goto (tgt := 28) C.1 C.2.1 dX12_value_20 (by decide) ?_
    exact x_iret C hr hM ⟨(if_pos (by omega)).trans hz17, by rw [if_pos (show 0 ≤ d ∧ d ≤ 3 by omega)]; exact fun r hr => hfs17 r (by omega)⟩ dX12_value_28
set_option maxRecDepth 100000 in
set_option maxHeartbeats 4000000 in
theorem c_X12_valueOf (l : Launch) (D : va_G) (ad : Nat → Nat) (G : Nat → Nat) (ids : List Nat) (hJ : ∀ k, 100 ≤ k → k < 233 → k ∈ ids) (σ : Sg) (i d : Int) (hG : GI (mw σ)) (hi : IR i) (hd : IR d) : MET l yX12_valueOf cX12_valueOf 3 (some .int) 24 [.ref (ad 100), .int (iI i), .int (iI d)] D ad G ids σ (QI D ad G ids (fun z σ' => (if (0 ≤ i ∧ i < ((MLs (σ 201) (σ 202 0) (σ 203 0) (σ 204 0)).length : Int)) ∧ (1 ≤ d ∧ d ≤ 3) then -(vv (cfg (mw σ)) (d - 1).toNat (mvF (σ 201) ((MLs (σ 201) (σ 202 0) (σ 203 0) (σ 204 0)).getD i.toNat (-1))) (1 - σ 204 0)) else 0) = z ∧ EQT σ' (if 0 ≤ i ∧ i < ((MLs (σ 201) (σ 202 0) (σ 203 0) (σ 204 0)).length : Int) then (if 1 ≤ d ∧ d ≤ 3 then th σ 0 else th σ 2) else th σ 1))) := by
  have hi0 := hi
  have h18 : (MLs (σ 201) (σ 202 0) (σ 203 0) (σ 204 0)).length ≤ 18 := MLs18 hG
  unfold IR at hi
  unfold IR at hd
  refine x_enter (by decide) (Nat.le_of_ble_eq_true rfl) ?_
  intro pp ee ss mm args below meth cq C hr ls hl hM
  have hl : lv_has ls 3 [(0, .ref (ad 100)), (1, .int (iI i)), (2, .int (iI d))] := hl
  refine lv_aload_n C.1 C.2.1 dX12_valueOf_0 rfl (lv_at hl 0 rfl) ?_
  refine lv_iconst (v := iI 0) C.1 C.2.1 dX12_valueOf_1 (by decide) ?_
  refine p_X12_0 C hM (hJ 100 (by decide) (by decide)) wf_X12_64 dX12_valueOf_2 (fun H1 lc1 hM => ?_)
  refine lv_aload_n C.1 C.2.1 dX12_valueOf_5 rfl (lv_at hl 0 rfl) ?_
  refine lv_iload_n C.1 C.2.1 dX12_valueOf_6 rfl (lv_at hl 1 rfl) ?_
  refine x_ci (x_runV (As := [.int (iI i)]) (rest := []) C (by omega) cw_X12_232 (c_X12_isMove l D ad G ids hJ (upr σ 232 (ups (σ 232) 0 0)) i (GI_th 0 hG) hi0) hM (hJ 100 (by decide) (by decide)) (cx_100 ad G _) rfl rfl rfl rfl (Nat.le_of_ble_eq_true rfl) hl.1 dX12_valueOf_7) hM (fun r7 s7 H1 lc1 hp hM => ?_)
  obtain ⟨hbs7, hLs7, hfs7⟩ := hp
  have hbs7 : (if 0 ≤ i ∧ i < ((MLs (σ 201) (σ 202 0) (σ 203 0) (σ 204 0)).length : Int) then (1 : Int) else 0) = r7 := hbs7
  have hLs7 : RWL s7 (240 + 0) (MLs (σ 201) (σ 202 0) (σ 203 0) (σ 204 0)) := hLs7
  have hE : EQT s7 (th σ 0) := fun r hr => hfs7 r (by omega)
  obtain ⟨ts7, ks7⟩ := ite01 hbs7
  refine x_if_ne C ⟨by omega, by omega⟩ (tgt := 19) dX12_valueOf_10 (by decide) (fun c10 => ?_) (fun c10 => ?_)
  · have hGs : GI (mw s7) := GIm_of (GI_th 0 hG) (fun r _ _ => hE r (by omega))
    have e1 : s7 201 = σ 201 := hE 201 (by decide)
    have e2 : s7 202 = σ 202 := hE 202 (by decide)
    have e3 : s7 203 = σ 203 := hE 203 (by decide)
    have e4 : s7 204 = σ 204 := hE 204 (by decide)
    have hcs : cfg (mw s7) = cfg (mw σ) := cfg_of (fun r hr => (hE (200 + r) (by omega)).trans (th_o (by omega)))
    refine lv_iload_n C.1 C.2.1 dX12_valueOf_19 rfl (lv_at hl 2 rfl) ?_
    refine lv_iconst (v := iI 1) C.1 C.2.1 dX12_valueOf_20 (by decide) ?_
    refine lv_iconst (v := iI 3) C.1 C.2.1 dX12_valueOf_21 (by decide) ?_
    refine x_ci (x_runS (As := [.int (iI d), .int (iI 1), .int (iI 3)]) (rest := []) C (by omega) cw_X12_83 (c_X12_is l D ad G ids hJ s7 d 1 3 (by unfold IR; omega) (by unfold IR; omega) (by unfold IR; omega)) hM rfl rfl (Nat.le_of_ble_eq_true rfl) hl.1 dX12_valueOf_22) hM (fun r22 s22 H1 lc1 hp hM => ?_)
    obtain ⟨hbs22, rfl⟩ := hp
    obtain ⟨ts22, ks22⟩ := ite01 hbs22
    refine x_if_eq C ⟨by omega, by omega⟩ (tgt := 41) dX12_valueOf_25 (by decide) (fun c25 => ?_) (fun c25 => ?_)
    · refine lv_aload_n C.1 C.2.1 dX12_valueOf_41 rfl (lv_at hl 0 rfl) ?_
      refine lv_iconst (v := iI 2) C.1 C.2.1 dX12_valueOf_42 (by decide) ?_
      refine x_ci (x_runV (As := [.int (iI 2)]) (rest := []) C (by omega) cw_X12_217 (c_X12_refuse l D ad G ids hJ s7 2) hM (hJ 100 (by decide) (by decide)) (cx_100 ad G _) rfl rfl rfl rfl (Nat.le_of_ble_eq_true rfl) hl.1 dX12_valueOf_43) hM (fun r43 s43 H1 lc1 hp hM => ?_)
      obtain ⟨rfl, rfl⟩ := hp
      exact x_iret C hr hM ⟨if_neg (by omega), by rw [if_pos (show 0 ≤ i ∧ i < ((MLs (σ 201) (σ 202 0) (σ 203 0) (σ 204 0)).length : Int) by omega), if_neg (show ¬ (1 ≤ d ∧ d ≤ 3) by omega)]; exact EQT_th hE 2⟩ dX12_valueOf_46
    · refine lv_aload_n C.1 C.2.1 dX12_valueOf_28 rfl (lv_at hl 0 rfl) ?_
      refine lv_iconst (v := iI 0) C.1 C.2.1 dX12_valueOf_29 (by decide) ?_
      refine lv_iload_n C.1 C.2.1 dX12_valueOf_30 rfl (lv_at hl 1 rfl) ?_
      refine lv_iload_n C.1 C.2.1 dX12_valueOf_31 rfl (lv_at hl 2 rfl) ?_
      refine lv_iconst (v := iI 1) C.1 C.2.1 dX12_valueOf_32 (by decide) ?_
      refine x_isub C dX12_valueOf_33 ?_
      refine x_ci (x_runV (As := [.int (iI 0), .int (iI i), .int (iI (d - 1))]) (rest := []) C (by omega) cw_X12_145 (c_X12_valueBehind l D ad G ids hJ s7 0 (d - 1).toNat 0 i (d - 1) rfl (by omega) (by omega) (value_all l D ad G ids hJ (d - 1).toNat) hGs (by rw [e1, e2, e3, e4]; exact hLs7) (by rw [e1, e2, e3, e4]; omega)) hM (hJ 100 (by decide) (by decide)) (cx_100 ad G _) rfl rfl rfl rfl (Nat.le_of_ble_eq_true rfl) hl.1 dX12_valueOf_34) hM (fun r34 s34 H1 lc1 hp hM => ?_)
      obtain ⟨hzs34, hfs34⟩ := hp
      rw [hcs, e1, e2, e3, e4] at hzs34
      refine x_ineg C dX12_valueOf_37 ?_
      refine lv_goto (tgt := 46) C.1 C.2.1 dX12_valueOf_38 (by decide) ?_
      exact x_iret C hr hM ⟨(if_pos ⟨by omega, by omega⟩).trans (by rw [hzs34]), by rw [if_pos (show 0 ≤ i ∧ i < ((MLs (σ 201) (σ 202 0) (σ 203 0) (σ 204 0)).length : Int) by omega), if_pos (show 1 ≤ d ∧ d ≤ 3 by omega)]; exact fun r hr => (hfs34 r (by omega)).trans (hE r hr)⟩ dX12_valueOf_46
  · refine lv_aload_n C.1 C.2.1 dX12_valueOf_13 rfl (lv_at hl 0 rfl) ?_
    refine lv_iconst (v := iI 1) C.1 C.2.1 dX12_valueOf_14 (by decide) ?_
    refine x_ci (x_runV (As := [.int (iI 1)]) (rest := []) C (by omega) cw_X12_217 (c_X12_refuse l D ad G ids hJ s7 1) hM (hJ 100 (by decide) (by decide)) (cx_100 ad G _) rfl rfl rfl rfl (Nat.le_of_ble_eq_true rfl) hl.1 dX12_valueOf_15) hM (fun r15 s15 H1 lc1 hp hM => ?_)
    obtain ⟨rfl, rfl⟩ := hp
    exact x_iret C hr hM ⟨if_neg (by omega), by rw [if_neg (show ¬ (0 ≤ i ∧ i < ((MLs (σ 201) (σ 202 0) (σ 203 0) (σ 204 0)).length : Int)) by omega)]; exact EQT_th hE 1⟩ dX12_valueOf_18
