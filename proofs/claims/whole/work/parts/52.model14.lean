abbrev plPost (i : Int) (σ : Sg) : Int → Sg → Prop := fun z σ' => (¬ (0 ≤ i ∧ i < ((MLs (σ 201) (σ 202 0) (σ 203 0) (σ 204 0)).length : Int)) → z = 0 ∧ EQT σ' (th σ 1)) ∧ ((0 ≤ i ∧ i < ((MLs (σ 201) (σ 202 0) (σ 203 0) (σ 204 0)).length : Int)) → ∃ τ, EQT τ (th σ 0) ∧ σ 201 (((MLs (σ 201) (σ 202 0) (σ 203 0) (σ 204 0)).getD i.toNat (-1)) % 100) = z ∧ mw σ' = addT (mvG (mw τ) ((MLs (σ 201) (σ 202 0) (σ 203 0) (σ 204 0)).getD i.toNat (-1))) ((MLs (σ 201) (σ 202 0) (σ 203 0) (σ 204 0)).getD i.toNat (-1)) z ∧ ∀ r : Nat, ¬ (r = 201 ∨ r = 204 ∨ r = 228 ∨ r = 229 ∨ r = 230) → σ' r = τ r)
set_option maxRecDepth 100000 in
set_option maxHeartbeats 4000000 in
theorem c_X12_play (l : Launch) (D : va_G) (ad : Nat → Nat) (G : Nat → Nat) (ids : List Nat) (hJ : ∀ k, 100 ≤ k → k < 233 → k ∈ ids) (σ : Sg) (i : Int) (hG : GI (mw σ)) (hi : IR i) (htr : 0 ≤ σ 230 0 ∧ σ 230 0 ≤ 40) : MET l yX12_play cX12_play 2 (some .int) 9 [.ref (ad 100), .int (iI i)] D ad G ids σ (QI D ad G ids (plPost i σ)) := by
  have hi0 := hi
  have h18 : (MLs (σ 201) (σ 202 0) (σ 203 0) (σ 204 0)).length ≤ 18 := MLs18 hG
  unfold IR at hi
  refine x_enter (by decide) (Nat.le_of_ble_eq_true rfl) ?_
  intro pp ee ss mm args below meth cq C hr ls hl hM
  have hl : lv_has ls 2 [(0, .ref (ad 100)), (1, .int (iI i))] := hl
  refine lv_aload_n C.1 C.2.1 dX12_play_0 rfl (lv_at hl 0 rfl) ?_
  refine lv_iconst (v := iI 0) C.1 C.2.1 dX12_play_1 (by decide) ?_
  refine p_X12_0 C hM (hJ 100 (by decide) (by decide)) wf_X12_64 dX12_play_2 (fun H1 lc1 hM => ?_)
  refine lv_aload_n C.1 C.2.1 dX12_play_5 rfl (lv_at hl 0 rfl) ?_
  refine lv_iload_n C.1 C.2.1 dX12_play_6 rfl (lv_at hl 1 rfl) ?_
  refine x_ci (x_runV (As := [.int (iI i)]) (rest := []) C (by omega) cw_X12_232 (c_X12_isMove l D ad G ids hJ (upr σ 232 (ups (σ 232) 0 0)) i (GI_th 0 hG) hi0) hM (hJ 100 (by decide) (by decide)) (cx_100 ad G _) rfl rfl rfl rfl (Nat.le_of_ble_eq_true rfl) hl.1 dX12_play_7) hM (fun r7 s7 H1 lc1 hp hM => ?_)
  obtain ⟨hbs7, hLs7, hfs7⟩ := hp
  have hbs7 : (if 0 ≤ i ∧ i < ((MLs (σ 201) (σ 202 0) (σ 203 0) (σ 204 0)).length : Int) then (1 : Int) else 0) = r7 := hbs7
  have hLs7 : RWL s7 (240 + 0) (MLs (σ 201) (σ 202 0) (σ 203 0) (σ 204 0)) := hLs7
  have hE : EQT s7 (th σ 0) := fun r hr => hfs7 r (by omega)
  obtain ⟨ts7, ks7⟩ := ite01 hbs7
  refine x_if_eq C ⟨by omega, by omega⟩ (tgt := 28) dX12_play_10 (by decide) (fun c10 => ?_) (fun c10 => ?_)
  · refine lv_aload_n C.1 C.2.1 dX12_play_28 rfl (lv_at hl 0 rfl) ?_
    refine lv_iconst (v := iI 1) C.1 C.2.1 dX12_play_29 (by decide) ?_
    refine x_ci (x_runV (As := [.int (iI 1)]) (rest := []) C (by omega) cw_X12_217 (c_X12_refuse l D ad G ids hJ s7 1) hM (hJ 100 (by decide) (by decide)) (cx_100 ad G _) rfl rfl rfl rfl (Nat.le_of_ble_eq_true rfl) hl.1 dX12_play_30) hM (fun r30 s30 H1 lc1 hp hM => ?_)
    obtain ⟨rfl, rfl⟩ := hp
    exact x_iret C hr hM ⟨fun _ => ⟨rfl, EQT_th hE 1⟩, fun h => absurd h (by omega)⟩ dX12_play_33
  · have hmi : ((MLs (σ 201) (σ 202 0) (σ 203 0) (σ 204 0)).getD i.toNat (-1)) ∈ (MLs (σ 201) (σ 202 0) (σ 203 0) (σ 204 0)) := getD_mem (by omega) (by omega)
    have hmv : MV (mw σ) ((MLs (σ 201) (σ 202 0) (σ 203 0) (σ 204 0)).getD i.toNat (-1)) := hmi
    have hok := hmv.ok hG
    have hok : (0 ≤ ((MLs (σ 201) (σ 202 0) (σ 203 0) (σ 204 0)).getD i.toNat (-1)) ∧ ((MLs (σ 201) (σ 202 0) (σ 203 0) (σ 204 0)).getD i.toNat (-1)) / 100 < σ 202 0 * σ 203 0 ∧ ((MLs (σ 201) (σ 202 0) (σ 203 0) (σ 204 0)).getD i.toNat (-1)) % 100 < σ 202 0 * σ 203 0) ∧ ((MLs (σ 201) (σ 202 0) (σ 203 0) (σ 204 0)).getD i.toNat (-1)) / 100 ≠ ((MLs (σ 201) (σ 202 0) (σ 203 0) (σ 204 0)).getD i.toNat (-1)) % 100 ∧ ((MLs (σ 201) (σ 202 0) (σ 203 0) (σ 204 0)).getD i.toNat (-1)) < 2500 := hok
    have hGs : GI (mw s7) := GIm_of (GI_th 0 hG) (fun r _ _ => hE r (by omega))
    have hw7 : s7 202 0 * s7 203 0 = σ 202 0 * σ 203 0 := by rw [hE 202 (by decide), hE 203 (by decide)]; rfl
    have e230 : s7 230 = σ 230 := hE 230 (by decide)
    have e201 : s7 201 = σ 201 := hE 201 (by decide)
    refine lv_aload_n C.1 C.2.1 dX12_play_13 rfl (lv_at hl 0 rfl) ?_
    refine lv_aload_n C.1 C.2.1 dX12_play_14 rfl (lv_at hl 0 rfl) ?_
    refine g_X12_10 C hM (hJ 100 (by decide) (by decide)) wf_X12_29 dX12_play_15 ?_
    refine lv_iconst (v := iI 0) C.1 C.2.1 dX12_play_18 (by decide) ?_
    refine aa_listed C hM (hJ 103 (by decide) (by decide)) (i := 0) (by omega) dX12_play_19 ?_
    refine lv_iload_n C.1 C.2.1 dX12_play_20 rfl (lv_at hl 1 rfl) ?_
    refine al_li C hM (by omega) (hJ _ (by omega) (by omega)) (by omega) (by omega) dX12_play_21 ?_
    rw [hLs7.at (by omega) (by omega)]
    refine x_ci (x_runV (As := [.int (iI ((MLs (σ 201) (σ 202 0) (σ 203 0) (σ 204 0)).getD i.toNat (-1)))]) (rest := []) C (by omega) cw_X12_235 (c_X12_playNow l D ad G ids hJ s7 ((MLs (σ 201) (σ 202 0) (σ 203 0) (σ 204 0)).getD i.toNat (-1)) hGs.1 (by rw [e230]; exact htr) (by rw [hw7]; omega)) hM (hJ 100 (by decide) (by decide)) (cx_100 ad G _) rfl rfl rfl rfl (Nat.le_of_ble_eq_true rfl) hl.1 dX12_play_22) hM (fun r22 s22 H1 lc1 hp hM => ?_)
    obtain ⟨hzs22, hms22, hfs22⟩ := hp
    refine lv_goto (tgt := 33) C.1 C.2.1 dX12_play_25 (by decide) ?_
    exact x_iret C hr hM ⟨fun h => absurd (show 0 ≤ i ∧ i < ((MLs (σ 201) (σ 202 0) (σ 203 0) (σ 204 0)).length : Int) by omega) h, fun _ => ⟨s7, hE, (congrFun e201 _).symm.trans hzs22, by rw [hms22, hzs22], hfs22⟩⟩ dX12_play_33
set_option maxRecDepth 100000 in
set_option maxHeartbeats 4000000 in
theorem c_X12_known (l : Launch) (D : va_G) (ad : Nat → Nat) (G : Nat → Nat) (ids : List Nat) (hJ : ∀ k, 100 ≤ k → k < 233 → k ∈ ids) (σ : Sg)  (hG : GI (mw σ)) (hT : TI (mw σ)) : MET l yX12_known cX12_known 1 (some .int) 4 [.ref (ad 100)] D ad G ids σ (QI D ad G ids (fun z σ' => (if fndT (mw σ) (keyS (cfg (mw σ)) (σ 201) (σ 204 0)) = -1 then 0 else σ 211 (fndT (mw σ) (keyS (cfg (mw σ)) (σ 201) (σ 204 0)))) = z ∧ th σ 0 = σ')) := by
  refine x_enter (by decide) (Nat.le_of_ble_eq_true rfl) ?_
  intro pp ee ss mm args below meth cq C hr ls hl hM
  have hl : lv_has ls 1 [(0, .ref (ad 100))] := hl
  refine lv_aload_n C.1 C.2.1 dX12_known_0 rfl (lv_at hl 0 rfl) ?_
  refine lv_iconst (v := iI 0) C.1 C.2.1 dX12_known_1 (by decide) ?_
  refine p_X12_0 C hM (hJ 100 (by decide) (by decide)) wf_X12_64 dX12_known_2 (fun H1 lc1 hM => ?_)
  refine lv_aload_n C.1 C.2.1 dX12_known_5 rfl (lv_at hl 0 rfl) ?_
  refine x_ci (x_runV (As := []) (rest := []) C (by omega) cw_X12_247 (c_X12_knownNow l D ad G ids hJ (upr σ 232 (ups (σ 232) 0 0)) (GI_th 0 hG) (TI_th 0 hT)) hM (hJ 100 (by decide) (by decide)) (cx_100 ad G _) rfl rfl rfl rfl (Nat.le_of_ble_eq_true rfl) hl.1 dX12_known_6) hM (fun r6 s6 H1 lc1 hp hM => ?_)
  obtain ⟨rfl, rfl⟩ := hp
  refine x_iret C hr hM ?_ dX12_known_9
  exact ⟨by
    have e := cfg_th σ 0
    change cfg (mw (upr σ 232 (ups (σ 232) 0 0))) = _ at e
    rw [e]
    rfl, rfl⟩
set_option maxRecDepth 100000 in
set_option maxHeartbeats 4000000 in
theorem c_X12_killer (l : Launch) (D : va_G) (ad : Nat → Nat) (G : Nat → Nat) (ids : List Nat) (hJ : ∀ k, 100 ≤ k → k < 233 → k ∈ ids) (σ : Sg) (d o : Int) (hd : IR d) (ho : o = 0 ∨ o = 1) (hr20 : IR (σ 220 0)) : MET l yX12_killer cX12_killer 3 (some .int) 3 [.ref (ad 100), .int (iI d), .int (iI o)] D ad G ids σ (QI D ad G ids (fun z σ' => (if (1 ≤ d ∧ d ≤ 4) ∧ 0 < σ 220 0 then kilF (mw σ) d (if o = 0 then 0 else 1) else -1) = z ∧ th σ 0 = σ')) := by
  refine x_enter (by decide) (Nat.le_of_ble_eq_true rfl) ?_
  intro pp ee ss mm args below meth cq C hr ls hl hM
  have hl : lv_has ls 3 [(0, .ref (ad 100)), (1, .int (iI d)), (2, .int (iI o))] := hl
  refine lv_aload_n C.1 C.2.1 dX12_killer_0 rfl (lv_at hl 0 rfl) ?_
  refine lv_iconst (v := iI 0) C.1 C.2.1 dX12_killer_1 (by decide) ?_
  refine p_X12_0 C hM (hJ 100 (by decide) (by decide)) wf_X12_64 dX12_killer_2 (fun H1 lc1 hM => ?_)
  refine lv_aload_n C.1 C.2.1 dX12_killer_5 rfl (lv_at hl 0 rfl) ?_
  refine lv_iload_n C.1 C.2.1 dX12_killer_6 rfl (lv_at hl 1 rfl) ?_
  refine lv_iload_n C.1 C.2.1 dX12_killer_7 rfl (lv_at hl 2 rfl) ?_
  refine x_if_eq C ⟨by omega, by omega⟩ (tgt := 15) dX12_killer_8 (by decide) (fun c8 => ?_) (fun c8 => ?_)
  · refine lv_iconst (v := iI 0) C.1 C.2.1 dX12_killer_15 (by decide) ?_
    refine x_ci (x_runV (As := [.int (iI d), .int (iI 0)]) (rest := []) C (by omega) cw_X12_241 (c_X12_killerAt l D ad G ids hJ (upr σ 232 (ups (σ 232) 0 0)) d 0 hd (by omega) hr20) hM (hJ 100 (by decide) (by decide)) (cx_100 ad G _) rfl rfl rfl rfl (Nat.le_of_ble_eq_true rfl) hl.1 dX12_killer_16) hM (fun r16 s16 H1 lc1 hp hM => ?_)
    obtain ⟨hbs16, rfl⟩ := hp
    refine x_iret C hr hM ?_ dX12_killer_19
    exact ⟨by
      rw [← hbs16]
      first | rw [if_pos (show o = 0 by omega)] | rw [if_neg (show ¬ o = 0 by omega)]
      rfl, rfl⟩
  · refine lv_iconst (v := iI 1) C.1 C.2.1 dX12_killer_11 (by decide) ?_
    refine lv_goto (tgt := 16) C.1 C.2.1 dX12_killer_12 (by decide) ?_
    refine x_ci (x_runV (As := [.int (iI d), .int (iI 1)]) (rest := []) C (by omega) cw_X12_241 (c_X12_killerAt l D ad G ids hJ (upr σ 232 (ups (σ 232) 0 0)) d 1 hd (by omega) hr20) hM (hJ 100 (by decide) (by decide)) (cx_100 ad G _) rfl rfl rfl rfl (Nat.le_of_ble_eq_true rfl) hl.1 dX12_killer_16) hM (fun r16 s16 H1 lc1 hp hM => ?_)
    obtain ⟨hbs16, rfl⟩ := hp
    refine x_iret C hr hM ?_ dX12_killer_19
    exact ⟨by
      rw [← hbs16]
      first | rw [if_pos (show o = 0 by omega)] | rw [if_neg (show ¬ o = 0 by omega)]
      rfl, rfl⟩
