theorem cntF_bd (c : Fn) (v : Int) (n : Nat) : 0 ≤ cntF c v n ∧ cntF c v n ≤ n := by
  induction n with
  | zero => exact ⟨Int.le_refl _, Int.le_refl _⟩
  | succ n ih =>
    show 0 ≤ cntF c v n + _ ∧ cntF c v n + _ ≤ _
    split <;> omega
abbrev srPost (d : Int) (σ : Sg) : Int → Sg → Prop := fun z σ' => (¬ (1 ≤ d ∧ d ≤ 4) → z = 0 ∧ th σ 1 = σ') ∧ ((1 ≤ d ∧ d ≤ 4) → (MLs (σ 201) (σ 202 0) (σ 203 0) (σ 204 0)) = [] → z = 0 ∧ th σ 2 = σ') ∧ ((1 ≤ d ∧ d ≤ 4) → (MLs (σ 201) (σ 202 0) (σ 203 0) (σ 204 0)) ≠ [] → (skp (cfg (mw σ)) (σ 201) (σ 204 0) d.toNat 1 0 0 0 (clrT (tv (mw σ)))).1 = z ∧ tv (mw σ') = (skp (cfg (mw σ)) (σ 201) (σ 204 0) d.toNat 1 0 0 0 (clrT (tv (mw σ)))).2.2.2 ∧ σ' 221 0 = (skp (cfg (mw σ)) (σ 201) (σ 204 0) d.toNat 1 0 0 0 (clrT (tv (mw σ)))).2.1 ∧ σ' 220 0 = (skp (cfg (mw σ)) (σ 201) (σ 204 0) d.toNat 1 0 0 0 (clrT (tv (mw σ)))).2.2.1 ∧ σ' 231 0 = σ' 219 0 ∧ ∀ r : Nat, FRS 0 r → r ≠ 220 → r ≠ 231 → σ' r = th σ 0 r)
set_option maxRecDepth 100000 in
set_option maxHeartbeats 4000000 in
theorem c_X12_search (l : Launch) (D : va_G) (ad : Nat → Nat) (G : Nat → Nat) (ids : List Nat) (hJ : ∀ k, 100 ≤ k → k < 233 → k ∈ ids) (σ : Sg) (d : Int) (hG : GI (mw σ)) (hT : TI (mw σ)) (hT9 : T9 (mw σ)) (hd : IR d) : MET l yX12_search cX12_search 2 (some .int) 21 [.ref (ad 100), .int (iI d)] D ad G ids σ (QI D ad G ids (srPost d σ)) := by
  unfold IR at hd
  refine x_enter (by decide) (Nat.le_of_ble_eq_true rfl) ?_
  intro pp ee ss mm args below meth cq C hr ls hl hM
  have hl : lv_has ls 2 [(0, .ref (ad 100)), (1, .int (iI d))] := hl
  refine lv_aload_n C.1 C.2.1 dX12_search_0 rfl (lv_at hl 0 rfl) ?_
  refine lv_iconst (v := iI 0) C.1 C.2.1 dX12_search_1 (by decide) ?_
  refine p_X12_0 C hM (hJ 100 (by decide) (by decide)) wf_X12_64 dX12_search_2 (fun H1 lc1 hM => ?_)
  refine lv_iload_n C.1 C.2.1 dX12_search_5 rfl (lv_at hl 1 rfl) ?_
  refine lv_iconst (v := iI 1) C.1 C.2.1 dX12_search_6 (by decide) ?_
  refine lv_iconst (v := iI 4) C.1 C.2.1 dX12_search_7 (by decide) ?_
  refine x_ci (x_runS (As := [.int (iI d), .int (iI 1), .int (iI 4)]) (rest := []) C (by omega) cw_X12_83 (c_X12_is l D ad G ids hJ (upr σ 232 (ups (σ 232) 0 0)) d 1 4 (by unfold IR; omega) (by unfold IR; omega) (by unfold IR; omega)) hM rfl rfl (Nat.le_of_ble_eq_true rfl) hl.1 dX12_search_8) hM (fun r8 s8 H1 lc1 hp hM => ?_)
  obtain ⟨hbs8, rfl⟩ := hp
  obtain ⟨ts8, ks8⟩ := ite01 hbs8
  refine x_if_ne C ⟨by omega, by omega⟩ (tgt := 20) dX12_search_11 (by decide) (fun c11 => ?_) (fun c11 => ?_)
  · refine lv_aload_n C.1 C.2.1 dX12_search_20 rfl (lv_at hl 0 rfl) ?_
    refine x_ci (x_runV (As := []) (rest := []) C (by omega) cw_X12_104 (c_X12_isLostNow l D ad G ids hJ (upr σ 232 (ups (σ 232) 0 0)) (GI_th 0 hG)) hM (hJ 100 (by decide) (by decide)) (cx_100 ad G _) rfl rfl rfl rfl (Nat.le_of_ble_eq_true rfl) hl.1 dX12_search_21) hM (fun r21 s21 H1 lc1 hp hM => ?_)
    obtain ⟨hbs21, rfl⟩ := hp
    have hbs21 : (if (MLs (σ 201) (σ 202 0) (σ 203 0) (σ 204 0)) = [] then (1 : Int) else 0) = r21 := hbs21
    obtain ⟨ts21, ks21⟩ := ite01 hbs21
    refine x_if_eq C ⟨by omega, by omega⟩ (tgt := 35) dX12_search_24 (by decide) (fun c24 => ?_) (fun c24 => ?_)
    · refine lv_aload_n C.1 C.2.1 dX12_search_35 rfl (lv_at hl 0 rfl) ?_
      refine lv_iload_n C.1 C.2.1 dX12_search_36 rfl (lv_at hl 1 rfl) ?_
      refine x_ci (x_runV (As := [.int (iI d)]) (rest := []) C (by omega) cw_X12_238 (c_X12_searchNow l D ad G ids hJ (upr σ 232 (ups (σ 232) 0 0)) d.toNat d (by omega) (by omega) (GI_th 0 hG) (TI_th 0 hT) (T9_th 0 hT9)) hM (hJ 100 (by decide) (by decide)) (cx_100 ad G _) rfl rfl rfl rfl (Nat.le_of_ble_eq_true rfl) hl.1 dX12_search_37) hM (fun r37 s37 H1 lc1 hp hM => ?_)
      obtain ⟨hz, ht, hn, hr2, hb, hf⟩ := hp
      refine x_iret C hr hM ?_ dX12_search_40
      exact by
        refine ⟨fun h => absurd (show 1 ≤ d ∧ d ≤ 4 by omega) h, fun _ h => absurd (ks21.mpr h) (by omega), fun _ _ => ?_⟩
        have e1 := cfg_th σ 0
        have e2 := tv_th σ 0
        change cfg (mw (upr σ 232 (ups (σ 232) 0 0))) = _ at e1
        change tv (mw (upr σ 232 (ups (σ 232) 0 0))) = _ at e2
        rw [e1, e2] at hz ht hn hr2
        exact ⟨hz, ht, hn, hr2, hb, hf⟩
    · refine lv_aload_n C.1 C.2.1 dX12_search_27 rfl (lv_at hl 0 rfl) ?_
      refine lv_iconst (v := iI 2) C.1 C.2.1 dX12_search_28 (by decide) ?_
      refine x_ci (x_runV (As := [.int (iI 2)]) (rest := []) C (by omega) cw_X12_217 (c_X12_refuse l D ad G ids hJ (upr σ 232 (ups (σ 232) 0 0)) 2) hM (hJ 100 (by decide) (by decide)) (cx_100 ad G _) rfl rfl rfl rfl (Nat.le_of_ble_eq_true rfl) hl.1 dX12_search_29) hM (fun r29 s29 H1 lc1 hp hM => ?_)
      obtain ⟨rfl, rfl⟩ := hp
      refine lv_goto (tgt := 40) C.1 C.2.1 dX12_search_32 (by decide) ?_
      exact x_iret C hr hM ⟨fun h => absurd (show 1 ≤ d ∧ d ≤ 4 by omega) h, fun _ _ => ⟨rfl, (th_th σ 0 2).symm⟩, fun _ h => absurd (ks21.mp (by omega)) h⟩ dX12_search_40
  · refine lv_aload_n C.1 C.2.1 dX12_search_14 rfl (lv_at hl 0 rfl) ?_
    refine lv_iconst (v := iI 1) C.1 C.2.1 dX12_search_15 (by decide) ?_
    refine x_ci (x_runV (As := [.int (iI 1)]) (rest := []) C (by omega) cw_X12_217 (c_X12_refuse l D ad G ids hJ (upr σ 232 (ups (σ 232) 0 0)) 1) hM (hJ 100 (by decide) (by decide)) (cx_100 ad G _) rfl rfl rfl rfl (Nat.le_of_ble_eq_true rfl) hl.1 dX12_search_16) hM (fun r16 s16 H1 lc1 hp hM => ?_)
    obtain ⟨rfl, rfl⟩ := hp
    exact x_iret C hr hM ⟨fun _ => ⟨rfl, (th_th σ 0 1).symm⟩, fun h => absurd h (by omega), fun h => absurd h (by omega)⟩ dX12_search_19
abbrev puPost (f v : Int) (σ : Sg) : Int → Sg → Prop := fun z σ' => (¬ (0 ≤ f ∧ f < σ 202 0 * σ 203 0) → z = 0 ∧ th σ 1 = σ') ∧ ((0 ≤ f ∧ f < σ 202 0 * σ 203 0) → ¬ (0 ≤ v ∧ v ≤ 2) → z = 0 ∧ th σ 2 = σ') ∧ ((0 ≤ f ∧ f < σ 202 0 * σ 203 0) → (0 ≤ v ∧ v ≤ 2) → (v ≠ 0 ∧ σ 201 f ≠ v ∧ cntF (σ 201) v (σ 202 0 * σ 203 0).toNat = 6) → z = 0 ∧ th σ 3 = σ') ∧ ((0 ≤ f ∧ f < σ 202 0 * σ 203 0) → (0 ≤ v ∧ v ≤ 2) → ¬ (v ≠ 0 ∧ σ 201 f ≠ v ∧ cntF (σ 201) v (σ 202 0 * σ 203 0).toNat = 6) → σ 201 f = z ∧ upr (upr (th σ 0) 201 (ups (σ 201) f v)) 230 (ups (σ 230) 0 0) = σ')
set_option maxRecDepth 100000 in
set_option maxHeartbeats 4000000 in
theorem c_X12_put (l : Launch) (D : va_G) (ad : Nat → Nat) (G : Nat → Nat) (ids : List Nat) (hJ : ∀ k, 100 ≤ k → k < 233 → k ∈ ids) (σ : Sg) (f v : Int) (hB : BG (mw σ)) (hC : BC (σ 201)) (hf : IR f) (hv : IR v) : MET l yX12_put cX12_put 4 (some .int) 3 [.ref (ad 100), .int (iI f), .int (iI v)] D ad G ids σ (QI D ad G ids (puPost f v σ)) := by
  have w1 : 3 ≤ σ 202 0 := hB.1
  have w2 : σ 202 0 ≤ 5 := hB.2.1
  have h1 : 3 ≤ σ 203 0 := hB.2.2.1
  have h2 : σ 203 0 ≤ 5 := hB.2.2.2
  have wb := wh_bd w1 w2 h1 h2
  have hf0 := hf
  have hv0 := hv
  unfold IR at hf hv
  have hcf := hC f
  have hct := cntF_le (c := σ 201) (v := v) (n := 0) (m := (σ 202 0 * σ 203 0).toNat) (Nat.zero_le _)
  refine x_enter (by decide) (Nat.le_of_ble_eq_true rfl) ?_
  intro pp ee ss mm args below meth cq C hr ls hl hM
  have hl : lv_has ls 4 [(0, .ref (ad 100)), (1, .int (iI f)), (2, .int (iI v))] := hl
  refine lv_aload_n C.1 C.2.1 dX12_put_0 rfl (lv_at hl 0 rfl) ?_
  refine lv_iconst (v := iI 0) C.1 C.2.1 dX12_put_1 (by decide) ?_
  refine p_X12_0 C hM (hJ 100 (by decide) (by decide)) wf_X12_64 dX12_put_2 (fun H1 lc1 hM => ?_)
  refine lv_aload_n C.1 C.2.1 dX12_put_5 rfl (lv_at hl 0 rfl) ?_
  refine lv_iload_n C.1 C.2.1 dX12_put_6 rfl (lv_at hl 1 rfl) ?_
  refine x_ci (x_runV (As := [.int (iI f)]) (rest := []) C (by omega) cw_X12_220 (c_X12_isField l D ad G ids hJ (upr σ 232 (ups (σ 232) 0 0)) f hB hf0) hM (hJ 100 (by decide) (by decide)) (cx_100 ad G _) rfl rfl rfl rfl (Nat.le_of_ble_eq_true rfl) hl.1 dX12_put_7) hM (fun r7 s7 H1 lc1 hp hM => ?_)
  obtain ⟨hbs7, rfl⟩ := hp
  have hbs7 : (if 0 ≤ f ∧ f < σ 202 0 * σ 203 0 then (1 : Int) else 0) = r7 := hbs7
  obtain ⟨ts7, ks7⟩ := ite01 hbs7
  refine x_if_ne C ⟨by omega, by omega⟩ (tgt := 19) dX12_put_10 (by decide) (fun c10 => ?_) (fun c10 => ?_)
  · refine lv_iload_n C.1 C.2.1 dX12_put_19 rfl (lv_at hl 2 rfl) ?_
    refine lv_iconst (v := iI 0) C.1 C.2.1 dX12_put_20 (by decide) ?_
    refine lv_iconst (v := iI 2) C.1 C.2.1 dX12_put_21 (by decide) ?_
    refine x_ci (x_runS (As := [.int (iI v), .int (iI 0), .int (iI 2)]) (rest := []) C (by omega) cw_X12_83 (c_X12_is l D ad G ids hJ (upr σ 232 (ups (σ 232) 0 0)) v 0 2 (by unfold IR; omega) (by unfold IR; omega) (by unfold IR; omega)) hM rfl rfl (Nat.le_of_ble_eq_true rfl) hl.1 dX12_put_22) hM (fun r22 s22 H1 lc1 hp hM => ?_)
    obtain ⟨hbs22, rfl⟩ := hp
    obtain ⟨ts22, ks22⟩ := ite01 hbs22
    refine x_if_ne C ⟨by omega, by omega⟩ (tgt := 34) dX12_put_25 (by decide) (fun c25 => ?_) (fun c25 => ?_)
    · refine lv_aload_n C.1 C.2.1 dX12_put_34 rfl (lv_at hl 0 rfl) ?_
      refine g_X12_3 C hM (hJ 100 (by decide) (by decide)) wf_X12_73 dX12_put_35 ?_
      refine lv_iload_n C.1 C.2.1 dX12_put_38 rfl (lv_at hl 1 rfl) ?_
      refine al_now C hM (hJ 101 (by decide) (by decide)) (wh := (σ 202 0 * σ 203 0)) rfl (by omega) (by omega) (by omega) dX12_put_39 ?_
      rw [upr_ne _ _ (show (201 : Nat) ≠ 232 by omega)]
      refine lv_istore_n (lv' := [(3, .int (iI (σ 201 f))), (0, .ref (ad 100)), (1, .int (iI f)), (2, .int (iI v))]) C.1 C.2.1 dX12_put_40 rfl hl (by decide) rfl (fun ls hl => ?_)
      refine lv_iload_n C.1 C.2.1 dX12_put_41 rfl (lv_at hl 3 rfl) ?_
      refine x_if_eq C ⟨by omega, by omega⟩ (tgt := 66) dX12_put_42 (by decide) (fun c42 => ?_) (fun c42 => ?_)
      · refine lv_aload_n C.1 C.2.1 dX12_put_66 rfl (lv_at hl 1 rfl) ?_
        refine g_X12_3 C hM (hJ 100 (by decide) (by decide)) wf_X12_73 dX12_put_67 ?_
        refine lv_iload_n C.1 C.2.1 dX12_put_70 rfl (lv_at hl 2 rfl) ?_
        refine lv_iload_n C.1 C.2.1 dX12_put_71 rfl (lv_at hl 3 rfl) ?_
        refine as_now C hM (hJ 101 (by decide) (by decide)) (wh := (σ 202 0 * σ 203 0)) rfl (by omega) (by omega) (by omega) dX12_put_72 (fun H1 lc1 hM => ?_)
        refine lv_aload_n C.1 C.2.1 dX12_put_73 rfl (lv_at hl 1 rfl) ?_
        refine lv_iconst (v := iI 0) C.1 C.2.1 dX12_put_74 (by decide) ?_
        refine p_X12_5 C hM (hJ 100 (by decide) (by decide)) wf_X12_76 dX12_put_75 (fun H1 lc1 hM => ?_)
        refine lv_iload_n C.1 C.2.1 dX12_put_78 rfl (lv_at hl 0 rfl) ?_
        exact x_iret C hr hM ⟨fun h => absurd (show 0 ≤ f ∧ f < σ 202 0 * σ 203 0 by omega) h, fun _ h => absurd (show 0 ≤ v ∧ v ≤ 2 by omega) h, fun _ _ h => absurd h (by omega), fun _ _ _ => ⟨rfl, rfl⟩⟩ dX12_put_79
      · refine lv_iload_n C.1 C.2.1 dX12_put_45 rfl (lv_at hl 0 rfl) ?_
        refine lv_iload_n C.1 C.2.1 dX12_put_46 rfl (lv_at hl 3 rfl) ?_
        refine x_icmp_eq C ⟨by omega, by omega⟩ ⟨by omega, by omega⟩ (tgt := 66) dX12_put_47 (by decide) (fun c47 => ?_) (fun c47 => ?_)
        · refine lv_aload_n C.1 C.2.1 dX12_put_66 rfl (lv_at hl 1 rfl) ?_
          refine g_X12_3 C hM (hJ 100 (by decide) (by decide)) wf_X12_73 dX12_put_67 ?_
          refine lv_iload_n C.1 C.2.1 dX12_put_70 rfl (lv_at hl 2 rfl) ?_
          refine lv_iload_n C.1 C.2.1 dX12_put_71 rfl (lv_at hl 3 rfl) ?_
          refine as_now C hM (hJ 101 (by decide) (by decide)) (wh := (σ 202 0 * σ 203 0)) rfl (by omega) (by omega) (by omega) dX12_put_72 (fun H1 lc1 hM => ?_)
          refine lv_aload_n C.1 C.2.1 dX12_put_73 rfl (lv_at hl 1 rfl) ?_
          refine lv_iconst (v := iI 0) C.1 C.2.1 dX12_put_74 (by decide) ?_
          refine p_X12_5 C hM (hJ 100 (by decide) (by decide)) wf_X12_76 dX12_put_75 (fun H1 lc1 hM => ?_)
          refine lv_iload_n C.1 C.2.1 dX12_put_78 rfl (lv_at hl 0 rfl) ?_
          exact x_iret C hr hM ⟨fun h => absurd (show 0 ≤ f ∧ f < σ 202 0 * σ 203 0 by omega) h, fun _ h => absurd (show 0 ≤ v ∧ v ≤ 2 by omega) h, fun _ _ h => absurd h (by omega), fun _ _ _ => ⟨rfl, rfl⟩⟩ dX12_put_79
        · refine lv_aload_n C.1 C.2.1 dX12_put_50 rfl (lv_at hl 1 rfl) ?_
          refine lv_iload_n C.1 C.2.1 dX12_put_51 rfl (lv_at hl 3 rfl) ?_
          refine x_ci (x_runV (As := [.int (iI v)]) (rest := []) C (by omega) cw_X12_223 (c_X12_pawns l D ad G ids hJ (upr σ 232 (ups (σ 232) 0 0)) v hB hC hv0) hM (hJ 100 (by decide) (by decide)) (cx_100 ad G _) rfl rfl rfl rfl (Nat.le_of_ble_eq_true rfl) hl.1 dX12_put_52) hM (fun r52 s52 H1 lc1 hp hM => ?_)
          obtain ⟨rfl, rfl⟩ := hp
          have hce : cntF (upr σ 232 (ups (σ 232) 0 0) 201) v (upr σ 232 (ups (σ 232) 0 0) 202 0 * upr σ 232 (ups (σ 232) 0 0) 203 0).toNat = cntF (σ 201) v (σ 202 0 * σ 203 0).toNat := rfl
          rw [hce]
          have hcnt : IR (cntF (σ 201) v (σ 202 0 * σ 203 0).toNat) := by
            have q := cntF_bd (σ 201) v (σ 202 0 * σ 203 0).toNat
            unfold IR; omega
          refine lv_bipush (v := iI 6) C.1 C.2.1 dX12_put_55 (by decide) ?_
          refine x_icmp_ne C hcnt ⟨by omega, by omega⟩ (tgt := 66) dX12_put_57 (by decide) (fun c57 => ?_) (fun c57 => ?_)
          · refine lv_aload_n C.1 C.2.1 dX12_put_66 rfl (lv_at hl 1 rfl) ?_
            refine g_X12_3 C hM (hJ 100 (by decide) (by decide)) wf_X12_73 dX12_put_67 ?_
            refine lv_iload_n C.1 C.2.1 dX12_put_70 rfl (lv_at hl 2 rfl) ?_
            refine lv_iload_n C.1 C.2.1 dX12_put_71 rfl (lv_at hl 3 rfl) ?_
            refine as_now C hM (hJ 101 (by decide) (by decide)) (wh := (σ 202 0 * σ 203 0)) rfl (by omega) (by omega) (by omega) dX12_put_72 (fun H1 lc1 hM => ?_)
            refine lv_aload_n C.1 C.2.1 dX12_put_73 rfl (lv_at hl 1 rfl) ?_
            refine lv_iconst (v := iI 0) C.1 C.2.1 dX12_put_74 (by decide) ?_
            refine p_X12_5 C hM (hJ 100 (by decide) (by decide)) wf_X12_76 dX12_put_75 (fun H1 lc1 hM => ?_)
            refine lv_iload_n C.1 C.2.1 dX12_put_78 rfl (lv_at hl 0 rfl) ?_
            exact x_iret C hr hM ⟨fun h => absurd (show 0 ≤ f ∧ f < σ 202 0 * σ 203 0 by omega) h, fun _ h => absurd (show 0 ≤ v ∧ v ≤ 2 by omega) h, fun _ _ h => absurd h (by omega), fun _ _ _ => ⟨rfl, rfl⟩⟩ dX12_put_79
          · refine lv_aload_n C.1 C.2.1 dX12_put_60 rfl (lv_at hl 1 rfl) ?_
            refine lv_iconst (v := iI 3) C.1 C.2.1 dX12_put_61 (by decide) ?_
            refine x_ci (x_runV (As := [.int (iI 3)]) (rest := []) C (by omega) cw_X12_217 (c_X12_refuse l D ad G ids hJ (upr σ 232 (ups (σ 232) 0 0)) 3) hM (hJ 100 (by decide) (by decide)) (cx_100 ad G _) rfl rfl rfl rfl (Nat.le_of_ble_eq_true rfl) hl.1 dX12_put_62) hM (fun r62 s62 H1 lc1 hp hM => ?_)
            obtain ⟨rfl, rfl⟩ := hp
            exact x_iret C hr hM ⟨fun h => absurd (show 0 ≤ f ∧ f < σ 202 0 * σ 203 0 by omega) h, fun _ h => absurd (show 0 ≤ v ∧ v ≤ 2 by omega) h, fun _ _ _ => ⟨rfl, (th_th σ 0 3).symm⟩, fun _ _ h => absurd (show v ≠ 0 ∧ σ 201 f ≠ v ∧ cntF (σ 201) v (σ 202 0 * σ 203 0).toNat = 6 by omega) h⟩ dX12_put_65
    · refine lv_aload_n C.1 C.2.1 dX12_put_28 rfl (lv_at hl 0 rfl) ?_
      refine lv_iconst (v := iI 2) C.1 C.2.1 dX12_put_29 (by decide) ?_
      refine x_ci (x_runV (As := [.int (iI 2)]) (rest := []) C (by omega) cw_X12_217 (c_X12_refuse l D ad G ids hJ (upr σ 232 (ups (σ 232) 0 0)) 2) hM (hJ 100 (by decide) (by decide)) (cx_100 ad G _) rfl rfl rfl rfl (Nat.le_of_ble_eq_true rfl) hl.1 dX12_put_30) hM (fun r30 s30 H1 lc1 hp hM => ?_)
      obtain ⟨rfl, rfl⟩ := hp
      exact x_iret C hr hM ⟨fun h => absurd (show 0 ≤ f ∧ f < σ 202 0 * σ 203 0 by omega) h, fun _ _ => ⟨rfl, (th_th σ 0 2).symm⟩, fun _ h => absurd h (by omega), fun _ h => absurd h (by omega)⟩ dX12_put_33
  · refine lv_aload_n C.1 C.2.1 dX12_put_13 rfl (lv_at hl 0 rfl) ?_
    refine lv_iconst (v := iI 1) C.1 C.2.1 dX12_put_14 (by decide) ?_
    refine x_ci (x_runV (As := [.int (iI 1)]) (rest := []) C (by omega) cw_X12_217 (c_X12_refuse l D ad G ids hJ (upr σ 232 (ups (σ 232) 0 0)) 1) hM (hJ 100 (by decide) (by decide)) (cx_100 ad G _) rfl rfl rfl rfl (Nat.le_of_ble_eq_true rfl) hl.1 dX12_put_15) hM (fun r15 s15 H1 lc1 hp hM => ?_)
    obtain ⟨rfl, rfl⟩ := hp
    exact x_iret C hr hM ⟨fun _ => ⟨rfl, (th_th σ 0 1).symm⟩, fun h => absurd h (by omega), fun h => absurd h (by omega), fun h => absurd h (by omega)⟩ dX12_put_18
