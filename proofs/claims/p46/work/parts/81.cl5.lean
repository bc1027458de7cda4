set_option maxRecDepth 100000 in
set_option maxHeartbeats 4000000 in
theorem c_X11_setUp (l : Launch) (hst : l.stackTraces = false) (D : va_G) (ad : Nat → Nat) (G : Nat → Nat) (ids : List Nat) (hI : ∀ k, k < 81 → k ∈ ids) (σ : Sg) (sa : Nat → Nat) (a b n : Int) (hcz : ∀ i : Int, (i < 0 ∨ 25 ≤ i) → σ 1 i = 0) (ha : IR a) (hb : IR b) (hn : IR n) : VME l yX11_setUp cX11_setUp 4 (some .int) 8 [.ref (ad 0), .int (iI a), .int (iI b), .int (iI n)] D ad G ids σ sa (QI D ad G ids (fun z σ' => C3f a b n ∧ 2 * n * a = z ∧ SAN (suW σ a b n) σ')) (fun E τ => σ = τ ∧ (E = "java/lang/IllegalArgumentException" ∧ ¬ C3f a b n)) := by
  unfold IR at ha hb hn
  refine x_enterV (by decide) (Nat.le_of_ble_eq_true rfl) ?_
  intro pp ee ss mm args below meth cq C hnx hTX hTZ hr ls hl hM
  have hM := hM.e
  have hl : lv_has ls 4 [(0, .ref (ad 0)), (1, .int (iI a)), (2, .int (iI b)), (3, .int (iI n))] := hl
  refine lv_iload_n C.1 C.2.1 dX11_setUp_0 rfl (lv_at hl 1 rfl) ?_
  refine lv_iconst (v := iI 3) C.1 C.2.1 dX11_setUp_1 (by decide) ?_
  refine lv_iconst (v := iI 5) C.1 C.2.1 dX11_setUp_2 (by decide) ?_
  refine x_ciA (fun q h => Or.inr h) (x_runSA (As := [.int (iI a), .int (iI 3), .int (iI 5)]) (rest := []) C (⟨by show _ ≤ (8 : Nat); omega, by show _ ≤ (40 * 8 : Nat); omega⟩) cw_X11_81 (MET.toA (c_X11_isWithin l D ad G ids hI σ a 3 5 (by unfold IR; omega) (by unfold IR; omega) (by unfold IR; omega))) hM.x rfl rfl (Nat.le_of_ble_eq_true rfl) hl.1 dX11_setUp_3 ⟨Nat.le_of_ble_eq_true rfl, Nat.le_of_ble_eq_true rfl⟩) hM (fun r3 s3 H1 lc1 hp hM => ?_)
  obtain ⟨hbs3, rfl⟩ := hp
  obtain ⟨ts3, ks3⟩ := ite01 hbs3
  refine x_if_eq C ⟨by omega, by omega⟩ (tgt := 18) dX11_setUp_6 (by decide) (fun c6 => ?_) (fun c6 => ?_)
  · exact x_throw (text := "columns or rows are not 3 to 5") C hst hnx hTX hTZ hM hl.1 (hat_IAE C.2.2.2.2.1 hTX) kx_IAE ix_IAE ot_IAE (by decide +kernel) (List.mem_of_getElem? (i := 0) rfl) (Nat.le_of_ble_eq_true rfl) dX11_setUp_18 dX11_setUp_21 dX11_setUp_22 dX11_setUp_24 dX11_setUp_27 ⟨Nat.le_of_ble_eq_true rfl, Nat.le_of_ble_eq_true rfl, Nat.le_of_ble_eq_true rfl, Nat.le_of_ble_eq_true rfl⟩ ⟨rfl, rfl, fun h => by obtain ⟨h1, h2, h3, h4, h5⟩ := h; omega⟩
  · refine lv_iload_n C.1 C.2.1 dX11_setUp_9 rfl (lv_at hl 2 rfl) ?_
    refine lv_iconst (v := iI 3) C.1 C.2.1 dX11_setUp_10 (by decide) ?_
    refine lv_iconst (v := iI 5) C.1 C.2.1 dX11_setUp_11 (by decide) ?_
    refine x_ciA (fun q h => Or.inr h) (x_runSA (As := [.int (iI b), .int (iI 3), .int (iI 5)]) (rest := []) C (⟨by show _ ≤ (8 : Nat); omega, by show _ ≤ (40 * 8 : Nat); omega⟩) cw_X11_81 (MET.toA (c_X11_isWithin l D ad G ids hI σ b 3 5 (by unfold IR; omega) (by unfold IR; omega) (by unfold IR; omega))) hM.x rfl rfl (Nat.le_of_ble_eq_true rfl) hl.1 dX11_setUp_12 ⟨Nat.le_of_ble_eq_true rfl, Nat.le_of_ble_eq_true rfl⟩) hM (fun r12 s12 H1 lc1 hp hM => ?_)
    obtain ⟨hbs12, rfl⟩ := hp
    obtain ⟨ts12, ks12⟩ := ite01 hbs12
    refine x_if_ne C ⟨by omega, by omega⟩ (tgt := 28) dX11_setUp_15 (by decide) (fun c15 => ?_) (fun c15 => ?_)
    · refine lv_iload_n C.1 C.2.1 dX11_setUp_28 rfl (lv_at hl 3 rfl) ?_
      refine lv_iconst (v := iI 1) C.1 C.2.1 dX11_setUp_29 (by decide) ?_
      refine x_icmp_lt C ⟨by omega, by omega⟩ ⟨by omega, by omega⟩ (tgt := 57) dX11_setUp_30 (by decide) (fun c30 => ?_) (fun c30 => ?_)
      · exact x_throw (text := "so many full rows do not fit") C hst hnx hTX hTZ hM hl.1 (hat_IAE C.2.2.2.2.1 hTX) kx_IAE ix_IAE ot_IAE (by decide +kernel) (List.mem_of_getElem? (i := 1) rfl) (Nat.le_of_ble_eq_true rfl) dX11_setUp_57 dX11_setUp_60 dX11_setUp_61 dX11_setUp_63 dX11_setUp_66 ⟨Nat.le_of_ble_eq_true rfl, Nat.le_of_ble_eq_true rfl, Nat.le_of_ble_eq_true rfl, Nat.le_of_ble_eq_true rfl⟩ ⟨rfl, rfl, fun h => by obtain ⟨h1, h2, h3, h4, h5⟩ := h; omega⟩
      · refine lv_ldc2 C.1 C.2.1 C.2.2.2.1 (C.2.2.2.2.1 _ wk_X11_92) dX11_setUp_33 ?_
        refine lv_iload_n C.1 C.2.1 dX11_setUp_36 rfl (lv_at hl 3 rfl) ?_
        refine x_i2l C ⟨by omega, by omega⟩ dX11_setUp_37 ?_
        refine x_lmul C dX11_setUp_38 ?_
        refine lv_iload_n C.1 C.2.1 dX11_setUp_39 rfl (lv_at hl 2 rfl) ?_
        refine x_i2l C ⟨by omega, by omega⟩ dX11_setUp_40 ?_
        refine x_lcmp C ⟨by omega, by omega⟩ ⟨by omega, by omega⟩ dX11_setUp_41 (fun z41 i41 e41 g41 => ?_)
        refine x_if_ge C ⟨by omega, by omega⟩ (tgt := 57) dX11_setUp_42 (by decide) (fun c42 => ?_) (fun c42 => ?_)
        · exact x_throw (text := "so many full rows do not fit") C hst hnx hTX hTZ hM hl.1 (hat_IAE C.2.2.2.2.1 hTX) kx_IAE ix_IAE ot_IAE (by decide +kernel) (List.mem_of_getElem? (i := 1) rfl) (Nat.le_of_ble_eq_true rfl) dX11_setUp_57 dX11_setUp_60 dX11_setUp_61 dX11_setUp_63 dX11_setUp_66 ⟨Nat.le_of_ble_eq_true rfl, Nat.le_of_ble_eq_true rfl, Nat.le_of_ble_eq_true rfl, Nat.le_of_ble_eq_true rfl⟩ ⟨rfl, rfl, fun h => by obtain ⟨h1, h2, h3, h4, h5⟩ := h; omega⟩
        · have hna : 0 ≤ n * a ∧ n * a ≤ 10 := by
            obtain h1 | h1 : n = 1 ∨ n = 2 := by omega
            · rw [h1]; omega
            · rw [h1]; omega
          refine lv_iload_n C.1 C.2.1 dX11_setUp_45 rfl (lv_at hl 3 rfl) ?_
          refine x_i2l C ⟨by omega, by omega⟩ dX11_setUp_46 ?_
          refine lv_iload_n C.1 C.2.1 dX11_setUp_47 rfl (lv_at hl 1 rfl) ?_
          refine x_i2l C ⟨by omega, by omega⟩ dX11_setUp_48 ?_
          refine x_lmul C dX11_setUp_49 ?_
          refine lv_ldc2 C.1 C.2.1 C.2.2.2.1 (C.2.2.2.2.1 _ wk_X11_94) dX11_setUp_50 ?_
          refine x_lcmp C ⟨by omega, by omega⟩ ⟨by omega, by omega⟩ dX11_setUp_53 (fun z53 i53 e53 g53 => ?_)
          refine x_if_le C ⟨by omega, by omega⟩ (tgt := 67) dX11_setUp_54 (by decide) (fun c54 => ?_) (fun c54 => ?_)
          · have hC3 : C3f a b n := ⟨by omega, by omega, by omega, by omega, by omega⟩
            have hbd := C3_bd hC3
            have hls := lay_same (c := σ 1) hcz hbd.1 hbd.2.1
            refine lv_aload_n C.1 C.2.1 dX11_setUp_67 rfl (lv_at hl 0 rfl) ?_
            refine g_X11_0 C hM.x (hI 0 (by decide)) wf_X11_13 dX11_setUp_68 ?_
            refine lv_iload_n C.1 C.2.1 dX11_setUp_71 rfl (lv_at hl 1 rfl) ?_
            refine lv_iload_n C.1 C.2.1 dX11_setUp_72 rfl (lv_at hl 2 rfl) ?_
            refine lv_iload_n C.1 C.2.1 dX11_setUp_73 rfl (lv_at hl 3 rfl) ?_
            refine x_cvA (fun q h => Or.inr h) (x_runVA (As := [.int (iI a), .int (iI b), .int (iI n)]) (rest := []) C (⟨by show _ ≤ (8 : Nat); omega, by show _ ≤ (40 * 8 : Nat); omega⟩) cw_X11_98 (MET.toA (c_X0_lay l D ad G ids (hI 1 (by decide)) (hI 2 (by decide)) σ a b n hbd.1 hbd.2.1)) hM.x (hI 1 (by decide)) (cx_1 ad G _) rfl rfl rfl rfl (Nat.le_of_ble_eq_true rfl) hl.1 dX11_setUp_74 ⟨Nat.le_of_ble_eq_true rfl, Nat.le_of_ble_eq_true rfl⟩) hM (fun s74 H1 lc1 hp hM => ?_)
            obtain rfl := hp
            refine lv_aload_n C.1 C.2.1 dX11_setUp_77 rfl (lv_at hl 0 rfl) ?_
            refine g_X11_4 C hM.x (hI 0 (by decide)) wf_X11_43 dX11_setUp_78 ?_
            refine x_cvA (fun q h => Or.inr h) (x_runVA (As := []) (rest := []) C (⟨by show _ ≤ (8 : Nat); omega, by show _ ≤ (40 * 8 : Nat); omega⟩) cw_X11_102 (MET.toA (c_X8_wipe l D ad G ids hI (laC σ a b (n * a)))) hM.x (hI 4 (by decide)) (cx_4 ad G _) rfl rfl rfl rfl (Nat.le_of_ble_eq_true rfl) hl.1 dX11_setUp_81 ⟨Nat.le_of_ble_eq_true rfl, Nat.le_of_ble_eq_true rfl⟩) hM (fun s81 H1 lc1 hp hM => ?_)
            obtain rfl := hp
            refine lv_aload_n C.1 C.2.1 dX11_setUp_84 rfl (lv_at hl 0 rfl) ?_
            refine x_cvA (fun q h => Or.inr h) (x_runVA (As := []) (rest := []) C (⟨by show _ ≤ (8 : Nat); omega, by show _ ≤ (40 * 8 : Nat); omega⟩) cw_X11_105 (MET.toA (c_X11_startAnew l D ad G ids hI (upr (laC σ a b (n * a)) 11 (wpF ((laC σ a b (n * a)) 11) 64)) (show 3 ≤ a ∧ a ≤ 5 ∧ 3 ≤ b ∧ b ≤ 5 by omega) (show BC (layN (a * b) (n * a) (σ 1) 25) by rw [hls]; exact layG_BC (fun _ => by decide)) (Or.inl rfl) (show PW (layN (a * b) (n * a) (σ 1) 25) by rw [hls]; exact lay_PW hC3))) hM.x (hI 0 (by decide)) (cx_0 ad G _) rfl rfl rfl rfl (Nat.le_of_ble_eq_true rfl) hl.1 dX11_setUp_85 ⟨Nat.le_of_ble_eq_true rfl, Nat.le_of_ble_eq_true rfl⟩) hM (fun s85 H1 lc1 hp hM => ?_)
            obtain hz : SAN _ _ := hp
            have hqs85 := hp
            refine lv_iconst (v := iI 2) C.1 C.2.1 dX11_setUp_88 (by decide) ?_
            refine lv_iload_n C.1 C.2.1 dX11_setUp_89 rfl (lv_at hl 3 rfl) ?_
            refine x_imul C dX11_setUp_90 ?_
            refine lv_iload_n C.1 C.2.1 dX11_setUp_91 rfl (lv_at hl 1 rfl) ?_
            refine x_imul C dX11_setUp_92 ?_
            refine W.widen (k := 1) (n := 6) (Nat.le_of_ble_eq_true rfl) (Nat.le_of_ble_eq_true rfl) ?_
            refine vx_ret ?_
            exact x_iret C hr hM.x ⟨hC3, rfl, hqs85⟩ dX11_setUp_93
          · exact x_throw (text := "so many full rows do not fit") C hst hnx hTX hTZ hM hl.1 (hat_IAE C.2.2.2.2.1 hTX) kx_IAE ix_IAE ot_IAE (by decide +kernel) (List.mem_of_getElem? (i := 1) rfl) (Nat.le_of_ble_eq_true rfl) dX11_setUp_57 dX11_setUp_60 dX11_setUp_61 dX11_setUp_63 dX11_setUp_66 ⟨Nat.le_of_ble_eq_true rfl, Nat.le_of_ble_eq_true rfl, Nat.le_of_ble_eq_true rfl, Nat.le_of_ble_eq_true rfl⟩ ⟨rfl, rfl, fun h => by obtain ⟨h1, h2, h3, h4, h5⟩ := h; omega⟩
    · exact x_throw (text := "columns or rows are not 3 to 5") C hst hnx hTX hTZ hM hl.1 (hat_IAE C.2.2.2.2.1 hTX) kx_IAE ix_IAE ot_IAE (by decide +kernel) (List.mem_of_getElem? (i := 0) rfl) (Nat.le_of_ble_eq_true rfl) dX11_setUp_18 dX11_setUp_21 dX11_setUp_22 dX11_setUp_24 dX11_setUp_27 ⟨Nat.le_of_ble_eq_true rfl, Nat.le_of_ble_eq_true rfl, Nat.le_of_ble_eq_true rfl, Nat.le_of_ble_eq_true rfl⟩ ⟨rfl, rfl, fun h => by obtain ⟨h1, h2, h3, h4, h5⟩ := h; omega⟩
set_option maxRecDepth 100000 in
set_option maxHeartbeats 4000000 in
theorem c_X11_put (l : Launch) (hst : l.stackTraces = false) (D : va_G) (ad : Nat → Nat) (G : Nat → Nat) (ids : List Nat) (hI : ∀ k, k < 81 → k ∈ ids) (σ : Sg) (sa : Nat → Nat) (f v : Int) (hG : GI σ) (hf : IR f) (hv : IR v) : VME l yX11_put cX11_put 4 (some .int) 7 [.ref (ad 0), .int (iI f), .int (iI v)] D ad G ids σ sa (QI D ad G ids (fun z σ' => ((0 ≤ f ∧ f < σ 2 0 * σ 3 0) ∧ (0 ≤ v ∧ v ≤ 2) ∧ ¬ (v ≠ 0 ∧ v ≠ σ 1 f ∧ 6 ≤ cntF (σ 1) v 25)) ∧ σ 1 f = z ∧ SAN (upr σ 1 (ups (σ 1) f v)) σ')) (fun E τ => σ = τ ∧ ((E = "java/lang/IndexOutOfBoundsException" ∧ ¬ (0 ≤ f ∧ f < σ 2 0 * σ 3 0)) ∨ (E = "java/lang/IllegalArgumentException" ∧ (0 ≤ f ∧ f < σ 2 0 * σ 3 0) ∧ ¬ (0 ≤ v ∧ v ≤ 2)) ∨ (E = "java/lang/IllegalStateException" ∧ (0 ≤ f ∧ f < σ 2 0 * σ 3 0) ∧ (0 ≤ v ∧ v ≤ 2) ∧ (v ≠ 0 ∧ v ≠ σ 1 f ∧ 6 ≤ cntF (σ 1) v 25)))) := by
  have hB := hG.1
  have w1 := hB.1
  have w2 := hB.2.1
  have h1 := hB.2.2.1
  have h2 := hB.2.2.2
  have wb := wh_bd w1 w2 h1 h2
  have hs := hG.2.2.1
  unfold IR at hf hv
  have hcf := hG.2.1 f
  have hcb := cntF_bd (σ 1) v 25
  refine x_enterV (by decide) (Nat.le_of_ble_eq_true rfl) ?_
  intro pp ee ss mm args below meth cq C hnx hTX hTZ hr ls hl hM
  have hM := hM.e
  have hl : lv_has ls 4 [(0, .ref (ad 0)), (1, .int (iI f)), (2, .int (iI v))] := hl
  refine lv_aload_n C.1 C.2.1 dX11_put_0 rfl (lv_at hl 0 rfl) ?_
  refine g_X11_0 C hM.x (hI 0 (by decide)) wf_X11_13 dX11_put_1 ?_
  refine lv_iload_n C.1 C.2.1 dX11_put_4 rfl (lv_at hl 1 rfl) ?_
  refine x_ciA (fun q h => Or.inr h) (x_runVA (As := [.int (iI f)]) (rest := []) C (⟨by show _ ≤ (7 : Nat); omega, by show _ ≤ (40 * 7 : Nat); omega⟩) cw_X11_108 (MET.toA (c_X0_isField l D ad G ids hI σ f ⟨by omega, by omega⟩ hG.1)) hM.x (hI 1 (by decide)) (cx_1 ad G _) rfl rfl rfl rfl (Nat.le_of_ble_eq_true rfl) hl.1 dX11_put_5 ⟨Nat.le_of_ble_eq_true rfl, Nat.le_of_ble_eq_true rfl⟩) hM (fun r5 s5 H1 lc1 hp hM => ?_)
  obtain ⟨hbs5, rfl⟩ := hp
  obtain ⟨ts5, ks5⟩ := ite01 hbs5
  refine x_if_ne C ⟨by omega, by omega⟩ (tgt := 21) dX11_put_8 (by decide) (fun c8 => ?_) (fun c8 => ?_)
  · refine lv_iload_n C.1 C.2.1 dX11_put_21 rfl (lv_at hl 2 rfl) ?_
    refine lv_iconst (v := iI 0) C.1 C.2.1 dX11_put_22 (by decide) ?_
    refine lv_iconst (v := iI 2) C.1 C.2.1 dX11_put_23 (by decide) ?_
    refine x_ciA (fun q h => Or.inr h) (x_runSA (As := [.int (iI v), .int (iI 0), .int (iI 2)]) (rest := []) C (⟨by show _ ≤ (7 : Nat); omega, by show _ ≤ (40 * 7 : Nat); omega⟩) cw_X11_81 (MET.toA (c_X11_isWithin l D ad G ids hI σ v 0 2 (by unfold IR; omega) (by unfold IR; omega) (by unfold IR; omega))) hM.x rfl rfl (Nat.le_of_ble_eq_true rfl) hl.1 dX11_put_24 ⟨Nat.le_of_ble_eq_true rfl, Nat.le_of_ble_eq_true rfl⟩) hM (fun r24 s24 H1 lc1 hp hM => ?_)
    obtain ⟨hbs24, rfl⟩ := hp
    obtain ⟨ts24, ks24⟩ := ite01 hbs24
    refine x_if_ne C ⟨by omega, by omega⟩ (tgt := 40) dX11_put_27 (by decide) (fun c27 => ?_) (fun c27 => ?_)
    · refine lv_aload_n C.1 C.2.1 dX11_put_40 rfl (lv_at hl 0 rfl) ?_
      refine g_X11_0 C hM.x (hI 0 (by decide)) wf_X11_13 dX11_put_41 ?_
      refine lv_iload_n C.1 C.2.1 dX11_put_44 rfl (lv_at hl 1 rfl) ?_
      refine x_ciA (fun q h => Or.inr h) (x_runVA (As := [.int (iI f)]) (rest := []) C (⟨by show _ ≤ (7 : Nat); omega, by show _ ≤ (40 * 7 : Nat); omega⟩) cw_X11_119 (MET.toA (c_X0_pawnAt l D ad G ids hI σ f ⟨by omega, by omega⟩)) hM.x (hI 1 (by decide)) (cx_1 ad G _) rfl rfl rfl rfl (Nat.le_of_ble_eq_true rfl) hl.1 dX11_put_45 ⟨Nat.le_of_ble_eq_true rfl, Nat.le_of_ble_eq_true rfl⟩) hM (fun r45 s45 H1 lc1 hp hM => ?_)
      obtain ⟨rfl, rfl⟩ := hp
      rw [if_pos (show 0 ≤ f ∧ f < 25 by omega)]
      refine lv_istore_n (lv' := [(3, .int (iI (σ 1 f))), (0, .ref (ad 0)), (1, .int (iI f)), (2, .int (iI v))]) C.1 C.2.1 dX11_put_48 rfl hl (by decide) rfl (fun ls hl => ?_)
      refine lv_iload_n C.1 C.2.1 dX11_put_49 rfl (lv_at hl 3 rfl) ?_
      refine x_if_eq C ⟨by omega, by omega⟩ (tgt := 81) dX11_put_50 (by decide) (fun c50 => ?_) (fun c50 => ?_)
      · refine lv_aload_n C.1 C.2.1 dX11_put_81 rfl (lv_at hl 1 rfl) ?_
        refine g_X11_0 C hM.x (hI 0 (by decide)) wf_X11_13 dX11_put_82 ?_
        refine lv_iload_n C.1 C.2.1 dX11_put_85 rfl (lv_at hl 2 rfl) ?_
        refine lv_iload_n C.1 C.2.1 dX11_put_86 rfl (lv_at hl 3 rfl) ?_
        refine x_cvA (fun q h => Or.inr h) (x_runVA (As := [.int (iI f), .int (iI v)]) (rest := []) C (⟨by show _ ≤ (7 : Nat); omega, by show _ ≤ (40 * 7 : Nat); omega⟩) cw_X11_131 (MET.toA (c_X0_layOn l D ad G ids hI σ f v hG.1 (by omega))) hM.x (hI 1 (by decide)) (cx_1 ad G _) rfl rfl rfl rfl (Nat.le_of_ble_eq_true rfl) hl.1 dX11_put_87 ⟨Nat.le_of_ble_eq_true rfl, Nat.le_of_ble_eq_true rfl⟩) hM (fun s87 H1 lc1 hp hM => ?_)
        obtain rfl := hp
        refine lv_aload_n C.1 C.2.1 dX11_put_90 rfl (lv_at hl 1 rfl) ?_
        refine x_cvA (fun q h => Or.inr h) (x_runVA (As := []) (rest := []) C (⟨by show _ ≤ (7 : Nat); omega, by show _ ≤ (40 * 7 : Nat); omega⟩) cw_X11_105 (MET.toA (c_X11_startAnew l D ad G ids hI (upr σ 1 (ups (σ 1) f v)) hG.1 (BC_ups hG.2.1 (by omega)) hs (PW_ups hG.2.2.2.1 (by omega) (by omega)))) hM.x (hI 0 (by decide)) (cx_0 ad G _) rfl rfl rfl rfl (Nat.le_of_ble_eq_true rfl) hl.1 dX11_put_91 ⟨Nat.le_of_ble_eq_true rfl, Nat.le_of_ble_eq_true rfl⟩) hM (fun s91 H1 lc1 hp hM => ?_)
        obtain hz : SAN _ _ := hp
        have hqs91 := hp
        refine lv_iload_n C.1 C.2.1 dX11_put_94 rfl (lv_at hl 0 rfl) ?_
        refine W.widen (k := 1) (n := 6) (Nat.le_of_ble_eq_true rfl) (Nat.le_of_ble_eq_true rfl) ?_
        refine vx_ret ?_
        exact x_iret C hr hM.x ⟨by omega, rfl, hqs91⟩ dX11_put_95
      · refine lv_iload_n C.1 C.2.1 dX11_put_53 rfl (lv_at hl 3 rfl) ?_
        refine lv_iload_n C.1 C.2.1 dX11_put_54 rfl (lv_at hl 0 rfl) ?_
        refine x_icmp_eq C ⟨by omega, by omega⟩ ⟨by omega, by omega⟩ (tgt := 81) dX11_put_55 (by decide) (fun c55 => ?_) (fun c55 => ?_)
        · refine lv_aload_n C.1 C.2.1 dX11_put_81 rfl (lv_at hl 1 rfl) ?_
          refine g_X11_0 C hM.x (hI 0 (by decide)) wf_X11_13 dX11_put_82 ?_
          refine lv_iload_n C.1 C.2.1 dX11_put_85 rfl (lv_at hl 2 rfl) ?_
          refine lv_iload_n C.1 C.2.1 dX11_put_86 rfl (lv_at hl 3 rfl) ?_
          refine x_cvA (fun q h => Or.inr h) (x_runVA (As := [.int (iI f), .int (iI v)]) (rest := []) C (⟨by show _ ≤ (7 : Nat); omega, by show _ ≤ (40 * 7 : Nat); omega⟩) cw_X11_131 (MET.toA (c_X0_layOn l D ad G ids hI σ f v hG.1 (by omega))) hM.x (hI 1 (by decide)) (cx_1 ad G _) rfl rfl rfl rfl (Nat.le_of_ble_eq_true rfl) hl.1 dX11_put_87 ⟨Nat.le_of_ble_eq_true rfl, Nat.le_of_ble_eq_true rfl⟩) hM (fun s87 H1 lc1 hp hM => ?_)
          obtain rfl := hp
          refine lv_aload_n C.1 C.2.1 dX11_put_90 rfl (lv_at hl 1 rfl) ?_
          refine x_cvA (fun q h => Or.inr h) (x_runVA (As := []) (rest := []) C (⟨by show _ ≤ (7 : Nat); omega, by show _ ≤ (40 * 7 : Nat); omega⟩) cw_X11_105 (MET.toA (c_X11_startAnew l D ad G ids hI (upr σ 1 (ups (σ 1) f v)) hG.1 (BC_ups hG.2.1 (by omega)) hs (PW_ups hG.2.2.2.1 (by omega) (by omega)))) hM.x (hI 0 (by decide)) (cx_0 ad G _) rfl rfl rfl rfl (Nat.le_of_ble_eq_true rfl) hl.1 dX11_put_91 ⟨Nat.le_of_ble_eq_true rfl, Nat.le_of_ble_eq_true rfl⟩) hM (fun s91 H1 lc1 hp hM => ?_)
          obtain hz : SAN _ _ := hp
          have hqs91 := hp
          refine lv_iload_n C.1 C.2.1 dX11_put_94 rfl (lv_at hl 0 rfl) ?_
          refine W.widen (k := 1) (n := 6) (Nat.le_of_ble_eq_true rfl) (Nat.le_of_ble_eq_true rfl) ?_
          refine vx_ret ?_
          exact x_iret C hr hM.x ⟨by omega, rfl, hqs91⟩ dX11_put_95
        · refine lv_aload_n C.1 C.2.1 dX11_put_58 rfl (lv_at hl 1 rfl) ?_
          refine g_X11_0 C hM.x (hI 0 (by decide)) wf_X11_13 dX11_put_59 ?_
          refine lv_iload_n C.1 C.2.1 dX11_put_62 rfl (lv_at hl 3 rfl) ?_
          refine x_ciA (fun q h => Or.inr h) (x_runVA (As := [.int (iI v)]) (rest := []) C (⟨by show _ ≤ (7 : Nat); omega, by show _ ≤ (40 * 7 : Nat); omega⟩) cw_X11_123 (MET.toA (c_X0_countPawns l D ad G ids hI σ v ⟨by omega, by omega⟩ hG.2.1)) hM.x (hI 1 (by decide)) (cx_1 ad G _) rfl rfl rfl rfl (Nat.le_of_ble_eq_true rfl) hl.1 dX11_put_63 ⟨Nat.le_of_ble_eq_true rfl, Nat.le_of_ble_eq_true rfl⟩) hM (fun r63 s63 H1 lc1 hp hM => ?_)
          obtain ⟨rfl, rfl⟩ := hp
          refine lv_bipush (v := iI 6) C.1 C.2.1 dX11_put_66 (by decide) ?_
          refine x_icmp_lt C ⟨by omega, by omega⟩ ⟨by omega, by omega⟩ (tgt := 81) dX11_put_68 (by decide) (fun c68 => ?_) (fun c68 => ?_)
          · refine lv_aload_n C.1 C.2.1 dX11_put_81 rfl (lv_at hl 1 rfl) ?_
            refine g_X11_0 C hM.x (hI 0 (by decide)) wf_X11_13 dX11_put_82 ?_
            refine lv_iload_n C.1 C.2.1 dX11_put_85 rfl (lv_at hl 2 rfl) ?_
            refine lv_iload_n C.1 C.2.1 dX11_put_86 rfl (lv_at hl 3 rfl) ?_
            refine x_cvA (fun q h => Or.inr h) (x_runVA (As := [.int (iI f), .int (iI v)]) (rest := []) C (⟨by show _ ≤ (7 : Nat); omega, by show _ ≤ (40 * 7 : Nat); omega⟩) cw_X11_131 (MET.toA (c_X0_layOn l D ad G ids hI σ f v hG.1 (by omega))) hM.x (hI 1 (by decide)) (cx_1 ad G _) rfl rfl rfl rfl (Nat.le_of_ble_eq_true rfl) hl.1 dX11_put_87 ⟨Nat.le_of_ble_eq_true rfl, Nat.le_of_ble_eq_true rfl⟩) hM (fun s87 H1 lc1 hp hM => ?_)
            obtain rfl := hp
            refine lv_aload_n C.1 C.2.1 dX11_put_90 rfl (lv_at hl 1 rfl) ?_
            refine x_cvA (fun q h => Or.inr h) (x_runVA (As := []) (rest := []) C (⟨by show _ ≤ (7 : Nat); omega, by show _ ≤ (40 * 7 : Nat); omega⟩) cw_X11_105 (MET.toA (c_X11_startAnew l D ad G ids hI (upr σ 1 (ups (σ 1) f v)) hG.1 (BC_ups hG.2.1 (by omega)) hs (PW_ups hG.2.2.2.1 (by omega) (by omega)))) hM.x (hI 0 (by decide)) (cx_0 ad G _) rfl rfl rfl rfl (Nat.le_of_ble_eq_true rfl) hl.1 dX11_put_91 ⟨Nat.le_of_ble_eq_true rfl, Nat.le_of_ble_eq_true rfl⟩) hM (fun s91 H1 lc1 hp hM => ?_)
            obtain hz : SAN _ _ := hp
            have hqs91 := hp
            refine lv_iload_n C.1 C.2.1 dX11_put_94 rfl (lv_at hl 0 rfl) ?_
            refine W.widen (k := 1) (n := 6) (Nat.le_of_ble_eq_true rfl) (Nat.le_of_ble_eq_true rfl) ?_
            refine vx_ret ?_
            exact x_iret C hr hM.x ⟨by omega, rfl, hqs91⟩ dX11_put_95
          · exact x_throw (text := "a side has at most 6 pawns") C hst hnx hTX hTZ hM hl.1 (hat_ISE C.2.2.2.2.1 hTX) kx_ISE ix_ISE ot_ISE (by decide +kernel) (List.mem_of_getElem? (i := 4) rfl) (Nat.le_of_ble_eq_true rfl) dX11_put_71 dX11_put_74 dX11_put_75 dX11_put_77 dX11_put_80 ⟨Nat.le_of_ble_eq_true rfl, Nat.le_of_ble_eq_true rfl, Nat.le_of_ble_eq_true rfl, Nat.le_of_ble_eq_true rfl⟩ ⟨rfl, Or.inr (Or.inr (⟨rfl, show (0 ≤ f ∧ f < σ 2 0 * σ 3 0) ∧ (0 ≤ v ∧ v ≤ 2) ∧ (v ≠ 0 ∧ v ≠ σ 1 f ∧ 6 ≤ cntF (σ 1) v 25) by omega⟩))⟩
    · exact x_throw (text := "what is not 0 to 2") C hst hnx hTX hTZ hM hl.1 (hat_IAE C.2.2.2.2.1 hTX) kx_IAE ix_IAE ot_IAE (by decide +kernel) (List.mem_of_getElem? (i := 3) rfl) (Nat.le_of_ble_eq_true rfl) dX11_put_30 dX11_put_33 dX11_put_34 dX11_put_36 dX11_put_39 ⟨Nat.le_of_ble_eq_true rfl, Nat.le_of_ble_eq_true rfl, Nat.le_of_ble_eq_true rfl, Nat.le_of_ble_eq_true rfl⟩ ⟨rfl, Or.inr (Or.inl ⟨rfl, show (0 ≤ f ∧ f < σ 2 0 * σ 3 0) ∧ ¬ (0 ≤ v ∧ v ≤ 2) by omega⟩)⟩
  · exact x_throw (text := "there is no such field") C hst hnx hTX hTZ hM hl.1 (hat_OOB C.2.2.2.2.1 hTX) kx_OOB ix_OOB ot_OOB (by decide +kernel) (List.mem_of_getElem? (i := 2) rfl) (Nat.le_of_ble_eq_true rfl) dX11_put_11 dX11_put_14 dX11_put_15 dX11_put_17 dX11_put_20 ⟨Nat.le_of_ble_eq_true rfl, Nat.le_of_ble_eq_true rfl, Nat.le_of_ble_eq_true rfl, Nat.le_of_ble_eq_true rfl⟩ ⟨rfl, Or.inl ⟨rfl, show ¬ (0 ≤ f ∧ f < σ 2 0 * σ 3 0) by omega⟩⟩
set_option maxRecDepth 100000 in
set_option maxHeartbeats 4000000 in
theorem c_X11_back (l : Launch) (hst : l.stackTraces = false) (D : va_G) (ad : Nat → Nat) (G : Nat → Nat) (ids : List Nat) (hI : ∀ k, k < 81 → k ∈ ids) (σ : Sg) (sa : Nat → Nat)  (hG : GI σ) (hTR : TRI σ) (hu : σ 30 0 ≠ 0 → OKM (σ 2 0 * σ 3 0) (σ 28 (σ 30 0 - 1)) ∧ BDG (σ 2 0 * σ 3 0) (unF (σ 1) (σ 28 (σ 30 0 - 1)) (σ 29 (σ 30 0 - 1)))) : VME l yX11_back cX11_back 1 (some .int) 7 [.ref (ad 0)] D ad G ids σ sa (QI D ad G ids (fun z σ' => σ 30 0 ≠ 0 ∧ σ 30 0 - 1 = z ∧ (∀ r : Nat, ¬ (40 ≤ r ∧ r < 46) → σ' r = upr (unG σ (σ 28 (σ 30 0 - 1)) (σ 29 (σ 30 0 - 1))) 30 (ups (σ 30) 0 (σ 30 0 - 1)) r) ∧ HLM σ')) (fun E τ => σ = τ ∧ (E = "java/lang/IllegalStateException" ∧ σ 30 0 = 0)) := by
  have hT2 : 0 ≤ σ 30 0 ∧ σ 30 0 ≤ 40 := hTR
  have hs := hG.2.2.1
  refine x_enterV (by decide) (Nat.le_of_ble_eq_true rfl) ?_
  intro pp ee ss mm args below meth cq C hnx hTX hTZ hr ls hl hM
  have hM := hM.e
  have hl : lv_has ls 1 [(0, .ref (ad 0))] := hl
  refine lv_aload_n C.1 C.2.1 dX11_back_0 rfl (lv_at hl 0 rfl) ?_
  refine g_X11_2 C hM.x (hI 0 (by decide)) wf_X11_29 dX11_back_1 ?_
  refine x_ciA (fun q h => Or.inr h) (x_runVA (As := []) (rest := []) C (⟨by show _ ≤ (7 : Nat); omega, by show _ ≤ (40 * 7 : Nat); omega⟩) cw_X11_153 (MET.toA (c_X9_length l D ad G ids hI σ)) hM.x (hI 21 (by decide)) (cx_21 ad G _) rfl rfl rfl rfl (Nat.le_of_ble_eq_true rfl) hl.1 dX11_back_4 ⟨Nat.le_of_ble_eq_true rfl, Nat.le_of_ble_eq_true rfl⟩) hM (fun r4 s4 H1 lc1 hp hM => ?_)
  obtain ⟨rfl, rfl⟩ := hp
  refine x_if_ne C ⟨by omega, by omega⟩ (tgt := 20) dX11_back_7 (by decide) (fun c7 => ?_) (fun c7 => ?_)
  · have hU := hu (by omega)
    refine lv_aload_n C.1 C.2.1 dX11_back_20 rfl (lv_at hl 0 rfl) ?_
    refine g_X11_0 C hM.x (hI 0 (by decide)) wf_X11_13 dX11_back_21 ?_
    refine lv_aload_n C.1 C.2.1 dX11_back_24 rfl (lv_at hl 0 rfl) ?_
    refine g_X11_2 C hM.x (hI 0 (by decide)) wf_X11_29 dX11_back_25 ?_
    refine x_ciA (fun q h => Or.inr h) (x_runVA (As := []) (rest := [.ref (ad 1)]) C (⟨by show _ ≤ (7 : Nat); omega, by show _ ≤ (40 * 7 : Nat); omega⟩) cw_X11_158 (MET.toA (c_X9_lastMove l D ad G ids hI σ (show 1 ≤ σ 30 0 ∧ σ 30 0 ≤ 40 by omega))) hM.x (hI 21 (by decide)) (cx_21 ad G _) rfl rfl rfl rfl (Nat.le_of_ble_eq_true rfl) hl.1 dX11_back_28 ⟨Nat.le_of_ble_eq_true rfl, Nat.le_of_ble_eq_true rfl⟩) hM (fun r28 s28 H1 lc1 hp hM => ?_)
    obtain ⟨rfl, rfl⟩ := hp
    refine lv_aload_n C.1 C.2.1 dX11_back_31 rfl (lv_at hl 0 rfl) ?_
    refine g_X11_2 C hM.x (hI 0 (by decide)) wf_X11_29 dX11_back_32 ?_
    refine x_ciA (fun q h => Or.inr h) (x_runVA (As := []) (rest := [.int (iI (σ 28 (σ 30 0 - 1))), .ref (ad 1)]) C (⟨by show _ ≤ (7 : Nat); omega, by show _ ≤ (40 * 7 : Nat); omega⟩) cw_X11_161 (MET.toA (c_X9_lastTaken l D ad G ids hI σ (show 1 ≤ σ 30 0 ∧ σ 30 0 ≤ 40 by omega))) hM.x (hI 21 (by decide)) (cx_21 ad G _) rfl rfl rfl rfl (Nat.le_of_ble_eq_true rfl) hl.1 dX11_back_35 ⟨Nat.le_of_ble_eq_true rfl, Nat.le_of_ble_eq_true rfl⟩) hM (fun r35 s35 H1 lc1 hp hM => ?_)
    obtain ⟨rfl, rfl⟩ := hp
    refine x_cvA (fun q h => Or.inr h) (x_runVA (As := [.int (iI (σ 28 (σ 30 0 - 1))), .int (iI (σ 29 (σ 30 0 - 1)))]) (rest := []) C (⟨by show _ ≤ (7 : Nat); omega, by show _ ≤ (40 * 7 : Nat); omega⟩) cw_X11_164 (MET.toA (c_X0_retreat l D ad G ids hI σ (σ 28 (σ 30 0 - 1)) (σ 29 (σ 30 0 - 1)) (hG).1 (hG).2.2.1 ⟨hU.1.1.1, hU.1.2.1, hU.1.2.2⟩)) hM.x (hI 1 (by decide)) (cx_1 ad G _) rfl rfl rfl rfl (Nat.le_of_ble_eq_true rfl) hl.1 dX11_back_38 ⟨Nat.le_of_ble_eq_true rfl, Nat.le_of_ble_eq_true rfl⟩) hM (fun s38 H1 lc1 hp hM => ?_)
    obtain rfl := hp
    refine lv_aload_n C.1 C.2.1 dX11_back_41 rfl (lv_at hl 0 rfl) ?_
    refine g_X11_2 C hM.x (hI 0 (by decide)) wf_X11_29 dX11_back_42 ?_
    refine x_cvA (fun q h => Or.inr h) (x_runVA (As := []) (rest := []) C (⟨by show _ ≤ (7 : Nat); omega, by show _ ≤ (40 * 7 : Nat); omega⟩) cw_X11_167 (MET.toA (c_X9_dropLast l D ad G ids hI (unG σ (σ 28 (σ 30 0 - 1)) (σ 29 (σ 30 0 - 1))) (show 1 ≤ σ 30 0 ∧ σ 30 0 ≤ 40 by omega))) hM.x (hI 21 (by decide)) (cx_21 ad G _) rfl rfl rfl rfl (Nat.le_of_ble_eq_true rfl) hl.1 dX11_back_45 ⟨Nat.le_of_ble_eq_true rfl, Nat.le_of_ble_eq_true rfl⟩) hM (fun s45 H1 lc1 hp hM => ?_)
    obtain rfl := hp
    refine lv_aload_n C.1 C.2.1 dX11_back_48 rfl (lv_at hl 0 rfl) ?_
    refine g_X11_0 C hM.x (hI 0 (by decide)) wf_X11_13 dX11_back_49 ?_
    refine lv_aload_n C.1 C.2.1 dX11_back_52 rfl (lv_at hl 0 rfl) ?_
    refine g_X11_1 C hM.x (hI 0 (by decide)) wf_X11_22 dX11_back_53 ?_
    refine x_cvA (fun q h => Or.inr h) (x_runVA (As := [.ref (ad (26 + 5 * 0))]) (rest := []) C (⟨by show _ ≤ (7 : Nat); omega, by show _ ≤ (40 * 7 : Nat); omega⟩) cw_X11_77 (MET.toA (c_X0_listMoves l D ad G ids hI (upr (unG σ (σ 28 (σ 30 0 - 1)) (σ 29 (σ 30 0 - 1))) 30 (ups ((unG σ (σ 28 (σ 30 0 - 1)) (σ 29 (σ 30 0 - 1))) 30) 0 ((unG σ (σ 28 (σ 30 0 - 1)) (σ 29 (σ 30 0 - 1))) 30 0 - 1))) 0 (by decide) ((show _ ∧ _ ∧ _ ∧ _ ∧ True from ⟨hG.1, hU.2.1, (show 1 - σ 4 0 = 0 ∨ 1 - σ 4 0 = 1 by omega), hU.2.2.1, trivial⟩)).1 ((show _ ∧ _ ∧ _ ∧ _ ∧ True from ⟨hG.1, hU.2.1, (show 1 - σ 4 0 = 0 ∨ 1 - σ 4 0 = 1 by omega), hU.2.2.1, trivial⟩)).2.1 ((show _ ∧ _ ∧ _ ∧ _ ∧ True from ⟨hG.1, hU.2.1, (show 1 - σ 4 0 = 0 ∨ 1 - σ 4 0 = 1 by omega), hU.2.2.1, trivial⟩)).2.2.1 ((show _ ∧ _ ∧ _ ∧ _ ∧ True from ⟨hG.1, hU.2.1, (show 1 - σ 4 0 = 0 ∨ 1 - σ 4 0 = 1 by omega), hU.2.2.1, trivial⟩)).2.2.2.1)) hM.x (hI 1 (by decide)) (cx_1 ad G _) rfl rfl rfl rfl (Nat.le_of_ble_eq_true rfl) hl.1 dX11_back_56 ⟨Nat.le_of_ble_eq_true rfl, Nat.le_of_ble_eq_true rfl⟩) hM (fun s56 H1 lc1 hp hM => ?_)
    obtain ⟨hos56, hLs56⟩ := hp
    refine lv_aload_n C.1 C.2.1 dX11_back_59 rfl (lv_at hl 0 rfl) ?_
    refine g_X11_2 C hM.x (hI 0 (by decide)) wf_X11_29 dX11_back_60 ?_
    refine x_ciA (fun q h => Or.inr h) (x_runVA (As := []) (rest := []) C (⟨by show _ ≤ (7 : Nat); omega, by show _ ≤ (40 * 7 : Nat); omega⟩) cw_X11_153 (MET.toA (c_X9_length l D ad G ids hI s56)) hM.x (hI 21 (by decide)) (cx_21 ad G _) rfl rfl rfl rfl (Nat.le_of_ble_eq_true rfl) hl.1 dX11_back_63 ⟨Nat.le_of_ble_eq_true rfl, Nat.le_of_ble_eq_true rfl⟩) hM (fun r63 s63 H1 lc1 hp hM => ?_)
    obtain ⟨rfl, rfl⟩ := hp
    refine W.widen (k := 1) (n := 6) (Nat.le_of_ble_eq_true rfl) (Nat.le_of_ble_eq_true rfl) ?_
    refine vx_ret ?_
    refine x_iret C hr hM.x ?_ dX11_back_66
    exact ⟨by omega, by rw [hos56 30 (by omega)]; rfl, fun r hr => hos56 r (by omega), by
      unfold HLM
      have e := fun r hr => hos56.lo (r := r) hr
      rw [e 1 (by decide), e 2 (by decide), e 3 (by decide), e 4 (by decide)]
      exact hLs56⟩
  · exact x_throw (text := "there is nothing to take back") C hst hnx hTX hTZ hM hl.1 (hat_ISE C.2.2.2.2.1 hTX) kx_ISE ix_ISE ot_ISE (by decide +kernel) (List.mem_of_getElem? (i := 7) rfl) (Nat.le_of_ble_eq_true rfl) dX11_back_10 dX11_back_13 dX11_back_14 dX11_back_16 dX11_back_19 ⟨Nat.le_of_ble_eq_true rfl, Nat.le_of_ble_eq_true rfl, Nat.le_of_ble_eq_true rfl, Nat.le_of_ble_eq_true rfl⟩ ⟨rfl, rfl, by omega⟩
set_option maxRecDepth 100000 in
set_option maxHeartbeats 4000000 in
theorem c_X11_search (l : Launch) (hst : l.stackTraces = false) (D : va_G) (ad : Nat → Nat) (G : Nat → Nat) (ids : List Nat) (hI : ∀ k, k < 81 → k ∈ ids) (σ : Sg) (sa : Nat → Nat) (d : Int) (hG : GI σ) (hL : LM σ 0 (MLs (σ 1) (σ 2 0) (σ 3 0) (σ 4 0)) (σ 1)) (hTI : TI σ) (hd : IR d) : VME l yX11_search cX11_search 2 (some .int) 42 [.ref (ad 0), .int (iI d)] D ad G ids σ sa (QI D ad G ids (fun z σ' => ((1 ≤ d ∧ d ≤ 4) ∧ (MLs (σ 1) (σ 2 0) (σ 3 0) (σ 4 0)) ≠ []) ∧ (skp (cfg σ) (σ 1) (σ 4 0) d.toNat 1 0 0 (σ 20 0) (clrT (tv σ))).1 = z ∧ SRC d.toNat σ σ')) (fun E τ => σ = τ ∧ ((E = "java/lang/IllegalArgumentException" ∧ ¬ (1 ≤ d ∧ d ≤ 4)) ∨ (E = "java/lang/IllegalStateException" ∧ (1 ≤ d ∧ d ≤ 4) ∧ (MLs (σ 1) (σ 2 0) (σ 3 0) (σ 4 0)) = []))) := by
  have h18 : (MLs (σ 1) (σ 2 0) (σ 3 0) (σ 4 0)).length ≤ 18 := MLs18 hG
  have hMB : ∀ v, v ∈ (MLs (σ 1) (σ 2 0) (σ 3 0) (σ 4 0)) → 0 ≤ v ∧ v < 2500 := MLsMB hG
  unfold IR at hd
  refine x_enterV (by decide) (Nat.le_of_ble_eq_true rfl) ?_
  intro pp ee ss mm args below meth cq C hnx hTX hTZ hr ls hl hM
  have hM := hM.e
  have hl : lv_has ls 2 [(0, .ref (ad 0)), (1, .int (iI d))] := hl
  refine lv_iload_n C.1 C.2.1 dX11_search_0 rfl (lv_at hl 1 rfl) ?_
  refine lv_iconst (v := iI 1) C.1 C.2.1 dX11_search_1 (by decide) ?_
  refine lv_iconst (v := iI 4) C.1 C.2.1 dX11_search_2 (by decide) ?_
  refine x_ciA (fun q h => Or.inr h) (x_runSA (As := [.int (iI d), .int (iI 1), .int (iI 4)]) (rest := []) C (⟨by show _ ≤ (42 : Nat); omega, by show _ ≤ (40 * 42 : Nat); omega⟩) cw_X11_81 (MET.toA (c_X11_isWithin l D ad G ids hI σ d 1 4 (by unfold IR; omega) (by unfold IR; omega) (by unfold IR; omega))) hM.x rfl rfl (Nat.le_of_ble_eq_true rfl) hl.1 dX11_search_3 ⟨Nat.le_of_ble_eq_true rfl, Nat.le_of_ble_eq_true rfl⟩) hM (fun r3 s3 H1 lc1 hp hM => ?_)
  obtain ⟨hbs3, rfl⟩ := hp
  obtain ⟨ts3, ks3⟩ := ite01 hbs3
  refine x_if_ne C ⟨by omega, by omega⟩ (tgt := 19) dX11_search_6 (by decide) (fun c6 => ?_) (fun c6 => ?_)
  · refine lv_aload_n C.1 C.2.1 dX11_search_19 rfl (lv_at hl 0 rfl) ?_
    refine x_ciA (fun q h => Or.inr h) (x_runVA (As := []) (rest := []) C (⟨by show _ ≤ (42 : Nat); omega, by show _ ≤ (40 * 42 : Nat); omega⟩) cw_X11_217 (MET.toA (c_X11_isOver l D ad G ids hI σ (MLs (σ 1) (σ 2 0) (σ 3 0) (σ 4 0)) (σ 1) hL h18)) hM.x (hI 0 (by decide)) (cx_0 ad G _) rfl rfl rfl rfl (Nat.le_of_ble_eq_true rfl) hl.1 dX11_search_20 ⟨Nat.le_of_ble_eq_true rfl, Nat.le_of_ble_eq_true rfl⟩) hM (fun r20 s20 H1 lc1 hp hM => ?_)
    obtain ⟨hbs20, rfl⟩ := hp
    obtain ⟨ts20, ks20⟩ := ite01 hbs20
    refine x_if_eq C ⟨by omega, by omega⟩ (tgt := 36) dX11_search_23 (by decide) (fun c23 => ?_) (fun c23 => ?_)
    · refine lv_aload_n C.1 C.2.1 dX11_search_36 rfl (lv_at hl 0 rfl) ?_
      refine g_X11_6 C hM.x (hI 0 (by decide)) wf_X11_66 dX11_search_37 ?_
      refine lv_iload_n C.1 C.2.1 dX11_search_40 rfl (lv_at hl 1 rfl) ?_
      refine x_ciA (fun q h => Or.inr h) (x_runVA (As := [.int (iI d)]) (rest := []) C (⟨by show _ ≤ (42 : Nat); omega, by show _ ≤ (40 * 42 : Nat); omega⟩) cw_X11_243 (MET.toA (c_X7_seek l D ad G ids hI σ d.toNat d (by omega) (by omega) (hG) (hTI))) hM.x (hI 13 (by decide)) (cx_13 ad G _) rfl rfl rfl rfl (Nat.le_of_ble_eq_true rfl) hl.1 dX11_search_41 ⟨Nat.le_of_ble_eq_true rfl, Nat.le_of_ble_eq_true rfl⟩) hM (fun r41 s41 H1 lc1 hp hM => ?_)
      obtain ⟨hzs41, hts41, hns41, hrs41, hfs41⟩ := hp
      refine W.widen (k := 1) (n := 6) (Nat.le_of_ble_eq_true rfl) (Nat.le_of_ble_eq_true rfl) ?_
      refine vx_ret ?_
      exact x_iret C hr hM.x ⟨⟨by omega, fun h => absurd (ks20.mpr h) (by omega)⟩, hzs41, hts41, hns41, hrs41, hfs41⟩ dX11_search_44
    · exact x_throw (text := "the position is lost") C hst hnx hTX hTZ hM hl.1 (hat_ISE C.2.2.2.2.1 hTX) kx_ISE ix_ISE ot_ISE (by decide +kernel) (List.mem_of_getElem? (i := 13) rfl) (Nat.le_of_ble_eq_true rfl) dX11_search_26 dX11_search_29 dX11_search_30 dX11_search_32 dX11_search_35 ⟨Nat.le_of_ble_eq_true rfl, Nat.le_of_ble_eq_true rfl, Nat.le_of_ble_eq_true rfl, Nat.le_of_ble_eq_true rfl⟩ ⟨rfl, Or.inr (⟨rfl, ⟨by omega, ks20.mp (by omega)⟩⟩)⟩
  · exact x_throw (text := "depth is not 1 to 4") C hst hnx hTX hTZ hM hl.1 (hat_IAE C.2.2.2.2.1 hTX) kx_IAE ix_IAE ot_IAE (by decide +kernel) (List.mem_of_getElem? (i := 12) rfl) (Nat.le_of_ble_eq_true rfl) dX11_search_9 dX11_search_12 dX11_search_13 dX11_search_15 dX11_search_18 ⟨Nat.le_of_ble_eq_true rfl, Nat.le_of_ble_eq_true rfl, Nat.le_of_ble_eq_true rfl, Nat.le_of_ble_eq_true rfl⟩ ⟨rfl, Or.inl ⟨rfl, show ¬ (1 ≤ d ∧ d ≤ 4) by omega⟩⟩
set_option maxRecDepth 100000 in
set_option maxHeartbeats 4000000 in
theorem c_X11_playOut (l : Launch) (hst : l.stackTraces = false) (D : va_G) (ad : Nat → Nat) (G : Nat → Nat) (ids : List Nat) (hI : ∀ k, k < 81 → k ∈ ids) (σ : Sg) (sa : Nat → Nat) (d m : Int) (hN : INV σ) (hH : HLM σ) (hd : IR d) (hm : IR m) : VME l yX11_playOut cX11_playOut 4 (some .int) 43 [.ref (ad 0), .int (iI d), .int (iI m)] D ad G ids σ sa (QI D ad G ids (fun z σ' => ((1 ≤ d ∧ d ≤ 3) ∧ 1 ≤ m ∧ m ≤ 10) ∧ cpQ d.toNat m.toNat σ z σ')) (fun E τ => σ = τ ∧ (E = "java/lang/IllegalArgumentException" ∧ ¬ ((1 ≤ d ∧ d ≤ 3) ∧ 1 ≤ m ∧ m ≤ 10))) := by
  unfold IR at hd hm
  refine x_enterV (by decide) (Nat.le_of_ble_eq_true rfl) ?_
  intro pp ee ss mm args below meth cq C hnx hTX hTZ hr ls hl hM
  have hM := hM.e
  have hl : lv_has ls 4 [(0, .ref (ad 0)), (1, .int (iI d)), (2, .int (iI m))] := hl
  refine lv_iload_n C.1 C.2.1 dX11_playOut_0 rfl (lv_at hl 1 rfl) ?_
  refine lv_iconst (v := iI 1) C.1 C.2.1 dX11_playOut_1 (by decide) ?_
  refine lv_iconst (v := iI 3) C.1 C.2.1 dX11_playOut_2 (by decide) ?_
  refine x_ciA (fun q h => Or.inr h) (x_runSA (As := [.int (iI d), .int (iI 1), .int (iI 3)]) (rest := []) C (⟨by show _ ≤ (43 : Nat); omega, by show _ ≤ (40 * 43 : Nat); omega⟩) cw_X11_81 (MET.toA (c_X11_isWithin l D ad G ids hI σ d 1 3 (by unfold IR; omega) (by unfold IR; omega) (by unfold IR; omega))) hM.x rfl rfl (Nat.le_of_ble_eq_true rfl) hl.1 dX11_playOut_3 ⟨Nat.le_of_ble_eq_true rfl, Nat.le_of_ble_eq_true rfl⟩) hM (fun r3 s3 H1 lc1 hp hM => ?_)
  obtain ⟨hbs3, rfl⟩ := hp
  obtain ⟨ts3, ks3⟩ := ite01 hbs3
  refine x_if_ne C ⟨by omega, by omega⟩ (tgt := 19) dX11_playOut_6 (by decide) (fun c6 => ?_) (fun c6 => ?_)
  · refine lv_iload_n C.1 C.2.1 dX11_playOut_19 rfl (lv_at hl 2 rfl) ?_
    refine lv_iconst (v := iI 1) C.1 C.2.1 dX11_playOut_20 (by decide) ?_
    refine lv_bipush (v := iI 10) C.1 C.2.1 dX11_playOut_21 (by decide) ?_
    refine x_ciA (fun q h => Or.inr h) (x_runSA (As := [.int (iI m), .int (iI 1), .int (iI 10)]) (rest := []) C (⟨by show _ ≤ (43 : Nat); omega, by show _ ≤ (40 * 43 : Nat); omega⟩) cw_X11_81 (MET.toA (c_X11_isWithin l D ad G ids hI σ m 1 10 (by unfold IR; omega) (by unfold IR; omega) (by unfold IR; omega))) hM.x rfl rfl (Nat.le_of_ble_eq_true rfl) hl.1 dX11_playOut_23 ⟨Nat.le_of_ble_eq_true rfl, Nat.le_of_ble_eq_true rfl⟩) hM (fun r23 s23 H1 lc1 hp hM => ?_)
    obtain ⟨hbs23, rfl⟩ := hp
    obtain ⟨ts23, ks23⟩ := ite01 hbs23
    refine x_if_ne C ⟨by omega, by omega⟩ (tgt := 40) dX11_playOut_26 (by decide) (fun c26 => ?_) (fun c26 => ?_)
    · refine lv_iconst (v := iI 0) C.1 C.2.1 dX11_playOut_40 (by decide) ?_
      refine lv_istore_n (lv' := [(3, .int (iI 0)), (0, .ref (ad 0)), (1, .int (iI d)), (2, .int (iI m))]) C.1 C.2.1 dX11_playOut_41 rfl hl (by decide) rfl (fun ls hl => ?_)
      have L42 : ∀ (fu : Nat) (c : Int) (s1 : Sg) (H1 : Heap) (lc1 : List Loc) (ls1 : Array Slot), (0 ≤ c ∧ c ≤ m) → (INV s1) → (HLM s1) → (∀ (z : Int) (σ' : Sg), cpQ d.toNat (m - c).toNat s1 (z - c) σ' → cpQ d.toNat m.toNat σ z σ') → (20 - c).toNat < fu → XE D ad G ids (AN ad ids ss.heap.size) ss.heap H1 lc1 s1 [] → lv_has ls1 4 [(3, .int (iI c)), (0, .ref (ad 0)), (1, .int (iI d)), (2, .int (iI m))] → W pp l ee (rma 43 1 6) ss mm args below meth cq H1 lc1 0 0 (vx_MQ below (QI D ad G ids (fun z σ' => ((1 ≤ d ∧ d ≤ 3) ∧ 1 ≤ m ∧ m ≤ 10) ∧ cpQ d.toNat m.toNat σ z σ') ss.heap.size) (XQ D ad G ids (fun E τ => σ = τ ∧ (E = "java/lang/IllegalArgumentException" ∧ ¬ ((1 ≤ d ∧ d ≤ 3) ∧ 1 ≤ m ∧ m ≤ 10))) ss.heap.size) args ss 1 6 (AN ad ids ss.heap.size)) (F0 mm 42 ls1 []) := by
        intro fu
        induction fu with
        | zero => intro c s1 H1 lc1 ls1 c0 hN1 hH1 hq hfu; exact absurd hfu (Nat.not_lt_zero _)
        | succ fu ih42 =>
          intro c s1 H1 lc1 ls1 c0 hN1 hH1 hq hfu hM hl
          refine lv_iload_n C.1 C.2.1 dX11_playOut_42 rfl (lv_at hl 0 rfl) ?_
          refine lv_iload_n C.1 C.2.1 dX11_playOut_43 rfl (lv_at hl 3 rfl) ?_
          refine x_icmp_ge C ⟨by omega, by omega⟩ ⟨by omega, by omega⟩ (tgt := 66) dX11_playOut_44 (by decide) (fun c44 => ?_) (fun c44 => ?_)
          · refine lv_iload_n C.1 C.2.1 dX11_playOut_66 rfl (lv_at hl 0 rfl) ?_
            refine W.widen (k := 1) (n := 6) (Nat.le_of_ble_eq_true rfl) (Nat.le_of_ble_eq_true rfl) ?_
            refine vx_ret ?_
            refine x_iret C hr hM.x ?_ dX11_playOut_67
            exact ⟨show (1 ≤ d ∧ d ≤ 3) ∧ 1 ≤ m ∧ m ≤ 10 by omega, hq c _ (by
              rw [show c - c = 0 by omega]
              by_cases e : c < m
              · rw [show (m - c).toNat = (m - (c + 1)).toNat + 1 by omega]
                first | exact ⟨fun _ => ⟨by omega, rfl⟩, fun h => absurd (ks48.mp (by omega)) h⟩ | (exfalso; omega)
              · rw [show (m - c).toNat = 0 by omega]
                exact ⟨rfl, rfl⟩)⟩
          · refine lv_aload_n C.1 C.2.1 dX11_playOut_47 rfl (lv_at hl 1 rfl) ?_
            refine x_ciA (fun q h => Or.inr h) (x_runVA (As := []) (rest := []) C (⟨by show _ ≤ (43 : Nat); omega, by show _ ≤ (40 * 43 : Nat); omega⟩) cw_X11_217 (MET.toA (c_X11_isOver l D ad G ids hI s1 (MLs (s1 1) (s1 2 0) (s1 3 0) (s1 4 0)) (s1 1) hH1 (MLs18 hN1.1))) hM.x (hI 0 (by decide)) (cx_0 ad G _) rfl rfl rfl rfl (Nat.le_of_ble_eq_true rfl) hl.1 dX11_playOut_48 ⟨Nat.le_of_ble_eq_true rfl, Nat.le_of_ble_eq_true rfl⟩) hM (fun r48 s48 H1 lc1 hp hM => ?_)
            obtain ⟨hbs48, rfl⟩ := hp
            obtain ⟨ts48, ks48⟩ := ite01 hbs48
            refine x_if_ne C ⟨by omega, by omega⟩ (tgt := 66) dX11_playOut_51 (by decide) (fun c51 => ?_) (fun c51 => ?_)
            · refine lv_iload_n C.1 C.2.1 dX11_playOut_66 rfl (lv_at hl 0 rfl) ?_
              refine W.widen (k := 1) (n := 6) (Nat.le_of_ble_eq_true rfl) (Nat.le_of_ble_eq_true rfl) ?_
              refine vx_ret ?_
              refine x_iret C hr hM.x ?_ dX11_playOut_67
              exact ⟨show (1 ≤ d ∧ d ≤ 3) ∧ 1 ≤ m ∧ m ≤ 10 by omega, hq c _ (by
                rw [show c - c = 0 by omega]
                by_cases e : c < m
                · rw [show (m - c).toNat = (m - (c + 1)).toNat + 1 by omega]
                  first | exact ⟨fun _ => ⟨by omega, rfl⟩, fun h => absurd (ks48.mp (by omega)) h⟩ | (exfalso; omega)
                · rw [show (m - c).toNat = 0 by omega]
                  exact ⟨rfl, rfl⟩)⟩
            · have hne51 : (MLs (s1 1) (s1 2 0) (s1 3 0) (s1 4 0)) ≠ [] := fun h => absurd (ks48.mpr h) (by omega)
              refine lv_aload_n C.1 C.2.1 dX11_playOut_54 rfl (lv_at hl 1 rfl) ?_
              refine lv_iload_n C.1 C.2.1 dX11_playOut_55 rfl (lv_at hl 2 rfl) ?_
              refine x_ciA (fun q h => Or.inr h) (x_runVA (As := [.int (iI d)]) (rest := []) C (⟨by show _ ≤ (43 : Nat); omega, by show _ ≤ (40 * 43 : Nat); omega⟩) cw_X11_302 (MET.toA (c_X11_goOn l D ad G ids hI s1 d (by omega) hN1.1 hH1 hN1.2.1 hN1.2.2.1 hN1.2.2.2.1 hN1.2.2.2.2.1 hN1.2.2.2.2.2.1 hne51)) hM.x (hI 0 (by decide)) (cx_0 ad G _) rfl rfl rfl rfl (Nat.le_of_ble_eq_true rfl) hl.1 dX11_playOut_56 ⟨Nat.le_of_ble_eq_true rfl, Nat.le_of_ble_eq_true rfl⟩) hM (fun r56 s56 H1 lc1 hp hM => ?_)
              obtain hz : cgQ _ _ _ _ := hp
              have hqs56 := hp
              refine lv_pop C.1 C.2.1 dX11_playOut_59 rfl ?_
              refine x_iinc (lv1 := [(3, .int (iI (c + 1))), (0, .ref (ad 0)), (1, .int (iI d)), (2, .int (iI m))]) C dX11_playOut_60 hl (k := 0) rfl (by decide) rfl (fun ls hl => ?_)
              refine lv_goto (tgt := 42) C.1 C.2.1 dX11_playOut_63 (by decide) ?_
              exact ih42 (c + 1) s56 _ _ _ (by omega) (cgQ_ok hqs56 (by omega) hN1 hne51).1 (cgQ_ok hqs56 (by omega) hN1 hne51).2 (fun z σ' q => hq z σ' (by
                rw [show (m - c).toNat = (m - (c + 1)).toNat + 1 by omega]
                refine ⟨fun e => absurd e hne51, fun _ => ⟨_, _, hqs56, ?_⟩⟩
                rw [show z - c - 1 = z - (c + 1) by omega]; exact q)) (by omega) hM (lv_sub hl [0, 1, 2, 3] rfl)
      exact L42 _ 0 σ _ _ _ (by omega) hN hH (fun z σ' q => by rw [show (m - 0).toNat = m.toNat by omega, show z - 0 = z by omega] at q; exact q) (Nat.lt_succ_self _) hM (lv_sub hl [0, 1, 2, 3] rfl)
    · exact x_throwW (text := "most is not 1 to 10") C hst hnx hTX hTZ hM hl.1 (hat_IAE C.2.2.2.2.1 hTX) kx_IAE ix_IAE ot_IAE (by decide +kernel) (List.mem_of_getElem? (i := 18) rfl) (Nat.le_of_ble_eq_true rfl) dX11_playOut_29 dX11_playOut_32 dX11_playOut_33 dX11_playOut_36 dX11_playOut_39 ⟨Nat.le_of_ble_eq_true rfl, Nat.le_of_ble_eq_true rfl, Nat.le_of_ble_eq_true rfl, Nat.le_of_ble_eq_true rfl⟩ ⟨rfl, rfl, show ¬ ((1 ≤ d ∧ d ≤ 3) ∧ 1 ≤ m ∧ m ≤ 10) by omega⟩
  · exact x_throw (text := "depth is not 1 to 3") C hst hnx hTX hTZ hM hl.1 (hat_IAE C.2.2.2.2.1 hTX) kx_IAE ix_IAE ot_IAE (by decide +kernel) (List.mem_of_getElem? (i := 11) rfl) (Nat.le_of_ble_eq_true rfl) dX11_playOut_9 dX11_playOut_12 dX11_playOut_13 dX11_playOut_15 dX11_playOut_18 ⟨Nat.le_of_ble_eq_true rfl, Nat.le_of_ble_eq_true rfl, Nat.le_of_ble_eq_true rfl, Nat.le_of_ble_eq_true rfl⟩ ⟨rfl, rfl, show ¬ ((1 ≤ d ∧ d ≤ 3) ∧ 1 ≤ m ∧ m ≤ 10) by omega⟩
set_option maxRecDepth 100000 in
set_option maxHeartbeats 4000000 in
theorem c_X11_teach (l : Launch) (hst : l.stackTraces = false) (D : va_G) (ad : Nat → Nat) (G : Nat → Nat) (ids : List Nat) (hI : ∀ k, k < 81 → k ∈ ids) (σ : Sg) (sa : Nat → Nat) (i w : Int) (hG : GI σ) (hL : LM σ 0 (MLs (σ 1) (σ 2 0) (σ 3 0) (σ 4 0)) (σ 1)) (hBK : BKI σ) (hi : IR i) (hw : IR w) : VME l yX11_teach cX11_teach 6 (some .int) 8 [.ref (ad 0), .int (iI i), .int (iI w)] D ad G ids σ sa (QI D ad G ids (fun z σ' => ((0 ≤ i ∧ i < ((MLs (σ 1) (σ 2 0) (σ 3 0) (σ 4 0)).length : Int)) ∧ (1 ≤ w ∧ w ≤ 99) ∧ ¬ (FB σ (keyS (cfg σ) (σ 1) (σ 4 0)) ((MLs (σ 1) (σ 2 0) (σ 3 0) (σ 4 0)).getD i.toNat (-1)) (-1) ∧ σ 27 0 = 30)) ∧ σ' 27 0 = z ∧ ∃ pg : Int, (FB σ (keyS (cfg σ) (σ 1) (σ 4 0)) ((MLs (σ 1) (σ 2 0) (σ 3 0) (σ 4 0)).getD i.toNat (-1)) pg ∧ 0 ≤ pg ∨ FB σ (keyS (cfg σ) (σ 1) (σ 4 0)) ((MLs (σ 1) (σ 2 0) (σ 3 0) (σ 4 0)).getD i.toNat (-1)) (-1) ∧ pg = σ 27 0) ∧ wrB σ pg (keyS (cfg σ) (σ 1) (σ 4 0)) ((MLs (σ 1) (σ 2 0) (σ 3 0) (σ 4 0)).getD i.toNat (-1)) w = σ')) (fun E τ => σ = τ ∧ ((E = "java/lang/IndexOutOfBoundsException" ∧ ¬ (0 ≤ i ∧ i < ((MLs (σ 1) (σ 2 0) (σ 3 0) (σ 4 0)).length : Int))) ∨ (E = "java/lang/IllegalArgumentException" ∧ (0 ≤ i ∧ i < ((MLs (σ 1) (σ 2 0) (σ 3 0) (σ 4 0)).length : Int)) ∧ ¬ (1 ≤ w ∧ w ≤ 99)) ∨ (E = "java/lang/IllegalStateException" ∧ (0 ≤ i ∧ i < ((MLs (σ 1) (σ 2 0) (σ 3 0) (σ 4 0)).length : Int)) ∧ (1 ≤ w ∧ w ≤ 99) ∧ (FB σ (keyS (cfg σ) (σ 1) (σ 4 0)) ((MLs (σ 1) (σ 2 0) (σ 3 0) (σ 4 0)).getD i.toNat (-1)) (-1) ∧ σ 27 0 = 30)))) := by
  have h18 : (MLs (σ 1) (σ 2 0) (σ 3 0) (σ 4 0)).length ≤ 18 := MLs18 hG
  have hMB : ∀ v, v ∈ (MLs (σ 1) (σ 2 0) (σ 3 0) (σ 4 0)) → 0 ≤ v ∧ v < 2500 := MLsMB hG
  unfold IR at hi hw
  have h27 : 0 ≤ σ 27 0 ∧ σ 27 0 ≤ 30 := hBK.1
  have hs := hG.2.2.1
  have hkey : 0 ≤ (keyS (cfg σ) (σ 1) (σ 4 0)) ∧ (keyS (cfg σ) (σ 1) (σ 4 0)) < 4000000000000000000 := SB_key hG
  refine x_enterV (by decide) (Nat.le_of_ble_eq_true rfl) ?_
  intro pp ee ss mm args below meth cq C hnx hTX hTZ hr ls hl hM
  have hM := hM.e
  have hl : lv_has ls 6 [(0, .ref (ad 0)), (1, .int (iI i)), (2, .int (iI w))] := hl
  refine lv_aload_n C.1 C.2.1 dX11_teach_0 rfl (lv_at hl 0 rfl) ?_
  refine g_X11_1 C hM.x (hI 0 (by decide)) wf_X11_22 dX11_teach_1 ?_
  refine lv_iload_n C.1 C.2.1 dX11_teach_4 rfl (lv_at hl 1 rfl) ?_
  refine x_ciA (fun q h => Or.inr h) (x_runVA (As := [.int (iI i)]) (rest := []) C (⟨by show _ ≤ (8 : Nat); omega, by show _ ≤ (40 * 8 : Nat); omega⟩) cw_X11_145 (MET.toA (c_X5_has l D ad G ids hI σ 0 (MLs (σ 1) (σ 2 0) (σ 3 0) (σ 4 0)) (σ 1) i (by decide) hL h18 ⟨by omega, by omega⟩)) hM.x (hI _ (by omega)) (cx_lo ad G _ (by decide)) rfl rfl rfl rfl (Nat.le_of_ble_eq_true rfl) hl.1 dX11_teach_5 ⟨Nat.le_of_ble_eq_true rfl, Nat.le_of_ble_eq_true rfl⟩) hM (fun r5 s5 H1 lc1 hp hM => ?_)
  obtain ⟨hbs5, rfl⟩ := hp
  obtain ⟨ts5, ks5⟩ := ite01 hbs5
  refine x_if_ne C ⟨by omega, by omega⟩ (tgt := 21) dX11_teach_8 (by decide) (fun c8 => ?_) (fun c8 => ?_)
  · refine lv_iload_n C.1 C.2.1 dX11_teach_21 rfl (lv_at hl 2 rfl) ?_
    refine lv_iconst (v := iI 1) C.1 C.2.1 dX11_teach_22 (by decide) ?_
    refine lv_bipush (v := iI 99) C.1 C.2.1 dX11_teach_23 (by decide) ?_
    refine x_ciA (fun q h => Or.inr h) (x_runSA (As := [.int (iI w), .int (iI 1), .int (iI 99)]) (rest := []) C (⟨by show _ ≤ (8 : Nat); omega, by show _ ≤ (40 * 8 : Nat); omega⟩) cw_X11_81 (MET.toA (c_X11_isWithin l D ad G ids hI σ w 1 99 (by unfold IR; omega) (by unfold IR; omega) (by unfold IR; omega))) hM.x rfl rfl (Nat.le_of_ble_eq_true rfl) hl.1 dX11_teach_25 ⟨Nat.le_of_ble_eq_true rfl, Nat.le_of_ble_eq_true rfl⟩) hM (fun r25 s25 H1 lc1 hp hM => ?_)
    obtain ⟨hbs25, rfl⟩ := hp
    obtain ⟨ts25, ks25⟩ := ite01 hbs25
    refine x_if_ne C ⟨by omega, by omega⟩ (tgt := 42) dX11_teach_28 (by decide) (fun c28 => ?_) (fun c28 => ?_)
    · refine lv_aload_n C.1 C.2.1 dX11_teach_42 rfl (lv_at hl 0 rfl) ?_
      refine g_X11_0 C hM.x (hI 0 (by decide)) wf_X11_13 dX11_teach_43 ?_
      refine x_clA (fun q h => Or.inr h) (x_runVA (As := []) (rest := []) C (⟨by show _ ≤ (8 : Nat); omega, by show _ ≤ (40 * 8 : Nat); omega⟩) cw_X11_220 (MET.toA (c_X0_keyNumber l D ad G ids hI σ hG.1 hG.2.1 hs)) hM.x (hI 1 (by decide)) (cx_1 ad G _) rfl rfl rfl rfl (Nat.le_of_ble_eq_true rfl) hl.1 dX11_teach_46 ⟨Nat.le_of_ble_eq_true rfl, Nat.le_of_ble_eq_true rfl⟩) hM (fun r46 s46 H1 lc1 hp hM => ?_)
      obtain ⟨rfl, rfl⟩ := hp
      have hke : keyF (σ 1) (σ 2 0 * σ 3 0).toNat * 2 + σ 4 0 = (keyS (cfg σ) (σ 1) (σ 4 0)) := rfl
      rw [hke]
      refine lv_lstore_n (lv' := [(3, .long (jI (keyS (cfg σ) (σ 1) (σ 4 0)))), (0, .ref (ad 0)), (1, .int (iI i)), (2, .int (iI w))]) C.1 C.2.1 dX11_teach_49 rfl hl (by decide) rfl (fun ls hl => ?_)
      refine lv_aload_n C.1 C.2.1 dX11_teach_50 rfl (lv_at hl 1 rfl) ?_
      refine g_X11_1 C hM.x (hI 0 (by decide)) wf_X11_22 dX11_teach_51 ?_
      refine lv_iload_n C.1 C.2.1 dX11_teach_54 rfl (lv_at hl 2 rfl) ?_
      refine x_ciA (fun q h => Or.inr h) (x_runVA (As := [.int (iI i)]) (rest := []) C (⟨by show _ ≤ (8 : Nat); omega, by show _ ≤ (40 * 8 : Nat); omega⟩) cw_X11_205 (MET.toA (c_X5_moveAt l D ad G ids hI σ 0 (MLs (σ 1) (σ 2 0) (σ 3 0) (σ 4 0)) (σ 1) i (by decide) hL h18 ⟨by omega, by omega⟩)) hM.x (hI _ (by omega)) (cx_lo ad G _ (by decide)) rfl rfl rfl rfl (Nat.le_of_ble_eq_true rfl) hl.1 dX11_teach_55 ⟨Nat.le_of_ble_eq_true rfl, Nat.le_of_ble_eq_true rfl⟩) hM (fun r55 s55 H1 lc1 hp hM => ?_)
      obtain ⟨rfl, rfl⟩ := hp
      rw [if_pos (show 0 ≤ i by omega)]
      have hmi : ((MLs (σ 1) (σ 2 0) (σ 3 0) (σ 4 0)).getD i.toNat (-1)) ∈ (MLs (σ 1) (σ 2 0) (σ 3 0) (σ 4 0)) := getD_mem (by omega) (by omega)
      have hmb : 0 ≤ ((MLs (σ 1) (σ 2 0) (σ 3 0) (σ 4 0)).getD i.toNat (-1)) ∧ ((MLs (σ 1) (σ 2 0) (σ 3 0) (σ 4 0)).getD i.toNat (-1)) < 2500 := hMB _ hmi
      refine lv_istore (lv' := [(5, .int (iI ((MLs (σ 1) (σ 2 0) (σ 3 0) (σ 4 0)).getD (i).toNat (-1)))), (3, .long (jI (keyS (cfg σ) (σ 1) (σ 4 0)))), (0, .ref (ad 0)), (1, .int (iI i)), (2, .int (iI w))]) C.1 C.2.1 dX11_teach_58 hl (by decide) rfl (fun ls hl => ?_)
      refine lv_aload_n C.1 C.2.1 dX11_teach_60 rfl (lv_at hl 2 rfl) ?_
      refine g_X11_7 C hM.x (hI 0 (by decide)) wf_X11_73 dX11_teach_61 ?_
      refine x_ciA (fun q h => Or.inr h) (x_runVA (As := []) (rest := []) C (⟨by show _ ≤ (8 : Nat); omega, by show _ ≤ (40 * 8 : Nat); omega⟩) cw_X11_285 (MET.toA (c_X1_isFull l D ad G ids hI σ hBK)) hM.x (hI 17 (by decide)) (cx_17 ad G _) rfl rfl rfl rfl (Nat.le_of_ble_eq_true rfl) hl.1 dX11_teach_64 ⟨Nat.le_of_ble_eq_true rfl, Nat.le_of_ble_eq_true rfl⟩) hM (fun r64 s64 H1 lc1 hp hM => ?_)
      obtain ⟨hbs64, rfl⟩ := hp
      obtain ⟨ts64, ks64⟩ := ite01 hbs64
      refine x_if_eq C ⟨by omega, by omega⟩ (tgt := 95) dX11_teach_67 (by decide) (fun c67 => ?_) (fun c67 => ?_)
      · refine lv_aload_n C.1 C.2.1 dX11_teach_95 rfl (lv_at hl 2 rfl) ?_
        refine g_X11_7 C hM.x (hI 0 (by decide)) wf_X11_73 dX11_teach_96 ?_
        refine lv_lload_n C.1 C.2.1 dX11_teach_99 rfl (lv_at hl 1 rfl) ?_
        refine lv_iload C.1 C.2.1 dX11_teach_100 (lv_at hl 0 rfl) ?_
        refine lv_iload_n C.1 C.2.1 dX11_teach_102 rfl (lv_at hl 4 rfl) ?_
        refine x_cvA (fun q h => Or.inr h) (x_runVA (As := [.long (jI (keyS (cfg σ) (σ 1) (σ 4 0))), .int (iI ((MLs (σ 1) (σ 2 0) (σ 3 0) (σ 4 0)).getD (i).toNat (-1))), .int (iI w)]) (rest := []) C (⟨by show _ ≤ (8 : Nat); omega, by show _ ≤ (40 * 8 : Nat); omega⟩) cw_X11_293 (MET.toA (c_X1_write l D ad G ids hI σ (keyS (cfg σ) (σ 1) (σ 4 0)) ((MLs (σ 1) (σ 2 0) (σ 3 0) (σ 4 0)).getD (i).toNat (-1)) w hBK hkey ⟨by omega, by omega⟩ (fun h => by
            first
            | omega
            | (rcases hbs77 with q | q
               · exact absurd ⟨q.2.2.1, q.2.2.2⟩ ((h.resolve_left (fun x => by omega)).2 r77 q.1 q.2.1)
               · exfalso; omega)))) hM.x (hI 17 (by decide)) (cx_17 ad G _) rfl rfl rfl rfl (Nat.le_of_ble_eq_true rfl) hl.1 dX11_teach_103 ⟨Nat.le_of_ble_eq_true rfl, Nat.le_of_ble_eq_true rfl⟩) hM (fun s103 H1 lc1 hp hM => ?_)
        obtain ⟨pgs103, hpgs103, rfl⟩ := hp
        refine lv_aload_n C.1 C.2.1 dX11_teach_106 rfl (lv_at hl 2 rfl) ?_
        refine g_X11_7 C hM.x (hI 0 (by decide)) wf_X11_73 dX11_teach_107 ?_
        refine x_ciA (fun q h => Or.inr h) (x_runVA (As := []) (rest := []) C (⟨by show _ ≤ (8 : Nat); omega, by show _ ≤ (40 * 8 : Nat); omega⟩) cw_X11_297 (MET.toA (c_X1_length l D ad G ids hI (wrB σ pgs103 (keyS (cfg σ) (σ 1) (σ 4 0)) ((MLs (σ 1) (σ 2 0) (σ 3 0) (σ 4 0)).getD (i).toNat (-1)) w))) hM.x (hI 17 (by decide)) (cx_17 ad G _) rfl rfl rfl rfl (Nat.le_of_ble_eq_true rfl) hl.1 dX11_teach_110 ⟨Nat.le_of_ble_eq_true rfl, Nat.le_of_ble_eq_true rfl⟩) hM (fun r110 s110 H1 lc1 hp hM => ?_)
        obtain ⟨rfl, rfl⟩ := hp
        refine W.widen (k := 1) (n := 6) (Nat.le_of_ble_eq_true rfl) (Nat.le_of_ble_eq_true rfl) ?_
        refine vx_ret ?_
        refine x_iret C hr hM.x ?_ dX11_teach_113
        exact by
          refine ⟨⟨by omega, by omega, fun h => ?_⟩, rfl, pgs103, hpgs103, rfl⟩
          first
          | omega
          | (rcases hbs77 with q | q
             · exact absurd ⟨q.2.2.1, q.2.2.2⟩ ((h.1.resolve_left (fun x => by omega)).2 r77 q.1 q.2.1)
             · exfalso; omega)
      · refine lv_aload_n C.1 C.2.1 dX11_teach_70 rfl (lv_at hl 2 rfl) ?_
        refine g_X11_7 C hM.x (hI 0 (by decide)) wf_X11_73 dX11_teach_71 ?_
        refine lv_lload_n C.1 C.2.1 dX11_teach_74 rfl (lv_at hl 1 rfl) ?_
        refine lv_iload C.1 C.2.1 dX11_teach_75 (lv_at hl 0 rfl) ?_
        refine x_ciA (fun q h => Or.inr h) (x_runVA (As := [.long (jI (keyS (cfg σ) (σ 1) (σ 4 0))), .int (iI ((MLs (σ 1) (σ 2 0) (σ 3 0) (σ 4 0)).getD (i).toNat (-1)))]) (rest := []) C (⟨by show _ ≤ (8 : Nat); omega, by show _ ≤ (40 * 8 : Nat); omega⟩) cw_X11_288 (MET.toA (c_X1_find l D ad G ids hI σ (keyS (cfg σ) (σ 1) (σ 4 0)) ((MLs (σ 1) (σ 2 0) (σ 3 0) (σ 4 0)).getD (i).toNat (-1)) hBK hkey ⟨by omega, by omega⟩)) hM.x (hI 17 (by decide)) (cx_17 ad G _) rfl rfl rfl rfl (Nat.le_of_ble_eq_true rfl) hl.1 dX11_teach_77 ⟨Nat.le_of_ble_eq_true rfl, Nat.le_of_ble_eq_true rfl⟩) hM (fun r77 s77 H1 lc1 hp hM => ?_)
        obtain ⟨hbs77, rfl⟩ := hp
        have hz77 : (0 ≤ r77 ∧ r77 < σ 27 0) ∨ r77 = -1 := by
          rcases hbs77 with h | h
          · exact Or.inl ⟨h.1, h.2.1⟩
          · exact Or.inr h.1
        refine lv_iconst (v := iI (-1)) C.1 C.2.1 dX11_teach_80 (by decide) ?_
        refine x_icmp_ne C ⟨by omega, by omega⟩ ⟨by omega, by omega⟩ (tgt := 95) dX11_teach_81 (by decide) (fun c81 => ?_) (fun c81 => ?_)
        · refine lv_aload_n C.1 C.2.1 dX11_teach_95 rfl (lv_at hl 2 rfl) ?_
          refine g_X11_7 C hM.x (hI 0 (by decide)) wf_X11_73 dX11_teach_96 ?_
          refine lv_lload_n C.1 C.2.1 dX11_teach_99 rfl (lv_at hl 1 rfl) ?_
          refine lv_iload C.1 C.2.1 dX11_teach_100 (lv_at hl 0 rfl) ?_
          refine lv_iload_n C.1 C.2.1 dX11_teach_102 rfl (lv_at hl 4 rfl) ?_
          refine x_cvA (fun q h => Or.inr h) (x_runVA (As := [.long (jI (keyS (cfg σ) (σ 1) (σ 4 0))), .int (iI ((MLs (σ 1) (σ 2 0) (σ 3 0) (σ 4 0)).getD (i).toNat (-1))), .int (iI w)]) (rest := []) C (⟨by show _ ≤ (8 : Nat); omega, by show _ ≤ (40 * 8 : Nat); omega⟩) cw_X11_293 (MET.toA (c_X1_write l D ad G ids hI σ (keyS (cfg σ) (σ 1) (σ 4 0)) ((MLs (σ 1) (σ 2 0) (σ 3 0) (σ 4 0)).getD (i).toNat (-1)) w hBK hkey ⟨by omega, by omega⟩ (fun h => by
              first
              | omega
              | (rcases hbs77 with q | q
                 · exact absurd ⟨q.2.2.1, q.2.2.2⟩ ((h.resolve_left (fun x => by omega)).2 r77 q.1 q.2.1)
                 · exfalso; omega)))) hM.x (hI 17 (by decide)) (cx_17 ad G _) rfl rfl rfl rfl (Nat.le_of_ble_eq_true rfl) hl.1 dX11_teach_103 ⟨Nat.le_of_ble_eq_true rfl, Nat.le_of_ble_eq_true rfl⟩) hM (fun s103 H1 lc1 hp hM => ?_)
          obtain ⟨pgs103, hpgs103, rfl⟩ := hp
          refine lv_aload_n C.1 C.2.1 dX11_teach_106 rfl (lv_at hl 2 rfl) ?_
          refine g_X11_7 C hM.x (hI 0 (by decide)) wf_X11_73 dX11_teach_107 ?_
          refine x_ciA (fun q h => Or.inr h) (x_runVA (As := []) (rest := []) C (⟨by show _ ≤ (8 : Nat); omega, by show _ ≤ (40 * 8 : Nat); omega⟩) cw_X11_297 (MET.toA (c_X1_length l D ad G ids hI (wrB σ pgs103 (keyS (cfg σ) (σ 1) (σ 4 0)) ((MLs (σ 1) (σ 2 0) (σ 3 0) (σ 4 0)).getD (i).toNat (-1)) w))) hM.x (hI 17 (by decide)) (cx_17 ad G _) rfl rfl rfl rfl (Nat.le_of_ble_eq_true rfl) hl.1 dX11_teach_110 ⟨Nat.le_of_ble_eq_true rfl, Nat.le_of_ble_eq_true rfl⟩) hM (fun r110 s110 H1 lc1 hp hM => ?_)
          obtain ⟨rfl, rfl⟩ := hp
          refine W.widen (k := 1) (n := 6) (Nat.le_of_ble_eq_true rfl) (Nat.le_of_ble_eq_true rfl) ?_
          refine vx_ret ?_
          refine x_iret C hr hM.x ?_ dX11_teach_113
          exact by
            refine ⟨⟨by omega, by omega, fun h => ?_⟩, rfl, pgs103, hpgs103, rfl⟩
            first
            | omega
            | (rcases hbs77 with q | q
               · exact absurd ⟨q.2.2.1, q.2.2.2⟩ ((h.1.resolve_left (fun x => by omega)).2 r77 q.1 q.2.1)
               · exfalso; omega)
        · exact x_throwW (text := "the book is full") C hst hnx hTX hTZ hM hl.1 (hat_ISE C.2.2.2.2.1 hTX) kx_ISE ix_ISE ot_ISE (by decide +kernel) (List.mem_of_getElem? (i := 17) rfl) (Nat.le_of_ble_eq_true rfl) dX11_teach_84 dX11_teach_87 dX11_teach_88 dX11_teach_91 dX11_teach_94 ⟨Nat.le_of_ble_eq_true rfl, Nat.le_of_ble_eq_true rfl, Nat.le_of_ble_eq_true rfl, Nat.le_of_ble_eq_true rfl⟩ ⟨rfl, Or.inr (Or.inr (⟨rfl, ⟨by omega, by omega, (show r77 = -1 by omega) ▸ hbs77, by omega⟩⟩))⟩
    · exact x_throwW (text := "weight is not 1 to 99") C hst hnx hTX hTZ hM hl.1 (hat_IAE C.2.2.2.2.1 hTX) kx_IAE ix_IAE ot_IAE (by decide +kernel) (List.mem_of_getElem? (i := 16) rfl) (Nat.le_of_ble_eq_true rfl) dX11_teach_31 dX11_teach_34 dX11_teach_35 dX11_teach_38 dX11_teach_41 ⟨Nat.le_of_ble_eq_true rfl, Nat.le_of_ble_eq_true rfl, Nat.le_of_ble_eq_true rfl, Nat.le_of_ble_eq_true rfl⟩ ⟨rfl, Or.inr (Or.inl ⟨rfl, show (0 ≤ i ∧ i < ((MLs (σ 1) (σ 2 0) (σ 3 0) (σ 4 0)).length : Int)) ∧ ¬ (1 ≤ w ∧ w ≤ 99) by omega⟩)⟩
  · exact x_throw (text := "there is no such move") C hst hnx hTX hTZ hM hl.1 (hat_OOB C.2.2.2.2.1 hTX) kx_OOB ix_OOB ot_OOB (by decide +kernel) (List.mem_of_getElem? (i := 6) rfl) (Nat.le_of_ble_eq_true rfl) dX11_teach_11 dX11_teach_14 dX11_teach_15 dX11_teach_17 dX11_teach_20 ⟨Nat.le_of_ble_eq_true rfl, Nat.le_of_ble_eq_true rfl, Nat.le_of_ble_eq_true rfl, Nat.le_of_ble_eq_true rfl⟩ ⟨rfl, Or.inl ⟨rfl, show ¬ (0 ≤ i ∧ i < ((MLs (σ 1) (σ 2 0) (σ 3 0) (σ 4 0)).length : Int)) by omega⟩⟩
