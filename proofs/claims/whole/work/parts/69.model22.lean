abbrev suPost (a b n : Int) (σ : Sg) : Int → Sg → Prop := fun z σ' => (¬ ((3 ≤ a ∧ a ≤ 5) ∧ (3 ≤ b ∧ b ≤ 5) ∧ 1 ≤ n ∧ n < b ∧ 2 * n < b ∧ n * a ≤ 6) → 0 = z ∧ th σ 1 = σ') ∧ (((3 ≤ a ∧ a ≤ 5) ∧ (3 ≤ b ∧ b ≤ 5) ∧ 1 ≤ n ∧ n < b ∧ 2 * n < b ∧ n * a ≤ 6) → 2 * n * a = z ∧ laR (lay0 (th σ 0) a b) (a * b) (n * a) = σ')
set_option maxRecDepth 100000 in
set_option maxHeartbeats 4000000 in
theorem c_X12_setUp (l : Launch) (D : va_G) (ad : Nat → Nat) (G : Nat → Nat) (σ : Sg) (a b n : Int) (ha : IR a) (hb : IR b) (hn : IR n) (hT : TI (mw σ)) : MEA l yX12_setUp cX12_setUp 4 (some .int) 5 1 26 [.ref (ad 100), .int (iI a), .int (iI b), .int (iI n)] D ad G IM σ (QIX D ad G (suPost a b n σ)) := by
  have hJ : ∀ k, 100 ≤ k → k < 233 → k ∈ IM := fun k a b => IM_mem.mpr ⟨a, b⟩
  have ids : List Nat := IM
  unfold IR at ha hb hn
  refine x_enterA (by decide) (Nat.le_of_ble_eq_true rfl) ?_
  intro pp ee ss mm args below meth cq C hr ls hl hM
  have hM := hM.e
  have hl : lv_has ls 4 [(0, .ref (ad 100)), (1, .int (iI a)), (2, .int (iI b)), (3, .int (iI n))] := hl
  refine lv_aload_n C.1 C.2.1 dX12_setUp_0 rfl (lv_at hl 0 rfl) ?_
  refine lv_iconst (v := iI 0) C.1 C.2.1 dX12_setUp_1 (by decide) ?_
  refine p_X12_0 C hM.x (hJ 100 (by decide) (by decide)) wf_X12_64 dX12_setUp_2 (fun H1 lc1 hM => ?_)
  have hM := hM.e
  refine lv_iload_n C.1 C.2.1 dX12_setUp_5 rfl (lv_at hl 1 rfl) ?_
  refine lv_iconst (v := iI 3) C.1 C.2.1 dX12_setUp_6 (by decide) ?_
  refine lv_iconst (v := iI 5) C.1 C.2.1 dX12_setUp_7 (by decide) ?_
  refine x_ciA (fun q h => Or.inr h) (x_runSA (As := [.int (iI a), .int (iI 3), .int (iI 5)]) (rest := []) C (⟨by show _ ≤ (5 : Nat); omega, by show _ ≤ (40 * 5 : Nat); omega⟩) cw_X12_83 (MET.toA (c_X12_is l D ad G IM hJ (upr σ 232 (ups (σ 232) 0 0)) a 3 5 (by unfold IR; omega) (by unfold IR; omega) (by unfold IR; omega))) hM.x rfl rfl (Nat.le_of_ble_eq_true rfl) hl.1 dX12_setUp_8 ⟨Nat.le_of_ble_eq_true rfl, Nat.le_of_ble_eq_true rfl⟩) hM (fun r8 s8 H1 lc1 hp hM => ?_)
  obtain ⟨hbs8, rfl⟩ := hp
  obtain ⟨ts8, ks8⟩ := ite01 hbs8
  refine x_if_eq C ⟨by omega, by omega⟩ (tgt := 48) dX12_setUp_11 (by decide) (fun c11 => ?_) (fun c11 => ?_)
  · refine lv_aload_n C.1 C.2.1 dX12_setUp_48 rfl (lv_at hl 0 rfl) ?_
    refine lv_iconst (v := iI 1) C.1 C.2.1 dX12_setUp_49 (by decide) ?_
    refine x_ciA (fun q h => Or.inr h) (x_runVA (As := [.int (iI 1)]) (rest := []) C (⟨by show _ ≤ (5 : Nat); omega, by show _ ≤ (40 * 5 : Nat); omega⟩) cw_X12_217 (MET.toA (c_X12_refuse l D ad G IM hJ (upr σ 232 (ups (σ 232) 0 0)) 1)) hM.x (hJ 100 (by decide) (by decide)) (cx_100 ad G _) rfl rfl rfl rfl (Nat.le_of_ble_eq_true rfl) hl.1 dX12_setUp_50 ⟨Nat.le_of_ble_eq_true rfl, Nat.le_of_ble_eq_true rfl⟩) hM (fun r50 s50 H1 lc1 hp hM => ?_)
    obtain ⟨rfl, rfl⟩ := hp
    refine W.widen (k := 1) (n := 26) (Nat.le_of_ble_eq_true rfl) (Nat.le_of_ble_eq_true rfl) ?_
    exact x_iretX0 C hr hM ⟨fun _ => ⟨rfl, (th_th σ 0 1).symm⟩, fun h => absurd h (by omega)⟩ dX12_setUp_53
  · refine lv_iload_n C.1 C.2.1 dX12_setUp_14 rfl (lv_at hl 2 rfl) ?_
    refine lv_iconst (v := iI 3) C.1 C.2.1 dX12_setUp_15 (by decide) ?_
    refine lv_iconst (v := iI 5) C.1 C.2.1 dX12_setUp_16 (by decide) ?_
    refine x_ciA (fun q h => Or.inr h) (x_runSA (As := [.int (iI b), .int (iI 3), .int (iI 5)]) (rest := []) C (⟨by show _ ≤ (5 : Nat); omega, by show _ ≤ (40 * 5 : Nat); omega⟩) cw_X12_83 (MET.toA (c_X12_is l D ad G IM hJ (upr σ 232 (ups (σ 232) 0 0)) b 3 5 (by unfold IR; omega) (by unfold IR; omega) (by unfold IR; omega))) hM.x rfl rfl (Nat.le_of_ble_eq_true rfl) hl.1 dX12_setUp_17 ⟨Nat.le_of_ble_eq_true rfl, Nat.le_of_ble_eq_true rfl⟩) hM (fun r17 s17 H1 lc1 hp hM => ?_)
    obtain ⟨hbs17, rfl⟩ := hp
    obtain ⟨ts17, ks17⟩ := ite01 hbs17
    refine x_if_eq C ⟨by omega, by omega⟩ (tgt := 48) dX12_setUp_20 (by decide) (fun c20 => ?_) (fun c20 => ?_)
    · refine lv_aload_n C.1 C.2.1 dX12_setUp_48 rfl (lv_at hl 0 rfl) ?_
      refine lv_iconst (v := iI 1) C.1 C.2.1 dX12_setUp_49 (by decide) ?_
      refine x_ciA (fun q h => Or.inr h) (x_runVA (As := [.int (iI 1)]) (rest := []) C (⟨by show _ ≤ (5 : Nat); omega, by show _ ≤ (40 * 5 : Nat); omega⟩) cw_X12_217 (MET.toA (c_X12_refuse l D ad G IM hJ (upr σ 232 (ups (σ 232) 0 0)) 1)) hM.x (hJ 100 (by decide) (by decide)) (cx_100 ad G _) rfl rfl rfl rfl (Nat.le_of_ble_eq_true rfl) hl.1 dX12_setUp_50 ⟨Nat.le_of_ble_eq_true rfl, Nat.le_of_ble_eq_true rfl⟩) hM (fun r50 s50 H1 lc1 hp hM => ?_)
      obtain ⟨rfl, rfl⟩ := hp
      refine W.widen (k := 1) (n := 26) (Nat.le_of_ble_eq_true rfl) (Nat.le_of_ble_eq_true rfl) ?_
      exact x_iretX0 C hr hM ⟨fun _ => ⟨rfl, (th_th σ 0 1).symm⟩, fun h => absurd h (by omega)⟩ dX12_setUp_53
    · refine lv_iload_n C.1 C.2.1 dX12_setUp_23 rfl (lv_at hl 3 rfl) ?_
      refine lv_iconst (v := iI 1) C.1 C.2.1 dX12_setUp_24 (by decide) ?_
      refine x_icmp_lt C ⟨by omega, by omega⟩ ⟨by omega, by omega⟩ (tgt := 48) dX12_setUp_25 (by decide) (fun c25 => ?_) (fun c25 => ?_)
      · refine lv_aload_n C.1 C.2.1 dX12_setUp_48 rfl (lv_at hl 0 rfl) ?_
        refine lv_iconst (v := iI 1) C.1 C.2.1 dX12_setUp_49 (by decide) ?_
        refine x_ciA (fun q h => Or.inr h) (x_runVA (As := [.int (iI 1)]) (rest := []) C (⟨by show _ ≤ (5 : Nat); omega, by show _ ≤ (40 * 5 : Nat); omega⟩) cw_X12_217 (MET.toA (c_X12_refuse l D ad G IM hJ (upr σ 232 (ups (σ 232) 0 0)) 1)) hM.x (hJ 100 (by decide) (by decide)) (cx_100 ad G _) rfl rfl rfl rfl (Nat.le_of_ble_eq_true rfl) hl.1 dX12_setUp_50 ⟨Nat.le_of_ble_eq_true rfl, Nat.le_of_ble_eq_true rfl⟩) hM (fun r50 s50 H1 lc1 hp hM => ?_)
        obtain ⟨rfl, rfl⟩ := hp
        refine W.widen (k := 1) (n := 26) (Nat.le_of_ble_eq_true rfl) (Nat.le_of_ble_eq_true rfl) ?_
        exact x_iretX0 C hr hM ⟨fun _ => ⟨rfl, (th_th σ 0 1).symm⟩, fun h => absurd h (by omega)⟩ dX12_setUp_53
      · refine lv_iload_n C.1 C.2.1 dX12_setUp_28 rfl (lv_at hl 3 rfl) ?_
        refine lv_iload_n C.1 C.2.1 dX12_setUp_29 rfl (lv_at hl 2 rfl) ?_
        refine x_icmp_ge C ⟨by omega, by omega⟩ ⟨by omega, by omega⟩ (tgt := 48) dX12_setUp_30 (by decide) (fun c30 => ?_) (fun c30 => ?_)
        · refine lv_aload_n C.1 C.2.1 dX12_setUp_48 rfl (lv_at hl 0 rfl) ?_
          refine lv_iconst (v := iI 1) C.1 C.2.1 dX12_setUp_49 (by decide) ?_
          refine x_ciA (fun q h => Or.inr h) (x_runVA (As := [.int (iI 1)]) (rest := []) C (⟨by show _ ≤ (5 : Nat); omega, by show _ ≤ (40 * 5 : Nat); omega⟩) cw_X12_217 (MET.toA (c_X12_refuse l D ad G IM hJ (upr σ 232 (ups (σ 232) 0 0)) 1)) hM.x (hJ 100 (by decide) (by decide)) (cx_100 ad G _) rfl rfl rfl rfl (Nat.le_of_ble_eq_true rfl) hl.1 dX12_setUp_50 ⟨Nat.le_of_ble_eq_true rfl, Nat.le_of_ble_eq_true rfl⟩) hM (fun r50 s50 H1 lc1 hp hM => ?_)
          obtain ⟨rfl, rfl⟩ := hp
          refine W.widen (k := 1) (n := 26) (Nat.le_of_ble_eq_true rfl) (Nat.le_of_ble_eq_true rfl) ?_
          exact x_iretX0 C hr hM ⟨fun _ => ⟨rfl, (th_th σ 0 1).symm⟩, fun h => absurd h (by omega)⟩ dX12_setUp_53
        · refine lv_iconst (v := iI 2) C.1 C.2.1 dX12_setUp_33 (by decide) ?_
          refine lv_iload_n C.1 C.2.1 dX12_setUp_34 rfl (lv_at hl 3 rfl) ?_
          refine x_imul C dX12_setUp_35 ?_
          refine lv_iload_n C.1 C.2.1 dX12_setUp_36 rfl (lv_at hl 2 rfl) ?_
          refine x_icmp_ge C ⟨by omega, by omega⟩ ⟨by omega, by omega⟩ (tgt := 48) dX12_setUp_37 (by decide) (fun c37 => ?_) (fun c37 => ?_)
          · refine lv_aload_n C.1 C.2.1 dX12_setUp_48 rfl (lv_at hl 0 rfl) ?_
            refine lv_iconst (v := iI 1) C.1 C.2.1 dX12_setUp_49 (by decide) ?_
            refine x_ciA (fun q h => Or.inr h) (x_runVA (As := [.int (iI 1)]) (rest := []) C (⟨by show _ ≤ (5 : Nat); omega, by show _ ≤ (40 * 5 : Nat); omega⟩) cw_X12_217 (MET.toA (c_X12_refuse l D ad G IM hJ (upr σ 232 (ups (σ 232) 0 0)) 1)) hM.x (hJ 100 (by decide) (by decide)) (cx_100 ad G _) rfl rfl rfl rfl (Nat.le_of_ble_eq_true rfl) hl.1 dX12_setUp_50 ⟨Nat.le_of_ble_eq_true rfl, Nat.le_of_ble_eq_true rfl⟩) hM (fun r50 s50 H1 lc1 hp hM => ?_)
            obtain ⟨rfl, rfl⟩ := hp
            refine W.widen (k := 1) (n := 26) (Nat.le_of_ble_eq_true rfl) (Nat.le_of_ble_eq_true rfl) ?_
            exact x_iretX0 C hr hM ⟨fun _ => ⟨rfl, (th_th σ 0 1).symm⟩, fun h => absurd h (by omega)⟩ dX12_setUp_53
          · have hna2 : 0 ≤ n * a ∧ n * a ≤ 10 := by
              obtain h1 | h1 : n = 1 ∨ n = 2 := by omega
              · rw [h1]; omega
              · rw [h1]; omega
            refine lv_iload_n C.1 C.2.1 dX12_setUp_40 rfl (lv_at hl 3 rfl) ?_
            refine lv_iload_n C.1 C.2.1 dX12_setUp_41 rfl (lv_at hl 1 rfl) ?_
            refine x_imul C dX12_setUp_42 ?_
            refine lv_bipush (v := iI 6) C.1 C.2.1 dX12_setUp_43 (by decide) ?_
            refine x_icmp_le C ⟨by omega, by omega⟩ ⟨by omega, by omega⟩ (tgt := 54) dX12_setUp_45 (by decide) (fun c45 => ?_) (fun c45 => ?_)
            · refine lv_aload_n C.1 C.2.1 dX12_setUp_54 rfl (lv_at hl 0 rfl) ?_
              refine lv_iload_n C.1 C.2.1 dX12_setUp_55 rfl (lv_at hl 1 rfl) ?_
              refine lv_iload_n C.1 C.2.1 dX12_setUp_56 rfl (lv_at hl 2 rfl) ?_
              refine lv_iload_n C.1 C.2.1 dX12_setUp_57 rfl (lv_at hl 3 rfl) ?_
              have hna : n * a ≤ 6 := by omega
              refine x_layA C (fun q h => Or.inr h) ⟨by show 5 ≤ (5 : Nat); omega, by show _ ≤ (200 : Nat); omega⟩ hM (by omega) (by omega) (by omega) (TI_th 0 hT) cw_X12_60 (Nat.le_of_ble_eq_true rfl) hl.1 dX12_setUp_58 ⟨Nat.le_refl _, Nat.le_refl _⟩ (fun q H1 lc1 hM => ?_)
              refine lv_iconst (v := iI 2) C.1 C.2.1 dX12_setUp_61 (by decide) ?_
              refine lv_iload_n C.1 C.2.1 dX12_setUp_62 rfl (lv_at hl 3 rfl) ?_
              refine x_imul C dX12_setUp_63 ?_
              refine lv_aload_n C.1 C.2.1 dX12_setUp_64 rfl (lv_at hl 0 rfl) ?_
              refine g_X12_1 (ad := va_up ad 101 q) C hM.x (IM_mem.mpr (by omega)) wf_X12_67 dX12_setUp_65 ?_
              refine x_imul C dX12_setUp_68 ?_
              exact x_iretX C hr hM ⟨fun h => absurd (show ((3 ≤ a ∧ a ≤ 5) ∧ (3 ≤ b ∧ b ≤ 5) ∧ 1 ≤ n ∧ n < b ∧ 2 * n < b ∧ n * a ≤ 6) by omega) h, fun _ => ⟨rfl, rfl⟩⟩ dX12_setUp_69
            · refine lv_aload_n C.1 C.2.1 dX12_setUp_48 rfl (lv_at hl 0 rfl) ?_
              refine lv_iconst (v := iI 1) C.1 C.2.1 dX12_setUp_49 (by decide) ?_
              refine x_ciA (fun q h => Or.inr h) (x_runVA (As := [.int (iI 1)]) (rest := []) C (⟨by show _ ≤ (5 : Nat); omega, by show _ ≤ (40 * 5 : Nat); omega⟩) cw_X12_217 (MET.toA (c_X12_refuse l D ad G IM hJ (upr σ 232 (ups (σ 232) 0 0)) 1)) hM.x (hJ 100 (by decide) (by decide)) (cx_100 ad G _) rfl rfl rfl rfl (Nat.le_of_ble_eq_true rfl) hl.1 dX12_setUp_50 ⟨Nat.le_of_ble_eq_true rfl, Nat.le_of_ble_eq_true rfl⟩) hM (fun r50 s50 H1 lc1 hp hM => ?_)
              obtain ⟨rfl, rfl⟩ := hp
              refine W.widen (k := 1) (n := 26) (Nat.le_of_ble_eq_true rfl) (Nat.le_of_ble_eq_true rfl) ?_
              exact x_iretX0 C hr hM ⟨fun _ => ⟨rfl, (th_th σ 0 1).symm⟩, fun h => absurd h (by omega)⟩ dX12_setUp_53
