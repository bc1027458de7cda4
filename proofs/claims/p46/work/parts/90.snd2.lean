/-! isSound, whole -/
set_option maxRecDepth 100000 in
set_option maxHeartbeats 4000000 in
theorem c_L_isSound (l : Launch) (D : va_G) (ad : Nat → Nat) (G : Nat → Nat) (ids : List Nat) (hI : ∀ k, k < 81 → k ∈ ids) {σ : Sg} (hJ : JI σ)  : MEA l yL_isSound cL_isSound 8 (some .boolean) 60 1 3 [.ref (ad 0)] D ad G ids σ (QI D ad G ids (fun z s' => 1 = z ∧ EQS σ s')) := by
  have hB := hJ.g.1
  unfold BG at hB
  have h18 : ((MLs (σ 1) (σ 2 0) (σ 3 0) (σ 4 0)).length : Int) ≤ 18 := hJ.l18
  have hwh := hJ.wh
  have hsd := hJ.sd
  have h9 := hJ.ti.1
  have hEσ : EQS σ σ := EQS.rf
  refine x_enterA (by decide) (Nat.le_of_ble_eq_true rfl) ?_
  intro pp ee ss mm args below meth cq C hr ls hl hM
  have hM := hM.e
  have hl : lv_has ls 8 [(0, .ref (ad 0))] := hl
  refine lv_aload_n C.1 C.2.1 dL_isSound_0 rfl (lv_at hl 0 rfl) ?_
  refine x_ciA (fun q h => Or.inr h) (x_runVA (As := []) (rest := []) C (⟨by show _ ≤ (60 : Nat); omega, by show _ ≤ (40 * 60 : Nat); omega⟩) cw_RL_37 (MET.toA (v_X11_side l D ad G ids hI hJ hEσ  )) hM.x (hI 0 (by decide)) (cx_0 ad G _) rfl rfl rfl rfl (Nat.le_of_ble_eq_true rfl) hl.1 dL_isSound_1 ⟨Nat.le_of_ble_eq_true rfl, Nat.le_of_ble_eq_true rfl⟩) hM (fun r1 s1 H1 lc1 hp hM => ?_)
  obtain ⟨rfl, rfl⟩ := hp
  have J12 : ∀ (iw : Int) (H1 : Heap) (lc1 : List Loc) (ls1 : Array Slot), (iw = if σ 4 0 = 0 then 1 else -1) → XE D ad G ids (AN ad ids ss.heap.size) ss.heap H1 lc1 σ [] → lv_has ls1 8 [(0, .ref (ad 0))] → W pp l ee (rma 60 1 3) ss mm args below meth cq H1 lc1 0 0 (MQ below (QI D ad G ids (fun z s' => 1 = z ∧ EQS σ s') ss.heap.size) args ss 1 3 (AN ad ids ss.heap.size)) (F0 mm 12 ls1 [.int (iI iw)]) := by
    intro iw H1 lc1 ls1 hw hM hl
    refine lv_istore_n (lv' := [(1, .int (iI iw)), (0, .ref (ad 0))]) C.1 C.2.1 dL_isSound_12 rfl hl (by decide) rfl (fun ls hl => ?_)
    refine lv_aload_n C.1 C.2.1 dL_isSound_13 rfl (lv_at hl 1 rfl) ?_
    refine x_ciA (fun q h => Or.inr h) (x_runVA (As := []) (rest := []) C (⟨by show _ ≤ (60 : Nat); omega, by show _ ≤ (40 * 60 : Nat); omega⟩) cw_RL_30 (MET.toA (v_X11_columns l D ad G ids hI hJ hEσ  )) hM.x (hI 0 (by decide)) (cx_0 ad G _) rfl rfl rfl rfl (Nat.le_of_ble_eq_true rfl) hl.1 dL_isSound_14 ⟨Nat.le_of_ble_eq_true rfl, Nat.le_of_ble_eq_true rfl⟩) hM (fun r14 s14 H1 lc1 hp hM => ?_)
    obtain ⟨rfl, rfl⟩ := hp
    refine lv_istore_n (lv' := [(2, .int (iI (σ 2 0))), (1, .int (iI iw)), (0, .ref (ad 0))]) C.1 C.2.1 dL_isSound_17 rfl hl (by decide) rfl (fun ls hl => ?_)
    refine lv_iconst (v := iI 0) C.1 C.2.1 dL_isSound_18 (by decide) ?_
    refine lv_istore_n (lv' := [(3, .int (iI 0)), (2, .int (iI (σ 2 0))), (1, .int (iI iw)), (0, .ref (ad 0))]) C.1 C.2.1 dL_isSound_19 rfl hl (by decide) rfl (fun ls hl => ?_)
    have L20 : ∀ (fu : Nat) (k : Int) (s1 : Sg) (H1 : Heap) (lc1 : List Loc) (ls1 : Array Slot), (0 ≤ k ∧ k ≤ ((MLs (σ 1) (σ 2 0) (σ 3 0) (σ 4 0)).length : Int)) → (EQS σ s1) → (40 - k).toNat < fu → XE D ad G ids (AN ad ids ss.heap.size) ss.heap H1 lc1 s1 [] → lv_has ls1 8 [(3, .int (iI k)), (2, .int (iI (σ 2 0))), (1, .int (iI iw)), (0, .ref (ad 0))] → W pp l ee (rma 60 1 3) ss mm args below meth cq H1 lc1 0 0 (MQ below (QI D ad G ids (fun z s' => 1 = z ∧ EQS σ s') ss.heap.size) args ss 1 3 (AN ad ids ss.heap.size)) (F0 mm 20 ls1 []) := by
      intro fu
      induction fu with
      | zero => intro k s1 H1 lc1 ls1 k0 hEs1 hfu; exact absurd hfu (Nat.not_lt_zero _)
      | succ fu ih20 =>
        intro k s1 H1 lc1 ls1 k0 hEs1 hfu hM hl
        refine lv_iload_n C.1 C.2.1 dL_isSound_20 rfl (lv_at hl 0 rfl) ?_
        refine lv_aload_n C.1 C.2.1 dL_isSound_21 rfl (lv_at hl 3 rfl) ?_
        refine x_ciA (fun q h => Or.inr h) (x_runVA (As := []) (rest := [.int (iI k)]) C (⟨by show _ ≤ (60 : Nat); omega, by show _ ≤ (40 * 60 : Nat); omega⟩) cw_RL_54 (MET.toA (v_X11_moves l D ad G ids hI hJ hEs1  )) hM.x (hI 0 (by decide)) (cx_0 ad G _) rfl rfl rfl rfl (Nat.le_of_ble_eq_true rfl) hl.1 dL_isSound_22 ⟨Nat.le_of_ble_eq_true rfl, Nat.le_of_ble_eq_true rfl⟩) hM (fun r22 s22 H1 lc1 hp hM => ?_)
        obtain ⟨rfl, rfl⟩ := hp
        refine x_icmp_ge C ⟨by omega, by omega⟩ ⟨by omega, by omega⟩ (tgt := 204) dL_isSound_25 (by decide) (fun c25 => ?_) (fun c25 => ?_)
        · exact snd_204 hI hJ hEs1 C hr  hM (lv_sub hl [3, 1] rfl)
        · have hm : (MLs (σ 1) (σ 2 0) (σ 3 0) (σ 4 0)).getD k.toNat (-1) ∈ (MLs (σ 1) (σ 2 0) (σ 3 0) (σ 4 0)) := getD_mem k0.1 (by omega)
          have ok := hJ.ok hm
          have ge := hJ.geo hm
          unfold GEO at ge
          have q1 := Int.emod_nonneg ((MLs (σ 1) (σ 2 0) (σ 3 0) (σ 4 0)).getD k.toNat (-1) % 100) (show σ 2 0 ≠ 0 by omega)
          have q2 := Int.emod_lt_of_pos ((MLs (σ 1) (σ 2 0) (σ 3 0) (σ 4 0)).getD k.toNat (-1) % 100) (show 0 < σ 2 0 by omega)
          have q3 := Int.emod_nonneg ((MLs (σ 1) (σ 2 0) (σ 3 0) (σ 4 0)).getD k.toNat (-1) / 100) (show σ 2 0 ≠ 0 by omega)
          have q4 := Int.emod_lt_of_pos ((MLs (σ 1) (σ 2 0) (σ 3 0) (σ 4 0)).getD k.toNat (-1) / 100) (show 0 < σ 2 0 by omega)
          have q5 := Int.ediv_nonneg (show 0 ≤ (MLs (σ 1) (σ 2 0) (σ 3 0) (σ 4 0)).getD k.toNat (-1) % 100 by omega) (show 0 ≤ σ 2 0 by omega)
          have q6 := Int.ediv_le_self (σ 2 0) (show 0 ≤ (MLs (σ 1) (σ 2 0) (σ 3 0) (σ 4 0)).getD k.toNat (-1) % 100 by omega)
          have q7 := Int.ediv_nonneg (show 0 ≤ (MLs (σ 1) (σ 2 0) (σ 3 0) (σ 4 0)).getD k.toNat (-1) / 100 by omega) (show 0 ≤ σ 2 0 by omega)
          have q8 := Int.ediv_le_self (σ 2 0) (show 0 ≤ (MLs (σ 1) (σ 2 0) (σ 3 0) (σ 4 0)).getD k.toNat (-1) / 100 by omega)
          have bcf := hJ.g.2.1 ((MLs (σ 1) (σ 2 0) (σ 3 0) (σ 4 0)).getD k.toNat (-1) / 100)
          have bct := hJ.g.2.1 ((MLs (σ 1) (σ 2 0) (σ 3 0) (σ 4 0)).getD k.toNat (-1) % 100)
          refine lv_aload_n C.1 C.2.1 dL_isSound_28 rfl (lv_at hl 3 rfl) ?_
          refine lv_iload_n C.1 C.2.1 dL_isSound_29 rfl (lv_at hl 0 rfl) ?_
          refine x_ciA (fun q h => Or.inr h) (x_runVA (As := [.int (iI k)]) (rest := []) C (⟨by show _ ≤ (60 : Nat); omega, by show _ ≤ (40 * 60 : Nat); omega⟩) cw_RL_112 (MET.toA (v_X11_from l D ad G ids hI hJ hEs1 k (by omega))) hM.x (hI 0 (by decide)) (cx_0 ad G _) rfl rfl rfl rfl (Nat.le_of_ble_eq_true rfl) hl.1 dL_isSound_30 ⟨Nat.le_of_ble_eq_true rfl, Nat.le_of_ble_eq_true rfl⟩) hM (fun r30 s30 H1 lc1 hp hM => ?_)
          obtain ⟨rfl, rfl⟩ := hp
          refine lv_istore (lv' := [(4, .int (iI ((MLs (σ 1) (σ 2 0) (σ 3 0) (σ 4 0)).getD (k).toNat (-1) / 100))), (3, .int (iI k)), (2, .int (iI (σ 2 0))), (1, .int (iI iw)), (0, .ref (ad 0))]) C.1 C.2.1 dL_isSound_33 hl (by decide) rfl (fun ls hl => ?_)
          refine lv_aload_n C.1 C.2.1 dL_isSound_35 rfl (lv_at hl 4 rfl) ?_
          refine lv_iload_n C.1 C.2.1 dL_isSound_36 rfl (lv_at hl 1 rfl) ?_
          refine x_ciA (fun q h => Or.inr h) (x_runVA (As := [.int (iI k)]) (rest := []) C (⟨by show _ ≤ (60 : Nat); omega, by show _ ≤ (40 * 60 : Nat); omega⟩) cw_RL_115 (MET.toA (v_X11_to l D ad G ids hI hJ hEs1 k (by omega))) hM.x (hI 0 (by decide)) (cx_0 ad G _) rfl rfl rfl rfl (Nat.le_of_ble_eq_true rfl) hl.1 dL_isSound_37 ⟨Nat.le_of_ble_eq_true rfl, Nat.le_of_ble_eq_true rfl⟩) hM (fun r37 s37 H1 lc1 hp hM => ?_)
          obtain ⟨rfl, rfl⟩ := hp
          refine lv_istore (lv' := [(5, .int (iI ((MLs (σ 1) (σ 2 0) (σ 3 0) (σ 4 0)).getD (k).toNat (-1) % 100))), (4, .int (iI ((MLs (σ 1) (σ 2 0) (σ 3 0) (σ 4 0)).getD (k).toNat (-1) / 100))), (3, .int (iI k)), (2, .int (iI (σ 2 0))), (1, .int (iI iw)), (0, .ref (ad 0))]) C.1 C.2.1 dL_isSound_40 hl (by decide) rfl (fun ls hl => ?_)
          refine lv_iload C.1 C.2.1 dL_isSound_42 (lv_at hl 0 rfl) ?_
          refine lv_iload_n C.1 C.2.1 dL_isSound_44 rfl (lv_at hl 3 rfl) ?_
          refine x_irem2 C ⟨by omega, by omega, by omega⟩ ⟨by omega, by omega, by omega⟩ dL_isSound_45 ?_
          refine lv_iload C.1 C.2.1 dL_isSound_46 (lv_at hl 1 rfl) ?_
          refine lv_iload_n C.1 C.2.1 dL_isSound_48 rfl (lv_at hl 3 rfl) ?_
          refine x_irem2 C ⟨by omega, by omega, by omega⟩ ⟨by omega, by omega, by omega⟩ dL_isSound_49 ?_
          have J58 : ∀ (ia : Int) (H1 : Heap) (lc1 : List Loc) (ls1 : Array Slot), ((ia = 0 ∧ (MLs (σ 1) (σ 2 0) (σ 3 0) (σ 4 0)).getD k.toNat (-1) % 100 % σ 2 0 = ((MLs (σ 1) (σ 2 0) (σ 3 0) (σ 4 0)).getD k.toNat (-1) / 100) % σ 2 0) ∨ (ia = 1 ∧ (MLs (σ 1) (σ 2 0) (σ 3 0) (σ 4 0)).getD k.toNat (-1) % 100 % σ 2 0 ≠ ((MLs (σ 1) (σ 2 0) (σ 3 0) (σ 4 0)).getD k.toNat (-1) / 100) % σ 2 0)) → XE D ad G ids (AN ad ids ss.heap.size) ss.heap H1 lc1 s1 [] → lv_has ls1 8 [(5, .int (iI ((MLs (σ 1) (σ 2 0) (σ 3 0) (σ 4 0)).getD (k).toNat (-1) % 100))), (4, .int (iI ((MLs (σ 1) (σ 2 0) (σ 3 0) (σ 4 0)).getD (k).toNat (-1) / 100))), (3, .int (iI k)), (2, .int (iI (σ 2 0))), (1, .int (iI iw)), (0, .ref (ad 0))] → W pp l ee (rma 60 1 3) ss mm args below meth cq H1 lc1 0 0 (MQ below (QI D ad G ids (fun z s' => 1 = z ∧ EQS σ s') ss.heap.size) args ss 1 3 (AN ad ids ss.heap.size)) (F0 mm 58 ls1 [.int (iI ia)]) := by
            intro ia H1 lc1 ls1 ha hM hl
            refine lv_istore (lv' := [(6, .int (iI ia)), (5, .int (iI ((MLs (σ 1) (σ 2 0) (σ 3 0) (σ 4 0)).getD (k).toNat (-1) % 100))), (4, .int (iI ((MLs (σ 1) (σ 2 0) (σ 3 0) (σ 4 0)).getD (k).toNat (-1) / 100))), (3, .int (iI k)), (2, .int (iI (σ 2 0))), (1, .int (iI iw)), (0, .ref (ad 0))]) C.1 C.2.1 dL_isSound_58 hl (by decide) rfl (fun ls hl => ?_)
            refine lv_aload_n C.1 C.2.1 dL_isSound_60 rfl (lv_at hl 6 rfl) ?_
            refine lv_iload C.1 C.2.1 dL_isSound_61 (lv_at hl 2 rfl) ?_
            refine x_ciA (fun q h => Or.inr h) (x_runVA (As := [.int (iI ((MLs (σ 1) (σ 2 0) (σ 3 0) (σ 4 0)).getD (k).toNat (-1) / 100))]) (rest := []) C (⟨by show _ ≤ (60 : Nat); omega, by show _ ≤ (40 * 60 : Nat); omega⟩) cw_RL_118 (MET.toA (v_X11_at l D ad G ids hI hJ hEs1 ((MLs (σ 1) (σ 2 0) (σ 3 0) (σ 4 0)).getD (k).toNat (-1) / 100) (by omega))) hM.x (hI 0 (by decide)) (cx_0 ad G _) rfl rfl rfl rfl (Nat.le_of_ble_eq_true rfl) hl.1 dL_isSound_63 ⟨Nat.le_of_ble_eq_true rfl, Nat.le_of_ble_eq_true rfl⟩) hM (fun r63 s63 H1 lc1 hp hM => ?_)
            obtain ⟨rfl, rfl⟩ := hp
            refine lv_aload_n C.1 C.2.1 dL_isSound_66 rfl (lv_at hl 6 rfl) ?_
            refine x_ciA (fun q h => Or.inr h) (x_runVA (As := []) (rest := [.int (iI (σ 1 ((MLs (σ 1) (σ 2 0) (σ 3 0) (σ 4 0)).getD (k).toNat (-1) / 100)))]) C (⟨by show _ ≤ (60 : Nat); omega, by show _ ≤ (40 * 60 : Nat); omega⟩) cw_RL_37 (MET.toA (v_X11_side l D ad G ids hI hJ hEs1  )) hM.x (hI 0 (by decide)) (cx_0 ad G _) rfl rfl rfl rfl (Nat.le_of_ble_eq_true rfl) hl.1 dL_isSound_67 ⟨Nat.le_of_ble_eq_true rfl, Nat.le_of_ble_eq_true rfl⟩) hM (fun r67 s67 H1 lc1 hp hM => ?_)
            obtain ⟨rfl, rfl⟩ := hp
            refine lv_iconst (v := iI 1) C.1 C.2.1 dL_isSound_70 (by decide) ?_
            refine x_iadd C dL_isSound_71 ?_
            refine x_icmp_ne C ⟨by omega, by omega⟩ ⟨by omega, by omega⟩ (tgt := 138) dL_isSound_72 (by decide) (fun c72 => ?_) (fun c72 => ?_)
            · exfalso; omega
            · refine lv_iload C.1 C.2.1 dL_isSound_75 (lv_at hl 1 rfl) ?_
              refine lv_iload_n C.1 C.2.1 dL_isSound_77 rfl (lv_at hl 4 rfl) ?_
              refine x_idiv2 C ⟨by omega, by omega, by omega⟩ ⟨by omega, by omega, by omega⟩ dL_isSound_78 ?_
              refine lv_iload C.1 C.2.1 dL_isSound_79 (lv_at hl 2 rfl) ?_
              refine lv_iload_n C.1 C.2.1 dL_isSound_81 rfl (lv_at hl 4 rfl) ?_
              refine x_idiv2 C ⟨by omega, by omega, by omega⟩ ⟨by omega, by omega, by omega⟩ dL_isSound_82 ?_
              refine lv_iload_n C.1 C.2.1 dL_isSound_83 rfl (lv_at hl 5 rfl) ?_
              refine x_iadd C dL_isSound_84 ?_
              refine x_icmp_ne C ⟨by omega, by omega⟩ ⟨by omega, by omega⟩ (tgt := 138) dL_isSound_85 (by decide) (fun c85 => ?_) (fun c85 => ?_)
              · exfalso; omega
              · refine lv_iload C.1 C.2.1 dL_isSound_88 (lv_at hl 1 rfl) ?_
                refine lv_iload_n C.1 C.2.1 dL_isSound_90 rfl (lv_at hl 4 rfl) ?_
                refine x_irem2 C ⟨by omega, by omega, by omega⟩ ⟨by omega, by omega, by omega⟩ dL_isSound_91 ?_
                refine lv_iload C.1 C.2.1 dL_isSound_92 (lv_at hl 2 rfl) ?_
                refine lv_iload_n C.1 C.2.1 dL_isSound_94 rfl (lv_at hl 4 rfl) ?_
                refine x_irem2 C ⟨by omega, by omega, by omega⟩ ⟨by omega, by omega, by omega⟩ dL_isSound_95 ?_
                refine x_isub C dL_isSound_96 ?_
                refine x_absR C ⟨Nat.le_of_ble_eq_true rfl, Nat.le_of_ble_eq_true rfl⟩ ⟨Nat.le_of_ble_eq_true rfl, Nat.le_of_ble_eq_true rfl⟩ hl.1 wM_RL_121 ⟨⟨by omega, by omega⟩, by omega⟩ (Nat.le_of_ble_eq_true rfl) dL_isSound_97 ?_
                refine lv_iconst (v := iI 1) C.1 C.2.1 dL_isSound_100 (by decide) ?_
                refine x_icmp_gt C ⟨by omega, by omega⟩ ⟨by omega, by omega⟩ (tgt := 138) dL_isSound_101 (by decide) (fun c101 => ?_) (fun c101 => ?_)
                · exfalso; omega
                · refine lv_iload C.1 C.2.1 dL_isSound_104 (lv_at hl 0 rfl) ?_
                  refine lv_aload_n C.1 C.2.1 dL_isSound_106 rfl (lv_at hl 6 rfl) ?_
                  refine lv_iload_n C.1 C.2.1 dL_isSound_107 rfl (lv_at hl 3 rfl) ?_
                  refine x_ciA (fun q h => Or.inr h) (x_runVA (As := [.int (iI k)]) (rest := [.int (iI ia)]) C (⟨by show _ ≤ (60 : Nat); omega, by show _ ≤ (40 * 60 : Nat); omega⟩) cw_RL_124 (MET.toA (v_X11_takes l D ad G ids hI hJ hEs1 k (by omega))) hM.x (hI 0 (by decide)) (cx_0 ad G _) rfl rfl rfl rfl (Nat.le_of_ble_eq_true rfl) hl.1 dL_isSound_108 ⟨Nat.le_of_ble_eq_true rfl, Nat.le_of_ble_eq_true rfl⟩) hM (fun r108 s108 H1 lc1 hp hM => ?_)
                  obtain ⟨rfl, rfl⟩ := hp
                  refine x_icmp_ne C ⟨by omega, by omega⟩ ⟨by omega, by omega⟩ (tgt := 138) dL_isSound_111 (by decide) (fun c111 => ?_) (fun c111 => ?_)
                  · exfalso; omega
                  · refine lv_aload_n C.1 C.2.1 dL_isSound_114 rfl (lv_at hl 6 rfl) ?_
                    refine lv_iload C.1 C.2.1 dL_isSound_115 (lv_at hl 1 rfl) ?_
                    refine x_ciA (fun q h => Or.inr h) (x_runVA (As := [.int (iI ((MLs (σ 1) (σ 2 0) (σ 3 0) (σ 4 0)).getD (k).toNat (-1) % 100))]) (rest := []) C (⟨by show _ ≤ (60 : Nat); omega, by show _ ≤ (40 * 60 : Nat); omega⟩) cw_RL_118 (MET.toA (v_X11_at l D ad G ids hI hJ hEs1 ((MLs (σ 1) (σ 2 0) (σ 3 0) (σ 4 0)).getD (k).toNat (-1) % 100) (by omega))) hM.x (hI 0 (by decide)) (cx_0 ad G _) rfl rfl rfl rfl (Nat.le_of_ble_eq_true rfl) hl.1 dL_isSound_117 ⟨Nat.le_of_ble_eq_true rfl, Nat.le_of_ble_eq_true rfl⟩) hM (fun r117 s117 H1 lc1 hp hM => ?_)
                    obtain ⟨rfl, rfl⟩ := hp
                    refine lv_iload C.1 C.2.1 dL_isSound_120 (lv_at hl 0 rfl) ?_
                    have J135 : ∀ (ix : Int) (H1 : Heap) (lc1 : List Loc) (ls1 : Array Slot), (ix = if ia = 0 then 0 else 2 - σ 4 0) → XE D ad G ids (AN ad ids ss.heap.size) ss.heap H1 lc1 s1 [] → lv_has ls1 8 [(6, .int (iI ia)), (5, .int (iI ((MLs (σ 1) (σ 2 0) (σ 3 0) (σ 4 0)).getD (k).toNat (-1) % 100))), (4, .int (iI ((MLs (σ 1) (σ 2 0) (σ 3 0) (σ 4 0)).getD (k).toNat (-1) / 100))), (3, .int (iI k)), (2, .int (iI (σ 2 0))), (1, .int (iI iw)), (0, .ref (ad 0))] → W pp l ee (rma 60 1 3) ss mm args below meth cq H1 lc1 0 0 (MQ below (QI D ad G ids (fun z s' => 1 = z ∧ EQS σ s') ss.heap.size) args ss 1 3 (AN ad ids ss.heap.size)) (F0 mm 135 ls1 [.int (iI ix), .int (iI (σ 1 ((MLs (σ 1) (σ 2 0) (σ 3 0) (σ 4 0)).getD (k).toNat (-1) % 100)))]) := by
                      intro ix H1 lc1 ls1 hx hM hl
                      refine x_icmp_eq C ⟨by omega, by omega⟩ ⟨by omega, by omega⟩ (tgt := 140) dL_isSound_135 (by decide) (fun c135 => ?_) (fun c135 => ?_)
                      · refine lv_iload_n C.1 C.2.1 dL_isSound_140 rfl (lv_at hl 3 rfl) ?_
                        refine x_if_le C ⟨by omega, by omega⟩ (tgt := 182) dL_isSound_141 (by decide) (fun c141 => ?_) (fun c141 => ?_)
                        · have hvv : -(vv (cfg σ) 0 (mvF (σ 1) ((MLs (σ 1) (σ 2 0) (σ 3 0) (σ 4 0)).getD k.toNat (-1))) (1 - σ 4 0)) ≤ vv (cfg σ) (1 : Int).toNat (σ 1) (σ 4 0) := vv1_ge (cfg σ) hm
                          have hv1 := hJ.vb ((MLs (σ 1) (σ 2 0) (σ 3 0) (σ 4 0)).getD k.toNat (-1))
                          have hv2 := hJ.vvb (d := (1 : Int).toNat) (by decide)
                          refine lv_aload_n C.1 C.2.1 dL_isSound_182 rfl (lv_at hl 6 rfl) ?_
                          refine lv_iload_n C.1 C.2.1 dL_isSound_183 rfl (lv_at hl 3 rfl) ?_
                          refine lv_iconst (v := iI 1) C.1 C.2.1 dL_isSound_184 (by decide) ?_
                          refine x_ciA (fun q h => Or.inr h) (x_runVA (As := [.int (iI k), .int (iI 1)]) (rest := []) C (⟨by show _ ≤ (60 : Nat); omega, by show _ ≤ (40 * 60 : Nat); omega⟩) cw_RL_128 (MET.toA (v_X11_valueOf l D ad G ids hI hJ hEs1 k (by omega))) hM.x (hI 0 (by decide)) (cx_0 ad G _) rfl rfl rfl rfl (Nat.le_of_ble_eq_true rfl) hl.1 dL_isSound_185 ⟨Nat.le_of_ble_eq_true rfl, Nat.le_of_ble_eq_true rfl⟩) hM (fun r185 s185 H1 lc1 hp hM => ?_)
                          obtain ⟨rfl, hEs185⟩ := hp
                          refine lv_aload_n C.1 C.2.1 dL_isSound_188 rfl (lv_at hl 6 rfl) ?_
                          refine lv_iconst (v := iI 1) C.1 C.2.1 dL_isSound_189 (by decide) ?_
                          refine x_ciA (fun q h => Or.inr h) (x_runVA (As := [.int (iI 1)]) (rest := [.int (iI (-(vv (cfg σ) 0 (mvF (σ 1) ((MLs (σ 1) (σ 2 0) (σ 3 0) (σ 4 0)).getD (k).toNat (-1))) (1 - σ 4 0))))]) C (⟨by show _ ≤ (60 : Nat); omega, by show _ ≤ (40 * 60 : Nat); omega⟩) cw_RL_97 (MET.toA (v_X11_value l D ad G ids hI hJ hEs185 1 (by omega))) hM.x (hI 0 (by decide)) (cx_0 ad G _) rfl rfl rfl rfl (Nat.le_of_ble_eq_true rfl) hl.1 dL_isSound_190 ⟨Nat.le_of_ble_eq_true rfl, Nat.le_of_ble_eq_true rfl⟩) hM (fun r190 s190 H1 lc1 hp hM => ?_)
                          obtain ⟨rfl, hEs190⟩ := hp
                          refine x_icmp_le C ⟨by omega, by omega⟩ ⟨by omega, by omega⟩ (tgt := 198) dL_isSound_193 (by decide) (fun c193 => ?_) (fun c193 => ?_)
                          · refine x_iinc (lv1 := [(3, .int (iI (k + 1))), (6, .int (iI ia)), (5, .int (iI ((MLs (σ 1) (σ 2 0) (σ 3 0) (σ 4 0)).getD (k).toNat (-1) % 100))), (4, .int (iI ((MLs (σ 1) (σ 2 0) (σ 3 0) (σ 4 0)).getD (k).toNat (-1) / 100))), (2, .int (iI (σ 2 0))), (1, .int (iI iw)), (0, .ref (ad 0))]) C dL_isSound_198 hl (k := 3) rfl (by decide) rfl (fun ls hl => ?_)
                            refine lv_goto (tgt := 20) C.1 C.2.1 dL_isSound_201 (by decide) ?_
                            exact ih20 (k + 1) s190 _ _ _ (by omega) hEs190 (by omega) hM (lv_sub hl [0, 4, 5, 6] rfl)
                          · exfalso; omega
                        · have hmp : (MLs (σ 1) (σ 2 0) (σ 3 0) (σ 4 0)).getD (k - 1).toNat (-1) ∈ (MLs (σ 1) (σ 2 0) (σ 3 0) (σ 4 0)) := getD_mem (by omega) (by omega)
                          have okp := hJ.ok hmp
                          have hlt : (MLs (σ 1) (σ 2 0) (σ 3 0) (σ 4 0)).getD (k - 1).toNat (-1) < (MLs (σ 1) (σ 2 0) (σ 3 0) (σ 4 0)).getD k.toNat (-1) := getD_pw hJ.pw (a := k - 1) (b := k) (by omega) (by omega) (show k < ((MLs (σ 1) (σ 2 0) (σ 3 0) (σ 4 0)).length : Int) by omega)
                          refine lv_iload C.1 C.2.1 dL_isSound_144 (lv_at hl 2 rfl) ?_
                          refine lv_aload_n C.1 C.2.1 dL_isSound_146 rfl (lv_at hl 6 rfl) ?_
                          refine lv_iload_n C.1 C.2.1 dL_isSound_147 rfl (lv_at hl 3 rfl) ?_
                          refine lv_iconst (v := iI 1) C.1 C.2.1 dL_isSound_148 (by decide) ?_
                          refine x_isub C dL_isSound_149 ?_
                          refine x_ciA (fun q h => Or.inr h) (x_runVA (As := [.int (iI (k - 1))]) (rest := [.int (iI ((MLs (σ 1) (σ 2 0) (σ 3 0) (σ 4 0)).getD (k).toNat (-1) / 100))]) C (⟨by show _ ≤ (60 : Nat); omega, by show _ ≤ (40 * 60 : Nat); omega⟩) cw_RL_112 (MET.toA (v_X11_from l D ad G ids hI hJ hEs1 (k - 1) (by omega))) hM.x (hI 0 (by decide)) (cx_0 ad G _) rfl rfl rfl rfl (Nat.le_of_ble_eq_true rfl) hl.1 dL_isSound_150 ⟨Nat.le_of_ble_eq_true rfl, Nat.le_of_ble_eq_true rfl⟩) hM (fun r150 s150 H1 lc1 hp hM => ?_)
                          obtain ⟨rfl, rfl⟩ := hp
                          refine x_icmp_lt C ⟨by omega, by omega⟩ ⟨by omega, by omega⟩ (tgt := 180) dL_isSound_153 (by decide) (fun c153 => ?_) (fun c153 => ?_)
                          · exfalso; omega
                          · refine lv_iload C.1 C.2.1 dL_isSound_156 (lv_at hl 2 rfl) ?_
                            refine lv_aload_n C.1 C.2.1 dL_isSound_158 rfl (lv_at hl 6 rfl) ?_
                            refine lv_iload_n C.1 C.2.1 dL_isSound_159 rfl (lv_at hl 3 rfl) ?_
                            refine lv_iconst (v := iI 1) C.1 C.2.1 dL_isSound_160 (by decide) ?_
                            refine x_isub C dL_isSound_161 ?_
                            refine x_ciA (fun q h => Or.inr h) (x_runVA (As := [.int (iI (k - 1))]) (rest := [.int (iI ((MLs (σ 1) (σ 2 0) (σ 3 0) (σ 4 0)).getD (k).toNat (-1) / 100))]) C (⟨by show _ ≤ (60 : Nat); omega, by show _ ≤ (40 * 60 : Nat); omega⟩) cw_RL_112 (MET.toA (v_X11_from l D ad G ids hI hJ hEs1 (k - 1) (by omega))) hM.x (hI 0 (by decide)) (cx_0 ad G _) rfl rfl rfl rfl (Nat.le_of_ble_eq_true rfl) hl.1 dL_isSound_162 ⟨Nat.le_of_ble_eq_true rfl, Nat.le_of_ble_eq_true rfl⟩) hM (fun r162 s162 H1 lc1 hp hM => ?_)
                            obtain ⟨rfl, rfl⟩ := hp
                            refine x_icmp_ne C ⟨by omega, by omega⟩ ⟨by omega, by omega⟩ (tgt := 182) dL_isSound_165 (by decide) (fun c165 => ?_) (fun c165 => ?_)
                            · have hvv : -(vv (cfg σ) 0 (mvF (σ 1) ((MLs (σ 1) (σ 2 0) (σ 3 0) (σ 4 0)).getD k.toNat (-1))) (1 - σ 4 0)) ≤ vv (cfg σ) (1 : Int).toNat (σ 1) (σ 4 0) := vv1_ge (cfg σ) hm
                              have hv1 := hJ.vb ((MLs (σ 1) (σ 2 0) (σ 3 0) (σ 4 0)).getD k.toNat (-1))
                              have hv2 := hJ.vvb (d := (1 : Int).toNat) (by decide)
                              refine lv_aload_n C.1 C.2.1 dL_isSound_182 rfl (lv_at hl 6 rfl) ?_
                              refine lv_iload_n C.1 C.2.1 dL_isSound_183 rfl (lv_at hl 3 rfl) ?_
                              refine lv_iconst (v := iI 1) C.1 C.2.1 dL_isSound_184 (by decide) ?_
                              refine x_ciA (fun q h => Or.inr h) (x_runVA (As := [.int (iI k), .int (iI 1)]) (rest := []) C (⟨by show _ ≤ (60 : Nat); omega, by show _ ≤ (40 * 60 : Nat); omega⟩) cw_RL_128 (MET.toA (v_X11_valueOf l D ad G ids hI hJ hEs1 k (by omega))) hM.x (hI 0 (by decide)) (cx_0 ad G _) rfl rfl rfl rfl (Nat.le_of_ble_eq_true rfl) hl.1 dL_isSound_185 ⟨Nat.le_of_ble_eq_true rfl, Nat.le_of_ble_eq_true rfl⟩) hM (fun r185 s185 H1 lc1 hp hM => ?_)
                              obtain ⟨rfl, hEs185⟩ := hp
                              refine lv_aload_n C.1 C.2.1 dL_isSound_188 rfl (lv_at hl 6 rfl) ?_
                              refine lv_iconst (v := iI 1) C.1 C.2.1 dL_isSound_189 (by decide) ?_
                              refine x_ciA (fun q h => Or.inr h) (x_runVA (As := [.int (iI 1)]) (rest := [.int (iI (-(vv (cfg σ) 0 (mvF (σ 1) ((MLs (σ 1) (σ 2 0) (σ 3 0) (σ 4 0)).getD (k).toNat (-1))) (1 - σ 4 0))))]) C (⟨by show _ ≤ (60 : Nat); omega, by show _ ≤ (40 * 60 : Nat); omega⟩) cw_RL_97 (MET.toA (v_X11_value l D ad G ids hI hJ hEs185 1 (by omega))) hM.x (hI 0 (by decide)) (cx_0 ad G _) rfl rfl rfl rfl (Nat.le_of_ble_eq_true rfl) hl.1 dL_isSound_190 ⟨Nat.le_of_ble_eq_true rfl, Nat.le_of_ble_eq_true rfl⟩) hM (fun r190 s190 H1 lc1 hp hM => ?_)
                              obtain ⟨rfl, hEs190⟩ := hp
                              refine x_icmp_le C ⟨by omega, by omega⟩ ⟨by omega, by omega⟩ (tgt := 198) dL_isSound_193 (by decide) (fun c193 => ?_) (fun c193 => ?_)
                              · refine x_iinc (lv1 := [(3, .int (iI (k + 1))), (6, .int (iI ia)), (5, .int (iI ((MLs (σ 1) (σ 2 0) (σ 3 0) (σ 4 0)).getD (k).toNat (-1) % 100))), (4, .int (iI ((MLs (σ 1) (σ 2 0) (σ 3 0) (σ 4 0)).getD (k).toNat (-1) / 100))), (2, .int (iI (σ 2 0))), (1, .int (iI iw)), (0, .ref (ad 0))]) C dL_isSound_198 hl (k := 3) rfl (by decide) rfl (fun ls hl => ?_)
                                refine lv_goto (tgt := 20) C.1 C.2.1 dL_isSound_201 (by decide) ?_
                                exact ih20 (k + 1) s190 _ _ _ (by omega) hEs190 (by omega) hM (lv_sub hl [0, 4, 5, 6] rfl)
                              · exfalso; omega
                            · refine lv_iload C.1 C.2.1 dL_isSound_168 (lv_at hl 1 rfl) ?_
                              refine lv_aload_n C.1 C.2.1 dL_isSound_170 rfl (lv_at hl 6 rfl) ?_
                              refine lv_iload_n C.1 C.2.1 dL_isSound_171 rfl (lv_at hl 3 rfl) ?_
                              refine lv_iconst (v := iI 1) C.1 C.2.1 dL_isSound_172 (by decide) ?_
                              refine x_isub C dL_isSound_173 ?_
                              refine x_ciA (fun q h => Or.inr h) (x_runVA (As := [.int (iI (k - 1))]) (rest := [.int (iI ((MLs (σ 1) (σ 2 0) (σ 3 0) (σ 4 0)).getD (k).toNat (-1) % 100))]) C (⟨by show _ ≤ (60 : Nat); omega, by show _ ≤ (40 * 60 : Nat); omega⟩) cw_RL_115 (MET.toA (v_X11_to l D ad G ids hI hJ hEs1 (k - 1) (by omega))) hM.x (hI 0 (by decide)) (cx_0 ad G _) rfl rfl rfl rfl (Nat.le_of_ble_eq_true rfl) hl.1 dL_isSound_174 ⟨Nat.le_of_ble_eq_true rfl, Nat.le_of_ble_eq_true rfl⟩) hM (fun r174 s174 H1 lc1 hp hM => ?_)
                              obtain ⟨rfl, rfl⟩ := hp
                              refine x_icmp_gt C ⟨by omega, by omega⟩ ⟨by omega, by omega⟩ (tgt := 182) dL_isSound_177 (by decide) (fun c177 => ?_) (fun c177 => ?_)
                              · have hvv : -(vv (cfg σ) 0 (mvF (σ 1) ((MLs (σ 1) (σ 2 0) (σ 3 0) (σ 4 0)).getD k.toNat (-1))) (1 - σ 4 0)) ≤ vv (cfg σ) (1 : Int).toNat (σ 1) (σ 4 0) := vv1_ge (cfg σ) hm
                                have hv1 := hJ.vb ((MLs (σ 1) (σ 2 0) (σ 3 0) (σ 4 0)).getD k.toNat (-1))
                                have hv2 := hJ.vvb (d := (1 : Int).toNat) (by decide)
                                refine lv_aload_n C.1 C.2.1 dL_isSound_182 rfl (lv_at hl 6 rfl) ?_
                                refine lv_iload_n C.1 C.2.1 dL_isSound_183 rfl (lv_at hl 3 rfl) ?_
                                refine lv_iconst (v := iI 1) C.1 C.2.1 dL_isSound_184 (by decide) ?_
                                refine x_ciA (fun q h => Or.inr h) (x_runVA (As := [.int (iI k), .int (iI 1)]) (rest := []) C (⟨by show _ ≤ (60 : Nat); omega, by show _ ≤ (40 * 60 : Nat); omega⟩) cw_RL_128 (MET.toA (v_X11_valueOf l D ad G ids hI hJ hEs1 k (by omega))) hM.x (hI 0 (by decide)) (cx_0 ad G _) rfl rfl rfl rfl (Nat.le_of_ble_eq_true rfl) hl.1 dL_isSound_185 ⟨Nat.le_of_ble_eq_true rfl, Nat.le_of_ble_eq_true rfl⟩) hM (fun r185 s185 H1 lc1 hp hM => ?_)
                                obtain ⟨rfl, hEs185⟩ := hp
                                refine lv_aload_n C.1 C.2.1 dL_isSound_188 rfl (lv_at hl 6 rfl) ?_
                                refine lv_iconst (v := iI 1) C.1 C.2.1 dL_isSound_189 (by decide) ?_
                                refine x_ciA (fun q h => Or.inr h) (x_runVA (As := [.int (iI 1)]) (rest := [.int (iI (-(vv (cfg σ) 0 (mvF (σ 1) ((MLs (σ 1) (σ 2 0) (σ 3 0) (σ 4 0)).getD (k).toNat (-1))) (1 - σ 4 0))))]) C (⟨by show _ ≤ (60 : Nat); omega, by show _ ≤ (40 * 60 : Nat); omega⟩) cw_RL_97 (MET.toA (v_X11_value l D ad G ids hI hJ hEs185 1 (by omega))) hM.x (hI 0 (by decide)) (cx_0 ad G _) rfl rfl rfl rfl (Nat.le_of_ble_eq_true rfl) hl.1 dL_isSound_190 ⟨Nat.le_of_ble_eq_true rfl, Nat.le_of_ble_eq_true rfl⟩) hM (fun r190 s190 H1 lc1 hp hM => ?_)
                                obtain ⟨rfl, hEs190⟩ := hp
                                refine x_icmp_le C ⟨by omega, by omega⟩ ⟨by omega, by omega⟩ (tgt := 198) dL_isSound_193 (by decide) (fun c193 => ?_) (fun c193 => ?_)
                                · refine x_iinc (lv1 := [(3, .int (iI (k + 1))), (6, .int (iI ia)), (5, .int (iI ((MLs (σ 1) (σ 2 0) (σ 3 0) (σ 4 0)).getD (k).toNat (-1) % 100))), (4, .int (iI ((MLs (σ 1) (σ 2 0) (σ 3 0) (σ 4 0)).getD (k).toNat (-1) / 100))), (2, .int (iI (σ 2 0))), (1, .int (iI iw)), (0, .ref (ad 0))]) C dL_isSound_198 hl (k := 3) rfl (by decide) rfl (fun ls hl => ?_)
                                  refine lv_goto (tgt := 20) C.1 C.2.1 dL_isSound_201 (by decide) ?_
                                  exact ih20 (k + 1) s190 _ _ _ (by omega) hEs190 (by omega) hM (lv_sub hl [0, 4, 5, 6] rfl)
                                · exfalso; omega
                              · exfalso; omega
                      · exfalso; omega
                    refine x_if_eq C ⟨by omega, by omega⟩ (tgt := 134) dL_isSound_122 (by decide) (fun c122 => ?_) (fun c122 => ?_)
                    · refine lv_iconst (v := iI 0) C.1 C.2.1 dL_isSound_134 (by decide) ?_
                      exact J135 0 _ _ _ (by first | rw [if_pos (by omega)] | rw [if_neg (by omega)]) hM (lv_sub hl [0, 1, 2, 3, 4, 5, 6] rfl)
                    · refine lv_iconst (v := iI 2) C.1 C.2.1 dL_isSound_125 (by decide) ?_
                      refine lv_aload_n C.1 C.2.1 dL_isSound_126 rfl (lv_at hl 6 rfl) ?_
                      refine x_ciA (fun q h => Or.inr h) (x_runVA (As := []) (rest := [.int (iI 2), .int (iI (σ 1 ((MLs (σ 1) (σ 2 0) (σ 3 0) (σ 4 0)).getD (k).toNat (-1) % 100)))]) C (⟨by show _ ≤ (60 : Nat); omega, by show _ ≤ (40 * 60 : Nat); omega⟩) cw_RL_37 (MET.toA (v_X11_side l D ad G ids hI hJ hEs1  )) hM.x (hI 0 (by decide)) (cx_0 ad G _) rfl rfl rfl rfl (Nat.le_of_ble_eq_true rfl) hl.1 dL_isSound_127 ⟨Nat.le_of_ble_eq_true rfl, Nat.le_of_ble_eq_true rfl⟩) hM (fun r127 s127 H1 lc1 hp hM => ?_)
                      obtain ⟨rfl, rfl⟩ := hp
                      refine x_isub C dL_isSound_130 ?_
                      refine lv_goto (tgt := 135) C.1 C.2.1 dL_isSound_131 (by decide) ?_
                      exact J135 (2 - (σ 4 0)) _ _ _ (by first | rw [if_pos (by omega)] | rw [if_neg (by omega)]) hM (lv_sub hl [0, 1, 2, 3, 4, 5, 6] rfl)
          refine x_icmp_eq C ⟨by omega, by omega⟩ ⟨by omega, by omega⟩ (tgt := 57) dL_isSound_50 (by decide) (fun c50 => ?_) (fun c50 => ?_)
          · refine lv_iconst (v := iI 0) C.1 C.2.1 dL_isSound_57 (by decide) ?_
            exact J58 0 _ _ _ (by omega) hM (lv_sub hl [0, 1, 2, 3, 4, 5] rfl)
          · refine lv_iconst (v := iI 1) C.1 C.2.1 dL_isSound_53 (by decide) ?_
            refine lv_goto (tgt := 58) C.1 C.2.1 dL_isSound_54 (by decide) ?_
            exact J58 1 _ _ _ (by omega) hM (lv_sub hl [0, 1, 2, 3, 4, 5] rfl)
    exact L20 _ 0 σ _ _ _ (by omega) hEσ (Nat.lt_succ_self _) hM (lv_sub hl [0, 1, 2, 3] rfl)
  refine x_if_ne C ⟨by omega, by omega⟩ (tgt := 11) dL_isSound_4 (by decide) (fun c4 => ?_) (fun c4 => ?_)
  · refine lv_iconst (v := iI (-1)) C.1 C.2.1 dL_isSound_11 (by decide) ?_
    exact J12 (-1) _ _ _ (by first | rw [if_pos (by omega)] | rw [if_neg (by omega)]) hM (lv_sub hl [0] rfl)
  · refine lv_iconst (v := iI 1) C.1 C.2.1 dL_isSound_7 (by decide) ?_
    refine lv_goto (tgt := 12) C.1 C.2.1 dL_isSound_8 (by decide) ?_
    exact J12 1 _ _ _ (by first | rw [if_pos (by omega)] | rw [if_neg (by omega)]) hM (lv_sub hl [0] rfl)
