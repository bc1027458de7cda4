set_option maxRecDepth 100000 in
set_option maxHeartbeats 4000000 in
theorem c_X7_seek (l : Launch) (D : va_G) (ad : Nat → Nat) (G : Nat → Nat) (ids : List Nat) (hI : ∀ k, k < 81 → k ∈ ids) (σ : Sg) (D0 : Nat) (dn : Int) (htn : dn = (D0 : Int)) (hD : 1 ≤ D0 ∧ D0 ≤ 4) (hG : GI σ) (hTI : TI σ) : MET l yX7_seek cX7_seek 4 (some .int) 40 [.ref (ad 13), .int (iI dn)] D ad G ids σ (QI D ad G ids (fun z σ' => (skp (cfg σ) (σ 1) (σ 4 0) D0 1 0 0 (σ 20 0) (clrT (tv σ))).1 = z ∧ tv σ' = (skp (cfg σ) (σ 1) (σ 4 0) D0 1 0 0 (σ 20 0) (clrT (tv σ))).2.2.2 ∧ σ' 21 0 + σ' 16 0 = (skp (cfg σ) (σ 1) (σ 4 0) D0 1 0 0 (σ 20 0) (clrT (tv σ))).2.1 ∧ σ' 20 0 = (skp (cfg σ) (σ 1) (σ 4 0) D0 1 0 0 (σ 20 0) (clrT (tv σ))).2.2.1 ∧ ∀ r : Nat, r < 46 → NSR r → r ≠ 20 → σ' r = σ r)) := by
  refine x_enter (by decide) (Nat.le_of_ble_eq_true rfl) ?_
  intro pp ee ss mm args below meth cq C hr ls hl hM
  have hl : lv_has ls 4 [(0, .ref (ad 13)), (1, .int (iI dn))] := hl
  refine lv_aload_n C.1 C.2.1 dX7_seek_0 rfl (lv_at hl 0 rfl) ?_
  refine g_X7_4 C hM (hI 13 (by decide)) wf_X7_30 dX7_seek_1 ?_
  refine x_cv (x_runV (As := []) (rest := []) C (by omega) cw_X7_63 (c_X3_clear l D ad G ids (hI 14 (by decide)) (hI 15 (by decide)) (hI 16 (by decide)) σ) hM (hI 14 (by decide)) (cx_14 ad G _) rfl rfl rfl rfl (Nat.le_of_ble_eq_true rfl) hl.1 dX7_seek_4) hM (fun s4 H1 lc1 hp hM => ?_)
  obtain rfl := hp
  refine lv_aload_n C.1 C.2.1 dX7_seek_7 rfl (lv_at hl 0 rfl) ?_
  refine g_X7_3 C hM (hI 13 (by decide)) wf_X7_23 dX7_seek_8 ?_
  refine x_cv (x_runV (As := []) (rest := []) C (by omega) cw_X7_66 (c_X6_clearCount l D ad G ids hI (upr (upr σ 17 (fiF (σ 17) 5)) 18 (fiF (σ 18) 5)) 1 (by decide)) hM (hI _ (by omega)) (cx_q ad G _ (by decide)) rfl rfl rfl rfl (Nat.le_of_ble_eq_true rfl) hl.1 dX7_seek_11) hM (fun s11 H1 lc1 hp hM => ?_)
  obtain rfl := hp
  refine lv_aload_n C.1 C.2.1 dX7_seek_14 rfl (lv_at hl 0 rfl) ?_
  refine lv_iconst (v := iI 0) C.1 C.2.1 dX7_seek_15 (by decide) ?_
  refine p_X7_7 C hM (hI 13 (by decide)) wf_X7_41 dX7_seek_16 (fun H1 lc1 hM => ?_)
  refine lv_aload_n C.1 C.2.1 dX7_seek_19 rfl (lv_at hl 0 rfl) ?_
  refine lv_iconst (v := iI 0) C.1 C.2.1 dX7_seek_20 (by decide) ?_
  refine p_X7_8 C hM (hI 13 (by decide)) wf_X7_50 dX7_seek_21 (fun H1 lc1 hM => ?_)
  refine lv_aload_n C.1 C.2.1 dX7_seek_24 rfl (lv_at hl 0 rfl) ?_
  refine lv_iconst (v := iI 0) C.1 C.2.1 dX7_seek_25 (by decide) ?_
  refine p_X7_9 C hM (hI 13 (by decide)) wf_X7_53 dX7_seek_26 (fun H1 lc1 hM => ?_)
  have f0 : ∀ r, NSR r → (upr (upr (upr (upr (upr (upr σ 17 (fiF (σ 17) 5)) 18 (fiF (σ 18) 5)) 16 (ups ((upr (upr σ 17 (fiF (σ 17) 5)) 18 (fiF (σ 18) 5)) 16) 0 0)) 21 (ups ((upr (upr (upr σ 17 (fiF (σ 17) 5)) 18 (fiF (σ 18) 5)) 16 (ups ((upr (upr σ 17 (fiF (σ 17) 5)) 18 (fiF (σ 18) 5)) 16) 0 0)) 21) 0 0)) 22 (ups ((upr (upr (upr (upr σ 17 (fiF (σ 17) 5)) 18 (fiF (σ 18) 5)) 16 (ups ((upr (upr σ 17 (fiF (σ 17) 5)) 18 (fiF (σ 18) 5)) 16) 0 0)) 21 (ups ((upr (upr (upr σ 17 (fiF (σ 17) 5)) 18 (fiF (σ 18) 5)) 16 (ups ((upr (upr σ 17 (fiF (σ 17) 5)) 18 (fiF (σ 18) 5)) 16) 0 0)) 21) 0 0)) 22) 0 0)) 23 (ups ((upr (upr (upr (upr (upr σ 17 (fiF (σ 17) 5)) 18 (fiF (σ 18) 5)) 16 (ups ((upr (upr σ 17 (fiF (σ 17) 5)) 18 (fiF (σ 18) 5)) 16) 0 0)) 21 (ups ((upr (upr (upr σ 17 (fiF (σ 17) 5)) 18 (fiF (σ 18) 5)) 16 (ups ((upr (upr σ 17 (fiF (σ 17) 5)) 18 (fiF (σ 18) 5)) 16) 0 0)) 21) 0 0)) 22 (ups ((upr (upr (upr (upr σ 17 (fiF (σ 17) 5)) 18 (fiF (σ 18) 5)) 16 (ups ((upr (upr σ 17 (fiF (σ 17) 5)) 18 (fiF (σ 18) 5)) 16) 0 0)) 21 (ups ((upr (upr (upr σ 17 (fiF (σ 17) 5)) 18 (fiF (σ 18) 5)) 16 (ups ((upr (upr σ 17 (fiF (σ 17) 5)) 18 (fiF (σ 18) 5)) 16) 0 0)) 21) 0 0)) 22) 0 0)) 23) 0 0)) r = σ r := fun r q => by
    unfold NSR at q
    rw [upr_ne _ _ (by omega), upr_ne _ _ (by omega), upr_ne _ _ (by omega), upr_ne _ _ (by omega), upr_ne _ _ (by omega), upr_ne _ _ (by omega)]
  have t0 : tv (upr (upr (upr (upr (upr (upr σ 17 (fiF (σ 17) 5)) 18 (fiF (σ 18) 5)) 16 (ups ((upr (upr σ 17 (fiF (σ 17) 5)) 18 (fiF (σ 18) 5)) 16) 0 0)) 21 (ups ((upr (upr (upr σ 17 (fiF (σ 17) 5)) 18 (fiF (σ 18) 5)) 16 (ups ((upr (upr σ 17 (fiF (σ 17) 5)) 18 (fiF (σ 18) 5)) 16) 0 0)) 21) 0 0)) 22 (ups ((upr (upr (upr (upr σ 17 (fiF (σ 17) 5)) 18 (fiF (σ 18) 5)) 16 (ups ((upr (upr σ 17 (fiF (σ 17) 5)) 18 (fiF (σ 18) 5)) 16) 0 0)) 21 (ups ((upr (upr (upr σ 17 (fiF (σ 17) 5)) 18 (fiF (σ 18) 5)) 16 (ups ((upr (upr σ 17 (fiF (σ 17) 5)) 18 (fiF (σ 18) 5)) 16) 0 0)) 21) 0 0)) 22) 0 0)) 23 (ups ((upr (upr (upr (upr (upr σ 17 (fiF (σ 17) 5)) 18 (fiF (σ 18) 5)) 16 (ups ((upr (upr σ 17 (fiF (σ 17) 5)) 18 (fiF (σ 18) 5)) 16) 0 0)) 21 (ups ((upr (upr (upr σ 17 (fiF (σ 17) 5)) 18 (fiF (σ 18) 5)) 16 (ups ((upr (upr σ 17 (fiF (σ 17) 5)) 18 (fiF (σ 18) 5)) 16) 0 0)) 21) 0 0)) 22 (ups ((upr (upr (upr (upr σ 17 (fiF (σ 17) 5)) 18 (fiF (σ 18) 5)) 16 (ups ((upr (upr σ 17 (fiF (σ 17) 5)) 18 (fiF (σ 18) 5)) 16) 0 0)) 21 (ups ((upr (upr (upr σ 17 (fiF (σ 17) 5)) 18 (fiF (σ 18) 5)) 16 (ups ((upr (upr σ 17 (fiF (σ 17) 5)) 18 (fiF (σ 18) 5)) 16) 0 0)) 21) 0 0)) 22) 0 0)) 23) 0 0)) = clrT (tv σ) := by
    rw [← clrT_tv]
    refine tv_ext (fun r hr => ?_)
    obtain h | h | h | h | h | h : (9 ≤ r ∧ r ≤ 14) ∨ r = 17 ∨ r = 18 ∨ r = 19 ∨ r = 22 ∨ r = 23 := hr
    · unfold clrT setT
      rw [upr_ne _ _ (by omega), upr_ne _ _ (by omega), upr_ne _ _ (by omega), upr_ne _ _ (by omega), upr_ne _ _ (by omega), upr_ne _ _ (by omega), upr_ne _ _ (by omega), upr_ne _ _ (by omega), upr_ne _ _ (by omega), upr_ne _ _ (by omega)]
    all_goals (subst h; rfl)
  have T0 : TI (upr (upr (upr (upr (upr (upr σ 17 (fiF (σ 17) 5)) 18 (fiF (σ 18) 5)) 16 (ups ((upr (upr σ 17 (fiF (σ 17) 5)) 18 (fiF (σ 18) 5)) 16) 0 0)) 21 (ups ((upr (upr (upr σ 17 (fiF (σ 17) 5)) 18 (fiF (σ 18) 5)) 16 (ups ((upr (upr σ 17 (fiF (σ 17) 5)) 18 (fiF (σ 18) 5)) 16) 0 0)) 21) 0 0)) 22 (ups ((upr (upr (upr (upr σ 17 (fiF (σ 17) 5)) 18 (fiF (σ 18) 5)) 16 (ups ((upr (upr σ 17 (fiF (σ 17) 5)) 18 (fiF (σ 18) 5)) 16) 0 0)) 21 (ups ((upr (upr (upr σ 17 (fiF (σ 17) 5)) 18 (fiF (σ 18) 5)) 16 (ups ((upr (upr σ 17 (fiF (σ 17) 5)) 18 (fiF (σ 18) 5)) 16) 0 0)) 21) 0 0)) 22) 0 0)) 23 (ups ((upr (upr (upr (upr (upr σ 17 (fiF (σ 17) 5)) 18 (fiF (σ 18) 5)) 16 (ups ((upr (upr σ 17 (fiF (σ 17) 5)) 18 (fiF (σ 18) 5)) 16) 0 0)) 21 (ups ((upr (upr (upr σ 17 (fiF (σ 17) 5)) 18 (fiF (σ 18) 5)) 16 (ups ((upr (upr σ 17 (fiF (σ 17) 5)) 18 (fiF (σ 18) 5)) 16) 0 0)) 21) 0 0)) 22 (ups ((upr (upr (upr (upr σ 17 (fiF (σ 17) 5)) 18 (fiF (σ 18) 5)) 16 (ups ((upr (upr σ 17 (fiF (σ 17) 5)) 18 (fiF (σ 18) 5)) 16) 0 0)) 21 (ups ((upr (upr (upr σ 17 (fiF (σ 17) 5)) 18 (fiF (σ 18) 5)) 16 (ups ((upr (upr σ 17 (fiF (σ 17) 5)) 18 (fiF (σ 18) 5)) 16) 0 0)) 21) 0 0)) 22) 0 0)) 23) 0 0)) := TI_tv.mp (by rw [t0, ← clrT_tv]; exact TI_tv.mpr hTI.clr)
  refine lv_iconst (v := iI 0) C.1 C.2.1 dX7_seek_29 (by decide) ?_
  refine lv_istore_n (lv' := [(2, .int (iI 0)), (0, .ref (ad 13)), (1, .int (iI dn))]) C.1 C.2.1 dX7_seek_30 rfl hl (by decide) rfl (fun ls hl => ?_)
  refine lv_iconst (v := iI 1) C.1 C.2.1 dX7_seek_31 (by decide) ?_
  refine lv_istore_n (lv' := [(3, .int (iI 1)), (2, .int (iI 0)), (0, .ref (ad 13)), (1, .int (iI dn))]) C.1 C.2.1 dX7_seek_32 rfl hl (by decide) rfl (fun ls hl => ?_)
  have L33 : ∀ (fu : Nat) (x : Int) (num : Int) (n : Int) (re : Int) (s1 : Sg) (H1 : Heap) (lc1 : List Loc) (ls1 : Array Slot), (1 ≤ x ∧ x ≤ (D0 : Int) + 1) → (∀ r : Nat, r < 46 → NSR r → r ≠ 20 → s1 r = σ r) → (TI s1) → (s1 21 0 + s1 16 0 = n) → (s1 20 0 = re) → (skp (cfg σ) (σ 1) (σ 4 0) ((D0 : Int) + 1 - x).toNat x.toNat num n re (tv s1) = skp (cfg σ) (σ 1) (σ 4 0) D0 1 0 0 (σ 20 0) (clrT (tv σ))) → (10 - x).toNat < fu → XI D ad G ids (AN ad ids ss.heap.size) ss.heap H1 lc1 s1 → lv_has ls1 4 [(3, .int (iI x)), (2, .int (iI num)), (0, .ref (ad 13)), (1, .int (iI dn))] → W pp l ee (rmh 40) ss mm args below meth cq H1 lc1 0 0 (MQ below (QI D ad G ids (fun z σ' => (skp (cfg σ) (σ 1) (σ 4 0) D0 1 0 0 (σ 20 0) (clrT (tv σ))).1 = z ∧ tv σ' = (skp (cfg σ) (σ 1) (σ 4 0) D0 1 0 0 (σ 20 0) (clrT (tv σ))).2.2.2 ∧ σ' 21 0 + σ' 16 0 = (skp (cfg σ) (σ 1) (σ 4 0) D0 1 0 0 (σ 20 0) (clrT (tv σ))).2.1 ∧ σ' 20 0 = (skp (cfg σ) (σ 1) (σ 4 0) D0 1 0 0 (σ 20 0) (clrT (tv σ))).2.2.1 ∧ ∀ r : Nat, r < 46 → NSR r → r ≠ 20 → σ' r = σ r) ss.heap.size) args ss 0 0 (AN ad ids ss.heap.size)) (F0 mm 33 ls1 []) := by
    intro fu
    induction fu with
    | zero => intro x num n re s1 H1 lc1 ls1 x0 hfr hT1 hn hr20 hq hfu; exact absurd hfu (Nat.not_lt_zero _)
    | succ fu ih33 =>
      intro x num n re s1 H1 lc1 ls1 x0 hfr hT1 hn hr20 hq hfu hM hl
      refine lv_iload_n C.1 C.2.1 dX7_seek_33 rfl (lv_at hl 0 rfl) ?_
      refine lv_iload_n C.1 C.2.1 dX7_seek_34 rfl (lv_at hl 3 rfl) ?_
      refine x_icmp_gt C ⟨by omega, by omega⟩ ⟨by omega, by omega⟩ (tgt := 71) dX7_seek_35 (by decide) (fun c35 => ?_) (fun c35 => ?_)
      · refine lv_iload_n C.1 C.2.1 dX7_seek_71 rfl (lv_at hl 1 rfl) ?_
        refine x_iret C hr hM ?_ dX7_seek_72
        have hF : skp (cfg σ) (σ 1) (σ 4 0) D0 1 0 0 (σ 20 0) (clrT (tv σ)) = (num, n, re, tv s1) := by
          rw [← hq]
          by_cases e : x ≤ (D0 : Int)
          · rw [show ((D0 : Int) + 1 - x).toNat = ((D0 : Int) + 1 - (x + 1)).toNat + 1 by omega, skp, if_pos (by rw [← hn]; first | exact c45 | omega)]
          · rw [show ((D0 : Int) + 1 - x).toNat = 0 by omega, skp]
        rw [hF]
        exact ⟨rfl, rfl, hn, hr20, hfr⟩
      · have hGs : GI s1 := hG.of (fun r hr => hfr r (by omega) (by unfold NSR; omega) (by omega))
        have hcs : cfg s1 = cfg σ := cfg_of (fun r hr => hfr r (by omega) (by unfold NSR; omega) (by omega))
        have k1 := hfr 1 (by omega) (by unfold NSR; omega) (by omega)
        have k4 := hfr 4 (by omega) (by unfold NSR; omega) (by omega)
        refine lv_aload_n C.1 C.2.1 dX7_seek_38 rfl (lv_at hl 2 rfl) ?_
        refine x_ci (x_runV (As := []) (rest := []) C (by omega) cw_X7_69 (c_X7_nodeCount l D ad G ids hI s1) hM (hI 13 (by decide)) (cx_13 ad G _) rfl rfl rfl rfl (Nat.le_of_ble_eq_true rfl) hl.1 dX7_seek_39) hM (fun r39 s39 H1 lc1 hp hM => ?_)
        obtain ⟨rfl, rfl⟩ := hp
        refine lv_sipush (v := iI 1000) C.1 C.2.1 dX7_seek_42 (by decide) ?_
        refine lv_icmp_gt (tgt := 71) C.1 C.2.1 dX7_seek_45 (by decide) (fun c45 => ?_) (fun c45 => ?_)
        · refine lv_iload_n C.1 C.2.1 dX7_seek_71 rfl (lv_at hl 1 rfl) ?_
          refine x_iret C hr hM ?_ dX7_seek_72
          have hF : skp (cfg σ) (σ 1) (σ 4 0) D0 1 0 0 (σ 20 0) (clrT (tv σ)) = (num, n, re, tv s1) := by
            rw [← hq]
            by_cases e : x ≤ (D0 : Int)
            · rw [show ((D0 : Int) + 1 - x).toNat = ((D0 : Int) + 1 - (x + 1)).toNat + 1 by omega, skp, if_pos (by rw [← hn]; first | exact c45 | omega)]
            · rw [show ((D0 : Int) + 1 - x).toNat = 0 by omega, skp]
          rw [hF]
          exact ⟨rfl, rfl, hn, hr20, hfr⟩
        · refine lv_aload_n C.1 C.2.1 dX7_seek_48 rfl (lv_at hl 2 rfl) ?_
          refine lv_iload_n C.1 C.2.1 dX7_seek_49 rfl (lv_at hl 0 rfl) ?_
          refine lv_sipush (v := iI (-9999)) C.1 C.2.1 dX7_seek_50 (by decide) ?_
          refine lv_sipush (v := iI 9999) C.1 C.2.1 dX7_seek_53 (by decide) ?_
          refine x_ci (x_runV (As := [.int (iI x), .int (iI (-9999)), .int (iI 9999)]) (rest := []) C (by omega) cw_X7_70 (explore_all l D ad G ids hI x.toNat (by omega) s1 x (-9999) 9999 (by omega) hGs hT1 (by omega) (by omega)) hM (hI 13 (by decide)) (cx_13 ad G _) rfl rfl rfl rfl (Nat.le_of_ble_eq_true rfl) hl.1 dX7_seek_56) hM (fun r56 s56 H1 lc1 hp hM => ?_)
          obtain ⟨hzs56, hts56, hns56, hfs56⟩ := hp
          rw [hcs, k1, k4] at hzs56 hts56 hns56
          have hok := sb_ok hG.2.2.2.2 x.toNat (σ 1) (σ 4 0) (-9999) 9999 (tv s1) (by omega) hG.2.1 hG.2.2.1 (TI_tv.mpr hT1)
          have hT5 : TI s56 := TI_tv.mp (by rw [hts56]; exact hok.1)
          refine lv_istore_n (lv' := [(2, .int (iI r56)), (3, .int (iI x)), (0, .ref (ad 13)), (1, .int (iI dn))]) C.1 C.2.1 dX7_seek_59 rfl hl (by decide) rfl (fun ls hl => ?_)
          refine lv_aload_n C.1 C.2.1 dX7_seek_60 rfl (lv_at hl 2 rfl) ?_
          refine lv_iload_n C.1 C.2.1 dX7_seek_61 rfl (lv_at hl 1 rfl) ?_
          refine p_X7_6 C hM (hI 13 (by decide)) wf_X7_38 dX7_seek_62 (fun H1 lc1 hM => ?_)
          refine x_iinc (lv1 := [(3, .int (iI (x + 1))), (2, .int (iI r56)), (0, .ref (ad 13)), (1, .int (iI dn))]) C dX7_seek_65 hl (k := 1) rfl (by decide) rfl (fun ls hl => ?_)
          refine lv_goto (tgt := 33) C.1 C.2.1 dX7_seek_68 (by decide) ?_
          exact ih33 (x + 1) r56 (n + (sb (cfg σ) x.toNat (σ 1) (σ 4 0) (-9999) 9999 (tv s1)).2.1) x (upr s56 20 (ups (s56 20) 0 x)) _ _ _ (by omega) (fun r a q z => by rw [upr_ne _ _ z]; exact (hfs56 r (by omega) q).trans (hfr r a q z)) (hT5.set (by omega) _) (by rw [upr_ne _ _ (show (21 : Nat) ≠ 20 by decide), upr_ne _ _ (show (16 : Nat) ≠ 20 by decide), hns56, hn]) (by rw [upr_eq, ups_eq]) (by rw [← hq, show ((D0 : Int) + 1 - x).toNat = ((D0 : Int) + 1 - (x + 1)).toNat + 1 by omega, skp, if_neg (by rw [← hn]; exact c45), tv_out _ _ (by omega), hts56, ← hzs56, show (x + 1).toNat = x.toNat + 1 by omega, Int.toNat_of_nonneg (by omega)]) (by omega) hM (lv_sub hl [0, 1, 2, 3] rfl)
  exact L33 _ 1 0 0 (σ 20 0) (upr (upr (upr (upr (upr (upr σ 17 (fiF (σ 17) 5)) 18 (fiF (σ 18) 5)) 16 (ups ((upr (upr σ 17 (fiF (σ 17) 5)) 18 (fiF (σ 18) 5)) 16) 0 0)) 21 (ups ((upr (upr (upr σ 17 (fiF (σ 17) 5)) 18 (fiF (σ 18) 5)) 16 (ups ((upr (upr σ 17 (fiF (σ 17) 5)) 18 (fiF (σ 18) 5)) 16) 0 0)) 21) 0 0)) 22 (ups ((upr (upr (upr (upr σ 17 (fiF (σ 17) 5)) 18 (fiF (σ 18) 5)) 16 (ups ((upr (upr σ 17 (fiF (σ 17) 5)) 18 (fiF (σ 18) 5)) 16) 0 0)) 21 (ups ((upr (upr (upr σ 17 (fiF (σ 17) 5)) 18 (fiF (σ 18) 5)) 16 (ups ((upr (upr σ 17 (fiF (σ 17) 5)) 18 (fiF (σ 18) 5)) 16) 0 0)) 21) 0 0)) 22) 0 0)) 23 (ups ((upr (upr (upr (upr (upr σ 17 (fiF (σ 17) 5)) 18 (fiF (σ 18) 5)) 16 (ups ((upr (upr σ 17 (fiF (σ 17) 5)) 18 (fiF (σ 18) 5)) 16) 0 0)) 21 (ups ((upr (upr (upr σ 17 (fiF (σ 17) 5)) 18 (fiF (σ 18) 5)) 16 (ups ((upr (upr σ 17 (fiF (σ 17) 5)) 18 (fiF (σ 18) 5)) 16) 0 0)) 21) 0 0)) 22 (ups ((upr (upr (upr (upr σ 17 (fiF (σ 17) 5)) 18 (fiF (σ 18) 5)) 16 (ups ((upr (upr σ 17 (fiF (σ 17) 5)) 18 (fiF (σ 18) 5)) 16) 0 0)) 21 (ups ((upr (upr (upr σ 17 (fiF (σ 17) 5)) 18 (fiF (σ 18) 5)) 16 (ups ((upr (upr σ 17 (fiF (σ 17) 5)) 18 (fiF (σ 18) 5)) 16) 0 0)) 21) 0 0)) 22) 0 0)) 23) 0 0)) _ _ _ (by omega) (fun r a q _ => f0 r q) T0 rfl (by rw [f0 20 (by unfold NSR; omega)]) (by rw [t0, show ((D0 : Int) + 1 - 1).toNat = D0 by omega]; rfl) (Nat.lt_succ_self _) hM (lv_sub hl [0, 1, 2, 3] rfl)
