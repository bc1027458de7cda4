theorem tv_ans_no {σ s : Sg} {key z d dn lo up : Int} {α : Type} {a b : α} (hv : tv s = tv σ) (hb : fndT s key = z) (hd : dn = d) (h : ¬ ansB s z dn lo up = true) : (if ansB (tv σ) (fndT (tv σ) key) d lo up = true then a else b) = b := by
  subst hd
  rw [← hv, tv_fnd, hb, tv_ans, if_neg h]
set_option maxRecDepth 100000 in
set_option maxHeartbeats 4000000 in
theorem c_X7_explore (l : Launch) (D : va_G) (ad : Nat → Nat) (G : Nat → Nat) (ids : List Nat) (hI : ∀ k, k < 81 → k ∈ ids) (σ : Sg) (d : Nat) (dn lo up : Int) (htn : dn = (d : Int)) (hd4 : d ≤ 4) (hrec : ∀ d1, d = d1 + 1 → EXc l D ad G ids d1) (hG : GI σ) (hTI : TI σ) (hlo : -9999 ≤ lo ∧ lo ≤ 9999) (hup : -9999 ≤ up ∧ up ≤ 9999) : MET l yX7_explore cX7_explore 8 (some .int) (20 + 4 * d) [.ref (ad 13), .int (iI dn), .int (iI lo), .int (iI up)] D ad G ids σ (QI D ad G ids (exPost d σ lo up)) := by
  have h18 := MLs18 hG
  have hMB := MLsMB hG
  have hN := MLsN hG
  have hky0 := SB_key hG
  refine x_enter (by decide) (Nat.le_of_ble_eq_true rfl) ?_
  intro pp ee ss mm args below meth cq C hr ls hl hM
  have hl : lv_has ls 8 [(0, .ref (ad 13)), (1, .int (iI dn)), (2, .int (iI lo)), (3, .int (iI up))] := hl
  refine lv_iload_n C.1 C.2.1 dX7_explore_0 rfl (lv_at hl 1 rfl) ?_
  refine x_if_gt C ⟨by omega, by omega⟩ (tgt := 15) dX7_explore_1 (by decide) (fun c1 => ?_) (fun c1 => ?_)
  · obtain ⟨d1, hd1⟩ : ∃ d1, d = d1 + 1 := ⟨d - 1, by omega⟩
    refine lv_aload_n C.1 C.2.1 dX7_explore_15 rfl (lv_at hl 0 rfl) ?_
    refine lv_dup C.1 C.2.1 dX7_explore_16 rfl ?_
    refine g_X7_7 C hM (hI 13 (by decide)) wf_X7_41 dX7_explore_17 ?_
    refine lv_iconst (v := iI 1) C.1 C.2.1 dX7_explore_20 (by decide) ?_
    refine x_iadd C dX7_explore_21 ?_
    refine p_X7_7 C hM (hI 13 (by decide)) wf_X7_41 dX7_explore_22 (fun H1 lc1 hM => ?_)
    refine lv_aload_n C.1 C.2.1 dX7_explore_25 rfl (lv_at hl 0 rfl) ?_
    have f1 : ∀ r, r ≠ 21 → (upr σ 21 (ups (σ 21) 0 (σ 21 0 + 1))) r = σ r := fun r h => upr_ne _ _ h
    have hG1 : GI (upr σ 21 (ups (σ 21) 0 (σ 21 0 + 1))) := hG.of (fun r hr => f1 r (by omega))
    refine g_X7_1 C hM (hI 13 (by decide)) wf_X7_15 dX7_explore_26 ?_
    refine lv_iload_n C.1 C.2.1 dX7_explore_29 rfl (lv_at hl 1 rfl) ?_
    refine x_cr (x_runV (As := [.int (iI dn)]) (rest := []) C (by omega) cw_X7_77 (c_X4_ofDepth l D ad G ids hI (upr σ 21 (ups (σ 21) 0 ((σ 21 0) + 1))) (4 + (d1 + 1)) dn (by omega) (by omega)) hM (hI 24 (by decide)) (cx_24 ad G _) rfl rfl rfl rfl (Nat.le_of_ble_eq_true rfl) hl.1 dX7_explore_30) hM (fun r30 s30 H1 lc1 hp hM => ?_)
    obtain ⟨rfl, rfl⟩ := hp
    refine lv_astore (lv' := [(4, .ref (ad (26 + 5 * ((4 + (d1 + 1)) + 1)))), (0, .ref (ad 13)), (1, .int (iI dn)), (2, .int (iI lo)), (3, .int (iI up))]) C.1 C.2.1 dX7_explore_33 hl (by decide) rfl (fun ls hl => ?_)
    refine lv_aload_n C.1 C.2.1 dX7_explore_35 rfl (lv_at hl 1 rfl) ?_
    refine g_X7_0 C hM (hI 13 (by decide)) wf_X7_9 dX7_explore_36 ?_
    refine lv_aload C.1 C.2.1 dX7_explore_39 (lv_at hl 0 rfl) ?_
    refine x_cv (x_runV (As := [.ref (ad (26 + 5 * ((4 + (d1 + 1)) + 1)))]) (rest := []) C (by omega) cw_X7_83 (c_X0_listMoves l D ad G ids hI (upr σ 21 (ups (σ 21) 0 ((σ 21 0) + 1))) ((4 + (d1 + 1)) + 1) (show (4 + (d1 + 1)) + 1 < 11 by omega) (hG1).1 (hG1).2.1 (hG1).2.2.1 (hG1).2.2.2.1) hM (hI 1 (by decide)) (cx_1 ad G _) rfl rfl rfl rfl (Nat.le_of_ble_eq_true rfl) hl.1 dX7_explore_41) hM (fun s41 H1 lc1 hp hM => ?_)
    obtain ⟨hos41, hLs41⟩ := hp
    rw [f1 1 (by omega), f1 2 (by omega), f1 3 (by omega), f1 4 (by omega)] at hLs41
    have f2 : ∀ r, (r < 46 ∨ 82 + 6 * d1 ≤ r) → r ≠ 21 → s41 r = σ r := fun r a b => (hos41 r (by omega)).trans (f1 r b)
    have hn21 : s41 21 0 = σ 21 0 + 1 := by rw [hos41 21 (by omega), upr_eq, ups_eq]
    have hG2 : GI s41 := hG.of (fun r hr => f2 r (by omega) (by omega))
    have hT2 : TI s41 := hTI.of (fun r hr => f2 r (by omega) (by omega))
    have hv2 : tv s41 = tv σ := tv_ext (fun r hr => f2 r (by omega) (by omega))
    refine lv_aload C.1 C.2.1 dX7_explore_44 (lv_at hl 0 rfl) ?_
    refine x_ci (x_runV (As := []) (rest := []) C (by omega) cw_X7_89 (c_X5_size l D ad G ids hI s41 ((4 + (d1 + 1)) + 1) (MLs (σ 1) (σ 2 0) (σ 3 0) (σ 4 0)) (σ 1) (show (4 + (d1 + 1)) + 1 < 11 by omega) hLs41) hM (hI _ (by omega)) (cx_lo ad G _ (show (4 + (d1 + 1)) + 1 < 11 by omega)) rfl rfl rfl rfl (Nat.le_of_ble_eq_true rfl) hl.1 dX7_explore_46) hM (fun r46 s46 H1 lc1 hp hM => ?_)
    obtain ⟨rfl, rfl⟩ := hp
    refine x_if_ne C ⟨by omega, by omega⟩ (tgt := 58) dX7_explore_49 (by decide) (fun c49 => ?_) (fun c49 => ?_)
    · have hne : ¬ MLs (σ 1) (σ 2 0) (σ 3 0) (σ 4 0) = [] := fun q => by rw [q] at c49; exact c49 rfl
      refine lv_aload_n C.1 C.2.1 dX7_explore_58 rfl (lv_at hl 1 rfl) ?_
      refine g_X7_0 C hM (hI 13 (by decide)) wf_X7_9 dX7_explore_59 ?_
      refine x_cl (x_runV (As := []) (rest := []) C (by omega) cw_X7_94 (c_X0_keyNumber l D ad G ids hI s41 hG2.1 hG2.2.1 hG2.2.2.1) hM (hI 1 (by decide)) (cx_1 ad G _) rfl rfl rfl rfl (Nat.le_of_ble_eq_true rfl) hl.1 dX7_explore_62) hM (fun r62 s62 H1 lc1 hp hM => ?_)
      obtain ⟨rfl, rfl⟩ := hp
      obtain ⟨ky, hky⟩ : ∃ ky, ky = keyS (cfg σ) (σ 1) (σ 4 0) := ⟨_, rfl⟩
      rw [f2 1 (by omega) (by omega), f2 2 (by omega) (by omega), f2 3 (by omega) (by omega), f2 4 (by omega) (by omega), keyS_eq, ← hky]
      refine lv_lstore (lv' := [(5, .long (jI ky)), (4, .ref (ad (26 + 5 * ((4 + (d1 + 1)) + 1)))), (0, .ref (ad 13)), (1, .int (iI dn)), (2, .int (iI lo)), (3, .int (iI up))]) C.1 C.2.1 dX7_explore_65 hl (by decide) rfl (fun ls hl => ?_)
      refine lv_aload_n C.1 C.2.1 dX7_explore_67 rfl (lv_at hl 2 rfl) ?_
      refine g_X7_2 C hM (hI 13 (by decide)) wf_X7_19 dX7_explore_68 ?_
      refine lv_lload C.1 C.2.1 dX7_explore_71 (lv_at hl 0 rfl) ?_
      refine x_ci (x_runV (As := [.long (jI ky)]) (rest := []) C (by omega) cw_X7_98 (c_X8_find l D ad G ids hI s41 ky hT2 (by omega)) hM (hI 4 (by decide)) (cx_4 ad G _) rfl rfl rfl rfl (Nat.le_of_ble_eq_true rfl) hl.1 dX7_explore_73) hM (fun r73 s73 H1 lc1 hp hM => ?_)
      obtain ⟨hbs73, rfl⟩ := hp
      have hcs := fnd_cs hT2 hbs73
      refine lv_istore (lv' := [(7, .int (iI r73)), (5, .long (jI ky)), (4, .ref (ad (26 + 5 * ((4 + (d1 + 1)) + 1)))), (0, .ref (ad 13)), (1, .int (iI dn)), (2, .int (iI lo)), (3, .int (iI up))]) C.1 C.2.1 dX7_explore_76 hl (by decide) rfl (fun ls hl => ?_)
      refine lv_aload_n C.1 C.2.1 dX7_explore_78 rfl (lv_at hl 3 rfl) ?_
      refine g_X7_2 C hM (hI 13 (by decide)) wf_X7_19 dX7_explore_79 ?_
      refine lv_iload C.1 C.2.1 dX7_explore_82 (lv_at hl 0 rfl) ?_
      refine lv_iload_n C.1 C.2.1 dX7_explore_84 rfl (lv_at hl 4 rfl) ?_
      refine lv_iload_n C.1 C.2.1 dX7_explore_85 rfl (lv_at hl 5 rfl) ?_
      refine lv_iload_n C.1 C.2.1 dX7_explore_86 rfl (lv_at hl 6 rfl) ?_
      refine x_ci (x_runV (As := [.int (iI r73), .int (iI dn), .int (iI lo), .int (iI up)]) (rest := []) C (by omega) cw_X7_104 (c_X8_isAnswer l D ad G ids hI s41 r73 dn lo up hT2 (by omega) (by omega) (by omega) (by omega)) hM (hI 4 (by decide)) (cx_4 ad G _) rfl rfl rfl rfl (Nat.le_of_ble_eq_true rfl) hl.1 dX7_explore_87) hM (fun r87 s87 H1 lc1 hp hM => ?_)
      obtain ⟨hbs87, rfl⟩ := hp
      obtain ⟨ts87, ks87⟩ := bI01 hbs87
      refine x_if_eq C ⟨by omega, by omega⟩ (tgt := 126) dX7_explore_90 (by decide) (fun c90 => ?_) (fun c90 => ?_)
      · have han : ¬ ansB s41 r73 dn lo up = true := fun q => (ks87.mpr q) c90
        have hq14 := (hT2.2.1 r73).2.2.2.1
        have hq17 := (hT2.2.2 dn)
        refine lv_aload C.1 C.2.1 dX7_explore_126 (lv_at hl 2 rfl) ?_
        refine lv_aload_n C.1 C.2.1 dX7_explore_128 rfl (lv_at hl 3 rfl) ?_
        refine g_X7_2 C hM (hI 13 (by decide)) wf_X7_19 dX7_explore_129 ?_
        refine lv_iload C.1 C.2.1 dX7_explore_132 (lv_at hl 0 rfl) ?_
        refine x_ci (x_runV (As := [.int (iI r73)]) (rest := [.ref (ad (26 + 5 * ((4 + (d1 + 1)) + 1)))]) C (by omega) cw_X7_108 (c_X8_moveAt l D ad G ids hI s41 r73 hT2 ⟨by omega, by omega⟩) hM (hI 4 (by decide)) (cx_4 ad G _) rfl rfl rfl rfl (Nat.le_of_ble_eq_true rfl) hl.1 dX7_explore_134) hM (fun r134 s134 H1 lc1 hp hM => ?_)
        obtain ⟨hbs134, rfl⟩ := hp
        have hm134 : -1 ≤ r134 ∧ r134 < 2500 := by split at hbs134 <;> omega
        refine lv_aload_n C.1 C.2.1 dX7_explore_137 rfl (lv_at hl 3 rfl) ?_
        refine g_X7_4 C hM (hI 13 (by decide)) wf_X7_30 dX7_explore_138 ?_
        refine lv_iload_n C.1 C.2.1 dX7_explore_141 rfl (lv_at hl 4 rfl) ?_
        refine x_ci (x_runV (As := [.int (iI dn)]) (rest := [.int (iI r134), .ref (ad (26 + 5 * ((4 + (d1 + 1)) + 1)))]) C (by omega) cw_X7_60 (c_X3_newerOf l D ad G ids hI s41 dn ⟨by omega, by omega⟩) hM (hI 14 (by decide)) (cx_14 ad G _) rfl rfl rfl rfl (Nat.le_of_ble_eq_true rfl) hl.1 dX7_explore_142) hM (fun r142 s142 H1 lc1 hp hM => ?_)
        obtain ⟨rfl, rfl⟩ := hp
        rw [if_pos (show 0 ≤ dn ∧ dn < 5 by omega)]
        refine lv_aload_n C.1 C.2.1 dX7_explore_145 rfl (lv_at hl 3 rfl) ?_
        refine g_X7_4 C hM (hI 13 (by decide)) wf_X7_30 dX7_explore_146 ?_
        refine lv_iload_n C.1 C.2.1 dX7_explore_149 rfl (lv_at hl 4 rfl) ?_
        refine x_ci (x_runV (As := [.int (iI dn)]) (rest := [.int (iI (s41 17 dn)), .int (iI r134), .ref (ad (26 + 5 * ((4 + (d1 + 1)) + 1)))]) C (by omega) cw_X7_56 (c_X3_olderOf l D ad G ids hI s41 dn ⟨by omega, by omega⟩) hM (hI 14 (by decide)) (cx_14 ad G _) rfl rfl rfl rfl (Nat.le_of_ble_eq_true rfl) hl.1 dX7_explore_150) hM (fun r150 s150 H1 lc1 hp hM => ?_)
        obtain ⟨rfl, rfl⟩ := hp
        rw [if_pos (show 0 ≤ dn ∧ dn < 5 by omega)]
        refine x_cv (x_runV (As := [.int (iI r134), .int (iI (s41 17 dn)), .int (iI (s41 18 dn))]) (rest := []) C (by omega) cw_X7_114 (c_X5_arrange l D ad G ids hI s41 ((4 + (d1 + 1)) + 1) (MLs (σ 1) (σ 2 0) (σ 3 0) (σ 4 0)) (σ 1) r134 (s41 17 dn) (s41 18 dn) (show (4 + (d1 + 1)) + 1 < 11 by omega) hLs41 h18 hN hMB ⟨by omega, by omega, by omega⟩) hM (hI _ (by omega)) (cx_lo ad G _ (show (4 + (d1 + 1)) + 1 < 11 by omega)) rfl rfl rfl rfl (Nat.le_of_ble_eq_true rfl) hl.1 dX7_explore_153) hM (fun s153 H1 lc1 hp hM => ?_)
        obtain ⟨hos153, hOs153⟩ := hp
        have hLm := hLs41.op hos153
        have hlen := OR_len hN hOs153
        have f3 : ∀ r, r < 46 → r ≠ 21 → s153 r = σ r := fun r a b => (hos153 r (by omega)).trans (f2 r (by omega) b)
        have hG3 : GI s153 := hG.of (fun r hr => f3 r (by omega) (by omega))
        have hT3 : TI s153 := hTI.of (fun r hr => f3 r (by omega) (by omega))
        have hv3 : tv s153 = tv σ := tv_ext (fun r hr => f3 r (by omega) (by omega))
        have hc3 : cfg s153 = cfg σ := cfg_of (fun r hr => f3 r (by omega) (by omega))
        have g1 := f3 1 (by omega) (by omega)
        have g2 := f3 2 (by omega) (by omega)
        have g3 := f3 3 (by omega) (by omega)
        have g4 := f3 4 (by omega) (by omega)
        refine lv_aload_n C.1 C.2.1 dX7_explore_156 rfl (lv_at hl 3 rfl) ?_
        refine lv_aload C.1 C.2.1 dX7_explore_157 (lv_at hl 2 rfl) ?_
        refine lv_lload C.1 C.2.1 dX7_explore_159 (lv_at hl 1 rfl) ?_
        refine lv_iload_n C.1 C.2.1 dX7_explore_161 rfl (lv_at hl 4 rfl) ?_
        refine lv_iload_n C.1 C.2.1 dX7_explore_162 rfl (lv_at hl 5 rfl) ?_
        refine lv_iload_n C.1 C.2.1 dX7_explore_163 rfl (lv_at hl 6 rfl) ?_
        refine x_ci (x_runV (As := [.ref (ad (26 + 5 * ((4 + (d1 + 1)) + 1))), .long (jI ky), .int (iI dn), .int (iI lo), .int (iI up)]) (rest := []) C (by omega) cw_X7_118 (c_X7_tryMoves l D ad G ids hI s153 d1 (ord (σ 1) (MLs (σ 1) (σ 2 0) (σ 3 0) (σ 4 0)) r134 (s41 17 dn) (s41 18 dn)) ky dn lo up (by omega) (by omega) (hrec d1 hd1) (hG3) (hT3) (by omega) (by rw [g1, g2, g3, g4]; exact hLm) (by rw [g1, g2, g3, g4]; exact hOs153) (by rw [g1, g2, g3, g4]; exact hlen) hlo hup) hM (hI 13 (by decide)) (cx_13 ad G _) rfl rfl rfl rfl (Nat.le_of_ble_eq_true rfl) hl.1 dX7_explore_164) hM (fun r164 s164 H1 lc1 hp hM => ?_)
        obtain ⟨hzs164, hts164, hns164, hfs164⟩ := hp
        refine x_iret C hr hM ?_ dX7_explore_167
        have eR : trR d1 s153 (ord (σ 1) (MLs (σ 1) (σ 2 0) (σ 3 0) (σ 4 0)) r134 (s41 17 dn) (s41 18 dn)) lo up = slp (sb (cfg σ) d1) (σ 1) (σ 4 0) lo up (ordS (tv σ) (σ 1) (MLs (σ 1) (σ 2 0) (σ 3 0) (σ 4 0)) ky dn) (-10000) (-1) 1 (tv σ) := by
          have eo : ordS (tv σ) (σ 1) (MLs (σ 1) (σ 2 0) (σ 3 0) (σ 4 0)) ky dn = ord (σ 1) (MLs (σ 1) (σ 2 0) (σ 3 0) (σ 4 0)) r134 (s41 17 dn) (s41 18 dn) := by
            unfold ordS mvT
            rw [← hv2, tv_fnd, hbs73, tv_in s41 (r := 14) (by omega), tv_in s41 (r := 17) (by omega), tv_in s41 (r := 18) (by omega), ← hbs134]
            congr 1
            split <;> split <;> first | rfl | omega
          rw [eo]
          unfold trR
          rw [hc3, g1, g4, hv3]
        have eS : sb (cfg σ) d (σ 1) (σ 4 0) lo up (tv σ) = ((trR d1 s153 (ord (σ 1) (MLs (σ 1) (σ 2 0) (σ 3 0) (σ 4 0)) r134 (s41 17 dn) (s41 18 dn)) lo up).1, (trR d1 s153 (ord (σ 1) (MLs (σ 1) (σ 2 0) (σ 3 0) (σ 4 0)) r134 (s41 17 dn) (s41 18 dn)) lo up).2.2.1, setT (endT (σ 1) ((d1 : Int) + 1) lo up ky (trR d1 s153 (ord (σ 1) (MLs (σ 1) (σ 2 0) (σ 3 0) (σ 4 0)) r134 (s41 17 dn) (s41 18 dn)) lo up)) 19 (trR d1 s153 (ord (σ 1) (MLs (σ 1) (σ 2 0) (σ 3 0) (σ 4 0)) r134 (s41 17 dn) (s41 18 dn)) lo up).2.1) := by
          rw [hd1]
          exact sb_go (S := cfg σ) (s := r73) (L := MLs (σ 1) (σ 2 0) (σ 3 0) (σ 4 0)) rfl hne hky.symm (by rw [← hv2, tv_fnd]; exact hbs73) (by rw [← hv2, tv_ans, ← show dn = (d1 : Int) + 1 by omega]; exact han) (by rw [← show dn = (d1 : Int) + 1 by omega]; exact eR.symm)
        unfold exPost
        rw [eS]
        refine ⟨hzs164, by rw [hts164, g1], ?_, fun r h q => ?_⟩
        · have e21 : s153 21 0 = σ 21 0 + 1 := by rw [hos153 21 (by omega)]; exact hn21
          have e16 := congrFun (f3 16 (by omega) (by omega)) 0
          show s164 21 0 + s164 16 0 = σ 21 0 + σ 16 0 + (trR d1 s153 (ord (σ 1) (MLs (σ 1) (σ 2 0) (σ 3 0) (σ 4 0)) r134 (s41 17 dn) (s41 18 dn)) lo up).2.2.1
          omega
        · rw [hfs164 r (by omega) q, hos153 r (by omega), f2 r (by omega) (by unfold NSR at q; omega)]
      · have han := ks87.mp c90
        have hs0 : 0 ≤ r73 ∧ r73 < 64 := by
          have q := of_decide_eq_true han
          omega
        have eS : sb (cfg σ) d (σ 1) (σ 4 0) lo up (tv σ) = (s41 12 r73, 1, setT (incT (tv σ) 22) 19 (s41 14 r73)) := by
          have q := sb_hit (S := cfg σ) (s := r73) (c := σ 1) (sd := σ 4 0) (lo := lo) (up := up) (τ := tv σ) (d1 := d1) (L := MLs (σ 1) (σ 2 0) (σ 3 0) (σ 4 0)) rfl hne hky.symm (by rw [← hv2, tv_fnd]; exact hbs73) (by rw [← hv2, tv_ans, ← show dn = (d1 : Int) + 1 by omega]; exact han)
          rw [hd1, q, ← hv2, tv_in s41 (r := 12) (by omega), tv_in s41 (r := 14) (by omega)]
        refine lv_aload_n C.1 C.2.1 dX7_explore_93 rfl (lv_at hl 3 rfl) ?_
        refine lv_dup C.1 C.2.1 dX7_explore_94 rfl ?_
        refine g_X7_8 C hM (hI 13 (by decide)) wf_X7_50 dX7_explore_95 ?_
        refine lv_iconst (v := iI 1) C.1 C.2.1 dX7_explore_98 (by decide) ?_
        refine x_iadd C dX7_explore_99 ?_
        refine p_X7_8 C hM (hI 13 (by decide)) wf_X7_50 dX7_explore_100 (fun H1 lc1 hM => ?_)
        refine lv_aload_n C.1 C.2.1 dX7_explore_103 rfl (lv_at hl 3 rfl) ?_
        refine lv_aload_n C.1 C.2.1 dX7_explore_104 rfl (lv_at hl 3 rfl) ?_
        refine g_X7_2 C hM (hI 13 (by decide)) wf_X7_19 dX7_explore_105 ?_
        refine lv_iload C.1 C.2.1 dX7_explore_108 (lv_at hl 0 rfl) ?_
        refine x_ci (x_runV (As := [.int (iI r73)]) (rest := [.ref (ad 13)]) C (by omega) cw_X7_108 (c_X8_moveAt l D ad G ids hI (upr s41 22 (ups (s41 22) 0 ((s41 22 0) + 1))) r73 (hT2.set (by omega) _) ⟨by omega, by omega⟩) hM (hI 4 (by decide)) (cx_4 ad G _) rfl rfl rfl rfl (Nat.le_of_ble_eq_true rfl) hl.1 dX7_explore_110) hM (fun r110 s110 H1 lc1 hp hM => ?_)
        obtain ⟨hbs110, rfl⟩ := hp
        rw [if_pos (by omega)] at hbs110
        refine p_X7_5 C hM (hI 13 (by decide)) wf_X7_34 dX7_explore_113 (fun H1 lc1 hM => ?_)
        refine lv_aload_n C.1 C.2.1 dX7_explore_116 rfl (lv_at hl 3 rfl) ?_
        refine g_X7_2 C hM (hI 13 (by decide)) wf_X7_19 dX7_explore_117 ?_
        refine lv_iload C.1 C.2.1 dX7_explore_120 (lv_at hl 0 rfl) ?_
        refine x_ci (x_runV (As := [.int (iI r73)]) (rest := []) C (by omega) cw_X7_111 (c_X8_numberAt l D ad G ids hI (upr (upr s41 22 (ups (s41 22) 0 ((s41 22 0) + 1))) 19 (ups ((upr s41 22 (ups (s41 22) 0 ((s41 22 0) + 1))) 19) 0 r110)) r73 ((hT2.set (by omega) _).set (by omega) _) ⟨by omega, by omega⟩) hM (hI 4 (by decide)) (cx_4 ad G _) rfl rfl rfl rfl (Nat.le_of_ble_eq_true rfl) hl.1 dX7_explore_122) hM (fun r122 s122 H1 lc1 hp hM => ?_)
        obtain ⟨hbs122, rfl⟩ := hp
        refine x_iret C hr hM ?_ dX7_explore_125
        (unfold exPost)
        rw [eS]
        rw [if_pos (by omega)] at hbs122
        refine ⟨hbs122, ?_, ?_, ?_⟩
        · show tv (setT (incT s41 22) 19 r110) = _
          have hb2 : s41 14 r73 = r110 := hbs110
          rw [tv_set _ _ (by omega), tv_inc _ (by omega), hv2, hb2]
        · rw [upr_ne _ _ (show (21 : Nat) ≠ 19 by decide), upr_ne _ _ (show (16 : Nat) ≠ 19 by decide), upr_ne _ _ (show (21 : Nat) ≠ 22 by decide), upr_ne _ _ (show (16 : Nat) ≠ 22 by decide), hn21, f2 16 (by omega) (by omega)]
          show σ 21 0 + 1 + σ 16 0 = σ 21 0 + σ 16 0 + 1
          omega
        · intro r h q
          unfold NSR at q
          rw [upr_ne _ _ (by omega), upr_ne _ _ (by omega), f2 r (by omega) (by omega)]
    · have hne : MLs (σ 1) (σ 2 0) (σ 3 0) (σ 4 0) = [] := List.eq_nil_of_length_eq_zero (by omega)
      refine lv_sipush (v := iI (-1000)) C.1 C.2.1 dX7_explore_52 (by decide) ?_
      refine lv_iload_n C.1 C.2.1 dX7_explore_55 rfl (lv_at hl 2 rfl) ?_
      refine x_isub C dX7_explore_56 ?_
      refine x_iret C hr hM ?_ dX7_explore_57
      have eS : sb (cfg σ) d (σ 1) (σ 4 0) lo up (tv σ) = (-1000 - dn, 1, tv σ) := by
        rw [hd1, sb_nil (S := cfg σ) (L := MLs (σ 1) (σ 2 0) (σ 3 0) (σ 4 0)) rfl hne, show dn = (d1 : Int) + 1 by omega]
      unfold exPost
      rw [eS]
      exact ⟨rfl, hv2, by rw [hn21, f2 16 (by omega) (by omega)]; show σ 21 0 + 1 + σ 16 0 = σ 21 0 + σ 16 0 + 1; omega, fun r h q => f2 r (by omega) (by unfold NSR at q; omega)⟩
  · refine lv_aload_n C.1 C.2.1 dX7_explore_4 rfl (lv_at hl 0 rfl) ?_
    refine g_X7_3 C hM (hI 13 (by decide)) wf_X7_23 dX7_explore_5 ?_
    refine lv_iconst (v := iI 4) C.1 C.2.1 dX7_explore_8 (by decide) ?_
    refine lv_iload_n C.1 C.2.1 dX7_explore_9 rfl (lv_at hl 2 rfl) ?_
    refine lv_iload_n C.1 C.2.1 dX7_explore_10 rfl (lv_at hl 3 rfl) ?_
    refine x_ci (x_runN (As := [.int (iI 4), .int (iI lo), .int (iI up)]) (rest := []) C (by omega) cw_X7_74 (lookOn_all l D ad G ids hI (i := 1) (by decide) 4 (by decide) σ 4 lo up rfl hG (by omega) (by omega)) hM (hI _ (by omega)) (cx_q ad G _ (by decide)) rfl rfl rfl rfl (Nat.le_of_ble_eq_true rfl) hl.1 dX7_explore_11) hM (fun r11 s11 H1 lc1 hp hM => ?_)
    obtain ⟨hzs11, hns11, hfs11⟩ := hp
    refine x_iret C hr hM ?_ dX7_explore_14
    (rw [show d = 0 by omega])
    refine ⟨hzs11, tv_ext (fun r hr => hfs11 r (by omega) (by omega)), ?_, fun r h q => hfs11 r (by omega) (by unfold NSR at q; omega)⟩
    have e16 : s11 16 = _ := hns11
    rw [e16, ups_eq, hfs11 21 (by omega) (by omega)]
    show _ = σ 21 0 + σ 16 0 + (qb (cfg σ) 4 (σ 1) (σ 4 0) lo up).2
    have e17 : σ (15 + 1) 0 = σ 16 0 := rfl
    omega
theorem explore_all (l : Launch) (D : va_G) (ad : Nat → Nat) (G : Nat → Nat) (ids : List Nat) (hI : ∀ k, k < 81 → k ∈ ids) : ∀ d : Nat, d ≤ 4 → EXc l D ad G ids d := by
  intro d
  induction d with
  | zero => intro h4 σ dn lo up htn hG hT hlo hup; exact c_X7_explore l D ad G ids hI σ 0 dn lo up htn h4 (fun d1 h => by omega) hG hT hlo hup
  | succ d ih => intro h4 σ dn lo up htn hG hT hlo hup; exact c_X7_explore l D ad G ids hI σ (d + 1) dn lo up htn h4 (fun d1 h => by
      have e : d1 = d := by omega
      subst e; exact ih (by omega)) hG hT hlo hup
