theorem qb_nil {S : Nat → Int} {c : Fn} {sd lo up : Int} (h : MLs c (S 2) (S 3) sd = []) (t : Nat) : qb S t c sd lo up = (-1000, 1) := by
  cases t <;> (unfold qb; rw [if_pos h])
theorem qb_ev {S : Nat → Int} {c : Fn} {sd lo up : Int} (h : MLs c (S 2) (S 3) sd ≠ []) {t : Nat} (ht : t = 0 ∨ S 8 = 0) : qb S t c sd lo up = (evS S c sd, 1) := by
  cases t with
  | zero => unfold qb; rw [if_neg h]
  | succ t => unfold qb; rw [if_neg h, if_pos (ht.resolve_left (by omega))]
theorem qb_lp {S : Nat → Int} {c : Fn} {sd lo up : Int} (h : MLs c (S 2) (S 3) sd ≠ []) {t t1 : Nat} (ht : t = t1 + 1) (h8 : S 8 ≠ 0) : qb S t c sd lo up = qlp (qb S t1) c sd lo up (MLs c (S 2) (S 3) sd) (evS S c sd) 1 := by
  subst ht
  rw [qb, if_neg h, if_neg h8]
theorem getD_in {L : List Int} {i : Int} (h0 : 0 ≤ i) (h1 : i < L.length) : L.getD i.toNat (-1) ∈ L := getD_mem h0 h1
abbrev qPost (i t : Nat) (σ : Sg) (lo up : Int) : Int → Sg → Prop := fun z σ' => (qb (cfg σ) t (σ 1) (σ 4 0) lo up).1 = z ∧ σ' (15 + i) = ups (σ (15 + i)) 0 (σ (15 + i) 0 + (qb (cfg σ) t (σ 1) (σ 4 0) lo up).2) ∧ ∀ r : Nat, (r < 46 ∨ 52 + 6 * t ≤ r) → r ≠ 15 + i → σ' r = σ r
abbrev qPostB (i t : Nat) (σ : Sg) (v lo up : Int) : Int → Sg → Prop := fun z σ' => -(qb (cfg σ) t (mvF (σ 1) v) (1 - σ 4 0) (-up) (-lo)).1 = z ∧ σ' (15 + i) = ups (σ (15 + i)) 0 (σ (15 + i) 0 + (qb (cfg σ) t (mvF (σ 1) v) (1 - σ 4 0) (-up) (-lo)).2) ∧ ∀ r : Nat, (r < 46 ∨ 52 + 6 * t ≤ r) → r ≠ 15 + i → σ' r = σ r
/-- QUIET with t, of the search (i = 1) or of the values (i = 0) -/
def LOc (l : Launch) (D : va_G) (ad : Nat → Nat) (G : Nat → Nat) (ids : List Nat) (i t : Nat) : Prop := ∀ (σ : Sg) (tn lo up : Int), tn = (t : Int) → GI σ → (-10000 ≤ lo ∧ lo ≤ 10000) → (-10000 ≤ up ∧ up ≤ 10000) →
  MET l yX6_lookOn cX6_lookOn 8 (some .int) (5 + 2 * t) [.ref (ad (11 + i)), .int (iI tn), .int (iI lo), .int (iI up)] D ad G ids σ (QI D ad G ids (qPost i t σ lo up))
set_option maxRecDepth 100000 in
set_option maxHeartbeats 4000000 in
theorem c_X6_behind (l : Launch) (D : va_G) (ad : Nat → Nat) (G : Nat → Nat) (ids : List Nat) (hI : ∀ k, k < 81 → k ∈ ids) (σ : Sg) (i t : Nat) (v tn lo up : Int) (hi2 : i < 2) (htn : tn - 1 = (t : Int)) (hrec : LOc l D ad G ids i t) (hG : GI σ) (hMV : MV σ v) (hlo : -10000 ≤ lo ∧ lo ≤ 10000) (hup : -10000 ≤ up ∧ up ≤ 10000) : MET l yX6_behind cX6_behind 7 (some .int) (6 + 2 * t) [.ref (ad (11 + i)), .int (iI v), .int (iI tn), .int (iI lo), .int (iI up)] D ad G ids σ (QI D ad G ids (qPostB i t σ v lo up)) := by
  have hv := hMV.ok hG
  have hv2 := hG.mv hMV
  have hcc := hG.2.1 (v % 100)
  refine x_enter (by decide) (Nat.le_of_ble_eq_true rfl) ?_
  intro pp ee ss mm args below meth cq C hr ls hl hM
  have hl : lv_has ls 7 [(0, .ref (ad (11 + i))), (1, .int (iI v)), (2, .int (iI tn)), (3, .int (iI lo)), (4, .int (iI up))] := hl
  refine lv_aload_n C.1 C.2.1 dX6_behind_0 rfl (lv_at hl 0 rfl) ?_
  refine g_X6_0 C hM hi2 (hI _ (by omega)) wf_X6_9 dX6_behind_1 ?_
  refine lv_iload_n C.1 C.2.1 dX6_behind_4 rfl (lv_at hl 1 rfl) ?_
  refine x_ci (x_runV (As := [.int (iI v)]) (rest := []) C (by omega) cw_X6_73 (c_X0_advance l D ad G ids hI σ v (hG).1 (hG).2.2.1 hv.1) hM (hI 1 (by decide)) (cx_1 ad G _) rfl rfl rfl rfl (Nat.le_of_ble_eq_true rfl) hl.1 dX6_behind_5) hM (fun r5 s5 H1 lc1 hp hM => ?_)
  obtain ⟨rfl, rfl⟩ := hp
  refine lv_istore (lv' := [(5, .int (iI (σ 1 (v % 100)))), (0, .ref (ad (11 + i))), (1, .int (iI v)), (2, .int (iI tn)), (3, .int (iI lo)), (4, .int (iI up))]) C.1 C.2.1 dX6_behind_8 hl (by decide) rfl (fun ls hl => ?_)
  refine lv_aload_n C.1 C.2.1 dX6_behind_10 rfl (lv_at hl 1 rfl) ?_
  refine lv_iload_n C.1 C.2.1 dX6_behind_11 rfl (lv_at hl 3 rfl) ?_
  refine lv_iconst (v := iI 1) C.1 C.2.1 dX6_behind_12 (by decide) ?_
  refine x_isub C dX6_behind_13 ?_
  refine lv_iload C.1 C.2.1 dX6_behind_14 (lv_at hl 5 rfl) ?_
  refine x_ineg C dX6_behind_16 ?_
  refine lv_iload_n C.1 C.2.1 dX6_behind_17 rfl (lv_at hl 4 rfl) ?_
  refine x_ineg C dX6_behind_18 ?_
  refine x_ci (x_runV (As := [.int (iI (tn - 1)), .int (iI (-up)), .int (iI (-lo))]) (rest := []) C (by omega) cw_X6_76 (hrec (mvG σ v) (tn - 1) (-up) (-lo) htn (hv2) (by omega) (by omega)) hM (hI _ (by omega)) (cx_q ad G _ hi2) rfl rfl rfl rfl (Nat.le_of_ble_eq_true rfl) hl.1 dX6_behind_19) hM (fun r19 s19 H1 lc1 hp hM => ?_)
  obtain ⟨hzs19, hns19, hfs19⟩ := hp
  have hu := unG_mv (σ := σ) (b := s19) hv.2.1 (hfs19 1 (by omega) (by omega)) (hfs19 4 (by omega) (by omega))
  have hgb : GI s19 := hv2.of (fun r hr => hfs19 r (by omega) (by omega))
  have hg2 := hfs19 2 (by omega) (by omega)
  have hg3 := hfs19 3 (by omega) (by omega)
  rw [mvG_o σ v (by decide) (by decide)] at hg2 hg3
  refine x_ineg C dX6_behind_22 ?_
  refine lv_istore (lv' := [(6, .int (iI (-r19))), (5, .int (iI (σ 1 (v % 100)))), (0, .ref (ad (11 + i))), (1, .int (iI v)), (2, .int (iI tn)), (3, .int (iI lo)), (4, .int (iI up))]) C.1 C.2.1 dX6_behind_23 hl (by decide) rfl (fun ls hl => ?_)
  refine lv_aload_n C.1 C.2.1 dX6_behind_25 rfl (lv_at hl 2 rfl) ?_
  refine g_X6_0 C hM hi2 (hI _ (by omega)) wf_X6_9 dX6_behind_26 ?_
  refine lv_iload_n C.1 C.2.1 dX6_behind_29 rfl (lv_at hl 3 rfl) ?_
  refine lv_iload C.1 C.2.1 dX6_behind_30 (lv_at hl 1 rfl) ?_
  refine x_cv (x_runV (As := [.int (iI v), .int (iI (σ 1 (v % 100)))]) (rest := []) C (by omega) cw_X6_80 (c_X0_retreat l D ad G ids hI s19 v (σ 1 (v % 100)) (hgb).1 (hgb).2.2.1 (by rw [hg2, hg3]; exact hv.1)) hM (hI 1 (by decide)) (cx_1 ad G _) rfl rfl rfl rfl (Nat.le_of_ble_eq_true rfl) hl.1 dX6_behind_32) hM (fun s32 H1 lc1 hp hM => ?_)
  obtain rfl := hp
  refine lv_iload C.1 C.2.1 dX6_behind_35 (lv_at hl 0 rfl) ?_
  refine x_iret C hr hM ?_ dX6_behind_37
  exact ⟨by rw [← hzs19, mvG_1, mvG_4, ups_eq, mvG_cfg], by
    rw [hu.2.2 _ (by omega) (by omega), hns19, mvG_o σ v (by omega) (by omega), mvG_1, mvG_4, ups_eq, mvG_cfg], fun r h1 h2 => by
    by_cases e1 : r = 1
    · rw [e1]; exact hu.1
    by_cases e4 : r = 4
    · rw [e4]; exact hu.2.1
    rw [hu.2.2 r e1 e4, hfs19 r h1 h2, mvG_o σ v e1 e4]⟩
set_option maxRecDepth 100000 in
set_option maxHeartbeats 4000000 in
theorem c_X6_lookOn (l : Launch) (D : va_G) (ad : Nat → Nat) (G : Nat → Nat) (ids : List Nat) (hI : ∀ k, k < 81 → k ∈ ids) (σ : Sg) (i t : Nat) (tn lo up : Int) (hi2 : i < 2) (htn : tn = (t : Int)) (ht4 : t ≤ 4) (hrec : ∀ t1, t = t1 + 1 → LOc l D ad G ids i t1) (hG : GI σ) (hlo : -10000 ≤ lo ∧ lo ≤ 10000) (hup : -10000 ≤ up ∧ up ≤ 10000) : MET l yX6_lookOn cX6_lookOn 8 (some .int) (5 + 2 * t) [.ref (ad (11 + i)), .int (iI tn), .int (iI lo), .int (iI up)] D ad G ids σ (QI D ad G ids (qPost i t σ lo up)) := by
  have h18 := MLs18 hG
  have hev := evS_bd hG.2.2.2.2 (σ 1) (σ 4 0)
  refine x_enter (by decide) (Nat.le_of_ble_eq_true rfl) ?_
  intro pp ee ss mm args below meth cq C hr ls hl hM
  have hl : lv_has ls 8 [(0, .ref (ad (11 + i))), (1, .int (iI tn)), (2, .int (iI lo)), (3, .int (iI up))] := hl
  refine lv_aload_n C.1 C.2.1 dX6_lookOn_0 rfl (lv_at hl 0 rfl) ?_
  refine lv_dup C.1 C.2.1 dX6_lookOn_1 rfl ?_
  refine g_X6_3 C hM hi2 (hI _ (by omega)) wf_X6_23 dX6_lookOn_2 ?_
  refine lv_iconst (v := iI 1) C.1 C.2.1 dX6_lookOn_5 (by decide) ?_
  refine x_iadd C dX6_lookOn_6 ?_
  refine p_X6_3 C hM hi2 (hI _ (by omega)) wf_X6_23 dX6_lookOn_7 (fun H1 lc1 hM => ?_)
  refine lv_aload_n C.1 C.2.1 dX6_lookOn_10 rfl (lv_at hl 0 rfl) ?_
  have f1 : ∀ r, r ≠ 15 + i → (upr σ (15 + i) (ups (σ (15 + i)) 0 (σ (15 + i) 0 + 1))) r = σ r := fun r h => upr_ne _ _ h
  have hG1 : GI (upr σ (15 + i) (ups (σ (15 + i)) 0 (σ (15 + i) 0 + 1))) := hG.of (fun r hr => f1 r (by omega))
  refine g_X6_2 C hM hi2 (hI _ (by omega)) wf_X6_19 dX6_lookOn_11 ?_
  refine lv_iload_n C.1 C.2.1 dX6_lookOn_14 rfl (lv_at hl 1 rfl) ?_
  refine x_cr (x_runV (As := [.int (iI tn)]) (rest := []) C (by omega) cw_X6_27 (c_X4_ofTurns l D ad G ids hI (upr σ (15 + i) (ups (σ (15 + i)) 0 ((σ (15 + i) 0) + 1))) t tn htn (by omega)) hM (hI 24 (by decide)) (cx_24 ad G _) rfl rfl rfl rfl (Nat.le_of_ble_eq_true rfl) hl.1 dX6_lookOn_15) hM (fun r15 s15 H1 lc1 hp hM => ?_)
  obtain ⟨rfl, rfl⟩ := hp
  refine lv_astore (lv' := [(4, .ref (ad (26 + 5 * (t + 1)))), (0, .ref (ad (11 + i))), (1, .int (iI tn)), (2, .int (iI lo)), (3, .int (iI up))]) C.1 C.2.1 dX6_lookOn_18 hl (by decide) rfl (fun ls hl => ?_)
  refine lv_aload_n C.1 C.2.1 dX6_lookOn_20 rfl (lv_at hl 1 rfl) ?_
  refine g_X6_0 C hM hi2 (hI _ (by omega)) wf_X6_9 dX6_lookOn_21 ?_
  refine lv_aload C.1 C.2.1 dX6_lookOn_24 (lv_at hl 0 rfl) ?_
  refine x_cv (x_runV (As := [.ref (ad (26 + 5 * (t + 1)))]) (rest := []) C (by omega) cw_X6_33 (c_X0_listMoves l D ad G ids hI (upr σ (15 + i) (ups (σ (15 + i)) 0 ((σ (15 + i) 0) + 1))) (t + 1) (show t + 1 < 11 by omega) (hG1).1 (hG1).2.1 (hG1).2.2.1 (hG1).2.2.2.1) hM (hI 1 (by decide)) (cx_1 ad G _) rfl rfl rfl rfl (Nat.le_of_ble_eq_true rfl) hl.1 dX6_lookOn_26) hM (fun s26 H1 lc1 hp hM => ?_)
  obtain ⟨hos26, hLs26⟩ := hp
  rw [f1 1 (by omega), f1 2 (by omega), f1 3 (by omega), f1 4 (by omega)] at hLs26
  have f2 : ∀ r, (r < 46 ∨ 52 + 6 * t ≤ r) → r ≠ 15 + i → s26 r = σ r := fun r a b => (hos26 r (by omega)).trans (f1 r b)
  have hG2 : GI s26 := hG.of (fun r hr => f2 r (by omega) (by omega))
  have hn2 : s26 (15 + i) = ups (σ (15 + i)) 0 (σ (15 + i) 0 + 1) := (hos26 _ (by omega)).trans (upr_eq _ _ _)
  have hc2 : cfg s26 = cfg σ := cfg_of (fun r hr => f2 r (by omega) (by omega))
  refine lv_aload C.1 C.2.1 dX6_lookOn_29 (lv_at hl 0 rfl) ?_
  refine x_ci (x_runV (As := []) (rest := []) C (by omega) cw_X6_39 (c_X5_size l D ad G ids hI s26 (t + 1) (MLs (σ 1) (σ 2 0) (σ 3 0) (σ 4 0)) (σ 1) (show t + 1 < 11 by omega) hLs26) hM (hI _ (by omega)) (cx_lo ad G _ (show t + 1 < 11 by omega)) rfl rfl rfl rfl (Nat.le_of_ble_eq_true rfl) hl.1 dX6_lookOn_31) hM (fun r31 s31 H1 lc1 hp hM => ?_)
  obtain ⟨rfl, rfl⟩ := hp
  refine x_if_ne C ⟨by omega, by omega⟩ (tgt := 41) dX6_lookOn_34 (by decide) (fun c34 => ?_) (fun c34 => ?_)
  · have hne : MLs (σ 1) (cfg σ 2) (cfg σ 3) (σ 4 0) ≠ [] := fun q => by
      have q : MLs (σ 1) (σ 2 0) (σ 3 0) (σ 4 0) = [] := q
      rw [q] at c34; exact c34 rfl
    refine lv_aload_n C.1 C.2.1 dX6_lookOn_41 rfl (lv_at hl 1 rfl) ?_
    refine g_X6_1 C hM hi2 (hI _ (by omega)) wf_X6_15 dX6_lookOn_42 ?_
    refine lv_aload_n C.1 C.2.1 dX6_lookOn_45 rfl (lv_at hl 1 rfl) ?_
    refine g_X6_0 C hM hi2 (hI _ (by omega)) wf_X6_9 dX6_lookOn_46 ?_
    refine x_ci (x_runV (As := [.ref (ad 1)]) (rest := []) C (by omega) cw_X6_45 (c_X2_evaluate l D ad G ids hI s26 hG2) hM (hI 3 (by decide)) (cx_3 ad G _) rfl rfl rfl rfl (Nat.le_of_ble_eq_true rfl) hl.1 dX6_lookOn_49) hM (fun r49 s49 H1 lc1 hp hM => ?_)
    obtain ⟨rfl, rfl⟩ := hp
    rw [hc2, f2 1 (by omega) (by omega), f2 4 (by omega) (by omega)]
    refine lv_istore (lv' := [(5, .int (iI (evS (cfg σ) (σ 1) (σ 4 0)))), (4, .ref (ad (26 + 5 * (t + 1)))), (0, .ref (ad (11 + i))), (1, .int (iI tn)), (2, .int (iI lo)), (3, .int (iI up))]) C.1 C.2.1 dX6_lookOn_52 hl (by decide) rfl (fun ls hl => ?_)
    refine lv_iload_n C.1 C.2.1 dX6_lookOn_54 rfl (lv_at hl 3 rfl) ?_
    refine x_if_le C ⟨by omega, by omega⟩ (tgt := 68) dX6_lookOn_55 (by decide) (fun c55 => ?_) (fun c55 => ?_)
    · refine lv_iload C.1 C.2.1 dX6_lookOn_68 (lv_at hl 0 rfl) ?_
      exact x_iret C hr hM ⟨by rw [qb_ev hne (by first | exact Or.inl (by omega) | exact Or.inr (show σ 8 0 = 0 by omega))], by rw [qb_ev hne (by first | exact Or.inl (by omega) | exact Or.inr (show σ 8 0 = 0 by omega))]; exact hn2, f2⟩ dX6_lookOn_70
    · refine lv_aload_n C.1 C.2.1 dX6_lookOn_58 rfl (lv_at hl 2 rfl) ?_
      refine g_X6_1 C hM hi2 (hI _ (by omega)) wf_X6_15 dX6_lookOn_59 ?_
      have h8 := f2 8 (by omega) (by omega)
      have hq8 := hG.2.2.2.2.2.2.2.2
      have hq8 : σ 8 0 = 0 ∨ σ 8 0 = 1 := hq8
      have h80 := congrFun h8 0
      refine x_ci (x_runV (As := []) (rest := []) C (by omega) cw_X6_51 (c_X2_isQuietOn l D ad G ids hI s26 (by omega)) hM (hI 3 (by decide)) (cx_3 ad G _) rfl rfl rfl rfl (Nat.le_of_ble_eq_true rfl) hl.1 dX6_lookOn_62) hM (fun r62 s62 H1 lc1 hp hM => ?_)
      obtain ⟨rfl, rfl⟩ := hp
      refine x_if_ne C ⟨by omega, by omega⟩ (tgt := 71) dX6_lookOn_65 (by decide) (fun c65 => ?_) (fun c65 => ?_)
      · obtain ⟨t1, ht1⟩ : ∃ t1, t = t1 + 1 := ⟨t - 1, by omega⟩
        have hQ := qb_lp (S := cfg σ) (lo := lo) (up := up) hne ht1 (show cfg σ 8 ≠ 0 from (show σ 8 0 ≠ 0 by omega))
        refine lv_iload_n C.1 C.2.1 dX6_lookOn_71 rfl (lv_at hl 4 rfl) ?_
        refine lv_iload C.1 C.2.1 dX6_lookOn_72 (lv_at hl 0 rfl) ?_
        refine x_max C (by omega) hl.1 wM_X6_55 ⟨by omega, by omega⟩ ⟨by omega, by omega⟩ (Nat.le_of_ble_eq_true rfl) dX6_lookOn_74 ?_
        refine lv_istore (lv' := [(6, .int (iI (max lo (evS (cfg σ) (σ 1) (σ 4 0))))), (5, .int (iI (evS (cfg σ) (σ 1) (σ 4 0)))), (4, .ref (ad (26 + 5 * (t + 1)))), (0, .ref (ad (11 + i))), (1, .int (iI tn)), (2, .int (iI lo)), (3, .int (iI up))]) C.1 C.2.1 dX6_lookOn_77 hl (by decide) rfl (fun ls hl => ?_)
        refine lv_iconst (v := iI 0) C.1 C.2.1 dX6_lookOn_79 (by decide) ?_
        refine lv_istore (lv' := [(7, .int (iI 0)), (6, .int (iI (max lo (evS (cfg σ) (σ 1) (σ 4 0))))), (5, .int (iI (evS (cfg σ) (σ 1) (σ 4 0)))), (4, .ref (ad (26 + 5 * (t + 1)))), (0, .ref (ad (11 + i))), (1, .int (iI tn)), (2, .int (iI lo)), (3, .int (iI up))]) C.1 C.2.1 dX6_lookOn_80 hl (by decide) rfl (fun ls hl => ?_)
        have L82 : ∀ (fu : Nat) (x : Int) (b : Int) (bd : Int) (n : Int) (s1 : Sg) (H1 : Heap) (lc1 : List Loc) (ls1 : Array Slot), (0 ≤ x ∧ x ≤ (MLs (σ 1) (σ 2 0) (σ 3 0) (σ 4 0)).length) → (-4000 ≤ b ∧ b ≤ 4000) → (bd = max lo b) → (LM s1 (t + 1) (MLs (σ 1) (σ 2 0) (σ 3 0) (σ 4 0)) (σ 1)) → (∀ r : Nat, (r < 46 ∨ 52 + 6 * t ≤ r) → r ≠ 15 + i → s1 r = σ r) → (s1 (15 + i) = ups (σ (15 + i)) 0 (σ (15 + i) 0 + n)) → (qlp (qb (cfg σ) t1) (σ 1) (σ 4 0) lo up ((MLs (σ 1) (σ 2 0) (σ 3 0) (σ 4 0)).drop x.toNat) b n = qb (cfg σ) t (σ 1) (σ 4 0) lo up) → (20 - x).toNat < fu → XI D ad G ids (AN ad ids ss.heap.size) ss.heap H1 lc1 s1 → lv_has ls1 8 [(7, .int (iI x)), (6, .int (iI bd)), (5, .int (iI b)), (4, .ref (ad (26 + 5 * (t + 1)))), (0, .ref (ad (11 + i))), (1, .int (iI tn)), (2, .int (iI lo)), (3, .int (iI up))] → W pp l ee (rmh (5 + 2 * t)) ss mm args below meth cq H1 lc1 0 0 (MQ below (QI D ad G ids (qPost i t σ lo up) ss.heap.size) args ss 0 0 (AN ad ids ss.heap.size)) (F0 mm 82 ls1 []) := by
          intro fu
          induction fu with
          | zero => intro x b bd n s1 H1 lc1 ls1 x0 hb hbd hL1 hfr hn hq hfu; exact absurd hfu (Nat.not_lt_zero _)
          | succ fu ih82 =>
            intro x b bd n s1 H1 lc1 ls1 x0 hb hbd hL1 hfr hn hq hfu hM hl
            refine lv_iload C.1 C.2.1 dX6_lookOn_82 (lv_at hl 0 rfl) ?_
            have h18x := hL1.1
            refine lv_aload C.1 C.2.1 dX6_lookOn_84 (lv_at hl 3 rfl) ?_
            refine x_ci (x_runV (As := []) (rest := [.int (iI x)]) C (by omega) cw_X6_39 (c_X5_size l D ad G ids hI s1 (t + 1) (MLs (σ 1) (σ 2 0) (σ 3 0) (σ 4 0)) (σ 1) (show t + 1 < 11 by omega) hL1) hM (hI _ (by omega)) (cx_lo ad G _ (show t + 1 < 11 by omega)) rfl rfl rfl rfl (Nat.le_of_ble_eq_true rfl) hl.1 dX6_lookOn_86) hM (fun r86 s86 H1 lc1 hp hM => ?_)
            obtain ⟨rfl, rfl⟩ := hp
            refine x_icmp_ge C ⟨by omega, by omega⟩ ⟨by omega, by omega⟩ (tgt := 145) dX6_lookOn_89 (by decide) (fun c89 => ?_) (fun c89 => ?_)
            · refine lv_iload C.1 C.2.1 dX6_lookOn_145 (lv_at hl 2 rfl) ?_
              refine x_iret C hr hM ?_ dX6_lookOn_147
              have e9 : qb (cfg σ) t (σ 1) (σ 4 0) lo up = (b, n) := by
                rw [← hq]
                by_cases e : x < (MLs (σ 1) (σ 2 0) (σ 3 0) (σ 4 0)).length
                · rw [drop_s (L := MLs (σ 1) (σ 2 0) (σ 3 0) (σ 4 0)) (by omega) e, qlp, if_neg (by omega)]
                · rw [drop_e (L := MLs (σ 1) (σ 2 0) (σ 3 0) (σ 4 0)) (by omega) e, qlp]
              exact ⟨by rw [e9], by rw [e9]; exact hn, hfr⟩
            · refine lv_iload C.1 C.2.1 dX6_lookOn_92 (lv_at hl 2 rfl) ?_
              refine lv_iload_n C.1 C.2.1 dX6_lookOn_94 rfl (lv_at hl 7 rfl) ?_
              refine x_icmp_ge C ⟨by omega, by omega⟩ ⟨by omega, by omega⟩ (tgt := 145) dX6_lookOn_95 (by decide) (fun c95 => ?_) (fun c95 => ?_)
              · refine lv_iload C.1 C.2.1 dX6_lookOn_145 (lv_at hl 2 rfl) ?_
                refine x_iret C hr hM ?_ dX6_lookOn_147
                have e9 : qb (cfg σ) t (σ 1) (σ 4 0) lo up = (b, n) := by
                  rw [← hq]
                  by_cases e : x < (MLs (σ 1) (σ 2 0) (σ 3 0) (σ 4 0)).length
                  · rw [drop_s (L := MLs (σ 1) (σ 2 0) (σ 3 0) (σ 4 0)) (by omega) e, qlp, if_neg (by omega)]
                  · rw [drop_e (L := MLs (σ 1) (σ 2 0) (σ 3 0) (σ 4 0)) (by omega) e, qlp]
                exact ⟨by rw [e9], by rw [e9]; exact hn, hfr⟩
              · have k2 := hfr 2 (by omega) (by omega)
                have k3 := hfr 3 (by omega) (by omega)
                have k1 := hfr 1 (by omega) (by omega)
                have k4 := hfr 4 (by omega) (by omega)
                have hGs : GI s1 := hG.of (fun r hr => hfr r (by omega) (by omega))
                have hcs : cfg s1 = cfg σ := cfg_of (fun r hr => hfr r (by omega) (by omega))
                refine lv_aload C.1 C.2.1 dX6_lookOn_98 (lv_at hl 3 rfl) ?_
                refine lv_iload C.1 C.2.1 dX6_lookOn_100 (lv_at hl 0 rfl) ?_
                refine x_ci (x_runV (As := [.int (iI x)]) (rest := []) C (by omega) cw_X6_61 (c_X5_isTaking l D ad G ids hI s1 (t + 1) (MLs (σ 1) (σ 2 0) (σ 3 0) (σ 4 0)) (σ 1) x (show t + 1 < 11 by omega) hL1 h18 ⟨by omega, by omega⟩) hM (hI _ (by omega)) (cx_lo ad G _ (show t + 1 < 11 by omega)) rfl rfl rfl rfl (Nat.le_of_ble_eq_true rfl) hl.1 dX6_lookOn_102) hM (fun r102 s102 H1 lc1 hp hM => ?_)
                obtain ⟨hbs102, rfl⟩ := hp
                obtain ⟨ts102, ks102⟩ := ite01 hbs102
                refine x_if_eq C ⟨by omega, by omega⟩ (tgt := 139) dX6_lookOn_105 (by decide) (fun c105 => ?_) (fun c105 => ?_)
                · have htk : ¬ σ 1 (((MLs (σ 1) (σ 2 0) (σ 3 0) (σ 4 0)).getD x.toNat (-1)) % 100) ≠ 0 := fun q => ks102.mpr ⟨by omega, by omega, q⟩ c105
                  refine x_iinc (lv1 := [(7, .int (iI (x + 1))), (6, .int (iI bd)), (5, .int (iI b)), (4, .ref (ad (26 + 5 * (t + 1)))), (0, .ref (ad (11 + i))), (1, .int (iI tn)), (2, .int (iI lo)), (3, .int (iI up))]) C dX6_lookOn_139 hl (k := 0) rfl (by decide) rfl (fun ls hl => ?_)
                  refine lv_goto (tgt := 82) C.1 C.2.1 dX6_lookOn_142 (by decide) ?_
                  exact ih82 (x + 1) b bd n s1 _ _ _ (by omega) (by omega) (by omega) hL1 hfr hn (by rw [← hq, drop_s (L := MLs (σ 1) (σ 2 0) (σ 3 0) (σ 4 0)) (i := x) (by omega) (by omega), qlp, if_pos (by omega), if_neg htk]) (by omega) hM (lv_sub hl [0, 1, 2, 3, 4, 5, 6, 7] rfl)
                · have htk := (ks102.mp c105).2.2
                  have hmv : MV σ ((MLs (σ 1) (σ 2 0) (σ 3 0) (σ 4 0)).getD x.toNat (-1)) := getD_mem (by omega) (by omega)
                  refine lv_iload C.1 C.2.1 dX6_lookOn_108 (lv_at hl 2 rfl) ?_
                  refine lv_aload_n C.1 C.2.1 dX6_lookOn_110 rfl (lv_at hl 4 rfl) ?_
                  refine lv_aload C.1 C.2.1 dX6_lookOn_111 (lv_at hl 3 rfl) ?_
                  refine lv_iload C.1 C.2.1 dX6_lookOn_113 (lv_at hl 0 rfl) ?_
                  refine x_ci (x_runV (As := [.int (iI x)]) (rest := [.ref (ad (11 + i)), .int (iI b)]) C (by omega) cw_X6_65 (c_X5_moveAt l D ad G ids hI s1 (t + 1) (MLs (σ 1) (σ 2 0) (σ 3 0) (σ 4 0)) (σ 1) x (show t + 1 < 11 by omega) hL1 h18 ⟨by omega, by omega⟩) hM (hI _ (by omega)) (cx_lo ad G _ (show t + 1 < 11 by omega)) rfl rfl rfl rfl (Nat.le_of_ble_eq_true rfl) hl.1 dX6_lookOn_115) hM (fun r115 s115 H1 lc1 hp hM => ?_)
                  obtain ⟨rfl, rfl⟩ := hp
                  rw [if_pos (show 0 ≤ x by omega)]
                  refine lv_iload_n C.1 C.2.1 dX6_lookOn_118 rfl (lv_at hl 5 rfl) ?_
                  refine lv_iload C.1 C.2.1 dX6_lookOn_119 (lv_at hl 1 rfl) ?_
                  refine lv_iload_n C.1 C.2.1 dX6_lookOn_121 rfl (lv_at hl 7 rfl) ?_
                  refine x_ci (x_runV (As := [.int (iI ((MLs (σ 1) (σ 2 0) (σ 3 0) (σ 4 0)).getD (x).toNat (-1))), .int (iI tn), .int (iI bd), .int (iI up)]) (rest := [.int (iI b)]) C (by omega) cw_X6_69 (c_X6_behind l D ad G ids hI s1 i t1 ((MLs (σ 1) (σ 2 0) (σ 3 0) (σ 4 0)).getD (x).toNat (-1)) tn bd up hi2 (by omega) (hrec t1 ht1) (hGs) (by unfold MV; rw [k1, k2, k3, k4]; exact hmv) (by omega) (by omega)) hM (hI _ (by omega)) (cx_q ad G _ hi2) rfl rfl rfl rfl (Nat.le_of_ble_eq_true rfl) hl.1 dX6_lookOn_122) hM (fun r122 s122 H1 lc1 hp hM => ?_)
                  obtain ⟨hzs122, hns122, hfs122⟩ := hp
                  rw [hcs, k1, k4] at hzs122 hns122
                  have hqb := qb_bd hG.2.2.2.2 t1 (mvF (σ 1) ((MLs (σ 1) (σ 2 0) (σ 3 0) (σ 4 0)).getD x.toNat (-1))) (1 - σ 4 0) (-up) (-bd)
                  have hr122 : -4000 ≤ r122 ∧ r122 ≤ 4000 := by omega
                  refine x_max C (by omega) hl.1 wM_X6_55 ⟨by omega, by omega⟩ ⟨by omega, by omega⟩ (Nat.le_of_ble_eq_true rfl) dX6_lookOn_125 ?_
                  refine lv_istore (lv' := [(5, .int (iI (max b r122))), (7, .int (iI x)), (6, .int (iI bd)), (4, .ref (ad (26 + 5 * (t + 1)))), (0, .ref (ad (11 + i))), (1, .int (iI tn)), (2, .int (iI lo)), (3, .int (iI up))]) C.1 C.2.1 dX6_lookOn_128 hl (by decide) rfl (fun ls hl => ?_)
                  refine lv_iload C.1 C.2.1 dX6_lookOn_130 (lv_at hl 2 rfl) ?_
                  refine lv_iload C.1 C.2.1 dX6_lookOn_132 (lv_at hl 0 rfl) ?_
                  refine x_max C (by omega) hl.1 wM_X6_55 ⟨by omega, by omega⟩ ⟨by omega, by omega⟩ (Nat.le_of_ble_eq_true rfl) dX6_lookOn_134 ?_
                  refine lv_istore (lv' := [(6, .int (iI (max bd (max b r122)))), (5, .int (iI (max b r122))), (7, .int (iI x)), (4, .ref (ad (26 + 5 * (t + 1)))), (0, .ref (ad (11 + i))), (1, .int (iI tn)), (2, .int (iI lo)), (3, .int (iI up))]) C.1 C.2.1 dX6_lookOn_137 hl (by decide) rfl (fun ls hl => ?_)
                  refine x_iinc (lv1 := [(7, .int (iI (x + 1))), (6, .int (iI (max bd (max b r122)))), (5, .int (iI (max b r122))), (4, .ref (ad (26 + 5 * (t + 1)))), (0, .ref (ad (11 + i))), (1, .int (iI tn)), (2, .int (iI lo)), (3, .int (iI up))]) C dX6_lookOn_139 hl (k := 2) rfl (by decide) rfl (fun ls hl => ?_)
                  refine lv_goto (tgt := 82) C.1 C.2.1 dX6_lookOn_142 (by decide) ?_
                  exact ih82 (x + 1) (max b r122) (max bd (max b r122)) (n + (qb (cfg σ) t1 (mvF (σ 1) ((MLs (σ 1) (σ 2 0) (σ 3 0) (σ 4 0)).getD x.toNat (-1))) (1 - σ 4 0) (-up) (-bd)).2) s122 _ _ _ (by omega) (by omega) (by omega) (by unfold LM at *; rw [hfs122 _ (by omega) (by omega), hfs122 (40 + 6 * (t + 1)) (by omega) (by omega), hfs122 (40 + 6 * (t + 1) + 1) (by omega) (by omega)]; exact hL1) (fun r a d => (hfs122 r (by omega) d).trans (hfr r a d)) (by rw [hns122, hn, ups_ups, ups_eq, Int.add_assoc]) (by rw [← hq, drop_s (L := MLs (σ 1) (σ 2 0) (σ 3 0) (σ 4 0)) (i := x) (by omega) (by omega), qlp, if_pos (by omega), if_pos htk, ← hbd, ← hzs122]) (by omega) hM (lv_sub hl [0, 1, 2, 3, 4, 5, 6, 7] rfl)
        exact L82 _ 0 (evS (cfg σ) (σ 1) (σ 4 0)) (max lo (evS (cfg σ) (σ 1) (σ 4 0))) 1 s26 _ _ _ (by omega) hev rfl hLs26 f2 hn2 hQ.symm (Nat.lt_succ_self _) hM (lv_sub hl [0, 1, 2, 3, 4, 5, 6, 7] rfl)
      · refine lv_iload C.1 C.2.1 dX6_lookOn_68 (lv_at hl 0 rfl) ?_
        exact x_iret C hr hM ⟨by rw [qb_ev hne (by first | exact Or.inl (by omega) | exact Or.inr (show σ 8 0 = 0 by omega))], by rw [qb_ev hne (by first | exact Or.inl (by omega) | exact Or.inr (show σ 8 0 = 0 by omega))]; exact hn2, f2⟩ dX6_lookOn_70
  · have hne : MLs (σ 1) (cfg σ 2) (cfg σ 3) (σ 4 0) = [] := List.eq_nil_of_length_eq_zero (show (MLs (σ 1) (σ 2 0) (σ 3 0) (σ 4 0)).length = 0 by omega)
    refine lv_sipush (v := iI (-1000)) C.1 C.2.1 dX6_lookOn_37 (by decide) ?_
    exact x_iret C hr hM ⟨by rw [qb_nil hne], by rw [qb_nil hne]; exact hn2, f2⟩ dX6_lookOn_40
theorem lookOn_all (l : Launch) (D : va_G) (ad : Nat → Nat) (G : Nat → Nat) (ids : List Nat) (hI : ∀ k, k < 81 → k ∈ ids) {i : Nat} (hi2 : i < 2) : ∀ t : Nat, t ≤ 4 → LOc l D ad G ids i t := by
  intro t
  induction t with
  | zero => intro h4 σ tn lo up htn hG hlo hup; exact c_X6_lookOn l D ad G ids hI σ i 0 tn lo up hi2 htn h4 (fun t1 h => by omega) hG hlo hup
  | succ t ih => intro h4 σ tn lo up htn hG hlo hup; exact c_X6_lookOn l D ad G ids hI σ i (t + 1) tn lo up hi2 htn h4 (fun t1 h => by
      have e : t1 = t := by omega
      subst e; exact ih (by omega)) hG hlo hup
