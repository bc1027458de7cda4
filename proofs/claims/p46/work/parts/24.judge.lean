theorem ev0 {g : Int → Int} {x sd a b : Int} (hs : sd = 0 ∨ sd = 1) (hx : x = 0) : a - b = a + (if x = sd + 1 then g (sd + 1) else 0) - (b + (if x = 1 - sd + 1 then g (1 - sd + 1) else 0)) := by
  rw [if_neg (by omega), if_neg (by omega)]; omega
theorem ev1 {g : Int → Int} {x sd a b : Int} (hs : sd = 0 ∨ sd = 1) (hx : x = sd + 1) : a - b + g x = a + (if x = sd + 1 then g (sd + 1) else 0) - (b + (if x = 1 - sd + 1 then g (1 - sd + 1) else 0)) := by
  rw [if_pos hx, if_neg (by omega), hx]; omega
theorem ev2 {g : Int → Int} {x sd a b : Int} (hs : sd = 0 ∨ sd = 1) (hx : x = 1 - sd + 1) : a - b + -g x = a + (if x = sd + 1 then g (sd + 1) else 0) - (b + (if x = 1 - sd + 1 then g (1 - sd + 1) else 0)) := by
  rw [if_neg (by omega), if_pos hx, hx]; omega
set_option maxRecDepth 100000 in
set_option maxHeartbeats 4000000 in
theorem c_X2_setWeights (l : Launch) (D : va_G) (ad : Nat → Nat) (G : Nat → Nat) (ids : List Nat) (hI : ∀ k, k < 81 → k ∈ ids) (σ : Sg) (a b d : Int)  : MET l yX2_setWeights cX2_setWeights 4 none 1 [.ref (ad 3), .int (iI a), .int (iI b), .int (iI d)] D ad G ids σ (QV D ad G ids (fun σ' => upr (upr (upr σ 5 (ups (σ 5) 0 a)) 6 (ups (σ 6) 0 b)) 7 (ups (σ 7) 0 d) = σ')) := by
  refine x_enter (by decide) (Nat.le_of_ble_eq_true rfl) ?_
  intro pp ee ss mm args below meth cq C hr ls hl hM
  have hl : lv_has ls 4 [(0, .ref (ad 3)), (1, .int (iI a)), (2, .int (iI b)), (3, .int (iI d))] := hl
  refine lv_aload_n C.1 C.2.1 dX2_setWeights_0 rfl (lv_at hl 0 rfl) ?_
  refine lv_iload_n C.1 C.2.1 dX2_setWeights_1 rfl (lv_at hl 1 rfl) ?_
  refine p_X2_0 C hM (hI 3 (by decide)) wf_X2_7 dX2_setWeights_2 (fun H1 lc1 hM => ?_)
  refine lv_aload_n C.1 C.2.1 dX2_setWeights_5 rfl (lv_at hl 0 rfl) ?_
  refine lv_iload_n C.1 C.2.1 dX2_setWeights_6 rfl (lv_at hl 2 rfl) ?_
  refine p_X2_1 C hM (hI 3 (by decide)) wf_X2_13 dX2_setWeights_7 (fun H1 lc1 hM => ?_)
  refine lv_aload_n C.1 C.2.1 dX2_setWeights_10 rfl (lv_at hl 0 rfl) ?_
  refine lv_iload_n C.1 C.2.1 dX2_setWeights_11 rfl (lv_at hl 3 rfl) ?_
  refine p_X2_2 C hM (hI 3 (by decide)) wf_X2_16 dX2_setWeights_12 (fun H1 lc1 hM => ?_)
  exact x_vret C hr hM (by first | rfl | (rw [upr_ne _ _ (by decide), upr_ne _ _ (by decide)]; first | rfl | (rw [upr_ne _ _ (by decide)]))) dX2_setWeights_15
set_option maxRecDepth 100000 in
set_option maxHeartbeats 4000000 in
theorem c_X2_isQuietOn (l : Launch) (D : va_G) (ad : Nat → Nat) (G : Nat → Nat) (ids : List Nat) (hI : ∀ k, k < 81 → k ∈ ids) (σ : Sg)  (hq : σ 8 0 = 0 ∨ σ 8 0 = 1) : MET l yX2_isQuietOn cX2_isQuietOn 1 (some .boolean) 1 [.ref (ad 3)] D ad G ids σ (QI D ad G ids (fun z σ' => σ 8 0 = z ∧ σ = σ')) := by
  refine x_enter (by decide) (Nat.le_of_ble_eq_true rfl) ?_
  intro pp ee ss mm args below meth cq C hr ls hl hM
  have hl : lv_has ls 1 [(0, .ref (ad 3))] := hl
  refine lv_aload_n C.1 C.2.1 dX2_isQuietOn_0 rfl (lv_at hl 0 rfl) ?_
  refine g_X2_3 C hM (hI 3 (by decide)) wf_X2_19 dX2_isQuietOn_1 ?_
  exact x_zret C hr hM (by first | exact Or.inl rfl | exact Or.inr rfl | omega) ⟨rfl, rfl⟩ dX2_isQuietOn_4
set_option maxRecDepth 100000 in
set_option maxHeartbeats 4000000 in
theorem c_X2_switchQuiet (l : Launch) (D : va_G) (ad : Nat → Nat) (G : Nat → Nat) (ids : List Nat) (hI : ∀ k, k < 81 → k ∈ ids) (σ : Sg) (v : Int) (hv : v = 0 ∨ v = 1) : MET l yX2_switchQuiet cX2_switchQuiet 2 none 1 [.ref (ad 3), .int (iI v)] D ad G ids σ (QV D ad G ids (fun σ' => upr σ 8 (ups (σ 8) 0 v) = σ')) := by
  refine x_enter (by decide) (Nat.le_of_ble_eq_true rfl) ?_
  intro pp ee ss mm args below meth cq C hr ls hl hM
  have hl : lv_has ls 2 [(0, .ref (ad 3)), (1, .int (iI v))] := hl
  refine lv_aload_n C.1 C.2.1 dX2_switchQuiet_0 rfl (lv_at hl 0 rfl) ?_
  refine lv_iload_n C.1 C.2.1 dX2_switchQuiet_1 rfl (lv_at hl 1 rfl) ?_
  refine p_X2_3 C hM (hI 3 (by decide)) wf_X2_19 (by omega) dX2_switchQuiet_2 (fun H1 lc1 hM => ?_)
  exact x_vret C hr hM rfl dX2_switchQuiet_5
set_option maxRecDepth 100000 in
set_option maxHeartbeats 4000000 in
theorem c_X2_weighPawn (l : Launch) (D : va_G) (ad : Nat → Nat) (G : Nat → Nat) (ids : List Nat) (hI : ∀ k, k < 81 → k ∈ ids) (σ : Sg) (r k wt : Int) (hB : BG σ) (hC : BC (σ 1)) (hr0 : 0 ≤ r ∧ r < σ 3 0) (hk0 : 0 ≤ k ∧ k < σ 2 0) (hw : 1 ≤ wt ∧ wt ≤ 2) : MET l yX2_weighPawn cX2_weighPawn 8 (some .int) 2 [.ref (ad 3), .ref (ad 1), .int (iI r), .int (iI k), .int (iI wt)] D ad G ids σ (QI D ad G ids (fun z σ' => pawnV (σ 1) (σ 2 0) (σ 3 0) (σ 5 0) (σ 6 0) (σ 7 0) wt r k = z ∧ σ = σ')) := by
  obtain ⟨w1, w2, h1, h2⟩ := hB
  have wb := wh_bd w1 w2 h1 h2
  refine x_enter (by decide) (Nat.le_of_ble_eq_true rfl) ?_
  intro pp ee ss mm args below meth cq C hr ls hl hM
  have hl : lv_has ls 8 [(0, .ref (ad 3)), (1, .ref (ad 1)), (2, .int (iI r)), (3, .int (iI k)), (4, .int (iI wt))] := hl
  refine lv_iload C.1 C.2.1 dX2_weighPawn_0 (lv_at hl 4 rfl) ?_
  refine lv_iconst (v := iI 1) C.1 C.2.1 dX2_weighPawn_2 (by decide) ?_
  refine x_icmp_ne C ⟨by omega, by omega⟩ ⟨by omega, by omega⟩ (tgt := 10) dX2_weighPawn_3 (by decide) (fun c3 => ?_) (fun c3 => ?_)
  · refine lv_aload_n C.1 C.2.1 dX2_weighPawn_10 rfl (lv_at hl 1 rfl) ?_
    refine x_ci (x_runV (As := []) (rest := []) C (by omega) cw_X2_29 (c_X0_height l D ad G ids hI σ) hM (hI 1 (by decide)) (cx_1 ad G _) rfl rfl rfl rfl (Nat.le_of_ble_eq_true rfl) hl.1 dX2_weighPawn_11) hM (fun r11 s11 H1 lc1 hp hM => ?_)
    obtain ⟨rfl, rfl⟩ := hp
    refine lv_iconst (v := iI 1) C.1 C.2.1 dX2_weighPawn_14 (by decide) ?_
    refine x_isub C dX2_weighPawn_15 ?_
    refine lv_iload_n C.1 C.2.1 dX2_weighPawn_16 rfl (lv_at hl 2 rfl) ?_
    refine x_isub C dX2_weighPawn_17 ?_
    refine lv_istore (lv' := [(5, .int (iI (((σ 3 0) - 1) - r))), (0, .ref (ad 3)), (1, .ref (ad 1)), (2, .int (iI r)), (3, .int (iI k)), (4, .int (iI wt))]) C.1 C.2.1 dX2_weighPawn_18 hl (by decide) rfl (fun ls hl => ?_)
    refine lv_iconst (v := iI 0) C.1 C.2.1 dX2_weighPawn_20 (by decide) ?_
    refine lv_istore (lv' := [(6, .int (iI 0)), (5, .int (iI (((σ 3 0) - 1) - r))), (0, .ref (ad 3)), (1, .ref (ad 1)), (2, .int (iI r)), (3, .int (iI k)), (4, .int (iI wt))]) C.1 C.2.1 dX2_weighPawn_21 hl (by decide) rfl (fun ls hl => ?_)
    refine lv_iconst (v := iI (-1)) C.1 C.2.1 dX2_weighPawn_23 (by decide) ?_
    refine lv_istore (lv' := [(7, .int (iI (-1))), (6, .int (iI 0)), (5, .int (iI (((σ 3 0) - 1) - r))), (0, .ref (ad 3)), (1, .ref (ad 1)), (2, .int (iI r)), (3, .int (iI k)), (4, .int (iI wt))]) C.1 C.2.1 dX2_weighPawn_24 hl (by decide) rfl (fun ls hl => ?_)
    have L26 : ∀ (fu : Nat) (a : Int) (n : Int) (H1 : Heap) (lc1 : List Loc) (ls1 : Array Slot), (-1 ≤ a ∧ a ≤ 2) → (n = stF (σ 1) (σ 2 0) (σ 3 0) r k a) → (3 - a).toNat < fu → XI D ad G ids (AN ad ids ss.heap.size) ss.heap H1 lc1 σ → lv_has ls1 8 [(7, .int (iI a)), (6, .int (iI n)), (5, .int (iI (((σ 3 0) - 1) - r))), (0, .ref (ad 3)), (1, .ref (ad 1)), (2, .int (iI r)), (3, .int (iI k)), (4, .int (iI wt))] → W pp l ee (rmh 2) ss mm args below meth cq H1 lc1 0 0 (MQ below (QI D ad G ids (fun z σ' => pawnV (σ 1) (σ 2 0) (σ 3 0) (σ 5 0) (σ 6 0) (σ 7 0) wt r k = z ∧ σ = σ') ss.heap.size) args ss 0 0 (AN ad ids ss.heap.size)) (F0 mm 26 ls1 []) := by
      intro fu
      induction fu with
      | zero => intro a n  H1 lc1 ls1 a0 hn hfu; exact absurd hfu (Nat.not_lt_zero _)
      | succ fu ih26 =>
        intro a n  H1 lc1 ls1 a0 hn hfu hM hl
        refine lv_iload C.1 C.2.1 dX2_weighPawn_26 (lv_at hl 0 rfl) ?_
        refine lv_iconst (v := iI 1) C.1 C.2.1 dX2_weighPawn_28 (by decide) ?_
        refine x_icmp_gt C ⟨by omega, by omega⟩ ⟨by omega, by omega⟩ (tgt := 52) dX2_weighPawn_29 (by decide) (fun c29 => ?_) (fun c29 => ?_)
        · refine lv_aload_n C.1 C.2.1 dX2_weighPawn_52 rfl (lv_at hl 3 rfl) ?_
          refine g_X2_0 C hM (hI 3 (by decide)) wf_X2_7 dX2_weighPawn_53 ?_
          refine lv_aload_n C.1 C.2.1 dX2_weighPawn_56 rfl (lv_at hl 3 rfl) ?_
          refine g_X2_1 C hM (hI 3 (by decide)) wf_X2_13 dX2_weighPawn_57 ?_
          refine lv_iload C.1 C.2.1 dX2_weighPawn_60 (lv_at hl 2 rfl) ?_
          refine x_imul C dX2_weighPawn_62 ?_
          refine x_iadd C dX2_weighPawn_63 ?_
          refine lv_aload_n C.1 C.2.1 dX2_weighPawn_64 rfl (lv_at hl 3 rfl) ?_
          refine g_X2_2 C hM (hI 3 (by decide)) wf_X2_16 dX2_weighPawn_65 ?_
          refine lv_iload C.1 C.2.1 dX2_weighPawn_68 (lv_at hl 1 rfl) ?_
          refine x_imul C dX2_weighPawn_70 ?_
          refine x_iadd C dX2_weighPawn_71 ?_
          exact x_iret C hr hM ⟨by unfold pawnV; rw [← stF_3 _ _ _ _ _ (show 2 ≤ a by omega), ← hn, if_neg (by omega)], rfl⟩ dX2_weighPawn_72
        · refine lv_aload_n C.1 C.2.1 dX2_weighPawn_32 rfl (lv_at hl 4 rfl) ?_
          refine lv_iload_n C.1 C.2.1 dX2_weighPawn_33 rfl (lv_at hl 5 rfl) ?_
          refine lv_iload_n C.1 C.2.1 dX2_weighPawn_34 rfl (lv_at hl 6 rfl) ?_
          refine lv_iload C.1 C.2.1 dX2_weighPawn_35 (lv_at hl 0 rfl) ?_
          refine x_ci (x_runV (As := [.int (iI r), .int (iI k), .int (iI a)]) (rest := []) C (by omega) cw_X2_43 (c_X0_canStep l D ad G ids hI σ r k a ⟨w1, w2, h1, h2⟩ hC (by omega) (by omega) (by omega)) hM (hI 1 (by decide)) (cx_1 ad G _) rfl rfl rfl rfl (Nat.le_of_ble_eq_true rfl) hl.1 dX2_weighPawn_37) hM (fun r37 s37 H1 lc1 hp hM => ?_)
          obtain ⟨hbs37, rfl⟩ := hp
          obtain ⟨ts37, ks37⟩ := bI01 hbs37
          refine x_if_eq C ⟨by omega, by omega⟩ (tgt := 46) dX2_weighPawn_40 (by decide) (fun c40 => ?_) (fun c40 => ?_)
          · refine x_iinc (lv1 := [(7, .int (iI (a + 1))), (6, .int (iI n)), (5, .int (iI (((σ 3 0) - 1) - r))), (0, .ref (ad 3)), (1, .ref (ad 1)), (2, .int (iI r)), (3, .int (iI k)), (4, .int (iI wt))]) C dX2_weighPawn_46 hl (k := 0) rfl (by decide) rfl (fun ls hl => ?_)
            refine lv_goto (tgt := 26) C.1 C.2.1 dX2_weighPawn_49 (by decide) ?_
            exact ih26 (a + 1) n _ _ _ (by omega) (by rw [stF_s _ _ _ _ _ a0.1 (by omega), hbs37]; omega) (by omega) hM (lv_sub hl [0, 1, 2, 3, 4, 5, 6, 7] rfl)
          · refine x_iinc (lv1 := [(6, .int (iI (n + 1))), (7, .int (iI a)), (5, .int (iI (((σ 3 0) - 1) - r))), (0, .ref (ad 3)), (1, .ref (ad 1)), (2, .int (iI r)), (3, .int (iI k)), (4, .int (iI wt))]) C dX2_weighPawn_43 hl (k := 1) rfl (by decide) rfl (fun ls hl => ?_)
            refine x_iinc (lv1 := [(7, .int (iI (a + 1))), (6, .int (iI (n + 1))), (5, .int (iI (((σ 3 0) - 1) - r))), (0, .ref (ad 3)), (1, .ref (ad 1)), (2, .int (iI r)), (3, .int (iI k)), (4, .int (iI wt))]) C dX2_weighPawn_46 hl (k := 1) rfl (by decide) rfl (fun ls hl => ?_)
            refine lv_goto (tgt := 26) C.1 C.2.1 dX2_weighPawn_49 (by decide) ?_
            exact ih26 (a + 1) (n + 1) _ _ _ (by omega) (by rw [stF_s _ _ _ _ _ a0.1 (by omega), hbs37]; omega) (by omega) hM (lv_sub hl [0, 1, 2, 3, 4, 5, 6, 7] rfl)
    exact L26 _ (-1) 0 _ _ _ (by omega) rfl (Nat.lt_succ_self _) hM (lv_sub hl [0, 1, 2, 3, 4, 5, 6, 7] rfl)
  · refine lv_iload_n C.1 C.2.1 dX2_weighPawn_6 rfl (lv_at hl 2 rfl) ?_
    refine lv_goto (tgt := 18) C.1 C.2.1 dX2_weighPawn_7 (by decide) ?_
    refine lv_istore (lv' := [(5, .int (iI r)), (0, .ref (ad 3)), (1, .ref (ad 1)), (2, .int (iI r)), (3, .int (iI k)), (4, .int (iI wt))]) C.1 C.2.1 dX2_weighPawn_18 hl (by decide) rfl (fun ls hl => ?_)
    refine lv_iconst (v := iI 0) C.1 C.2.1 dX2_weighPawn_20 (by decide) ?_
    refine lv_istore (lv' := [(6, .int (iI 0)), (5, .int (iI r)), (0, .ref (ad 3)), (1, .ref (ad 1)), (2, .int (iI r)), (3, .int (iI k)), (4, .int (iI wt))]) C.1 C.2.1 dX2_weighPawn_21 hl (by decide) rfl (fun ls hl => ?_)
    refine lv_iconst (v := iI (-1)) C.1 C.2.1 dX2_weighPawn_23 (by decide) ?_
    refine lv_istore (lv' := [(7, .int (iI (-1))), (6, .int (iI 0)), (5, .int (iI r)), (0, .ref (ad 3)), (1, .ref (ad 1)), (2, .int (iI r)), (3, .int (iI k)), (4, .int (iI wt))]) C.1 C.2.1 dX2_weighPawn_24 hl (by decide) rfl (fun ls hl => ?_)
    have L26 : ∀ (fu : Nat) (a : Int) (n : Int) (H1 : Heap) (lc1 : List Loc) (ls1 : Array Slot), (-1 ≤ a ∧ a ≤ 2) → (n = stF (σ 1) (σ 2 0) (σ 3 0) r k a) → (3 - a).toNat < fu → XI D ad G ids (AN ad ids ss.heap.size) ss.heap H1 lc1 σ → lv_has ls1 8 [(7, .int (iI a)), (6, .int (iI n)), (5, .int (iI r)), (0, .ref (ad 3)), (1, .ref (ad 1)), (2, .int (iI r)), (3, .int (iI k)), (4, .int (iI wt))] → W pp l ee (rmh 2) ss mm args below meth cq H1 lc1 0 0 (MQ below (QI D ad G ids (fun z σ' => pawnV (σ 1) (σ 2 0) (σ 3 0) (σ 5 0) (σ 6 0) (σ 7 0) wt r k = z ∧ σ = σ') ss.heap.size) args ss 0 0 (AN ad ids ss.heap.size)) (F0 mm 26 ls1 []) := by
      intro fu
      induction fu with
      | zero => intro a n  H1 lc1 ls1 a0 hn hfu; exact absurd hfu (Nat.not_lt_zero _)
      | succ fu ih26 =>
        intro a n  H1 lc1 ls1 a0 hn hfu hM hl
        refine lv_iload C.1 C.2.1 dX2_weighPawn_26 (lv_at hl 0 rfl) ?_
        refine lv_iconst (v := iI 1) C.1 C.2.1 dX2_weighPawn_28 (by decide) ?_
        refine x_icmp_gt C ⟨by omega, by omega⟩ ⟨by omega, by omega⟩ (tgt := 52) dX2_weighPawn_29 (by decide) (fun c29 => ?_) (fun c29 => ?_)
        · refine lv_aload_n C.1 C.2.1 dX2_weighPawn_52 rfl (lv_at hl 3 rfl) ?_
          refine g_X2_0 C hM (hI 3 (by decide)) wf_X2_7 dX2_weighPawn_53 ?_
          refine lv_aload_n C.1 C.2.1 dX2_weighPawn_56 rfl (lv_at hl 3 rfl) ?_
          refine g_X2_1 C hM (hI 3 (by decide)) wf_X2_13 dX2_weighPawn_57 ?_
          refine lv_iload C.1 C.2.1 dX2_weighPawn_60 (lv_at hl 2 rfl) ?_
          refine x_imul C dX2_weighPawn_62 ?_
          refine x_iadd C dX2_weighPawn_63 ?_
          refine lv_aload_n C.1 C.2.1 dX2_weighPawn_64 rfl (lv_at hl 3 rfl) ?_
          refine g_X2_2 C hM (hI 3 (by decide)) wf_X2_16 dX2_weighPawn_65 ?_
          refine lv_iload C.1 C.2.1 dX2_weighPawn_68 (lv_at hl 1 rfl) ?_
          refine x_imul C dX2_weighPawn_70 ?_
          refine x_iadd C dX2_weighPawn_71 ?_
          exact x_iret C hr hM ⟨by unfold pawnV; rw [← stF_3 _ _ _ _ _ (show 2 ≤ a by omega), ← hn, if_pos (by omega)], rfl⟩ dX2_weighPawn_72
        · refine lv_aload_n C.1 C.2.1 dX2_weighPawn_32 rfl (lv_at hl 4 rfl) ?_
          refine lv_iload_n C.1 C.2.1 dX2_weighPawn_33 rfl (lv_at hl 5 rfl) ?_
          refine lv_iload_n C.1 C.2.1 dX2_weighPawn_34 rfl (lv_at hl 6 rfl) ?_
          refine lv_iload C.1 C.2.1 dX2_weighPawn_35 (lv_at hl 0 rfl) ?_
          refine x_ci (x_runV (As := [.int (iI r), .int (iI k), .int (iI a)]) (rest := []) C (by omega) cw_X2_43 (c_X0_canStep l D ad G ids hI σ r k a ⟨w1, w2, h1, h2⟩ hC (by omega) (by omega) (by omega)) hM (hI 1 (by decide)) (cx_1 ad G _) rfl rfl rfl rfl (Nat.le_of_ble_eq_true rfl) hl.1 dX2_weighPawn_37) hM (fun r37 s37 H1 lc1 hp hM => ?_)
          obtain ⟨hbs37, rfl⟩ := hp
          obtain ⟨ts37, ks37⟩ := bI01 hbs37
          refine x_if_eq C ⟨by omega, by omega⟩ (tgt := 46) dX2_weighPawn_40 (by decide) (fun c40 => ?_) (fun c40 => ?_)
          · refine x_iinc (lv1 := [(7, .int (iI (a + 1))), (6, .int (iI n)), (5, .int (iI r)), (0, .ref (ad 3)), (1, .ref (ad 1)), (2, .int (iI r)), (3, .int (iI k)), (4, .int (iI wt))]) C dX2_weighPawn_46 hl (k := 0) rfl (by decide) rfl (fun ls hl => ?_)
            refine lv_goto (tgt := 26) C.1 C.2.1 dX2_weighPawn_49 (by decide) ?_
            exact ih26 (a + 1) n _ _ _ (by omega) (by rw [stF_s _ _ _ _ _ a0.1 (by omega), hbs37]; omega) (by omega) hM (lv_sub hl [0, 1, 2, 3, 4, 5, 6, 7] rfl)
          · refine x_iinc (lv1 := [(6, .int (iI (n + 1))), (7, .int (iI a)), (5, .int (iI r)), (0, .ref (ad 3)), (1, .ref (ad 1)), (2, .int (iI r)), (3, .int (iI k)), (4, .int (iI wt))]) C dX2_weighPawn_43 hl (k := 1) rfl (by decide) rfl (fun ls hl => ?_)
            refine x_iinc (lv1 := [(7, .int (iI (a + 1))), (6, .int (iI (n + 1))), (5, .int (iI r)), (0, .ref (ad 3)), (1, .ref (ad 1)), (2, .int (iI r)), (3, .int (iI k)), (4, .int (iI wt))]) C dX2_weighPawn_46 hl (k := 1) rfl (by decide) rfl (fun ls hl => ?_)
            refine lv_goto (tgt := 26) C.1 C.2.1 dX2_weighPawn_49 (by decide) ?_
            exact ih26 (a + 1) (n + 1) _ _ _ (by omega) (by rw [stF_s _ _ _ _ _ a0.1 (by omega), hbs37]; omega) (by omega) hM (lv_sub hl [0, 1, 2, 3, 4, 5, 6, 7] rfl)
    exact L26 _ (-1) 0 _ _ _ (by omega) rfl (Nat.lt_succ_self _) hM (lv_sub hl [0, 1, 2, 3, 4, 5, 6, 7] rfl)
set_option maxRecDepth 100000 in
set_option maxHeartbeats 4000000 in
theorem c_X2_evaluate (l : Launch) (D : va_G) (ad : Nat → Nat) (G : Nat → Nat) (ids : List Nat) (hI : ∀ k, k < 81 → k ∈ ids) (σ : Sg)  (hG : GI σ) : MET l yX2_evaluate cX2_evaluate 8 (some .int) 3 [.ref (ad 3), .ref (ad 1)] D ad G ids σ (QI D ad G ids (fun z σ' => evS (cfg σ) (σ 1) (σ 4 0) = z ∧ σ = σ')) := by
  obtain ⟨hB, hC, hs, hp, hS⟩ := hG
  obtain ⟨w1, w2, h1, h2⟩ := hB
  have wb := wh_bd w1 w2 h1 h2
  refine x_enter (by decide) (Nat.le_of_ble_eq_true rfl) ?_
  intro pp ee ss mm args below meth cq C hr ls hl hM
  have hl : lv_has ls 8 [(0, .ref (ad 3)), (1, .ref (ad 1))] := hl
  refine lv_iconst (v := iI 0) C.1 C.2.1 dX2_evaluate_0 (by decide) ?_
  refine lv_istore_n (lv' := [(2, .int (iI 0)), (0, .ref (ad 3)), (1, .ref (ad 1))]) C.1 C.2.1 dX2_evaluate_1 rfl hl (by decide) rfl (fun ls hl => ?_)
  refine lv_aload_n C.1 C.2.1 dX2_evaluate_2 rfl (lv_at hl 2 rfl) ?_
  refine x_ci (x_runV (As := []) (rest := []) C (by omega) cw_X2_23 (c_X0_mover l D ad G ids hI σ) hM (hI 1 (by decide)) (cx_1 ad G _) rfl rfl rfl rfl (Nat.le_of_ble_eq_true rfl) hl.1 dX2_evaluate_3) hM (fun r3 s3 H1 lc1 hp hM => ?_)
  obtain ⟨rfl, rfl⟩ := hp
  refine lv_iconst (v := iI 1) C.1 C.2.1 dX2_evaluate_6 (by decide) ?_
  refine x_iadd C dX2_evaluate_7 ?_
  refine lv_istore_n (lv' := [(3, .int (iI ((σ 4 0) + 1))), (2, .int (iI 0)), (0, .ref (ad 3)), (1, .ref (ad 1))]) C.1 C.2.1 dX2_evaluate_8 rfl hl (by decide) rfl (fun ls hl => ?_)
  refine lv_iconst (v := iI 0) C.1 C.2.1 dX2_evaluate_9 (by decide) ?_
  refine lv_istore (lv' := [(4, .int (iI 0)), (3, .int (iI ((σ 4 0) + 1))), (2, .int (iI 0)), (0, .ref (ad 3)), (1, .ref (ad 1))]) C.1 C.2.1 dX2_evaluate_10 hl (by decide) rfl (fun ls hl => ?_)
  have L12 : ∀ (fu : Nat) (r : Int) (n : Int) (H1 : Heap) (lc1 : List Loc) (ls1 : Array Slot), (0 ≤ r ∧ r ≤ σ 3 0) → (n = wsum (σ 1) (σ 2 0) (σ 3 0) (σ 5 0) (σ 6 0) (σ 7 0) (σ 4 0) (r * σ 2 0).toNat - wsum (σ 1) (σ 2 0) (σ 3 0) (σ 5 0) (σ 6 0) (σ 7 0) (1 - σ 4 0) (r * σ 2 0).toNat) → (6 - r).toNat < fu → XI D ad G ids (AN ad ids ss.heap.size) ss.heap H1 lc1 σ → lv_has ls1 8 [(4, .int (iI r)), (3, .int (iI ((σ 4 0) + 1))), (2, .int (iI n)), (0, .ref (ad 3)), (1, .ref (ad 1))] → W pp l ee (rmh 3) ss mm args below meth cq H1 lc1 0 0 (MQ below (QI D ad G ids (fun z σ' => evS (cfg σ) (σ 1) (σ 4 0) = z ∧ σ = σ') ss.heap.size) args ss 0 0 (AN ad ids ss.heap.size)) (F0 mm 12 ls1 []) := by
    intro fu
    induction fu with
    | zero => intro r n  H1 lc1 ls1 r0 hn hfu; exact absurd hfu (Nat.not_lt_zero _)
    | succ fu ih12 =>
      intro r n  H1 lc1 ls1 r0 hn hfu hM hl
      refine lv_iload C.1 C.2.1 dX2_evaluate_12 (lv_at hl 0 rfl) ?_
      refine lv_aload_n C.1 C.2.1 dX2_evaluate_14 rfl (lv_at hl 4 rfl) ?_
      refine x_ci (x_runV (As := []) (rest := [.int (iI r)]) C (by omega) cw_X2_29 (c_X0_height l D ad G ids hI σ) hM (hI 1 (by decide)) (cx_1 ad G _) rfl rfl rfl rfl (Nat.le_of_ble_eq_true rfl) hl.1 dX2_evaluate_15) hM (fun r15 s15 H1 lc1 hp hM => ?_)
      obtain ⟨rfl, rfl⟩ := hp
      refine x_icmp_ge C ⟨by omega, by omega⟩ ⟨by omega, by omega⟩ (tgt := 96) dX2_evaluate_18 (by decide) (fun c18 => ?_) (fun c18 => ?_)
      · refine lv_iload_n C.1 C.2.1 dX2_evaluate_96 rfl (lv_at hl 2 rfl) ?_
        exact x_iret C hr hM ⟨by rw [hn, show r * σ 2 0 = σ 2 0 * σ 3 0 by rw [show r = σ 3 0 by omega]; omega]; rfl, rfl⟩ dX2_evaluate_97
      · have g1 := geo r0.1 (show r < σ 3 0 by omega) w1 w2 h2
        refine lv_iconst (v := iI 0) C.1 C.2.1 dX2_evaluate_21 (by decide) ?_
        refine lv_istore (lv' := [(5, .int (iI 0)), (4, .int (iI r)), (3, .int (iI ((σ 4 0) + 1))), (2, .int (iI n)), (0, .ref (ad 3)), (1, .ref (ad 1))]) C.1 C.2.1 dX2_evaluate_22 hl (by decide) rfl (fun ls hl => ?_)
        have L24 : ∀ (fu : Nat) (k : Int) (m : Int) (H1 : Heap) (lc1 : List Loc) (ls1 : Array Slot), (0 ≤ k ∧ k ≤ σ 2 0) → (m = wsum (σ 1) (σ 2 0) (σ 3 0) (σ 5 0) (σ 6 0) (σ 7 0) (σ 4 0) (r * σ 2 0 + k).toNat - wsum (σ 1) (σ 2 0) (σ 3 0) (σ 5 0) (σ 6 0) (σ 7 0) (1 - σ 4 0) (r * σ 2 0 + k).toNat) → (6 - k).toNat < fu → XI D ad G ids (AN ad ids ss.heap.size) ss.heap H1 lc1 σ → lv_has ls1 8 [(5, .int (iI k)), (4, .int (iI r)), (3, .int (iI ((σ 4 0) + 1))), (2, .int (iI m)), (0, .ref (ad 3)), (1, .ref (ad 1))] → W pp l ee (rmh 3) ss mm args below meth cq H1 lc1 0 0 (MQ below (QI D ad G ids (fun z σ' => evS (cfg σ) (σ 1) (σ 4 0) = z ∧ σ = σ') ss.heap.size) args ss 0 0 (AN ad ids ss.heap.size)) (F0 mm 24 ls1 []) := by
          intro fu
          induction fu with
          | zero => intro k m  H1 lc1 ls1 k0 hm hfu; exact absurd hfu (Nat.not_lt_zero _)
          | succ fu ih24 =>
            intro k m  H1 lc1 ls1 k0 hm hfu hM hl
            refine lv_iload C.1 C.2.1 dX2_evaluate_24 (lv_at hl 0 rfl) ?_
            refine lv_aload_n C.1 C.2.1 dX2_evaluate_26 rfl (lv_at hl 5 rfl) ?_
            refine x_ci (x_runV (As := []) (rest := [.int (iI k)]) C (by omega) cw_X2_32 (c_X0_width l D ad G ids hI σ) hM (hI 1 (by decide)) (cx_1 ad G _) rfl rfl rfl rfl (Nat.le_of_ble_eq_true rfl) hl.1 dX2_evaluate_27) hM (fun r27 s27 H1 lc1 hp hM => ?_)
            obtain ⟨rfl, rfl⟩ := hp
            refine x_icmp_ge C ⟨by omega, by omega⟩ ⟨by omega, by omega⟩ (tgt := 90) dX2_evaluate_30 (by decide) (fun c30 => ?_) (fun c30 => ?_)
            · refine x_iinc (lv1 := [(4, .int (iI (r + 1))), (5, .int (iI k)), (3, .int (iI ((σ 4 0) + 1))), (2, .int (iI m)), (0, .ref (ad 3)), (1, .ref (ad 1))]) C dX2_evaluate_90 hl (k := 1) rfl (by decide) rfl (fun ls hl => ?_)
              refine lv_goto (tgt := 12) C.1 C.2.1 dX2_evaluate_93 (by decide) ?_
              exact ih12 (r + 1) m _ _ _ (by omega) (by rw [g1.2.2.2.1, show r * σ 2 0 + σ 2 0 = r * σ 2 0 + k by omega]; exact hm) (by omega) hM (lv_sub hl [0, 2, 3, 4, 5] rfl)
            · refine lv_aload_n C.1 C.2.1 dX2_evaluate_33 rfl (lv_at hl 5 rfl) ?_
              refine lv_iload C.1 C.2.1 dX2_evaluate_34 (lv_at hl 1 rfl) ?_
              refine lv_aload_n C.1 C.2.1 dX2_evaluate_36 rfl (lv_at hl 5 rfl) ?_
              refine x_ci (x_runV (As := []) (rest := [.int (iI r), .ref (ad 1)]) C (by omega) cw_X2_32 (c_X0_width l D ad G ids hI σ) hM (hI 1 (by decide)) (cx_1 ad G _) rfl rfl rfl rfl (Nat.le_of_ble_eq_true rfl) hl.1 dX2_evaluate_37) hM (fun r37 s37 H1 lc1 hp hM => ?_)
              obtain ⟨rfl, rfl⟩ := hp
              refine x_imul C dX2_evaluate_40 ?_
              refine lv_iload C.1 C.2.1 dX2_evaluate_41 (lv_at hl 0 rfl) ?_
              refine x_iadd C dX2_evaluate_43 ?_
              have hc := hC (r * σ 2 0 + k)
              refine x_ci (x_runV (As := [.int (iI ((r * (σ 2 0)) + k))]) (rest := []) C (by omega) cw_X2_35 (c_X0_pawnAt l D ad G ids hI σ ((r * (σ 2 0)) + k) ⟨by omega, by omega⟩) hM (hI 1 (by decide)) (cx_1 ad G _) rfl rfl rfl rfl (Nat.le_of_ble_eq_true rfl) hl.1 dX2_evaluate_44) hM (fun r44 s44 H1 lc1 hp hM => ?_)
              obtain ⟨rfl, rfl⟩ := hp
              rw [if_pos (show 0 ≤ ((r * (σ 2 0)) + k) ∧ ((r * (σ 2 0)) + k) < 25 by omega)]
              refine lv_istore (lv' := [(6, .int (iI (σ 1 ((r * (σ 2 0)) + k)))), (5, .int (iI k)), (4, .int (iI r)), (3, .int (iI ((σ 4 0) + 1))), (2, .int (iI m)), (0, .ref (ad 3)), (1, .ref (ad 1))]) C.1 C.2.1 dX2_evaluate_47 hl (by decide) rfl (fun ls hl => ?_)
              refine lv_iload C.1 C.2.1 dX2_evaluate_49 (lv_at hl 0 rfl) ?_
              refine x_if_eq C ⟨by omega, by omega⟩ (tgt := 84) dX2_evaluate_51 (by decide) (fun c51 => ?_) (fun c51 => ?_)
              · refine x_iinc (lv1 := [(5, .int (iI (k + 1))), (6, .int (iI (σ 1 ((r * (σ 2 0)) + k)))), (4, .int (iI r)), (3, .int (iI ((σ 4 0) + 1))), (2, .int (iI m)), (0, .ref (ad 3)), (1, .ref (ad 1))]) C dX2_evaluate_84 hl (k := 1) rfl (by decide) rfl (fun ls hl => ?_)
                refine lv_goto (tgt := 24) C.1 C.2.1 dX2_evaluate_87 (by decide) ?_
                exact ih24 (k + 1) m _ _ _ (by omega) (by rw [← Int.add_assoc, wsum_s _ g1.1 k0.1 (by omega), wsum_s _ g1.1 k0.1 (by omega), hm]; exact ev0 (g := fun x => pawnV (σ 1) (σ 2 0) (σ 3 0) (σ 5 0) (σ 6 0) (σ 7 0) x r k) hs (by omega)) (by omega) hM (lv_sub hl [0, 2, 3, 4, 5, 6] rfl)
              · refine lv_aload_n C.1 C.2.1 dX2_evaluate_54 rfl (lv_at hl 5 rfl) ?_
                refine lv_aload_n C.1 C.2.1 dX2_evaluate_55 rfl (lv_at hl 6 rfl) ?_
                refine lv_iload C.1 C.2.1 dX2_evaluate_56 (lv_at hl 2 rfl) ?_
                refine lv_iload C.1 C.2.1 dX2_evaluate_58 (lv_at hl 1 rfl) ?_
                refine lv_iload C.1 C.2.1 dX2_evaluate_60 (lv_at hl 0 rfl) ?_
                refine x_ci (x_runV (As := [.ref (ad 1), .int (iI r), .int (iI k), .int (iI (σ 1 ((r * (σ 2 0)) + k)))]) (rest := []) C (by omega) cw_X2_39 (c_X2_weighPawn l D ad G ids hI σ r k (σ 1 ((r * (σ 2 0)) + k)) ⟨w1, w2, h1, h2⟩ hC (by omega) (by omega) (by omega)) hM (hI 3 (by decide)) (cx_3 ad G _) rfl rfl rfl rfl (Nat.le_of_ble_eq_true rfl) hl.1 dX2_evaluate_62) hM (fun r62 s62 H1 lc1 hp hM => ?_)
                obtain ⟨rfl, rfl⟩ := hp
                refine lv_istore (lv' := [(7, .int (iI (pawnV (σ 1) (σ 2 0) (σ 3 0) (σ 5 0) (σ 6 0) (σ 7 0) (σ 1 ((r * (σ 2 0)) + k)) r k))), (6, .int (iI (σ 1 ((r * (σ 2 0)) + k)))), (5, .int (iI k)), (4, .int (iI r)), (3, .int (iI ((σ 4 0) + 1))), (2, .int (iI m)), (0, .ref (ad 3)), (1, .ref (ad 1))]) C.1 C.2.1 dX2_evaluate_65 hl (by decide) rfl (fun ls hl => ?_)
                refine lv_iload_n C.1 C.2.1 dX2_evaluate_67 rfl (lv_at hl 5 rfl) ?_
                refine lv_iload C.1 C.2.1 dX2_evaluate_68 (lv_at hl 1 rfl) ?_
                refine lv_iload_n C.1 C.2.1 dX2_evaluate_70 rfl (lv_at hl 4 rfl) ?_
                refine x_icmp_ne C ⟨by omega, by omega⟩ ⟨by omega, by omega⟩ (tgt := 79) dX2_evaluate_71 (by decide) (fun c71 => ?_) (fun c71 => ?_)
                · refine lv_iload C.1 C.2.1 dX2_evaluate_79 (lv_at hl 0 rfl) ?_
                  refine x_ineg C dX2_evaluate_81 ?_
                  refine x_iadd C dX2_evaluate_82 ?_
                  refine lv_istore_n (lv' := [(2, .int (iI (m + (-(pawnV (σ 1) (σ 2 0) (σ 3 0) (σ 5 0) (σ 6 0) (σ 7 0) (σ 1 ((r * (σ 2 0)) + k)) r k))))), (7, .int (iI (pawnV (σ 1) (σ 2 0) (σ 3 0) (σ 5 0) (σ 6 0) (σ 7 0) (σ 1 ((r * (σ 2 0)) + k)) r k))), (6, .int (iI (σ 1 ((r * (σ 2 0)) + k)))), (5, .int (iI k)), (4, .int (iI r)), (3, .int (iI ((σ 4 0) + 1))), (0, .ref (ad 3)), (1, .ref (ad 1))]) C.1 C.2.1 dX2_evaluate_83 rfl hl (by decide) rfl (fun ls hl => ?_)
                  refine x_iinc (lv1 := [(5, .int (iI (k + 1))), (2, .int (iI (m + (-(pawnV (σ 1) (σ 2 0) (σ 3 0) (σ 5 0) (σ 6 0) (σ 7 0) (σ 1 ((r * (σ 2 0)) + k)) r k))))), (7, .int (iI (pawnV (σ 1) (σ 2 0) (σ 3 0) (σ 5 0) (σ 6 0) (σ 7 0) (σ 1 ((r * (σ 2 0)) + k)) r k))), (6, .int (iI (σ 1 ((r * (σ 2 0)) + k)))), (4, .int (iI r)), (3, .int (iI ((σ 4 0) + 1))), (0, .ref (ad 3)), (1, .ref (ad 1))]) C dX2_evaluate_84 hl (k := 3) rfl (by decide) rfl (fun ls hl => ?_)
                  refine lv_goto (tgt := 24) C.1 C.2.1 dX2_evaluate_87 (by decide) ?_
                  exact ih24 (k + 1) (m + (-(pawnV (σ 1) (σ 2 0) (σ 3 0) (σ 5 0) (σ 6 0) (σ 7 0) (σ 1 ((r * (σ 2 0)) + k)) r k))) _ _ _ (by omega) (by rw [← Int.add_assoc, wsum_s _ g1.1 k0.1 (by omega), wsum_s _ g1.1 k0.1 (by omega), hm]; exact ev2 (g := fun x => pawnV (σ 1) (σ 2 0) (σ 3 0) (σ 5 0) (σ 6 0) (σ 7 0) x r k) hs (by omega)) (by omega) hM (lv_sub hl [0, 4, 5, 1, 6, 7] rfl)
                · refine lv_iload C.1 C.2.1 dX2_evaluate_74 (lv_at hl 0 rfl) ?_
                  refine lv_goto (tgt := 82) C.1 C.2.1 dX2_evaluate_76 (by decide) ?_
                  refine x_iadd C dX2_evaluate_82 ?_
                  refine lv_istore_n (lv' := [(2, .int (iI (m + (pawnV (σ 1) (σ 2 0) (σ 3 0) (σ 5 0) (σ 6 0) (σ 7 0) (σ 1 ((r * (σ 2 0)) + k)) r k)))), (7, .int (iI (pawnV (σ 1) (σ 2 0) (σ 3 0) (σ 5 0) (σ 6 0) (σ 7 0) (σ 1 ((r * (σ 2 0)) + k)) r k))), (6, .int (iI (σ 1 ((r * (σ 2 0)) + k)))), (5, .int (iI k)), (4, .int (iI r)), (3, .int (iI ((σ 4 0) + 1))), (0, .ref (ad 3)), (1, .ref (ad 1))]) C.1 C.2.1 dX2_evaluate_83 rfl hl (by decide) rfl (fun ls hl => ?_)
                  refine x_iinc (lv1 := [(5, .int (iI (k + 1))), (2, .int (iI (m + (pawnV (σ 1) (σ 2 0) (σ 3 0) (σ 5 0) (σ 6 0) (σ 7 0) (σ 1 ((r * (σ 2 0)) + k)) r k)))), (7, .int (iI (pawnV (σ 1) (σ 2 0) (σ 3 0) (σ 5 0) (σ 6 0) (σ 7 0) (σ 1 ((r * (σ 2 0)) + k)) r k))), (6, .int (iI (σ 1 ((r * (σ 2 0)) + k)))), (4, .int (iI r)), (3, .int (iI ((σ 4 0) + 1))), (0, .ref (ad 3)), (1, .ref (ad 1))]) C dX2_evaluate_84 hl (k := 3) rfl (by decide) rfl (fun ls hl => ?_)
                  refine lv_goto (tgt := 24) C.1 C.2.1 dX2_evaluate_87 (by decide) ?_
                  exact ih24 (k + 1) (m + (pawnV (σ 1) (σ 2 0) (σ 3 0) (σ 5 0) (σ 6 0) (σ 7 0) (σ 1 ((r * (σ 2 0)) + k)) r k)) _ _ _ (by omega) (by rw [← Int.add_assoc, wsum_s _ g1.1 k0.1 (by omega), wsum_s _ g1.1 k0.1 (by omega), hm]; exact ev1 (g := fun x => pawnV (σ 1) (σ 2 0) (σ 3 0) (σ 5 0) (σ 6 0) (σ 7 0) x r k) hs (by omega)) (by omega) hM (lv_sub hl [0, 4, 5, 1, 6, 7] rfl)
        exact L24 _ 0 n _ _ _ (by omega) (by rw [Int.add_zero]; exact hn) (Nat.lt_succ_self _) hM (lv_sub hl [0, 1, 2, 3, 4, 5] rfl)
  exact L12 _ 0 0 _ _ _ (by omega) (by rw [Int.zero_mul]; rfl) (Nat.lt_succ_self _) hM (lv_sub hl [0, 1, 2, 3, 4] rfl)
