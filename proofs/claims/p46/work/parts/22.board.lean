set_option maxRecDepth 100000 in
set_option maxHeartbeats 4000000 in
theorem c_X0_countPawns (l : Launch) (D : va_G) (ad : Nat → Nat) (G : Nat → Nat) (ids : List Nat) (hI : ∀ k, k < 81 → k ∈ ids) (σ : Sg) (v : Int) (hv : IR v) (hC : BC (σ 1)) : MET l yX0_countPawns cX0_countPawns 4 (some .int) 1 [.ref (ad 1), .int (iI v)] D ad G ids σ (QI D ad G ids (fun z σ' => cntF (σ 1) v 25 = z ∧ σ = σ')) := by
  refine x_enter (by decide) (Nat.le_of_ble_eq_true rfl) ?_
  intro pp ee ss mm args below meth cq C hr ls hl hM
  have hl : lv_has ls 4 [(0, .ref (ad 1)), (1, .int (iI v))] := hl
  refine lv_iconst (v := iI 0) C.1 C.2.1 dX0_countPawns_0 (by decide) ?_
  refine lv_istore_n (lv' := [(2, .int (iI 0)), (0, .ref (ad 1)), (1, .int (iI v))]) C.1 C.2.1 dX0_countPawns_1 rfl hl (by decide) rfl (fun ls hl => ?_)
  refine lv_iconst (v := iI 0) C.1 C.2.1 dX0_countPawns_2 (by decide) ?_
  refine lv_istore_n (lv' := [(3, .int (iI 0)), (2, .int (iI 0)), (0, .ref (ad 1)), (1, .int (iI v))]) C.1 C.2.1 dX0_countPawns_3 rfl hl (by decide) rfl (fun ls hl => ?_)
  have L4 : ∀ (fu : Nat) (i : Int) (n : Int) (H1 : Heap) (lc1 : List Loc) (ls1 : Array Slot), (0 ≤ i ∧ i ≤ 25) → (n = cntF (σ 1) v i.toNat) → (30 - i).toNat < fu → XI D ad G ids (AN ad ids ss.heap.size) ss.heap H1 lc1 σ → lv_has ls1 4 [(3, .int (iI i)), (2, .int (iI n)), (0, .ref (ad 1)), (1, .int (iI v))] → W pp l ee (rmh 1) ss mm args below meth cq H1 lc1 0 0 (MQ below (QI D ad G ids (fun z σ' => cntF (σ 1) v 25 = z ∧ σ = σ') ss.heap.size) args ss 0 0 (AN ad ids ss.heap.size)) (F0 mm 4 ls1 []) := by
    intro fu
    induction fu with
    | zero => intro i n  H1 lc1 ls1 i0 hn hfu; exact absurd hfu (Nat.not_lt_zero _)
    | succ fu ih4 =>
      intro i n  H1 lc1 ls1 i0 hn hfu hM hl
      refine lv_iload_n C.1 C.2.1 dX0_countPawns_4 rfl (lv_at hl 0 rfl) ?_
      refine lv_aload_n C.1 C.2.1 dX0_countPawns_5 rfl (lv_at hl 2 rfl) ?_
      refine g_X0_0 C hM (hI 1 (by decide)) wf_X0_9 dX0_countPawns_6 ?_
      refine ln_2 C hM (hI 2 (by decide)) dX0_countPawns_9 ?_
      refine x_icmp_ge C ⟨by omega, by omega⟩ ⟨by omega, by omega⟩ (tgt := 32) dX0_countPawns_10 (by decide) (fun c10 => ?_) (fun c10 => ?_)
      · refine lv_iload_n C.1 C.2.1 dX0_countPawns_32 rfl (lv_at hl 1 rfl) ?_
        exact x_iret C hr hM ⟨by rw [hn, show i.toNat = 25 by omega], rfl⟩ dX0_countPawns_33
      · refine lv_aload_n C.1 C.2.1 dX0_countPawns_13 rfl (lv_at hl 2 rfl) ?_
        refine g_X0_0 C hM (hI 1 (by decide)) wf_X0_9 dX0_countPawns_14 ?_
        refine lv_iload_n C.1 C.2.1 dX0_countPawns_17 rfl (lv_at hl 0 rfl) ?_
        have hc := hC i
        refine al_2 C hM (hI 2 (by decide)) (by omega) (by omega) dX0_countPawns_18 ?_
        refine lv_iload_n C.1 C.2.1 dX0_countPawns_19 rfl (lv_at hl 3 rfl) ?_
        refine x_icmp_ne C ⟨by omega, by omega⟩ ⟨by omega, by omega⟩ (tgt := 26) dX0_countPawns_20 (by decide) (fun c20 => ?_) (fun c20 => ?_)
        · refine x_iinc (lv1 := [(3, .int (iI (i + 1))), (2, .int (iI n)), (0, .ref (ad 1)), (1, .int (iI v))]) C dX0_countPawns_26 hl (k := 0) rfl (by decide) rfl (fun ls hl => ?_)
          refine lv_goto (tgt := 4) C.1 C.2.1 dX0_countPawns_29 (by decide) ?_
          exact ih4 (i + 1) n _ _ _ (by omega) (by rw [cntF_s _ _ i0.1]; split <;> omega) (by omega) hM (lv_sub hl [0, 1, 2, 3] rfl)
        · refine x_iinc (lv1 := [(2, .int (iI (n + 1))), (3, .int (iI i)), (0, .ref (ad 1)), (1, .int (iI v))]) C dX0_countPawns_23 hl (k := 1) rfl (by decide) rfl (fun ls hl => ?_)
          refine x_iinc (lv1 := [(3, .int (iI (i + 1))), (2, .int (iI (n + 1))), (0, .ref (ad 1)), (1, .int (iI v))]) C dX0_countPawns_26 hl (k := 1) rfl (by decide) rfl (fun ls hl => ?_)
          refine lv_goto (tgt := 4) C.1 C.2.1 dX0_countPawns_29 (by decide) ?_
          exact ih4 (i + 1) (n + 1) _ _ _ (by omega) (by rw [cntF_s _ _ i0.1]; split <;> omega) (by omega) hM (lv_sub hl [0, 1, 2, 3] rfl)
  exact L4 _ 0 0 _ _ _ (by omega) rfl (Nat.lt_succ_self _) hM (lv_sub hl [0, 1, 2, 3] rfl)
set_option maxRecDepth 100000 in
set_option maxHeartbeats 4000000 in
theorem c_X0_keyNumber (l : Launch) (D : va_G) (ad : Nat → Nat) (G : Nat → Nat) (ids : List Nat) (hI : ∀ k, k < 81 → k ∈ ids) (σ : Sg)  (hB : BG σ) (hC : BC (σ 1)) (hs : σ 4 0 = 0 ∨ σ 4 0 = 1) : MET l yX0_keyNumber cX0_keyNumber 5 (some .long) 1 [.ref (ad 1)] D ad G ids σ (QL D ad G ids (fun z σ' => keyF (σ 1) (σ 2 0 * σ 3 0).toNat * 2 + σ 4 0 = z ∧ σ = σ')) := by
  obtain ⟨w1, w2, h1, h2⟩ := hB
  have wb := wh_bd w1 w2 h1 h2
  refine x_enter (by decide) (Nat.le_of_ble_eq_true rfl) ?_
  intro pp ee ss mm args below meth cq C hr ls hl hM
  have hl : lv_has ls 5 [(0, .ref (ad 1))] := hl
  refine lv_lconst (v := jI 0) C.1 C.2.1 dX0_keyNumber_0 (by decide) ?_
  refine lv_lstore_n (lv' := [(1, .long (jI 0)), (0, .ref (ad 1))]) C.1 C.2.1 dX0_keyNumber_1 rfl hl (by decide) rfl (fun ls hl => ?_)
  refine lv_aload_n C.1 C.2.1 dX0_keyNumber_2 rfl (lv_at hl 1 rfl) ?_
  refine g_X0_1 C hM (hI 1 (by decide)) wf_X0_19 dX0_keyNumber_3 ?_
  refine lv_aload_n C.1 C.2.1 dX0_keyNumber_6 rfl (lv_at hl 1 rfl) ?_
  refine g_X0_2 C hM (hI 1 (by decide)) wf_X0_23 dX0_keyNumber_7 ?_
  refine x_imul C dX0_keyNumber_10 ?_
  refine lv_istore_n (lv' := [(3, .int (iI ((σ 2 0) * (σ 3 0)))), (1, .long (jI 0)), (0, .ref (ad 1))]) C.1 C.2.1 dX0_keyNumber_11 rfl hl (by decide) rfl (fun ls hl => ?_)
  refine lv_iconst (v := iI 0) C.1 C.2.1 dX0_keyNumber_12 (by decide) ?_
  refine lv_istore (lv' := [(4, .int (iI 0)), (3, .int (iI ((σ 2 0) * (σ 3 0)))), (1, .long (jI 0)), (0, .ref (ad 1))]) C.1 C.2.1 dX0_keyNumber_13 hl (by decide) rfl (fun ls hl => ?_)
  have L15 : ∀ (fu : Nat) (i : Int) (n : Int) (H1 : Heap) (lc1 : List Loc) (ls1 : Array Slot), (0 ≤ i ∧ i ≤ σ 2 0 * σ 3 0) → (n = keyF (σ 1) i.toNat) → (30 - i).toNat < fu → XI D ad G ids (AN ad ids ss.heap.size) ss.heap H1 lc1 σ → lv_has ls1 5 [(4, .int (iI i)), (3, .int (iI ((σ 2 0) * (σ 3 0)))), (1, .long (jI n)), (0, .ref (ad 1))] → W pp l ee (rmh 1) ss mm args below meth cq H1 lc1 0 0 (MQ below (QL D ad G ids (fun z σ' => keyF (σ 1) (σ 2 0 * σ 3 0).toNat * 2 + σ 4 0 = z ∧ σ = σ') ss.heap.size) args ss 0 0 (AN ad ids ss.heap.size)) (F0 mm 15 ls1 []) := by
    intro fu
    induction fu with
    | zero => intro i n  H1 lc1 ls1 i0 hn hfu; exact absurd hfu (Nat.not_lt_zero _)
    | succ fu ih15 =>
      intro i n  H1 lc1 ls1 i0 hn hfu hM hl
      refine lv_iload C.1 C.2.1 dX0_keyNumber_15 (lv_at hl 0 rfl) ?_
      refine lv_iload_n C.1 C.2.1 dX0_keyNumber_17 rfl (lv_at hl 1 rfl) ?_
      refine x_icmp_ge C ⟨by omega, by omega⟩ ⟨by omega, by omega⟩ (tgt := 52) dX0_keyNumber_18 (by decide) (fun c18 => ?_) (fun c18 => ?_)
      · refine lv_lload_n C.1 C.2.1 dX0_keyNumber_52 rfl (lv_at hl 2 rfl) ?_
        refine lv_ldc2 C.1 C.2.1 C.2.2.2.1 (C.2.2.2.2.1 _ wk_X0_35) dX0_keyNumber_53 ?_
        refine x_lmul C dX0_keyNumber_56 ?_
        refine lv_aload_n C.1 C.2.1 dX0_keyNumber_57 rfl (lv_at hl 3 rfl) ?_
        refine g_X0_3 C hM (hI 1 (by decide)) wf_X0_26 dX0_keyNumber_58 ?_
        refine x_i2l C ⟨by omega, by omega⟩ dX0_keyNumber_61 ?_
        refine x_ladd C dX0_keyNumber_62 ?_
        exact x_lret C hr hM ⟨by rw [hn, show i = σ 2 0 * σ 3 0 by omega], rfl⟩ dX0_keyNumber_63
      · refine lv_iload C.1 C.2.1 dX0_keyNumber_21 (lv_at hl 0 rfl) ?_
        refine lv_aload_n C.1 C.2.1 dX0_keyNumber_23 rfl (lv_at hl 3 rfl) ?_
        refine g_X0_0 C hM (hI 1 (by decide)) wf_X0_9 dX0_keyNumber_24 ?_
        refine ln_2 C hM (hI 2 (by decide)) dX0_keyNumber_27 ?_
        refine x_icmp_ge C ⟨by omega, by omega⟩ ⟨by omega, by omega⟩ (tgt := 52) dX0_keyNumber_28 (by decide) (fun c28 => ?_) (fun c28 => ?_)
        · exfalso; omega
        · refine lv_lload_n C.1 C.2.1 dX0_keyNumber_31 rfl (lv_at hl 2 rfl) ?_
          refine lv_ldc2 C.1 C.2.1 C.2.2.2.1 (C.2.2.2.2.1 _ wk_X0_33) dX0_keyNumber_32 ?_
          refine x_lmul C dX0_keyNumber_35 ?_
          refine lv_aload_n C.1 C.2.1 dX0_keyNumber_36 rfl (lv_at hl 3 rfl) ?_
          refine g_X0_0 C hM (hI 1 (by decide)) wf_X0_9 dX0_keyNumber_37 ?_
          refine lv_iload C.1 C.2.1 dX0_keyNumber_40 (lv_at hl 0 rfl) ?_
          have hc := hC i
          refine al_2 C hM (hI 2 (by decide)) (by omega) (by omega) dX0_keyNumber_42 ?_
          refine x_i2l C ⟨by omega, by omega⟩ dX0_keyNumber_43 ?_
          refine x_ladd C dX0_keyNumber_44 ?_
          refine lv_lstore_n (lv' := [(1, .long (jI ((n * 3) + (σ 1 i)))), (4, .int (iI i)), (3, .int (iI ((σ 2 0) * (σ 3 0)))), (0, .ref (ad 1))]) C.1 C.2.1 dX0_keyNumber_45 rfl hl (by decide) rfl (fun ls hl => ?_)
          refine x_iinc (lv1 := [(4, .int (iI (i + 1))), (1, .long (jI ((n * 3) + (σ 1 i)))), (3, .int (iI ((σ 2 0) * (σ 3 0)))), (0, .ref (ad 1))]) C dX0_keyNumber_46 hl (k := 1) rfl (by decide) rfl (fun ls hl => ?_)
          refine lv_goto (tgt := 15) C.1 C.2.1 dX0_keyNumber_49 (by decide) ?_
          exact ih15 (i + 1) ((n * 3) + (σ 1 i)) _ _ _ (by omega) (by rw [keyF_s _ i0.1, hn]) (by omega) hM (lv_sub hl [0, 2, 1, 3] rfl)
  exact L15 _ 0 0 _ _ _ (by omega) rfl (Nat.lt_succ_self _) hM (lv_sub hl [0, 1, 2, 3] rfl)
set_option maxRecDepth 100000 in
set_option maxHeartbeats 4000000 in
theorem c_X0_isOtherThrough (l : Launch) (D : va_G) (ad : Nat → Nat) (G : Nat → Nat) (ids : List Nat) (hI : ∀ k, k < 81 → k ∈ ids) (σ : Sg)  (hB : BG σ) (hC : BC (σ 1)) (hs : σ 4 0 = 0 ∨ σ 4 0 = 1) : MET l yX0_isOtherThrough cX0_isOtherThrough 3 (some .boolean) 2 [.ref (ad 1)] D ad G ids σ (QI D ad G ids (fun z σ' => bI (thru (σ 1) (σ 2 0) (σ 3 0) (σ 4 0)) = z ∧ σ = σ')) := by
  obtain ⟨w1, w2, h1, h2⟩ := hB
  have wb := wh_bd w1 w2 h1 h2
  refine x_enter (by decide) (Nat.le_of_ble_eq_true rfl) ?_
  intro pp ee ss mm args below meth cq C hr ls hl hM
  have hl : lv_has ls 3 [(0, .ref (ad 1))] := hl
  refine lv_aload_n C.1 C.2.1 dX0_isOtherThrough_0 rfl (lv_at hl 0 rfl) ?_
  refine g_X0_3 C hM (hI 1 (by decide)) wf_X0_26 dX0_isOtherThrough_1 ?_
  refine x_if_ne C ⟨by omega, by omega⟩ (tgt := 11) dX0_isOtherThrough_4 (by decide) (fun c4 => ?_) (fun c4 => ?_)
  · refine lv_aload_n C.1 C.2.1 dX0_isOtherThrough_11 rfl (lv_at hl 0 rfl) ?_
    refine g_X0_2 C hM (hI 1 (by decide)) wf_X0_23 dX0_isOtherThrough_12 ?_
    refine lv_iconst (v := iI 1) C.1 C.2.1 dX0_isOtherThrough_15 (by decide) ?_
    refine x_isub C dX0_isOtherThrough_16 ?_
    refine lv_aload_n C.1 C.2.1 dX0_isOtherThrough_17 rfl (lv_at hl 0 rfl) ?_
    refine g_X0_1 C hM (hI 1 (by decide)) wf_X0_19 dX0_isOtherThrough_18 ?_
    refine x_imul C dX0_isOtherThrough_21 ?_
    refine lv_istore_n (lv' := [(1, .int (iI (((σ 3 0) - 1) * (σ 2 0)))), (0, .ref (ad 1))]) C.1 C.2.1 dX0_isOtherThrough_22 rfl hl (by decide) rfl (fun ls hl => ?_)
    refine lv_iconst (v := iI 0) C.1 C.2.1 dX0_isOtherThrough_23 (by decide) ?_
    refine lv_istore_n (lv' := [(2, .int (iI 0)), (1, .int (iI (((σ 3 0) - 1) * (σ 2 0)))), (0, .ref (ad 1))]) C.1 C.2.1 dX0_isOtherThrough_24 rfl hl (by decide) rfl (fun ls hl => ?_)
    have L25 : ∀ (fu : Nat) (i : Int) (H1 : Heap) (lc1 : List Loc) (ls1 : Array Slot), (0 ≤ i ∧ i ≤ σ 2 0) → (thruF (σ 1) ((((σ 3 0) - 1) * (σ 2 0))) (2 - σ 4 0) i.toNat = false) → (30 - i).toNat < fu → XI D ad G ids (AN ad ids ss.heap.size) ss.heap H1 lc1 σ → lv_has ls1 3 [(2, .int (iI i)), (1, .int (iI (((σ 3 0) - 1) * (σ 2 0)))), (0, .ref (ad 1))] → W pp l ee (rmh 2) ss mm args below meth cq H1 lc1 0 0 (MQ below (QI D ad G ids (fun z σ' => bI (thru (σ 1) (σ 2 0) (σ 3 0) (σ 4 0)) = z ∧ σ = σ') ss.heap.size) args ss 0 0 (AN ad ids ss.heap.size)) (F0 mm 25 ls1 []) := by
      intro fu
      induction fu with
      | zero => intro i  H1 lc1 ls1 i0 hn hfu; exact absurd hfu (Nat.not_lt_zero _)
      | succ fu ih25 =>
        intro i  H1 lc1 ls1 i0 hn hfu hM hl
        refine lv_iload_n C.1 C.2.1 dX0_isOtherThrough_25 rfl (lv_at hl 0 rfl) ?_
        refine lv_aload_n C.1 C.2.1 dX0_isOtherThrough_26 rfl (lv_at hl 2 rfl) ?_
        refine g_X0_1 C hM (hI 1 (by decide)) wf_X0_19 dX0_isOtherThrough_27 ?_
        refine x_icmp_ge C ⟨by omega, by omega⟩ ⟨by omega, by omega⟩ (tgt := 57) dX0_isOtherThrough_30 (by decide) (fun c30 => ?_) (fun c30 => ?_)
        · refine lv_iconst (v := iI 0) C.1 C.2.1 dX0_isOtherThrough_57 (by decide) ?_
          refine x_zret C hr hM (by first | exact Or.inl rfl | exact Or.inr rfl | omega) ?_ dX0_isOtherThrough_58
          exact ⟨by
            have e1 : thru (σ 1) (σ 2 0) (σ 3 0) (σ 4 0) = false := by
              unfold thru
              rw [if_neg (by omega), show (σ 2 0).toNat = i.toNat by omega]
              exact hn
            rw [e1]; rfl, rfl⟩
        · refine lv_aload_n C.1 C.2.1 dX0_isOtherThrough_33 rfl (lv_at hl 2 rfl) ?_
          refine lv_iload_n C.1 C.2.1 dX0_isOtherThrough_34 rfl (lv_at hl 1 rfl) ?_
          refine lv_iload_n C.1 C.2.1 dX0_isOtherThrough_35 rfl (lv_at hl 0 rfl) ?_
          refine x_iadd C dX0_isOtherThrough_36 ?_
          refine x_ci (x_runV (As := [.int (iI ((((σ 3 0) - 1) * (σ 2 0)) + i))]) (rest := []) C (by omega) cw_X0_53 (c_X0_pawnAt l D ad G ids hI σ ((((σ 3 0) - 1) * (σ 2 0)) + i) ⟨by omega, by omega⟩) hM (hI 1 (by decide)) (cx_1 ad G _) rfl rfl rfl rfl (Nat.le_of_ble_eq_true rfl) hl.1 dX0_isOtherThrough_37) hM (fun r37 s37 H1 lc1 hp hM => ?_)
          obtain ⟨rfl, rfl⟩ := hp
          rw [if_pos (show 0 ≤ ((((σ 3 0) - 1) * (σ 2 0)) + i) ∧ ((((σ 3 0) - 1) * (σ 2 0)) + i) < 25 by omega)]
          refine lv_iconst (v := iI 2) C.1 C.2.1 dX0_isOtherThrough_40 (by decide) ?_
          refine lv_aload_n C.1 C.2.1 dX0_isOtherThrough_41 rfl (lv_at hl 2 rfl) ?_
          refine g_X0_3 C hM (hI 1 (by decide)) wf_X0_26 dX0_isOtherThrough_42 ?_
          refine x_isub C dX0_isOtherThrough_45 ?_
          have hc := hC ((((σ 3 0) - 1) * (σ 2 0)) + i)
          refine x_icmp_ne C ⟨by omega, by omega⟩ ⟨by omega, by omega⟩ (tgt := 51) dX0_isOtherThrough_46 (by decide) (fun c46 => ?_) (fun c46 => ?_)
          · refine x_iinc (lv1 := [(2, .int (iI (i + 1))), (1, .int (iI (((σ 3 0) - 1) * (σ 2 0)))), (0, .ref (ad 1))]) C dX0_isOtherThrough_51 hl (k := 0) rfl (by decide) rfl (fun ls hl => ?_)
            refine lv_goto (tgt := 25) C.1 C.2.1 dX0_isOtherThrough_54 (by decide) ?_
            exact ih25 (i + 1) _ _ _ (by omega) (by rw [thruF_s _ _ _ i0.1, hn, decide_eq_false (by omega)]; rfl) (by omega) hM (lv_sub hl [0, 1, 2] rfl)
          · refine lv_iconst (v := iI 1) C.1 C.2.1 dX0_isOtherThrough_49 (by decide) ?_
            refine x_zret C hr hM (by first | exact Or.inl rfl | exact Or.inr rfl | omega) ?_ dX0_isOtherThrough_50
            exact ⟨by
              have e1 : thru (σ 1) (σ 2 0) (σ 3 0) (σ 4 0) = true := by
                unfold thru
                rw [if_neg (by omega)]
                refine thruF_mono (n := (i + 1).toNat) (by omega) ?_
                rw [thruF_s _ _ _ i0.1, decide_eq_true (by omega), Bool.or_true]
              rw [e1]; rfl, rfl⟩
    exact L25 _ 0 _ _ _ (by omega) rfl (Nat.lt_succ_self _) hM (lv_sub hl [0, 1, 2] rfl)
  · refine lv_iconst (v := iI 0) C.1 C.2.1 dX0_isOtherThrough_7 (by decide) ?_
    refine lv_goto (tgt := 22) C.1 C.2.1 dX0_isOtherThrough_8 (by decide) ?_
    refine lv_istore_n (lv' := [(1, .int (iI 0)), (0, .ref (ad 1))]) C.1 C.2.1 dX0_isOtherThrough_22 rfl hl (by decide) rfl (fun ls hl => ?_)
    refine lv_iconst (v := iI 0) C.1 C.2.1 dX0_isOtherThrough_23 (by decide) ?_
    refine lv_istore_n (lv' := [(2, .int (iI 0)), (1, .int (iI 0)), (0, .ref (ad 1))]) C.1 C.2.1 dX0_isOtherThrough_24 rfl hl (by decide) rfl (fun ls hl => ?_)
    have L25 : ∀ (fu : Nat) (i : Int) (H1 : Heap) (lc1 : List Loc) (ls1 : Array Slot), (0 ≤ i ∧ i ≤ σ 2 0) → (thruF (σ 1) (0) (2 - σ 4 0) i.toNat = false) → (30 - i).toNat < fu → XI D ad G ids (AN ad ids ss.heap.size) ss.heap H1 lc1 σ → lv_has ls1 3 [(2, .int (iI i)), (1, .int (iI 0)), (0, .ref (ad 1))] → W pp l ee (rmh 2) ss mm args below meth cq H1 lc1 0 0 (MQ below (QI D ad G ids (fun z σ' => bI (thru (σ 1) (σ 2 0) (σ 3 0) (σ 4 0)) = z ∧ σ = σ') ss.heap.size) args ss 0 0 (AN ad ids ss.heap.size)) (F0 mm 25 ls1 []) := by
      intro fu
      induction fu with
      | zero => intro i  H1 lc1 ls1 i0 hn hfu; exact absurd hfu (Nat.not_lt_zero _)
      | succ fu ih25 =>
        intro i  H1 lc1 ls1 i0 hn hfu hM hl
        refine lv_iload_n C.1 C.2.1 dX0_isOtherThrough_25 rfl (lv_at hl 0 rfl) ?_
        refine lv_aload_n C.1 C.2.1 dX0_isOtherThrough_26 rfl (lv_at hl 2 rfl) ?_
        refine g_X0_1 C hM (hI 1 (by decide)) wf_X0_19 dX0_isOtherThrough_27 ?_
        refine x_icmp_ge C ⟨by omega, by omega⟩ ⟨by omega, by omega⟩ (tgt := 57) dX0_isOtherThrough_30 (by decide) (fun c30 => ?_) (fun c30 => ?_)
        · refine lv_iconst (v := iI 0) C.1 C.2.1 dX0_isOtherThrough_57 (by decide) ?_
          refine x_zret C hr hM (by first | exact Or.inl rfl | exact Or.inr rfl | omega) ?_ dX0_isOtherThrough_58
          exact ⟨by
            have e1 : thru (σ 1) (σ 2 0) (σ 3 0) (σ 4 0) = false := by
              unfold thru
              rw [if_pos (by omega), show (σ 2 0).toNat = i.toNat by omega]
              exact hn
            rw [e1]; rfl, rfl⟩
        · refine lv_aload_n C.1 C.2.1 dX0_isOtherThrough_33 rfl (lv_at hl 2 rfl) ?_
          refine lv_iload_n C.1 C.2.1 dX0_isOtherThrough_34 rfl (lv_at hl 1 rfl) ?_
          refine lv_iload_n C.1 C.2.1 dX0_isOtherThrough_35 rfl (lv_at hl 0 rfl) ?_
          refine x_iadd C dX0_isOtherThrough_36 ?_
          refine x_ci (x_runV (As := [.int (iI (0 + i))]) (rest := []) C (by omega) cw_X0_53 (c_X0_pawnAt l D ad G ids hI σ (0 + i) ⟨by omega, by omega⟩) hM (hI 1 (by decide)) (cx_1 ad G _) rfl rfl rfl rfl (Nat.le_of_ble_eq_true rfl) hl.1 dX0_isOtherThrough_37) hM (fun r37 s37 H1 lc1 hp hM => ?_)
          obtain ⟨rfl, rfl⟩ := hp
          rw [if_pos (show 0 ≤ (0 + i) ∧ (0 + i) < 25 by omega)]
          refine lv_iconst (v := iI 2) C.1 C.2.1 dX0_isOtherThrough_40 (by decide) ?_
          refine lv_aload_n C.1 C.2.1 dX0_isOtherThrough_41 rfl (lv_at hl 2 rfl) ?_
          refine g_X0_3 C hM (hI 1 (by decide)) wf_X0_26 dX0_isOtherThrough_42 ?_
          refine x_isub C dX0_isOtherThrough_45 ?_
          have hc := hC (0 + i)
          refine x_icmp_ne C ⟨by omega, by omega⟩ ⟨by omega, by omega⟩ (tgt := 51) dX0_isOtherThrough_46 (by decide) (fun c46 => ?_) (fun c46 => ?_)
          · refine x_iinc (lv1 := [(2, .int (iI (i + 1))), (1, .int (iI 0)), (0, .ref (ad 1))]) C dX0_isOtherThrough_51 hl (k := 0) rfl (by decide) rfl (fun ls hl => ?_)
            refine lv_goto (tgt := 25) C.1 C.2.1 dX0_isOtherThrough_54 (by decide) ?_
            exact ih25 (i + 1) _ _ _ (by omega) (by rw [thruF_s _ _ _ i0.1, hn, decide_eq_false (by omega)]; rfl) (by omega) hM (lv_sub hl [0, 1, 2] rfl)
          · refine lv_iconst (v := iI 1) C.1 C.2.1 dX0_isOtherThrough_49 (by decide) ?_
            refine x_zret C hr hM (by first | exact Or.inl rfl | exact Or.inr rfl | omega) ?_ dX0_isOtherThrough_50
            exact ⟨by
              have e1 : thru (σ 1) (σ 2 0) (σ 3 0) (σ 4 0) = true := by
                unfold thru
                rw [if_pos (by omega)]
                refine thruF_mono (n := (i + 1).toNat) (by omega) ?_
                rw [thruF_s _ _ _ i0.1, decide_eq_true (by omega), Bool.or_true]
              rw [e1]; rfl, rfl⟩
    exact L25 _ 0 _ _ _ (by omega) rfl (Nat.lt_succ_self _) hM (lv_sub hl [0, 1, 2] rfl)
set_option maxRecDepth 100000 in
set_option maxHeartbeats 4000000 in
theorem c_X0_layOn (l : Launch) (D : va_G) (ad : Nat → Nat) (G : Nat → Nat) (ids : List Nat) (hI : ∀ k, k < 81 → k ∈ ids) (σ : Sg) (f v : Int) (hB : BG σ) (hf : 0 ≤ f ∧ f < σ 2 0 * σ 3 0) : MET l yX0_layOn cX0_layOn 3 none 2 [.ref (ad 1), .int (iI f), .int (iI v)] D ad G ids σ (QV D ad G ids (fun σ' => upr σ 1 (ups (σ 1) f v) = σ')) := by
  obtain ⟨w1, w2, h1, h2⟩ := hB
  have wb := wh_bd w1 w2 h1 h2
  refine x_enter (by decide) (Nat.le_of_ble_eq_true rfl) ?_
  intro pp ee ss mm args below meth cq C hr ls hl hM
  have hl : lv_has ls 3 [(0, .ref (ad 1)), (1, .int (iI f)), (2, .int (iI v))] := hl
  refine lv_aload_n C.1 C.2.1 dX0_layOn_0 rfl (lv_at hl 0 rfl) ?_
  refine lv_iload_n C.1 C.2.1 dX0_layOn_1 rfl (lv_at hl 1 rfl) ?_
  refine x_ci (x_runV (As := [.int (iI f)]) (rest := []) C (by omega) cw_X0_29 (c_X0_isField l D ad G ids hI σ f ⟨by omega, by omega⟩ ⟨w1, w2, h1, h2⟩) hM (hI 1 (by decide)) (cx_1 ad G _) rfl rfl rfl rfl (Nat.le_of_ble_eq_true rfl) hl.1 dX0_layOn_2) hM (fun r2 s2 H1 lc1 hp hM => ?_)
  obtain ⟨hbs2, rfl⟩ := hp
  obtain ⟨ts2, ks2⟩ := ite01 hbs2
  refine x_if_eq C ⟨by omega, by omega⟩ (tgt := 15) dX0_layOn_5 (by decide) (fun c5 => ?_) (fun c5 => ?_)
  · exfalso; omega
  · refine lv_aload_n C.1 C.2.1 dX0_layOn_8 rfl (lv_at hl 0 rfl) ?_
    refine g_X0_0 C hM (hI 1 (by decide)) wf_X0_9 dX0_layOn_9 ?_
    refine lv_iload_n C.1 C.2.1 dX0_layOn_12 rfl (lv_at hl 1 rfl) ?_
    refine lv_iload_n C.1 C.2.1 dX0_layOn_13 rfl (lv_at hl 2 rfl) ?_
    refine as_2 C hM (hI 2 (by decide)) (by omega) (by omega) dX0_layOn_14 (fun H1 lc1 hM => ?_)
    exact x_vret C hr hM rfl dX0_layOn_15
set_option maxRecDepth 100000 in
set_option maxHeartbeats 4000000 in
theorem c_X0_advance (l : Launch) (D : va_G) (ad : Nat → Nat) (G : Nat → Nat) (ids : List Nat) (hI : ∀ k, k < 81 → k ∈ ids) (σ : Sg) (v : Int) (hB : BG σ) (hs : σ 4 0 = 0 ∨ σ 4 0 = 1) (hv : 0 ≤ v ∧ v / 100 < σ 2 0 * σ 3 0 ∧ v % 100 < σ 2 0 * σ 3 0) : MET l yX0_advance cX0_advance 5 (some .int) 2 [.ref (ad 1), .int (iI v)] D ad G ids σ (QI D ad G ids (fun z σ' => σ 1 (v % 100) = z ∧ mvG σ v = σ')) := by
  obtain ⟨w1, w2, h1, h2⟩ := hB
  have wb := wh_bd w1 w2 h1 h2
  refine x_enter (by decide) (Nat.le_of_ble_eq_true rfl) ?_
  intro pp ee ss mm args below meth cq C hr ls hl hM
  have hl : lv_has ls 5 [(0, .ref (ad 1)), (1, .int (iI v))] := hl
  refine lv_iload_n C.1 C.2.1 dX0_advance_0 rfl (lv_at hl 1 rfl) ?_
  refine x_ci (x_runNs (As := [.int (iI v)]) (rest := []) C (by omega) cw_X0_37 (c_X11_fromOf l D ad G ids hI σ v ⟨by omega, by omega⟩) hM rfl rfl (Nat.le_of_ble_eq_true rfl) hl.1 dX0_advance_1) hM (fun r1 s1 H1 lc1 hp hM => ?_)
  obtain ⟨rfl, rfl⟩ := hp
  rw [if_neg (show ¬ v < 0 by omega)]
  refine lv_istore_n (lv' := [(2, .int (iI (v / 100))), (0, .ref (ad 1)), (1, .int (iI v))]) C.1 C.2.1 dX0_advance_4 rfl hl (by decide) rfl (fun ls hl => ?_)
  refine lv_iload_n C.1 C.2.1 dX0_advance_5 rfl (lv_at hl 2 rfl) ?_
  refine x_ci (x_runNs (As := [.int (iI v)]) (rest := []) C (by omega) cw_X0_41 (c_X11_toOf l D ad G ids hI σ v ⟨by omega, by omega⟩) hM rfl rfl (Nat.le_of_ble_eq_true rfl) hl.1 dX0_advance_6) hM (fun r6 s6 H1 lc1 hp hM => ?_)
  obtain ⟨rfl, rfl⟩ := hp
  rw [if_neg (show ¬ v < 0 by omega)]
  refine lv_istore_n (lv' := [(3, .int (iI (v % 100))), (2, .int (iI (v / 100))), (0, .ref (ad 1)), (1, .int (iI v))]) C.1 C.2.1 dX0_advance_9 rfl hl (by decide) rfl (fun ls hl => ?_)
  refine lv_aload_n C.1 C.2.1 dX0_advance_10 rfl (lv_at hl 2 rfl) ?_
  refine lv_iload_n C.1 C.2.1 dX0_advance_11 rfl (lv_at hl 1 rfl) ?_
  refine x_ci (x_runV (As := [.int (iI (v / 100))]) (rest := []) C (by omega) cw_X0_29 (c_X0_isField l D ad G ids hI σ (v / 100) ⟨by omega, by omega⟩ ⟨w1, w2, h1, h2⟩) hM (hI 1 (by decide)) (cx_1 ad G _) rfl rfl rfl rfl (Nat.le_of_ble_eq_true rfl) hl.1 dX0_advance_12) hM (fun r12 s12 H1 lc1 hp hM => ?_)
  obtain ⟨hbs12, rfl⟩ := hp
  obtain ⟨ts12, ks12⟩ := ite01 hbs12
  refine x_if_eq C ⟨by omega, by omega⟩ (tgt := 26) dX0_advance_15 (by decide) (fun c15 => ?_) (fun c15 => ?_)
  · exfalso; omega
  · refine lv_aload_n C.1 C.2.1 dX0_advance_18 rfl (lv_at hl 2 rfl) ?_
    refine lv_iload_n C.1 C.2.1 dX0_advance_19 rfl (lv_at hl 0 rfl) ?_
    refine x_ci (x_runV (As := [.int (iI (v % 100))]) (rest := []) C (by omega) cw_X0_29 (c_X0_isField l D ad G ids hI σ (v % 100) ⟨by omega, by omega⟩ ⟨w1, w2, h1, h2⟩) hM (hI 1 (by decide)) (cx_1 ad G _) rfl rfl rfl rfl (Nat.le_of_ble_eq_true rfl) hl.1 dX0_advance_20) hM (fun r20 s20 H1 lc1 hp hM => ?_)
    obtain ⟨hbs20, rfl⟩ := hp
    obtain ⟨ts20, ks20⟩ := ite01 hbs20
    refine x_if_ne C ⟨by omega, by omega⟩ (tgt := 28) dX0_advance_23 (by decide) (fun c23 => ?_) (fun c23 => ?_)
    · refine lv_aload_n C.1 C.2.1 dX0_advance_28 rfl (lv_at hl 2 rfl) ?_
      refine g_X0_0 C hM (hI 1 (by decide)) wf_X0_9 dX0_advance_29 ?_
      refine lv_iload_n C.1 C.2.1 dX0_advance_32 rfl (lv_at hl 0 rfl) ?_
      refine al_2 C hM (hI 2 (by decide)) (by omega) (by omega) dX0_advance_33 ?_
      refine lv_istore (lv' := [(4, .int (iI (σ 1 (v % 100)))), (3, .int (iI (v % 100))), (2, .int (iI (v / 100))), (0, .ref (ad 1)), (1, .int (iI v))]) C.1 C.2.1 dX0_advance_34 hl (by decide) rfl (fun ls hl => ?_)
      refine lv_aload_n C.1 C.2.1 dX0_advance_36 rfl (lv_at hl 3 rfl) ?_
      refine g_X0_0 C hM (hI 1 (by decide)) wf_X0_9 dX0_advance_37 ?_
      refine lv_iload_n C.1 C.2.1 dX0_advance_40 rfl (lv_at hl 1 rfl) ?_
      refine lv_aload_n C.1 C.2.1 dX0_advance_41 rfl (lv_at hl 3 rfl) ?_
      refine g_X0_0 C hM (hI 1 (by decide)) wf_X0_9 dX0_advance_42 ?_
      refine lv_iload_n C.1 C.2.1 dX0_advance_45 rfl (lv_at hl 2 rfl) ?_
      refine al_2 C hM (hI 2 (by decide)) (by omega) (by omega) dX0_advance_46 ?_
      refine as_2 C hM (hI 2 (by decide)) (by omega) (by omega) dX0_advance_47 (fun H1 lc1 hM => ?_)
      refine lv_aload_n C.1 C.2.1 dX0_advance_48 rfl (lv_at hl 3 rfl) ?_
      refine g_X0_0 C hM (hI 1 (by decide)) wf_X0_9 dX0_advance_49 ?_
      refine lv_iload_n C.1 C.2.1 dX0_advance_52 rfl (lv_at hl 2 rfl) ?_
      refine lv_iconst (v := iI 0) C.1 C.2.1 dX0_advance_53 (by decide) ?_
      refine as_2 C hM (hI 2 (by decide)) (by omega) (by omega) dX0_advance_54 (fun H1 lc1 hM => ?_)
      refine lv_aload_n C.1 C.2.1 dX0_advance_55 rfl (lv_at hl 3 rfl) ?_
      refine lv_iconst (v := iI 1) C.1 C.2.1 dX0_advance_56 (by decide) ?_
      refine lv_aload_n C.1 C.2.1 dX0_advance_57 rfl (lv_at hl 3 rfl) ?_
      refine g_X0_3 C hM (hI 1 (by decide)) wf_X0_26 dX0_advance_58 ?_
      rw [upr_ne _ _ (show (4 : Nat) ≠ 1 by omega)]
      rw [upr_ne _ _ (show (4 : Nat) ≠ 1 by omega)]
      refine x_isub C dX0_advance_61 ?_
      refine p_X0_3 C hM (hI 1 (by decide)) wf_X0_26 dX0_advance_62 (fun H1 lc1 hM => ?_)
      refine lv_iload C.1 C.2.1 dX0_advance_65 (lv_at hl 0 rfl) ?_
      exact x_iret C hr hM ⟨rfl, by unfold mvG; rw [upr_eq, upr_upr]; rfl⟩ dX0_advance_67
    · exfalso; omega
set_option maxRecDepth 100000 in
set_option maxHeartbeats 4000000 in
theorem c_X0_retreat (l : Launch) (D : va_G) (ad : Nat → Nat) (G : Nat → Nat) (ids : List Nat) (hI : ∀ k, k < 81 → k ∈ ids) (σ : Sg) (v t : Int) (hB : BG σ) (hs : σ 4 0 = 0 ∨ σ 4 0 = 1) (hv : 0 ≤ v ∧ v / 100 < σ 2 0 * σ 3 0 ∧ v % 100 < σ 2 0 * σ 3 0) : MET l yX0_retreat cX0_retreat 5 none 2 [.ref (ad 1), .int (iI v), .int (iI t)] D ad G ids σ (QV D ad G ids (fun σ' => unG σ v t = σ')) := by
  obtain ⟨w1, w2, h1, h2⟩ := hB
  have wb := wh_bd w1 w2 h1 h2
  refine x_enter (by decide) (Nat.le_of_ble_eq_true rfl) ?_
  intro pp ee ss mm args below meth cq C hr ls hl hM
  have hl : lv_has ls 5 [(0, .ref (ad 1)), (1, .int (iI v)), (2, .int (iI t))] := hl
  refine lv_iload_n C.1 C.2.1 dX0_retreat_0 rfl (lv_at hl 1 rfl) ?_
  refine x_ci (x_runNs (As := [.int (iI v)]) (rest := []) C (by omega) cw_X0_37 (c_X11_fromOf l D ad G ids hI σ v ⟨by omega, by omega⟩) hM rfl rfl (Nat.le_of_ble_eq_true rfl) hl.1 dX0_retreat_1) hM (fun r1 s1 H1 lc1 hp hM => ?_)
  obtain ⟨rfl, rfl⟩ := hp
  rw [if_neg (show ¬ v < 0 by omega)]
  refine lv_istore_n (lv' := [(3, .int (iI (v / 100))), (0, .ref (ad 1)), (1, .int (iI v)), (2, .int (iI t))]) C.1 C.2.1 dX0_retreat_4 rfl hl (by decide) rfl (fun ls hl => ?_)
  refine lv_iload_n C.1 C.2.1 dX0_retreat_5 rfl (lv_at hl 2 rfl) ?_
  refine x_ci (x_runNs (As := [.int (iI v)]) (rest := []) C (by omega) cw_X0_41 (c_X11_toOf l D ad G ids hI σ v ⟨by omega, by omega⟩) hM rfl rfl (Nat.le_of_ble_eq_true rfl) hl.1 dX0_retreat_6) hM (fun r6 s6 H1 lc1 hp hM => ?_)
  obtain ⟨rfl, rfl⟩ := hp
  rw [if_neg (show ¬ v < 0 by omega)]
  refine lv_istore (lv' := [(4, .int (iI (v % 100))), (3, .int (iI (v / 100))), (0, .ref (ad 1)), (1, .int (iI v)), (2, .int (iI t))]) C.1 C.2.1 dX0_retreat_9 hl (by decide) rfl (fun ls hl => ?_)
  refine lv_aload_n C.1 C.2.1 dX0_retreat_11 rfl (lv_at hl 2 rfl) ?_
  refine lv_iload_n C.1 C.2.1 dX0_retreat_12 rfl (lv_at hl 1 rfl) ?_
  refine x_ci (x_runV (As := [.int (iI (v / 100))]) (rest := []) C (by omega) cw_X0_29 (c_X0_isField l D ad G ids hI σ (v / 100) ⟨by omega, by omega⟩ ⟨w1, w2, h1, h2⟩) hM (hI 1 (by decide)) (cx_1 ad G _) rfl rfl rfl rfl (Nat.le_of_ble_eq_true rfl) hl.1 dX0_retreat_13) hM (fun r13 s13 H1 lc1 hp hM => ?_)
  obtain ⟨hbs13, rfl⟩ := hp
  obtain ⟨ts13, ks13⟩ := ite01 hbs13
  refine x_if_eq C ⟨by omega, by omega⟩ (tgt := 59) dX0_retreat_16 (by decide) (fun c16 => ?_) (fun c16 => ?_)
  · exfalso; omega
  · refine lv_aload_n C.1 C.2.1 dX0_retreat_19 rfl (lv_at hl 2 rfl) ?_
    refine lv_iload C.1 C.2.1 dX0_retreat_20 (lv_at hl 0 rfl) ?_
    refine x_ci (x_runV (As := [.int (iI (v % 100))]) (rest := []) C (by omega) cw_X0_29 (c_X0_isField l D ad G ids hI σ (v % 100) ⟨by omega, by omega⟩ ⟨w1, w2, h1, h2⟩) hM (hI 1 (by decide)) (cx_1 ad G _) rfl rfl rfl rfl (Nat.le_of_ble_eq_true rfl) hl.1 dX0_retreat_22) hM (fun r22 s22 H1 lc1 hp hM => ?_)
    obtain ⟨hbs22, rfl⟩ := hp
    obtain ⟨ts22, ks22⟩ := ite01 hbs22
    refine x_if_eq C ⟨by omega, by omega⟩ (tgt := 59) dX0_retreat_25 (by decide) (fun c25 => ?_) (fun c25 => ?_)
    · exfalso; omega
    · refine lv_aload_n C.1 C.2.1 dX0_retreat_28 rfl (lv_at hl 2 rfl) ?_
      refine g_X0_0 C hM (hI 1 (by decide)) wf_X0_9 dX0_retreat_29 ?_
      refine lv_iload_n C.1 C.2.1 dX0_retreat_32 rfl (lv_at hl 1 rfl) ?_
      refine lv_aload_n C.1 C.2.1 dX0_retreat_33 rfl (lv_at hl 2 rfl) ?_
      refine g_X0_0 C hM (hI 1 (by decide)) wf_X0_9 dX0_retreat_34 ?_
      refine lv_iload C.1 C.2.1 dX0_retreat_37 (lv_at hl 0 rfl) ?_
      refine al_2 C hM (hI 2 (by decide)) (by omega) (by omega) dX0_retreat_39 ?_
      refine as_2 C hM (hI 2 (by decide)) (by omega) (by omega) dX0_retreat_40 (fun H1 lc1 hM => ?_)
      refine lv_aload_n C.1 C.2.1 dX0_retreat_41 rfl (lv_at hl 2 rfl) ?_
      refine g_X0_0 C hM (hI 1 (by decide)) wf_X0_9 dX0_retreat_42 ?_
      refine lv_iload C.1 C.2.1 dX0_retreat_45 (lv_at hl 0 rfl) ?_
      refine lv_iload_n C.1 C.2.1 dX0_retreat_47 rfl (lv_at hl 4 rfl) ?_
      refine as_2 C hM (hI 2 (by decide)) (by omega) (by omega) dX0_retreat_48 (fun H1 lc1 hM => ?_)
      refine lv_aload_n C.1 C.2.1 dX0_retreat_49 rfl (lv_at hl 2 rfl) ?_
      refine lv_iconst (v := iI 1) C.1 C.2.1 dX0_retreat_50 (by decide) ?_
      refine lv_aload_n C.1 C.2.1 dX0_retreat_51 rfl (lv_at hl 2 rfl) ?_
      refine g_X0_3 C hM (hI 1 (by decide)) wf_X0_26 dX0_retreat_52 ?_
      rw [upr_ne _ _ (show (4 : Nat) ≠ 1 by omega)]
      rw [upr_ne _ _ (show (4 : Nat) ≠ 1 by omega)]
      refine x_isub C dX0_retreat_55 ?_
      refine p_X0_3 C hM (hI 1 (by decide)) wf_X0_26 dX0_retreat_56 (fun H1 lc1 hM => ?_)
      refine x_vret C hr hM ?_ dX0_retreat_59
      unfold unG; rw [upr_eq, upr_upr]; rfl
set_option maxRecDepth 100000 in
set_option maxHeartbeats 4000000 in
theorem c_X0_listSteps (l : Launch) (D : va_G) (ad : Nat → Nat) (G : Nat → Nat) (ids : List Nat) (hI : ∀ k, k < 81 → k ∈ ids) (σ : Sg) (j : Nat) (L : List Int) (r k : Int) (hj : j < 11) (hB : BG σ) (hC : BC (σ 1)) (hs : σ 4 0 = 0 ∨ σ 4 0 = 1) (hL : LM σ j L (σ 1)) (h15 : L.length ≤ 15) (hp : σ 1 (r * σ 2 0 + k) = σ 4 0 + 1) (hr0 : 0 ≤ r ∧ r < σ 3 0) (hk0 : 0 ≤ k ∧ k < σ 2 0) : MET l yX0_listSteps cX0_listSteps 7 none 2 [.ref (ad 1), .ref (ad (26 + 5 * j)), .int (iI r), .int (iI k)] D ad G ids σ (QV D ad G ids (fun σ' => OL j σ σ' ∧ LM σ' j (L ++ mf (σ 1) (σ 2 0) (σ 3 0) (σ 4 0) r k) (σ 1))) := by
  obtain ⟨w1, w2, h1, h2⟩ := hB
  have wb := wh_bd w1 w2 h1 h2
  have g1 := geo hr0.1 hr0.2 w1 w2 h2
  refine x_enter (by decide) (Nat.le_of_ble_eq_true rfl) ?_
  intro pp ee ss mm args below meth cq C hr ls hl hM
  have hl : lv_has ls 7 [(0, .ref (ad 1)), (1, .ref (ad (26 + 5 * j))), (2, .int (iI r)), (3, .int (iI k))] := hl
  refine lv_iload_n C.1 C.2.1 dX0_listSteps_0 rfl (lv_at hl 2 rfl) ?_
  refine lv_aload_n C.1 C.2.1 dX0_listSteps_1 rfl (lv_at hl 0 rfl) ?_
  refine g_X0_1 C hM (hI 1 (by decide)) wf_X0_19 dX0_listSteps_2 ?_
  refine x_imul C dX0_listSteps_5 ?_
  refine lv_iload_n C.1 C.2.1 dX0_listSteps_6 rfl (lv_at hl 3 rfl) ?_
  refine x_iadd C dX0_listSteps_7 ?_
  refine lv_istore (lv' := [(4, .int (iI ((r * (σ 2 0)) + k))), (0, .ref (ad 1)), (1, .ref (ad (26 + 5 * j))), (2, .int (iI r)), (3, .int (iI k))]) C.1 C.2.1 dX0_listSteps_8 hl (by decide) rfl (fun ls hl => ?_)
  refine lv_aload_n C.1 C.2.1 dX0_listSteps_10 rfl (lv_at hl 1 rfl) ?_
  refine g_X0_3 C hM (hI 1 (by decide)) wf_X0_26 dX0_listSteps_11 ?_
  refine x_if_ne C ⟨by omega, by omega⟩ (tgt := 27) dX0_listSteps_14 (by decide) (fun c14 => ?_) (fun c14 => ?_)
  · refine lv_iload C.1 C.2.1 dX0_listSteps_27 (lv_at hl 0 rfl) ?_
    refine lv_aload_n C.1 C.2.1 dX0_listSteps_29 rfl (lv_at hl 1 rfl) ?_
    refine g_X0_1 C hM (hI 1 (by decide)) wf_X0_19 dX0_listSteps_30 ?_
    refine x_isub C dX0_listSteps_33 ?_
    refine lv_istore (lv' := [(5, .int (iI (((r * (σ 2 0)) + k) - (σ 2 0)))), (4, .int (iI ((r * (σ 2 0)) + k))), (0, .ref (ad 1)), (1, .ref (ad (26 + 5 * j))), (2, .int (iI r)), (3, .int (iI k))]) C.1 C.2.1 dX0_listSteps_34 hl (by decide) rfl (fun ls hl => ?_)
    refine lv_iconst (v := iI (-1)) C.1 C.2.1 dX0_listSteps_36 (by decide) ?_
    refine lv_istore (lv' := [(6, .int (iI (-1))), (5, .int (iI (((r * (σ 2 0)) + k) - (σ 2 0)))), (4, .int (iI ((r * (σ 2 0)) + k))), (0, .ref (ad 1)), (1, .ref (ad (26 + 5 * j))), (2, .int (iI r)), (3, .int (iI k))]) C.1 C.2.1 dX0_listSteps_37 hl (by decide) rfl (fun ls hl => ?_)
    have L39 : ∀ (fu : Nat) (a : Int) (s1 : Sg) (H1 : Heap) (lc1 : List Loc) (ls1 : Array Slot), (-1 ≤ a ∧ a ≤ 2) → (OL j σ s1) → (LM s1 j (L ++ mfp (σ 1) (σ 2 0) (σ 3 0) (σ 4 0) r k a) (σ 1)) → (3 - a).toNat < fu → XI D ad G ids (AN ad ids ss.heap.size) ss.heap H1 lc1 s1 → lv_has ls1 7 [(6, .int (iI a)), (5, .int (iI (((r * (σ 2 0)) + k) - (σ 2 0)))), (4, .int (iI ((r * (σ 2 0)) + k))), (0, .ref (ad 1)), (1, .ref (ad (26 + 5 * j))), (2, .int (iI r)), (3, .int (iI k))] → W pp l ee (rmh 2) ss mm args below meth cq H1 lc1 0 0 (MQ below (QV D ad G ids (fun σ' => OL j σ σ' ∧ LM σ' j (L ++ mf (σ 1) (σ 2 0) (σ 3 0) (σ 4 0) r k) (σ 1)) ss.heap.size) args ss 0 0 (AN ad ids ss.heap.size)) (F0 mm 39 ls1 []) := by
      intro fu
      induction fu with
      | zero => intro a s1 H1 lc1 ls1 a0 ho hl1 hfu; exact absurd hfu (Nat.not_lt_zero _)
      | succ fu ih39 =>
        intro a s1 H1 lc1 ls1 a0 ho hl1 hfu hM hl
        refine lv_iload C.1 C.2.1 dX0_listSteps_39 (lv_at hl 0 rfl) ?_
        refine lv_iconst (v := iI 1) C.1 C.2.1 dX0_listSteps_41 (by decide) ?_
        refine x_icmp_gt C ⟨by omega, by omega⟩ ⟨by omega, by omega⟩ (tgt := 87) dX0_listSteps_42 (by decide) (fun c42 => ?_) (fun c42 => ?_)
        · exact x_vret C hr hM ⟨ho, by rw [mfp_3 _ _ _ _ _ _ (show 2 ≤ a by omega)] at hl1; exact hl1⟩ dX0_listSteps_87
        · have q1 := ho.lo (r := 1) (by decide)
          have q2 := ho.lo (r := 2) (by decide)
          have q3 := ho.lo (r := 3) (by decide)
          have q4 := ho.lo (r := 4) (by decide)
          have q20 := congrFun q2 0
          have q30 := congrFun q3 0
          have q40 := congrFun q4 0
          refine lv_aload_n C.1 C.2.1 dX0_listSteps_45 rfl (lv_at hl 3 rfl) ?_
          refine lv_iload_n C.1 C.2.1 dX0_listSteps_46 rfl (lv_at hl 5 rfl) ?_
          refine lv_iload_n C.1 C.2.1 dX0_listSteps_47 rfl (lv_at hl 6 rfl) ?_
          refine lv_iload C.1 C.2.1 dX0_listSteps_48 (lv_at hl 0 rfl) ?_
          refine x_ci (x_runV (As := [.int (iI r), .int (iI k), .int (iI a)]) (rest := []) C (by omega) cw_X0_60 (c_X0_canStep l D ad G ids hI s1 r k a (by rw [BG_of q2 q3]; exact ⟨w1, w2, h1, h2⟩) (by rw [q1]; exact hC) (by rw [q3]; omega) (by rw [q2]; omega) (by omega)) hM (hI 1 (by decide)) (cx_1 ad G _) rfl rfl rfl rfl (Nat.le_of_ble_eq_true rfl) hl.1 dX0_listSteps_50) hM (fun r50 s50 H1 lc1 hp hM => ?_)
          obtain ⟨hbs50, rfl⟩ := hp
          obtain ⟨ts50, ks50⟩ := bI01 hbs50
          rw [q1, q2, q3] at ks50
          refine x_if_eq C ⟨by omega, by omega⟩ (tgt := 81) dX0_listSteps_53 (by decide) (fun c53 => ?_) (fun c53 => ?_)
          · have hcs : ¬ canS (σ 1) (σ 2 0) (σ 3 0) r k a = true := fun q => (ks50.mpr q) c53
            refine x_iinc (lv1 := [(6, .int (iI (a + 1))), (5, .int (iI (((r * (σ 2 0)) + k) - (σ 2 0)))), (4, .int (iI ((r * (σ 2 0)) + k))), (0, .ref (ad 1)), (1, .ref (ad (26 + 5 * j))), (2, .int (iI r)), (3, .int (iI k))]) C dX0_listSteps_81 hl (k := 0) rfl (by decide) rfl (fun ls hl => ?_)
            refine lv_goto (tgt := 39) C.1 C.2.1 dX0_listSteps_84 (by decide) ?_
            exact ih39 (a + 1) s1 _ _ _ (by omega) ho (by rw [mfp_s _ _ _ _ _ _ a0.1 (by omega), show mv1 (σ 1) (σ 2 0) (σ 3 0) (σ 4 0) r k a = [] from if_neg hcs, List.append_nil]; exact hl1) (by omega) hM (lv_sub hl [0, 1, 2, 3, 4, 5, 6] rfl)
          · have hcs := ks50.mp c53
            refine lv_aload_n C.1 C.2.1 dX0_listSteps_56 rfl (lv_at hl 4 rfl) ?_
            refine lv_iload C.1 C.2.1 dX0_listSteps_57 (lv_at hl 2 rfl) ?_
            refine lv_bipush (v := iI 100) C.1 C.2.1 dX0_listSteps_59 (by decide) ?_
            refine x_imul C dX0_listSteps_61 ?_
            refine lv_iload C.1 C.2.1 dX0_listSteps_62 (lv_at hl 1 rfl) ?_
            refine x_iadd C dX0_listSteps_64 ?_
            refine lv_iload C.1 C.2.1 dX0_listSteps_65 (lv_at hl 0 rfl) ?_
            refine x_iadd C dX0_listSteps_67 ?_
            refine lv_iload C.1 C.2.1 dX0_listSteps_68 (lv_at hl 0 rfl) ?_
            refine x_if_eq C ⟨by omega, by omega⟩ (tgt := 77) dX0_listSteps_70 (by decide) (fun c70 => ?_) (fun c70 => ?_)
            · refine lv_iconst (v := iI 0) C.1 C.2.1 dX0_listSteps_77 (by decide) ?_
              have hvv : ((((r * (σ 2 0)) + k) * 100) + (((r * (σ 2 0)) + k) - (σ 2 0))) + a = (r * σ 2 0 + k) * 100 + (r * σ 2 0 + k + (if σ 4 0 = 0 then σ 2 0 else -σ 2 0)) + a := by rw [if_neg (by omega)] <;> omega
              have hfl := mv_flag hs hp hcs hr0.1 hr0.2 w1 w2 h2 (by omega) hvv
              refine x_cv (x_runV (As := [.int (iI (((((r * (σ 2 0)) + k) * 100) + (((r * (σ 2 0)) + k) - (σ 2 0))) + a)), .int (iI 0)]) (rest := []) C (by omega) cw_X0_64 (c_X5_add l D ad G ids hI s1 j (L ++ mfp (σ 1) (σ 2 0) (σ 3 0) (σ 4 0) r k a) (σ 1) (((((r * (σ 2 0)) + k) * 100) + (((r * (σ 2 0)) + k) - (σ 2 0))) + a) 0 hj hl1 (by have := mfp_len (σ 1) (σ 2 0) (σ 3 0) (σ 4 0) r k a0.1 (by omega); rw [List.length_append]; omega) (by rw [hfl, if_pos (by omega)])) hM (hI _ (by omega)) (cx_lo ad G _ hj) rfl rfl rfl rfl (Nat.le_of_ble_eq_true rfl) hl.1 dX0_listSteps_78) hM (fun s78 H1 lc1 hp hM => ?_)
              obtain ⟨hos78, hLs78⟩ := hp
              refine x_iinc (lv1 := [(6, .int (iI (a + 1))), (5, .int (iI (((r * (σ 2 0)) + k) - (σ 2 0)))), (4, .int (iI ((r * (σ 2 0)) + k))), (0, .ref (ad 1)), (1, .ref (ad (26 + 5 * j))), (2, .int (iI r)), (3, .int (iI k))]) C dX0_listSteps_81 hl (k := 0) rfl (by decide) rfl (fun ls hl => ?_)
              refine lv_goto (tgt := 39) C.1 C.2.1 dX0_listSteps_84 (by decide) ?_
              exact ih39 (a + 1) s78 _ _ _ (by omega) (ho.tr hos78) (by rw [mfp_s _ _ _ _ _ _ a0.1 (by omega), ← List.append_assoc, show mv1 (σ 1) (σ 2 0) (σ 3 0) (σ 4 0) r k a = [_] from if_pos hcs, ← hvv]; exact hLs78) (by omega) hM (lv_sub hl [0, 1, 2, 3, 4, 5, 6] rfl)
            · refine lv_iconst (v := iI 1) C.1 C.2.1 dX0_listSteps_73 (by decide) ?_
              refine lv_goto (tgt := 78) C.1 C.2.1 dX0_listSteps_74 (by decide) ?_
              have hvv : ((((r * (σ 2 0)) + k) * 100) + (((r * (σ 2 0)) + k) - (σ 2 0))) + a = (r * σ 2 0 + k) * 100 + (r * σ 2 0 + k + (if σ 4 0 = 0 then σ 2 0 else -σ 2 0)) + a := by rw [if_neg (by omega)] <;> omega
              have hfl := mv_flag hs hp hcs hr0.1 hr0.2 w1 w2 h2 (by omega) hvv
              refine x_cv (x_runV (As := [.int (iI (((((r * (σ 2 0)) + k) * 100) + (((r * (σ 2 0)) + k) - (σ 2 0))) + a)), .int (iI 1)]) (rest := []) C (by omega) cw_X0_64 (c_X5_add l D ad G ids hI s1 j (L ++ mfp (σ 1) (σ 2 0) (σ 3 0) (σ 4 0) r k a) (σ 1) (((((r * (σ 2 0)) + k) * 100) + (((r * (σ 2 0)) + k) - (σ 2 0))) + a) 1 hj hl1 (by have := mfp_len (σ 1) (σ 2 0) (σ 3 0) (σ 4 0) r k a0.1 (by omega); rw [List.length_append]; omega) (by rw [hfl, if_neg (by omega)])) hM (hI _ (by omega)) (cx_lo ad G _ hj) rfl rfl rfl rfl (Nat.le_of_ble_eq_true rfl) hl.1 dX0_listSteps_78) hM (fun s78 H1 lc1 hp hM => ?_)
              obtain ⟨hos78, hLs78⟩ := hp
              refine x_iinc (lv1 := [(6, .int (iI (a + 1))), (5, .int (iI (((r * (σ 2 0)) + k) - (σ 2 0)))), (4, .int (iI ((r * (σ 2 0)) + k))), (0, .ref (ad 1)), (1, .ref (ad (26 + 5 * j))), (2, .int (iI r)), (3, .int (iI k))]) C dX0_listSteps_81 hl (k := 0) rfl (by decide) rfl (fun ls hl => ?_)
              refine lv_goto (tgt := 39) C.1 C.2.1 dX0_listSteps_84 (by decide) ?_
              exact ih39 (a + 1) s78 _ _ _ (by omega) (ho.tr hos78) (by rw [mfp_s _ _ _ _ _ _ a0.1 (by omega), ← List.append_assoc, show mv1 (σ 1) (σ 2 0) (σ 3 0) (σ 4 0) r k a = [_] from if_pos hcs, ← hvv]; exact hLs78) (by omega) hM (lv_sub hl [0, 1, 2, 3, 4, 5, 6] rfl)
    exact L39 _ (-1) σ _ _ _ (by omega) OL.rf (by rw [mfp_0, List.append_nil]; exact hL) (Nat.lt_succ_self _) hM (lv_sub hl [0, 1, 2, 3, 4, 5, 6] rfl)
  · refine lv_iload C.1 C.2.1 dX0_listSteps_17 (lv_at hl 0 rfl) ?_
    refine lv_aload_n C.1 C.2.1 dX0_listSteps_19 rfl (lv_at hl 1 rfl) ?_
    refine g_X0_1 C hM (hI 1 (by decide)) wf_X0_19 dX0_listSteps_20 ?_
    refine x_iadd C dX0_listSteps_23 ?_
    refine lv_goto (tgt := 34) C.1 C.2.1 dX0_listSteps_24 (by decide) ?_
    refine lv_istore (lv' := [(5, .int (iI (((r * (σ 2 0)) + k) + (σ 2 0)))), (4, .int (iI ((r * (σ 2 0)) + k))), (0, .ref (ad 1)), (1, .ref (ad (26 + 5 * j))), (2, .int (iI r)), (3, .int (iI k))]) C.1 C.2.1 dX0_listSteps_34 hl (by decide) rfl (fun ls hl => ?_)
    refine lv_iconst (v := iI (-1)) C.1 C.2.1 dX0_listSteps_36 (by decide) ?_
    refine lv_istore (lv' := [(6, .int (iI (-1))), (5, .int (iI (((r * (σ 2 0)) + k) + (σ 2 0)))), (4, .int (iI ((r * (σ 2 0)) + k))), (0, .ref (ad 1)), (1, .ref (ad (26 + 5 * j))), (2, .int (iI r)), (3, .int (iI k))]) C.1 C.2.1 dX0_listSteps_37 hl (by decide) rfl (fun ls hl => ?_)
    have L39 : ∀ (fu : Nat) (a : Int) (s1 : Sg) (H1 : Heap) (lc1 : List Loc) (ls1 : Array Slot), (-1 ≤ a ∧ a ≤ 2) → (OL j σ s1) → (LM s1 j (L ++ mfp (σ 1) (σ 2 0) (σ 3 0) (σ 4 0) r k a) (σ 1)) → (3 - a).toNat < fu → XI D ad G ids (AN ad ids ss.heap.size) ss.heap H1 lc1 s1 → lv_has ls1 7 [(6, .int (iI a)), (5, .int (iI (((r * (σ 2 0)) + k) + (σ 2 0)))), (4, .int (iI ((r * (σ 2 0)) + k))), (0, .ref (ad 1)), (1, .ref (ad (26 + 5 * j))), (2, .int (iI r)), (3, .int (iI k))] → W pp l ee (rmh 2) ss mm args below meth cq H1 lc1 0 0 (MQ below (QV D ad G ids (fun σ' => OL j σ σ' ∧ LM σ' j (L ++ mf (σ 1) (σ 2 0) (σ 3 0) (σ 4 0) r k) (σ 1)) ss.heap.size) args ss 0 0 (AN ad ids ss.heap.size)) (F0 mm 39 ls1 []) := by
      intro fu
      induction fu with
      | zero => intro a s1 H1 lc1 ls1 a0 ho hl1 hfu; exact absurd hfu (Nat.not_lt_zero _)
      | succ fu ih39 =>
        intro a s1 H1 lc1 ls1 a0 ho hl1 hfu hM hl
        refine lv_iload C.1 C.2.1 dX0_listSteps_39 (lv_at hl 0 rfl) ?_
        refine lv_iconst (v := iI 1) C.1 C.2.1 dX0_listSteps_41 (by decide) ?_
        refine x_icmp_gt C ⟨by omega, by omega⟩ ⟨by omega, by omega⟩ (tgt := 87) dX0_listSteps_42 (by decide) (fun c42 => ?_) (fun c42 => ?_)
        · exact x_vret C hr hM ⟨ho, by rw [mfp_3 _ _ _ _ _ _ (show 2 ≤ a by omega)] at hl1; exact hl1⟩ dX0_listSteps_87
        · have q1 := ho.lo (r := 1) (by decide)
          have q2 := ho.lo (r := 2) (by decide)
          have q3 := ho.lo (r := 3) (by decide)
          have q4 := ho.lo (r := 4) (by decide)
          have q20 := congrFun q2 0
          have q30 := congrFun q3 0
          have q40 := congrFun q4 0
          refine lv_aload_n C.1 C.2.1 dX0_listSteps_45 rfl (lv_at hl 3 rfl) ?_
          refine lv_iload_n C.1 C.2.1 dX0_listSteps_46 rfl (lv_at hl 5 rfl) ?_
          refine lv_iload_n C.1 C.2.1 dX0_listSteps_47 rfl (lv_at hl 6 rfl) ?_
          refine lv_iload C.1 C.2.1 dX0_listSteps_48 (lv_at hl 0 rfl) ?_
          refine x_ci (x_runV (As := [.int (iI r), .int (iI k), .int (iI a)]) (rest := []) C (by omega) cw_X0_60 (c_X0_canStep l D ad G ids hI s1 r k a (by rw [BG_of q2 q3]; exact ⟨w1, w2, h1, h2⟩) (by rw [q1]; exact hC) (by rw [q3]; omega) (by rw [q2]; omega) (by omega)) hM (hI 1 (by decide)) (cx_1 ad G _) rfl rfl rfl rfl (Nat.le_of_ble_eq_true rfl) hl.1 dX0_listSteps_50) hM (fun r50 s50 H1 lc1 hp hM => ?_)
          obtain ⟨hbs50, rfl⟩ := hp
          obtain ⟨ts50, ks50⟩ := bI01 hbs50
          rw [q1, q2, q3] at ks50
          refine x_if_eq C ⟨by omega, by omega⟩ (tgt := 81) dX0_listSteps_53 (by decide) (fun c53 => ?_) (fun c53 => ?_)
          · have hcs : ¬ canS (σ 1) (σ 2 0) (σ 3 0) r k a = true := fun q => (ks50.mpr q) c53
            refine x_iinc (lv1 := [(6, .int (iI (a + 1))), (5, .int (iI (((r * (σ 2 0)) + k) + (σ 2 0)))), (4, .int (iI ((r * (σ 2 0)) + k))), (0, .ref (ad 1)), (1, .ref (ad (26 + 5 * j))), (2, .int (iI r)), (3, .int (iI k))]) C dX0_listSteps_81 hl (k := 0) rfl (by decide) rfl (fun ls hl => ?_)
            refine lv_goto (tgt := 39) C.1 C.2.1 dX0_listSteps_84 (by decide) ?_
            exact ih39 (a + 1) s1 _ _ _ (by omega) ho (by rw [mfp_s _ _ _ _ _ _ a0.1 (by omega), show mv1 (σ 1) (σ 2 0) (σ 3 0) (σ 4 0) r k a = [] from if_neg hcs, List.append_nil]; exact hl1) (by omega) hM (lv_sub hl [0, 1, 2, 3, 4, 5, 6] rfl)
          · have hcs := ks50.mp c53
            refine lv_aload_n C.1 C.2.1 dX0_listSteps_56 rfl (lv_at hl 4 rfl) ?_
            refine lv_iload C.1 C.2.1 dX0_listSteps_57 (lv_at hl 2 rfl) ?_
            refine lv_bipush (v := iI 100) C.1 C.2.1 dX0_listSteps_59 (by decide) ?_
            refine x_imul C dX0_listSteps_61 ?_
            refine lv_iload C.1 C.2.1 dX0_listSteps_62 (lv_at hl 1 rfl) ?_
            refine x_iadd C dX0_listSteps_64 ?_
            refine lv_iload C.1 C.2.1 dX0_listSteps_65 (lv_at hl 0 rfl) ?_
            refine x_iadd C dX0_listSteps_67 ?_
            refine lv_iload C.1 C.2.1 dX0_listSteps_68 (lv_at hl 0 rfl) ?_
            refine x_if_eq C ⟨by omega, by omega⟩ (tgt := 77) dX0_listSteps_70 (by decide) (fun c70 => ?_) (fun c70 => ?_)
            · refine lv_iconst (v := iI 0) C.1 C.2.1 dX0_listSteps_77 (by decide) ?_
              have hvv : ((((r * (σ 2 0)) + k) * 100) + (((r * (σ 2 0)) + k) + (σ 2 0))) + a = (r * σ 2 0 + k) * 100 + (r * σ 2 0 + k + (if σ 4 0 = 0 then σ 2 0 else -σ 2 0)) + a := by rw [if_pos (by omega)] <;> omega
              have hfl := mv_flag hs hp hcs hr0.1 hr0.2 w1 w2 h2 (by omega) hvv
              refine x_cv (x_runV (As := [.int (iI (((((r * (σ 2 0)) + k) * 100) + (((r * (σ 2 0)) + k) + (σ 2 0))) + a)), .int (iI 0)]) (rest := []) C (by omega) cw_X0_64 (c_X5_add l D ad G ids hI s1 j (L ++ mfp (σ 1) (σ 2 0) (σ 3 0) (σ 4 0) r k a) (σ 1) (((((r * (σ 2 0)) + k) * 100) + (((r * (σ 2 0)) + k) + (σ 2 0))) + a) 0 hj hl1 (by have := mfp_len (σ 1) (σ 2 0) (σ 3 0) (σ 4 0) r k a0.1 (by omega); rw [List.length_append]; omega) (by rw [hfl, if_pos (by omega)])) hM (hI _ (by omega)) (cx_lo ad G _ hj) rfl rfl rfl rfl (Nat.le_of_ble_eq_true rfl) hl.1 dX0_listSteps_78) hM (fun s78 H1 lc1 hp hM => ?_)
              obtain ⟨hos78, hLs78⟩ := hp
              refine x_iinc (lv1 := [(6, .int (iI (a + 1))), (5, .int (iI (((r * (σ 2 0)) + k) + (σ 2 0)))), (4, .int (iI ((r * (σ 2 0)) + k))), (0, .ref (ad 1)), (1, .ref (ad (26 + 5 * j))), (2, .int (iI r)), (3, .int (iI k))]) C dX0_listSteps_81 hl (k := 0) rfl (by decide) rfl (fun ls hl => ?_)
              refine lv_goto (tgt := 39) C.1 C.2.1 dX0_listSteps_84 (by decide) ?_
              exact ih39 (a + 1) s78 _ _ _ (by omega) (ho.tr hos78) (by rw [mfp_s _ _ _ _ _ _ a0.1 (by omega), ← List.append_assoc, show mv1 (σ 1) (σ 2 0) (σ 3 0) (σ 4 0) r k a = [_] from if_pos hcs, ← hvv]; exact hLs78) (by omega) hM (lv_sub hl [0, 1, 2, 3, 4, 5, 6] rfl)
            · refine lv_iconst (v := iI 1) C.1 C.2.1 dX0_listSteps_73 (by decide) ?_
              refine lv_goto (tgt := 78) C.1 C.2.1 dX0_listSteps_74 (by decide) ?_
              have hvv : ((((r * (σ 2 0)) + k) * 100) + (((r * (σ 2 0)) + k) + (σ 2 0))) + a = (r * σ 2 0 + k) * 100 + (r * σ 2 0 + k + (if σ 4 0 = 0 then σ 2 0 else -σ 2 0)) + a := by rw [if_pos (by omega)] <;> omega
              have hfl := mv_flag hs hp hcs hr0.1 hr0.2 w1 w2 h2 (by omega) hvv
              refine x_cv (x_runV (As := [.int (iI (((((r * (σ 2 0)) + k) * 100) + (((r * (σ 2 0)) + k) + (σ 2 0))) + a)), .int (iI 1)]) (rest := []) C (by omega) cw_X0_64 (c_X5_add l D ad G ids hI s1 j (L ++ mfp (σ 1) (σ 2 0) (σ 3 0) (σ 4 0) r k a) (σ 1) (((((r * (σ 2 0)) + k) * 100) + (((r * (σ 2 0)) + k) + (σ 2 0))) + a) 1 hj hl1 (by have := mfp_len (σ 1) (σ 2 0) (σ 3 0) (σ 4 0) r k a0.1 (by omega); rw [List.length_append]; omega) (by rw [hfl, if_neg (by omega)])) hM (hI _ (by omega)) (cx_lo ad G _ hj) rfl rfl rfl rfl (Nat.le_of_ble_eq_true rfl) hl.1 dX0_listSteps_78) hM (fun s78 H1 lc1 hp hM => ?_)
              obtain ⟨hos78, hLs78⟩ := hp
              refine x_iinc (lv1 := [(6, .int (iI (a + 1))), (5, .int (iI (((r * (σ 2 0)) + k) + (σ 2 0)))), (4, .int (iI ((r * (σ 2 0)) + k))), (0, .ref (ad 1)), (1, .ref (ad (26 + 5 * j))), (2, .int (iI r)), (3, .int (iI k))]) C dX0_listSteps_81 hl (k := 0) rfl (by decide) rfl (fun ls hl => ?_)
              refine lv_goto (tgt := 39) C.1 C.2.1 dX0_listSteps_84 (by decide) ?_
              exact ih39 (a + 1) s78 _ _ _ (by omega) (ho.tr hos78) (by rw [mfp_s _ _ _ _ _ _ a0.1 (by omega), ← List.append_assoc, show mv1 (σ 1) (σ 2 0) (σ 3 0) (σ 4 0) r k a = [_] from if_pos hcs, ← hvv]; exact hLs78) (by omega) hM (lv_sub hl [0, 1, 2, 3, 4, 5, 6] rfl)
    exact L39 _ (-1) σ _ _ _ (by omega) OL.rf (by rw [mfp_0, List.append_nil]; exact hL) (Nat.lt_succ_self _) hM (lv_sub hl [0, 1, 2, 3, 4, 5, 6] rfl)
set_option maxRecDepth 100000 in
set_option maxHeartbeats 4000000 in
theorem c_X0_listMoves (l : Launch) (D : va_G) (ad : Nat → Nat) (G : Nat → Nat) (ids : List Nat) (hI : ∀ k, k < 81 → k ∈ ids) (σ : Sg) (j : Nat) (hj : j < 11) (hB : BG σ) (hC : BC (σ 1)) (hs : σ 4 0 = 0 ∨ σ 4 0 = 1) (hPW : PW (σ 1)) : MET l yX0_listMoves cX0_listMoves 4 none 3 [.ref (ad 1), .ref (ad (26 + 5 * j))] D ad G ids σ (QV D ad G ids (fun σ' => OL j σ σ' ∧ LM σ' j (MLs (σ 1) (σ 2 0) (σ 3 0) (σ 4 0)) (σ 1))) := by
  obtain ⟨w1, w2, h1, h2⟩ := hB
  have wb := wh_bd w1 w2 h1 h2
  refine x_enter (by decide) (Nat.le_of_ble_eq_true rfl) ?_
  intro pp ee ss mm args below meth cq C hr ls hl hM
  have hl : lv_has ls 4 [(0, .ref (ad 1)), (1, .ref (ad (26 + 5 * j)))] := hl
  refine lv_aload_n C.1 C.2.1 dX0_listMoves_0 rfl (lv_at hl 1 rfl) ?_
  refine x_cv (x_runV (As := []) (rest := []) C (by omega) cw_X0_44 (c_X5_clear l D ad G ids hI σ j hj) hM (hI _ (by omega)) (cx_lo ad G _ hj) rfl rfl rfl rfl (Nat.le_of_ble_eq_true rfl) hl.1 dX0_listMoves_1) hM (fun s1 H1 lc1 hp hM => ?_)
  obtain ⟨hos1, hLs1⟩ := hp
  have q1 := hos1.lo (r := 1) (by decide)
  have q2 := hos1.lo (r := 2) (by decide)
  have q3 := hos1.lo (r := 3) (by decide)
  have q4 := hos1.lo (r := 4) (by decide)
  have q20 := congrFun q2 0
  have q30 := congrFun q3 0
  have q40 := congrFun q4 0
  refine lv_aload_n C.1 C.2.1 dX0_listMoves_4 rfl (lv_at hl 0 rfl) ?_
  refine x_ci (x_runV (As := []) (rest := []) C (by omega) cw_X0_49 (c_X0_isOtherThrough l D ad G ids hI s1 (by rw [BG_of q2 q3]; exact ⟨w1, w2, h1, h2⟩) (by rw [q1]; exact hC) (by rw [q4]; exact hs)) hM (hI 1 (by decide)) (cx_1 ad G _) rfl rfl rfl rfl (Nat.le_of_ble_eq_true rfl) hl.1 dX0_listMoves_5) hM (fun r5 s5 H1 lc1 hp hM => ?_)
  obtain ⟨hbs5, rfl⟩ := hp
  obtain ⟨ts5, ks5⟩ := bI01 hbs5
  rw [q1, q2, q3, q4] at ks5
  refine x_if_eq C ⟨by omega, by omega⟩ (tgt := 12) dX0_listMoves_8 (by decide) (fun c8 => ?_) (fun c8 => ?_)
  · have hth : ¬ thru (σ 1) (σ 2 0) (σ 3 0) (σ 4 0) = true := fun q => (ks5.mpr q) c8
    refine lv_iconst (v := iI 0) C.1 C.2.1 dX0_listMoves_12 (by decide) ?_
    refine lv_istore_n (lv' := [(2, .int (iI 0)), (0, .ref (ad 1)), (1, .ref (ad (26 + 5 * j)))]) C.1 C.2.1 dX0_listMoves_13 rfl hl (by decide) rfl (fun ls hl => ?_)
    have L14 : ∀ (fu : Nat) (r : Int) (s1 : Sg) (H1 : Heap) (lc1 : List Loc) (ls1 : Array Slot), (0 ≤ r ∧ r ≤ σ 3 0) → (OL j σ s1) → (LM s1 j (mvs (σ 1) (σ 2 0) (σ 3 0) (σ 4 0) (r * σ 2 0).toNat) (σ 1)) → (6 - r).toNat < fu → XI D ad G ids (AN ad ids ss.heap.size) ss.heap H1 lc1 s1 → lv_has ls1 4 [(2, .int (iI r)), (0, .ref (ad 1)), (1, .ref (ad (26 + 5 * j)))] → W pp l ee (rmh 3) ss mm args below meth cq H1 lc1 0 0 (MQ below (QV D ad G ids (fun σ' => OL j σ σ' ∧ LM σ' j (MLs (σ 1) (σ 2 0) (σ 3 0) (σ 4 0)) (σ 1)) ss.heap.size) args ss 0 0 (AN ad ids ss.heap.size)) (F0 mm 14 ls1 []) := by
      intro fu
      induction fu with
      | zero => intro r s1 H1 lc1 ls1 r0 ho hl1 hfu; exact absurd hfu (Nat.not_lt_zero _)
      | succ fu ih14 =>
        intro r s1 H1 lc1 ls1 r0 ho hl1 hfu hM hl
        refine lv_iload_n C.1 C.2.1 dX0_listMoves_14 rfl (lv_at hl 0 rfl) ?_
        refine lv_aload_n C.1 C.2.1 dX0_listMoves_15 rfl (lv_at hl 1 rfl) ?_
        have q1 := ho.lo (r := 1) (by decide)
        have q2 := ho.lo (r := 2) (by decide)
        have q3 := ho.lo (r := 3) (by decide)
        have q4 := ho.lo (r := 4) (by decide)
        have q20 := congrFun q2 0
        have q30 := congrFun q3 0
        have q40 := congrFun q4 0
        refine g_X0_2 C hM (hI 1 (by decide)) wf_X0_23 dX0_listMoves_16 ?_
        refine x_icmp_ge C ⟨by omega, by omega⟩ ⟨by omega, by omega⟩ (tgt := 72) dX0_listMoves_19 (by decide) (fun c19 => ?_) (fun c19 => ?_)
        · rw [q3] at c19
          exact x_vret C hr hM ⟨ho, by unfold MLs; rw [if_neg hth, ← wb.2.2.1, show σ 3 0 * σ 2 0 = r * σ 2 0 by rw [show r = σ 3 0 by omega]]; exact hl1⟩ dX0_listMoves_72
        · have g1 := geo r0.1 (show r < σ 3 0 by rw [q3] at c19; omega) w1 w2 h2
          refine lv_iconst (v := iI 0) C.1 C.2.1 dX0_listMoves_22 (by decide) ?_
          refine lv_istore_n (lv' := [(3, .int (iI 0)), (2, .int (iI r)), (0, .ref (ad 1)), (1, .ref (ad (26 + 5 * j)))]) C.1 C.2.1 dX0_listMoves_23 rfl hl (by decide) rfl (fun ls hl => ?_)
          have L24 : ∀ (fu : Nat) (k : Int) (t1 : Sg) (H1 : Heap) (lc1 : List Loc) (ls1 : Array Slot), (0 ≤ k ∧ k ≤ σ 2 0) → (OL j σ t1) → (LM t1 j (mvs (σ 1) (σ 2 0) (σ 3 0) (σ 4 0) (r * σ 2 0 + k).toNat) (σ 1)) → (6 - k).toNat < fu → XI D ad G ids (AN ad ids ss.heap.size) ss.heap H1 lc1 t1 → lv_has ls1 4 [(3, .int (iI k)), (2, .int (iI r)), (0, .ref (ad 1)), (1, .ref (ad (26 + 5 * j)))] → W pp l ee (rmh 3) ss mm args below meth cq H1 lc1 0 0 (MQ below (QV D ad G ids (fun σ' => OL j σ σ' ∧ LM σ' j (MLs (σ 1) (σ 2 0) (σ 3 0) (σ 4 0)) (σ 1)) ss.heap.size) args ss 0 0 (AN ad ids ss.heap.size)) (F0 mm 24 ls1 []) := by
            intro fu
            induction fu with
            | zero => intro k t1 H1 lc1 ls1 k0 ho2 hl2 hfu; exact absurd hfu (Nat.not_lt_zero _)
            | succ fu ih24 =>
              intro k t1 H1 lc1 ls1 k0 ho2 hl2 hfu hM hl
              refine lv_iload_n C.1 C.2.1 dX0_listMoves_24 rfl (lv_at hl 0 rfl) ?_
              refine lv_aload_n C.1 C.2.1 dX0_listMoves_25 rfl (lv_at hl 2 rfl) ?_
              have p1 := ho2.lo (r := 1) (by decide)
              have p2 := ho2.lo (r := 2) (by decide)
              have p3 := ho2.lo (r := 3) (by decide)
              have p4 := ho2.lo (r := 4) (by decide)
              have p20 := congrFun p2 0
              have p30 := congrFun p3 0
              have p40 := congrFun p4 0
              refine g_X0_1 C hM (hI 1 (by decide)) wf_X0_19 dX0_listMoves_26 ?_
              refine x_icmp_ge C ⟨by omega, by omega⟩ ⟨by omega, by omega⟩ (tgt := 66) dX0_listMoves_29 (by decide) (fun c29 => ?_) (fun c29 => ?_)
              · rw [p2] at c29
                refine x_iinc (lv1 := [(2, .int (iI (r + 1))), (3, .int (iI k)), (0, .ref (ad 1)), (1, .ref (ad (26 + 5 * j)))]) C dX0_listMoves_66 hl (k := 1) rfl (by decide) rfl (fun ls hl => ?_)
                refine lv_goto (tgt := 14) C.1 C.2.1 dX0_listMoves_69 (by decide) ?_
                exact ih14 (r + 1) t1 _ _ _ (by omega) ho2 (by rw [g1.2.2.2.1, show r * σ 2 0 + σ 2 0 = r * σ 2 0 + k by omega]; exact hl2) (by omega) hM (lv_sub hl [0, 2, 3] rfl)
              · rw [p2] at c29
                have f0 : r * t1 2 0 + k = r * σ 2 0 + k := by rw [p2]
                have hc := hC (r * σ 2 0 + k)
                refine lv_aload_n C.1 C.2.1 dX0_listMoves_32 rfl (lv_at hl 2 rfl) ?_
                refine lv_iload_n C.1 C.2.1 dX0_listMoves_33 rfl (lv_at hl 1 rfl) ?_
                refine lv_aload_n C.1 C.2.1 dX0_listMoves_34 rfl (lv_at hl 2 rfl) ?_
                refine g_X0_1 C hM (hI 1 (by decide)) wf_X0_19 dX0_listMoves_35 ?_
                refine x_imul C dX0_listMoves_38 ?_
                refine lv_iload_n C.1 C.2.1 dX0_listMoves_39 rfl (lv_at hl 0 rfl) ?_
                refine x_iadd C dX0_listMoves_40 ?_
                refine x_ci (x_runV (As := [.int (iI ((r * (t1 2 0)) + k))]) (rest := []) C (by omega) cw_X0_53 (c_X0_pawnAt l D ad G ids hI t1 ((r * (t1 2 0)) + k) ⟨by omega, by omega⟩) hM (hI 1 (by decide)) (cx_1 ad G _) rfl rfl rfl rfl (Nat.le_of_ble_eq_true rfl) hl.1 dX0_listMoves_41) hM (fun r41 s41 H1 lc1 hp hM => ?_)
                obtain ⟨rfl, rfl⟩ := hp
                rw [if_pos (show 0 ≤ ((r * (t1 2 0)) + k) ∧ ((r * (t1 2 0)) + k) < 25 by omega)]
                refine lv_aload_n C.1 C.2.1 dX0_listMoves_44 rfl (lv_at hl 2 rfl) ?_
                refine g_X0_3 C hM (hI 1 (by decide)) wf_X0_26 dX0_listMoves_45 ?_
                refine lv_iconst (v := iI 1) C.1 C.2.1 dX0_listMoves_48 (by decide) ?_
                refine x_iadd C dX0_listMoves_49 ?_
                rw [f0, p1, p4]
                refine x_icmp_ne C ⟨by omega, by omega⟩ ⟨by omega, by omega⟩ (tgt := 60) dX0_listMoves_50 (by decide) (fun c50 => ?_) (fun c50 => ?_)
                · refine x_iinc (lv1 := [(3, .int (iI (k + 1))), (2, .int (iI r)), (0, .ref (ad 1)), (1, .ref (ad (26 + 5 * j)))]) C dX0_listMoves_60 hl (k := 0) rfl (by decide) rfl (fun ls hl => ?_)
                  refine lv_goto (tgt := 24) C.1 C.2.1 dX0_listMoves_63 (by decide) ?_
                  exact ih24 (k + 1) t1 _ _ _ (by omega) ho2 (by rw [← Int.add_assoc, mvs_s _ g1.1 k0.1 (by omega), if_neg (by omega), List.append_nil]; exact hl2) (by omega) hM (lv_sub hl [0, 1, 2, 3] rfl)
                · refine lv_aload_n C.1 C.2.1 dX0_listMoves_53 rfl (lv_at hl 2 rfl) ?_
                  refine lv_aload_n C.1 C.2.1 dX0_listMoves_54 rfl (lv_at hl 3 rfl) ?_
                  refine lv_iload_n C.1 C.2.1 dX0_listMoves_55 rfl (lv_at hl 1 rfl) ?_
                  refine lv_iload_n C.1 C.2.1 dX0_listMoves_56 rfl (lv_at hl 0 rfl) ?_
                  have h15 := mvs_15 (w := σ 2 0) (h := σ 3 0) hs hPW (f := r * σ 2 0 + k) (by omega) (by omega) (by omega)
                  refine x_cv (x_runV (As := [.ref (ad (26 + 5 * j)), .int (iI r), .int (iI k)]) (rest := []) C (by omega) cw_X0_56 (c_X0_listSteps l D ad G ids hI t1 j (mvs (σ 1) (σ 2 0) (σ 3 0) (σ 4 0) (r * σ 2 0 + k).toNat) r k hj (by rw [BG_of p2 p3]; exact ⟨w1, w2, h1, h2⟩) (by rw [p1]; exact hC) (by rw [p4]; exact hs) (by rw [p1]; exact hl2) h15 (by rw [f0, p1, p4]; omega) (by rw [p3]; omega) (by rw [p2]; omega)) hM (hI 1 (by decide)) (cx_1 ad G _) rfl rfl rfl rfl (Nat.le_of_ble_eq_true rfl) hl.1 dX0_listMoves_57) hM (fun s57 H1 lc1 hp hM => ?_)
                  obtain ⟨hos57, hLs57⟩ := hp
                  rw [p1, p2, p3, p4] at hLs57
                  refine x_iinc (lv1 := [(3, .int (iI (k + 1))), (2, .int (iI r)), (0, .ref (ad 1)), (1, .ref (ad (26 + 5 * j)))]) C dX0_listMoves_60 hl (k := 0) rfl (by decide) rfl (fun ls hl => ?_)
                  refine lv_goto (tgt := 24) C.1 C.2.1 dX0_listMoves_63 (by decide) ?_
                  exact ih24 (k + 1) s57 _ _ _ (by omega) (ho2.tr hos57) (by rw [← Int.add_assoc, mvs_s _ g1.1 k0.1 (by omega), if_pos (by omega)]; exact hLs57) (by omega) hM (lv_sub hl [0, 1, 2, 3] rfl)
          exact L24 _ 0 s1 _ _ _ (by omega) ho (by rw [Int.add_zero]; exact hl1) (Nat.lt_succ_self _) hM (lv_sub hl [0, 1, 2, 3] rfl)
    exact L14 _ 0 s1 _ _ _ (by omega) hos1 (by rw [Int.zero_mul]; exact hLs1 _) (Nat.lt_succ_self _) hM (lv_sub hl [0, 1, 2] rfl)
  · have hth := ks5.mp c8
    exact x_vret C hr hM ⟨hos1, by unfold MLs; rw [if_pos hth]; exact hLs1 _⟩ dX0_listMoves_11
