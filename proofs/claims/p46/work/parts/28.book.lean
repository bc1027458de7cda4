set_option maxRecDepth 100000 in
set_option maxHeartbeats 4000000 in
theorem c_X1_length (l : Launch) (D : va_G) (ad : Nat → Nat) (G : Nat → Nat) (ids : List Nat) (hI : ∀ k, k < 81 → k ∈ ids) (σ : Sg)   : MET l yX1_length cX1_length 1 (some .int) 1 [.ref (ad 17)] D ad G ids σ (QI D ad G ids (fun z σ' => σ 27 0 = z ∧ σ = σ')) := by
  refine x_enter (by decide) (Nat.le_of_ble_eq_true rfl) ?_
  intro pp ee ss mm args below meth cq C hr ls hl hM
  have hl : lv_has ls 1 [(0, .ref (ad 17))] := hl
  refine lv_aload_n C.1 C.2.1 dX1_length_0 rfl (lv_at hl 0 rfl) ?_
  refine g_X1_3 C hM (hI 17 (by decide)) wf_X1_22 dX1_length_1 ?_
  exact x_iret C hr hM ⟨rfl, rfl⟩ dX1_length_4
set_option maxRecDepth 100000 in
set_option maxHeartbeats 4000000 in
theorem c_X1_isFull (l : Launch) (D : va_G) (ad : Nat → Nat) (G : Nat → Nat) (ids : List Nat) (hI : ∀ k, k < 81 → k ∈ ids) (σ : Sg)  (hBK : BKI σ) : MET l yX1_isFull cX1_isFull 1 (some .boolean) 1 [.ref (ad 17)] D ad G ids σ (QI D ad G ids (fun z σ' => (if 30 ≤ σ 27 0 then 1 else 0) = z ∧ σ = σ')) := by
  have h27 := hBK.1
  refine x_enter (by decide) (Nat.le_of_ble_eq_true rfl) ?_
  intro pp ee ss mm args below meth cq C hr ls hl hM
  have hl : lv_has ls 1 [(0, .ref (ad 17))] := hl
  refine lv_aload_n C.1 C.2.1 dX1_isFull_0 rfl (lv_at hl 0 rfl) ?_
  refine g_X1_3 C hM (hI 17 (by decide)) wf_X1_22 dX1_isFull_1 ?_
  refine lv_bipush (v := iI 30) C.1 C.2.1 dX1_isFull_4 (by decide) ?_
  refine x_icmp_lt C ⟨by omega, by omega⟩ ⟨by omega, by omega⟩ (tgt := 13) dX1_isFull_6 (by decide) (fun c6 => ?_) (fun c6 => ?_)
  · refine lv_iconst (v := iI 0) C.1 C.2.1 dX1_isFull_13 (by decide) ?_
    exact x_zret C hr hM (by first | exact Or.inl rfl | exact Or.inr rfl | omega) ⟨by rw [if_neg (by omega)], rfl⟩ dX1_isFull_14
  · refine lv_iconst (v := iI 1) C.1 C.2.1 dX1_isFull_9 (by decide) ?_
    refine lv_goto (tgt := 14) C.1 C.2.1 dX1_isFull_10 (by decide) ?_
    exact x_zret C hr hM (by first | exact Or.inl rfl | exact Or.inr rfl | omega) ⟨by rw [if_pos (by omega)], rfl⟩ dX1_isFull_14
set_option maxRecDepth 100000 in
set_option maxHeartbeats 4000000 in
theorem c_X1_weightAt (l : Launch) (D : va_G) (ad : Nat → Nat) (G : Nat → Nat) (ids : List Nat) (hI : ∀ k, k < 81 → k ∈ ids) (σ : Sg) (s : Int) (hs : IR s) : MET l yX1_weightAt cX1_weightAt 2 (some .int) 1 [.ref (ad 17), .int (iI s)] D ad G ids σ (QI D ad G ids (fun z σ' => (if 0 ≤ s ∧ s < 30 then σ 26 s else 0) = z ∧ σ = σ')) := by
  refine x_enter (by decide) (Nat.le_of_ble_eq_true rfl) ?_
  intro pp ee ss mm args below meth cq C hr ls hl hM
  have hl : lv_has ls 2 [(0, .ref (ad 17)), (1, .int (iI s))] := hl
  refine lv_iload_n C.1 C.2.1 dX1_weightAt_0 rfl (lv_at hl 1 rfl) ?_
  refine x_if_lt C ⟨by omega, by omega⟩ (tgt := 22) dX1_weightAt_1 (by decide) (fun c1 => ?_) (fun c1 => ?_)
  · refine lv_iconst (v := iI 0) C.1 C.2.1 dX1_weightAt_22 (by decide) ?_
    exact x_iret C hr hM ⟨by rw [if_neg (by omega)], rfl⟩ dX1_weightAt_23
  · refine lv_iload_n C.1 C.2.1 dX1_weightAt_4 rfl (lv_at hl 1 rfl) ?_
    refine lv_aload_n C.1 C.2.1 dX1_weightAt_5 rfl (lv_at hl 0 rfl) ?_
    refine g_X1_2 C hM (hI 17 (by decide)) wf_X1_19 dX1_weightAt_6 ?_
    refine ln_20 C hM (hI 20 (by decide)) dX1_weightAt_9 ?_
    refine x_icmp_ge C ⟨by omega, by omega⟩ ⟨by omega, by omega⟩ (tgt := 22) dX1_weightAt_10 (by decide) (fun c10 => ?_) (fun c10 => ?_)
    · refine lv_iconst (v := iI 0) C.1 C.2.1 dX1_weightAt_22 (by decide) ?_
      exact x_iret C hr hM ⟨by rw [if_neg (by omega)], rfl⟩ dX1_weightAt_23
    · refine lv_aload_n C.1 C.2.1 dX1_weightAt_13 rfl (lv_at hl 0 rfl) ?_
      refine g_X1_2 C hM (hI 17 (by decide)) wf_X1_19 dX1_weightAt_14 ?_
      refine lv_iload_n C.1 C.2.1 dX1_weightAt_17 rfl (lv_at hl 1 rfl) ?_
      refine al_20 C hM (hI 20 (by decide)) (by omega) (by omega) dX1_weightAt_18 ?_
      refine lv_goto (tgt := 23) C.1 C.2.1 dX1_weightAt_19 (by decide) ?_
      exact x_iret C hr hM ⟨by rw [if_pos (by omega)], rfl⟩ dX1_weightAt_23
set_option maxRecDepth 100000 in
set_option maxHeartbeats 4000000 in
theorem c_X1_find (l : Launch) (D : va_G) (ad : Nat → Nat) (G : Nat → Nat) (ids : List Nat) (hI : ∀ k, k < 81 → k ∈ ids) (σ : Sg) (key v : Int) (hBK : BKI σ) (hkey : 0 ≤ key ∧ key < 4000000000000000000) (hv : IR v) : MET l yX1_find cX1_find 5 (some .int) 1 [.ref (ad 17), .long (jI key), .int (iI v)] D ad G ids σ (QI D ad G ids (fun z σ' => FB σ key v z ∧ σ = σ')) := by
  have h27 := hBK.1
  refine x_enter (by decide) (Nat.le_of_ble_eq_true rfl) ?_
  intro pp ee ss mm args below meth cq C hr ls hl hM
  have hl : lv_has ls 5 [(0, .ref (ad 17)), (1, .long (jI key)), (3, .int (iI v))] := hl
  refine lv_iconst (v := iI 0) C.1 C.2.1 dX1_find_0 (by decide) ?_
  refine lv_istore (lv' := [(4, .int (iI 0)), (0, .ref (ad 17)), (1, .long (jI key)), (3, .int (iI v))]) C.1 C.2.1 dX1_find_1 hl (by decide) rfl (fun ls hl => ?_)
  have L3 : ∀ (fu : Nat) (i : Int) (H1 : Heap) (lc1 : List Loc) (ls1 : Array Slot), (0 ≤ i ∧ i ≤ σ 27 0) → (∀ k : Int, 0 ≤ k → k < i → ¬ (σ 24 k = key ∧ σ 25 k = v)) → (50 - i).toNat < fu → XI D ad G ids (AN ad ids ss.heap.size) ss.heap H1 lc1 σ → lv_has ls1 5 [(4, .int (iI i)), (0, .ref (ad 17)), (1, .long (jI key)), (3, .int (iI v))] → W pp l ee (rmh 1) ss mm args below meth cq H1 lc1 0 0 (MQ below (QI D ad G ids (fun z σ' => FB σ key v z ∧ σ = σ') ss.heap.size) args ss 0 0 (AN ad ids ss.heap.size)) (F0 mm 3 ls1 []) := by
    intro fu
    induction fu with
    | zero => intro i  H1 lc1 ls1 i0 hn hfu; exact absurd hfu (Nat.not_lt_zero _)
    | succ fu ih3 =>
      intro i  H1 lc1 ls1 i0 hn hfu hM hl
      refine lv_iload C.1 C.2.1 dX1_find_3 (lv_at hl 0 rfl) ?_
      refine lv_aload_n C.1 C.2.1 dX1_find_5 rfl (lv_at hl 1 rfl) ?_
      refine g_X1_3 C hM (hI 17 (by decide)) wf_X1_22 dX1_find_6 ?_
      refine x_icmp_ge C ⟨by omega, by omega⟩ ⟨by omega, by omega⟩ (tgt := 64) dX1_find_9 (by decide) (fun c9 => ?_) (fun c9 => ?_)
      · refine lv_iconst (v := iI (-1)) C.1 C.2.1 dX1_find_64 (by decide) ?_
        exact x_iret C hr hM ⟨Or.inr ⟨rfl, fun k a b => hn k a (by omega)⟩, rfl⟩ dX1_find_65
      · refine lv_iload C.1 C.2.1 dX1_find_12 (lv_at hl 0 rfl) ?_
        refine lv_aload_n C.1 C.2.1 dX1_find_14 rfl (lv_at hl 1 rfl) ?_
        refine g_X1_0 C hM (hI 17 (by decide)) wf_X1_9 dX1_find_15 ?_
        refine ln_18 C hM (hI 18 (by decide)) dX1_find_18 ?_
        refine x_icmp_ge C ⟨by omega, by omega⟩ ⟨by omega, by omega⟩ (tgt := 64) dX1_find_19 (by decide) (fun c19 => ?_) (fun c19 => ?_)
        · exfalso; omega
        · refine lv_iload C.1 C.2.1 dX1_find_22 (lv_at hl 0 rfl) ?_
          refine lv_aload_n C.1 C.2.1 dX1_find_24 rfl (lv_at hl 1 rfl) ?_
          refine g_X1_1 C hM (hI 17 (by decide)) wf_X1_15 dX1_find_25 ?_
          refine ln_19 C hM (hI 19 (by decide)) dX1_find_28 ?_
          refine x_icmp_ge C ⟨by omega, by omega⟩ ⟨by omega, by omega⟩ (tgt := 64) dX1_find_29 (by decide) (fun c29 => ?_) (fun c29 => ?_)
          · exfalso; omega
          · have hq := hBK.2.1 i
            refine lv_aload_n C.1 C.2.1 dX1_find_32 rfl (lv_at hl 1 rfl) ?_
            refine g_X1_0 C hM (hI 17 (by decide)) wf_X1_9 dX1_find_33 ?_
            refine lv_iload C.1 C.2.1 dX1_find_36 (lv_at hl 0 rfl) ?_
            refine al_18 C hM (hI 18 (by decide)) (by omega) (by omega) dX1_find_38 ?_
            refine lv_lload_n C.1 C.2.1 dX1_find_39 rfl (lv_at hl 2 rfl) ?_
            refine x_lcmp C ⟨by omega, by omega⟩ ⟨by omega, by omega⟩ dX1_find_40 (fun z40 i40 e40 g40 => ?_)
            refine x_if_ne C ⟨by omega, by omega⟩ (tgt := 58) dX1_find_41 (by decide) (fun c41 => ?_) (fun c41 => ?_)
            · refine x_iinc (lv1 := [(4, .int (iI (i + 1))), (0, .ref (ad 17)), (1, .long (jI key)), (3, .int (iI v))]) C dX1_find_58 hl (k := 0) rfl (by decide) rfl (fun ls hl => ?_)
              refine lv_goto (tgt := 3) C.1 C.2.1 dX1_find_61 (by decide) ?_
              exact ih3 (i + 1) _ _ _ (by omega) (fun k a b q => by
                by_cases e : k = i
                · rw [e] at q; omega
                · exact hn k a (by omega) q) (by omega) hM (lv_sub hl [0, 1, 2, 3] rfl)
            · refine lv_aload_n C.1 C.2.1 dX1_find_44 rfl (lv_at hl 1 rfl) ?_
              refine g_X1_1 C hM (hI 17 (by decide)) wf_X1_15 dX1_find_45 ?_
              refine lv_iload C.1 C.2.1 dX1_find_48 (lv_at hl 0 rfl) ?_
              refine al_19 C hM (hI 19 (by decide)) (by omega) (by omega) dX1_find_50 ?_
              refine lv_iload_n C.1 C.2.1 dX1_find_51 rfl (lv_at hl 3 rfl) ?_
              refine x_icmp_ne C ⟨by omega, by omega⟩ ⟨by omega, by omega⟩ (tgt := 58) dX1_find_52 (by decide) (fun c52 => ?_) (fun c52 => ?_)
              · refine x_iinc (lv1 := [(4, .int (iI (i + 1))), (0, .ref (ad 17)), (1, .long (jI key)), (3, .int (iI v))]) C dX1_find_58 hl (k := 0) rfl (by decide) rfl (fun ls hl => ?_)
                refine lv_goto (tgt := 3) C.1 C.2.1 dX1_find_61 (by decide) ?_
                exact ih3 (i + 1) _ _ _ (by omega) (fun k a b q => by
                  by_cases e : k = i
                  · rw [e] at q; omega
                  · exact hn k a (by omega) q) (by omega) hM (lv_sub hl [0, 1, 2, 3] rfl)
              · refine lv_iload C.1 C.2.1 dX1_find_55 (lv_at hl 0 rfl) ?_
                exact x_iret C hr hM ⟨Or.inl ⟨by omega, by omega, by omega, by omega⟩, rfl⟩ dX1_find_57
  exact L3 _ 0 _ _ _ (by omega) (fun k a b => by omega) (Nat.lt_succ_self _) hM (lv_sub hl [0, 1, 2, 3] rfl)
set_option maxRecDepth 100000 in
set_option maxHeartbeats 4000000 in
theorem c_X1_write (l : Launch) (D : va_G) (ad : Nat → Nat) (G : Nat → Nat) (ids : List Nat) (hI : ∀ k, k < 81 → k ∈ ids) (σ : Sg) (key v wt : Int) (hBK : BKI σ) (hkey : 0 ≤ key ∧ key < 4000000000000000000) (hv : IR v) (hful : FB σ key v (-1) → σ 27 0 < 30) : MET l yX1_write cX1_write 6 none 2 [.ref (ad 17), .long (jI key), .int (iI v), .int (iI wt)] D ad G ids σ (QV D ad G ids (fun σ' => ∃ pg : Int, (FB σ key v pg ∧ 0 ≤ pg ∨ FB σ key v (-1) ∧ pg = σ 27 0) ∧ wrB σ pg key v wt = σ')) := by
  have h27 := hBK.1
  refine x_enter (by decide) (Nat.le_of_ble_eq_true rfl) ?_
  intro pp ee ss mm args below meth cq C hr ls hl hM
  have hl : lv_has ls 6 [(0, .ref (ad 17)), (1, .long (jI key)), (3, .int (iI v)), (4, .int (iI wt))] := hl
  refine lv_aload_n C.1 C.2.1 dX1_write_0 rfl (lv_at hl 0 rfl) ?_
  refine lv_lload_n C.1 C.2.1 dX1_write_1 rfl (lv_at hl 1 rfl) ?_
  refine lv_iload_n C.1 C.2.1 dX1_write_2 rfl (lv_at hl 2 rfl) ?_
  refine x_ci (x_runV (As := [.long (jI key), .int (iI v)]) (rest := []) C (by omega) cw_X1_26 (c_X1_find l D ad G ids hI σ key v hBK hkey hv) hM (hI 17 (by decide)) (cx_17 ad G _) rfl rfl rfl rfl (Nat.le_of_ble_eq_true rfl) hl.1 dX1_write_3) hM (fun r3 s3 H1 lc1 hp hM => ?_)
  obtain ⟨hbs3, rfl⟩ := hp
  have hz : -1 ≤ r3 ∧ r3 < 30 := by rcases hbs3 with h | h <;> omega
  refine lv_istore (lv' := [(5, .int (iI r3)), (0, .ref (ad 17)), (1, .long (jI key)), (3, .int (iI v)), (4, .int (iI wt))]) C.1 C.2.1 dX1_write_6 hl (by decide) rfl (fun ls hl => ?_)
  refine lv_iload C.1 C.2.1 dX1_write_8 (lv_at hl 0 rfl) ?_
  refine x_if_ge C ⟨by omega, by omega⟩ (tgt := 19) dX1_write_10 (by decide) (fun c10 => ?_) (fun c10 => ?_)
  · refine lv_iload C.1 C.2.1 dX1_write_19 (lv_at hl 0 rfl) ?_
    refine x_if_lt C ⟨by omega, by omega⟩ (tgt := 94) dX1_write_21 (by decide) (fun c21 => ?_) (fun c21 => ?_)
    · exfalso; omega
    · refine lv_iload C.1 C.2.1 dX1_write_24 (lv_at hl 0 rfl) ?_
      refine lv_aload_n C.1 C.2.1 dX1_write_26 rfl (lv_at hl 1 rfl) ?_
      refine g_X1_0 C hM (hI 17 (by decide)) wf_X1_9 dX1_write_27 ?_
      refine ln_18 C hM (hI 18 (by decide)) dX1_write_30 ?_
      refine x_icmp_ge C ⟨by omega, by omega⟩ ⟨by omega, by omega⟩ (tgt := 94) dX1_write_31 (by decide) (fun c31 => ?_) (fun c31 => ?_)
      · exfalso; omega
      · refine lv_iload C.1 C.2.1 dX1_write_34 (lv_at hl 0 rfl) ?_
        refine lv_aload_n C.1 C.2.1 dX1_write_36 rfl (lv_at hl 1 rfl) ?_
        refine g_X1_1 C hM (hI 17 (by decide)) wf_X1_15 dX1_write_37 ?_
        refine ln_19 C hM (hI 19 (by decide)) dX1_write_40 ?_
        refine x_icmp_ge C ⟨by omega, by omega⟩ ⟨by omega, by omega⟩ (tgt := 94) dX1_write_41 (by decide) (fun c41 => ?_) (fun c41 => ?_)
        · exfalso; omega
        · refine lv_iload C.1 C.2.1 dX1_write_44 (lv_at hl 0 rfl) ?_
          refine lv_aload_n C.1 C.2.1 dX1_write_46 rfl (lv_at hl 1 rfl) ?_
          refine g_X1_2 C hM (hI 17 (by decide)) wf_X1_19 dX1_write_47 ?_
          refine ln_20 C hM (hI 20 (by decide)) dX1_write_50 ?_
          refine x_icmp_ge C ⟨by omega, by omega⟩ ⟨by omega, by omega⟩ (tgt := 94) dX1_write_51 (by decide) (fun c51 => ?_) (fun c51 => ?_)
          · exfalso; omega
          · refine lv_aload_n C.1 C.2.1 dX1_write_54 rfl (lv_at hl 1 rfl) ?_
            refine g_X1_0 C hM (hI 17 (by decide)) wf_X1_9 dX1_write_55 ?_
            refine lv_iload C.1 C.2.1 dX1_write_58 (lv_at hl 0 rfl) ?_
            refine lv_lload_n C.1 C.2.1 dX1_write_60 rfl (lv_at hl 2 rfl) ?_
            refine as_18 C hM (hI 18 (by decide)) (by omega) (by omega) dX1_write_61 (fun H1 lc1 hM => ?_)
            refine lv_aload_n C.1 C.2.1 dX1_write_62 rfl (lv_at hl 1 rfl) ?_
            refine g_X1_1 C hM (hI 17 (by decide)) wf_X1_15 dX1_write_63 ?_
            refine lv_iload C.1 C.2.1 dX1_write_66 (lv_at hl 0 rfl) ?_
            refine lv_iload_n C.1 C.2.1 dX1_write_68 rfl (lv_at hl 3 rfl) ?_
            refine as_19 C hM (hI 19 (by decide)) (by omega) (by omega) dX1_write_69 (fun H1 lc1 hM => ?_)
            refine lv_aload_n C.1 C.2.1 dX1_write_70 rfl (lv_at hl 1 rfl) ?_
            refine g_X1_2 C hM (hI 17 (by decide)) wf_X1_19 dX1_write_71 ?_
            refine lv_iload C.1 C.2.1 dX1_write_74 (lv_at hl 0 rfl) ?_
            refine lv_iload C.1 C.2.1 dX1_write_76 (lv_at hl 4 rfl) ?_
            refine as_20 C hM (hI 20 (by decide)) (by omega) (by omega) dX1_write_78 (fun H1 lc1 hM => ?_)
            refine lv_aload_n C.1 C.2.1 dX1_write_79 rfl (lv_at hl 1 rfl) ?_
            refine lv_aload_n C.1 C.2.1 dX1_write_80 rfl (lv_at hl 1 rfl) ?_
            refine g_X1_3 C hM (hI 17 (by decide)) wf_X1_22 dX1_write_81 ?_
            rw [upr_ne _ _ (show (27 : Nat) ≠ 26 by omega)]
            rw [upr_ne _ _ (show (27 : Nat) ≠ 25 by omega)]
            rw [upr_ne _ _ (show (27 : Nat) ≠ 24 by omega)]
            refine lv_iload C.1 C.2.1 dX1_write_84 (lv_at hl 0 rfl) ?_
            refine lv_iconst (v := iI 1) C.1 C.2.1 dX1_write_86 (by decide) ?_
            refine x_iadd C dX1_write_87 ?_
            refine x_max C (by omega) hl.1 wM_X1_30 ⟨by omega, by omega⟩ ⟨by omega, by omega⟩ (Nat.le_of_ble_eq_true rfl) dX1_write_88 ?_
            refine p_X1_3 C hM (hI 17 (by decide)) wf_X1_22 dX1_write_91 (fun H1 lc1 hM => ?_)
            exact x_vret C hr hM ⟨_, Or.inl ⟨hbs3, by omega⟩, rfl⟩ dX1_write_94
  · have hm : r3 = -1 := by rcases hbs3 with h | h <;> omega
    rw [hm] at hbs3
    have hful := hful hbs3
    refine lv_aload_n C.1 C.2.1 dX1_write_13 rfl (lv_at hl 1 rfl) ?_
    refine g_X1_3 C hM (hI 17 (by decide)) wf_X1_22 dX1_write_14 ?_
    refine lv_istore (lv' := [(5, .int (iI (σ 27 0))), (0, .ref (ad 17)), (1, .long (jI key)), (3, .int (iI v)), (4, .int (iI wt))]) C.1 C.2.1 dX1_write_17 hl (by decide) rfl (fun ls hl => ?_)
    refine lv_iload C.1 C.2.1 dX1_write_19 (lv_at hl 0 rfl) ?_
    refine x_if_lt C ⟨by omega, by omega⟩ (tgt := 94) dX1_write_21 (by decide) (fun c21 => ?_) (fun c21 => ?_)
    · exfalso; omega
    · refine lv_iload C.1 C.2.1 dX1_write_24 (lv_at hl 0 rfl) ?_
      refine lv_aload_n C.1 C.2.1 dX1_write_26 rfl (lv_at hl 1 rfl) ?_
      refine g_X1_0 C hM (hI 17 (by decide)) wf_X1_9 dX1_write_27 ?_
      refine ln_18 C hM (hI 18 (by decide)) dX1_write_30 ?_
      refine x_icmp_ge C ⟨by omega, by omega⟩ ⟨by omega, by omega⟩ (tgt := 94) dX1_write_31 (by decide) (fun c31 => ?_) (fun c31 => ?_)
      · exfalso; omega
      · refine lv_iload C.1 C.2.1 dX1_write_34 (lv_at hl 0 rfl) ?_
        refine lv_aload_n C.1 C.2.1 dX1_write_36 rfl (lv_at hl 1 rfl) ?_
        refine g_X1_1 C hM (hI 17 (by decide)) wf_X1_15 dX1_write_37 ?_
        refine ln_19 C hM (hI 19 (by decide)) dX1_write_40 ?_
        refine x_icmp_ge C ⟨by omega, by omega⟩ ⟨by omega, by omega⟩ (tgt := 94) dX1_write_41 (by decide) (fun c41 => ?_) (fun c41 => ?_)
        · exfalso; omega
        · refine lv_iload C.1 C.2.1 dX1_write_44 (lv_at hl 0 rfl) ?_
          refine lv_aload_n C.1 C.2.1 dX1_write_46 rfl (lv_at hl 1 rfl) ?_
          refine g_X1_2 C hM (hI 17 (by decide)) wf_X1_19 dX1_write_47 ?_
          refine ln_20 C hM (hI 20 (by decide)) dX1_write_50 ?_
          refine x_icmp_ge C ⟨by omega, by omega⟩ ⟨by omega, by omega⟩ (tgt := 94) dX1_write_51 (by decide) (fun c51 => ?_) (fun c51 => ?_)
          · exfalso; omega
          · refine lv_aload_n C.1 C.2.1 dX1_write_54 rfl (lv_at hl 1 rfl) ?_
            refine g_X1_0 C hM (hI 17 (by decide)) wf_X1_9 dX1_write_55 ?_
            refine lv_iload C.1 C.2.1 dX1_write_58 (lv_at hl 0 rfl) ?_
            refine lv_lload_n C.1 C.2.1 dX1_write_60 rfl (lv_at hl 2 rfl) ?_
            refine as_18 C hM (hI 18 (by decide)) (by omega) (by omega) dX1_write_61 (fun H1 lc1 hM => ?_)
            refine lv_aload_n C.1 C.2.1 dX1_write_62 rfl (lv_at hl 1 rfl) ?_
            refine g_X1_1 C hM (hI 17 (by decide)) wf_X1_15 dX1_write_63 ?_
            refine lv_iload C.1 C.2.1 dX1_write_66 (lv_at hl 0 rfl) ?_
            refine lv_iload_n C.1 C.2.1 dX1_write_68 rfl (lv_at hl 3 rfl) ?_
            refine as_19 C hM (hI 19 (by decide)) (by omega) (by omega) dX1_write_69 (fun H1 lc1 hM => ?_)
            refine lv_aload_n C.1 C.2.1 dX1_write_70 rfl (lv_at hl 1 rfl) ?_
            refine g_X1_2 C hM (hI 17 (by decide)) wf_X1_19 dX1_write_71 ?_
            refine lv_iload C.1 C.2.1 dX1_write_74 (lv_at hl 0 rfl) ?_
            refine lv_iload C.1 C.2.1 dX1_write_76 (lv_at hl 4 rfl) ?_
            refine as_20 C hM (hI 20 (by decide)) (by omega) (by omega) dX1_write_78 (fun H1 lc1 hM => ?_)
            refine lv_aload_n C.1 C.2.1 dX1_write_79 rfl (lv_at hl 1 rfl) ?_
            refine lv_aload_n C.1 C.2.1 dX1_write_80 rfl (lv_at hl 1 rfl) ?_
            refine g_X1_3 C hM (hI 17 (by decide)) wf_X1_22 dX1_write_81 ?_
            rw [upr_ne _ _ (show (27 : Nat) ≠ 26 by omega)]
            rw [upr_ne _ _ (show (27 : Nat) ≠ 25 by omega)]
            rw [upr_ne _ _ (show (27 : Nat) ≠ 24 by omega)]
            refine lv_iload C.1 C.2.1 dX1_write_84 (lv_at hl 0 rfl) ?_
            refine lv_iconst (v := iI 1) C.1 C.2.1 dX1_write_86 (by decide) ?_
            refine x_iadd C dX1_write_87 ?_
            refine x_max C (by omega) hl.1 wM_X1_30 ⟨by omega, by omega⟩ ⟨by omega, by omega⟩ (Nat.le_of_ble_eq_true rfl) dX1_write_88 ?_
            refine p_X1_3 C hM (hI 17 (by decide)) wf_X1_22 dX1_write_91 (fun H1 lc1 hM => ?_)
            exact x_vret C hr hM ⟨_, Or.inr ⟨hbs3, rfl⟩, rfl⟩ dX1_write_94
set_option maxRecDepth 100000 in
set_option maxHeartbeats 4000000 in
theorem c_X1_choose (l : Launch) (D : va_G) (ad : Nat → Nat) (G : Nat → Nat) (ids : List Nat) (hI : ∀ k, k < 81 → k ∈ ids) (σ : Sg) (j : Nat) (L : List Int) (c : Fn) (key : Int) (hj : j < 11) (hL : LM σ j L c) (h18 : L.length ≤ 18) (hMB : ∀ v, v ∈ L → 0 ≤ v ∧ v < 2500) (hBK : BKI σ) (hkey : 0 ≤ key ∧ key < 4000000000000000000) : MET l yX1_choose cX1_choose 8 (some .int) 2 [.ref (ad 17), .long (jI key), .ref (ad (26 + 5 * j))] D ad G ids σ (QI D ad G ids (fun z σ' => chF (wtF σ key) L 0 (-1) 0 = z ∧ σ = σ')) := by
  have e4 := hL.1
  refine x_enter (by decide) (Nat.le_of_ble_eq_true rfl) ?_
  intro pp ee ss mm args below meth cq C hr ls hl hM
  have hl : lv_has ls 8 [(0, .ref (ad 17)), (1, .long (jI key)), (3, .ref (ad (26 + 5 * j)))] := hl
  refine lv_iconst (v := iI (-1)) C.1 C.2.1 dX1_choose_0 (by decide) ?_
  refine lv_istore (lv' := [(4, .int (iI (-1))), (0, .ref (ad 17)), (1, .long (jI key)), (3, .ref (ad (26 + 5 * j)))]) C.1 C.2.1 dX1_choose_1 hl (by decide) rfl (fun ls hl => ?_)
  refine lv_iconst (v := iI 0) C.1 C.2.1 dX1_choose_3 (by decide) ?_
  refine lv_istore (lv' := [(5, .int (iI 0)), (4, .int (iI (-1))), (0, .ref (ad 17)), (1, .long (jI key)), (3, .ref (ad (26 + 5 * j)))]) C.1 C.2.1 dX1_choose_4 hl (by decide) rfl (fun ls hl => ?_)
  refine lv_iconst (v := iI 0) C.1 C.2.1 dX1_choose_6 (by decide) ?_
  refine lv_istore (lv' := [(6, .int (iI 0)), (5, .int (iI 0)), (4, .int (iI (-1))), (0, .ref (ad 17)), (1, .long (jI key)), (3, .ref (ad (26 + 5 * j)))]) C.1 C.2.1 dX1_choose_7 hl (by decide) rfl (fun ls hl => ?_)
  have L9 : ∀ (fu : Nat) (x : Int) (g : Int) (ch : Int) (H1 : Heap) (lc1 : List Loc) (ls1 : Array Slot), (0 ≤ x ∧ x ≤ L.length) → (0 ≤ g ∧ g ≤ 99) → (chF (wtF σ key) (L.drop x.toNat) x ch g = chF (wtF σ key) L 0 (-1) 0) → (20 - x).toNat < fu → XI D ad G ids (AN ad ids ss.heap.size) ss.heap H1 lc1 σ → lv_has ls1 8 [(6, .int (iI x)), (5, .int (iI g)), (4, .int (iI ch)), (0, .ref (ad 17)), (1, .long (jI key)), (3, .ref (ad (26 + 5 * j)))] → W pp l ee (rmh 2) ss mm args below meth cq H1 lc1 0 0 (MQ below (QI D ad G ids (fun z σ' => chF (wtF σ key) L 0 (-1) 0 = z ∧ σ = σ') ss.heap.size) args ss 0 0 (AN ad ids ss.heap.size)) (F0 mm 9 ls1 []) := by
    intro fu
    induction fu with
    | zero => intro x g ch  H1 lc1 ls1 x0 g0 hq hfu; exact absurd hfu (Nat.not_lt_zero _)
    | succ fu ih9 =>
      intro x g ch  H1 lc1 ls1 x0 g0 hq hfu hM hl
      refine lv_iload C.1 C.2.1 dX1_choose_9 (lv_at hl 0 rfl) ?_
      refine lv_aload_n C.1 C.2.1 dX1_choose_11 rfl (lv_at hl 5 rfl) ?_
      refine x_ci (x_runV (As := []) (rest := [.int (iI x)]) C (by omega) cw_X1_36 (c_X5_size l D ad G ids hI σ j L c hj hL) hM (hI _ (by omega)) (cx_lo ad G _ hj) rfl rfl rfl rfl (Nat.le_of_ble_eq_true rfl) hl.1 dX1_choose_12) hM (fun r12 s12 H1 lc1 hp hM => ?_)
      obtain ⟨rfl, rfl⟩ := hp
      refine x_icmp_ge C ⟨by omega, by omega⟩ ⟨by omega, by omega⟩ (tgt := 56) dX1_choose_15 (by decide) (fun c15 => ?_) (fun c15 => ?_)
      · refine lv_iload C.1 C.2.1 dX1_choose_56 (lv_at hl 2 rfl) ?_
        exact x_iret C hr hM ⟨by rw [← hq, drop_e (L := L) x0.1 (by omega), chF], rfl⟩ dX1_choose_58
      · refine lv_aload_n C.1 C.2.1 dX1_choose_18 rfl (lv_at hl 3 rfl) ?_
        refine lv_aload_n C.1 C.2.1 dX1_choose_19 rfl (lv_at hl 3 rfl) ?_
        refine lv_lload_n C.1 C.2.1 dX1_choose_20 rfl (lv_at hl 4 rfl) ?_
        refine lv_aload_n C.1 C.2.1 dX1_choose_21 rfl (lv_at hl 5 rfl) ?_
        refine lv_iload C.1 C.2.1 dX1_choose_22 (lv_at hl 0 rfl) ?_
        refine x_ci (x_runV (As := [.int (iI x)]) (rest := [.long (jI key), .ref (ad 17), .ref (ad 17)]) C (by omega) cw_X1_42 (c_X5_moveAt l D ad G ids hI σ j L c x hj hL h18 ⟨by omega, by omega⟩) hM (hI _ (by omega)) (cx_lo ad G _ hj) rfl rfl rfl rfl (Nat.le_of_ble_eq_true rfl) hl.1 dX1_choose_24) hM (fun r24 s24 H1 lc1 hp hM => ?_)
        obtain ⟨rfl, rfl⟩ := hp
        rw [if_pos (show 0 ≤ x by omega)]
        refine x_ci (x_runV (As := [.long (jI key), .int (iI (L.getD (x).toNat (-1)))]) (rest := [.ref (ad 17)]) C (by omega) cw_X1_26 (c_X1_find l D ad G ids hI σ key (L.getD (x).toNat (-1)) hBK hkey (by have := hMB _ (getD_mem (L := L) (i := x) (by omega) (by omega)); omega)) hM (hI 17 (by decide)) (cx_17 ad G _) rfl rfl rfl rfl (Nat.le_of_ble_eq_true rfl) hl.1 dX1_choose_27) hM (fun r27 s27 H1 lc1 hp hM => ?_)
        obtain ⟨hbs27, rfl⟩ := hp
        have hz27 : -1 ≤ r27 ∧ r27 < 30 := by
          have := hBK.1
          rcases hbs27 with h | h <;> omega
        refine x_ci (x_runV (As := [.int (iI r27)]) (rest := []) C (by omega) cw_X1_46 (c_X1_weightAt l D ad G ids hI σ r27 ⟨by omega, by omega⟩) hM (hI 17 (by decide)) (cx_17 ad G _) rfl rfl rfl rfl (Nat.le_of_ble_eq_true rfl) hl.1 dX1_choose_30) hM (fun r30 s30 H1 lc1 hp hM => ?_)
        obtain ⟨hws30, rfl⟩ := hp
        have hw : r30 = wtF σ key (L.getD x.toNat (-1)) := by rw [← hws30]; exact FB_wt hBK hbs27
        have hw2 := wt_bd hBK key (L.getD x.toNat (-1))
        refine lv_istore (lv' := [(7, .int (iI r30)), (6, .int (iI x)), (5, .int (iI g)), (4, .int (iI ch)), (0, .ref (ad 17)), (1, .long (jI key)), (3, .ref (ad (26 + 5 * j)))]) C.1 C.2.1 dX1_choose_33 hl (by decide) rfl (fun ls hl => ?_)
        refine lv_iload C.1 C.2.1 dX1_choose_35 (lv_at hl 0 rfl) ?_
        refine lv_iload C.1 C.2.1 dX1_choose_37 (lv_at hl 2 rfl) ?_
        refine x_icmp_le C ⟨by omega, by omega⟩ ⟨by omega, by omega⟩ (tgt := 50) dX1_choose_39 (by decide) (fun c39 => ?_) (fun c39 => ?_)
        · refine x_iinc (lv1 := [(6, .int (iI (x + 1))), (7, .int (iI r30)), (5, .int (iI g)), (4, .int (iI ch)), (0, .ref (ad 17)), (1, .long (jI key)), (3, .ref (ad (26 + 5 * j)))]) C dX1_choose_50 hl (k := 1) rfl (by decide) rfl (fun ls hl => ?_)
          refine lv_goto (tgt := 9) C.1 C.2.1 dX1_choose_53 (by decide) ?_
          exact ih9 (x + 1) g ch _ _ _ (by omega) (by omega) (by rw [← hq, drop_s (L := L) (i := x) x0.1 (by omega), chF, if_neg (by omega)]) (by omega) hM (lv_sub hl [0, 2, 3, 4, 5, 6] rfl)
        · refine lv_iload C.1 C.2.1 dX1_choose_42 (lv_at hl 0 rfl) ?_
          refine lv_istore (lv' := [(5, .int (iI r30)), (7, .int (iI r30)), (6, .int (iI x)), (4, .int (iI ch)), (0, .ref (ad 17)), (1, .long (jI key)), (3, .ref (ad (26 + 5 * j)))]) C.1 C.2.1 dX1_choose_44 hl (by decide) rfl (fun ls hl => ?_)
          refine lv_iload C.1 C.2.1 dX1_choose_46 (lv_at hl 2 rfl) ?_
          refine lv_istore (lv' := [(4, .int (iI x)), (5, .int (iI r30)), (7, .int (iI r30)), (6, .int (iI x)), (0, .ref (ad 17)), (1, .long (jI key)), (3, .ref (ad (26 + 5 * j)))]) C.1 C.2.1 dX1_choose_48 hl (by decide) rfl (fun ls hl => ?_)
          refine x_iinc (lv1 := [(6, .int (iI (x + 1))), (4, .int (iI x)), (5, .int (iI r30)), (7, .int (iI r30)), (0, .ref (ad 17)), (1, .long (jI key)), (3, .ref (ad (26 + 5 * j)))]) C dX1_choose_50 hl (k := 3) rfl (by decide) rfl (fun ls hl => ?_)
          refine lv_goto (tgt := 9) C.1 C.2.1 dX1_choose_53 (by decide) ?_
          exact ih9 (x + 1) r30 x _ _ _ (by omega) (by omega) (by rw [← hq, drop_s (L := L) (i := x) x0.1 (by omega), chF, if_pos (by omega)]; rw [hw]) (by omega) hM (lv_sub hl [0, 2, 1, 4, 5, 6] rfl)
  exact L9 _ 0 0 (-1) _ _ _ (by omega) (by omega) rfl (Nat.lt_succ_self _) hM (lv_sub hl [0, 1, 2, 3, 4, 5] rfl)
