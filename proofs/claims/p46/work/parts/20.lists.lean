theorem IX.ir {L : List Int} {v z : Int} (h : IX L v z) (h18 : L.length ≤ 18) : -1 ≤ z ∧ z < 18 := by
  obtain ⟨q, -⟩ | ⟨i, hi, q⟩ := h
  · omega
  · have := (List.getElem?_eq_some_iff.mp hi).1; omega
set_option maxRecDepth 100000 in
set_option maxHeartbeats 4000000 in
theorem c_X11_fromOf (l : Launch) (D : va_G) (ad : Nat → Nat) (G : Nat → Nat) (ids : List Nat) (hI : ∀ k, k < 81 → k ∈ ids) (σ : Sg) (v : Int) (hv : IR v) : MET l yX11_fromOf cX11_fromOf 1 (some .int) 1 [.int (iI v)] D ad G ids σ (QI D ad G ids (fun z σ' => (if v < 0 then -1 else v / 100) = z ∧ σ = σ')) := by
  refine x_enter (by decide) (Nat.le_of_ble_eq_true rfl) ?_
  intro pp ee ss mm args below meth cq C hr ls hl hM
  have hl : lv_has ls 1 [(0, .int (iI v))] := hl
  refine lv_iload_n C.1 C.2.1 dX11_fromOf_0 rfl (lv_at hl 0 rfl) ?_
  refine x_if_ge C ⟨by omega, by omega⟩ (tgt := 8) dX11_fromOf_1 (by decide) (fun c1 => ?_) (fun c1 => ?_)
  · refine lv_iload_n C.1 C.2.1 dX11_fromOf_8 rfl (lv_at hl 0 rfl) ?_
    refine lv_bipush (v := iI 100) C.1 C.2.1 dX11_fromOf_9 (by decide) ?_
    refine x_idiv2 C ⟨by omega, by omega, by omega⟩ ⟨by omega, by omega, by omega⟩ dX11_fromOf_11 ?_
    exact x_iret C hr hM ⟨by rw [if_neg (by omega)], rfl⟩ dX11_fromOf_12
  · refine lv_iconst (v := iI (-1)) C.1 C.2.1 dX11_fromOf_4 (by decide) ?_
    refine lv_goto (tgt := 12) C.1 C.2.1 dX11_fromOf_5 (by decide) ?_
    exact x_iret C hr hM ⟨by rw [if_pos (by omega)], rfl⟩ dX11_fromOf_12
set_option maxRecDepth 100000 in
set_option maxHeartbeats 4000000 in
theorem c_X11_toOf (l : Launch) (D : va_G) (ad : Nat → Nat) (G : Nat → Nat) (ids : List Nat) (hI : ∀ k, k < 81 → k ∈ ids) (σ : Sg) (v : Int) (hv : IR v) : MET l yX11_toOf cX11_toOf 1 (some .int) 1 [.int (iI v)] D ad G ids σ (QI D ad G ids (fun z σ' => (if v < 0 then -1 else v % 100) = z ∧ σ = σ')) := by
  refine x_enter (by decide) (Nat.le_of_ble_eq_true rfl) ?_
  intro pp ee ss mm args below meth cq C hr ls hl hM
  have hl : lv_has ls 1 [(0, .int (iI v))] := hl
  refine lv_iload_n C.1 C.2.1 dX11_toOf_0 rfl (lv_at hl 0 rfl) ?_
  refine x_if_ge C ⟨by omega, by omega⟩ (tgt := 8) dX11_toOf_1 (by decide) (fun c1 => ?_) (fun c1 => ?_)
  · refine lv_iload_n C.1 C.2.1 dX11_toOf_8 rfl (lv_at hl 0 rfl) ?_
    refine lv_bipush (v := iI 100) C.1 C.2.1 dX11_toOf_9 (by decide) ?_
    refine x_irem2 C ⟨by omega, by omega, by omega⟩ ⟨by omega, by omega, by omega⟩ dX11_toOf_11 ?_
    exact x_iret C hr hM ⟨by rw [if_neg (by omega)], rfl⟩ dX11_toOf_12
  · refine lv_iconst (v := iI (-1)) C.1 C.2.1 dX11_toOf_4 (by decide) ?_
    refine lv_goto (tgt := 12) C.1 C.2.1 dX11_toOf_5 (by decide) ?_
    exact x_iret C hr hM ⟨by rw [if_pos (by omega)], rfl⟩ dX11_toOf_12
set_option maxRecDepth 100000 in
set_option maxHeartbeats 4000000 in
theorem c_X5_clear (l : Launch) (D : va_G) (ad : Nat → Nat) (G : Nat → Nat) (ids : List Nat) (hI : ∀ k, k < 81 → k ∈ ids) (σ : Sg) (j : Nat) (hj : j < 11) : MET l yX5_clear cX5_clear 1 none 1 [.ref (ad (26 + 5 * j))] D ad G ids σ (QV D ad G ids (fun σ' => OL j σ σ' ∧ ∀ c, LM σ' j [] c)) := by
  refine x_enter (by decide) (Nat.le_of_ble_eq_true rfl) ?_
  intro pp ee ss mm args below meth cq C hr ls hl hM
  have hl : lv_has ls 1 [(0, .ref (ad (26 + 5 * j)))] := hl
  refine lv_aload_n C.1 C.2.1 dX5_clear_0 rfl (lv_at hl 0 rfl) ?_
  refine lv_iconst (v := iI 0) C.1 C.2.1 dX5_clear_1 (by decide) ?_
  refine p_X5_4 C hM hj (hI _ (by omega)) wf_X5_25 dX5_clear_2 (fun H1 lc1 hM => ?_)
  exact x_vret C hr hM ⟨fun r h => upr_ne _ _ (by omega), fun c => ⟨by rw [upr_eq, ups_eq]; rfl, fun i v h => by simp at h⟩⟩ dX5_clear_5
set_option maxRecDepth 100000 in
set_option maxHeartbeats 4000000 in
theorem c_X5_size (l : Launch) (D : va_G) (ad : Nat → Nat) (G : Nat → Nat) (ids : List Nat) (hI : ∀ k, k < 81 → k ∈ ids) (σ : Sg) (j : Nat) (L : List Int) (c : Fn) (hj : j < 11) (hL : LM σ j L c) : MET l yX5_size cX5_size 1 (some .int) 1 [.ref (ad (26 + 5 * j))] D ad G ids σ (QI D ad G ids (fun z σ' => (L.length : Int) = z ∧ σ = σ')) := by
  refine x_enter (by decide) (Nat.le_of_ble_eq_true rfl) ?_
  intro pp ee ss mm args below meth cq C hr ls hl hM
  have hl : lv_has ls 1 [(0, .ref (ad (26 + 5 * j)))] := hl
  refine lv_aload_n C.1 C.2.1 dX5_size_0 rfl (lv_at hl 0 rfl) ?_
  refine g_X5_4 C hM hj (hI _ (by omega)) wf_X5_25 dX5_size_1 ?_
  exact x_iret C hr hM ⟨hL.1.symm, rfl⟩ dX5_size_4
set_option maxRecDepth 100000 in
set_option maxHeartbeats 4000000 in
theorem c_X5_has (l : Launch) (D : va_G) (ad : Nat → Nat) (G : Nat → Nat) (ids : List Nat) (hI : ∀ k, k < 81 → k ∈ ids) (σ : Sg) (j : Nat) (L : List Int) (c : Fn) (z : Int) (hj : j < 11) (hL : LM σ j L c) (h18 : L.length ≤ 18) (hz : IR z) : MET l yX5_has cX5_has 2 (some .boolean) 1 [.ref (ad (26 + 5 * j)), .int (iI z)] D ad G ids σ (QI D ad G ids (fun r σ' => (if 0 ≤ z ∧ z < L.length then 1 else 0) = r ∧ σ = σ')) := by
  have e4 := hL.1
  refine x_enter (by decide) (Nat.le_of_ble_eq_true rfl) ?_
  intro pp ee ss mm args below meth cq C hr ls hl hM
  have hl : lv_has ls 2 [(0, .ref (ad (26 + 5 * j))), (1, .int (iI z))] := hl
  refine lv_iload_n C.1 C.2.1 dX5_has_0 rfl (lv_at hl 1 rfl) ?_
  refine x_if_lt C ⟨by omega, by omega⟩ (tgt := 16) dX5_has_1 (by decide) (fun c1 => ?_) (fun c1 => ?_)
  · refine lv_iconst (v := iI 0) C.1 C.2.1 dX5_has_16 (by decide) ?_
    exact x_zret C hr hM (by first | exact Or.inl rfl | exact Or.inr rfl | omega) ⟨by rw [if_neg (by omega)], rfl⟩ dX5_has_17
  · refine lv_iload_n C.1 C.2.1 dX5_has_4 rfl (lv_at hl 1 rfl) ?_
    refine lv_aload_n C.1 C.2.1 dX5_has_5 rfl (lv_at hl 0 rfl) ?_
    refine g_X5_4 C hM hj (hI _ (by omega)) wf_X5_25 dX5_has_6 ?_
    refine x_icmp_ge C ⟨by omega, by omega⟩ ⟨by omega, by omega⟩ (tgt := 16) dX5_has_9 (by decide) (fun c9 => ?_) (fun c9 => ?_)
    · refine lv_iconst (v := iI 0) C.1 C.2.1 dX5_has_16 (by decide) ?_
      exact x_zret C hr hM (by first | exact Or.inl rfl | exact Or.inr rfl | omega) ⟨by rw [if_neg (by omega)], rfl⟩ dX5_has_17
    · refine lv_iconst (v := iI 1) C.1 C.2.1 dX5_has_12 (by decide) ?_
      refine lv_goto (tgt := 17) C.1 C.2.1 dX5_has_13 (by decide) ?_
      exact x_zret C hr hM (by first | exact Or.inl rfl | exact Or.inr rfl | omega) ⟨by rw [if_pos (by omega)], rfl⟩ dX5_has_17
set_option maxRecDepth 100000 in
set_option maxHeartbeats 4000000 in
theorem c_X5_moveAt (l : Launch) (D : va_G) (ad : Nat → Nat) (G : Nat → Nat) (ids : List Nat) (hI : ∀ k, k < 81 → k ∈ ids) (σ : Sg) (j : Nat) (L : List Int) (c : Fn) (z : Int) (hj : j < 11) (hL : LM σ j L c) (h18 : L.length ≤ 18) (hz : IR z) : MET l yX5_moveAt cX5_moveAt 2 (some .int) 1 [.ref (ad (26 + 5 * j)), .int (iI z)] D ad G ids σ (QI D ad G ids (fun r σ' => (if 0 ≤ z then L.getD z.toNat (-1) else -1) = r ∧ σ = σ')) := by
  have e4 := hL.1
  refine x_enter (by decide) (Nat.le_of_ble_eq_true rfl) ?_
  intro pp ee ss mm args below meth cq C hr ls hl hM
  have hl : lv_has ls 2 [(0, .ref (ad (26 + 5 * j))), (1, .int (iI z))] := hl
  refine lv_iload_n C.1 C.2.1 dX5_moveAt_0 rfl (lv_at hl 1 rfl) ?_
  refine x_if_lt C ⟨by omega, by omega⟩ (tgt := 30) dX5_moveAt_1 (by decide) (fun c1 => ?_) (fun c1 => ?_)
  · refine lv_iconst (v := iI (-1)) C.1 C.2.1 dX5_moveAt_30 (by decide) ?_
    exact x_iret C hr hM ⟨by first | rw [if_neg (by omega)] | rw [if_pos (by omega), getD_out (by omega)], rfl⟩ dX5_moveAt_31
  · refine lv_iload_n C.1 C.2.1 dX5_moveAt_4 rfl (lv_at hl 1 rfl) ?_
    refine lv_aload_n C.1 C.2.1 dX5_moveAt_5 rfl (lv_at hl 0 rfl) ?_
    refine g_X5_4 C hM hj (hI _ (by omega)) wf_X5_25 dX5_moveAt_6 ?_
    refine x_icmp_ge C ⟨by omega, by omega⟩ ⟨by omega, by omega⟩ (tgt := 30) dX5_moveAt_9 (by decide) (fun c9 => ?_) (fun c9 => ?_)
    · refine lv_iconst (v := iI (-1)) C.1 C.2.1 dX5_moveAt_30 (by decide) ?_
      exact x_iret C hr hM ⟨by first | rw [if_neg (by omega)] | rw [if_pos (by omega), getD_out (by omega)], rfl⟩ dX5_moveAt_31
    · refine lv_iload_n C.1 C.2.1 dX5_moveAt_12 rfl (lv_at hl 1 rfl) ?_
      refine lv_aload_n C.1 C.2.1 dX5_moveAt_13 rfl (lv_at hl 0 rfl) ?_
      refine g_X5_0 C hM hj (hI _ (by omega)) wf_X5_9 dX5_moveAt_14 ?_
      refine ln_lm C hM hj (hI _ (by omega)) dX5_moveAt_17 ?_
      refine x_icmp_ge C ⟨by omega, by omega⟩ ⟨by omega, by omega⟩ (tgt := 30) dX5_moveAt_18 (by decide) (fun c18 => ?_) (fun c18 => ?_)
      · refine lv_iconst (v := iI (-1)) C.1 C.2.1 dX5_moveAt_30 (by decide) ?_
        exact x_iret C hr hM ⟨by first | rw [if_neg (by omega)] | rw [if_pos (by omega), getD_out (by omega)], rfl⟩ dX5_moveAt_31
      · refine lv_aload_n C.1 C.2.1 dX5_moveAt_21 rfl (lv_at hl 0 rfl) ?_
        refine g_X5_0 C hM hj (hI _ (by omega)) wf_X5_9 dX5_moveAt_22 ?_
        refine lv_iload_n C.1 C.2.1 dX5_moveAt_25 rfl (lv_at hl 1 rfl) ?_
        refine al_lm C hM hj (hI _ (by omega)) (by omega) (by omega) dX5_moveAt_26 ?_
        refine lv_goto (tgt := 31) C.1 C.2.1 dX5_moveAt_27 (by decide) ?_
        exact x_iret C hr hM ⟨by rw [if_pos (by omega)]; exact (hL.at (by omega) (by omega)).1.symm, rfl⟩ dX5_moveAt_31
set_option maxRecDepth 100000 in
set_option maxHeartbeats 4000000 in
theorem c_X5_isTaking (l : Launch) (D : va_G) (ad : Nat → Nat) (G : Nat → Nat) (ids : List Nat) (hI : ∀ k, k < 81 → k ∈ ids) (σ : Sg) (j : Nat) (L : List Int) (c : Fn) (z : Int) (hj : j < 11) (hL : LM σ j L c) (h18 : L.length ≤ 18) (hz : IR z) : MET l yX5_isTaking cX5_isTaking 2 (some .boolean) 1 [.ref (ad (26 + 5 * j)), .int (iI z)] D ad G ids σ (QI D ad G ids (fun r σ' => (if 0 ≤ z ∧ z < L.length ∧ c (L.getD z.toNat (-1) % 100) ≠ 0 then 1 else 0) = r ∧ σ = σ')) := by
  have e4 := hL.1
  refine x_enter (by decide) (Nat.le_of_ble_eq_true rfl) ?_
  intro pp ee ss mm args below meth cq C hr ls hl hM
  have hl : lv_has ls 2 [(0, .ref (ad (26 + 5 * j))), (1, .int (iI z))] := hl
  refine lv_iload_n C.1 C.2.1 dX5_isTaking_0 rfl (lv_at hl 1 rfl) ?_
  refine x_if_lt C ⟨by omega, by omega⟩ (tgt := 34) dX5_isTaking_1 (by decide) (fun c1 => ?_) (fun c1 => ?_)
  · refine lv_iconst (v := iI 0) C.1 C.2.1 dX5_isTaking_34 (by decide) ?_
    exact x_zret C hr hM (by first | exact Or.inl rfl | exact Or.inr rfl | omega) ⟨by first | rw [if_neg (by omega)] | rw [if_neg (fun q => by rw [if_pos q.2.2] at e5; omega)], rfl⟩ dX5_isTaking_35
  · refine lv_iload_n C.1 C.2.1 dX5_isTaking_4 rfl (lv_at hl 1 rfl) ?_
    refine lv_aload_n C.1 C.2.1 dX5_isTaking_5 rfl (lv_at hl 0 rfl) ?_
    refine g_X5_4 C hM hj (hI _ (by omega)) wf_X5_25 dX5_isTaking_6 ?_
    refine x_icmp_ge C ⟨by omega, by omega⟩ ⟨by omega, by omega⟩ (tgt := 34) dX5_isTaking_9 (by decide) (fun c9 => ?_) (fun c9 => ?_)
    · refine lv_iconst (v := iI 0) C.1 C.2.1 dX5_isTaking_34 (by decide) ?_
      exact x_zret C hr hM (by first | exact Or.inl rfl | exact Or.inr rfl | omega) ⟨by first | rw [if_neg (by omega)] | rw [if_neg (fun q => by rw [if_pos q.2.2] at e5; omega)], rfl⟩ dX5_isTaking_35
    · refine lv_iload_n C.1 C.2.1 dX5_isTaking_12 rfl (lv_at hl 1 rfl) ?_
      refine lv_aload_n C.1 C.2.1 dX5_isTaking_13 rfl (lv_at hl 0 rfl) ?_
      refine g_X5_1 C hM hj (hI _ (by omega)) wf_X5_15 dX5_isTaking_14 ?_
      refine ln_lt C hM hj (hI _ (by omega)) dX5_isTaking_17 ?_
      refine x_icmp_ge C ⟨by omega, by omega⟩ ⟨by omega, by omega⟩ (tgt := 34) dX5_isTaking_18 (by decide) (fun c18 => ?_) (fun c18 => ?_)
      · refine lv_iconst (v := iI 0) C.1 C.2.1 dX5_isTaking_34 (by decide) ?_
        exact x_zret C hr hM (by first | exact Or.inl rfl | exact Or.inr rfl | omega) ⟨by first | rw [if_neg (by omega)] | rw [if_neg (fun q => by rw [if_pos q.2.2] at e5; omega)], rfl⟩ dX5_isTaking_35
      · refine lv_aload_n C.1 C.2.1 dX5_isTaking_21 rfl (lv_at hl 0 rfl) ?_
        refine g_X5_1 C hM hj (hI _ (by omega)) wf_X5_15 dX5_isTaking_22 ?_
        refine lv_iload_n C.1 C.2.1 dX5_isTaking_25 rfl (lv_at hl 1 rfl) ?_
        refine al_lt C hM hj (hI _ (by omega)) (by omega) (by omega) dX5_isTaking_26 ?_
        have e5 := (hL.at (z := z) (by omega) (by omega)).2
        have e6 : σ (40 + 6 * j + 1) z = 0 ∨ σ (40 + 6 * j + 1) z = 1 := by rw [e5]; split <;> simp
        refine x_if_eq C ⟨by omega, by omega⟩ (tgt := 34) dX5_isTaking_27 (by decide) (fun c27 => ?_) (fun c27 => ?_)
        · refine lv_iconst (v := iI 0) C.1 C.2.1 dX5_isTaking_34 (by decide) ?_
          exact x_zret C hr hM (by first | exact Or.inl rfl | exact Or.inr rfl | omega) ⟨by first | rw [if_neg (by omega)] | rw [if_neg (fun q => by rw [if_pos q.2.2] at e5; omega)], rfl⟩ dX5_isTaking_35
        · refine lv_iconst (v := iI 1) C.1 C.2.1 dX5_isTaking_30 (by decide) ?_
          refine lv_goto (tgt := 35) C.1 C.2.1 dX5_isTaking_31 (by decide) ?_
          exact x_zret C hr hM (by first | exact Or.inl rfl | exact Or.inr rfl | omega) ⟨by rw [if_pos ⟨by omega, by omega, fun q => by rw [if_neg (fun h => h q)] at e5; omega⟩], rfl⟩ dX5_isTaking_35
set_option maxRecDepth 100000 in
set_option maxHeartbeats 4000000 in
theorem c_X5_add (l : Launch) (D : va_G) (ad : Nat → Nat) (G : Nat → Nat) (ids : List Nat) (hI : ∀ k, k < 81 → k ∈ ids) (σ : Sg) (j : Nat) (L : List Int) (c : Fn) (v t : Int) (hj : j < 11) (hL : LM σ j L c) (h18 : L.length < 18) (ht : t = if c (v % 100) ≠ 0 then 1 else 0) : MET l yX5_add cX5_add 3 none 1 [.ref (ad (26 + 5 * j)), .int (iI v), .int (iI t)] D ad G ids σ (QV D ad G ids (fun σ' => OL j σ σ' ∧ LM σ' j (L ++ [v]) c)) := by
  have e4 := hL.1
  have ht2 : t = 0 ∨ t = 1 := by rw [ht]; split <;> simp
  refine x_enter (by decide) (Nat.le_of_ble_eq_true rfl) ?_
  intro pp ee ss mm args below meth cq C hr ls hl hM
  have hl : lv_has ls 3 [(0, .ref (ad (26 + 5 * j))), (1, .int (iI v)), (2, .int (iI t))] := hl
  refine lv_aload_n C.1 C.2.1 dX5_add_0 rfl (lv_at hl 0 rfl) ?_
  refine g_X5_4 C hM hj (hI _ (by omega)) wf_X5_25 dX5_add_1 ?_
  refine x_if_lt C ⟨by omega, by omega⟩ (tgt := 61) dX5_add_4 (by decide) (fun c4 => ?_) (fun c4 => ?_)
  · exfalso; omega
  · refine lv_aload_n C.1 C.2.1 dX5_add_7 rfl (lv_at hl 0 rfl) ?_
    refine g_X5_4 C hM hj (hI _ (by omega)) wf_X5_25 dX5_add_8 ?_
    refine lv_aload_n C.1 C.2.1 dX5_add_11 rfl (lv_at hl 0 rfl) ?_
    refine g_X5_0 C hM hj (hI _ (by omega)) wf_X5_9 dX5_add_12 ?_
    refine ln_lm C hM hj (hI _ (by omega)) dX5_add_15 ?_
    refine x_icmp_ge C ⟨by omega, by omega⟩ ⟨by omega, by omega⟩ (tgt := 61) dX5_add_16 (by decide) (fun c16 => ?_) (fun c16 => ?_)
    · exfalso; omega
    · refine lv_aload_n C.1 C.2.1 dX5_add_19 rfl (lv_at hl 0 rfl) ?_
      refine g_X5_4 C hM hj (hI _ (by omega)) wf_X5_25 dX5_add_20 ?_
      refine lv_aload_n C.1 C.2.1 dX5_add_23 rfl (lv_at hl 0 rfl) ?_
      refine g_X5_1 C hM hj (hI _ (by omega)) wf_X5_15 dX5_add_24 ?_
      refine ln_lt C hM hj (hI _ (by omega)) dX5_add_27 ?_
      refine x_icmp_ge C ⟨by omega, by omega⟩ ⟨by omega, by omega⟩ (tgt := 61) dX5_add_28 (by decide) (fun c28 => ?_) (fun c28 => ?_)
      · exfalso; omega
      · refine lv_aload_n C.1 C.2.1 dX5_add_31 rfl (lv_at hl 0 rfl) ?_
        refine g_X5_0 C hM hj (hI _ (by omega)) wf_X5_9 dX5_add_32 ?_
        refine lv_aload_n C.1 C.2.1 dX5_add_35 rfl (lv_at hl 0 rfl) ?_
        refine g_X5_4 C hM hj (hI _ (by omega)) wf_X5_25 dX5_add_36 ?_
        refine lv_iload_n C.1 C.2.1 dX5_add_39 rfl (lv_at hl 1 rfl) ?_
        refine as_lm C hM hj (hI _ (by omega)) (by omega) (by omega) dX5_add_40 (fun H1 lc1 hM => ?_)
        refine lv_aload_n C.1 C.2.1 dX5_add_41 rfl (lv_at hl 0 rfl) ?_
        refine g_X5_1 C hM hj (hI _ (by omega)) wf_X5_15 dX5_add_42 ?_
        refine lv_aload_n C.1 C.2.1 dX5_add_45 rfl (lv_at hl 0 rfl) ?_
        refine g_X5_4 C hM hj (hI _ (by omega)) wf_X5_25 dX5_add_46 ?_
        rw [upr_ne _ _ (show ((40 + 6 * j + 4) : Nat) ≠ (40 + 6 * j) by omega)]
        refine lv_iload_n C.1 C.2.1 dX5_add_49 rfl (lv_at hl 2 rfl) ?_
        refine as_lt C hM hj (hI _ (by omega)) (by omega) (by omega) (by omega) dX5_add_50 (fun H1 lc1 hM => ?_)
        refine lv_aload_n C.1 C.2.1 dX5_add_51 rfl (lv_at hl 0 rfl) ?_
        refine lv_dup C.1 C.2.1 dX5_add_52 rfl ?_
        refine g_X5_4 C hM hj (hI _ (by omega)) wf_X5_25 dX5_add_53 ?_
        rw [upr_ne _ _ (show ((40 + 6 * j + 4) : Nat) ≠ (40 + 6 * j + 1) by omega)]
        rw [upr_ne _ _ (show ((40 + 6 * j + 4) : Nat) ≠ (40 + 6 * j) by omega)]
        refine lv_iconst (v := iI 1) C.1 C.2.1 dX5_add_56 (by decide) ?_
        refine x_iadd C dX5_add_57 ?_
        refine p_X5_4 C hM hj (hI _ (by omega)) wf_X5_25 dX5_add_58 (fun H1 lc1 hM => ?_)
        refine x_vret C hr hM ?_ dX5_add_61
        (refine ⟨fun r h => ?_, hL.add ht ?_ ?_ ?_⟩)
        · rw [upr_ne _ _ (by omega), upr_ne _ _ (by omega), upr_ne _ _ (by omega)]
        · rw [upr_eq, ups_eq, e4]
        · rw [upr_ne _ _ (by omega), upr_ne _ _ (by omega), upr_eq, e4]
        · rw [upr_ne _ _ (by omega), upr_eq, upr_ne _ _ (by omega), e4]
set_option maxRecDepth 100000 in
set_option maxHeartbeats 4000000 in
theorem c_X5_indexOf (l : Launch) (D : va_G) (ad : Nat → Nat) (G : Nat → Nat) (ids : List Nat) (hI : ∀ k, k < 81 → k ∈ ids) (σ : Sg) (j : Nat) (L : List Int) (c : Fn) (v : Int) (hj : j < 11) (hL : LM σ j L c) (h18 : L.length ≤ 18) (hMB : ∀ v, v ∈ L → 0 ≤ v ∧ v < 2500) (hv : IR v) : MET l yX5_indexOf cX5_indexOf 3 (some .int) 1 [.ref (ad (26 + 5 * j)), .int (iI v)] D ad G ids σ (QI D ad G ids (fun r σ' => IX L v r ∧ σ = σ')) := by
  have e4 := hL.1
  refine x_enter (by decide) (Nat.le_of_ble_eq_true rfl) ?_
  intro pp ee ss mm args below meth cq C hr ls hl hM
  have hl : lv_has ls 3 [(0, .ref (ad (26 + 5 * j))), (1, .int (iI v))] := hl
  refine lv_iconst (v := iI 0) C.1 C.2.1 dX5_indexOf_0 (by decide) ?_
  refine lv_istore_n (lv' := [(2, .int (iI 0)), (0, .ref (ad (26 + 5 * j))), (1, .int (iI v))]) C.1 C.2.1 dX5_indexOf_1 rfl hl (by decide) rfl (fun ls hl => ?_)
  have L2 : ∀ (n : Nat) (i : Int) (H1 : Heap) (lc1 : List Loc) (ls1 : Array Slot), (0 ≤ i ∧ i ≤ L.length) → (∀ k : Nat, (k : Int) < i → L[k]? ≠ some v) → (20 - i).toNat < n → XI D ad G ids (AN ad ids ss.heap.size) ss.heap H1 lc1 σ → lv_has ls1 3 [(2, .int (iI i)), (0, .ref (ad (26 + 5 * j))), (1, .int (iI v))] → W pp l ee (rmh 1) ss mm args below meth cq H1 lc1 0 0 (MQ below (QI D ad G ids (fun r σ' => IX L v r ∧ σ = σ') ss.heap.size) args ss 0 0 (AN ad ids ss.heap.size)) (F0 mm 2 ls1 []) := by
    intro n
    induction n with
    | zero => intro i  H1 lc1 ls1 i0 inv hn; exact absurd hn (Nat.not_lt_zero _)
    | succ n ih =>
      intro i  H1 lc1 ls1 i0 inv hn hM hl
      refine lv_iload_n C.1 C.2.1 dX5_indexOf_2 rfl (lv_at hl 0 rfl) ?_
      refine lv_aload_n C.1 C.2.1 dX5_indexOf_3 rfl (lv_at hl 1 rfl) ?_
      refine g_X5_4 C hM hj (hI _ (by omega)) wf_X5_25 dX5_indexOf_4 ?_
      refine x_icmp_ge C ⟨by omega, by omega⟩ ⟨by omega, by omega⟩ (tgt := 37) dX5_indexOf_7 (by decide) (fun c7 => ?_) (fun c7 => ?_)
      · refine lv_iconst (v := iI (-1)) C.1 C.2.1 dX5_indexOf_37 (by decide) ?_
        refine x_iret C hr hM ?_ dX5_indexOf_38
        exact ⟨Or.inl ⟨rfl, fun q => by
          obtain ⟨k, hk⟩ := List.getElem?_of_mem q
          have := (List.getElem?_eq_some_iff.mp hk).1
          exact inv k (by omega) hk⟩, rfl⟩
      · refine lv_iload_n C.1 C.2.1 dX5_indexOf_10 rfl (lv_at hl 0 rfl) ?_
        refine lv_aload_n C.1 C.2.1 dX5_indexOf_11 rfl (lv_at hl 1 rfl) ?_
        refine g_X5_0 C hM hj (hI _ (by omega)) wf_X5_9 dX5_indexOf_12 ?_
        refine ln_lm C hM hj (hI _ (by omega)) dX5_indexOf_15 ?_
        refine x_icmp_ge C ⟨by omega, by omega⟩ ⟨by omega, by omega⟩ (tgt := 37) dX5_indexOf_16 (by decide) (fun c16 => ?_) (fun c16 => ?_)
        · exfalso; omega
        · refine lv_aload_n C.1 C.2.1 dX5_indexOf_19 rfl (lv_at hl 1 rfl) ?_
          refine g_X5_0 C hM hj (hI _ (by omega)) wf_X5_9 dX5_indexOf_20 ?_
          refine lv_iload_n C.1 C.2.1 dX5_indexOf_23 rfl (lv_at hl 0 rfl) ?_
          refine al_lm C hM hj (hI _ (by omega)) (by omega) (by omega) dX5_indexOf_24 ?_
          have e7 := (hL.at (z := i) (by omega) (by omega)).1
          have e8 := hMB _ (getD_mem (L := L) (i := i) (by omega) (by omega))
          rw [← e7] at e8
          refine lv_iload_n C.1 C.2.1 dX5_indexOf_25 rfl (lv_at hl 2 rfl) ?_
          refine x_icmp_ne C ⟨by omega, by omega⟩ ⟨by omega, by omega⟩ (tgt := 31) dX5_indexOf_26 (by decide) (fun c26 => ?_) (fun c26 => ?_)
          · refine x_iinc (lv1 := [(2, .int (iI (i + 1))), (0, .ref (ad (26 + 5 * j))), (1, .int (iI v))]) C dX5_indexOf_31 hl (k := 0) rfl (by decide) rfl (fun ls hl => ?_)
            refine lv_goto (tgt := 2) C.1 C.2.1 dX5_indexOf_34 (by decide) ?_
            exact ih (i + 1) _ _ _ (by omega) (fun k hk hq => by
              by_cases e : (k : Int) = i
              · have e5 : L.getD i.toNat (-1) = v := by
                  rw [show i.toNat = k by omega, getD_lt (by omega)]
                  exact (List.getElem?_eq_some_iff.mp hq).2
                rw [← e5, ← (hL.at (z := i) (by omega) (by omega)).1] at c26
                exact c26 rfl
              · exact inv k (by omega) hq) (by omega) hM (lv_sub hl [0, 1, 2] rfl)
          · refine lv_iload_n C.1 C.2.1 dX5_indexOf_29 rfl (lv_at hl 0 rfl) ?_
            exact x_iret C hr hM ⟨Or.inr ⟨i.toNat, by rw [List.getElem?_eq_getElem (by omega), ← getD_lt (by omega), ← e7]; exact congrArg some (by omega), by omega⟩, rfl⟩ dX5_indexOf_30
  exact L2 _ 0 _ _ _ (by omega) (fun k hk => by omega) (Nat.lt_succ_self _) hM (lv_sub hl [0, 1, 2] rfl)
set_option maxRecDepth 100000 in
set_option maxHeartbeats 4000000 in
theorem c_X5_place (l : Launch) (D : va_G) (ad : Nat → Nat) (G : Nat → Nat) (ids : List Nat) (hI : ∀ k, k < 81 → k ∈ ids) (σ : Sg) (j : Nat) (L : List Int) (c : Fn) (acc : List Int) (v z : Int) (hj : j < 11) (hL : LM σ j L c) (h18 : L.length ≤ 18) (hN : L.Nodup) (hO : OR σ j L acc) (hz : IX L v z) : MET l yX5_place cX5_place 2 none 1 [.ref (ad (26 + 5 * j)), .int (iI z)] D ad G ids σ (QV D ad G ids (fun σ' => OP j σ σ' ∧ OR σ' j L (wnt L acc v))) := by
  have e5 := hO.1
  have hzr := hz.ir h18
  refine x_enter (by decide) (Nat.le_of_ble_eq_true rfl) ?_
  intro pp ee ss mm args below meth cq C hr ls hl hM
  have hl : lv_has ls 2 [(0, .ref (ad (26 + 5 * j))), (1, .int (iI z))] := hl
  refine lv_iload_n C.1 C.2.1 dX5_place_0 rfl (lv_at hl 1 rfl) ?_
  refine x_if_lt C ⟨by omega, by omega⟩ (tgt := 68) dX5_place_1 (by decide) (fun c1 => ?_) (fun c1 => ?_)
  · refine x_vret C hr hM ?_ dX5_place_68
    (rw [wnt_no (by first | exact hz.elim (fun q => Or.inl q.2) (fun ⟨i, hi, q⟩ => by omega) | exact Or.inr (Classical.byContradiction fun q => by rw [if_neg q] at e6; omega))])
    exact ⟨OP.rf, hO⟩
  · obtain ⟨hz, -⟩ | ⟨i, hi, hz⟩ := hz
    · exfalso; omega
    have hi2 := (List.getElem?_eq_some_iff.mp hi).1
    have e6 := hO.2.2.2.2 i v hi
    rw [← hz] at e6
    have e7 : σ (40 + 6 * j + 3) z = 0 ∨ σ (40 + 6 * j + 3) z = 1 := by rw [e6]; split <;> simp
    have e9 : v ∉ acc → acc.length < L.length := fun q => nodup_lt hO.2.1 hO.2.2.1 (List.mem_of_getElem? hi) q
    refine lv_iload_n C.1 C.2.1 dX5_place_4 rfl (lv_at hl 1 rfl) ?_
    refine lv_aload_n C.1 C.2.1 dX5_place_5 rfl (lv_at hl 0 rfl) ?_
    refine g_X5_3 C hM hj (hI _ (by omega)) wf_X5_22 dX5_place_6 ?_
    refine ln_lp C hM hj (hI _ (by omega)) dX5_place_9 ?_
    refine x_icmp_ge C ⟨by omega, by omega⟩ ⟨by omega, by omega⟩ (tgt := 68) dX5_place_10 (by decide) (fun c10 => ?_) (fun c10 => ?_)
    · exfalso; omega
    · refine lv_aload_n C.1 C.2.1 dX5_place_13 rfl (lv_at hl 0 rfl) ?_
      refine g_X5_3 C hM hj (hI _ (by omega)) wf_X5_22 dX5_place_14 ?_
      refine lv_iload_n C.1 C.2.1 dX5_place_17 rfl (lv_at hl 1 rfl) ?_
      refine al_lp C hM hj (hI _ (by omega)) (by omega) (by omega) dX5_place_18 ?_
      refine x_if_ne C ⟨by omega, by omega⟩ (tgt := 68) dX5_place_19 (by decide) (fun c19 => ?_) (fun c19 => ?_)
      · refine x_vret C hr hM ?_ dX5_place_68
        (rw [wnt_no (by first | exact hz.elim (fun q => Or.inl q.2) (fun ⟨i, hi, q⟩ => by omega) | exact Or.inr (Classical.byContradiction fun q => by rw [if_neg q] at e6; omega))])
        exact ⟨OP.rf, hO⟩
      · have e8 : v ∉ acc := fun q => by rw [if_pos q] at e6; omega
        have e9 := e9 e8
        refine lv_aload_n C.1 C.2.1 dX5_place_22 rfl (lv_at hl 0 rfl) ?_
        refine g_X5_5 C hM hj (hI _ (by omega)) wf_X5_29 dX5_place_23 ?_
        refine x_if_lt C ⟨by omega, by omega⟩ (tgt := 68) dX5_place_26 (by decide) (fun c26 => ?_) (fun c26 => ?_)
        · exfalso; omega
        · refine lv_aload_n C.1 C.2.1 dX5_place_29 rfl (lv_at hl 0 rfl) ?_
          refine g_X5_5 C hM hj (hI _ (by omega)) wf_X5_29 dX5_place_30 ?_
          refine lv_aload_n C.1 C.2.1 dX5_place_33 rfl (lv_at hl 0 rfl) ?_
          refine g_X5_2 C hM hj (hI _ (by omega)) wf_X5_19 dX5_place_34 ?_
          refine ln_lr C hM hj (hI _ (by omega)) dX5_place_37 ?_
          refine x_icmp_ge C ⟨by omega, by omega⟩ ⟨by omega, by omega⟩ (tgt := 68) dX5_place_38 (by decide) (fun c38 => ?_) (fun c38 => ?_)
          · exfalso; omega
          · refine lv_aload_n C.1 C.2.1 dX5_place_41 rfl (lv_at hl 0 rfl) ?_
            refine g_X5_3 C hM hj (hI _ (by omega)) wf_X5_22 dX5_place_42 ?_
            refine lv_iload_n C.1 C.2.1 dX5_place_45 rfl (lv_at hl 1 rfl) ?_
            refine lv_iconst (v := iI 1) C.1 C.2.1 dX5_place_46 (by decide) ?_
            refine as_lp C hM hj (hI _ (by omega)) (by omega) (by omega) (by omega) dX5_place_47 (fun H1 lc1 hM => ?_)
            refine lv_aload_n C.1 C.2.1 dX5_place_48 rfl (lv_at hl 0 rfl) ?_
            refine g_X5_2 C hM hj (hI _ (by omega)) wf_X5_19 dX5_place_49 ?_
            refine lv_aload_n C.1 C.2.1 dX5_place_52 rfl (lv_at hl 0 rfl) ?_
            refine g_X5_5 C hM hj (hI _ (by omega)) wf_X5_29 dX5_place_53 ?_
            rw [upr_ne _ _ (show ((40 + 6 * j + 5) : Nat) ≠ (40 + 6 * j + 3) by omega)]
            refine lv_iload_n C.1 C.2.1 dX5_place_56 rfl (lv_at hl 1 rfl) ?_
            refine as_lr C hM hj (hI _ (by omega)) (by omega) (by omega) dX5_place_57 (fun H1 lc1 hM => ?_)
            refine lv_aload_n C.1 C.2.1 dX5_place_58 rfl (lv_at hl 0 rfl) ?_
            refine lv_dup C.1 C.2.1 dX5_place_59 rfl ?_
            refine g_X5_5 C hM hj (hI _ (by omega)) wf_X5_29 dX5_place_60 ?_
            rw [upr_ne _ _ (show ((40 + 6 * j + 5) : Nat) ≠ (40 + 6 * j + 2) by omega)]
            rw [upr_ne _ _ (show ((40 + 6 * j + 5) : Nat) ≠ (40 + 6 * j + 3) by omega)]
            refine lv_iconst (v := iI 1) C.1 C.2.1 dX5_place_63 (by decide) ?_
            refine x_iadd C dX5_place_64 ?_
            refine p_X5_5 C hM hj (hI _ (by omega)) wf_X5_29 dX5_place_65 (fun H1 lc1 hM => ?_)
            refine x_vret C hr hM ?_ dX5_place_68
            (rw [wnt_in (List.mem_of_getElem? hi) e8])
            refine ⟨fun r h => ?_, hO.put hN hi e8 ?_ ?_ ?_⟩
            · rw [upr_ne _ _ (by omega), upr_ne _ _ (by omega), upr_ne _ _ (by omega)]
            · rw [upr_ne _ _ (by omega), upr_ne _ _ (by omega), upr_eq, hz]
            · rw [upr_ne _ _ (by omega), upr_eq, upr_ne _ _ (by omega), hz, e5]
            · rw [upr_eq, ups_eq, e5]
set_option maxRecDepth 100000 in
set_option maxHeartbeats 4000000 in
theorem c_X5_inOrder (l : Launch) (D : va_G) (ad : Nat → Nat) (G : Nat → Nat) (ids : List Nat) (hI : ∀ k, k < 81 → k ∈ ids) (σ : Sg) (j : Nat) (L : List Int) (c : Fn) (acc : List Int) (z : Int) (hj : j < 11) (hL : LM σ j L c) (h18 : L.length ≤ 18) (hO : OR σ j L acc) (hz : 0 ≤ z ∧ z < acc.length) : MET l yX5_inOrder cX5_inOrder 2 (some .int) 1 [.ref (ad (26 + 5 * j)), .int (iI z)] D ad G ids σ (QI D ad G ids (fun r σ' => (0 ≤ r ∧ r < L.length ∧ L.getD r.toNat (-1) = acc.getD z.toNat (-1)) ∧ σ = σ')) := by
  have e5 := hO.1
  have e6 := nodup_len _ _ hO.2.1 hO.2.2.1
  obtain ⟨i, e7, e8⟩ := hO.2.2.2.1 z.toNat _ (List.getElem?_eq_getElem (by omega))
  rw [Int.toNat_of_nonneg hz.1] at e8
  have e9 := (List.getElem?_eq_some_iff.mp e7).1
  have e10 := (List.getElem?_eq_some_iff.mp e7).2
  refine x_enter (by decide) (Nat.le_of_ble_eq_true rfl) ?_
  intro pp ee ss mm args below meth cq C hr ls hl hM
  have hl : lv_has ls 2 [(0, .ref (ad (26 + 5 * j))), (1, .int (iI z))] := hl
  refine lv_iload_n C.1 C.2.1 dX5_inOrder_0 rfl (lv_at hl 1 rfl) ?_
  refine x_if_lt C ⟨by omega, by omega⟩ (tgt := 30) dX5_inOrder_1 (by decide) (fun c1 => ?_) (fun c1 => ?_)
  · exfalso; omega
  · refine lv_iload_n C.1 C.2.1 dX5_inOrder_4 rfl (lv_at hl 1 rfl) ?_
    refine lv_aload_n C.1 C.2.1 dX5_inOrder_5 rfl (lv_at hl 0 rfl) ?_
    refine g_X5_5 C hM hj (hI _ (by omega)) wf_X5_29 dX5_inOrder_6 ?_
    refine x_icmp_ge C ⟨by omega, by omega⟩ ⟨by omega, by omega⟩ (tgt := 30) dX5_inOrder_9 (by decide) (fun c9 => ?_) (fun c9 => ?_)
    · exfalso; omega
    · refine lv_iload_n C.1 C.2.1 dX5_inOrder_12 rfl (lv_at hl 1 rfl) ?_
      refine lv_aload_n C.1 C.2.1 dX5_inOrder_13 rfl (lv_at hl 0 rfl) ?_
      refine g_X5_2 C hM hj (hI _ (by omega)) wf_X5_19 dX5_inOrder_14 ?_
      refine ln_lr C hM hj (hI _ (by omega)) dX5_inOrder_17 ?_
      refine x_icmp_ge C ⟨by omega, by omega⟩ ⟨by omega, by omega⟩ (tgt := 30) dX5_inOrder_18 (by decide) (fun c18 => ?_) (fun c18 => ?_)
      · exfalso; omega
      · refine lv_aload_n C.1 C.2.1 dX5_inOrder_21 rfl (lv_at hl 0 rfl) ?_
        refine g_X5_2 C hM hj (hI _ (by omega)) wf_X5_19 dX5_inOrder_22 ?_
        refine lv_iload_n C.1 C.2.1 dX5_inOrder_25 rfl (lv_at hl 1 rfl) ?_
        refine al_lr C hM hj (hI _ (by omega)) (by omega) (by omega) dX5_inOrder_26 ?_
        refine lv_goto (tgt := 31) C.1 C.2.1 dX5_inOrder_27 (by decide) ?_
        exact x_iret C hr hM ⟨⟨by omega, by omega, by rw [show (σ (40 + 6 * j + 2) z).toNat = i by omega, getD_lt e9, getD_lt (by omega)]; exact e10⟩, rfl⟩ dX5_inOrder_31
