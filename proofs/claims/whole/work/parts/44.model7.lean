set_option maxRecDepth 100000 in
set_option maxHeartbeats 4000000 in
theorem c_J7_fill (l : Launch) (D : va_G) (ad : Nat → Nat) (G : Nat → Nat) (ids : List Nat) (hJ : ∀ k, 100 ≤ k → k < 233 → k ∈ ids) (σ : Sg) (i v : Int) (hi : 0 ≤ i ∧ i < 5) : MET l yJ7_fill_53178 cJ7_fill_53178 4 none 1 [.ref (ad (196 + (i).toNat)), .int (iI v)] D ad G ids σ (QV D ad G ids (fun σ' => upr (upr σ 217 (ups (σ 217) i v)) 218 (ups (σ 218) i v) = σ')) := by
  refine x_enter (by decide) (Nat.le_of_ble_eq_true rfl) ?_
  intro pp ee ss mm args below meth cq C hr ls hl hM
  have hl : lv_has ls 4 [(0, .ref (ad (196 + (i).toNat))), (1, .int (iI v))] := hl
  refine lv_iconst (v := iI 0) C.1 C.2.1 dJ7_fill_53178_0 (by decide) ?_
  refine lv_istore_n (lv' := [(2, .int (iI 0)), (0, .ref (ad (196 + (i).toNat))), (1, .int (iI v))]) C.1 C.2.1 dJ7_fill_53178_1 rfl hl (by decide) rfl (fun ls hl => ?_)
  refine lv_aload_n C.1 C.2.1 dJ7_fill_53178_2 rfl (lv_at hl 1 rfl) ?_
  refine ln_kiz C hM hi.1 hi.2 (hJ _ (by omega) (by omega)) dJ7_fill_53178_3 ?_
  refine lv_istore_n (lv' := [(3, .int (iI 2)), (2, .int (iI 0)), (0, .ref (ad (196 + (i).toNat))), (1, .int (iI v))]) C.1 C.2.1 dJ7_fill_53178_4 rfl hl (by decide) rfl (fun ls hl => ?_)
  refine lv_iload_n C.1 C.2.1 dJ7_fill_53178_5 rfl (lv_at hl 1 rfl) ?_
  refine lv_iload_n C.1 C.2.1 dJ7_fill_53178_6 rfl (lv_at hl 0 rfl) ?_
  refine x_icmp_ge C ⟨by omega, by omega⟩ ⟨by omega, by omega⟩ (tgt := 20) dJ7_fill_53178_7 (by decide) (fun c7 => ?_) (fun c7 => ?_)
  · exact absurd c7 (by omega)
  · refine lv_aload_n C.1 C.2.1 dJ7_fill_53178_10 rfl (lv_at hl 2 rfl) ?_
    refine lv_iload_n C.1 C.2.1 dJ7_fill_53178_11 rfl (lv_at hl 1 rfl) ?_
    refine lv_iload_n C.1 C.2.1 dJ7_fill_53178_12 rfl (lv_at hl 3 rfl) ?_
    refine asz_ki0 C hM hi.1 hi.2 (hJ _ (by omega) (by omega)) dJ7_fill_53178_13 (fun H1 lc1 hM => ?_)
    refine x_iinc (lv1 := [(2, .int (iI 1)), (3, .int (iI 2)), (0, .ref (ad (196 + (i).toNat))), (1, .int (iI v))]) C dJ7_fill_53178_14 hl (k := 1) rfl (by decide) rfl (fun ls hl => ?_)
    refine lv_goto (tgt := 5) C.1 C.2.1 dJ7_fill_53178_17 (by decide) ?_
    refine lv_iload_n C.1 C.2.1 dJ7_fill_53178_5 rfl (lv_at hl 0 rfl) ?_
    refine lv_iload_n C.1 C.2.1 dJ7_fill_53178_6 rfl (lv_at hl 1 rfl) ?_
    refine x_icmp_ge C ⟨by omega, by omega⟩ ⟨by omega, by omega⟩ (tgt := 20) dJ7_fill_53178_7 (by decide) (fun c7 => ?_) (fun c7 => ?_)
    · exact absurd c7 (by omega)
    · refine lv_aload_n C.1 C.2.1 dJ7_fill_53178_10 rfl (lv_at hl 2 rfl) ?_
      refine lv_iload_n C.1 C.2.1 dJ7_fill_53178_11 rfl (lv_at hl 0 rfl) ?_
      refine lv_iload_n C.1 C.2.1 dJ7_fill_53178_12 rfl (lv_at hl 3 rfl) ?_
      refine asz_ki1 C hM hi.1 hi.2 (hJ _ (by omega) (by omega)) dJ7_fill_53178_13 (fun H1 lc1 hM => ?_)
      refine x_iinc (lv1 := [(2, .int (iI 2)), (3, .int (iI 2)), (0, .ref (ad (196 + (i).toNat))), (1, .int (iI v))]) C dJ7_fill_53178_14 hl (k := 0) rfl (by decide) rfl (fun ls hl => ?_)
      refine lv_goto (tgt := 5) C.1 C.2.1 dJ7_fill_53178_17 (by decide) ?_
      refine lv_iload_n C.1 C.2.1 dJ7_fill_53178_5 rfl (lv_at hl 0 rfl) ?_
      refine lv_iload_n C.1 C.2.1 dJ7_fill_53178_6 rfl (lv_at hl 1 rfl) ?_
      refine x_icmp_ge C ⟨by omega, by omega⟩ ⟨by omega, by omega⟩ (tgt := 20) dJ7_fill_53178_7 (by decide) (fun c7 => ?_) (fun c7 => ?_)
      · exact x_vret C hr hM rfl dJ7_fill_53178_20
      · exact absurd c7 (by omega)
