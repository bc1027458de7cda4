set_option maxRecDepth 100000 in
set_option maxHeartbeats 4000000 in
theorem c_X4_ofTurns (l : Launch) (D : va_G) (ad : Nat → Nat) (G : Nat → Nat) (ids : List Nat) (hI : ∀ k, k < 81 → k ∈ ids) (σ : Sg) (t : Nat) (tn : Int) (htn : tn = (t : Int)) (ht : t < 9) : MET l yX4_ofTurns cX4_ofTurns 3 (some (.object "KindlingTree$MoveList")) 1 [.ref (ad 24), .int (iI tn)] D ad G ids σ (QR D ad G ids (fun k σ' => 26 + 5 * (t + 1) = k ∧ σ = σ')) := by
  refine x_enter (by decide) (Nat.le_of_ble_eq_true rfl) ?_
  intro pp ee ss mm args below meth cq C hr ls hl hM
  have hl : lv_has ls 3 [(0, .ref (ad 24)), (1, .int (iI tn))] := hl
  refine lv_iload_n C.1 C.2.1 dX4_ofTurns_0 rfl (lv_at hl 1 rfl) ?_
  refine x_if_lt C ⟨by omega, by omega⟩ (tgt := 22) dX4_ofTurns_1 (by decide) (fun c1 => ?_) (fun c1 => ?_)
  · exfalso; omega
  · refine lv_iload_n C.1 C.2.1 dX4_ofTurns_4 rfl (lv_at hl 1 rfl) ?_
    refine lv_aload_n C.1 C.2.1 dX4_ofTurns_5 rfl (lv_at hl 0 rfl) ?_
    refine g_X4_0 C hM (hI 24 (by decide)) wf_X4_11 dX4_ofTurns_6 ?_
    refine ln_25 C hM (hI 25 (by decide)) dX4_ofTurns_9 ?_
    refine x_icmp_ge C ⟨by omega, by omega⟩ ⟨by omega, by omega⟩ (tgt := 22) dX4_ofTurns_10 (by decide) (fun c10 => ?_) (fun c10 => ?_)
    · exfalso; omega
    · refine lv_aload_n C.1 C.2.1 dX4_ofTurns_13 rfl (lv_at hl 0 rfl) ?_
      refine g_X4_0 C hM (hI 24 (by decide)) wf_X4_11 dX4_ofTurns_14 ?_
      refine lv_iload_n C.1 C.2.1 dX4_ofTurns_17 rfl (lv_at hl 1 rfl) ?_
      rw [htn]
      refine aa_levels C hM (hI 25 (by decide)) (i := t) ht dX4_ofTurns_18 ?_
      refine lv_goto (tgt := 26) C.1 C.2.1 dX4_ofTurns_19 (by decide) ?_
      refine lv_astore_n (lv' := [(2, .ref (ad (26 + 5 * (t + 1)))), (0, .ref (ad 24)), (1, .int (iI tn))]) C.1 C.2.1 dX4_ofTurns_26 rfl hl (by decide) rfl (fun ls hl => ?_)
      refine lv_aload_n C.1 C.2.1 dX4_ofTurns_27 rfl (lv_at hl 0 rfl) ?_
      refine lv_ifnonnull (tgt := 38) C.1 C.2.1 dX4_ofTurns_28 (by decide) ?_
      refine lv_aload_n C.1 C.2.1 dX4_ofTurns_38 rfl (lv_at hl 0 rfl) ?_
      exact x_aret C hr (Or.inl ⟨_, rfl⟩) hM ⟨rfl, rfl⟩ dX4_ofTurns_39
set_option maxRecDepth 100000 in
set_option maxHeartbeats 4000000 in
theorem c_X4_ofDepth (l : Launch) (D : va_G) (ad : Nat → Nat) (G : Nat → Nat) (ids : List Nat) (hI : ∀ k, k < 81 → k ∈ ids) (σ : Sg) (t : Nat) (tn : Int) (htn : 4 + tn = (t : Int)) (ht : t < 9) : MET l yX4_ofDepth cX4_ofDepth 2 (some (.object "KindlingTree$MoveList")) 2 [.ref (ad 24), .int (iI tn)] D ad G ids σ (QR D ad G ids (fun k σ' => 26 + 5 * (t + 1) = k ∧ σ = σ')) := by
  refine x_enter (by decide) (Nat.le_of_ble_eq_true rfl) ?_
  intro pp ee ss mm args below meth cq C hr ls hl hM
  have hl : lv_has ls 2 [(0, .ref (ad 24)), (1, .int (iI tn))] := hl
  refine lv_aload_n C.1 C.2.1 dX4_ofDepth_0 rfl (lv_at hl 0 rfl) ?_
  refine lv_iconst (v := iI 4) C.1 C.2.1 dX4_ofDepth_1 (by decide) ?_
  refine lv_iload_n C.1 C.2.1 dX4_ofDepth_2 rfl (lv_at hl 1 rfl) ?_
  refine x_iadd C dX4_ofDepth_3 ?_
  refine x_cr (x_runV (As := [.int (iI (4 + tn))]) (rest := []) C (by omega) cw_X4_22 (c_X4_ofTurns l D ad G ids hI σ t (4 + tn) htn (by omega)) hM (hI 24 (by decide)) (cx_24 ad G _) rfl rfl rfl rfl (Nat.le_of_ble_eq_true rfl) hl.1 dX4_ofDepth_4) hM (fun r4 s4 H1 lc1 hp hM => ?_)
  obtain ⟨rfl, rfl⟩ := hp
  exact x_aret C hr (Or.inl ⟨_, rfl⟩) hM ⟨rfl, rfl⟩ dX4_ofDepth_7
