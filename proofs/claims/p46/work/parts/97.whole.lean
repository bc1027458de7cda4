/-! the law from its entry -/
set_option maxRecDepth 100000 in
set_option maxHeartbeats 4000000 in
/-- YOUR PART: from the entry, for every script of at most 260 ints, the law comes to its end with true ('hflags': the launch's flags, for a law that throws: no stack traces) -/
theorem whole_start {p : Program} {e : Env} {s : State} {m : MethodId} {below : List Frame} {meth : Method} {c : Code} (l : Launch) (hflags : l.flags = flags0) {b L : Nat} {xs : Nat → Int32} (hL : L ≤ 260) (C0 : lw_At p s m meth c b L xs) : W p l e room_1 s m #[Value.ref b] below meth c s.heap [] 0 0 (lw_Z below #[Value.ref b] s) (entryFrame m ([Value.ref b] : List Value).toArray 5) := by
  obtain ⟨hx, hb, hr, hml, hown, hts, hX, hbl, hlk, hgv⟩ := C0
  have hst : l.stackTraces = false := by
    unfold Launch.stackTraces
    rw [hflags]
    decide
  obtain ⟨D, hD⟩ := st_D hts
  obtain ⟨G, hG⟩ := st_G hts
  obtain ⟨sa, hTX⟩ := st_TX hts hgv
  have hAV := st_AV hts
  have C : Cx p s m meth c #[Value.ref b] cL_law 5 RL D G := ⟨hx, hb, hml, hown, st_wa hts, ⟨hD, hG⟩, st_NW hts, hlk⟩
  have hA : ∀ q, s.heap.size ≤ q → FA s q := fun q h => h
  have hM : XR D (FA s) s.heap s.heap [] ([] : va_W) := ⟨fun k q hq => (by cases hq), ⟨fun i j p q hi => (by cases hi), fun k q hq => (by cases hq)⟩, va_S.rf⟩
  rw [lg_entry_eq]
  have hl : lv_has ((lg_sl [Value.ref b] ++ List.replicate (5 - (lg_sl [Value.ref b]).length) Slot.unset).toArray) 5 [(0, .ref b)] := lv_entry [Value.ref b] (n := 5) (Nat.le_of_ble_eq_true rfl)
  generalize ((lg_sl [Value.ref b] ++ List.replicate (5 - (lg_sl [Value.ref b]).length) Slot.unset).toArray) = ls at hl ⊢
  refine r_newO C hA hM cl_L_9 in_X11 wn_X11 rfl inWX11 tyX11 tyX11_ok (ci := 11) (fs := [.null, .null, .null, .null, .null, .null, .null, .null]) (fun j hj => by match j, hj with | 0, _ => rfl | 1, _ => rfl | 2, _ => rfl | 3, _ => rfl | 4, _ => rfl | 5, _ => rfl | 6, _ => rfl | 7, _ => rfl | k + 8, h => exact absurd h (by omega)) (Nat.le_of_ble_eq_true rfl) (Nat.le_of_ble_eq_true rfl) dL_law_0 (fun o1 H1 hM => ?_)
  refine lv_dup C.1 C.2.1 dL_law_3 rfl ?_
  refine r_init C hAV hA hM 0 rfl ⟨Nat.le_of_ble_eq_true rfl, Nat.le_of_ble_eq_true rfl⟩ (As := []) (rest := [.ref o1]) ci_L_11 (c_X11_init l D G) rfl rfl (Nat.le_of_ble_eq_true rfl) hl.1 dL_law_4 ⟨Nat.le_of_ble_eq_true rfl, Nat.le_of_ble_eq_true rfl⟩ (fun w H2 lc2 hp hM => ?_)
  obtain ⟨ad, σ, had, hw, hO, hLM⟩ := hp
  obtain ⟨new, hnew⟩ := WG_IC_cons ad G σ
  have hM := hM (cell ad G σ 0) new (by rw [hw, hnew, had])
  have hM : XR D (FA s) s.heap H2 lc2 (WG ad G IC σ) := by
    rw [hnew, had]
    exact hM
  have hM : XE D ad G IC (FA s) s.heap H2 lc2 σ [] := XI.e ⟨hM.1, hM.2.1, hM.2.2, fun k hk => Or.inl (IC_mem.mp hk)⟩
  refine lv_astore_n C.1 C.2.1 dL_law_7 rfl hl (by decide) rfl (fun ls hl => ?_)
  refine lv_iconst C.1 C.2.1 (v := iI 0) dL_law_8 rfl ?_
  refine lv_istore_n C.1 C.2.1 dL_law_9 rfl hl (by decide) rfl (fun ls hl => ?_)
  have hl : lv_has ls 5 (BL b ad 0) := by
    have h9 := lv_sub hl [2, 1, 0] rfl
    rw [← had] at h9
    exact h9
  exact lw_loop hst C (st_NCS hgv) hTX (st_TZ hts hgv) hX hbl hL hr (fun k h => IC_mem.mpr h) 40 σ H2 lc2 ls 0 _ _ (by decide) (by decide) hM (JI_init hO hLM) hl (by decide) (by decide)
