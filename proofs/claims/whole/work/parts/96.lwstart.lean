/-! the law from its entry -/
theorem st_ad (ad : Nat → Nat) (G : Nat → Nat) (σ : Sg) (q : Nat) : ∀ k : Nat, k < 81 → cell (va_up ad 240 q) G σ k = cell ad G σ k
  | 0, _ => rfl
  | 1, _ => rfl
  | 2, _ => rfl
  | 3, _ => rfl
  | 4, _ => rfl
  | 5, _ => rfl
  | 6, _ => rfl
  | 7, _ => rfl
  | 8, _ => rfl
  | 9, _ => rfl
  | 10, _ => rfl
  | 11, _ => rfl
  | 12, _ => rfl
  | 13, _ => rfl
  | 14, _ => rfl
  | 15, _ => rfl
  | 16, _ => rfl
  | 17, _ => rfl
  | 18, _ => rfl
  | 19, _ => rfl
  | 20, _ => rfl
  | 21, _ => rfl
  | 22, _ => rfl
  | 23, _ => rfl
  | 24, _ => rfl
  | 25, _ => by
    rw [cx_25, cx_25]
    refine congrArg (fun f : Nat → Option Nat => (Sum.inl (G 3, _, .inr (.inr (.inr (.inr f)))) : va_E)) (funext fun i => ?_)
    unfold va_up
    split
    · omega
    · rfl
  | 26, _ => rfl
  | 27, _ => rfl
  | 28, _ => rfl
  | 29, _ => rfl
  | 30, _ => rfl
  | 31, _ => rfl
  | 32, _ => rfl
  | 33, _ => rfl
  | 34, _ => rfl
  | 35, _ => rfl
  | 36, _ => rfl
  | 37, _ => rfl
  | 38, _ => rfl
  | 39, _ => rfl
  | 40, _ => rfl
  | 41, _ => rfl
  | 42, _ => rfl
  | 43, _ => rfl
  | 44, _ => rfl
  | 45, _ => rfl
  | 46, _ => rfl
  | 47, _ => rfl
  | 48, _ => rfl
  | 49, _ => rfl
  | 50, _ => rfl
  | 51, _ => rfl
  | 52, _ => rfl
  | 53, _ => rfl
  | 54, _ => rfl
  | 55, _ => rfl
  | 56, _ => rfl
  | 57, _ => rfl
  | 58, _ => rfl
  | 59, _ => rfl
  | 60, _ => rfl
  | 61, _ => rfl
  | 62, _ => rfl
  | 63, _ => rfl
  | 64, _ => rfl
  | 65, _ => rfl
  | 66, _ => rfl
  | 67, _ => rfl
  | 68, _ => rfl
  | 69, _ => rfl
  | 70, _ => rfl
  | 71, _ => rfl
  | 72, _ => rfl
  | 73, _ => rfl
  | 74, _ => rfl
  | 75, _ => rfl
  | 76, _ => rfl
  | 77, _ => rfl
  | 78, _ => rfl
  | 79, _ => rfl
  | 80, _ => rfl
  | k + 81, h => absurd h (by omega)
theorem st_world {D : va_G} {A : Nat → Prop} {H0 H : Heap} {locs : List Loc} {G : Nat → Nat} {ad ad2 : Nat → Nat} {σ τ : Sg} {q : Nat} (h : XR D A H0 H locs (WG ad G IC σ ++ WG ad2 G IM τ ++ [zJ G q 1])) : XE D (va_up ad 240 q) G IL A H0 H locs (upr σ 270 (fun _ => 0)) (WG ad2 G IM τ) := by
  obtain ⟨hP, hD, hS⟩ := h
  have e1 : WG (va_up ad 240 q) G IC (upr σ 270 (fun _ => 0)) = WG ad G IC σ := by
    unfold WG
    refine List.map_congr_left (fun k hk => ?_)
    have h81 := IC_mem.mp hk
    have a1 : va_up ad 240 q k = ad k := if_neg (by omega)
    rw [a1, cell_dep (va_up ad 240 q) G (σ := σ) (σ1 := upr σ 270 (fun _ => 0)) k (fun r hr => upr_ne _ _ (fun e => ?_)) (fun r i hr => upr_ne _ _ (fun e => ?_) ▸ rfl) (Or.inl h81), st_ad ad G σ q k h81]
    · subst e
      rcases hr with hr | hr
      · rw [own_270] at hr; omega
      · omega
    · subst e
      unfold dq at hr
      omega
  have e2 : WG (va_up ad 240 q) G IL (upr σ 270 (fun _ => 0)) = WG ad G IC σ ++ [zJ G q 1] := by
    have e3 : WG (va_up ad 240 q) G IL (upr σ 270 (fun _ => 0)) = WG (va_up ad 240 q) G IC (upr σ 270 (fun _ => 0)) ++ [zJ G q 1] := by
      unfold IL WG
      rw [List.map_append]
      rfl
    rw [e3, e1]
  unfold XE
  rw [e2]
  rw [List.append_assoc] at hP hD
  refine ⟨?_, ?_, hS, IL_vld⟩
  · rw [List.append_assoc]
    exact hP.left.app (hP.right.right.app hP.right.left)
  · rw [List.append_assoc]
    exact hD.sw
theorem WG_IC_cons (ad : Nat → Nat) (G : Nat → Nat) (σ : Sg) : ∃ new : va_W, WG ad G IC σ = (ad 0, cell ad G σ 0) :: new := by
  have e : IC = 0 :: IC.tail := by decide
  refine ⟨WG ad G IC.tail σ, ?_⟩
  have h : WG ad G IC σ = WG ad G (0 :: IC.tail) σ := by rw [← e]
  rw [h]
  rfl
/-- YOUR PART: from the entry, for every script of at most 2048 ints, the law comes to its end with true ('hflags': the launch's flags, for a law that throws: no stack traces) -/
theorem whole_start {p : Program} {e : Env} {s : State} {m : MethodId} {below : List Frame} {meth : Method} {c : Code} (l : Launch) (hflags : l.flags = flags0) {b L : Nat} {xs : Nat → Int32} (hL : L ≤ 2048) (C0 : lw_At p s m meth c b L xs) : W p l e room_1 s m #[Value.ref b] below meth c s.heap [] 0 0 (lw_Z below #[Value.ref b] s) (entryFrame m ([Value.ref b] : List Value).toArray 9) := by
  obtain ⟨hx, hb, hr, hml, hown, hts, hX, hbl, hlk, hgv⟩ := C0
  have hst : l.stackTraces = false := by
    unfold Launch.stackTraces
    rw [hflags]
    decide
  obtain ⟨D, hD⟩ := st_D hts
  obtain ⟨G, hG⟩ := st_G hts
  obtain ⟨sa, hTX⟩ := st_TX hts hgv
  have hAV := st_AV hts
  have C : Cx p s m meth c #[Value.ref b] cL_law 9 RL D G := ⟨hx, hb, hml, hown, st_wa hts, ⟨hD, hG⟩, st_NW hts, hlk⟩
  have K : LC p s m meth c b L xs D G sa := ⟨C, st_NCS hgv, hTX, st_TZ hts hgv, hX, hbl, hL⟩
  have hA : ∀ q, s.heap.size ≤ q → FA s q := fun q h => h
  have hM : XR D (FA s) s.heap s.heap [] ([] : va_W) := ⟨fun k q hq => (by cases hq), ⟨fun i j p q hi => (by cases hi), fun k q hq => (by cases hq)⟩, va_S.rf⟩
  rw [lg_entry_eq]
  have hl : lv_has ((lg_sl [Value.ref b] ++ List.replicate (9 - (lg_sl [Value.ref b]).length) Slot.unset).toArray) 9 [(0, .ref b)] := lv_entry [Value.ref b] (n := 9) (Nat.le_of_ble_eq_true rfl)
  generalize ((lg_sl [Value.ref b] ++ List.replicate (9 - (lg_sl [Value.ref b]).length) Slot.unset).toArray) = ls at hl ⊢
  refine r_newO C hA hM cl_L_8 in_X11 wn_X11 rfl inWX11 tyX11 tyX11_ok (ci := 11) (fs := [.null, .null, .null, .null, .null, .null, .null, .null]) (fun j hj => by match j, hj with | 0, _ => rfl | 1, _ => rfl | 2, _ => rfl | 3, _ => rfl | 4, _ => rfl | 5, _ => rfl | 6, _ => rfl | 7, _ => rfl | k + 8, h => exact absurd h (by omega)) (Nat.le_of_ble_eq_true rfl) (Nat.le_of_ble_eq_true rfl) dL_law_0 (fun o1 H1 hM => ?_)
  refine lv_dup C.1 C.2.1 dL_law_3 rfl ?_
  refine r_init C hAV hA hM 0 rfl ⟨Nat.le_of_ble_eq_true rfl, Nat.le_of_ble_eq_true rfl⟩ (As := []) (rest := [.ref o1]) ci_L_77 (c_X11_init l D G) rfl rfl (Nat.le_of_ble_eq_true rfl) hl.1 dL_law_4 ⟨Nat.le_of_ble_eq_true rfl, Nat.le_of_ble_eq_true rfl⟩ (fun w H2 lc2 hp hM => ?_)
  obtain ⟨ad, σ, had, hw, hO, hLM⟩ := hp
  obtain ⟨new, hnew⟩ := WG_IC_cons ad G σ
  have hM := hM (cell ad G σ 0) new (by rw [hw, hnew, had])
  have hM : XR D (FA s) s.heap H2 lc2 (WG ad G IC σ) := by
    rw [hnew, had]
    exact hM
  refine lv_astore_n C.1 C.2.1 dL_law_7 rfl hl (by decide) rfl (fun ls hl => ?_)
  refine r_newO C hA hM cl_L_78 in_X12 wn_X12 rfl inWX12 tyX12 tyX12_ok (ci := 12) (fs := [.int 0, .int 0, .int 0, .null, .null, .int 0, .int 0, .int 0, .int 0, .int 0, .null, .int 0, .null, .null, .null, .null, .int 0, .int 0, .int 0, .int 0, .int 0, .int 0, .int 0, .null, .null, .long 0]) (fun j hj => by match j, hj with | 0, _ => rfl | 1, _ => rfl | 2, _ => rfl | 3, _ => rfl | 4, _ => rfl | 5, _ => rfl | 6, _ => rfl | 7, _ => rfl | 8, _ => rfl | 9, _ => rfl | 10, _ => rfl | 11, _ => rfl | 12, _ => rfl | 13, _ => rfl | 14, _ => rfl | 15, _ => rfl | 16, _ => rfl | 17, _ => rfl | 18, _ => rfl | 19, _ => rfl | 20, _ => rfl | 21, _ => rfl | 22, _ => rfl | 23, _ => rfl | 24, _ => rfl | 25, _ => rfl | k + 26, h => exact absurd h (by omega)) (Nat.le_of_ble_eq_true rfl) (Nat.le_of_ble_eq_true rfl) dL_law_8 (fun o2 H3 hM => ?_)
  refine lv_dup C.1 C.2.1 dL_law_11 rfl ?_
  have hlen : (WG ad G IC σ).length = 81 := by rw [wg_len]; rfl
  refine r_init C hAV hA hM 81 (by rw [List.getElem?_append_right (by omega), hlen]; rfl) ⟨Nat.le_of_ble_eq_true rfl, Nat.le_of_ble_eq_true rfl⟩ (As := []) (rest := [.ref o2]) ci_L_80 (c_X12_init l D G) rfl rfl (Nat.le_of_ble_eq_true rfl) hl.1 dL_law_12 ⟨Nat.le_of_ble_eq_true rfl, Nat.le_of_ble_eq_true rfl⟩ (fun w2 H4 lc4 hp2 hM => ?_)
  obtain ⟨ad2, had2, hw2⟩ := hp2
  have hcons : WG ad2 G IM (laR (lay0 σM 3 3) (3 * 3) (1 * 3)) = (ad2 100, .inr (12, fsM ad2 (laR (lay0 σM 3 3) (3 * 3) (1 * 3)) (.ref (ad2 101)))) :: ((ad2 101, cell ad2 G (laR (lay0 σM 3 3) (3 * 3) (1 * 3)) 101) :: WG ad2 G IM2 (laR (lay0 σM 3 3) (3 * 3) (1 * 3))) := wg_im _ _ _
  have hM := hM _ _ (by rw [hw2, hcons, had2])
  have hM : XR D (FA s) s.heap H4 lc4 (WG ad G IC σ ++ WG ad2 G IM (laR (lay0 σM 3 3) (3 * 3) (1 * 3))) := by
    have e9 := set_end (o2, (.inr (12, [.int 0, .int 0, .int 0, .null, .null, .int 0, .int 0, .int 0, .int 0, .int 0, .null, .int 0, .null, .null, .null, .null, .int 0, .int 0, .int 0, .int 0, .int 0, .int 0, .int 0, .null, .null, .long 0]) : va_E)) (o2, (.inr (12, fsM ad2 (laR (lay0 σM 3 3) (3 * 3) (1 * 3)) (.ref (ad2 101))) : va_E)) ((ad2 101, cell ad2 G (laR (lay0 σM 3 3) (3 * 3) (1 * 3)) 101) :: WG ad2 G IM2 (laR (lay0 σM 3 3) (3 * 3) (1 * 3))) (WG ad G IC σ)
    rw [hlen] at e9
    rw [hcons, had2, ← e9]
    exact hM
  refine lv_astore_n C.1 C.2.1 dL_law_15 rfl hl (by decide) rfl (fun ls hl => ?_)
  refine lv_iconst C.1 C.2.1 (v := iI 1) dL_law_16 rfl ?_
  refine r_newJ C hA hM 1 rfl (by decide) (Nat.le_of_ble_eq_true rfl) (Nat.le_of_ble_eq_true rfl) dL_law_17 (fun q H5 hM => ?_)
  have hM := st_world hM
  refine lv_astore_n C.1 C.2.1 dL_law_19 rfl hl (by decide) rfl (fun ls hl => ?_)
  refine lv_iconst C.1 C.2.1 (v := iI 0) dL_law_20 rfl ?_
  refine lv_istore C.1 C.2.1 dL_law_21 hl (by decide) rfl (fun ls hl => ?_)
  have hl : lv_has ls 9 (BL b (va_up ad 240 q) ad2 0) := by
    have h9 := lv_sub hl [4, 3, 2, 1, 0] rfl
    rw [← had, ← had2] at h9
    exact h9
  have hR : REL (upr σ 270 (fun _ => 0)) (laR (lay0 σM 3 3) (3 * 3) (1 * 3)) := (REL_init hO hLM).ro (fun r h _ => upr_ne _ _ (by omega)) (fun _ _ => rfl)
  exact lw_loop hst K hr 512 ad2 _ _ H5 lc4 ls 0 _ _ (by omega) (by omega) (by omega) hM hR hl (by decide) (by decide)
