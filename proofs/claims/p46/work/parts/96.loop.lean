/-! the law's forty acts -/
abbrev BL (b : Nat) (ad : Nat → Nat) (t : Int) : List (Nat × Value) := [(0, .ref b), (1, .ref (ad 0)), (2, .int (iI t))]
section LWL
variable {p : Program} {l : Launch} {e : Env} {s : State} {m : MethodId} {below : List Frame} {meth : Method} {c : Code} {D : va_G} {ad : Nat → Nat} {G : Nat → Nat} {b L : Nat} {xs : Nat → Int32} {sa : Nat → Nat}
set_option maxRecDepth 100000 in
set_option maxHeartbeats 4000000 in
theorem lw_loop (hst : l.stackTraces = false) (C : Cx p s m meth c #[.ref b] cL_law 5 RL D G) (hNC : NCS s) (hTX : TX sa s) (hTZ : TZ (FA s) s s.heap) (hX : va_X b L xs s s.heap) (hbl : b < s.heap.size) (hL : L ≤ 260) (hr : meth.sig.returnType = ret) (hI : ∀ k, k < 81 → k ∈ IC) : ∀ (r : Nat) (σ : Sg) (H : Heap) (locs : List Loc) (ls : Array Slot) (t : Int) (k n : Nat), t + r = 40 → 0 ≤ t → XE D ad G IC (FA s) s.heap H locs σ [] → JI σ → lv_has ls 5 (BL b ad t) → k + 3 * r ≤ 600130 → n + 15 * r ≤ 7301080 → W p l e room_1 s m #[.ref b] below meth c H locs k n (lw_Z below #[.ref b] s) (F0 m 10 ls []) := by
  intro r
  induction r with
  | zero =>
    intro σ H locs ls t k n ht t0 hM hJ hl hk hn
    refine lv_iload_n C.1 C.2.1 dL_law_10 rfl (lv_at hl 2 rfl) ?_
    refine lv_bipush (v := iI 40) C.1 C.2.1 dL_law_11 (by decide) ?_
    refine x_icmp_ge C ⟨by omega, by omega⟩ ⟨by omega, by omega⟩ (tgt := 80) dL_law_13 (by decide) (fun _ => ?_) (fun h => by omega)
    refine W.widen (k := 600130) (n := 7301080) (by omega) (by omega) ?_
    refine va_forget (fun q hq => hM.2.2.1.2.2 q hq) ?_
    refine lv_iconst C.1 C.2.1 (v := 1) dL_law_80 (by decide) ?_
    exact lw_ret C.1 C.2.1 hr C.2.2.2.2.2.2.2 dL_law_81
  | succ r ih =>
    intro σ H locs ls t k n ht t0 hM hJ hl hk hn
    have m34 := Int.emod_nonneg t (show (34 : Int) ≠ 0 by decide)
    have m34' := Int.emod_lt_of_pos t (show (0 : Int) < 34 by decide)
    refine lv_iload_n C.1 C.2.1 dL_law_10 rfl (lv_at hl 2 rfl) ?_
    refine lv_bipush (v := iI 40) C.1 C.2.1 dL_law_11 (by decide) ?_
    refine x_icmp_ge C ⟨by omega, by omega⟩ ⟨by omega, by omega⟩ (tgt := 80) dL_law_13 (by decide) (fun h => by omega) (fun _ => ?_)
    refine lv_aload_n C.1 C.2.1 dL_law_16 rfl (lv_at hl 1 rfl) ?_
    refine lv_aload_n C.1 C.2.1 dL_law_17 rfl (lv_at hl 0 rfl) ?_
    refine lv_iload_n C.1 C.2.1 dL_law_18 rfl (lv_at hl 2 rfl) ?_
    refine lv_bipush (v := iI 34) C.1 C.2.1 dL_law_19 (by decide) ?_
    refine x_irem2 C ⟨by omega, by omega, by omega⟩ ⟨by omega, by omega, by omega⟩ dL_law_21 ?_
    refine x_cell C hX hbl hL hM ⟨Nat.le_of_ble_eq_true rfl, Nat.le_of_ble_eq_true rfl⟩ ⟨by omega, by omega⟩ hl.1 (Nat.le_of_ble_eq_true rfl) dL_law_22 ⟨by show k ≤ 600130; omega, by show n ≤ 7301080; omega⟩ (fun z H1 locs1 hM => ?_)
    refine lv_iload_n C.1 C.2.1 dL_law_25 rfl (lv_at hl 2 rfl) ?_
    refine lv_bipush (v := iI 34) C.1 C.2.1 dL_law_26 (by decide) ?_
    refine x_idiv2 C ⟨by omega, by omega, by omega⟩ ⟨by omega, by omega, by omega⟩ dL_law_28 ?_
    refine lv_bipush (v := iI 11) C.1 C.2.1 dL_law_29 (by decide) ?_
    refine x_imul C dL_law_31 ?_
    refine x_ishrA C dL_law_32 (fun y hy => ?_)
    refine x_ciA (mc := 2) (ms := 12) (fun q h => h) (x_actR C hNC hTX (tz_in hTZ hM.x (fun q h => h)) ⟨Nat.le_of_ble_eq_true rfl, Nat.le_of_ble_eq_true rfl⟩ (c_L_act l hst D ad G IC hI hJ sa y) hM.x (rest := []) rfl rfl (Nat.le_of_ble_eq_true rfl) hl.1 dL_law_33 ⟨by show k + 2 ≤ 600130; omega, by show n + 12 ≤ 7301080; omega⟩) hM (fun z1 σ1 H2 locs2 hp hM => ?_)
    obtain ⟨rfl, hJ1⟩ := hp
    have back : ∀ (σ2 : Sg) (H3 : Heap) (locs3 : List Loc) (ls3 : Array Slot) (k3 n3 : Nat), XE D ad G IC (FA s) s.heap H3 locs3 σ2 [] → JI σ2 → lv_has ls3 5 (BL b ad t) → k3 ≤ k + 3 → n3 ≤ n + 15 → W p l e room_1 s m #[.ref b] below meth c H3 locs3 k3 n3 (lw_Z below #[.ref b] s) (F0 m 74 ls3 []) := by
      intro σ2 H3 locs3 ls3 k3 n3 hM3 hJ3 hl3 hk3 hn3
      refine x_iinc C dL_law_74 hl3 (k := 2) rfl (by decide) rfl (fun ls4 hl4 => ?_)
      refine lv_goto C.1 C.2.1 (tgt := 10) dL_law_77 (by decide) ?_
      have hl5 : lv_has ls4 5 (BL b ad (t + 1)) := lv_sub hl4 [1, 2, 0] rfl
      exact ih σ2 H3 locs3 ls4 (t + 1) k3 n3 (by omega) (by omega) hM3 hJ3 hl5 (by omega) (by omega)
    refine x_if_ne C (by decide) (tgt := 41) dL_law_36 (by decide) (fun _ => ?_) (fun h => absurd (by decide) h)
    refine lv_iload_n C.1 C.2.1 dL_law_41 rfl (lv_at hl 2 rfl) ?_
    refine lv_iconst C.1 C.2.1 (v := iI 5) dL_law_42 (by decide) ?_
    refine x_irem2 C ⟨by omega, by omega, by omega⟩ ⟨by omega, by omega, by omega⟩ dL_law_43 ?_
    refine lv_iconst C.1 C.2.1 (v := iI 4) dL_law_44 (by decide) ?_
    refine x_icmp_eq C ⟨by omega, by omega⟩ ⟨by omega, by omega⟩ (tgt := 51) dL_law_45 (by decide) (fun _ => ?_) (fun _ => ?_)
    · refine lv_aload_n C.1 C.2.1 dL_law_51 rfl (lv_at hl 1 rfl) ?_
      refine x_clA (mc := 0) (ms := 0) (fun q h => h) (x_runVA (As := []) (rest := []) C ⟨Nat.le_of_ble_eq_true rfl, Nat.le_of_ble_eq_true rfl⟩ cw_RL_22 (MET.toA (v_X11_digest l D ad G IC hI hJ1 EQS.rf)) hM.x (hI 0 (by decide)) (cx_0 ad G _) (q := vwCl[11]) rfl rfl rfl rfl (Nat.le_of_ble_eq_true rfl) hl.1 dL_law_52 ⟨by show k + 2 ≤ 600130; omega, by show n + 12 ≤ 7301080; omega⟩) hM (fun d1 σ2 H3 locs3 hp hM => ?_)
      obtain ⟨rfl, hE2⟩ := hp
      refine lv_lstore_n (lv' := (3, .long (jI (digF σ1 (σ1 20 0) (σ1 21 0 + σ1 16 0) (σ1 19 0)))) :: BL b ad t) C.1 C.2.1 dL_law_55 rfl hl (by decide) rfl (fun ls hl => ?_)
      refine lv_aload_n C.1 C.2.1 dL_law_56 rfl (lv_at hl 2 rfl) ?_
      refine x_ciA (mc := 1) (ms := 3) (fun q h => h) (x_runSA (As := [.ref (ad 0)]) (rest := []) C ⟨Nat.le_of_ble_eq_true rfl, Nat.le_of_ble_eq_true rfl⟩ cw_RL_26 (c_L_isSound l D ad G IC hI (hJ1.ro hE2)) hM.x rfl rfl (Nat.le_of_ble_eq_true rfl) hl.1 dL_law_57 ⟨by show k + 2 + 1 ≤ 600130; omega, by show n + 12 + 3 ≤ 7301080; omega⟩) hM (fun z2 σ3 H4 locs4 hp hM => ?_)
      obtain ⟨rfl, hE3⟩ := hp
      have hE4 : EQS σ1 σ3 := fun r h1 h2 => (hE3 r h1 h2).trans (hE2 r h1 h2)
      refine x_if_eq C (by decide) (tgt := 72) dL_law_60 (by decide) (fun h => absurd h (by decide)) (fun _ => ?_)
      refine lv_aload_n C.1 C.2.1 dL_law_63 rfl (lv_at hl 2 rfl) ?_
      refine x_clA (mc := 0) (ms := 0) (fun q h => h) (x_runVA (As := []) (rest := []) C ⟨Nat.le_of_ble_eq_true rfl, Nat.le_of_ble_eq_true rfl⟩ cw_RL_22 (MET.toA (v_X11_digest l D ad G IC hI hJ1 hE4)) hM.x (hI 0 (by decide)) (cx_0 ad G _) (q := vwCl[11]) rfl rfl rfl rfl (Nat.le_of_ble_eq_true rfl) hl.1 dL_law_64 ⟨by show k + 2 + 1 ≤ 600130; omega, by show n + 12 + 3 ≤ 7301080; omega⟩) hM (fun d2 σ5 H5 locs5 hp hM => ?_)
      obtain ⟨rfl, hE5⟩ := hp
      refine lv_lload_n C.1 C.2.1 dL_law_67 rfl (lv_at hl 0 rfl) ?_
      refine x_lcmp0 C dL_law_68 ?_
      refine x_if_eq C (by decide) (tgt := 74) dL_law_69 (by decide) (fun _ => ?_) (fun h => absurd rfl h)
      exact back σ5 H5 locs5 _ _ _ hM (hJ1.ro hE5) (lv_sub hl [1, 2, 3] rfl) (by omega) (by omega)
    · refine lv_goto C.1 C.2.1 (tgt := 74) dL_law_48 (by decide) ?_
      exact back σ1 H2 locs2 ls _ _ hM hJ1 hl (by omega) (by omega)
end LWL
theorem WG_IC_cons (ad : Nat → Nat) (G : Nat → Nat) (σ : Sg) : ∃ new : va_W, WG ad G IC σ = (ad 0, cell ad G σ 0) :: new := by
  have e : IC = 0 :: IC.tail := by decide
  refine ⟨WG ad G IC.tail σ, ?_⟩
  have h : WG ad G IC σ = WG ad G (0 :: IC.tail) σ := by rw [← e]
  rw [h]
  rfl
