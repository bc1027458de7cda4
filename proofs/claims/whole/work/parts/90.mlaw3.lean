/-! the law's body: rows that come again in every case -/
def bz (z : Int) : Int := if z = 0 then 0 else 1
theorem bz_01 (z : Int) : bz z = 0 ∨ bz z = 1 := by
  unfold bz
  split
  · exact Or.inl rfl
  · exact Or.inr rfl
abbrev BL (b : Nat) (ad ad2 : Nat → Nat) (i : Int) : List (Nat × Value) := [(0, .ref b), (1, .ref (ad 0)), (2, .ref (ad2 100)), (3, .ref (ad 240)), (4, .int (iI i))]
theorem lv_less {ls : Array Slot} {nL : Nat} {l l' : List (Nat × Value)} (h : lv_has ls nL l) (hs : ∀ q ∈ l', q ∈ l) : lv_has ls nL l' := ⟨h.1, h.2.1, fun q hq => h.2.2 q (hs q hq)⟩
def KL (p : Program) (l : Launch) (e : Env) (s : State) (m : MethodId) (below : List Frame) (meth : Method) (c : Code) (b : Nat) (D : va_G) (ad : Nat → Nat) (G : Nat → Nat) (i : Int) (k n : Nat) (Q : State → Prop) : Prop :=
  ∀ (ad2 : Nat → Nat) (σ τ : Sg) (H : Heap) (locs : List Loc) (ls : Array Slot), XE D ad G IL (FA s) s.heap H locs σ (WG ad2 G IM τ) → REL σ τ → lv_has ls 9 (BL b ad ad2 i) → W p l e room_1 s m #[.ref b] below meth c H locs k n Q (F0 m 1801 ls [])
section XL3
variable {p : Program} {l : Launch} {e : Env} {s : State} {m : MethodId} {below : List Frame} {meth : Method} {c : Code} {H : Heap} {locs : List Loc} {cells slots : Nat} {Q : State → Prop}
variable {D : va_G} {ad ad2 : Nat → Nat} {G : Nat → Nat} {σ τ : Sg} {pc : Nat} {ls : Array Slot} {rest : List Value} {b L : Nat} {xs : Nat → Int32} {sa : Nat → Nat} {i : Int}
theorem x_bz (C : Cx p s m meth c #[.ref b] cL_law 9 RL D G) {a : Int} (ha : IR a) (d0 : decode cL_law pc = .ok (.ifCond .eq 7, 3)) (d3 : decode cL_law (pc + 3) = .ok (.iconst 1, 1)) (d4 : decode cL_law (pc + 4) = .ok (.goto 4, 3)) (d7 : decode cL_law (pc + 7) = .ok (.iconst 0, 1)) (kk : W p l e room_1 s m #[.ref b] below meth c H locs cells slots Q (F0 m (pc + 8) ls (.int (iI (bz a)) :: rest))) : W p l e room_1 s m #[.ref b] below meth c H locs cells slots Q (F0 m pc ls (.int (iI a) :: rest)) := by
  refine x_if_eq C ha (tgt := pc + 7) d0 (by omega) (fun h => ?_) (fun h => ?_)
  · refine lv_iconst C.1 C.2.1 (v := iI 0) d7 rfl ?_
    have e : bz a = 0 := if_pos h
    rw [e] at kk
    exact kk
  · refine lv_iconst C.1 C.2.1 (v := iI 1) d3 rfl ?_
    refine lv_goto C.1 C.2.1 (tgt := pc + 8) d4 (by omega) ?_
    have e : bz a = 1 := if_neg h
    rw [e] at kk
    exact kk
theorem x_bl (C : Cx p s m meth c #[.ref b] cL_law 9 RL D G) {a : Int} (ha : a = 0 ∨ a = 1) (d0 : decode cL_law pc = .ok (.ifCond .eq 7, 3)) (d3 : decode cL_law (pc + 3) = .ok (.lconst 1, 1)) (d4 : decode cL_law (pc + 4) = .ok (.goto 4, 3)) (d7 : decode cL_law (pc + 7) = .ok (.lconst 0, 1)) (kk : W p l e room_1 s m #[.ref b] below meth c H locs cells slots Q (F0 m (pc + 8) ls (.long (jI a) :: rest))) : W p l e room_1 s m #[.ref b] below meth c H locs cells slots Q (F0 m pc ls (.int (iI a) :: rest)) := by
  refine x_if_eq C ⟨by omega, by omega⟩ (tgt := pc + 7) d0 (by omega) (fun h => ?_) (fun h => ?_)
  · refine lv_lconst (v := jI 0) C.1 C.2.1 d7 (by decide) ?_
    rw [h] at kk
    exact kk
  · refine lv_lconst (v := jI 1) C.1 C.2.1 d3 (by decide) ?_
    refine lv_goto C.1 C.2.1 (tgt := pc + 8) d4 (by omega) ?_
    rw [show a = 1 by omega] at kk
    exact kk
theorem x_arg (K : LC p s m meth c b L xs D G sa) (hS : va_S (FA s) s.heap H locs) (h0 : ls[0]? = some (.val (.ref b))) (h4 : ls[4]? = some (.val (.int (iI i)))) {k : Int} (hi : 0 ≤ i + k ∧ i + k < L) {v : Int32} (hv : Int32.ofInt k = v) (d0 : decode cL_law pc = .ok (.aload_n 0, 1)) (d1 : decode cL_law (pc + 1) = .ok (.iload 4, 2)) (d3 : decode cL_law (pc + 3) = .ok (.iconst k, 1)) (d4 : decode cL_law (pc + 4) = .ok (.iadd, 1)) (d5 : decode cL_law (pc + 5) = .ok (.iaload, 1)) (kk : W p l e room_1 s m #[.ref b] below meth c H locs cells slots Q (F0 m (pc + 6) ls (.int (iI (xv xs (i + k))) :: rest))) : W p l e room_1 s m #[.ref b] below meth c H locs cells slots Q (F0 m pc ls rest) := by
  obtain ⟨C, -, -, -, hX, hbl, hL⟩ := K
  refine lv_aload_n C.1 C.2.1 d0 rfl h0 ?_
  refine lv_iload C.1 C.2.1 d1 h4 ?_
  refine lv_iconst C.1 C.2.1 (v := iI k) d3 rfl ?_
  refine x_iadd C d4 ?_
  exact x_sld C hX hbl hS hi.1 hi.2 hL d5 kk
theorem x_thr (K : LC p s m meth c b L xs D G sa) {E : va_W} (hM : XE D ad2 G IM (FA s) s.heap H locs τ E) {k1 : Int} (hJ : τ 232 0 = k1) (hls : ls.size = 9) (h2 : ls[2]? = some (.val (.ref (ad2 100)))) (h5 : ls[5]? = some (.val (.int (iI k1)))) (d0 : decode cL_law pc = .ok (.aload_n 2, 1)) (d1 : decode cL_law (pc + 1) = .ok (.invokevirtual 87, 3)) (d4 : decode cL_law (pc + 4) = .ok (.iload 5, 2)) (d6 : decode cL_law (pc + 6) = .ok (.if_icmp .eq 5, 3)) (hf : cells ≤ 601024 ∧ slots ≤ 7293034)
    (kk : ∀ (H1 : Heap) (locs1 : List Loc), XE D ad2 G IM (FA s) s.heap H1 locs1 τ E → W p l e room_1 s m #[.ref b] below meth c H1 locs1 cells slots Q (F0 m (pc + 11) ls [])) : W p l e room_1 s m #[.ref b] below meth c H locs cells slots Q (F0 m pc ls []) := by
  obtain ⟨C, -⟩ := K
  refine lv_aload_n C.1 C.2.1 d0 rfl h2 ?_
  refine x_ciA (mc := 0) (ms := 0) (fun q h => h) (x_runVA (As := []) (rest := []) C ⟨Nat.le_of_ble_eq_true rfl, Nat.le_of_ble_eq_true rfl⟩ cw_RL_87 (MET.toA (c_X12_thrown l D ad2 G IM IM_h τ)) hM.x (IM_h 100 (by decide) (by decide)) (cx_100 ad2 G _) (q := vwCl[12]) rfl rfl rfl rfl (Nat.le_of_ble_eq_true rfl) hls d1 ⟨hf.1, hf.2⟩) hM (fun z τ1 H1 locs1 hp hM1 => ?_)
  obtain ⟨rfl, rfl⟩ := hp
  refine lv_iload C.1 C.2.1 d4 h5 ?_
  rw [hJ]
  exact x_icmp_refl C (tgt := pc + 11) d6 (by omega) (kk H1 locs1 hM1)
theorem x_tail (K : LC p s m meth c b L xs D G sa) (hM : XE D ad2 G IM (FA s) s.heap H locs τ (WG ad G IL σ)) {k1 z2 : Int} (hJ : τ 232 0 = k1 ∧ (k1 = 0 → σ 270 0 = wI z2) ∧ REL σ τ) (hk : 0 ≤ k1 ∧ k1 ≤ 3) (hl : lv_has ls 9 ((6, .int (iI z2)) :: (5, .int (iI k1)) :: BL b ad ad2 i)) {k9 n9 : Nat} (hf : cells ≤ k9 ∧ slots ≤ n9 ∧ k9 ≤ 601024 ∧ n9 ≤ 7293034) (KK : KL p l e s m below meth c b D ad G i k9 n9 Q) {off : Int}
    (d0 : decode cL_law pc = .ok (.aload_n 2, 1)) (d1 : decode cL_law (pc + 1) = .ok (.invokevirtual 87, 3)) (d4 : decode cL_law (pc + 4) = .ok (.iload 5, 2)) (d6 : decode cL_law (pc + 6) = .ok (.if_icmp .eq 5, 3)) (d11 : decode cL_law (pc + 11) = .ok (.iload 5, 2)) (d13 : decode cL_law (pc + 13) = .ok (.ifCond .ne 15, 3)) (d16 : decode cL_law (pc + 16) = .ok (.aload_n 3, 1)) (d17 : decode cL_law (pc + 17) = .ok (.iconst 0, 1)) (d18 : decode cL_law (pc + 18) = .ok (.laload, 1)) (d19 : decode cL_law (pc + 19) = .ok (.iload 6, 2)) (d21 : decode cL_law (pc + 21) = .ok (.i2l, 1)) (d22 : decode cL_law (pc + 22) = .ok (.lcmp, 1)) (d23 : decode cL_law (pc + 23) = .ok (.ifCond .eq 5, 3)) (d28 : decode cL_law (pc + 28) = .ok (.goto off, 3)) (ht : ((pc + 28 : Nat) : Int) + off = ((1801 : Nat) : Int)) :
    W p l e room_1 s m #[.ref b] below meth c H locs cells slots Q (F0 m pc ls []) := by
  refine x_thr K hM hJ.1 hl.1 (lv_at hl 4 rfl) (lv_at hl 1 rfl) d0 d1 d4 d6 ⟨by omega, by omega⟩ (fun H1 locs1 hM => ?_)
  obtain ⟨C, -⟩ := K
  have hM := hM.swap IL_vld
  have fin : W p l e room_1 s m #[.ref b] below meth c H1 locs1 cells slots Q (F0 m (pc + 28) ls []) := by
    refine lv_goto C.1 C.2.1 (tgt := 1801) d28 ht ?_
    exact W.widen hf.1 hf.2.1 (KK ad2 σ τ H1 locs1 ls hM hJ.2.2 (lv_less hl (fun q hq => List.mem_cons_of_mem _ (List.mem_cons_of_mem _ hq))))
  refine lv_iload C.1 C.2.1 d11 (lv_at hl 1 rfl) ?_
  refine x_if_ne C ⟨by omega, by omega⟩ (tgt := pc + 28) d13 (by omega) (fun _ => fin) (fun h => ?_)
  have h0 : k1 = 0 := by omega
  refine lv_aload_n C.1 C.2.1 d16 rfl (lv_at hl 5 rfl) ?_
  refine lv_iconst C.1 C.2.1 (v := iI 0) d17 rfl ?_
  refine x_lald C hM.x IL_240 (cx_240 ad G σ) (z := 0) (by omega) (by omega) (by omega) (v := σ 270 0) rfl d18 ?_
  refine lv_iload C.1 C.2.1 d19 (lv_at hl 0 rfl) ?_
  refine x_i2lW C d21 ?_
  rw [hJ.2.1 h0]
  refine x_lcmp0 C d22 ?_
  exact x_if_eq C (by decide) (tgt := pc + 28) d23 (by omega) (fun _ => fin) (fun h => absurd rfl h)
end XL3
theorem REL.be2 {σ τ : Sg} (h : REL σ τ) : -1 ≤ τ 231 0 ∧ τ 231 0 < 2500 := by rw [h.b2]; exact h.be
theorem REL.ir20 {σ τ : Sg} (h : REL σ τ) : IR (τ 220 0) := by rw [h.re]; have := h.re4; exact ⟨by omega, by omega⟩
theorem REL.q8 {σ τ : Sg} (h : REL σ τ) : σ 8 0 = 0 ∨ σ 8 0 = 1 := h.sb.2.2.2.2
theorem REL.q82 {σ τ : Sg} (h : REL σ τ) : τ 208 0 = 0 ∨ τ 208 0 = 1 := by rw [h.e8]; exact h.q8
theorem REL.tr2 {σ τ : Sg} (h : REL σ τ) : 0 ≤ τ 230 0 ∧ τ 230 0 ≤ 40 := h.inv.2.2.2.2.2.1
theorem REL.hv {σ τ : Sg} (h : REL σ τ) : τ 230 0 ≠ 0 → 0 ≤ τ 228 (τ 230 0 - 1) ∧ τ 228 (τ 230 0 - 1) < 2500 ∧ τ 228 (τ 230 0 - 1) / 100 < τ 202 0 * τ 203 0 ∧ τ 228 (τ 230 0 - 1) % 100 < τ 202 0 * τ 203 0 := by
  rw [h.e30, h.e28, h.e2, h.e3]
  intro h0
  have q := (h.hu h0).1
  exact ⟨q.1.1, q.1.2, q.2.1, q.2.2⟩
