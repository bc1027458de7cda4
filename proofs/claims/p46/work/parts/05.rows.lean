/-- the tables' words that a callee may be told -/
def WA : List Cond := lw_tbl.filter goodWord
theorem wa_t (n : Nat) {w : Cond} (h : tables_1[n]? = some w) (hg : goodWord w = true) : w ∈ WA := List.mem_filter.mpr ⟨List.mem_append_right _ (List.mem_of_getElem? h), hg⟩
theorem wa_s (n : Nat) {q : MethodName × Nat} (h : lw_privs[n]? = some q) (hg : goodWord (.selects q.1.cls q.1 q.1) = true) : Cond.selects q.1.cls q.1 q.1 ∈ WA := List.mem_filter.mpr ⟨List.mem_append_left _ (List.mem_map.mpr ⟨q, List.mem_of_getElem? h, rfl⟩), hg⟩
def vld (k : Nat) : Prop := k < 81 ∨ (100 ≤ k ∧ k < 233) ∨ k = 240
def WG (ad : Nat → Nat) (G : Nat → Nat) (ids : List Nat) (σ : Sg) : va_W := ids.map (fun k => (ad k, cell ad G σ k))
theorem wg_get (ad : Nat → Nat) (G : Nat → Nat) {ids : List Nat} (σ : Sg) {q k : Nat} (h : ids[q]? = some k) : (WG ad G ids σ)[q]? = some (ad k, cell ad G σ k) := by
  unfold WG
  rw [List.getElem?_map, h]
  rfl
theorem wg_of (ad : Nat → Nat) (G : Nat → Nat) {ids : List Nat} (σ : Sg) {q : Nat} {x : Nat × va_E} (h : (WG ad G ids σ)[q]? = some x) : ∃ k, ids[q]? = some k ∧ x = (ad k, cell ad G σ k) := by
  unfold WG at h
  rw [List.getElem?_map] at h
  cases hq : ids[q]? with
  | none => rw [hq] at h; cases h
  | some k => rw [hq] at h; cases h; exact ⟨k, rfl, rfl⟩
theorem wg_set {ad : Nat → Nat} {G : Nat → Nat} {ids : List Nat} {σ σ1 : Sg} {A : Nat → Prop} {q k : Nat} (hq : ids[q]? = some k) (hD : va_D A (WG ad G ids σ)) (hf : ∀ j, j ∈ ids → j ≠ k → cell ad G σ1 j = cell ad G σ j) : (WG ad G ids σ).set q (ad k, cell ad G σ1 k) = WG ad G ids σ1 := by
  apply List.ext_getElem?
  intro n
  by_cases e : n = q
  · subst e
    rw [List.getElem?_set_self (List.getElem?_eq_some_iff.mp (wg_get ad G σ hq)).1, wg_get ad G σ1 hq]
  · rw [List.getElem?_set_ne (Ne.symm e)]
    cases hn : ids[n]? with
    | none => unfold WG; rw [List.getElem?_map, List.getElem?_map, hn]; rfl
    | some j =>
      rw [wg_get ad G σ hn, wg_get ad G σ1 hn, hf j (List.mem_of_getElem? hn)]
      intro ejk
      subst ejk
      exact e (hD.1 n q _ _ (wg_get ad G σ hn) (wg_get ad G σ hq) rfl)
theorem wd_any {ad : Nat → Nat} {G : Nat → Nat} {ids : List Nat} {σ : Sg} (σ1 : Sg) {A : Nat → Prop} (h : va_D A (WG ad G ids σ)) : va_D A (WG ad G ids σ1) := by
  refine ⟨fun i j p q hi hj e => ?_, fun i p hi => ?_⟩
  · obtain ⟨k1, h1, rfl⟩ := wg_of _ _ _ hi
    obtain ⟨k2, h2, rfl⟩ := wg_of _ _ _ hj
    exact h.1 i j _ _ (wg_get ad G σ h1) (wg_get ad G σ h2) e
  · obtain ⟨k1, h1, rfl⟩ := wg_of _ _ _ hi
    exact h.2 i (ad k1, cell ad G σ k1) (wg_get ad G σ h1)
def AN (ad : Nat → Nat) (ids : List Nat) (sz : Nat) : Nat → Prop := fun q => (∃ k, k ∈ ids ∧ q = ad k) ∨ sz ≤ q
theorem an_A {ad : Nat → Nat} {G : Nat → Nat} {ids : List Nat} {σ : Sg} {sz : Nat} {q : Nat} : va_A (WG ad G ids σ) sz q ↔ AN ad ids sz q := by
  constructor
  · rintro (⟨k, e, h⟩ | h)
    · obtain ⟨j, h1, h2⟩ := wg_of _ _ _ h
      exact Or.inl ⟨j, List.mem_of_getElem? h1, (Prod.ext_iff.mp h2).1⟩
    · exact Or.inr h
  · rintro (⟨k, hk, rfl⟩ | h)
    · obtain ⟨i, hi⟩ := List.getElem?_of_mem hk
      exact Or.inl ⟨i, _, wg_get ad G σ hi⟩
    · exact Or.inr h
theorem wd_self {ad : Nat → Nat} {G : Nat → Nat} {ids : List Nat} {σ : Sg} {sz : Nat} {A : Nat → Prop} (h : va_D A (WG ad G ids σ)) : va_D (AN ad ids sz) (WG ad G ids σ) := ⟨h.1, fun _ _ hk => an_A.mp (va_A.in hk)⟩
abbrev tysX (G : Nat → Nat) : List (ClassId × FieldType) := [(G 0, .int), (G 1, .long), (G 2, .boolean), (G 3, .object "KindlingTree$MoveList")]
/-- the calls of nest mates' private methods, as linked -/
def NWL : List Cond := [.methodLinkNest RX11 35 yX2_init "KindlingTree", .methodLinkNest RX11 226 yX10_countWays "KindlingTree", .methodLinkNest RX11 229 yX10_worth "KindlingTree", .methodLinkNest RX11 235 yX10_worthBehind "KindlingTree", .methodLinkNest RX0 37 yX11_fromOf "KindlingTree", .methodLinkNest RX0 41 yX11_toOf "KindlingTree", .methodLinkNest RX7 74 yX6_lookOn "KindlingTree", .methodLinkNest RX10 59 yX6_lookOn "KindlingTree"]
def NW (U : State) : Prop := ∀ w ∈ NWL, va_Nw w U
theorem NW_warm {s U : State} (hW : s.WarmedH U.vm) (h : NW s) : NW U := by
  intro w hw
  have h1 := h w hw
  simp only [NWL, List.mem_cons, List.not_mem_nil, or_false] at hw
  rcases hw with rfl | rfl | rfl | rfl | rfl | rfl | rfl | rfl <;> exact va_Nw.warmM hW h1
theorem NW_vm {s U : State} (hv : s.vm = U.vm) (h : NW s) : NW U := by
  intro w hw
  have h1 := h w hw
  simp only [NWL, List.mem_cons, List.not_mem_nil, or_false] at hw
  rcases hw with rfl | rfl | rfl | rfl | rfl | rfl | rfl | rfl <;> exact va_tabs rfl hv h1
def Cx (p : Program) (s : State) (m : MethodId) (meth : Method) (c : Code) (args : Array Value) (cc : ByteArray) (nL : Nat) (own : String) (D : va_G) (G : Nat → Nat) : Prop :=
  p.tables.exec = Jvm.exec ∧ c.code = cc ∧ c.maxLocals = nL ∧ s.vm.findClass own = some m.cls ∧ (∀ w ∈ WA, w.before args s = true) ∧ va_K D vwCl (tysX G) s ∧ NW s ∧ meth.locks = false
/-- the heap at a point of a method: the world with the registers σ; what isn't A is as at the start -/
def XI (D : va_G) (ad : Nat → Nat) (G : Nat → Nat) (ids : List Nat) (A : Nat → Prop) (H0 H : Heap) (locs : List Loc) (σ : Sg) : Prop :=
  va_P D vwCl (WG ad G ids σ) H ∧ va_D A (WG ad G ids σ) ∧ va_S A H0 H locs ∧ (∀ k, k ∈ ids → vld k)
section XR
variable {p : Program} {l : Launch} {e : Env} {R : Room} {s : State} {m : MethodId} {args : Array Value} {below : List Frame} {meth : Method} {c : Code} {H : Heap} {locs : List Loc} {cells slots : Nat} {Q : State → Prop}
variable {cc : ByteArray} {nL : Nat} {own : String} {D : va_G} {ad : Nat → Nat} {G : Nat → Nat} {ids : List Nat} {A : Nat → Prop} {H0 : Heap} {σ : Sg} {pc : Nat} {ls : Array Slot} {rest : List Value}
theorem x_get (C : Cx p s m meth c args cc nL own D G) (hM : XI D ad G ids A H0 H locs σ) {k ci : Nat} (hk : k ∈ ids) {fs : List Value} {Rn : String} {T : u_T} {N : Nat} (hc : cell ad G σ k = .inr (ci, fs)) (hv : vwCl[ci]? = some (Rn, T, N)) (hin : ∀ w ∈ u_ws Rn T N, w ∈ WA) (f : Nat) (hf : f < N) {idx : Nat} (hw : Cond.fieldLink own idx (T f).1 (T f).2.1 (T f).2.2.1 ∈ WA) {v : Value} (hfv : fs[f]? = some v)
    (hdg : decode cc pc = .ok (.getfield idx, 3)) (kk : W p l e R s m args below meth c H locs cells slots Q (F0 m (pc + 3) ls (v :: rest))) : W p l e R s m args below meth c H locs cells slots Q (F0 m pc ls (.ref (ad k) :: rest)) := by
  obtain ⟨hx, hb, hml, hown, hts, hK, hN, hlk⟩ := C
  obtain ⟨q, hq⟩ := List.getElem?_of_mem hk
  have h1 := wg_get ad G σ hq
  rw [hc] at h1
  exact va_get hx hb hts hin hown hK hM.1 q h1 hv f hf (hts _ hw) (fun _ h9 => h9) hfv hdg kk
theorem x_put (C : Cx p s m meth c args cc nL own D G) (hM : XI D ad G ids A H0 H locs σ) {k ci : Nat} (hk : k ∈ ids) {fs : List Value} {Rn : String} {T : u_T} {N : Nat} (hc : cell ad G σ k = .inr (ci, fs)) (hv : vwCl[ci]? = some (Rn, T, N)) (hin : ∀ w ∈ u_ws Rn T N, w ∈ WA) (ty0 : Nat → FieldType) (hty : ∀ k, k < N → parseFieldDescriptor (T k).2.2.1 = some (ty0 k)) (hnm : ∀ a, a < N → ∀ b, b < N → a ≠ b → (T a).2.1 ≠ (T b).2.1) (f : Nat) (hf : f < N) {idx : Nat} (hw : Cond.fieldLink own idx (T f).1 (T f).2.1 (T f).2.2.1 ∈ WA) (hfin : (T f).2.2.2 = false) {v : Value} {ty : FieldType} (hd : parseFieldDescriptor (T f).2.2.1 = some ty) (hn : narrow ty v = v) (hfit : fits ty v = true) (hl : f < fs.length)
    (σ1 : Sg) (hnew : cell ad G σ1 k = .inr (ci, fs.set f v)) (hoth : ∀ j, vld j → j ≠ k → cell ad G σ1 j = cell ad G σ j)
    (hdg : decode cc pc = .ok (.putfield idx, 3)) (kk : ∀ (H1 : Heap) (locs1 : List Loc), XI D ad G ids A H0 H1 locs1 σ1 → W p l e R s m args below meth c H1 locs1 cells slots Q (F0 m (pc + 3) ls rest)) : W p l e R s m args below meth c H locs cells slots Q (F0 m pc ls (v :: .ref (ad k) :: rest)) := by
  obtain ⟨hx, hb, hml, hown, hts, hK, hN, hlk⟩ := C
  obtain ⟨q, hq⟩ := List.getElem?_of_mem hk
  have h1 := wg_get ad G σ hq
  rw [hc] at h1
  refine va_put hx hb hts hin ty0 hty hnm hown hK hM.1 hM.2.1 hM.2.2.1 q h1 hv f hf (hts _ hw) (fun _ h9 => h9) hfin hd hn hfit hl hdg (fun H1 locs1 hP hD hS => ?_)
  rw [← hnew, wg_set hq hM.2.1 (fun j hj hne => hoth j (hM.2.2.2 j hj) hne)] at hP hD
  exact kk H1 locs1 ⟨hP, hD, hS, hM.2.2.2⟩
/-- an element of a row of ints -/
theorem x_ald (C : Cx p s m meth c args cc nL own D G) (hM : XI D ad G ids A H0 H locs σ) {k : Nat} (hk : k ∈ ids) {n : Nat} {f : Nat → Int32} (hc : cell ad G σ k = .inl (G 0, n, .inl f)) {z : Int} (h0 : 0 ≤ z) (h1 : z < n) (hn : (n : Int) ≤ 2147483647) {v : Int} (hv : f z.toNat = iI v) (hdg : decode cc pc = .ok (.iaload, 1))
    (kk : W p l e R s m args below meth c H locs cells slots Q (F0 m (pc + 1) ls (.int (iI v) :: rest))) : W p l e R s m args below meth c H locs cells slots Q (F0 m pc ls (.int (iI z) :: .ref (ad k) :: rest)) := by
  obtain ⟨hx, hb, hml, hown, hts, hK, hN, hlk⟩ := C
  obtain ⟨q, hq⟩ := List.getElem?_of_mem hk
  have h2 := wg_get ad G σ hq
  rw [hc] at h2
  refine va_iald hx hb hK hM.1 q 0 h2 rfl (iI_in h0 h1 hn) hdg ?_
  rw [iI_clamp ⟨by omega, by omega⟩, hv]
  exact kk
theorem x_zald (C : Cx p s m meth c args cc nL own D G) (hM : XI D ad G ids A H0 H locs σ) {k : Nat} (hk : k ∈ ids) {n : Nat} {f : Nat → Int32} (hc : cell ad G σ k = .inl (G 2, n, .inl f)) {z : Int} (h0 : 0 ≤ z) (h1 : z < n) (hn : (n : Int) ≤ 2147483647) {v : Int} (hv : f z.toNat = iI v) (hdg : decode cc pc = .ok (.baload, 1))
    (kk : W p l e R s m args below meth c H locs cells slots Q (F0 m (pc + 1) ls (.int (iI v) :: rest))) : W p l e R s m args below meth c H locs cells slots Q (F0 m pc ls (.int (iI z) :: .ref (ad k) :: rest)) := by
  obtain ⟨hx, hb, hml, hown, hts, hK, hN, hlk⟩ := C
  obtain ⟨q, hq⟩ := List.getElem?_of_mem hk
  have h2 := wg_get ad G σ hq
  rw [hc] at h2
  refine va_zald hx hb hK hM.1 q 2 h2 rfl (iI_in h0 h1 hn) hdg ?_
  rw [iI_clamp ⟨by omega, by omega⟩, hv]
  exact kk
theorem x_lald (C : Cx p s m meth c args cc nL own D G) (hM : XI D ad G ids A H0 H locs σ) {k : Nat} (hk : k ∈ ids) {n : Nat} {f : Nat → Int64} (hc : cell ad G σ k = .inl (G 1, n, .inr (.inl f))) {z : Int} (h0 : 0 ≤ z) (h1 : z < n) (hn : (n : Int) ≤ 2147483647) {v : Int} (hv : f z.toNat = jI v) (hdg : decode cc pc = .ok (.laload, 1))
    (kk : W p l e R s m args below meth c H locs cells slots Q (F0 m (pc + 1) ls (.long (jI v) :: rest))) : W p l e R s m args below meth c H locs cells slots Q (F0 m pc ls (.int (iI z) :: .ref (ad k) :: rest)) := by
  obtain ⟨hx, hb, hml, hown, hts, hK, hN, hlk⟩ := C
  obtain ⟨q, hq⟩ := List.getElem?_of_mem hk
  have h2 := wg_get ad G σ hq
  rw [hc] at h2
  refine va_lald hx hb hK hM.1 q 1 h2 rfl (iI_in h0 h1 hn) hdg ?_
  rw [iI_clamp ⟨by omega, by omega⟩, hv]
  exact kk
theorem x_ast (C : Cx p s m meth c args cc nL own D G) (hM : XI D ad G ids A H0 H locs σ) {k : Nat} (hk : k ∈ ids) {n : Nat} {f : Nat → Int32} (hc : cell ad G σ k = .inl (G 0, n, .inl f)) {z v : Int} (h0 : 0 ≤ z) (h1 : z < n) (hn : (n : Int) ≤ 2147483647)
    (σ1 : Sg) (hnew : cell ad G σ1 k = .inl (G 0, n, .inl (upd f (iI z).toNatClampNeg (iI v)))) (hoth : ∀ j, vld j → j ≠ k → cell ad G σ1 j = cell ad G σ j) (hdg : decode cc pc = .ok (.iastore, 1))
    (kk : ∀ (H1 : Heap) (locs1 : List Loc), XI D ad G ids A H0 H1 locs1 σ1 → W p l e R s m args below meth c H1 locs1 cells slots Q (F0 m (pc + 1) ls rest)) : W p l e R s m args below meth c H locs cells slots Q (F0 m pc ls (.int (iI v) :: .int (iI z) :: .ref (ad k) :: rest)) := by
  obtain ⟨hx, hb, hml, hown, hts, hK, hN, hlk⟩ := C
  obtain ⟨q, hq⟩ := List.getElem?_of_mem hk
  have h2 := wg_get ad G σ hq
  rw [hc] at h2
  refine va_iast hx hb hK hM.1 hM.2.1 hM.2.2.1 q 0 h2 rfl (iI_in h0 h1 hn) hdg (fun H1 locs1 hP hD hS => ?_)
  rw [← hnew, wg_set hq hM.2.1 (fun j hj hne => hoth j (hM.2.2.2 j hj) hne)] at hP hD
  exact kk H1 locs1 ⟨hP, hD, hS, hM.2.2.2⟩
theorem x_zast (C : Cx p s m meth c args cc nL own D G) (hM : XI D ad G ids A H0 H locs σ) {k : Nat} (hk : k ∈ ids) {n : Nat} {f : Nat → Int32} (hc : cell ad G σ k = .inl (G 2, n, .inl f)) {z v : Int} (h0 : 0 ≤ z) (h1 : z < n) (hn : (n : Int) ≤ 2147483647) (hz : v = 0 ∨ v = 1)
    (σ1 : Sg) (hnew : cell ad G σ1 k = .inl (G 2, n, .inl (upd f (iI z).toNatClampNeg (iI v)))) (hoth : ∀ j, vld j → j ≠ k → cell ad G σ1 j = cell ad G σ j) (hdg : decode cc pc = .ok (.bastore, 1))
    (kk : ∀ (H1 : Heap) (locs1 : List Loc), XI D ad G ids A H0 H1 locs1 σ1 → W p l e R s m args below meth c H1 locs1 cells slots Q (F0 m (pc + 1) ls rest)) : W p l e R s m args below meth c H locs cells slots Q (F0 m pc ls (.int (iI v) :: .int (iI z) :: .ref (ad k) :: rest)) := by
  obtain ⟨hx, hb, hml, hown, hts, hK, hN, hlk⟩ := C
  obtain ⟨q, hq⟩ := List.getElem?_of_mem hk
  have h2 := wg_get ad G σ hq
  rw [hc] at h2
  refine va_zast hx hb hK hM.1 hM.2.1 hM.2.2.1 q 2 h2 rfl (iI_in h0 h1 hn) hdg (fun H1 locs1 hP hD hS => ?_)
  rw [nar_b hz, ← hnew, wg_set hq hM.2.1 (fun j hj hne => hoth j (hM.2.2.2 j hj) hne)] at hP hD
  exact kk H1 locs1 ⟨hP, hD, hS, hM.2.2.2⟩
theorem x_last (C : Cx p s m meth c args cc nL own D G) (hM : XI D ad G ids A H0 H locs σ) {k : Nat} (hk : k ∈ ids) {n : Nat} {f : Nat → Int64} (hc : cell ad G σ k = .inl (G 1, n, .inr (.inl f))) {z v : Int} (h0 : 0 ≤ z) (h1 : z < n) (hn : (n : Int) ≤ 2147483647)
    (σ1 : Sg) (hnew : cell ad G σ1 k = .inl (G 1, n, .inr (.inl (vp_updL f (iI z).toNatClampNeg (jI v))))) (hoth : ∀ j, vld j → j ≠ k → cell ad G σ1 j = cell ad G σ j) (hdg : decode cc pc = .ok (.lastore, 1))
    (kk : ∀ (H1 : Heap) (locs1 : List Loc), XI D ad G ids A H0 H1 locs1 σ1 → W p l e R s m args below meth c H1 locs1 cells slots Q (F0 m (pc + 1) ls rest)) : W p l e R s m args below meth c H locs cells slots Q (F0 m pc ls (.long (jI v) :: .int (iI z) :: .ref (ad k) :: rest)) := by
  obtain ⟨hx, hb, hml, hown, hts, hK, hN, hlk⟩ := C
  obtain ⟨q, hq⟩ := List.getElem?_of_mem hk
  have h2 := wg_get ad G σ hq
  rw [hc] at h2
  refine va_last hx hb hK hM.1 hM.2.1 hM.2.2.1 q 1 h2 rfl (iI_in h0 h1 hn) hdg (fun H1 locs1 hP hD hS => ?_)
  rw [← hnew, wg_set hq hM.2.1 (fun j hj hne => hoth j (hM.2.2.2 j hj) hne)] at hP hD
  exact kk H1 locs1 ⟨hP, hD, hS, hM.2.2.2⟩
theorem x_alen (C : Cx p s m meth c args cc nL own D G) (hM : XI D ad G ids A H0 H locs σ) {k : Nat} (hk : k ∈ ids) {g : Nat} (hg : g < 4) {x : vp_A} (hc : cell ad G σ k = .inl (G g, x)) {n : Nat} (hn : x.1 = n) (hdg : decode cc pc = .ok (.arraylength, 1))
    (kk : W p l e R s m args below meth c H locs cells slots Q (F0 m (pc + 1) ls (.int (iI n) :: rest))) : W p l e R s m args below meth c H locs cells slots Q (F0 m pc ls (.ref (ad k) :: rest)) := by
  obtain ⟨hx, hb, hml, hown, hts, hK, hN, hlk⟩ := C
  obtain ⟨q, hq⟩ := List.getElem?_of_mem hk
  have h2 := wg_get ad G σ hq
  rw [hc] at h2
  have e1 : Int32.ofNat x.1 = iI (n : Int) := by rw [hn]; unfold iI; exact (Int32.ofInt_eq_ofNat).symm
  match g, hg with
  | 0, _ => exact va_alen hx hb hK hM.1 q 0 h2 rfl e1 hdg kk
  | 1, _ => exact va_alen hx hb hK hM.1 q 1 h2 rfl e1 hdg kk
  | 2, _ => exact va_alen hx hb hK hM.1 q 2 h2 rfl e1 hdg kk
  | 3, _ => exact va_alen hx hb hK hM.1 q 3 h2 rfl e1 hdg kk
/-- a place of a row of references: a row of the world -/
theorem x_aald (C : Cx p s m meth c args cc nL own D G) (hM : XI D ad G ids A H0 H locs σ) {k : Nat} (hk : k ∈ ids) {g : Nat} (hg : g = 3) {n : Nat} {f : Nat → Option Nat} (hc : cell ad G σ k = .inl (G g, n, .inr (.inr (.inr (.inr f))))) {z : Int} (h0 : 0 ≤ z) (h1 : z < n) (hn : (n : Int) ≤ 2147483647) {v : Nat} (hv : f z.toNat = some v) (hdg : decode cc pc = .ok (.aaload, 1))
    (kk : W p l e R s m args below meth c H locs cells slots Q (F0 m (pc + 1) ls (.ref v :: rest))) : W p l e R s m args below meth c H locs cells slots Q (F0 m pc ls (.int (iI z) :: .ref (ad k) :: rest)) := by
  obtain ⟨hx, hb, hml, hown, hts, hK, hN, hlk⟩ := C
  obtain ⟨q, hq⟩ := List.getElem?_of_mem hk
  have h2 := wg_get ad G σ hq
  rw [hc] at h2
  have hlt : (iI z).toNatClampNeg < n := by rw [iI_clamp ⟨by omega, by omega⟩]; omega
  have e1 : f (iI z).toNatClampNeg = some v := by rw [iI_clamp ⟨by omega, by omega⟩, hv]
  subst hg
  refine va_aldq hx hb hK hM.1 q 3 h2 rfl (iI_in h0 h1 hn) hdg ?_
  rw [e1]
  exact kk
end XR
