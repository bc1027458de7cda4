/-! a world as a list, as makers see it -/
def XR (D : va_G) (A : Nat → Prop) (H0 H : Heap) (locs : List Loc) (ws : va_W) : Prop := va_P D vwCl ws H ∧ va_D A ws ∧ va_S A H0 H locs
theorem va_P.mem {D : va_G} {cl : List vw_C} {w1 w2 : va_W} {H : Heap} (h : va_P D cl w1 H) (hs : ∀ x, x ∈ w2 → x ∈ w1) : va_P D cl w2 H := fun k q hk => by
  obtain ⟨i, hi⟩ := List.getElem?_of_mem (hs q (List.mem_of_getElem? hk))
  exact h i q hi
theorem XR.perm {D : va_G} {A : Nat → Prop} {H0 H : Heap} {locs : List Loc} {w1 w2 : va_W} (h : XR D A H0 H locs w1) (is : List Nat) (hn : va_nd is = true) (hs : is.map (fun i => w1[i]?) = w2.map some) : XR D A H0 H locs w2 := by
  refine ⟨?_, h.2.1.sub is hn hs, h.2.2⟩
  intro k q hk
  have h1 : (is.map (fun i => w1[i]?))[k]? = some (some q) := by rw [hs, List.getElem?_map, hk]; rfl
  rw [List.getElem?_map] at h1
  cases hi : is[k]? with
  | none => rw [hi] at h1; cases h1
  | some i => rw [hi] at h1; exact h.1 i q (Option.some.inj h1)
theorem va_at_eq {D : va_G} {cl : List vw_C} {a : Nat} {e1 e2 : va_E} {H : Heap} (h : va_at D cl (a, e1) H) (he : e1 = e2 ∨ ∃ x y : ClassId × vp_A, e1 = .inl x ∧ e2 = .inl y ∧ vp_cell x.1 x.2 = vp_cell y.1 y.2) : va_at D cl (a, e2) H := by
  rcases he with rfl | ⟨x, y, rfl, rfl, e⟩
  · exact h
  · show H[a]? = some (vp_cell y.1 y.2)
    rw [← e]
    exact h
section XRS
variable {p : Program} {l : Launch} {e : Env} {R : Room} {s : State} {m : MethodId} {args : Array Value} {below : List Frame} {meth : Method} {c : Code} {H : Heap} {locs : List Loc} {cells slots mc ms : Nat} {Q : State → Prop}
variable {cc : ByteArray} {nL : Nat} {own : String} {D : va_G} {ad : Nat → Nat} {G : Nat → Nat} {ids : List Nat} {A : Nat → Prop} {H0 : Heap} {σ : Sg} {ws : va_W} {pc : Nat} {ls : Array Slot} {rest : List Value}
theorem r_get (C : Cx p s m meth c args cc nL own D G) (hM : XR D A H0 H locs ws) (q0 : Nat) {a ci : Nat} {fs : List Value} (he : ws[q0]? = some (a, .inr (ci, fs))) {Rn : String} {T : u_T} {N : Nat} (hv : vwCl[ci]? = some (Rn, T, N)) (hin : ∀ w ∈ u_ws Rn T N, w ∈ WA) (f : Nat) (hf : f < N) {idx : Nat} (hw : Cond.fieldLink own idx (T f).1 (T f).2.1 (T f).2.2.1 ∈ WA) {v : Value} (hfv : fs[f]? = some v)
    (hdg : decode cc pc = .ok (.getfield idx, 3)) (kk : W p l e R s m args below meth c H locs cells slots Q (F0 m (pc + 3) ls (v :: rest))) : W p l e R s m args below meth c H locs cells slots Q (F0 m pc ls (.ref a :: rest)) := by
  obtain ⟨hx, hb, hml, hown, hts, hK, hN, hlk⟩ := C
  exact va_get hx hb hts hin hown hK hM.1 q0 he hv f hf (hts _ hw) (fun _ h9 => h9) hfv hdg kk
theorem r_put (C : Cx p s m meth c args cc nL own D G) (hM : XR D A H0 H locs ws) (q0 : Nat) {a ci : Nat} {fs : List Value} (he : ws[q0]? = some (a, .inr (ci, fs))) {Rn : String} {T : u_T} {N : Nat} (hv : vwCl[ci]? = some (Rn, T, N)) (hin : ∀ w ∈ u_ws Rn T N, w ∈ WA) (ty0 : Nat → FieldType) (hty : ∀ k, k < N → parseFieldDescriptor (T k).2.2.1 = some (ty0 k)) (hnm : ∀ a, a < N → ∀ b, b < N → a ≠ b → (T a).2.1 ≠ (T b).2.1) (f : Nat) (hf : f < N) {idx : Nat} (hw : Cond.fieldLink own idx (T f).1 (T f).2.1 (T f).2.2.1 ∈ WA) (hfin : (T f).2.2.2 = false) {v : Value} {ty : FieldType} (hd : parseFieldDescriptor (T f).2.2.1 = some ty) (hn : narrow ty v = v) (hfit : fits ty v = true) (hl : f < fs.length)
    (hdg : decode cc pc = .ok (.putfield idx, 3)) (kk : ∀ (H1 : Heap) (locs1 : List Loc), XR D A H0 H1 locs1 (ws.set q0 (a, .inr (ci, fs.set f v))) → W p l e R s m args below meth c H1 locs1 cells slots Q (F0 m (pc + 3) ls rest)) : W p l e R s m args below meth c H locs cells slots Q (F0 m pc ls (v :: .ref a :: rest)) := by
  obtain ⟨hx, hb, hml, hown, hts, hK, hN, hlk⟩ := C
  exact va_put hx hb hts hin ty0 hty hnm hown hK hM.1 hM.2.1 hM.2.2 q0 he hv f hf (hts _ hw) (fun _ h9 => h9) hfin hd hn hfit hl hdg (fun H1 locs1 hP hD hS => kk H1 locs1 ⟨hP, hD, hS⟩)
theorem r_putF (C : Cx p s m meth c args cc nL own D G) (hnm2 : meth.name = "<init>") (hM : XR D A H0 H locs ws) (q0 : Nat) {a ci : Nat} {fs : List Value} (he : ws[q0]? = some (a, .inr (ci, fs))) {Rn : String} {T : u_T} {N : Nat} (hv : vwCl[ci]? = some (Rn, T, N)) (hin : ∀ w ∈ u_ws Rn T N, w ∈ WA) (ty0 : Nat → FieldType) (hty : ∀ k, k < N → parseFieldDescriptor (T k).2.2.1 = some (ty0 k)) (hnm : ∀ a, a < N → ∀ b, b < N → a ≠ b → (T a).2.1 ≠ (T b).2.1) (f : Nat) (hf : f < N) {idx : Nat} (hw : Cond.fieldLink own idx (T f).1 (T f).2.1 (T f).2.2.1 ∈ WA) (hfin : (T f).2.2.2 = true) (hdecl : (T f).1 = own) {v : Value} {ty : FieldType} (hd : parseFieldDescriptor (T f).2.2.1 = some ty) (hn : narrow ty v = v) (hfit : fits ty v = true) (hl : f < fs.length)
    (hdg : decode cc pc = .ok (.putfield idx, 3)) (kk : ∀ (H1 : Heap) (locs1 : List Loc), XR D A H0 H1 locs1 (ws.set q0 (a, .inr (ci, fs.set f v))) → W p l e R s m args below meth c H1 locs1 cells slots Q (F0 m (pc + 3) ls rest)) : W p l e R s m args below meth c H locs cells slots Q (F0 m pc ls (v :: .ref a :: rest)) := by
  obtain ⟨hx, hb, hml, hown, hts, hK, hN, hlk⟩ := C
  exact va_putF hx hb hts hin ty0 hty hnm hown hK hM.1 hM.2.1 hM.2.2 q0 he hv f hf (hts _ hw) (fun _ h9 => h9) hfin hnm2 hdecl hd hn hfit hl hdg (fun H1 locs1 hP hD hS => kk H1 locs1 ⟨hP, hD, hS⟩)
abbrev zI (G : Nat → Nat) (q n : Nat) : Nat × va_E := (q, .inl (G 0, n, .inl (fI (fun _ => 0))))
abbrev zJ (G : Nat → Nat) (q n : Nat) : Nat × va_E := (q, .inl (G 1, n, .inr (.inl (fJ (fun _ => 0)))))
abbrev zZ (G : Nat → Nat) (q n : Nat) : Nat × va_E := (q, .inl (G 2, n, .inl (fI (fun _ => 0))))
theorem r_newI (C : Cx p s m meth c args cc nL own D G) (hA : ∀ q, H0.size ≤ q → A q) (hM : XR D A H0 H locs ws) {z : Int} (n : Nat) (hz : z = (n : Int)) (hn : n ≤ 1000) (hc : cells + 1 ≤ R.cells) (hs : slots + n ≤ R.slots) (hdg : decode cc pc = .ok (.newarray .int, 2))
    (kk : ∀ (q : Nat) (H1 : Heap), XR D A H0 H1 locs (ws ++ [zI G q n]) → W p l e R s m args below meth c H1 locs (cells + 1) (slots + n) Q (F0 m (pc + 2) ls (.ref q :: rest))) : W p l e R s m args below meth c H locs cells slots Q (F0 m pc ls (.int (iI z) :: rest)) := by
  obtain ⟨hx, hb, hml, hown, hts, hK, hN, hlk⟩ := C
  subst hz
  have q := iI_n n hn
  refine va_newa hx hb (atype := .int) (hts _ ac_int) rfl hK hM.1 hM.2.1 hM.2.2 hA (N' := n) (a0 := (n, .inl (fI (fun _ => 0)))) (fun cA => rfl) q.1 q.2 (by show n * 4 ≤ _; omega) hc hs hdg (fun q cA H1 hK2 hP hD hS => ?_)
  have e1 := (hK2.2 (tysX G).length (cA, .int) (by rw [List.getElem?_append_right (Nat.le_refl _), Nat.sub_self]; rfl)).2
  have e2 := (hK.2 0 (G 0, .int) rfl).2
  have e3 : cA = G 0 := Option.some.inj (Eq.trans (Eq.symm e1) e2)
  subst e3
  exact kk q H1 ⟨hP, hD, hS⟩
theorem r_newZ (C : Cx p s m meth c args cc nL own D G) (hA : ∀ q, H0.size ≤ q → A q) (hM : XR D A H0 H locs ws) {z : Int} (n : Nat) (hz : z = (n : Int)) (hn : n ≤ 1000) (hc : cells + 1 ≤ R.cells) (hs : slots + n ≤ R.slots) (hdg : decode cc pc = .ok (.newarray .boolean, 2))
    (kk : ∀ (q : Nat) (H1 : Heap), XR D A H0 H1 locs (ws ++ [zZ G q n]) → W p l e R s m args below meth c H1 locs (cells + 1) (slots + n) Q (F0 m (pc + 2) ls (.ref q :: rest))) : W p l e R s m args below meth c H locs cells slots Q (F0 m pc ls (.int (iI z) :: rest)) := by
  obtain ⟨hx, hb, hml, hown, hts, hK, hN, hlk⟩ := C
  subst hz
  have q := iI_n n hn
  refine va_newa hx hb (atype := .boolean) (hts _ ac_bool) rfl hK hM.1 hM.2.1 hM.2.2 hA (N' := n) (a0 := (n, .inl (fI (fun _ => 0)))) (fun cA => rfl) q.1 q.2 (by show n * 1 ≤ _; omega) hc hs hdg (fun q cA H1 hK2 hP hD hS => ?_)
  have e1 := (hK2.2 (tysX G).length (cA, .boolean) (by rw [List.getElem?_append_right (Nat.le_refl _), Nat.sub_self]; rfl)).2
  have e2 := (hK.2 2 (G 2, .boolean) rfl).2
  have e3 : cA = G 2 := Option.some.inj (Eq.trans (Eq.symm e1) e2)
  subst e3
  exact kk q H1 ⟨hP, hD, hS⟩
theorem r_newJ (C : Cx p s m meth c args cc nL own D G) (hA : ∀ q, H0.size ≤ q → A q) (hM : XR D A H0 H locs ws) {z : Int} (n : Nat) (hz : z = (n : Int)) (hn : n ≤ 1000) (hc : cells + 1 ≤ R.cells) (hs : slots + n ≤ R.slots) (hdg : decode cc pc = .ok (.newarray .long, 2))
    (kk : ∀ (q : Nat) (H1 : Heap), XR D A H0 H1 locs (ws ++ [zJ G q n]) → W p l e R s m args below meth c H1 locs (cells + 1) (slots + n) Q (F0 m (pc + 2) ls (.ref q :: rest))) : W p l e R s m args below meth c H locs cells slots Q (F0 m pc ls (.int (iI z) :: rest)) := by
  obtain ⟨hx, hb, hml, hown, hts, hK, hN, hlk⟩ := C
  subst hz
  have q := iI_n n hn
  refine va_newa hx hb (atype := .long) (hts _ ac_long) rfl hK hM.1 hM.2.1 hM.2.2 hA (N' := n) (a0 := (n, .inr (.inl (fJ (fun _ => 0))))) (fun cA => rfl) q.1 q.2 (by show n * 8 ≤ _; omega) hc hs hdg (fun q cA H1 hK2 hP hD hS => ?_)
  have e1 := (hK2.2 (tysX G).length (cA, .long) (by rw [List.getElem?_append_right (Nat.le_refl _), Nat.sub_self]; rfl)).2
  have e2 := (hK.2 1 (G 1, .long) rfl).2
  have e3 : cA = G 1 := Option.some.inj (Eq.trans (Eq.symm e1) e2)
  subst e3
  exact kk q H1 ⟨hP, hD, hS⟩
end XRS
/-! the reference's object, its row of fields named later -/
def IM2 : List Nat := List.range' 102 131
def IM : List Nat := 100 :: 101 :: IM2
theorem IM2_mem {k : Nat} : k ∈ IM2 ↔ 102 ≤ k ∧ k < 233 := by unfold IM2; rw [List.mem_range'_1]
theorem IM_mem {k : Nat} : k ∈ IM ↔ 100 ≤ k ∧ k < 233 := by
  unfold IM
  rw [List.mem_cons, List.mem_cons, IM2_mem]
  omega
def fsM (ad : Nat → Nat) (σ : Sg) (x : Value) : List Value := [.int (iI (σ 232 0)), .int (iI (σ 202 0)), .int (iI (σ 203 0)), x, .ref (ad 102), .int (iI (σ 230 0)), .int (iI (σ 205 0)), .int (iI (σ 206 0)), .int (iI (σ 207 0)), .int (iI (σ 208 0)), .ref (ad 103), .int (iI (σ 209 0)), .ref (ad 116), .ref (ad 117), .ref (ad 182), .ref (ad 195), .int (iI (σ 221 0)), .int (iI (σ 222 0)), .int (iI (σ 223 0)), .int (iI (σ 220 0)), .int (iI (σ 219 0)), .int (iI (σ 231 0)), .int (iI (σ 227 0)), .ref (ad 201), .ref (ad 202), .long (jI (σ 233 0))]
theorem cell_ad (ad : Nat → Nat) (G : Nat → Nat) (σ : Sg) (q : Nat) {k : Nat} (h0 : 102 ≤ k) (h1 : k < 233) : cell (va_up ad 101 q) G σ k = cell ad G σ k := by
  by_cases e : k = 102
  · subst e; rfl
  by_cases e : k = 103
  · subst e
    rw [cx_103, cx_103]
    congr 7
    funext j
    rw [va_up_ne ad q (by omega)]
  by_cases g : k < 116
  · obtain ⟨i, hi, rfl⟩ : ∃ i, i < 12 ∧ k = 104 + i := ⟨k - 104, by omega, by omega⟩
    rw [cx_li _ _ _ hi, cx_li _ _ _ hi]
  by_cases e : k = 116
  · subst e; rfl
  by_cases e : k = 117
  · subst e
    rw [cx_117, cx_117]
    congr 7
    funext j
    rw [va_up_ne ad q (by omega)]
  by_cases g : k < 182
  · obtain ⟨i, hi, rfl⟩ : ∃ i, i < 64 ∧ k = 118 + i := ⟨k - 118, by omega, by omega⟩
    rw [cx_ts _ _ _ hi, cx_ts _ _ _ hi]
  by_cases e : k = 182
  · subst e
    rw [cx_182, cx_182]
    congr 7
    funext j
    rw [va_up_ne ad q (by omega)]
  by_cases g : k < 195
  · obtain ⟨i, hi, rfl⟩ : ∃ i, i < 12 ∧ k = 183 + i := ⟨k - 183, by omega, by omega⟩
    rw [cx_tr _ _ _ hi, cx_tr _ _ _ hi]
  by_cases e : k = 195
  · subst e
    rw [cx_195, cx_195]
    congr 7
    funext j
    rw [va_up_ne ad q (by omega)]
  by_cases g : k < 201
  · obtain ⟨i, hi, rfl⟩ : ∃ i, i < 5 ∧ k = 196 + i := ⟨k - 196, by omega, by omega⟩
    rw [cx_ki _ _ _ hi, cx_ki _ _ _ hi]
  by_cases e : k = 201
  · subst e; rfl
  by_cases e : k = 202
  · subst e
    rw [cx_202, cx_202]
    congr 7
    funext j
    rw [va_up_ne ad q (by omega)]
  obtain ⟨i, hi, rfl⟩ : ∃ i, i < 30 ∧ k = 203 + i := ⟨k - 203, by omega, by omega⟩
  rw [cx_pg _ _ _ hi, cx_pg _ _ _ hi]
/-- behind the making of the board's row: the whole world of the reference -/
def lay0 (σ : Sg) (w h : Int) : Sg := upr (upr (upr (upr σ 202 (ups (σ 202) 0 w)) 203 (ups (σ 203) 0 h)) 201 (fun _ => 0)) 204 (ups (σ 204) 0 0)
theorem lay0_o (σ : Sg) (w h : Int) {r : Nat} (hr : ¬ (r = 201 ∨ r = 202 ∨ r = 203 ∨ r = 204)) : lay0 σ w h r = σ r := by
  unfold lay0
  rw [upr_ne _ _ (by omega), upr_ne _ _ (by omega), upr_ne _ _ (by omega), upr_ne _ _ (by omega)]
theorem lay0_wg (ad : Nat → Nat) (G : Nat → Nat) (σ : Sg) (w h : Int) (q : Nat) : WG (va_up ad 101 q) G IM2 (lay0 σ w h) = WG ad G IM2 σ := by
  unfold WG
  refine List.map_congr_left (fun k hk => ?_)
  have hk2 := IM2_mem.mp hk
  rw [cell_ad ad G _ q hk2.1 hk2.2, va_up_ne ad q (by omega)]
  have own_ne : ∀ r : Nat, (r = 201 ∨ r = 202 ∨ r = 203 ∨ r = 204) → own r = 100 ∨ own r = 101 := by
    intro r hr
    rcases hr with rfl | rfl | rfl | rfl
    · exact Or.inr rfl
    · exact Or.inl rfl
    · exact Or.inl rfl
    · exact Or.inr rfl
  rw [cell_dep ad G k (σ := σ) (σ1 := lay0 σ w h) (fun r hr => lay0_o σ w h (fun h9 => ?_)) (fun r i hr => congrFun (lay0_o σ w h (fun h9 => ?_)) _) (Or.inr (Or.inl ⟨by omega, hk2.2⟩))]
  · rcases hr with hr | hr
    · rcases own_ne r h9 with e | e <;> omega
    · omega
  · unfold dq at hr; omega
