/-! a world as a list, as makers see it -/
def XR (D : va_G) (A : Nat → Prop) (H0 H : Heap) (locs : List Loc) (ws : va_W) : Prop := va_P D vwCl ws H ∧ va_D A ws ∧ va_S A H0 H locs
theorem va_P.mem {D : va_G} {cl : List vw_C} {w1 w2 : va_W} {H : Heap} (h : va_P D cl w1 H) (hs : ∀ x, x ∈ w2 → x ∈ w1) : va_P D cl w2 H := fun k q hk => by
  obtain ⟨i, hi⟩ := List.getElem?_of_mem (hs q (List.mem_of_getElem? hk))
  exact h i q hi
theorem XR.perm {D : va_G} {A : Nat → Prop} {H0 H : Heap} {locs : List Loc} {w1 w2 : va_W} (h : XR D A H0 H locs w1) (is : List Nat) (hn : va_nd is = true) (hs : is.map (fun i => w1[i]?) = w2.map some) : XR D A H0 H locs w2 := by
  refine ⟨?_, h.2.1.sub is hn hs, h.2.2⟩
  intro k q hk
  have h1 : (is.map (fun i => w1[i]?))[k]? = some (some q) := by rw [hs, List.getElem?_map, hk]; rfl
  rw [List.getElem?_map] at h1
  cases hi : is[k]? with
  | none => rw [hi] at h1; cases h1
  | some i => rw [hi] at h1; exact h.1 i q (Option.some.inj h1)
theorem va_at_eq {D : va_G} {cl : List vw_C} {a : Nat} {e1 e2 : va_E} {H : Heap} (h : va_at D cl (a, e1) H) (he : e1 = e2 ∨ ∃ x y : ClassId × vp_A, e1 = .inl x ∧ e2 = .inl y ∧ vp_cell x.1 x.2 = vp_cell y.1 y.2) : va_at D cl (a, e2) H := by
  rcases he with rfl | ⟨x, y, rfl, rfl, e⟩
  · exact h
  · show H[a]? = some (vp_cell y.1 y.2)
    rw [← e]
    exact h
section XRS
variable {p : Program} {l : Launch} {e : Env} {R : Room} {s : State} {m : MethodId} {args : Array Value} {below : List Frame} {meth : Method} {c : Code} {H : Heap} {locs : List Loc} {cells slots mc ms : Nat} {Q : State → Prop}
variable {cc : ByteArray} {nL : Nat} {own : String} {D : va_G} {ad : Nat → Nat} {G : Nat → Nat} {ids : List Nat} {A : Nat → Prop} {H0 : Heap} {σ : Sg} {ws : va_W} {pc : Nat} {ls : Array Slot} {rest : List Value}
theorem r_get (C : Cx p s m meth c args cc nL own D G) (hM : XR D A H0 H locs ws) (q0 : Nat) {a ci : Nat} {fs : List Value} (he : ws[q0]? = some (a, .inr (ci, fs))) {Rn : String} {T : u_T} {N : Nat} (hv : vwCl[ci]? = some (Rn, T, N)) (hin : ∀ w ∈ u_ws Rn T N, w ∈ WA) (f : Nat) (hf : f < N) {idx : Nat} (hw : Cond.fieldLink own idx (T f).1 (T f).2.1 (T f).2.2.1 ∈ WA) {v : Value} (hfv : fs[f]? = some v)
    (hdg : decode cc pc = .ok (.getfield idx, 3)) (kk : W p l e R s m args below meth c H locs cells slots Q (F0 m (pc + 3) ls (v :: rest))) : W p l e R s m args below meth c H locs cells slots Q (F0 m pc ls (.ref a :: rest)) := by
  obtain ⟨hx, hb, hml, hown, hts, hK, hN, hlk⟩ := C
  exact va_get hx hb hts hin hown hK hM.1 q0 he hv f hf (hts _ hw) (fun _ h9 => h9) hfv hdg kk
theorem r_put (C : Cx p s m meth c args cc nL own D G) (hM : XR D A H0 H locs ws) (q0 : Nat) {a ci : Nat} {fs : List Value} (he : ws[q0]? = some (a, .inr (ci, fs))) {Rn : String} {T : u_T} {N : Nat} (hv : vwCl[ci]? = some (Rn, T, N)) (hin : ∀ w ∈ u_ws Rn T N, w ∈ WA) (ty0 : Nat → FieldType) (hty : ∀ k, k < N → parseFieldDescriptor (T k).2.2.1 = some (ty0 k)) (hnm : ∀ a, a < N → ∀ b, b < N → a ≠ b → (T a).2.1 ≠ (T b).2.1) (f : Nat) (hf : f < N) {idx : Nat} (hw : Cond.fieldLink own idx (T f).1 (T f).2.1 (T f).2.2.1 ∈ WA) (hfin : (T f).2.2.2 = false) {v : Value} {ty : FieldType} (hd : parseFieldDescriptor (T f).2.2.1 = some ty) (hn : narrow ty v = v) (hfit : fits ty v = true) (hl : f < fs.length)
    (hdg : decode cc pc = .ok (.putfield idx, 3)) (kk : ∀ (H1 : Heap) (locs1 : List Loc), XR D A H0 H1 locs1 (ws.set q0 (a, .inr (ci, fs.set f v))) → W p l e R s m args below meth c H1 locs1 cells slots Q (F0 m (pc + 3) ls rest)) : W p l e R s m args below meth c H locs cells slots Q (F0 m pc ls (v :: .ref a :: rest)) := by
  obtain ⟨hx, hb, hml, hown, hts, hK, hN, hlk⟩ := C
  exact va_put hx hb hts hin ty0 hty hnm hown hK hM.1 hM.2.1 hM.2.2 q0 he hv f hf (hts _ hw) (fun _ h9 => h9) hfin hd hn hfit hl hdg (fun H1 locs1 hP hD hS => kk H1 locs1 ⟨hP, hD, hS⟩)
theorem r_putF (C : Cx p s m meth c args cc nL own D G) (hnm2 : meth.name = "<init>") (hM : XR D A H0 H locs ws) (q0 : Nat) {a ci : Nat} {fs : List Value} (he : ws[q0]? = some (a, .inr (ci, fs))) {Rn : String} {T : u_T} {N : Nat} (hv : vwCl[ci]? = some (Rn, T, N)) (hin : ∀ w ∈ u_ws Rn T N, w ∈ WA) (ty0 : Nat → FieldType) (hty : ∀ k, k < N → parseFieldDescriptor (T k).2.2.1 = some (ty0 k)) (hnm : ∀ a, a < N → ∀ b, b < N → a ≠ b → (T a).2.1 ≠ (T b).2.1) (f : Nat) (hf : f < N) {idx : Nat} (hw : Cond.fieldLink own idx (T f).1 (T f).2.1 (T f).2.2.1 ∈ WA) (hfin : (T f).2.2.2 = true) (hdecl : (T f).1 = own) {v : Value} {ty : FieldType} (hd : parseFieldDescriptor (T f).2.2.1 = some ty) (hn : narrow ty v = v) (hfit : fits ty v = true) (hl : f < fs.length)
    (hdg : decode cc pc = .ok (.putfield idx, 3)) (kk : ∀ (H1 : Heap) (locs1 : List Loc), XR D A H0 H1 locs1 (ws.set q0 (a, .inr (ci, fs.set f v))) → W p l e R s m args below meth c H1 locs1 cells slots Q (F0 m (pc + 3) ls rest)) : W p l e R s m args below meth c H locs cells slots Q (F0 m pc ls (v :: .ref a :: rest)) := by
  obtain ⟨hx, hb, hml, hown, hts, hK, hN, hlk⟩ := C
  exact va_putF hx hb hts hin ty0 hty hnm hown hK hM.1 hM.2.1 hM.2.2 q0 he hv f hf (hts _ hw) (fun _ h9 => h9) hfin hnm2 hdecl hd hn hfit hl hdg (fun H1 locs1 hP hD hS => kk H1 locs1 ⟨hP, hD, hS⟩)
abbrev zI (G : Nat → Nat) (q n : Nat) : Nat × va_E := (q, .inl (G 0, n, .inl (fI (fun _ => 0))))
abbrev zJ (G : Nat → Nat) (q n : Nat) : Nat × va_E := (q, .inl (G 1, n, .inr (.inl (fJ (fun _ => 0)))))
abbrev zZ (G : Nat → Nat) (q n : Nat) : Nat × va_E := (q, .inl (G 2, n, .inl (fI (fun _ => 0))))
theorem r_newI (C : Cx p s m meth c args cc nL own D G) (hA : ∀ q, H0.size ≤ q → A q) (hM : XR D A H0 H locs ws) {z : Int} (n : Nat) (hz : z = (n : Int)) (hn : n ≤ 1000) (hc : cells + 1 ≤ R.cells) (hs : slots + n ≤ R.slots) (hdg : decode cc pc = .ok (.newarray .int, 2))
    (kk : ∀ (q : Nat) (H1 : Heap), XR D A H0 H1 locs (ws ++ [zI G q n]) → W p l e R s m args below meth c H1 locs (cells + 1) (slots + n) Q (F0 m (pc + 2) ls (.ref q :: rest))) : W p l e R s m args below meth c H locs cells slots Q (F0 m pc ls (.int (iI z) :: rest)) := by
  obtain ⟨hx, hb, hml, hown, hts, hK, hN, hlk⟩ := C
  subst hz
  have q := iI_n n hn
  refine va_newa hx hb (atype := .int) (hts _ ac_int) rfl hK hM.1 hM.2.1 hM.2.2 hA (N' := n) (a0 := (n, .inl (fI (fun _ => 0)))) (fun cA => rfl) q.1 q.2 (by show n * 4 ≤ _; omega) hc hs hdg (fun q cA H1 hK2 hP hD hS => ?_)
  have e1 := (hK2.2 (tysX G).length (cA, .int) (by rw [List.getElem?_append_right (Nat.le_refl _), Nat.sub_self]; rfl)).2
  have e2 := (hK.2 0 (G 0, .int) rfl).2
  have e3 : cA = G 0 := Option.some.inj (Eq.trans (Eq.symm e1) e2)
  subst e3
  exact kk q H1 ⟨hP, hD, hS⟩
theorem r_newZ (C : Cx p s m meth c args cc nL own D G) (hA : ∀ q, H0.size ≤ q → A q) (hM : XR D A H0 H locs ws) {z : Int} (n : Nat) (hz : z = (n : Int)) (hn : n ≤ 1000) (hc : cells + 1 ≤ R.cells) (hs : slots + n ≤ R.slots) (hdg : decode cc pc = .ok (.newarray .boolean, 2))
    (kk : ∀ (q : Nat) (H1 : Heap), XR D A H0 H1 locs (ws ++ [zZ G q n]) → W p l e R s m args below meth c H1 locs (cells + 1) (slots + n) Q (F0 m (pc + 2) ls (.ref q :: rest))) : W p l e R s m args below meth c H locs cells slots Q (F0 m pc ls (.int (iI z) :: rest)) := by
  obtain ⟨hx, hb, hml, hown, hts, hK, hN, hlk⟩ := C
  subst hz
  have q := iI_n n hn
  refine va_newa hx hb (atype := .boolean) (hts _ ac_bool) rfl hK hM.1 hM.2.1 hM.2.2 hA (N' := n) (a0 := (n, .inl (fI (fun _ => 0)))) (fun cA => rfl) q.1 q.2 (by show n * 1 ≤ _; omega) hc hs hdg (fun q cA H1 hK2 hP hD hS => ?_)
  have e1 := (hK2.2 (tysX G).length (cA, .boolean) (by rw [List.getElem?_append_right (Nat.le_refl _), Nat.sub_self]; rfl)).2
  have e2 := (hK.2 2 (G 2, .boolean) rfl).2
  have e3 : cA = G 2 := Option.some.inj (Eq.trans (Eq.symm e1) e2)
  subst e3
  exact kk q H1 ⟨hP, hD, hS⟩
theorem r_newJ (C : Cx p s m meth c args cc nL own D G) (hA : ∀ q, H0.size ≤ q → A q) (hM : XR D A H0 H locs ws) {z : Int} (n : Nat) (hz : z = (n : Int)) (hn : n ≤ 1000) (hc : cells + 1 ≤ R.cells) (hs : slots + n ≤ R.slots) (hdg : decode cc pc = .ok (.newarray .long, 2))
    (kk : ∀ (q : Nat) (H1 : Heap), XR D A H0 H1 locs (ws ++ [zJ G q n]) → W p l e R s m args below meth c H1 locs (cells + 1) (slots + n) Q (F0 m (pc + 2) ls (.ref q :: rest))) : W p l e R s m args below meth c H locs cells slots Q (F0 m pc ls (.int (iI z) :: rest)) := by
  obtain ⟨hx, hb, hml, hown, hts, hK, hN, hlk⟩ := C
  subst hz
  have q := iI_n n hn
  refine va_newa hx hb (atype := .long) (hts _ ac_long) rfl hK hM.1 hM.2.1 hM.2.2 hA (N' := n) (a0 := (n, .inr (.inl (fJ (fun _ => 0))))) (fun cA => rfl) q.1 q.2 (by show n * 8 ≤ _; omega) hc hs hdg (fun q cA H1 hK2 hP hD hS => ?_)
  have e1 := (hK2.2 (tysX G).length (cA, .long) (by rw [List.getElem?_append_right (Nat.le_refl _), Nat.sub_self]; rfl)).2
  have e2 := (hK.2 1 (G 1, .long) rfl).2
  have e3 : cA = G 1 := Option.some.inj (Eq.trans (Eq.symm e1) e2)
  subst e3
  exact kk q H1 ⟨hP, hD, hS⟩
end XRS
