section XF
variable {p : Program} {l : Launch} {e : Env} {R : Room} {s : State} {m : MethodId} {args : Array Value} {below : List Frame} {meth : Method} {c : Code} {H : Heap} {locs : List Loc} {cells slots : Nat} {Q : State → Prop}
variable {cc : ByteArray} {nL : Nat} {own : String} {D : va_G} {ad : Nat → Nat} {G : Nat → Nat} {ids : List Nat} {σ : Sg} {pc : Nat} {ls : Array Slot} {rest : List Value}
/-- a static method of another class -/
def CWf (own : String) (idx : Nat) (y : MethodName) (b : ByteArray) (nL : Nat) (ret : Option FieldType) (n : Nat) : Prop :=
  (Cond.methodLink own idx y ∈ WA ∧ Cond.static y ∈ WA ∧ Cond.initialized y.cls ∈ WA ∧ Cond.code y b nL ret ∈ WA) ∧ (y.cls ≠ "java/lang/invoke/MethodHandle" ∧ y.cls ≠ "java/lang/invoke/VarHandle" ∧ (parseMethodDescriptor y.desc).map (fun d => d.parameters.length) = some n) ∧ nL ≤ 21
theorem x_runF (C : Cx p s m meth c args cc nL own D G) {A : Nat → Prop} {H0 : Heap} {h h' idx n nL' : Nat} (hh : h' < h) {y : MethodName} {b : ByteArray} {ret : Option FieldType} {As : List Value} {Qc : Nat → Array Value → State → Outcome → State → Prop} (cw : CWf own idx y b nL' ret n)
    (hc : MET l y b nL' ret h' As D ad G ids σ Qc) (hM : XI D ad G ids A H0 H locs σ) (hn : As.length = n) {st : List Value} (hst : st = As.reverse ++ rest) (hW : (rest.map fun v => v.category).sum ≤ 8) (hls : ls.size = nL)
    (hdg : decode cc pc = .ok (.invokestatic idx, 3)) : va_Run p l e (rmh h) s m args below meth c H locs 0 0 0 0 (F0 m pc ls st) rest (Qc H.size As.toArray) (AN ad ids H.size) := by
  obtain ⟨hx, hb, hml, hown, hts, hK, hN, hlk⟩ := id C
  obtain ⟨⟨w1, w2, w4, w5⟩, hd, hL⟩ := cw
  exact va_runS (As := As) (rest := rest) (nL := nL) (own := own) ⟨hx, hb, hml, hown, hts⟩ (hc H.size) ⟨callB_of n hts (gin_code w5) rfl rfl rfl (hts _ w4) (hts _ w1) hd ⟨hh, by show 8 + (nL' + 11) + 40 * h' ≤ 40 * h; omega⟩, hts _ w2⟩ ⟨pb_blind, pb_at C hM⟩ rfl hn hls hst (lv_room hW) hdg ⟨Nat.le_refl _, Nat.le_refl _⟩
end XF
theorem fi2 (σ : Sg) {i : Int} (h : 0 ≤ i) : upr (upr (upr (upr σ 217 (fiF (σ 217) i)) 218 (fiF (σ 218) i)) 217 (ups (fiF (σ 217) i) i (-1))) 218 (ups (fiF (σ 218) i) i (-1)) = upr (upr σ 217 (fiF (σ 217) (i + 1))) 218 (fiF (σ 218) (i + 1)) := by
  rw [← fiF_s (σ 217) h, ← fiF_s (σ 218) h]
  funext q
  by_cases e : q = 218
  · subst e; rfl
  by_cases e2 : q = 217
  · subst e2; rfl
  rw [upr_ne _ _ e, upr_ne _ _ e2, upr_ne _ _ e, upr_ne _ _ e2, upr_ne _ _ e, upr_ne _ _ e2]
theorem skp_re (S : Nat → Int) (c : Fn) (sd : Int) {D : Nat} (h : 1 ≤ D) (r1 r2 : Int) (τ : Sg) : skp S c sd D 1 0 0 r1 τ = skp S c sd D 1 0 0 r2 τ := by
  cases D with
  | zero => omega
  | succ D => rw [skp, skp, if_neg (by decide), if_neg (by decide)]
