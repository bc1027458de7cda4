/-! rows that the law wants: Math in any room, masks, shifts; contracts with a weaker end -/
theorem iand_pos (v : Int32) : ∃ y : Int, (0 ≤ y ∧ y ≤ 2147483647) ∧ (v &&& iI 2147483647) = iI y := by
  refine ⟨(v &&& iI 2147483647).toInt, ⟨?_, ?_⟩, (Int32.ofInt_toInt _).symm⟩
  · have hm : (v &&& iI 2147483647).toBitVec.msb = false := by
      rw [Int32.toBitVec_and, BitVec.msb_and, show (iI 2147483647).toBitVec.msb = false by decide, Bool.and_false]
    show 0 ≤ (v &&& iI 2147483647).toBitVec.toInt
    rw [BitVec.toInt_eq_toNat_of_msb hm]
    exact Int.natCast_nonneg _
  · have := Int32.toInt_lt (v &&& iI 2147483647)
    omega
theorem iI_any (v : Int32) : ∃ y : Int, IR y ∧ v = iI y := by
  have h2 := Int32.le_toInt v
  have h3 := Int32.toInt_lt v
  exact ⟨v.toInt, ⟨by omega, by omega⟩, (Int32.ofInt_toInt _).symm⟩
section XLR
variable {p : Program} {l : Launch} {e : Env} {R : Room} {s : State} {m : MethodId} {args : Array Value} {below : List Frame} {meth : Method} {c : Code} {H : Heap} {locs : List Loc} {cells slots : Nat} {Q : State → Prop}
variable {cc : ByteArray} {nL : Nat} {own : String} {D : va_G} {ad : Nat → Nat} {G : Nat → Nat} {ids : List Nat} {σ : Sg} {pc : Nat} {ls : Array Slot} {rest : List Value}
theorem x_iandM (C : Cx p s m meth c args cc nL own D G) {v : Int32} (hdg : decode cc pc = .ok (.iand, 1)) (kk : ∀ y : Int, (0 ≤ y ∧ y ≤ 2147483647) → W p l e R s m args below meth c H locs cells slots Q (F0 m (pc + 1) ls (.int (iI y) :: rest))) : W p l e R s m args below meth c H locs cells slots Q (F0 m pc ls (.int (iI 2147483647) :: .int v :: rest)) := by
  refine lv_iand C.1 C.2.1 hdg ?_
  obtain ⟨y, hy, e⟩ := iand_pos v
  rw [e]
  exact kk y hy
theorem x_ishrA (C : Cx p s m meth c args cc nL own D G) {x y : Int32} (hdg : decode cc pc = .ok (.ishr, 1)) (kk : ∀ z : Int, IR z → W p l e R s m args below meth c H locs cells slots Q (F0 m (pc + 1) ls (.int (iI z) :: rest))) : W p l e R s m args below meth c H locs cells slots Q (F0 m pc ls (.int y :: .int x :: rest)) := by
  refine lv_ishr C.1 C.2.1 hdg ?_
  generalize hw : (x >>> (y &&& 31)) = w
  obtain ⟨z, hz, e⟩ := iI_any w
  rw [e]
  exact kk z hz
theorem w_minS : Cond.static Lib.Math.min.name ∈ WA := wa_t 782 (by decide +kernel) rfl
theorem w_minC : Cond.code Lib.Math.min.name Lib.Math.min.code 2 (some .int) ∈ WA := wa_t 783 (by decide +kernel) rfl
theorem x_maxR (C : Cx p s m meth c args cc nL own D G) (hR : 1 ≤ R.frames ∧ 21 ≤ R.locals) (hf : cells ≤ R.cells ∧ slots ≤ R.slots) {idx : Nat} (hml : ls.size = nL) (w1 : Cond.methodLink own idx Lib.Math.max.name ∈ WA) {a b : Int} (ha : IR a) (hb : IR b) (hW : (rest.map fun v => v.category).sum ≤ 8) (hdg : decode cc pc = .ok (.invokestatic idx, 3))
    (kk : W p l e R s m args below meth c H locs cells slots Q (F0 m (pc + 3) ls (.int (iI (max a b)) :: rest))) : W p l e R s m args below meth c H locs cells slots Q (F0 m pc ls (.int (iI b) :: .int (iI a) :: rest)) := by
  obtain ⟨hx, hb', hml', hown, hts, hK, hN, hlk⟩ := id C
  refine va_mmax hx hb' (hml'.trans hml.symm) hown (hts _ w1) (hts _ w_maxS) (hts _ w_maxI) (hts _ w_maxC) hR.1 (by omega) hf.1 hf.2 hdg ?_
  have e1 : (if iI a < iI b then iI b else iI a) = iI (max a b) := by
    by_cases g : a < b
    · rw [if_pos ((iI_lt ha hb).mpr g), Int.max_eq_right (Int.le_of_lt g)]
    · rw [if_neg (fun q => g ((iI_lt ha hb).mp q)), Int.max_eq_left (Int.not_lt.mp g)]
  rw [e1]
  exact kk
theorem x_minR (C : Cx p s m meth c args cc nL own D G) (hR : 1 ≤ R.frames ∧ 21 ≤ R.locals) (hf : cells ≤ R.cells ∧ slots ≤ R.slots) {idx : Nat} (hml : ls.size = nL) (w1 : Cond.methodLink own idx Lib.Math.min.name ∈ WA) {a b : Int} (ha : IR a) (hb : IR b) (hW : (rest.map fun v => v.category).sum ≤ 8) (hdg : decode cc pc = .ok (.invokestatic idx, 3))
    (kk : W p l e R s m args below meth c H locs cells slots Q (F0 m (pc + 3) ls (.int (iI (min a b)) :: rest))) : W p l e R s m args below meth c H locs cells slots Q (F0 m pc ls (.int (iI b) :: .int (iI a) :: rest)) := by
  obtain ⟨hx, hb', hml', hown, hts, hK, hN, hlk⟩ := id C
  refine va_mmin hx hb' (hml'.trans hml.symm) hown (hts _ w1) (hts _ w_minS) (hts _ w_maxI) (hts _ w_minC) hR.1 (by omega) hf.1 hf.2 hdg ?_
  have e1 : (if iI b < iI a then iI b else iI a) = iI (min a b) := by
    by_cases g : b < a
    · rw [if_pos ((iI_lt hb ha).mpr g), Int.min_eq_right (Int.le_of_lt g)]
    · rw [if_neg (fun q => g ((iI_lt hb ha).mp q)), Int.min_eq_left (Int.not_lt.mp g)]
  rw [e1]
  exact kk
theorem x_absR (C : Cx p s m meth c args cc nL own D G) (hR : 1 ≤ R.frames ∧ 21 ≤ R.locals) (hf : cells ≤ R.cells ∧ slots ≤ R.slots) {idx : Nat} (hml : ls.size = nL) (w1 : Cond.methodLink own idx Lib.Math.abs.name ∈ WA) {a : Int} (ha : IR a ∧ -2147483648 < a) (hW : (rest.map fun v => v.category).sum ≤ 8) (hdg : decode cc pc = .ok (.invokestatic idx, 3))
    (kk : W p l e R s m args below meth c H locs cells slots Q (F0 m (pc + 3) ls (.int (iI (if a < 0 then -a else a)) :: rest))) : W p l e R s m args below meth c H locs cells slots Q (F0 m pc ls (.int (iI a) :: rest)) := by
  obtain ⟨hx, hb', hml', hown, hts, hK, hN, hlk⟩ := id C
  refine va_mabs hx hb' (hml'.trans hml.symm) hown (hts _ w1) (hts _ w_absS) (hts _ w_maxI) (hts _ w_absC) hR.1 (by omega) hf.1 hf.2 hdg ?_
  have e1 : (if 0 ≤ iI a then iI a else 0 - iI a) = iI (if a < 0 then -a else a) := by
    by_cases g : a < 0
    · rw [if_neg (show ¬ 0 ≤ iI a from fun q => absurd ((iI_le (a := 0) (by decide) ha.1).mp q) (by omega)), if_pos g]
      show iI 0 - iI a = _
      rw [iI_sub, Int.zero_sub]
    · rw [if_pos (show 0 ≤ iI a from (iI_le (a := 0) (by decide) ha.1).mpr (by omega)), if_neg g]
  rw [e1]
  exact kk
end XLR
theorem MET.mono {l : Launch} {y : MethodName} {b : ByteArray} {nL : Nat} {ret : Option FieldType} {h : Nat} {av : List Value} {D : va_G} {ad : Nat → Nat} {G : Nat → Nat} {ids : List Nat} {σ : Sg} {Q1 Q2 : Nat → Array Value → State → Outcome → State → Prop} (hm : MET l y b nL ret h av D ad G ids σ Q1) (hQ : ∀ (sz : Nat) (a : Array Value) (s : State) (o : Outcome) (t : State), Q1 sz a s o t → Q2 sz a s o t) : MET l y b nL ret h av D ad G ids σ Q2 := by
  intro sz p e ha hc hk s m args below hf happ hP hK
  obtain ⟨n, o, h1, h2, h3, h4, h5⟩ := hm sz p e ha hc hk s m args below hf happ hP hK
  exact ⟨n, o, h1, h2, h3, hQ _ _ _ _ _ h4, h5⟩
theorem QI.mono {D : va_G} {ad : Nat → Nat} {G : Nat → Nat} {ids : List Nat} {P1 P2 : Int → Sg → Prop} (h : ∀ z τ, P1 z τ → P2 z τ) (sz : Nat) (a : Array Value) (s : State) (o : Outcome) (t : State) (q : QI D ad G ids P1 sz a s o t) : QI D ad G ids P2 sz a s o t := by
  obtain ⟨⟨r, u, h1, ⟨h2, h3⟩, h4⟩, h5⟩ := q
  exact ⟨⟨r, u, h1, ⟨h2, h _ _ h3⟩, h4⟩, h5⟩
theorem QL.mono {D : va_G} {ad : Nat → Nat} {G : Nat → Nat} {ids : List Nat} {P1 P2 : Int → Sg → Prop} (h : ∀ z τ, P1 z τ → P2 z τ) (sz : Nat) (a : Array Value) (s : State) (o : Outcome) (t : State) (q : QL D ad G ids P1 sz a s o t) : QL D ad G ids P2 sz a s o t := by
  obtain ⟨⟨r, u, h1, ⟨h2, h3⟩, h4⟩, h5⟩ := q
  exact ⟨⟨r, u, h1, ⟨h2, h _ _ h3⟩, h4⟩, h5⟩
