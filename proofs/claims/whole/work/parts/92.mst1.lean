/-! the start: what the tables and the premises say of it -/
theorem st_tbl {args : Array Value} {s : State} (hts : ∀ w ∈ lw_tbl, w.before args s = true) {w : Cond} (h : w ∈ tables_1) : w.before args s = true := hts w (List.mem_append_right _ h)
theorem st_wa {args : Array Value} {s : State} (hts : ∀ w ∈ lw_tbl, w.before args s = true) : ∀ w ∈ WA, w.before args s = true := fun w hw => hts w (List.mem_filter.mp hw).1
def STF : List Cond := flatC (Jvm.Cond.and given_1 narrow_1)
theorem st_fl {args : Array Value} {s : State} (hg : (Jvm.Cond.and given_1 narrow_1).before args s = true) {w : Cond} (h : w ∈ STF) : w.before args s = true := flat_of_before _ hg w h
theorem st_NCS {args : Array Value} {s : State} (hg : (Jvm.Cond.and given_1 narrow_1).before args s = true) : NCS s :=
  ⟨va_Nc.of (st_fl hg (w := Cond.not (.castable sIAE sOOB)) (List.mem_of_getElem? (i := 34) (by decide +kernel))), va_Nc.of (st_fl hg (w := Cond.not (.castable sISE sOOB)) (List.mem_of_getElem? (i := 35) (by decide +kernel))), va_Nc.of (st_fl hg (w := Cond.not (.castable sISE sIAE)) (List.mem_of_getElem? (i := 20) (by decide +kernel)))⟩
theorem ix_Thr : Cond.initialized "java/lang/Throwable" ∈ tables_1 := by decide +kernel
theorem st_TZ {args : Array Value} {s : State} (hts : ∀ w ∈ lw_tbl, w.before args s = true) (hg : (Jvm.Cond.and given_1 narrow_1).before args s = true) : TZ (FA s) s s.heap :=
  ⟨vx_Zqof (st_tbl hts (List.mem_of_getElem? (i := 710) (by decide +kernel))) (st_tbl hts ix_Thr) (st_fl hg (List.mem_of_getElem? (i := 4) (by decide +kernel))) (fun a h1 h2 => by unfold FA at h2; omega),
   vx_Zqof (st_tbl hts (List.mem_of_getElem? (i := 712) (by decide +kernel))) (st_tbl hts ix_Thr) (st_fl hg (List.mem_of_getElem? (i := 5) (by decide +kernel))) (fun a h1 h2 => by unfold FA at h2; omega)⟩
theorem BWL_in : ∀ w ∈ BWL, w ∈ tables_1 := by decide +kernel
theorem NWL_in : ∀ w ∈ NWL, w ∈ tables_1 := by decide +kernel
theorem NWL_tab : ∀ w ∈ NWL, w.onTables = true := by decide
theorem STR_in : ∀ q ∈ STR, Cond.stringRef RX11 q.1 q.2 ∈ tables_1 := by decide +kernel
theorem STR_ex : ∀ q ∈ STR, Cond.exactly (Term.string RX11 q.1) "java/lang/String" ∈ STF := by decide +kernel
theorem st_NW {args : Array Value} {s : State} (hts : ∀ w ∈ lw_tbl, w.before args s = true) : NW s := fun w hw => va_Nw.of (NWL_tab w hw) (st_tbl hts (NWL_in w hw))
theorem st_TX {args : Array Value} {s : State} (hts : ∀ w ∈ lw_tbl, w.before args s = true) (hg : (Jvm.Cond.and given_1 narrow_1).before args s = true) : ∃ sa : Nat → Nat, TX sa s := by
  have h : ∀ k : Nat, ∃ a : Nat, ∀ q ∈ STR, q.1 = k → vk_R RX11 q.1 q.2 a s := by
    intro k
    by_cases e : ∃ q, q ∈ STR ∧ q.1 = k
    · obtain ⟨q, hq, rfl⟩ := e
      obtain ⟨a, -, -, -, ha, -⟩ := Cond.exactly_spec (st_fl hg (STR_ex q hq))
      refine ⟨a, fun q2 hq2 e2 => vk_R.of (st_tbl hts (STR_in q2 hq2)) ?_⟩
      rw [e2]
      exact ha
    · exact ⟨0, fun q hq e2 => absurd ⟨q, hq, e2⟩ e⟩
  obtain ⟨sa, hsa⟩ := Classical.skolem.mp h
  exact ⟨sa, fun w hw => va_Nw.of (BWL_tab w hw) (st_tbl hts (BWL_in w hw)), fun q hq => hsa q.1 q hq rfl⟩
theorem st_AV {args : Array Value} {s : State} (hts : ∀ w ∈ lw_tbl, w.before args s = true) : AV s :=
  ⟨va_AO.of (st_tbl hts (List.mem_of_getElem? (i := 38) (by decide +kernel))), st_tbl hts (w := .arrayOver (.array .int)) (List.mem_of_getElem? (i := 1088) (by decide +kernel))⟩
theorem st_ova {args : Array Value} {s : State} {t : FieldType} (h : (Cond.arrayOver (.array t)).before args s = true) : ∃ comp c k, s.vm.findClass (FieldType.array t).toString = some comp ∧ s.vm.classes[c]? = some k ∧ k.kind = .array comp (.array t) ∧ s.vm.findClass ("[" ++ (FieldType.array t).toString) = some c := by
  unfold Cond.before at h
  simp only [Cond.holds, Cond.value, beq_iff_eq] at h
  cases hc : s.vm.findClass (FieldType.array t).toString with
  | none => simp [hc] at h
  | some comp =>
    simp only [hc, Option.bind_some, Option.bind_eq_some_iff, Option.map_eq_some_iff] at h
    obtain ⟨c, hi, k, hk, hb⟩ := h
    obtain ⟨hlt, hp, -⟩ := Array.findIdx?_eq_some_iff_getElem.mp hi
    have hkk : s.vm.classes[c] = k := (Array.getElem?_eq_some_iff.mp hk).2
    rw [hkk] at hp
    cases hkind : k.kind with
    | array component ty =>
      rw [hkind] at hb hp
      simp at hb hp
      exact ⟨comp, c, k, rfl, hk, by rw [hkind, hp, hb.1], hb.2⟩
    | _ => rw [hkind] at hb; simp at hb
theorem st_G {args : Array Value} {s : State} (hts : ∀ w ∈ lw_tbl, w.before args s = true) : ∃ G : Nat → Nat, ∀ (k : Nat) (q : ClassId × FieldType), (tysX G)[k]? = some q → ArrOfT s q.1 q.2 ∧ va_RA s q.1 q.2 := by
  obtain ⟨c0, k0, p0, a0, b0, d0⟩ := Cond.arrayClass_spec (st_tbl hts (w := .arrayClass .int) (List.mem_of_getElem? (i := 63) (by decide +kernel)))
  obtain ⟨c1, k1, p1, a1, b1, d1⟩ := Cond.arrayClass_spec (st_tbl hts (w := .arrayClass .long) (List.mem_of_getElem? (i := 157) (by decide +kernel)))
  obtain ⟨c2, k2, p2, a2, b2, d2⟩ := Cond.arrayClass_spec (st_tbl hts (w := .arrayClass .boolean) (List.mem_of_getElem? (i := 64) (by decide +kernel)))
  obtain ⟨p3, c3, k3, f3, -, b3, d3, a3⟩ := Cond.arrayOver_spec (st_tbl hts (w := .arrayOver (.object "KindlingTree$MoveList")) (List.mem_of_getElem? (i := 38) (by decide +kernel)))
  obtain ⟨p4, c4, k4, f4, b4, d4, a4⟩ := st_ova (st_tbl hts (w := .arrayOver (.array .int)) (List.mem_of_getElem? (i := 1088) (by decide +kernel)))
  refine ⟨fun k => ([c0, c1, c2, c3, c4] : List Nat).getD k 0, fun k q hq => ?_⟩
  match k with
  | 0 =>
    have e : (c0, FieldType.int) = q := Option.some.inj hq
    subst e
    exact ⟨fun n z => ⟨fun k h => (by cases h), k0, b0, p0, d0⟩, a0⟩
  | 1 =>
    have e : (c1, FieldType.long) = q := Option.some.inj hq
    subst e
    exact ⟨fun n z => ⟨fun k h => (by cases h), k1, b1, p1, d1⟩, a1⟩
  | 2 =>
    have e : (c2, FieldType.boolean) = q := Option.some.inj hq
    subst e
    exact ⟨fun n z => ⟨fun k h => (by cases h), k2, b2, p2, d2⟩, a2⟩
  | 3 =>
    have e : (c3, FieldType.object "KindlingTree$MoveList") = q := Option.some.inj hq
    subst e
    exact ⟨fun n z => ⟨fun k h => (by cases h), k3, b3, p3, d3⟩, k3, p3, b3, d3, f3, a3⟩
  | 4 =>
    have e : (c4, FieldType.array .int) = q := Option.some.inj hq
    subst e
    exact ⟨fun n z => ⟨fun k h => (by cases h), k4, b4, p4, d4⟩, a4⟩
  | k + 5 => exact absurd hq (by simp [tysX])
theorem st_D {args : Array Value} {s : State} (hts : ∀ w ∈ lw_tbl, w.before args s = true) : ∃ D : va_G, ∀ (c : Nat) (q : vw_C), vwCl[c]? = some q → u_Kn s q.1 q.2.1 q.2.2 (D.1 c) (D.2 c) := by
  have hw := st_wa hts
  have hk : ∀ c : Nat, ∃ (cC : ClassId) (iS : Nat → Nat), ∀ q : vw_C, vwCl[c]? = some q → u_Kn s q.1 q.2.1 q.2.2 cC iS := by
    intro c
    match c with
    | 0 =>
      obtain ⟨a, b, h⟩ := u_known hw inWX0 (hw _ in_X0)
      exact ⟨a, b, fun q hq => by have e : (RX0, TX0, 4) = q := Option.some.inj hq; subst e; exact h⟩
    | 1 =>
      obtain ⟨a, b, h⟩ := u_known hw inWX1 (hw _ in_X1)
      exact ⟨a, b, fun q hq => by have e : (RX1, TX1, 4) = q := Option.some.inj hq; subst e; exact h⟩
    | 2 =>
      obtain ⟨a, b, h⟩ := u_known hw inWX2 (hw _ in_X2)
      exact ⟨a, b, fun q hq => by have e : (RX2, TX2, 4) = q := Option.some.inj hq; subst e; exact h⟩
    | 3 =>
      obtain ⟨a, b, h⟩ := u_known hw inWX3 (hw _ in_X3)
      exact ⟨a, b, fun q hq => by have e : (RX3, TX3, 2) = q := Option.some.inj hq; subst e; exact h⟩
    | 4 =>
      obtain ⟨a, b, h⟩ := u_known hw inWX4 (hw _ in_X4)
      exact ⟨a, b, fun q hq => by have e : (RX4, TX4, 2) = q := Option.some.inj hq; subst e; exact h⟩
    | 5 =>
      obtain ⟨a, b, h⟩ := u_known hw inWX5 (hw _ in_X5)
      exact ⟨a, b, fun q hq => by have e : (RX5, TX5, 6) = q := Option.some.inj hq; subst e; exact h⟩
    | 6 =>
      obtain ⟨a, b, h⟩ := u_known hw inWX6 (hw _ in_X6)
      exact ⟨a, b, fun q hq => by have e : (RX6, TX6, 4) = q := Option.some.inj hq; subst e; exact h⟩
    | 7 =>
      obtain ⟨a, b, h⟩ := u_known hw inWX7 (hw _ in_X7)
      exact ⟨a, b, fun q hq => by have e : (RX7, TX7, 10) = q := Option.some.inj hq; subst e; exact h⟩
    | 8 =>
      obtain ⟨a, b, h⟩ := u_known hw inWX8 (hw _ in_X8)
      exact ⟨a, b, fun q hq => by have e : (RX8, TX8, 6) = q := Option.some.inj hq; subst e; exact h⟩
    | 9 =>
      obtain ⟨a, b, h⟩ := u_known hw inWX9 (hw _ in_X9)
      exact ⟨a, b, fun q hq => by have e : (RX9, TX9, 3) = q := Option.some.inj hq; subst e; exact h⟩
    | 10 =>
      obtain ⟨a, b, h⟩ := u_known hw inWX10 (hw _ in_X10)
      exact ⟨a, b, fun q hq => by have e : (RX10, TX10, 3) = q := Option.some.inj hq; subst e; exact h⟩
    | 11 =>
      obtain ⟨a, b, h⟩ := u_known hw inWX11 (hw _ in_X11)
      exact ⟨a, b, fun q hq => by have e : (RX11, TX11, 8) = q := Option.some.inj hq; subst e; exact h⟩
    | 12 =>
      obtain ⟨a, b, h⟩ := u_known hw inWX12 (hw _ in_X12)
      exact ⟨a, b, fun q hq => by have e : (RX12, TX12, 26) = q := Option.some.inj hq; subst e; exact h⟩
    | c + 13 =>
      obtain ⟨a, b, h⟩ := u_known hw inWX0 (hw _ in_X0)
      exact ⟨a, b, fun q hq => absurd hq (by simp [vwCl])⟩
  obtain ⟨dC, hdC⟩ := Classical.skolem.mp hk
  obtain ⟨dI, hdI⟩ := Classical.skolem.mp hdC
  exact ⟨(dC, dI), hdI⟩
