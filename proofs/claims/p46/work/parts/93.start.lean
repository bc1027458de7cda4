/-! the start: what the tables and the premises say of it; the state of a new object -/
def FA (s : State) : Nat → Prop := fun q => s.heap.size ≤ q
theorem st_tbl {args : Array Value} {s : State} (hts : ∀ w ∈ lw_tbl, w.before args s = true) {w : Cond} (h : w ∈ tables_1) : w.before args s = true := hts w (List.mem_append_right _ h)
theorem st_wa {args : Array Value} {s : State} (hts : ∀ w ∈ lw_tbl, w.before args s = true) : ∀ w ∈ WA, w.before args s = true := fun w hw => hts w (List.mem_filter.mp hw).1
def STF : List Cond := flatC (Jvm.Cond.and given_1 narrow_1)
theorem st_fl {args : Array Value} {s : State} (hg : (Jvm.Cond.and given_1 narrow_1).before args s = true) {w : Cond} (h : w ∈ STF) : w.before args s = true := flat_of_before _ hg w h
theorem st_nc1 : Cond.not (.castable sIAE sOOB) ∈ STF := by decide +kernel
theorem st_nc2 : Cond.not (.castable sISE sOOB) ∈ STF := by decide +kernel
theorem st_nc3 : Cond.not (.castable sISE sIAE) ∈ STF := by decide +kernel
theorem st_NCS {args : Array Value} {s : State} (hg : (Jvm.Cond.and given_1 narrow_1).before args s = true) : NCS s :=
  ⟨va_Nc.of (st_fl hg st_nc1), va_Nc.of (st_fl hg st_nc2), va_Nc.of (st_fl hg st_nc3)⟩
theorem ix_Thr : Cond.initialized "java/lang/Throwable" ∈ tables_1 := by decide +kernel
theorem ls_1 : Cond.laysStatic Bundle.tN "UNASSIGNED_STACK" Bundle.steD ∈ tables_1 := by decide +kernel
theorem ls_2 : Cond.laysStatic Bundle.tN "SUPPRESSED_SENTINEL" Bundle.listD ∈ tables_1 := by decide +kernel
theorem ls_3 : Cond.isRef (.static Bundle.tN "UNASSIGNED_STACK" Bundle.steD) ∈ STF := by decide +kernel
theorem ls_4 : Cond.isRef (.static Bundle.tN "SUPPRESSED_SENTINEL" Bundle.listD) ∈ STF := by decide +kernel
theorem st_TZ {args : Array Value} {s : State} (hts : ∀ w ∈ lw_tbl, w.before args s = true) (hg : (Jvm.Cond.and given_1 narrow_1).before args s = true) : TZ (FA s) s s.heap :=
  ⟨vx_Zqof (st_tbl hts ls_1) (st_tbl hts ix_Thr) (st_fl hg ls_3) (fun a h1 h2 => by unfold FA at h2; omega),
   vx_Zqof (st_tbl hts ls_2) (st_tbl hts ix_Thr) (st_fl hg ls_4) (fun a h1 h2 => by unfold FA at h2; omega)⟩
theorem BWL_in : ∀ w ∈ BWL, w ∈ tables_1 := by decide +kernel
theorem NWL_in : ∀ w ∈ NWL, w ∈ tables_1 := by decide +kernel
theorem NWL_tab : ∀ w ∈ NWL, w.onTables = true := by decide
theorem STR_in : ∀ q ∈ STR, Cond.stringRef RX11 q.1 q.2 ∈ tables_1 := by decide +kernel
theorem STR_ex : ∀ q ∈ STR, Cond.exactly (Term.string RX11 q.1) "java/lang/String" ∈ STF := by decide +kernel
theorem st_NW {args : Array Value} {s : State} (hts : ∀ w ∈ lw_tbl, w.before args s = true) : NW s := fun w hw => va_Nw.of (NWL_tab w hw) (st_tbl hts (NWL_in w hw))
theorem st_TX {args : Array Value} {s : State} (hts : ∀ w ∈ lw_tbl, w.before args s = true) (hg : (Jvm.Cond.and given_1 narrow_1).before args s = true) : ∃ sa : Nat → Nat, TX sa s := by
  have h : ∀ k : Nat, ∃ a : Nat, ∀ q ∈ STR, q.1 = k → vk_R RX11 q.1 q.2 a s := by
    intro k
    by_cases e : ∃ q, q ∈ STR ∧ q.1 = k
    · obtain ⟨q, hq, rfl⟩ := e
      obtain ⟨a, -, -, -, ha, -⟩ := Cond.exactly_spec (st_fl hg (STR_ex q hq))
      refine ⟨a, fun q2 hq2 e2 => vk_R.of (st_tbl hts (STR_in q2 hq2)) ?_⟩
      rw [e2]
      exact ha
    · exact ⟨0, fun q hq e2 => absurd ⟨q, hq, e2⟩ e⟩
  obtain ⟨sa, hsa⟩ := Classical.skolem.mp h
  exact ⟨sa, fun w hw => va_Nw.of (BWL_tab w hw) (st_tbl hts (BWL_in w hw)), fun q hq => hsa q.1 q hq rfl⟩
theorem ao_in : Cond.arrayOver (.object "KindlingTree$MoveList") ∈ tables_1 := by decide +kernel
theorem ac_in0 : Cond.arrayClass .int ∈ tables_1 := by decide +kernel
theorem ac_in1 : Cond.arrayClass .long ∈ tables_1 := by decide +kernel
theorem ac_in2 : Cond.arrayClass .boolean ∈ tables_1 := by decide +kernel
theorem st_AV {args : Array Value} {s : State} (hts : ∀ w ∈ lw_tbl, w.before args s = true) : AV s := va_AO.of (st_tbl hts ao_in)
theorem st_G {args : Array Value} {s : State} (hts : ∀ w ∈ lw_tbl, w.before args s = true) : ∃ G : Nat → Nat, ∀ (k : Nat) (q : ClassId × FieldType), (tysX G)[k]? = some q → ArrOfT s q.1 q.2 ∧ va_RA s q.1 q.2 := by
  obtain ⟨c0, k0, p0, a0, b0, d0⟩ := Cond.arrayClass_spec (st_tbl hts ac_in0)
  obtain ⟨c1, k1, p1, a1, b1, d1⟩ := Cond.arrayClass_spec (st_tbl hts ac_in1)
  obtain ⟨c2, k2, p2, a2, b2, d2⟩ := Cond.arrayClass_spec (st_tbl hts ac_in2)
  obtain ⟨p3, c3, k3, f3, -, b3, d3, a3⟩ := Cond.arrayOver_spec (st_tbl hts ao_in)
  refine ⟨fun k => ([c0, c1, c2, c3] : List Nat).getD k 0, fun k q hq => ?_⟩
  match k with
  | 0 =>
    have e : (c0, FieldType.int) = q := Option.some.inj hq
    subst e
    exact ⟨fun n z => ⟨fun k h => (by cases h), k0, b0, p0, d0⟩, a0⟩
  | 1 =>
    have e : (c1, FieldType.long) = q := Option.some.inj hq
    subst e
    exact ⟨fun n z => ⟨fun k h => (by cases h), k1, b1, p1, d1⟩, a1⟩
  | 2 =>
    have e : (c2, FieldType.boolean) = q := Option.some.inj hq
    subst e
    exact ⟨fun n z => ⟨fun k h => (by cases h), k2, b2, p2, d2⟩, a2⟩
  | 3 =>
    have e : (c3, FieldType.object "KindlingTree$MoveList") = q := Option.some.inj hq
    subst e
    exact ⟨fun n z => ⟨fun k h => (by cases h), k3, b3, p3, d3⟩, k3, p3, b3, d3, f3, a3⟩
  | k + 4 => exact absurd hq (by simp [tysX])
theorem st_D {args : Array Value} {s : State} (hts : ∀ w ∈ lw_tbl, w.before args s = true) : ∃ D : va_G, ∀ (c : Nat) (q : vw_C), vwCl[c]? = some q → u_Kn s q.1 q.2.1 q.2.2 (D.1 c) (D.2 c) := by
  have hw := st_wa hts
  have hk : ∀ c : Nat, ∃ (cC : ClassId) (iS : Nat → Nat), ∀ q : vw_C, vwCl[c]? = some q → u_Kn s q.1 q.2.1 q.2.2 cC iS := by
    intro c
    match c with
    | 0 =>
      obtain ⟨a, b, h⟩ := u_known hw inWX0 (hw _ in_X0)
      exact ⟨a, b, fun q hq => by have e : (RX0, TX0, 4) = q := Option.some.inj hq; subst e; exact h⟩
    | 1 =>
      obtain ⟨a, b, h⟩ := u_known hw inWX1 (hw _ in_X1)
      exact ⟨a, b, fun q hq => by have e : (RX1, TX1, 4) = q := Option.some.inj hq; subst e; exact h⟩
    | 2 =>
      obtain ⟨a, b, h⟩ := u_known hw inWX2 (hw _ in_X2)
      exact ⟨a, b, fun q hq => by have e : (RX2, TX2, 4) = q := Option.some.inj hq; subst e; exact h⟩
    | 3 =>
      obtain ⟨a, b, h⟩ := u_known hw inWX3 (hw _ in_X3)
      exact ⟨a, b, fun q hq => by have e : (RX3, TX3, 2) = q := Option.some.inj hq; subst e; exact h⟩
    | 4 =>
      obtain ⟨a, b, h⟩ := u_known hw inWX4 (hw _ in_X4)
      exact ⟨a, b, fun q hq => by have e : (RX4, TX4, 2) = q := Option.some.inj hq; subst e; exact h⟩
    | 5 =>
      obtain ⟨a, b, h⟩ := u_known hw inWX5 (hw _ in_X5)
      exact ⟨a, b, fun q hq => by have e : (RX5, TX5, 6) = q := Option.some.inj hq; subst e; exact h⟩
    | 6 =>
      obtain ⟨a, b, h⟩ := u_known hw inWX6 (hw _ in_X6)
      exact ⟨a, b, fun q hq => by have e : (RX6, TX6, 4) = q := Option.some.inj hq; subst e; exact h⟩
    | 7 =>
      obtain ⟨a, b, h⟩ := u_known hw inWX7 (hw _ in_X7)
      exact ⟨a, b, fun q hq => by have e : (RX7, TX7, 10) = q := Option.some.inj hq; subst e; exact h⟩
    | 8 =>
      obtain ⟨a, b, h⟩ := u_known hw inWX8 (hw _ in_X8)
      exact ⟨a, b, fun q hq => by have e : (RX8, TX8, 6) = q := Option.some.inj hq; subst e; exact h⟩
    | 9 =>
      obtain ⟨a, b, h⟩ := u_known hw inWX9 (hw _ in_X9)
      exact ⟨a, b, fun q hq => by have e : (RX9, TX9, 3) = q := Option.some.inj hq; subst e; exact h⟩
    | 10 =>
      obtain ⟨a, b, h⟩ := u_known hw inWX10 (hw _ in_X10)
      exact ⟨a, b, fun q hq => by have e : (RX10, TX10, 3) = q := Option.some.inj hq; subst e; exact h⟩
    | 11 =>
      obtain ⟨a, b, h⟩ := u_known hw inWX11 (hw _ in_X11)
      exact ⟨a, b, fun q hq => by have e : (RX11, TX11, 8) = q := Option.some.inj hq; subst e; exact h⟩
    | c + 12 =>
      obtain ⟨a, b, h⟩ := u_known hw inWX0 (hw _ in_X0)
      exact ⟨a, b, fun q hq => absurd hq (by simp [vwCl])⟩
  obtain ⟨dC, hdC⟩ := Classical.skolem.mp hk
  obtain ⟨dI, hdI⟩ := Classical.skolem.mp hdC
  exact ⟨(dC, dI), hdI⟩
theorem I_INV : INV σI := by
  have hB := I_BG
  have hS : SB (cfg σI) := by unfold SB; decide
  refine ⟨⟨hB, I_BC, Or.inl rfl, I_PW, hS⟩, ?_, fun s => by show -9000 ≤ (0 : Int) ∧ (0 : Int) ≤ 9000; decide, fun s hs => absurd hs (by show ¬ (0 : Int) < 0; decide), ?_, ?_, ?_⟩
  · refine ⟨by show 0 ≤ (32 : Int) ∧ (32 : Int) ≤ 64; decide, fun s => ⟨by show 0 ≤ (0 : Int) ∧ (0 : Int) ≤ 4; decide, by show -10000 ≤ (0 : Int) ∧ (0 : Int) ≤ 10000; decide, by show 0 ≤ (0 : Int) ∧ (0 : Int) ≤ 2; decide, by show -1 ≤ (0 : Int) ∧ (0 : Int) < 2500; decide, by show 0 ≤ (0 : Int) ∧ (0 : Int) < 4000000000000000000; decide⟩, fun d => ?_⟩
    have e : -1 ≤ fiF (fun _ => 0) 5 d ∧ fiF (fun _ => 0) 5 d < 2500 := by
      unfold fiF
      by_cases q : 0 ≤ d ∧ d < 5
      · rw [if_pos q]; decide
      · rw [if_neg q]; show -1 ≤ (0 : Int) ∧ (0 : Int) < 2500; decide
    exact ⟨e, e⟩
  · refine ⟨by show 0 ≤ (0 : Int) ∧ (0 : Int) ≤ 30; decide, fun k => ⟨by show 0 ≤ (0 : Int) ∧ (0 : Int) < 4000000000000000000; decide, by show -1 ≤ (0 : Int) ∧ (0 : Int) < 2500; decide, by show 0 ≤ (0 : Int) ∧ (0 : Int) ≤ 99; decide⟩, fun i k i0 i1 => ?_⟩
    have i1 : i < 0 := i1
    omega
  · show 0 ≤ (0 : Int) ∧ (0 : Int) ≤ 40; decide
  · show BDG 9 (layN 9 3 (fun _ => 0) 25)
    rw [lay_same (fun _ _ => rfl) (by decide) (by decide)]
    exact ⟨layG_BC (fun _ => by decide), by have := I_PW; rw [show σI 1 = layN 9 3 (fun _ => 0) 25 from rfl, lay_same (fun _ _ => rfl) (by decide) (by decide)] at this; exact this, fun i hi => layG_0o (by decide) hi⟩
theorem JI_init {σ' : Sg} (ho : OL 0 σI σ') (hL : LM σ' 0 (MLs (σI 1) (σI 2 0) (σI 3 0) (σI 4 0)) (σI 1)) : JI σ' := by
  have hs : ∀ r : Nat, r < 40 → σ' r = σI r := fun r hr => ho r (by omega)
  refine ⟨⟨I_INV.of (fun r hr => hs r (by omega)), ?_, TSo.nil (fun s => by rw [hs 11 (by omega)]; rfl)⟩, ?_, ?_, ?_⟩
  · unfold HLM
    rw [hs 1 (by omega), hs 2 (by omega), hs 3 (by omega), hs 4 (by omega)]
    exact hL
  · rw [hs 19 (by omega)]; show -1 ≤ (-1 : Int) ∧ (-1 : Int) < 2500; decide
  · left
    rw [hs 20 (by omega), hs 17 (by omega), hs 18 (by omega)]
    refine ⟨rfl, fun d d1 d4 => ?_⟩
    have q : fiF (fun _ => 0) 5 d = -1 := by unfold fiF; rw [if_pos (by omega)]
    exact ⟨q, q⟩
  · unfold CNT
    rw [hs 22 (by omega), hs 23 (by omega), hs 21 (by omega), hs 16 (by omega)]
    show ((0 : Int) ≤ 0 ∧ (0 : Int) ≤ 0 + 0) ∧ ((0 : Int) ≤ 0 ∧ (0 : Int) ≤ 0 + 0) ∧ (0 : Int) + 0 ≤ 700000000
    decide
