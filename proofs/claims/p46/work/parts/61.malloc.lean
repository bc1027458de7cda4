/-! rooms in which things are made; worlds with more beside the cells; any places -/
abbrev rma (h mc ms : Nat) : Room := { frames := h, cells := mc, slots := ms, locals := 40 * h }
def MEA (l : Launch) (y : MethodName) (b : ByteArray) (nL : Nat) (ret : Option FieldType) (h mc ms : Nat) (av : List Value) (D : va_G) (ad : Nat → Nat) (G : Nat → Nat) (ids : List Nat) (σ : Sg) (Qc : Nat → Array Value → State → Outcome → State → Prop) : Prop :=
  ∀ sz : Nat, Met l y (Cond.code y b nL ret :: WA) (rma h mc ms) (va_Pc av (PB D ad G ids σ sz)) (Qc sz) mc ms (AN ad ids sz)
theorem MET.toA {l : Launch} {y : MethodName} {b : ByteArray} {nL : Nat} {ret : Option FieldType} {h : Nat} {av : List Value} {D : va_G} {ad : Nat → Nat} {G : Nat → Nat} {ids : List Nat} {σ : Sg} {Qc : Nat → Array Value → State → Outcome → State → Prop} (hm : MET l y b nL ret h av D ad G ids σ Qc) : MEA l y b nL ret h 0 0 av D ad G ids σ Qc := hm
theorem x_enterA {l : Launch} {y : MethodName} {b : ByteArray} {nL : Nat} {ret : Option FieldType} {h mc ms : Nat} {av : List Value} {D : va_G} {ad : Nat → Nat} {G : Nat → Nat} {ids : List Nat} {σ : Sg} {Qc : Nat → Array Value → State → Outcome → State → Prop} (hy : plainName y.cls = true) (hlen : (lg_sl av).length ≤ nL)
    (body : ∀ (p : Program) (e : Env) (s : State) (m : MethodId) (args : Array Value) (below : List Frame) (meth : Method) (c : Code), Cx p s m meth c args b nL y.cls D G → meth.sig.returnType = ret → ∀ ls : Array Slot, lv_has ls nL (lv_args 0 av) → XI D ad G ids (AN ad ids s.heap.size) s.heap s.heap [] σ →
      W p l e (rma h mc ms) s m args below meth c s.heap [] 0 0 (MQ below (Qc s.heap.size) args s mc ms (AN ad ids s.heap.size)) (F0 m 0 ls [])) : MEA l y b nL ret h mc ms av D ad G ids σ Qc := by
  intro sz
  refine Met.ofW (cc := b) (maxL := nL) (ret := ret) hy rfl ?_
  intro p e s m args below meth c s₁ B hml hv
  obtain ⟨rfl, hsz, hP, ⟨hK, hN⟩, hD, hV⟩ := hv
  have hts := atoms_spec (ws := Cond.code y b nL ret :: WA) B.pre
  subst hsz
  rw [lg_entry_eq]
  exact body p e s m _ below meth c ⟨B.exec, B.bytes, hml, findClass_of_methodNamed B.named, fun w hw => hts w (List.mem_cons_of_mem _ hw), hK, hN, B.notSynchronized⟩ B.returns _ (lv_entry av hlen) ⟨hP, wd_self hD, va_S.rf, hV⟩
theorem va_P.left {D : va_G} {cl : List vw_C} {w1 w2 : va_W} {H : Heap} (h : va_P D cl (w1 ++ w2) H) : va_P D cl w1 H := fun k q hk => h k q (by rw [List.getElem?_append_left (List.getElem?_eq_some_iff.mp hk).1]; exact hk)
theorem va_P.right {D : va_G} {cl : List vw_C} {w1 w2 : va_W} {H : Heap} (h : va_P D cl (w1 ++ w2) H) : va_P D cl w2 H := fun k q hk => h (w1.length + k) q (by rw [List.getElem?_append_right (by omega), Nat.add_sub_cancel_left]; exact hk)
theorem va_D.left {A : Nat → Prop} {w1 w2 : va_W} (h : va_D A (w1 ++ w2)) : va_D A w1 := by
  have k1 : ∀ (k : Nat) (q : Nat × va_E), w1[k]? = some q → (w1 ++ w2)[k]? = some q := fun k q hk => by rw [List.getElem?_append_left (List.getElem?_eq_some_iff.mp hk).1]; exact hk
  exact ⟨fun i j p q hi hj e => h.1 i j p q (k1 i p hi) (k1 j q hj) e, fun k q hk => h.2 k q (k1 k q hk)⟩
theorem va_D.addr {A : Nat → Prop} {w1 w2 : va_W} (h : va_D A w1) (e : w2.map Prod.fst = w1.map Prod.fst) : va_D A w2 := by
  have k1 : ∀ (k : Nat) (q : Nat × va_E), w2[k]? = some q → ∃ q1, w1[k]? = some q1 ∧ q1.1 = q.1 := fun k q hk => by
    have h1 : (w2.map Prod.fst)[k]? = some q.1 := by rw [List.getElem?_map, hk]; rfl
    rw [e, List.getElem?_map] at h1
    cases h2 : w1[k]? with
    | none => rw [h2] at h1; cases h1
    | some q1 => rw [h2] at h1; exact ⟨q1, rfl, by injection h1⟩
  refine ⟨fun i j p q hi hj e => ?_, fun k q hk => ?_⟩
  · obtain ⟨p1, a, b⟩ := k1 i p hi
    obtain ⟨q1, c, d⟩ := k1 j q hj
    exact h.1 i j p1 q1 a c (by rw [b, d, e])
  · obtain ⟨q1, a, b⟩ := k1 k q hk
    rw [← b]; exact h.2 k q1 a
theorem wg_fst (ad : Nat → Nat) (G : Nat → Nat) (ids : List Nat) (σ : Sg) : (WG ad G ids σ).map Prod.fst = ids.map ad := by
  unfold WG
  rw [List.map_map]
  rfl
theorem wg_len (ad : Nat → Nat) (G : Nat → Nat) (ids : List Nat) (σ : Sg) : (WG ad G ids σ).length = ids.length := by unfold WG; rw [List.length_map]
/-- the world, and more beside it -/
def XE (D : va_G) (ad : Nat → Nat) (G : Nat → Nat) (ids : List Nat) (A : Nat → Prop) (H0 H : Heap) (locs : List Loc) (σ : Sg) (E : va_W) : Prop :=
  va_P D vwCl (WG ad G ids σ ++ E) H ∧ va_D A (WG ad G ids σ ++ E) ∧ va_S A H0 H locs ∧ (∀ k, k ∈ ids → vld k)
theorem XE.x {D : va_G} {ad : Nat → Nat} {G : Nat → Nat} {ids : List Nat} {A : Nat → Prop} {H0 H : Heap} {locs : List Loc} {σ : Sg} {E : va_W} (h : XE D ad G ids A H0 H locs σ E) : XI D ad G ids A H0 H locs σ := ⟨h.1.left, h.2.1.left, h.2.2⟩
theorem XI.e {D : va_G} {ad : Nat → Nat} {G : Nat → Nat} {ids : List Nat} {A : Nat → Prop} {H0 H : Heap} {locs : List Loc} {σ : Sg} (h : XI D ad G ids A H0 H locs σ) : XE D ad G ids A H0 H locs σ [] := ⟨by rw [List.append_nil]; exact h.1, by rw [List.append_nil]; exact h.2.1, h.2.2⟩
theorem an_in {D : va_G} {ad : Nat → Nat} {G : Nat → Nat} {ids : List Nat} {A : Nat → Prop} {H0 H : Heap} {locs : List Loc} {σ : Sg} (hM : XI D ad G ids A H0 H locs σ) (hA : ∀ q, H0.size ≤ q → A q) : ∀ q, AN ad ids H.size q → A q := by
  rintro q (⟨k, hk, rfl⟩ | h)
  · obtain ⟨i, hi⟩ := List.getElem?_of_mem hk
    exact hM.2.1.2 i _ (wg_get ad G σ hi)
  · exact hA q (Nat.le_trans hM.2.2.1.1 h)
theorem XE.call {D : va_G} {ad : Nat → Nat} {G : Nat → Nat} {ids : List Nat} {A : Nat → Prop} {H0 H H1 : Heap} {locs locs1 : List Loc} {σ σ1 : Sg} {E : va_W} (hM : XE D ad G ids A H0 H locs σ E) (hB : va_P D vwCl (WG ad G ids σ1) H1) (hk : ∀ q : Nat, q < H.size → ¬ AN ad ids H.size q → H1[q]? = H[q]?) (hS : va_S A H0 H1 locs1) : XE D ad G ids A H0 H1 locs1 σ1 E := by
  refine ⟨hB.app (hM.1.right.kept (fun k q hq => ?_)), hM.2.1.addr ?_, hS, hM.2.2.2⟩
  · refine hk q.1 ((hM.1.right k q hq).lt) ?_
    rintro (⟨k', hk', e⟩ | h)
    · obtain ⟨i, hi⟩ := List.getElem?_of_mem hk'
      have h1 := wg_get ad G σ hi
      have hl := (List.getElem?_eq_some_iff.mp h1).1
      have h2 := hM.2.1.1 i ((WG ad G ids σ).length + k) _ q (by rw [List.getElem?_append_left hl]; exact h1) (by rw [List.getElem?_append_right (by omega), Nat.add_sub_cancel_left]; exact hq) e.symm
      omega
    · have := (hM.1.right k q hq).lt
      omega
  · rw [List.map_append, List.map_append, wg_fst, wg_fst]
section XA
variable {p : Program} {l : Launch} {e : Env} {R : Room} {s : State} {m : MethodId} {args : Array Value} {below : List Frame} {meth : Method} {c : Code} {H : Heap} {locs : List Loc} {cells slots mc ms : Nat} {Q : State → Prop}
variable {cc : ByteArray} {nL : Nat} {own : String} {D : va_G} {ad : Nat → Nat} {G : Nat → Nat} {ids : List Nat} {A : Nat → Prop} {H0 : Heap} {σ : Sg} {E : va_W} {pc : Nat} {ls : Array Slot} {rest : List Value}
theorem x_runVA (C : Cx p s m meth c args cc nL own D G) {h' idx n nL' k ci : Nat} (hh : h' + 1 ≤ R.frames ∧ 8 + (nL' + 11) + 40 * h' ≤ R.locals) {y : MethodName} {b : ByteArray} {ret : Option FieldType} {As : List Value} {Qc : Nat → Array Value → State → Outcome → State → Prop} (cw : CWd own idx y b nL' ret n)
    (hc : MEA l y b nL' ret h' mc ms (.ref (ad k) :: As) D ad G ids σ Qc) (hM : XI D ad G ids A H0 H locs σ) (hk : k ∈ ids) {fs : List Value} {q : vw_C} (hcell : cell ad G σ k = .inr (ci, fs)) (hcl : vwCl[ci]? = some q) (hq1 : q.1 = y.cls) (hn : As.length = n) {st : List Value} (hst : st = As.reverse ++ .ref (ad k) :: rest) (hW : (rest.map fun v => v.category).sum ≤ 8) (hls : ls.size = nL)
    (hdg : decode cc pc = .ok (.invokevirtual idx, 3)) (hf : cells + mc ≤ R.cells ∧ slots + ms ≤ R.slots) : va_Run p l e R s m args below meth c H locs cells slots mc ms (F0 m pc ls st) rest (Qc H.size (Value.ref (ad k) :: As).toArray) (AN ad ids H.size) := by
  obtain ⟨hx, hb, hml, hown, hts, hK, hN, hlk⟩ := id C
  obtain ⟨⟨w1, w2, w3, w4, w5⟩, hd, hL⟩ := cw
  obtain ⟨i, hi⟩ := List.getElem?_of_mem hk
  have h2 := wg_get ad G σ hi
  rw [hcell] at h2
  have hg : GoodIn WA (wsV own idx y.cls y (Cond.code y b nL' ret :: WA)) := by
    intro w hw
    unfold wsV at hw
    rcases List.mem_append.mp hw with hw | hw
    · simp only [List.mem_cons, List.not_mem_nil, or_false] at hw
      rcases hw with rfl | rfl | rfl | rfl
      · exact gin_one w1
      · exact gin_one w2
      · exact gin_one w3
      · exact gin_one w4
    · exact gin_code w5 w hw
  have hrc := va_recv hK hM.1 hcl h2
  rw [hq1] at hrc
  exact va_runV (As := As) (rest := rest) (nL := nL) (own := own) (C := y.cls) ⟨hx, hb, hml, hown, hts⟩ (hc H.size) (cwV n hts hg rfl rfl rfl ⟨rfl, hd⟩ hh) ⟨pb_blind, hrc, pb_at C hM⟩ rfl hn hls hst (lv_room hW) hdg hf
theorem x_runNA (C : Cx p s m meth c args cc nL own D G) {h' idx n nL' k ci : Nat} (hh : h' + 1 ≤ R.frames ∧ 8 + (nL' + 11) + 40 * h' ≤ R.locals) {y : MethodName} {b : ByteArray} {ret : Option FieldType} {As : List Value} {Qc : Nat → Array Value → State → Outcome → State → Prop} (cw : CWn own idx y b nL' ret n)
    (hc : MEA l y b nL' ret h' mc ms (.ref (ad k) :: As) D ad G ids σ Qc) (hM : XI D ad G ids A H0 H locs σ) (hk : k ∈ ids) {fs : List Value} {q : vw_C} (hcell : cell ad G σ k = .inr (ci, fs)) (hcl : vwCl[ci]? = some q) (hq1 : q.1 = y.cls) (hn : As.length = n) {st : List Value} (hst : st = As.reverse ++ .ref (ad k) :: rest) (hW : (rest.map fun v => v.category).sum ≤ 8) (hls : ls.size = nL)
    (hdg : decode cc pc = .ok (.invokevirtual idx, 3)) (hf : cells + mc ≤ R.cells ∧ slots + ms ≤ R.slots) : va_Run p l e R s m args below meth c H locs cells slots mc ms (F0 m pc ls st) rest (Qc H.size (Value.ref (ad k) :: As).toArray) (AN ad ids H.size) := by
  obtain ⟨hx, hb, hml, hown, hts, hK, hN, hlk⟩ := id C
  obtain ⟨⟨w1, w2, w3, w4, w5⟩, hd, hL⟩ := cw
  obtain ⟨i, hi⟩ := List.getElem?_of_mem hk
  have h2 := wg_get ad G σ hi
  rw [hcell] at h2
  have hrc := va_recv hK hM.1 hcl h2
  rw [hq1] at hrc
  exact va_runVN (As := As) (rest := rest) (nL := nL) (own := own) (C := y.cls) (host := "KindlingTree") ⟨hx, hb, hml, hown, hts⟩ (hc H.size) ⟨va_cnB n hts (gin_code w5) rfl rfl rfl (hN _ w1) (hts _ w4) hd hh, hts _ w2, hts _ w3⟩ ⟨pb_blind, hrc, pb_at C hM⟩ rfl hn hls hst (lv_room hW) hdg hf
theorem x_runSA (C : Cx p s m meth c args cc nL own D G) {h' idx n nL' : Nat} (hh : h' + 1 ≤ R.frames ∧ 8 + (nL' + 11) + 40 * h' ≤ R.locals) {y : MethodName} {b : ByteArray} {ret : Option FieldType} {As : List Value} {Qc : Nat → Array Value → State → Outcome → State → Prop} (cw : CWs own idx y b nL' ret n)
    (hc : MEA l y b nL' ret h' mc ms As D ad G ids σ Qc) (hM : XI D ad G ids A H0 H locs σ) (hn : As.length = n) {st : List Value} (hst : st = As.reverse ++ rest) (hW : (rest.map fun v => v.category).sum ≤ 8) (hls : ls.size = nL)
    (hdg : decode cc pc = .ok (.invokestatic idx, 3)) (hf : cells + mc ≤ R.cells ∧ slots + ms ≤ R.slots) : va_Run p l e R s m args below meth c H locs cells slots mc ms (F0 m pc ls st) rest (Qc H.size As.toArray) (AN ad ids H.size) := by
  obtain ⟨hx, hb, hml, hown, hts, hK, hN, hlk⟩ := id C
  obtain ⟨⟨w1, w2, w4, w5⟩, hd, hL⟩ := cw
  have hg : GoodIn WA (wsS own idx y (Cond.code y b nL' ret :: WA)) := by
    intro w hw
    unfold wsS at hw
    rcases List.mem_append.mp hw with hw | hw
    · simp only [List.mem_cons, List.not_mem_nil, or_false] at hw
      rcases hw with rfl | rfl | rfl
      · exact gin_one w1
      · exact gin_one w2
      · exact gin_one w4
    · exact gin_code w5 w hw
  exact va_runS (As := As) (rest := rest) (nL := nL) (own := own) ⟨hx, hb, hml, hown, hts⟩ (hc H.size) (cwS n hts hg rfl rfl rfl hd hh) ⟨pb_blind, pb_at C hM⟩ rfl hn hls hst (lv_room hW) hdg hf
theorem x_ciA (hA : ∀ q, H0.size ≤ q → A q) {st0 : List Value} {a : Array Value} {post : Int → Sg → Prop} (hr : va_Run p l e R s m args below meth c H locs cells slots mc ms (F0 m pc ls st0) rest (QI D ad G ids post H.size a) (AN ad ids H.size)) (hM : XE D ad G ids A H0 H locs σ E)
    (kk : ∀ (z : Int) (σ1 : Sg) (H1 : Heap) (locs1 : List Loc), post z σ1 → XE D ad G ids A H0 H1 locs1 σ1 E → W p l e R s m args below meth c H1 locs1 (cells + mc) (slots + ms) Q (F0 m (pc + 3) ls (.int (iI z) :: rest))) : W p l e R s m args below meth c H locs cells slots Q (F0 m pc ls st0) := by
  refine va_calli hr hM.2.2.1 (fun q _ h => an_in hM.x hA q h) (fun q h => an_in hM.x hA q h) (fun r u t H1 locs1 ht hvm hp hB hz hk hS => ?_)
  obtain ⟨rfl, hp⟩ := hp
  rw [ht] at hB
  exact kk u.1 u.2 H1 locs1 hp (hM.call hB hk hS)
theorem x_clA (hA : ∀ q, H0.size ≤ q → A q) {st0 : List Value} {a : Array Value} {post : Int → Sg → Prop} (hr : va_Run p l e R s m args below meth c H locs cells slots mc ms (F0 m pc ls st0) rest (QL D ad G ids post H.size a) (AN ad ids H.size)) (hM : XE D ad G ids A H0 H locs σ E)
    (kk : ∀ (z : Int) (σ1 : Sg) (H1 : Heap) (locs1 : List Loc), post z σ1 → XE D ad G ids A H0 H1 locs1 σ1 E → W p l e R s m args below meth c H1 locs1 (cells + mc) (slots + ms) Q (F0 m (pc + 3) ls (.long (jI z) :: rest))) : W p l e R s m args below meth c H locs cells slots Q (F0 m pc ls st0) := by
  refine va_calll hr hM.2.2.1 (fun q _ h => an_in hM.x hA q h) (fun q h => an_in hM.x hA q h) (fun r u t H1 locs1 ht hvm hp hB hz hk hS => ?_)
  obtain ⟨rfl, hp⟩ := hp
  rw [ht] at hB
  exact kk u.1 u.2 H1 locs1 hp (hM.call hB hk hS)
theorem x_cvA (hA : ∀ q, H0.size ≤ q → A q) {st0 : List Value} {a : Array Value} {post : Sg → Prop} (hr : va_Run p l e R s m args below meth c H locs cells slots mc ms (F0 m pc ls st0) rest (QV D ad G ids post H.size a) (AN ad ids H.size)) (hM : XE D ad G ids A H0 H locs σ E)
    (kk : ∀ (σ1 : Sg) (H1 : Heap) (locs1 : List Loc), post σ1 → XE D ad G ids A H0 H1 locs1 σ1 E → W p l e R s m args below meth c H1 locs1 (cells + mc) (slots + ms) Q (F0 m (pc + 3) ls rest)) : W p l e R s m args below meth c H locs cells slots Q (F0 m pc ls st0) := by
  refine va_callv hr hM.2.2.1 (fun q _ h => an_in hM.x hA q h) (fun q h => an_in hM.x hA q h) (fun u t H1 locs1 ht hvm hp hB hz hk hS => ?_)
  rw [ht] at hB
  exact kk u H1 locs1 hp (hM.call hB hk hS)
/-- making a row -/
theorem ac_int : Cond.arrayClass .int ∈ WA := wa_t 60 (by decide +kernel) rfl
theorem ac_bool : Cond.arrayClass .boolean ∈ WA := wa_t 61 (by decide +kernel) rfl
theorem ac_long : Cond.arrayClass .long ∈ WA := wa_t 154 (by decide +kernel) rfl
theorem iI_n (n : Nat) (h : n ≤ 1000) : ¬ iI (n : Int) < 0 ∧ (iI (n : Int)).toNatClampNeg = n := by
  have q := iI_in (z := (n : Int)) (n := n + 1) (by omega) (by omega) (by omega)
  refine ⟨fun h => q (Or.inl h), ?_⟩
  rw [iI_clamp ⟨by omega, by omega⟩]
  omega
theorem x_newI (C : Cx p s m meth c args cc nL own D G) (hA : ∀ q, H0.size ≤ q → A q) (hM : XE D ad G ids A H0 H locs σ E) {z : Int} (n : Nat) (hz : z = (n : Int)) (hn : n ≤ 1000) (hc : cells + 1 ≤ R.cells) (hs : slots + n ≤ R.slots) (hdg : decode cc pc = .ok (.newarray .int, 2))
    (kk : ∀ (q : Nat) (H1 : Heap), XE D ad G ids A H0 H1 locs σ (E ++ [(q, .inl (G 0, n, .inl (fI (fun _ => 0))))]) → W p l e R s m args below meth c H1 locs (cells + 1) (slots + n) Q (F0 m (pc + 2) ls (.ref q :: rest))) : W p l e R s m args below meth c H locs cells slots Q (F0 m pc ls (.int (iI z) :: rest)) := by
  obtain ⟨hx, hb, hml, hown, hts, hK, hN, hlk⟩ := C
  subst hz
  have q := iI_n n hn
  refine va_newa hx hb (atype := .int) (hts _ ac_int) rfl hK hM.1 hM.2.1 hM.2.2.1 hA (N' := n) (a0 := (n, .inl (fI (fun _ => 0)))) (fun cA => rfl) q.1 q.2 (by show n * 4 ≤ _; omega) hc hs hdg (fun q cA H1 hK2 hP hD hS => ?_)
  have e1 := (hK2.2 (tysX G).length (cA, .int) (by rw [List.getElem?_append_right (Nat.le_refl _), Nat.sub_self]; rfl)).2
  have e2 := (hK.2 0 (G 0, .int) rfl).2
  have e3 : cA = G 0 := Option.some.inj (Eq.trans (Eq.symm e1) e2)
  subst e3
  rw [List.append_assoc] at hP hD
  exact kk q H1 ⟨hP, hD, hS, hM.2.2.2⟩
theorem x_newJ (C : Cx p s m meth c args cc nL own D G) (hA : ∀ q, H0.size ≤ q → A q) (hM : XE D ad G ids A H0 H locs σ E) {z : Int} (n : Nat) (hz : z = (n : Int)) (hn : n ≤ 1000) (hc : cells + 1 ≤ R.cells) (hs : slots + n ≤ R.slots) (hdg : decode cc pc = .ok (.newarray .long, 2))
    (kk : ∀ (q : Nat) (H1 : Heap), XE D ad G ids A H0 H1 locs σ (E ++ [(q, .inl (G 1, n, .inr (.inl (fJ (fun _ => 0)))))]) → W p l e R s m args below meth c H1 locs (cells + 1) (slots + n) Q (F0 m (pc + 2) ls (.ref q :: rest))) : W p l e R s m args below meth c H locs cells slots Q (F0 m pc ls (.int (iI z) :: rest)) := by
  obtain ⟨hx, hb, hml, hown, hts, hK, hN, hlk⟩ := C
  subst hz
  have q := iI_n n hn
  refine va_newa hx hb (atype := .long) (hts _ ac_long) rfl hK hM.1 hM.2.1 hM.2.2.1 hA (N' := n) (a0 := (n, .inr (.inl (fJ (fun _ => 0))))) (fun cA => rfl) q.1 q.2 (by show n * 8 ≤ _; omega) hc hs hdg (fun q cA H1 hK2 hP hD hS => ?_)
  have e1 := (hK2.2 (tysX G).length (cA, .long) (by rw [List.getElem?_append_right (Nat.le_refl _), Nat.sub_self]; rfl)).2
  have e2 := (hK.2 1 (G 1, .long) rfl).2
  have e3 : cA = G 1 := Option.some.inj (Eq.trans (Eq.symm e1) e2)
  subst e3
  rw [List.append_assoc] at hP hD
  exact kk q H1 ⟨hP, hD, hS, hM.2.2.2⟩
theorem app_set {α : Type} (L : List α) (x y : α) : (L ++ [x]).set L.length y = L ++ [y] := by
  induction L with
  | nil => rfl
  | cons a L ih => show a :: (L ++ [x]).set L.length y = _; rw [ih]; rfl
theorem app_at {α : Type} (L : List α) (x : α) : (L ++ [x])[L.length]? = some x := by rw [List.getElem?_append_right (Nat.le_refl _), Nat.sub_self]; rfl
/-- the row beside the world, alone there -/
theorem e_last (C : Cx p s m meth c args cc nL own D G) {q n : Nat} {f : Fn} (hM : XE D ad G ids A H0 H locs σ [(q, .inl (G 1, n, .inr (.inl (fJ f))))]) {z v : Int} (h0 : 0 ≤ z) (h1 : z < n) (hn : (n : Int) ≤ 1000) (hdg : decode cc pc = .ok (.lastore, 1))
    (kk : ∀ (H1 : Heap) (locs1 : List Loc), XE D ad G ids A H0 H1 locs1 σ [(q, .inl (G 1, n, .inr (.inl (fJ (ups f z v)))))] → W p l e R s m args below meth c H1 locs1 cells slots Q (F0 m (pc + 1) ls rest)) : W p l e R s m args below meth c H locs cells slots Q (F0 m pc ls (.long (jI v) :: .int (iI z) :: .ref q :: rest)) := by
  obtain ⟨hx, hb, hml, hown, hts, hK, hN, hlk⟩ := C
  refine va_last hx hb hK hM.1 hM.2.1 hM.2.2.1 (WG ad G ids σ).length 1 (app_at _ _) rfl (iI_in h0 h1 (by omega)) hdg (fun H1 locs1 hP hD hS => ?_)
  rw [app_set, fJ_ups f v ⟨by omega, by omega⟩ h0] at hP hD
  exact kk H1 locs1 ⟨hP, hD, hS, hM.2.2.2⟩
theorem e_ast (C : Cx p s m meth c args cc nL own D G) {q n : Nat} {f : Fn} (hM : XE D ad G ids A H0 H locs σ [(q, .inl (G 0, n, .inl (fI f)))]) {z v : Int} (h0 : 0 ≤ z) (h1 : z < n) (hn : (n : Int) ≤ 1000) (hdg : decode cc pc = .ok (.iastore, 1))
    (kk : ∀ (H1 : Heap) (locs1 : List Loc), XE D ad G ids A H0 H1 locs1 σ [(q, .inl (G 0, n, .inl (fI (ups f z v))))] → W p l e R s m args below meth c H1 locs1 cells slots Q (F0 m (pc + 1) ls rest)) : W p l e R s m args below meth c H locs cells slots Q (F0 m pc ls (.int (iI v) :: .int (iI z) :: .ref q :: rest)) := by
  obtain ⟨hx, hb, hml, hown, hts, hK, hN, hlk⟩ := C
  refine va_iast hx hb hK hM.1 hM.2.1 hM.2.2.1 (WG ad G ids σ).length 0 (app_at _ _) rfl (iI_in h0 h1 (by omega)) hdg (fun H1 locs1 hP hD hS => ?_)
  rw [app_set, fI_ups f v ⟨by omega, by omega⟩ h0] at hP hD
  exact kk H1 locs1 ⟨hP, hD, hS, hM.2.2.2⟩
theorem e_lald (C : Cx p s m meth c args cc nL own D G) {q n : Nat} {f : Fn} (hM : XE D ad G ids A H0 H locs σ [(q, .inl (G 1, n, .inr (.inl (fJ f))))]) {z : Int} (h0 : 0 ≤ z) (h1 : z < n) (hn : (n : Int) ≤ 1000) (hdg : decode cc pc = .ok (.laload, 1))
    (kk : W p l e R s m args below meth c H locs cells slots Q (F0 m (pc + 1) ls (.long (jI (f z)) :: rest))) : W p l e R s m args below meth c H locs cells slots Q (F0 m pc ls (.int (iI z) :: .ref q :: rest)) := by
  obtain ⟨hx, hb, hml, hown, hts, hK, hN, hlk⟩ := C
  refine va_lald hx hb hK hM.1 (WG ad G ids σ).length 1 (app_at _ _) rfl (iI_in h0 h1 (by omega)) hdg ?_
  rw [fJ_at f ⟨by omega, by omega⟩ h0]
  exact kk
theorem e_ald (C : Cx p s m meth c args cc nL own D G) {q n : Nat} {f : Fn} (hM : XE D ad G ids A H0 H locs σ [(q, .inl (G 0, n, .inl (fI f)))]) {z : Int} (h0 : 0 ≤ z) (h1 : z < n) (hn : (n : Int) ≤ 1000) (hdg : decode cc pc = .ok (.iaload, 1))
    (kk : W p l e R s m args below meth c H locs cells slots Q (F0 m (pc + 1) ls (.int (iI (f z)) :: rest))) : W p l e R s m args below meth c H locs cells slots Q (F0 m pc ls (.int (iI z) :: .ref q :: rest)) := by
  obtain ⟨hx, hb, hml, hown, hts, hK, hN, hlk⟩ := C
  refine va_iald hx hb hK hM.1 (WG ad G ids σ).length 0 (app_at _ _) rfl (iI_in h0 h1 (by omega)) hdg ?_
  rw [fI_at f ⟨by omega, by omega⟩ h0]
  exact kk
theorem e_len (C : Cx p s m meth c args cc nL own D G) {q g n : Nat} (hg : g = 0 ∨ g = 1) {x : vp_A} (hM : XE D ad G ids A H0 H locs σ [(q, .inl (G g, x))]) (hn : x.1 = n) (hdg : decode cc pc = .ok (.arraylength, 1))
    (kk : W p l e R s m args below meth c H locs cells slots Q (F0 m (pc + 1) ls (.int (iI n) :: rest))) : W p l e R s m args below meth c H locs cells slots Q (F0 m pc ls (.ref q :: rest)) := by
  obtain ⟨hx, hb, hml, hown, hts, hK, hN, hlk⟩ := C
  have e1 : Int32.ofNat x.1 = iI (n : Int) := by rw [hn]; unfold iI; exact (Int32.ofInt_eq_ofNat).symm
  rcases hg with rfl | rfl
  · exact va_alen hx hb hK hM.1 (WG ad G ids σ).length 0 (app_at _ _) rfl e1 hdg kk
  · exact va_alen hx hb hK hM.1 (WG ad G ids σ).length 1 (app_at _ _) rfl e1 hdg kk
end XA
