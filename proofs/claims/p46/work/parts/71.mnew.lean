/-! makers: new objects and their first methods -/
/-- the classes of rows of references are there -/
def AV (U : State) : Prop := va_AO "KindlingTree$MoveList" U
theorem AV.moved {u U : State} (hvm : u.vm.Alike U.vm) (h : AV u) : AV U := va_AO.moved hvm h
abbrev AO (a sz : Nat) : Nat → Prop := fun q => q = a ∨ sz ≤ q
def PNW (D : va_G) (G : Nat → Nat) (a ci : Nat) (fs : List Value) (sz : Nat) : State → Prop := fun U =>
  U.heap.size = sz ∧ va_P D vwCl [(a, .inr (ci, fs))] U.heap ∧ (va_K D vwCl (tysX G) U ∧ NW U ∧ AV U)
abbrev QNW (D : va_G) (a sz : Nat) (post : va_W → Prop) : Array Value → State → Outcome → State → Prop :=
  va_Qv (S := va_W) post (fun w t => va_P D vwCl w t.heap ∧ va_D (AO a sz) w) (AO a sz)
/-- a maker: from the object as it is born to a world that begins with it -/
def NEWC (l : Launch) (y : MethodName) (b : ByteArray) (nL : Nat) (h mc ms : Nat) (As : List Value) (D : va_G) (G : Nat → Nat) (ci : Nat) (fs : List Value) (post : Nat → va_W → Prop) : Prop :=
  ∀ a sz : Nat, Met l y (Cond.code y b nL none :: WA) (rma h mc ms) (va_Pc (.ref a :: As) (PNW D G a ci fs sz)) (QNW D a sz (post a)) mc ms (AO a sz)
theorem pnw_blind {D : va_G} {G : Nat → Nat} {a ci : Nat} {fs : List Value} {av : List Value} {sz : Nat} : FrameBlind (va_Pc av (PNW D G a ci fs sz)) := by
  intro a U g mk q
  obtain ⟨q0, q1, qP, ⟨qK, qN, qV⟩⟩ := q
  exact ⟨q0, q1, qP, ⟨va_K.moved (u := U) (U := U.calling g mk a) (Vm.Alike.refl U.vm) qK, NW_vm (s := U) (U := U.calling g mk a) rfl qN, AV.moved (u := U) (U := U.calling g mk a) (Vm.Alike.refl U.vm) qV⟩⟩
theorem wo_init : Cond.instanceMethod Lib.objectInit ∈ WA := wa_t 26 (by decide +kernel) rfl
theorem wo_code : Cond.code Lib.objectInit ⟨#[0xb1]⟩ 1 none ∈ WA := wa_t 27 (by decide +kernel) rfl
theorem x_enterN {l : Launch} {y : MethodName} {b : ByteArray} {nL : Nat} {h mc ms : Nat} {As : List Value} {D : va_G} {G : Nat → Nat} {ci : Nat} {fs : List Value} {post : Nat → va_W → Prop} (hy : plainName y.cls = true) (hnm : y.name = "<init>") (hlen : ∀ a : Nat, (lg_sl (.ref a :: As)).length ≤ nL)
    (body : ∀ (a : Nat) (p : Program) (e : Env) (s : State) (m : MethodId) (args : Array Value) (below : List Frame) (meth : Method) (c : Code), Cx p s m meth c args b nL y.cls D G → AV s → meth.sig.returnType = none → meth.name = "<init>" → ∀ ls : Array Slot, lv_has ls nL (lv_args 0 (.ref a :: As)) → XR D (AO a s.heap.size) s.heap s.heap [] [(a, .inr (ci, fs))] →
      W p l e (rma h mc ms) s m args below meth c s.heap [] 0 0 (MQ below (QNW D a s.heap.size (post a)) args s mc ms (AO a s.heap.size)) (F0 m 0 ls [])) : NEWC l y b nL h mc ms As D G ci fs post := by
  intro a sz
  refine Met.ofW (cc := b) (maxL := nL) (ret := none) hy rfl ?_
  intro p e s m args below meth c s₁ B hml hv
  obtain ⟨rfl, hsz, hP, ⟨hK, hN, hAV⟩⟩ := hv
  have hts := atoms_spec (ws := Cond.code y b nL none :: WA) B.pre
  have hname := (name_of_methodNamed B.named B.method).1
  rw [hnm] at hname
  subst hsz
  rw [lg_entry_eq]
  refine body a p e s m _ below meth c ⟨B.exec, B.bytes, hml, findClass_of_methodNamed B.named, fun w hw => hts w (List.mem_cons_of_mem _ hw), hK, hN, B.notSynchronized⟩ hAV B.returns hname _ (lv_entry (.ref a :: As) (hlen a)) ⟨hP, ⟨fun i j p q hi hj e => ?_, fun i q hq => ?_⟩, va_S.rf⟩
  · have h1 := (List.getElem?_eq_some_iff.mp hi).1
    have h2 := (List.getElem?_eq_some_iff.mp hj).1
    have h3 : ([(a, (.inr (ci, fs) : va_E))] : va_W).length = 1 := rfl
    omega
  · rw [List.mem_singleton.mp (List.mem_of_getElem? hq)]
    exact Or.inl rfl
theorem XR.init {D : va_G} {A : Nat → Prop} {H0 H H1 : Heap} {locs locs1 : List Loc} {ws w : va_W} {i a : Nat} {e0 e1 : va_E} {new : va_W} (hM : XR D A H0 H locs ws) (hA : ∀ q, H0.size ≤ q → A q) (he : ws[i]? = some (a, e0)) (hw : w = (a, e1) :: new) (hP : va_P D vwCl w H1) (hD : va_D (AO a H.size) w) (hk : ∀ q : Nat, q < H.size → ¬ AO a H.size q → H1[q]? = H[q]?) (hS : va_S A H0 H1 locs1) : XR D A H0 H1 locs1 (ws.set i (a, e1) ++ new) := by
  subst hw
  have hl : i < ws.length := (List.getElem?_eq_some_iff.mp he).1
  have key : ∀ (k : Nat) (q : Nat × va_E), (ws.set i (a, e1))[k]? = some q → (k = i ∧ q = (a, e1)) ∨ (k ≠ i ∧ ws[k]? = some q) := by
    intro k q hq
    by_cases e : k = i
    · subst e
      rw [List.getElem?_set_self hl] at hq
      exact Or.inl ⟨rfl, (Option.some.inj hq).symm⟩
    · rw [List.getElem?_set_ne (Ne.symm e)] at hq
      exact Or.inr ⟨e, hq⟩
  have knew : ∀ (k : Nat) (q : Nat × va_E), new[k]? = some q → q.1 ≠ a ∧ H.size ≤ q.1 := by
    intro k q hq
    have h1 : ((a, e1) :: new)[k + 1]? = some q := hq
    have h2 : q.1 ≠ a := fun e => by
      have := hD.1 (k + 1) 0 q (a, e1) h1 rfl e
      omega
    exact ⟨h2, (hD.2 (k + 1) q h1).resolve_left h2⟩
  have kold : ∀ (k : Nat) (q : Nat × va_E), ws[k]? = some q → q.1 < H.size := fun k q hq => (hM.1 k q hq).lt
  refine ⟨va_P.app ?_ (fun k q hq => hP (k + 1) q hq), va_D.app ?_ ?_ ?_, hS⟩
  · intro k q hq
    rcases key k q hq with ⟨-, rfl⟩ | ⟨h1, h2⟩
    · exact hP 0 _ rfl
    · refine (hM.1 k q h2).kept (hk q.1 (kold k q h2) ?_)
      rintro (h3 | h3)
      · exact h1 (hM.2.1.1 k i q (a, e0) h2 he h3)
      · have := kold k q h2; omega
  · exact hM.2.1.set he
  · refine ⟨fun i j p q hi hj e => ?_, fun i q hq => hA _ (Nat.le_trans hM.2.2.1 (knew i q hq).2)⟩
    have := hD.1 (i + 1) (j + 1) p q hi hj e
    omega
  · intro i j p q hi hj e
    have h1 := (knew j q hj).2
    rcases key i p hi with ⟨-, rfl⟩ | ⟨-, h2⟩
    · exact (knew j q hj).1 e.symm
    · have := kold i p h2
      omega
section XNW
variable {p : Program} {l : Launch} {e : Env} {R : Room} {s : State} {m : MethodId} {args : Array Value} {below : List Frame} {meth : Method} {c : Code} {H : Heap} {locs : List Loc} {cells slots mc ms : Nat} {Q : State → Prop}
variable {cc : ByteArray} {nL : Nat} {own : String} {D : va_G} {G : Nat → Nat} {A : Nat → Prop} {H0 : Heap} {ws : va_W} {pc : Nat} {ls : Array Slot} {rest : List Value}
theorem r_obj (C : Cx p s m meth c args cc nL own D G) {idx a : Nat} (hw : Cond.methodLink own idx Lib.objectInit ∈ WA) (hls : ls.size = nL) (hR : 1 ≤ R.frames ∧ 12 ≤ R.locals) (hdg : decode cc pc = .ok (.invokespecial idx, 3)) (kk : W p l e R s m args below meth c H locs cells slots Q (F0 m (pc + 3) ls [])) : W p l e R s m args below meth c H locs cells slots Q (F0 m pc ls [.ref a]) := by
  obtain ⟨hx, hb, hml, hown, hts, hK, hN, hlk⟩ := C
  exact W.objInit hx hb hown (hts _ hw) (hts _ wo_init) (hts _ wo_code) rfl (hls.trans hml.symm) rfl hdg hR.1 hR.2 kk
theorem r_vret (C : Cx p s m meth c args cc nL own D G) (hr : meth.sig.returnType = none) {a : Nat} (hM : XR D (AO a s.heap.size) s.heap H locs ws) {post : va_W → Prop} (hp : post ws) (hdg : decode cc pc = .ok (.return_, 1)) : W p l e R s m args below meth c H locs cells slots (MQ below (QNW D a s.heap.size post) args s cells slots (AO a s.heap.size)) (F0 m pc ls []) :=
  W.vret C.1 C.2.1 hr (fun t ht hW => ⟨⟨ws, rfl, hp, by rw [ht]; exact hM.1, hM.2.1⟩, hM.2.2.F ht⟩) hM.2.2.2.2 hdg C.2.2.2.2.2.2.2
theorem r_newO (C : Cx p s m meth c args cc nL own D G) (hA : ∀ q, H0.size ≤ q → A q) (hM : XR D A H0 H locs ws) {Cn : String} {T : u_T} {N ci idx : Nat} (hcw : Cond.classLink own idx Cn ∈ WA) (hiw : Cond.instantiable Cn N ∈ WA) (hnw : Cond.initialized Cn ∈ WA) (hc : vwCl[ci]? = some (Cn, T, N)) (hin : ∀ w ∈ u_ws Cn T N, w ∈ WA) (ty : Nat → FieldType) (hty : ∀ k, k < N → parseFieldDescriptor (T k).2.2.1 = some (ty k)) {fs : List Value} (hfs : ∀ j, j < N → defaultValue (ty j) = vp_V fs j) (hcells : cells + 1 ≤ R.cells) (hslots : slots + N ≤ R.slots) (hdg : decode cc pc = .ok (.new idx, 3))
    (kk : ∀ (q : Nat) (H1 : Heap), XR D A H0 H1 locs (ws ++ [(q, .inr (ci, fs))]) → W p l e R s m args below meth c H1 locs (cells + 1) (slots + N) Q (F0 m (pc + 3) ls (.ref q :: rest))) : W p l e R s m args below meth c H locs cells slots Q (F0 m pc ls rest) := by
  obtain ⟨hx, hb, hml, hown, hts, hK, hN, hlk⟩ := C
  exact va_new hx hb hts hin ty hty hown (hts _ hcw) (hts _ hiw) (hts _ hnw) hK hM.1 hM.2.1 hM.2.2 hA hc hfs hcells hslots hdg (fun q H1 hP hD hS => kk q H1 ⟨hP, hD, hS⟩)
/-- the words of a maker's call -/
def CWi (own : String) (idx : Nat) (y : MethodName) (b : ByteArray) (nL n : Nat) : Prop :=
  (Cond.methodLink own idx y ∈ WA ∧ Cond.instanceMethod y ∈ WA ∧ Cond.initialized y.cls ∈ WA ∧ Cond.code y b nL none ∈ WA) ∧ (y.cls ≠ "java/lang/invoke/MethodHandle" ∧ y.cls ≠ "java/lang/invoke/VarHandle" ∧ (parseMethodDescriptor y.desc).map (fun d => d.parameters.length) = some n) ∧ y.name = "<init>"
theorem r_init (C : Cx p s m meth c args cc nL own D G) (hAV : AV s) (hA : ∀ q, H0.size ≤ q → A q) (hM : XR D A H0 H locs ws) {h' idx n nL' a ci : Nat} (i : Nat) {fs : List Value} (he : ws[i]? = some (a, .inr (ci, fs))) (hh : h' + 1 ≤ R.frames ∧ 8 + (nL' + 11) + 40 * h' ≤ R.locals) {y : MethodName} {b : ByteArray} {As : List Value} {post : Nat → va_W → Prop} (cw : CWi own idx y b nL' n) (hc : NEWC l y b nL' h' mc ms As D G ci fs post) (hn : As.length = n) {st : List Value} (hst : st = As.reverse ++ .ref a :: rest) (hW : (rest.map fun v => v.category).sum ≤ 8) (hls : ls.size = nL) (hdg : decode cc pc = .ok (.invokespecial idx, 3)) (hf : cells + mc ≤ R.cells ∧ slots + ms ≤ R.slots)
    (kk : ∀ (w : va_W) (H1 : Heap) (locs1 : List Loc), post a w → (∀ (e1 : va_E) (new : va_W), w = (a, e1) :: new → XR D A H0 H1 locs1 (ws.set i (a, e1) ++ new)) → W p l e R s m args below meth c H1 locs1 (cells + mc) (slots + ms) Q (F0 m (pc + 3) ls rest)) : W p l e R s m args below meth c H locs cells slots Q (F0 m pc ls st) := by
  obtain ⟨hx, hb, hml, hown, hts, hK, hN, hlk⟩ := id C
  obtain ⟨⟨w1, w2, w4, w5⟩, hd, hnm⟩ := cw
  have hpre : ∀ U : State, U.heap = H → s.WarmedH U.vm → va_Pc (.ref a :: As) (PNW D G a ci fs H.size) (Value.ref a :: As).toArray U := by
    intro U hU hWm
    refine ⟨rfl, by rw [hU], ?_, ⟨va_K.moved hWm.alike hK, NW_warm hWm hN, AV.moved hWm.alike hAV⟩⟩
    rw [hU]
    intro k q hq
    rw [List.mem_singleton.mp (List.mem_of_getElem? hq)]
    exact hM.1 i _ he
  have hin : ∀ q, AO a H.size q → A q := by
    rintro q (rfl | h9)
    · exact hM.2.1.2 i _ he
    · exact hA q (Nat.le_trans hM.2.2.1 h9)
  have hr : va_Run p l e R s m args below meth c H locs cells slots mc ms (F0 m pc ls st) rest (QNW D a H.size (post a) (Value.ref a :: As).toArray) (AO a H.size) := va_runI (As := As) (rest := rest) (nL := nL) (own := own) ⟨hx, hb, hml, hown, hts⟩ (hc a H.size) ⟨callB_of n hts (gin_code w5) rfl rfl rfl (hts _ w4) (hts _ w1) hd hh, hnm, hts _ w2⟩ ⟨pnw_blind, hpre⟩ rfl hn hls hst (lv_room hW) hdg hf
  refine va_callv hr hM.2.2 (fun q _ h => hin q h) hin (fun w t H1 locs1 ht hvm hp hB hz hk hS => ?_)
  rw [ht] at hB
  exact kk w H1 locs1 hp (fun e1 new hw => hM.init hA he hw hB.1 hB.2 hk hS)
def CWin (own : String) (idx : Nat) (y : MethodName) (b : ByteArray) (nL n : Nat) : Prop :=
  (Cond.methodLinkNest own idx y "KindlingTree" ∈ NWL ∧ Cond.instanceMethod y ∈ WA ∧ Cond.initialized y.cls ∈ WA ∧ Cond.code y b nL none ∈ WA) ∧ (y.cls ≠ "java/lang/invoke/MethodHandle" ∧ y.cls ≠ "java/lang/invoke/VarHandle" ∧ (parseMethodDescriptor y.desc).map (fun d => d.parameters.length) = some n) ∧ y.name = "<init>"
theorem r_initN (C : Cx p s m meth c args cc nL own D G) (hAV : AV s) (hA : ∀ q, H0.size ≤ q → A q) (hM : XR D A H0 H locs ws) {h' idx n nL' a ci : Nat} (i : Nat) {fs : List Value} (he : ws[i]? = some (a, .inr (ci, fs))) (hh : h' + 1 ≤ R.frames ∧ 8 + (nL' + 11) + 40 * h' ≤ R.locals) {y : MethodName} {b : ByteArray} {As : List Value} {post : Nat → va_W → Prop} (cw : CWin own idx y b nL' n) (hc : NEWC l y b nL' h' mc ms As D G ci fs post) (hn : As.length = n) {st : List Value} (hst : st = As.reverse ++ .ref a :: rest) (hW : (rest.map fun v => v.category).sum ≤ 8) (hls : ls.size = nL) (hdg : decode cc pc = .ok (.invokespecial idx, 3)) (hf : cells + mc ≤ R.cells ∧ slots + ms ≤ R.slots)
    (kk : ∀ (w : va_W) (H1 : Heap) (locs1 : List Loc), post a w → (∀ (e1 : va_E) (new : va_W), w = (a, e1) :: new → XR D A H0 H1 locs1 (ws.set i (a, e1) ++ new)) → W p l e R s m args below meth c H1 locs1 (cells + mc) (slots + ms) Q (F0 m (pc + 3) ls rest)) : W p l e R s m args below meth c H locs cells slots Q (F0 m pc ls st) := by
  obtain ⟨hx, hb, hml, hown, hts, hK, hN, hlk⟩ := id C
  obtain ⟨⟨w1, w2, w4, w5⟩, hd, hnm⟩ := cw
  have hpre : ∀ U : State, U.heap = H → s.WarmedH U.vm → va_Pc (.ref a :: As) (PNW D G a ci fs H.size) (Value.ref a :: As).toArray U := by
    intro U hU hWm
    refine ⟨rfl, by rw [hU], ?_, ⟨va_K.moved hWm.alike hK, NW_warm hWm hN, AV.moved hWm.alike hAV⟩⟩
    rw [hU]
    intro k q hq
    rw [List.mem_singleton.mp (List.mem_of_getElem? hq)]
    exact hM.1 i _ he
  have hin : ∀ q, AO a H.size q → A q := by
    rintro q (rfl | h9)
    · exact hM.2.1.2 i _ he
    · exact hA q (Nat.le_trans hM.2.2.1 h9)
  have hr : va_Run p l e R s m args below meth c H locs cells slots mc ms (F0 m pc ls st) rest (QNW D a H.size (post a) (Value.ref a :: As).toArray) (AO a H.size) := va_runIN (As := As) (rest := rest) (nL := nL) (own := own) (host := "KindlingTree") ⟨hx, hb, hml, hown, hts⟩ (hc a H.size) ⟨va_cnB n hts (gin_code w5) rfl rfl rfl (hN _ w1) (hts _ w4) hd hh, hnm, hts _ w2⟩ ⟨pnw_blind, hpre⟩ rfl hn hls hst (lv_room hW) hdg hf
  refine va_callv hr hM.2.2 (fun q _ h => hin q h) hin (fun w t H1 locs1 ht hvm hp hB hz hk hS => ?_)
  rw [ht] at hB
  exact kk w H1 locs1 hp (fun e1 new hw => hM.init hA he hw hB.1 hB.2 hk hS)
end XNW
/-! rows of references -/
theorem cl_X4_9 : Cond.classLink RX4 9 RX5 ∈ WA := wa_t 34 (by decide +kernel) rfl
section XNQ
variable {p : Program} {l : Launch} {e : Env} {R : Room} {s : State} {m : MethodId} {args : Array Value} {below : List Frame} {meth : Method} {c : Code} {H : Heap} {locs : List Loc} {cells slots mc ms : Nat} {Q : State → Prop}
variable {cc : ByteArray} {nL : Nat} {own : String} {D : va_G} {G : Nat → Nat} {A : Nat → Prop} {H0 : Heap} {ws : va_W} {pc : Nat} {ls : Array Slot} {rest : List Value}
theorem r_newq (C : Cx p s m meth c args cc nL own D G) (hAV : AV s) (hA : ∀ q, H0.size ≤ q → A q) (hM : XR D A H0 H locs ws) {idx : Nat} (hcw : Cond.classLink own idx "KindlingTree$MoveList" ∈ WA) {z : Int} (n : Nat) (hz : z = (n : Int)) (hn : n ≤ 1000) (hc : cells + 1 ≤ R.cells) (hs : slots + n ≤ R.slots) (hdg : decode cc pc = .ok (.anewarray idx, 3))
    (kk : ∀ (q : Nat) (H1 : Heap), XR D A H0 H1 locs (ws ++ [(q, .inl (G 3, n, .inr (.inr (.inr (.inr (fun _ => none))))))]) → W p l e R s m args below meth c H1 locs (cells + 1) (slots + n) Q (F0 m (pc + 3) ls (.ref q :: rest))) : W p l e R s m args below meth c H locs cells slots Q (F0 m pc ls (.int (iI z) :: rest)) := by
  obtain ⟨hx, hb, hml, hown, hts, hK, hN, hlk⟩ := C
  subst hz
  have q := iI_n n hn
  refine va_newq hx hb hown (hts _ hcw) hAV hK hM.1 hM.2.1 hM.2.2 hA q.1 q.2 (by omega) hc hs hdg (fun q cA H1 hK2 hP hD hS => ?_)
  obtain ⟨k1, c1, -, -, -, e1⟩ := (hK2.2 (tysX G).length (cA, .object "KindlingTree$MoveList") (by rw [List.getElem?_append_right (Nat.le_refl _), Nat.sub_self]; rfl)).2
  obtain ⟨k2, c2, -, -, -, e2⟩ := (hK.2 3 (G 3, .object "KindlingTree$MoveList") rfl).2
  have e3 : cA = G 3 := Option.some.inj (Eq.trans (Eq.symm e1) e2)
  subst e3
  exact kk q H1 ⟨hP, hD, hS⟩
theorem r_astq (C : Cx p s m meth c args cc nL own D G) (hM : XR D A H0 H locs ws) (q0 qk : Nat) {a v n : Nat} {vs : List Value} {f : Nat → Option Nat} (ha : ws[q0]? = some (a, .inl (G 3, n, .inr (.inr (.inr (.inr f)))))) (hv : ws[qk]? = some (v, .inr (5, vs))) {z : Int} (h0 : 0 ≤ z) (h1 : z < n) (hn : (n : Int) ≤ 1000) (hdg : decode cc pc = .ok (.aastore, 1))
    (kk : ∀ (H1 : Heap) (locs1 : List Loc), XR D A H0 H1 locs1 (ws.set q0 (a, .inl (G 3, n, .inr (.inr (.inr (.inr (va_up f z.toNat (some v)))))))) → W p l e R s m args below meth c H1 locs1 cells slots Q (F0 m (pc + 1) ls rest)) : W p l e R s m args below meth c H locs cells slots Q (F0 m pc ls (.ref v :: .int (iI z) :: .ref a :: rest)) := by
  obtain ⟨hx, hb, hml, hown, hts, hK, hN, hlk⟩ := C
  refine va_astq hx hb hK hM.1 hM.2.1 hM.2.2 q0 3 qk 5 (r := (RX5, TX5, 6)) ha rfl hv rfl (iI_in h0 h1 (by omega)) hdg (fun H1 locs1 hP hD hS => ?_)
  rw [iI_clamp ⟨by omega, by omega⟩] at hP hD
  exact kk H1 locs1 ⟨hP, hD, hS⟩
theorem r_len (C : Cx p s m meth c args cc nL own D G) (hM : XR D A H0 H locs ws) (q0 : Nat) {a n : Nat} {f : Nat → Option Nat} (ha : ws[q0]? = some (a, .inl (G 3, n, .inr (.inr (.inr (.inr f)))))) (hdg : decode cc pc = .ok (.arraylength, 1))
    (kk : W p l e R s m args below meth c H locs cells slots Q (F0 m (pc + 1) ls (.int (iI n) :: rest))) : W p l e R s m args below meth c H locs cells slots Q (F0 m pc ls (.ref a :: rest)) := by
  obtain ⟨hx, hb, hml, hown, hts, hK, hN, hlk⟩ := C
  have e1 : Int32.ofNat n = iI (n : Int) := by unfold iI; exact (Int32.ofInt_eq_ofNat).symm
  exact va_alen hx hb hK hM.1 q0 3 ha rfl e1 hdg kk
end XNQ
