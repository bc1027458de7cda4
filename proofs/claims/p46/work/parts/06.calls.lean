/-! contracts over the world, entries, ends, calls -/
abbrev rmh (h : Nat) : Room := { frames := h, cells := 0, slots := 0, locals := 40 * h }
def PB (D : va_G) (ad : Nat → Nat) (G : Nat → Nat) (ids : List Nat) (σ : Sg) (sz : Nat) : State → Prop := fun U =>
  U.heap.size = sz ∧ va_P D vwCl (WG ad G ids σ) U.heap ∧ (va_K D vwCl (tysX G) U ∧ NW U) ∧ va_D (fun _ => True) (WG ad G ids σ) ∧ ∀ k, k ∈ ids → vld k
abbrev QI (D : va_G) (ad : Nat → Nat) (G : Nat → Nat) (ids : List Nat) (post : Int → Sg → Prop) (sz : Nat) : Array Value → State → Outcome → State → Prop :=
  va_Qi (fun r (u : Int × Sg) => r = iI u.1 ∧ post u.1 u.2) (fun u t => va_P D vwCl (WG ad G ids u.2) t.heap) (AN ad ids sz)
abbrev QL (D : va_G) (ad : Nat → Nat) (G : Nat → Nat) (ids : List Nat) (post : Int → Sg → Prop) (sz : Nat) : Array Value → State → Outcome → State → Prop :=
  va_Ql (fun r (u : Int × Sg) => r = jI u.1 ∧ post u.1 u.2) (fun u t => va_P D vwCl (WG ad G ids u.2) t.heap) (AN ad ids sz)
abbrev QV (D : va_G) (ad : Nat → Nat) (G : Nat → Nat) (ids : List Nat) (post : Sg → Prop) (sz : Nat) : Array Value → State → Outcome → State → Prop :=
  va_Qv post (fun u t => va_P D vwCl (WG ad G ids u) t.heap) (AN ad ids sz)
abbrev QR (D : va_G) (ad : Nat → Nat) (G : Nat → Nat) (ids : List Nat) (post : Nat → Sg → Prop) (sz : Nat) : Array Value → State → Outcome → State → Prop :=
  va_Qr (fun (u : Nat × Sg) => post u.1 u.2) (fun u a t => a = ad u.1 ∧ va_P D vwCl (WG ad G ids u.2) t.heap) (AN ad ids sz)
/-- method y, from the registers σ, at the height h (frames that it may open) -/
def MET (l : Launch) (y : MethodName) (b : ByteArray) (nL : Nat) (ret : Option FieldType) (h : Nat) (av : List Value) (D : va_G) (ad : Nat → Nat) (G : Nat → Nat) (ids : List Nat) (σ : Sg) (Qc : Nat → Array Value → State → Outcome → State → Prop) : Prop :=
  ∀ sz : Nat, Met l y (Cond.code y b nL ret :: WA) (rmh h) (va_Pc av (PB D ad G ids σ sz)) (Qc sz) 0 0 (AN ad ids sz)
theorem x_enter {l : Launch} {y : MethodName} {b : ByteArray} {nL : Nat} {ret : Option FieldType} {h : Nat} {av : List Value} {D : va_G} {ad : Nat → Nat} {G : Nat → Nat} {ids : List Nat} {σ : Sg} {Qc : Nat → Array Value → State → Outcome → State → Prop} (hy : plainName y.cls = true) (hlen : (lg_sl av).length ≤ nL)
    (body : ∀ (p : Program) (e : Env) (s : State) (m : MethodId) (args : Array Value) (below : List Frame) (meth : Method) (c : Code), Cx p s m meth c args b nL y.cls D G → meth.sig.returnType = ret → ∀ ls : Array Slot, lv_has ls nL (lv_args 0 av) → XI D ad G ids (AN ad ids s.heap.size) s.heap s.heap [] σ →
      W p l e (rmh h) s m args below meth c s.heap [] 0 0 (MQ below (Qc s.heap.size) args s 0 0 (AN ad ids s.heap.size)) (F0 m 0 ls [])) : MET l y b nL ret h av D ad G ids σ Qc := by
  intro sz
  refine Met.ofW (cc := b) (maxL := nL) (ret := ret) hy rfl ?_
  intro p e s m args below meth c s₁ B hml hv
  obtain ⟨rfl, hsz, hP, ⟨hK, hN⟩, hD, hV⟩ := hv
  have hts := atoms_spec (ws := Cond.code y b nL ret :: WA) B.pre
  subst hsz
  rw [lg_entry_eq]
  exact body p e s m _ below meth c ⟨B.exec, B.bytes, hml, findClass_of_methodNamed B.named, fun w hw => hts w (List.mem_cons_of_mem _ hw), hK, hN, B.notSynchronized⟩ B.returns _ (lv_entry av hlen) ⟨hP, wd_self hD, va_S.rf, hV⟩
section XE
variable {p : Program} {l : Launch} {e : Env} {R : Room} {s : State} {m : MethodId} {args : Array Value} {below : List Frame} {meth : Method} {c : Code} {H : Heap} {locs : List Loc} {cells slots : Nat} {Q : State → Prop}
variable {cc : ByteArray} {nL : Nat} {own : String} {D : va_G} {ad : Nat → Nat} {G : Nat → Nat} {ids : List Nat} {σ : Sg} {pc : Nat} {ls : Array Slot} {rest : List Value}
theorem x_iret (C : Cx p s m meth c args cc nL own D G) (hr : meth.sig.returnType = some .int) (hM : XI D ad G ids (AN ad ids s.heap.size) s.heap H locs σ) {z : Int} {post : Int → Sg → Prop} (hp : post z σ) (hdg : decode cc pc = .ok (.ireturn, 1)) : W p l e R s m args below meth c H locs cells slots (MQ below (QI D ad G ids post s.heap.size) args s cells slots (AN ad ids s.heap.size)) (F0 m pc ls [.int (iI z)]) :=
  W.iret C.1 C.2.1 hr (fun t ht hW => ⟨⟨iI z, (z, σ), rfl, ⟨rfl, hp⟩, by show va_P D vwCl (WG ad G ids σ) t.heap; rw [ht]; exact hM.1⟩, hM.2.2.1.F ht⟩) hM.2.2.1.2.2 hdg C.2.2.2.2.2.2.2
theorem x_zret (C : Cx p s m meth c args cc nL own D G) (hr : meth.sig.returnType = some .boolean) (hM : XI D ad G ids (AN ad ids s.heap.size) s.heap H locs σ) {z : Int} (hz : z = 0 ∨ z = 1) {post : Int → Sg → Prop} (hp : post z σ) (hdg : decode cc pc = .ok (.ireturn, 1)) : W p l e R s m args below meth c H locs cells slots (MQ below (QI D ad G ids post s.heap.size) args s cells slots (AN ad ids s.heap.size)) (F0 m pc ls [.int (iI z)]) :=
  W.zret C.1 C.2.1 hr (nar_z hz) (fun t ht hW => ⟨⟨iI z, (z, σ), rfl, ⟨rfl, hp⟩, by show va_P D vwCl (WG ad G ids σ) t.heap; rw [ht]; exact hM.1⟩, hM.2.2.1.F ht⟩) hM.2.2.1.2.2 hdg C.2.2.2.2.2.2.2
theorem x_lret (C : Cx p s m meth c args cc nL own D G) (hr : meth.sig.returnType = some .long) (hM : XI D ad G ids (AN ad ids s.heap.size) s.heap H locs σ) {z : Int} {post : Int → Sg → Prop} (hp : post z σ) (hdg : decode cc pc = .ok (.lreturn, 1)) : W p l e R s m args below meth c H locs cells slots (MQ below (QL D ad G ids post s.heap.size) args s cells slots (AN ad ids s.heap.size)) (F0 m pc ls [.long (jI z)]) :=
  W.lret C.1 C.2.1 hr (fun t ht hW => ⟨⟨jI z, (z, σ), rfl, ⟨rfl, hp⟩, by show va_P D vwCl (WG ad G ids σ) t.heap; rw [ht]; exact hM.1⟩, hM.2.2.1.F ht⟩) hM.2.2.1.2.2 hdg C.2.2.2.2.2.2.2
theorem x_vret (C : Cx p s m meth c args cc nL own D G) (hr : meth.sig.returnType = none) (hM : XI D ad G ids (AN ad ids s.heap.size) s.heap H locs σ) {post : Sg → Prop} (hp : post σ) (hdg : decode cc pc = .ok (.return_, 1)) : W p l e R s m args below meth c H locs cells slots (MQ below (QV D ad G ids post s.heap.size) args s cells slots (AN ad ids s.heap.size)) (F0 m pc ls []) :=
  W.vret C.1 C.2.1 hr (fun t ht hW => ⟨⟨σ, rfl, hp, by show va_P D vwCl (WG ad G ids σ) t.heap; rw [ht]; exact hM.1⟩, hM.2.2.1.F ht⟩) hM.2.2.1.2.2 hdg C.2.2.2.2.2.2.2
theorem x_aret (C : Cx p s m meth c args cc nL own D G) {rt : FieldType} (hr : meth.sig.returnType = some rt) (hrt : (∃ n, rt = .object n) ∨ ∃ t, rt = .array t) (hM : XI D ad G ids (AN ad ids s.heap.size) s.heap H locs σ) {k : Nat} {post : Nat → Sg → Prop} (hp : post k σ) (hdg : decode cc pc = .ok (.areturn, 1)) : W p l e R s m args below meth c H locs cells slots (MQ below (QR D ad G ids post s.heap.size) args s cells slots (AN ad ids s.heap.size)) (F0 m pc ls [.ref (ad k)]) :=
  W.aret C.1 C.2.1 hr hrt (Or.inr ⟨_, rfl⟩) (fun t ht hW => ⟨⟨(k, σ), ad k, rfl, hp, rfl, by show va_P D vwCl (WG ad G ids σ) t.heap; rw [ht]; exact hM.1⟩, hM.2.2.1.F ht⟩) hM.2.2.1.2.2 hdg C.2.2.2.2.2.2.2
theorem pb_blind {av : List Value} {sz : Nat} : FrameBlind (va_Pc av (PB D ad G ids σ sz)) := by
  intro a U g mk q
  obtain ⟨q0, q1, qP, ⟨qK, qN⟩, qD, qV⟩ := q
  exact ⟨q0, q1, qP, ⟨va_K.moved (u := U) (U := U.calling g mk a) (Vm.Alike.refl U.vm) qK, NW_vm (s := U) (U := U.calling g mk a) rfl qN⟩, qD, qV⟩
theorem pb_at (C : Cx p s m meth c args cc nL own D G) {A : Nat → Prop} {H0 : Heap} (hM : XI D ad G ids A H0 H locs σ) {av : List Value} : ∀ U : State, U.heap = H → s.WarmedH U.vm → va_Pc av (PB D ad G ids σ H.size) av.toArray U := by
  intro U hU hW
  obtain ⟨hx, hb, hml, hown, hts, hK, hN, hlk⟩ := C
  exact ⟨rfl, by rw [hU], by rw [hU]; exact hM.1, ⟨va_K.moved hW.alike hK, NW_warm hW hN⟩, hM.2.1.weaken (fun _ _ _ _ => trivial), hM.2.2.2⟩
/-- the words of a call, by program -/
def CWd (own : String) (idx : Nat) (y : MethodName) (b : ByteArray) (nL : Nat) (ret : Option FieldType) (n : Nat) : Prop :=
  (Cond.methodLink own idx y ∈ WA ∧ Cond.instanceMethod y ∈ WA ∧ Cond.selects y.cls y y ∈ WA ∧ Cond.initialized y.cls ∈ WA ∧ Cond.code y b nL ret ∈ WA) ∧ (y.cls ≠ "java/lang/invoke/MethodHandle" ∧ y.cls ≠ "java/lang/invoke/VarHandle" ∧ (parseMethodDescriptor y.desc).map (fun d => d.parameters.length) = some n) ∧ nL ≤ 21
def CWs (own : String) (idx : Nat) (y : MethodName) (b : ByteArray) (nL : Nat) (ret : Option FieldType) (n : Nat) : Prop :=
  (Cond.methodLink own idx y ∈ WA ∧ Cond.static y ∈ WA ∧ Cond.initialized own ∈ WA ∧ Cond.code y b nL ret ∈ WA) ∧ (y.cls = own ∧ y.cls ≠ "java/lang/invoke/MethodHandle" ∧ y.cls ≠ "java/lang/invoke/VarHandle" ∧ (parseMethodDescriptor y.desc).map (fun d => d.parameters.length) = some n) ∧ nL ≤ 21
def CWn (own : String) (idx : Nat) (y : MethodName) (b : ByteArray) (nL : Nat) (ret : Option FieldType) (n : Nat) : Prop :=
  (Cond.methodLinkNest own idx y "KindlingTree" ∈ NWL ∧ Cond.instanceMethod y ∈ WA ∧ Cond.selects y.cls y y ∈ WA ∧ Cond.initialized y.cls ∈ WA ∧ Cond.code y b nL ret ∈ WA) ∧ (y.cls ≠ "java/lang/invoke/MethodHandle" ∧ y.cls ≠ "java/lang/invoke/VarHandle" ∧ (parseMethodDescriptor y.desc).map (fun d => d.parameters.length) = some n) ∧ nL ≤ 21
def CWns (own : String) (idx : Nat) (y : MethodName) (b : ByteArray) (nL : Nat) (ret : Option FieldType) (n : Nat) : Prop :=
  (Cond.methodLinkNest own idx y "KindlingTree" ∈ NWL ∧ Cond.static y ∈ WA ∧ Cond.initialized y.cls ∈ WA ∧ Cond.code y b nL ret ∈ WA) ∧ (y.cls ≠ "java/lang/invoke/MethodHandle" ∧ y.cls ≠ "java/lang/invoke/VarHandle" ∧ (parseMethodDescriptor y.desc).map (fun d => d.parameters.length) = some n) ∧ nL ≤ 21
theorem wsL_good : WA.all goodWord = true := List.all_eq_true.mpr (fun w h => (List.mem_filter.mp h).2)
theorem gin_code {y : MethodName} {b : ByteArray} {nL : Nat} {ret : Option FieldType} (hc : Cond.code y b nL ret ∈ WA) : GoodIn WA (Cond.code y b nL ret :: WA) := by
  have hg := List.all_eq_true.mp wsL_good
  intro w hw
  rcases List.mem_cons.mp hw with rfl | hw
  · exact ⟨hc, good_of_word (hg _ hc)⟩
  · exact ⟨hw, good_of_word (hg _ hw)⟩
theorem gin_one {w : Cond} (h : w ∈ WA) : w ∈ WA ∧ ((w.onTables && w.keeps) = true ∨ ∃ ty, w = .arrayClass ty) := ⟨h, good_of_word (List.all_eq_true.mp wsL_good _ h)⟩
theorem x_runV (C : Cx p s m meth c args cc nL own D G) {A : Nat → Prop} {H0 : Heap} {h h' idx n nL' k ci : Nat} (hh : h' < h) {y : MethodName} {b : ByteArray} {ret : Option FieldType} {As : List Value} {Qc : Nat → Array Value → State → Outcome → State → Prop} (cw : CWd own idx y b nL' ret n)
    (hc : MET l y b nL' ret h' (.ref (ad k) :: As) D ad G ids σ Qc) (hM : XI D ad G ids A H0 H locs σ) (hk : k ∈ ids) {fs : List Value} {q : vw_C} (hcell : cell ad G σ k = .inr (ci, fs)) (hcl : vwCl[ci]? = some q) (hq1 : q.1 = y.cls) (hn : As.length = n) {st : List Value} (hst : st = As.reverse ++ .ref (ad k) :: rest) (hW : (rest.map fun v => v.category).sum ≤ 8) (hls : ls.size = nL)
    (hdg : decode cc pc = .ok (.invokevirtual idx, 3)) : va_Run p l e (rmh h) s m args below meth c H locs 0 0 0 0 (F0 m pc ls st) rest (Qc H.size (Value.ref (ad k) :: As).toArray) (AN ad ids H.size) := by
  obtain ⟨hx, hb, hml, hown, hts, hK, hN, hlk⟩ := id C
  obtain ⟨⟨w1, w2, w3, w4, w5⟩, hd, hL⟩ := cw
  obtain ⟨i, hi⟩ := List.getElem?_of_mem hk
  have h2 := wg_get ad G σ hi
  rw [hcell] at h2
  have hg : GoodIn WA (wsV own idx y.cls y (Cond.code y b nL' ret :: WA)) := by
    intro w hw
    unfold wsV at hw
    rcases List.mem_append.mp hw with hw | hw
    · simp only [List.mem_cons, List.not_mem_nil, or_false] at hw
      rcases hw with rfl | rfl | rfl | rfl
      · exact gin_one w1
      · exact gin_one w2
      · exact gin_one w3
      · exact gin_one w4
    · exact gin_code w5 w hw
  have hrc := va_recv hK hM.1 hcl h2
  rw [hq1] at hrc
  exact va_runV (As := As) (rest := rest) (nL := nL) (own := own) (C := y.cls) ⟨hx, hb, hml, hown, hts⟩ (hc H.size) (cwV n hts hg rfl rfl rfl ⟨rfl, hd⟩ ⟨hh, by show 8 + (nL' + 11) + 40 * h' ≤ 40 * h; omega⟩) ⟨pb_blind, hrc, pb_at C hM⟩ rfl hn hls hst (lv_room hW) hdg ⟨Nat.le_refl _, Nat.le_refl _⟩
theorem x_runS (C : Cx p s m meth c args cc nL own D G) {A : Nat → Prop} {H0 : Heap} {h h' idx n nL' : Nat} (hh : h' < h) {y : MethodName} {b : ByteArray} {ret : Option FieldType} {As : List Value} {Qc : Nat → Array Value → State → Outcome → State → Prop} (cw : CWs own idx y b nL' ret n)
    (hc : MET l y b nL' ret h' As D ad G ids σ Qc) (hM : XI D ad G ids A H0 H locs σ) (hn : As.length = n) {st : List Value} (hst : st = As.reverse ++ rest) (hW : (rest.map fun v => v.category).sum ≤ 8) (hls : ls.size = nL)
    (hdg : decode cc pc = .ok (.invokestatic idx, 3)) : va_Run p l e (rmh h) s m args below meth c H locs 0 0 0 0 (F0 m pc ls st) rest (Qc H.size As.toArray) (AN ad ids H.size) := by
  obtain ⟨hx, hb, hml, hown, hts, hK, hN, hlk⟩ := id C
  obtain ⟨⟨w1, w2, w4, w5⟩, hd, hL⟩ := cw
  have hg : GoodIn WA (wsS own idx y (Cond.code y b nL' ret :: WA)) := by
    intro w hw
    unfold wsS at hw
    rcases List.mem_append.mp hw with hw | hw
    · simp only [List.mem_cons, List.not_mem_nil, or_false] at hw
      rcases hw with rfl | rfl | rfl
      · exact gin_one w1
      · exact gin_one w2
      · exact gin_one w4
    · exact gin_code w5 w hw
  exact va_runS (As := As) (rest := rest) (nL := nL) (own := own) ⟨hx, hb, hml, hown, hts⟩ (hc H.size) (cwS n hts hg rfl rfl rfl hd ⟨hh, by show 8 + (nL' + 11) + 40 * h' ≤ 40 * h; omega⟩) ⟨pb_blind, pb_at C hM⟩ rfl hn hls hst (lv_room hW) hdg ⟨Nat.le_refl _, Nat.le_refl _⟩
theorem x_runN (C : Cx p s m meth c args cc nL own D G) {A : Nat → Prop} {H0 : Heap} {h h' idx n nL' k ci : Nat} (hh : h' < h) {y : MethodName} {b : ByteArray} {ret : Option FieldType} {As : List Value} {Qc : Nat → Array Value → State → Outcome → State → Prop} (cw : CWn own idx y b nL' ret n)
    (hc : MET l y b nL' ret h' (.ref (ad k) :: As) D ad G ids σ Qc) (hM : XI D ad G ids A H0 H locs σ) (hk : k ∈ ids) {fs : List Value} {q : vw_C} (hcell : cell ad G σ k = .inr (ci, fs)) (hcl : vwCl[ci]? = some q) (hq1 : q.1 = y.cls) (hn : As.length = n) {st : List Value} (hst : st = As.reverse ++ .ref (ad k) :: rest) (hW : (rest.map fun v => v.category).sum ≤ 8) (hls : ls.size = nL)
    (hdg : decode cc pc = .ok (.invokevirtual idx, 3)) : va_Run p l e (rmh h) s m args below meth c H locs 0 0 0 0 (F0 m pc ls st) rest (Qc H.size (Value.ref (ad k) :: As).toArray) (AN ad ids H.size) := by
  obtain ⟨hx, hb, hml, hown, hts, hK, hN, hlk⟩ := id C
  obtain ⟨⟨w1, w2, w3, w4, w5⟩, hd, hL⟩ := cw
  obtain ⟨i, hi⟩ := List.getElem?_of_mem hk
  have h2 := wg_get ad G σ hi
  rw [hcell] at h2
  have hrc := va_recv hK hM.1 hcl h2
  rw [hq1] at hrc
  exact va_runVN (As := As) (rest := rest) (nL := nL) (own := own) (C := y.cls) (host := "KindlingTree") ⟨hx, hb, hml, hown, hts⟩ (hc H.size) ⟨va_cnB n hts (gin_code w5) rfl rfl rfl (hN _ w1) (hts _ w4) hd ⟨hh, by show 8 + (nL' + 11) + 40 * h' ≤ 40 * h; omega⟩, hts _ w2, hts _ w3⟩ ⟨pb_blind, hrc, pb_at C hM⟩ rfl hn hls hst (lv_room hW) hdg ⟨Nat.le_refl _, Nat.le_refl _⟩
theorem x_runNs (C : Cx p s m meth c args cc nL own D G) {A : Nat → Prop} {H0 : Heap} {h h' idx n nL' : Nat} (hh : h' < h) {y : MethodName} {b : ByteArray} {ret : Option FieldType} {As : List Value} {Qc : Nat → Array Value → State → Outcome → State → Prop} (cw : CWns own idx y b nL' ret n)
    (hc : MET l y b nL' ret h' As D ad G ids σ Qc) (hM : XI D ad G ids A H0 H locs σ) (hn : As.length = n) {st : List Value} (hst : st = As.reverse ++ rest) (hW : (rest.map fun v => v.category).sum ≤ 8) (hls : ls.size = nL)
    (hdg : decode cc pc = .ok (.invokestatic idx, 3)) : va_Run p l e (rmh h) s m args below meth c H locs 0 0 0 0 (F0 m pc ls st) rest (Qc H.size As.toArray) (AN ad ids H.size) := by
  obtain ⟨hx, hb, hml, hown, hts, hK, hN, hlk⟩ := id C
  obtain ⟨⟨w1, w2, w4, w5⟩, hd, hL⟩ := cw
  exact va_runSN (As := As) (rest := rest) (nL := nL) (own := own) (host := "KindlingTree") ⟨hx, hb, hml, hown, hts⟩ (hc H.size) ⟨va_cnB n hts (gin_code w5) rfl rfl rfl (hN _ w1) (hts _ w4) hd ⟨hh, by show 8 + (nL' + 11) + 40 * h' ≤ 40 * h; omega⟩, hts _ w2, trivial⟩ ⟨pb_blind, pb_at C hM⟩ rfl hn hls hst (lv_room hW) hdg ⟨Nat.le_refl _, Nat.le_refl _⟩
theorem an_le {ad : Nat → Nat} {ids : List Nat} {a b : Nat} (h : a ≤ b) {q : Nat} (hq : AN ad ids b q) : AN ad ids a q := hq.elim Or.inl (fun h2 => Or.inr (Nat.le_trans h h2))
theorem x_ci {st0 : List Value} {a : Array Value} {post : Int → Sg → Prop} (hr : va_Run p l e R s m args below meth c H locs 0 0 0 0 (F0 m pc ls st0) rest (QI D ad G ids post H.size a) (AN ad ids H.size)) (hM : XI D ad G ids (AN ad ids s.heap.size) s.heap H locs σ)
    (kk : ∀ (z : Int) (σ1 : Sg) (H1 : Heap) (locs1 : List Loc), post z σ1 → XI D ad G ids (AN ad ids s.heap.size) s.heap H1 locs1 σ1 → W p l e R s m args below meth c H1 locs1 0 0 Q (F0 m (pc + 3) ls (.int (iI z) :: rest))) : W p l e R s m args below meth c H locs 0 0 Q (F0 m pc ls st0) := by
  refine va_calli hr hM.2.2.1 (fun q _ h => an_le hM.2.2.1.1 h) (fun q h => an_le hM.2.2.1.1 h) (fun r u t H1 locs1 ht hvm hp hB hz hk hS => ?_)
  obtain ⟨rfl, hp⟩ := hp
  rw [ht] at hB
  exact kk u.1 u.2 H1 locs1 hp ⟨hB, wd_any _ hM.2.1, hS, hM.2.2.2⟩
theorem x_cl {st0 : List Value} {a : Array Value} {post : Int → Sg → Prop} (hr : va_Run p l e R s m args below meth c H locs 0 0 0 0 (F0 m pc ls st0) rest (QL D ad G ids post H.size a) (AN ad ids H.size)) (hM : XI D ad G ids (AN ad ids s.heap.size) s.heap H locs σ)
    (kk : ∀ (z : Int) (σ1 : Sg) (H1 : Heap) (locs1 : List Loc), post z σ1 → XI D ad G ids (AN ad ids s.heap.size) s.heap H1 locs1 σ1 → W p l e R s m args below meth c H1 locs1 0 0 Q (F0 m (pc + 3) ls (.long (jI z) :: rest))) : W p l e R s m args below meth c H locs 0 0 Q (F0 m pc ls st0) := by
  refine va_calll hr hM.2.2.1 (fun q _ h => an_le hM.2.2.1.1 h) (fun q h => an_le hM.2.2.1.1 h) (fun r u t H1 locs1 ht hvm hp hB hz hk hS => ?_)
  obtain ⟨rfl, hp⟩ := hp
  rw [ht] at hB
  exact kk u.1 u.2 H1 locs1 hp ⟨hB, wd_any _ hM.2.1, hS, hM.2.2.2⟩
theorem x_cv {st0 : List Value} {a : Array Value} {post : Sg → Prop} (hr : va_Run p l e R s m args below meth c H locs 0 0 0 0 (F0 m pc ls st0) rest (QV D ad G ids post H.size a) (AN ad ids H.size)) (hM : XI D ad G ids (AN ad ids s.heap.size) s.heap H locs σ)
    (kk : ∀ (σ1 : Sg) (H1 : Heap) (locs1 : List Loc), post σ1 → XI D ad G ids (AN ad ids s.heap.size) s.heap H1 locs1 σ1 → W p l e R s m args below meth c H1 locs1 0 0 Q (F0 m (pc + 3) ls rest)) : W p l e R s m args below meth c H locs 0 0 Q (F0 m pc ls st0) := by
  refine va_callv hr hM.2.2.1 (fun q _ h => an_le hM.2.2.1.1 h) (fun q h => an_le hM.2.2.1.1 h) (fun u t H1 locs1 ht hvm hp hB hz hk hS => ?_)
  rw [ht] at hB
  exact kk u H1 locs1 hp ⟨hB, wd_any _ hM.2.1, hS, hM.2.2.2⟩
theorem x_cr {st0 : List Value} {a : Array Value} {post : Nat → Sg → Prop} (hr : va_Run p l e R s m args below meth c H locs 0 0 0 0 (F0 m pc ls st0) rest (QR D ad G ids post H.size a) (AN ad ids H.size)) (hM : XI D ad G ids (AN ad ids s.heap.size) s.heap H locs σ)
    (kk : ∀ (k : Nat) (σ1 : Sg) (H1 : Heap) (locs1 : List Loc), post k σ1 → XI D ad G ids (AN ad ids s.heap.size) s.heap H1 locs1 σ1 → W p l e R s m args below meth c H1 locs1 0 0 Q (F0 m (pc + 3) ls (.ref (ad k) :: rest))) : W p l e R s m args below meth c H locs 0 0 Q (F0 m pc ls st0) := by
  refine va_callr hr hM.2.2.1 (fun q _ h => an_le hM.2.2.1.1 h) (fun q h => an_le hM.2.2.1.1 h) (fun u a0 t H1 locs1 ht hvm hp hB hz hk hS => ?_)
  obtain ⟨rfl, hB⟩ := hB
  rw [ht] at hB
  exact kk u.1 u.2 H1 locs1 hp ⟨hB, wd_any _ hM.2.1, hS, hM.2.2.2⟩
end XE
