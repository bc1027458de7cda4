/-! the law's wrappers: methods with an exception table that call the class and tell what was thrown -/
def IL : List Nat := IC ++ [240]
theorem IL_c {k : Nat} (h : k < 81) : k ∈ IL := List.mem_append_left _ (IC_mem.mpr h)
theorem IL_240 : 240 ∈ IL := List.mem_append_right _ (List.mem_singleton.mpr rfl)
theorem IL_cases {k : Nat} (h : k ∈ IL) : k < 81 ∨ k = 240 := (List.mem_append.mp h).imp IC_mem.mp List.mem_singleton.mp
theorem own_270 : own 270 = 240 := by decide
def sOOB : String := "java/lang/IndexOutOfBoundsException"
def sIAE : String := "java/lang/IllegalArgumentException"
def sISE : String := "java/lang/IllegalStateException"
def NCS (U : State) : Prop := va_Nc sIAE sOOB U ∧ va_Nc sISE sOOB U ∧ va_Nc sISE sIAE U
theorem NCS.moved {u U : State} (hvm : u.vm.Alike U.vm) (h : NCS u) : NCS U := ⟨h.1.moved hvm, h.2.1.moved hvm, h.2.2.moved hvm⟩
def PBW (D : va_G) (ad : Nat → Nat) (G : Nat → Nat) (ids : List Nat) (σ : Sg) (sa : Nat → Nat) (sz : Nat) : State → Prop := fun U => PBT D ad G ids σ sa sz U ∧ NCS U
def WME (l : Launch) (y : MethodName) (b : ByteArray) (nL : Nat) (hh : List (Nat × Nat × Nat × Nat)) (h : Nat) (av : List Value) (D : va_G) (ad : Nat → Nat) (G : Nat → Nat) (ids : List Nat) (σ : Sg) (sa : Nat → Nat) (post : Int → Sg → Prop) : Prop :=
  ∀ sz : Nat, Met l y (Cond.codeWith y b nL (some .int) hh :: WA) (rma h 1 6) (va_Pc av (PBW D ad G ids σ sa sz)) (QI D ad G ids post sz) 1 6 (AN ad ids sz)
theorem x_enterWr {l : Launch} {y : MethodName} {b : ByteArray} {nL : Nat} {hh : List (Nat × Nat × Nat × Nat)} {h : Nat} {av : List Value} {D : va_G} {ad : Nat → Nat} {G : Nat → Nat} {ids : List Nat} {σ : Sg} {sa : Nat → Nat} {post : Int → Sg → Prop} (hy : plainName y.cls = true) (hlen : (lg_sl av).length ≤ nL)
    (body : ∀ (p : Program) (e : Env) (s : State) (m : MethodId) (args : Array Value) (below : List Frame) (meth : Method) (c : Code), Cx p s m meth c args b nL y.cls D G → c.exceptionTable.toList = tableOf hh → NCS s → TX sa s → TZ (AN ad ids s.heap.size) s s.heap → meth.sig.returnType = some .int → ∀ ls : Array Slot, lv_has ls nL (lv_args 0 av) → XI D ad G ids (AN ad ids s.heap.size) s.heap s.heap [] σ →
      W p l e (rma h 1 6) s m args below meth c s.heap [] 0 0 (MQ below (QI D ad G ids post s.heap.size) args s 1 6 (AN ad ids s.heap.size)) (F0 m 0 ls [])) : WME l y b nL hh h av D ad G ids σ sa post := by
  intro sz
  refine va_MetW (cc := b) (maxL := nL) (ret := some .int) (hh := hh) hy rfl ?_
  intro p e s m args below meth c s₁ B hml hv
  obtain ⟨rfl, ⟨⟨hsz, hP, ⟨hK, hN⟩, hD, hV⟩, hTX, hTZ⟩, hNC⟩ := hv
  have hts := atoms_spec (ws := Cond.codeWith y b nL (some .int) hh :: WA) B.pre
  subst hsz
  rw [lg_entry_eq]
  exact body p e s m _ below meth c ⟨B.exec, B.bytes, hml, findClass_of_methodNamed B.named, fun w hw => hts w (List.mem_cons_of_mem _ hw), hK, hN, B.notSynchronized⟩ (vx_table (x := y) B (hts _ List.mem_cons_self)) hNC hTX hTZ B.returns _ (lv_entry av hlen) ⟨hP, wd_self hD, va_S.rf, hV⟩
section PBTS
variable {p : Program} {s : State} {m : MethodId} {args : Array Value} {meth : Method} {c : Code} {H : Heap} {locs : List Loc}
variable {cc : ByteArray} {nL : Nat} {own : String} {D : va_G} {ad : Nat → Nat} {G : Nat → Nat} {ids : List Nat} {A : Nat → Prop} {H0 : Heap} {σ : Sg} {sa : Nat → Nat}
theorem pbt_blind {av : List Value} {sz : Nat} : FrameBlind (va_Pc av (PBT D ad G ids σ sa sz)) := by
  intro a U g mk q
  obtain ⟨q0, q1, hTX, hTZ⟩ := q
  have h1 := pb_blind (D := D) (ad := ad) (G := G) (ids := ids) (σ := σ) (av := av) (sz := sz) a U g mk ⟨q0, q1⟩
  exact ⟨q0, h1.2, TX.same (u := U) (U := U.calling g mk a) rfl hTX, TZ.moved (u := U) (U := U.calling g mk a) (Vm.Alike.refl U.vm) hTZ⟩
theorem pbt_at (C : Cx p s m meth c args cc nL own D G) (hM : XI D ad G ids A H0 H locs σ) (hTX : TX sa s) (hTZ : TZ (AN ad ids H.size) s H) {av : List Value} : ∀ U : State, U.heap = H → s.WarmedH U.vm → va_Pc av (PBT D ad G ids σ sa H.size) av.toArray U := by
  intro U hU hW
  have h1 := (pb_at C hM (av := av) U hU hW).2
  exact ⟨rfl, h1, hTX.warm hW, by rw [hU]; exact hTZ.moved hW.alike⟩
theorem pbw_blind {av : List Value} {sz : Nat} : FrameBlind (va_Pc av (PBW D ad G ids σ sa sz)) := by
  intro a U g mk q
  obtain ⟨q0, q1, hNC⟩ := q
  have h1 := pbt_blind (D := D) (ad := ad) (G := G) (ids := ids) (σ := σ) (sa := sa) (av := av) (sz := sz) a U g mk ⟨q0, q1⟩
  exact ⟨q0, h1.2, NCS.moved (u := U) (U := U.calling g mk a) (Vm.Alike.refl U.vm) hNC⟩
theorem pbw_at (C : Cx p s m meth c args cc nL own D G) (hM : XI D ad G ids A H0 H locs σ) (hNC : NCS s) (hTX : TX sa s) (hTZ : TZ (AN ad ids H.size) s H) {av : List Value} : ∀ U : State, U.heap = H → s.WarmedH U.vm → va_Pc av (PBW D ad G ids σ sa H.size) av.toArray U := by
  intro U hU hW
  have h1 := (pbt_at C hM hTX hTZ (av := av) U hU hW).2
  exact ⟨rfl, h1, hNC.moved hW.alike⟩
end PBTS
section XTRY
variable {p : Program} {l : Launch} {e : Env} {R : Room} {s : State} {m : MethodId} {args : Array Value} {below : List Frame} {meth : Method} {c : Code} {H : Heap} {locs : List Loc} {cells slots : Nat} {Q : State → Prop}
variable {cc : ByteArray} {nL : Nat} {own : String} {D : va_G} {ad : Nat → Nat} {G : Nat → Nat} {ids : List Nat} {A : Nat → Prop} {H0 : Heap} {σ : Sg} {pc : Nat} {ls : Array Slot} {rest : List Value}
theorem x_runVX (C : Cx p s m meth c args cc nL own D G) {h' idx n nL' k ci : Nat} (hh : h' + 1 ≤ R.frames ∧ 8 + (nL' + 11) + 40 * h' ≤ R.locals) {y : MethodName} {b : ByteArray} {ret : Option FieldType} {As : List Value} {Qc : Nat → Array Value → State → Outcome → State → Prop} {px : String → Sg → Prop} {sa : Nat → Nat} (cw : CWd own idx y b nL' ret n)
    (hc : VME l y b nL' ret h' (.ref (ad k) :: As) D ad G ids σ sa Qc px) (hTX : TX sa s) (hTZ : TZ (AN ad ids H.size) s H) (hM : XI D ad G ids A H0 H locs σ) (hk : k ∈ ids) {fs : List Value} {q : vw_C} (hcell : cell ad G σ k = .inr (ci, fs)) (hcl : vwCl[ci]? = some q) (hq1 : q.1 = y.cls) (hn : As.length = n) {st : List Value} (hst : st = As.reverse ++ .ref (ad k) :: rest) (hW : (rest.map fun v => v.category).sum ≤ 8) (hls : ls.size = nL)
    (hdg : decode cc pc = .ok (.invokevirtual idx, 3)) (hf : cells + 1 ≤ R.cells ∧ slots + 6 ≤ R.slots) : vx_Run p l e R s m args below meth c H locs cells slots 1 6 (F0 m pc ls st) rest (Qc H.size (Value.ref (ad k) :: As).toArray) (XQ D ad G ids px H.size) (AN ad ids H.size) := by
  obtain ⟨hx, hb, hml, hown, hts, hK, hN, hlk⟩ := id C
  obtain ⟨⟨w1, w2, w3, w4, w5⟩, hd, hL⟩ := cw
  obtain ⟨i, hi⟩ := List.getElem?_of_mem hk
  have h2 := wg_get ad G σ hi
  rw [hcell] at h2
  have hg : GoodIn WA (wsV own idx y.cls y (Cond.code y b nL' ret :: WA)) := by
    intro w hw
    unfold wsV at hw
    rcases List.mem_append.mp hw with hw | hw
    · simp only [List.mem_cons, List.not_mem_nil, or_false] at hw
      rcases hw with rfl | rfl | rfl | rfl
      · exact gin_one w1
      · exact gin_one w2
      · exact gin_one w3
      · exact gin_one w4
    · exact gin_code w5 w hw
  have hrc := va_recv hK hM.1 hcl h2
  rw [hq1] at hrc
  exact vx_runV (As := As) (rest := rest) (nL := nL) (own := own) (C := y.cls) ⟨hx, hb, hml, hown, hts⟩ (hc H.size) (cwV n hts hg rfl rfl rfl ⟨rfl, hd⟩ hh) ⟨pbt_blind, hrc, pbt_at C hM hTX hTZ⟩ rfl hn hls hst (lv_room hW) hdg hf
/-- the row of the table that takes E, and what it does -/
def HND (s : State) (cc : ByteArray) (nL : Nat) (hh : List (Nat × Nat × Nat × Nat)) (pc : Nat) (E : String) (k : Int) : Prop :=
  ∃ (pre : List ExceptionTableEntry) (x : ExceptionTableEntry) (suf : List ExceptionTableEntry), tableOf hh = pre ++ x :: suf ∧ (∀ z ∈ pre, z.catchType ≠ 0 ∧ ∃ nm : String, Cond.classLink RL z.catchType nm ∈ WA ∧ va_Nc E nm s) ∧ covers x pc = true ∧ x.catchType ≠ 0 ∧ Cond.classLink RL x.catchType E ∈ WA ∧ Cond.castable E E ∈ BWL ∧
    ((∃ j : Fin 4, (j : Nat) < nL ∧ decode cc x.handlerPc = .ok (.astore_n j, 1) ∧ decode cc (x.handlerPc + 1) = .ok (.iconst k, 1) ∧ decode cc (x.handlerPc + 2) = .ok (.ireturn, 1)) ∨
     (∃ j : Nat, j < nL ∧ decode cc x.handlerPc = .ok (.astore j, 2) ∧ decode cc (x.handlerPc + 2) = .ok (.iconst k, 1) ∧ decode cc (x.handlerPc + 3) = .ok (.ireturn, 1)))
def wpost (post : Int → Sg → Prop) (px : String → Sg → Prop) (cd : String → Int) : Int → Sg → Prop := fun k τ => (k = 0 ∧ ∃ (z : Int) (σ1 : Sg), post z σ1 ∧ upr σ1 270 (ups (σ1 270) 0 (wI z)) = τ) ∨ ∃ E : String, px E τ ∧ k = cd E
theorem x_out (C : Cx p s m meth c args cc nL RL D G) (hr : meth.sig.returnType = some .int) (hM : XI D ad G IL (AN ad IL s.heap.size) s.heap H locs σ) {z : Int} {post : Int → Sg → Prop} {tgt : Nat} {off : Int} (hp : post 0 (upr σ 270 (ups (σ 270) 0 z)))
    (d1 : decode cc pc = .ok (.lastore, 1)) (d2 : decode cc (pc + 1) = .ok (.goto off, 3)) (ht : ((pc + 1 : Nat) : Int) + off = (tgt : Int)) (d3 : decode cc tgt = .ok (.iconst 0, 1)) (d4 : decode cc (tgt + 1) = .ok (.ireturn, 1)) :
    W p l e R s m args below meth c H locs cells slots (MQ below (QI D ad G IL post s.heap.size) args s cells slots (AN ad IL s.heap.size)) (F0 m pc ls [.long (jI z), .int (iI 0), .ref (ad 240)]) := by
  refine x_last C hM IL_240 (cx_240 ad G σ) (z := 0) (v := z) (by omega) (by omega) (by omega) (upr σ 270 (ups (σ 270) 0 z)) ?_ ?_ d1 (fun H1 locs1 hM1 => ?_)
  · rw [cx_240, fJ_ups _ _ ⟨by omega, by omega⟩ (by omega)]; rfl
  · exact oth_1 ad G σ _ own_270 ⟨by omega, by omega, by omega, by omega, by omega⟩
  · refine lv_goto C.1 C.2.1 d2 ht ?_
    refine lv_iconst C.1 C.2.1 (v := iI 0) d3 rfl ?_
    exact x_iret C hr hM1 hp d4
theorem x_hnd (C : Cx p s m meth c args cc nL RL D G) (hr : meth.sig.returnType = some .int) {hh : List (Nat × Nat × Nat × Nat)} (htab : c.exceptionTable.toList = tableOf hh) {sa : Nat → Nat} (hTX : TX sa s) (hM : XI D ad G IL (AN ad IL s.heap.size) s.heap H locs σ) {lv : List (Nat × Value)} (hl : lv_has ls nL lv) {E : String} {k : Int} (hk : k = 1 ∨ k = 2 ∨ k = 3) (hE : HND s cc nL hh pc E k) {post : Int → Sg → Prop} (hp : post k σ)
    {ce : Cell} {q : Nat} (hcell : H[q]? = some ce) (hv : ce.vm = .none) (hcl : s.vm.findClass E = some ce.cls) :
    vx_W p l e R s m args below meth c H locs cells slots (MQ below (QI D ad G IL post s.heap.size) args s cells slots (AN ad IL s.heap.size)) (F0 m pc ls rest) q := by
  obtain ⟨pre, x, suf, h1, h2, h3, h4, h5, h6, h7⟩ := hE
  obtain ⟨hx, hb, hml, hown, hts, hK, hN, hlk⟩ := id C
  have hc9 : (Cond.castable E E).before args s = true := va_Nw.use (BWL_tab _ h6) (hTX.1 _ h6)
  refine vx_catch (own := RL) (name := E) (E := E) (ce := ce) hown pre x suf (htab.trans h1) (fun z hz => ?_) h3 h4 (hts _ h5) hc9 hcell hv hcl ?_
  · obtain ⟨a, nm, b, c⟩ := h2 z hz
    exact Or.inr ⟨a, nm, hts _ b, c⟩
  · have hkk : Int32.ofInt k = iI k := rfl
    rcases h7 with ⟨j, hj, d1, d2, d3⟩ | ⟨j, hj, d1, d2, d3⟩
    · refine lv_astore_n C.1 C.2.1 d1 rfl hl hj rfl (fun ls1 hl1 => ?_)
      refine lv_iconst C.1 C.2.1 (v := iI k) d2 hkk ?_
      exact x_iret C hr hM hp d3
    · refine lv_astore C.1 C.2.1 d1 hl hj rfl (fun ls1 hl1 => ?_)
      refine lv_iconst C.1 C.2.1 (v := iI k) d2 hkk ?_
      exact x_iret C hr hM hp d3
/-- the call of a method that may throw, under a table; then the rest -/
theorem x_tryV (C : Cx p s m meth c args cc nL RL D G) (hr : meth.sig.returnType = some .int) {hh : List (Nat × Nat × Nat × Nat)} (htab : c.exceptionTable.toList = tableOf hh) {sa : Nat → Nat} (hTX : TX sa s) (hTZ : TZ (AN ad IL s.heap.size) s s.heap) (hM : XI D ad G IL (AN ad IL s.heap.size) s.heap s.heap [] σ) {lv : List (Nat × Value)} (hl : lv_has ls nL lv)
    {h' idx n nL' : Nat} {y : MethodName} {b : ByteArray} {ret : Option FieldType} {As : List Value} {postz : Int → Sg → Prop} {px : String → Sg → Prop} (cw : CWd RL idx y b nL' ret n)
    (hc : VME l y b nL' ret h' (.ref (ad 0) :: As) D ad G IL σ sa (QI D ad G IL postz) px) (hy : y.cls = RX11) (hn : As.length = n) {st : List Value} (hst : st = As.reverse ++ .ref (ad 0) :: rest) (hW : (rest.map fun v => v.category).sum ≤ 8)
    (hdg : decode cc pc = .ok (.invokevirtual idx, 3)) {post : Int → Sg → Prop}
    (hx : ∀ (E : String) (τ : Sg), px E τ → ∃ k : Int, (k = 1 ∨ k = 2 ∨ k = 3) ∧ HND s cc nL hh pc E k ∧ post k τ)
    (kk : ∀ (z : Int) (σ1 : Sg) (H1 : Heap) (locs1 : List Loc), postz z σ1 → XI D ad G IL (AN ad IL s.heap.size) s.heap H1 locs1 σ1 → W p l e (rma (h' + 1) 1 6) s m args below meth c H1 locs1 1 6 (MQ below (QI D ad G IL post s.heap.size) args s 1 6 (AN ad IL s.heap.size)) (F0 m (pc + 3) ls (.int (iI z) :: rest))) :
    W p l e (rma (h' + 1) 1 6) s m args below meth c s.heap [] 0 0 (MQ below (QI D ad G IL post s.heap.size) args s 1 6 (AN ad IL s.heap.size)) (F0 m pc ls st) := by
  have hL9 : nL' ≤ 21 := cw.2.2
  have hrun := x_runVX (locs := []) (cells := 0) (slots := 0) (R := rma (h' + 1) 1 6) (p := p) (e := e) (below := below) (rest := rest) C ⟨Nat.le_refl _, by show 8 + (nL' + 11) + 40 * h' ≤ 40 * (h' + 1); omega⟩ cw hc hTX hTZ hM (IL_c (by omega)) (cx_0 ad G σ) (q := vwCl[11]) rfl (by rw [hy]; rfl) hn hst hW hl.1 hdg ⟨Nat.le_of_ble_eq_true rfl, Nat.le_of_ble_eq_true rfl⟩
  refine vx_calli hrun hM.2.2.1 (fun q _ h => an_in hM (fun q h => Or.inr h) q h) (fun q h => an_in hM (fun q h => Or.inr h) q h) (fun q _ h => an_in hM (fun q h => Or.inr h) q h) (fun E ce q9 u t H1 locs1 ht hvm hp hB hz hk hS hce hcv hcl => ?_) (fun r u t H1 locs1 ht hvm hp hB hz hk hS => ?_)
  · obtain ⟨rfl, hB⟩ := hB
    rw [ht] at hB
    obtain ⟨k, hk3, hH, hpo⟩ := hx _ _ hp
    exact x_hnd C hr htab hTX (XE.call hM.e hB hk hS).x hl hk3 hH hpo hce hcv hcl
  · obtain ⟨rfl, hp⟩ := hp
    rw [ht] at hB
    exact kk u.1 u.2 H1 locs1 hp (XE.call hM.e hB hk hS).x
end XTRY
theorem kl_13 : Cond.classLink RL 13 sIAE ∈ WA := wa_t 675 (by decide +kernel) rfl
theorem kl_19 : Cond.classLink RL 19 sOOB ∈ WA := wa_t 766 (by decide +kernel) rfl
theorem kl_21 : Cond.classLink RL 21 sISE ∈ WA := wa_t 767 (by decide +kernel) rfl
