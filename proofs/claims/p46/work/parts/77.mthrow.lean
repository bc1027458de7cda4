/-! methods that throw: what they stand on, the row that throws, their contracts -/
def nmsE : List String := ["java/lang/RuntimeException", "java/lang/Exception"]
def BWL : List Cond := [.castable "java/lang/IllegalArgumentException" "java/lang/IllegalArgumentException", .castable "java/lang/IndexOutOfBoundsException" "java/lang/IndexOutOfBoundsException", .castable "java/lang/IllegalStateException" "java/lang/IllegalStateException", .declares ⟨"java/lang/RuntimeException", "<init>", "(Ljava/lang/String;)V"⟩, .declares ⟨"java/lang/Exception", "<init>", "(Ljava/lang/String;)V"⟩, .declares ⟨"java/lang/Throwable", "<init>", "(Ljava/lang/String;)V"⟩]
def STR : List (Nat × String) := [(87, "columns or rows are not 3 to 5"), (96, "so many full rows do not fit"), (114, "there is no such field"), (117, "what is not 0 to 2"), (128, "a side has at most 6 pawns"), (135, "side is not 0 or 1"), (148, "there is no such move"), (156, "there is nothing to take back"), (170, "a weight is out of its bounds"), (187, "slots is not 0 to 64"), (224, "depth is not 0 to 3"), (233, "depth is not 1 to 3"), (239, "depth is not 1 to 4"), (241, "the position is lost"), (268, "there is no such slot"), (270, "what is not 0 to 3"), (283, "weight is not 1 to 99"), (291, "the book is full"), (305, "most is not 1 to 10")]
def TX (sa : Nat → Nat) (U : State) : Prop := (∀ w ∈ BWL, va_Nw w U) ∧ ∀ q ∈ STR, vk_R RX11 q.1 q.2 (sa q.1) U
theorem BWL_tab : ∀ w ∈ BWL, w.onTables = true := by decide
theorem TX.warm {sa : Nat → Nat} {s U : State} (hW : s.WarmedH U.vm) (h : TX sa s) : TX sa U := by
  refine ⟨fun w hw => ?_, fun q hq => vk_R.warm hW (h.2 q hq)⟩
  have h1 := h.1 w hw
  simp only [BWL, List.mem_cons, List.not_mem_nil, or_false] at hw
  rcases hw with rfl | rfl | rfl | rfl | rfl | rfl
  · exact va_Nw.warmC hW h1
  · exact va_Nw.warmC hW h1
  · exact va_Nw.warmC hW h1
  · exact va_Nw.warmD hW h1
  · exact va_Nw.warmD hW h1
  · exact va_Nw.warmD hW h1
theorem TX.same {sa : Nat → Nat} {u U : State} (hv : U.vm = u.vm) (h : TX sa u) : TX sa U := ⟨fun w hw => va_Nw.same (BWL_tab w hw) hv.symm (h.1 w hw), fun q hq => vk_R.same hv (h.2 q hq)⟩
def TZ (A : Nat → Prop) (U : State) (H : Heap) : Prop := vx_Zq Bundle.tN "UNASSIGNED_STACK" Bundle.steD A U H ∧ vx_Zq Bundle.tN "SUPPRESSED_SENTINEL" Bundle.listD A U H
theorem TZ.moved {A : Nat → Prop} {u U : State} {H : Heap} (hvm : u.vm.Alike U.vm) (h : TZ A u H) : TZ A U H := ⟨h.1.moved hvm, h.2.moved hvm⟩
theorem TZ.kept {A : Nat → Prop} {U : State} {H H1 : Heap} (h : TZ A U H) (hq : ∀ a : Nat, a < H.size → ¬ A a → H1[a]? = H[a]?) : TZ A U H1 := ⟨h.1.kept hq, h.2.kept hq⟩
theorem TZ.narrow {A B : Nat → Prop} {U : State} {H : Heap} (h : TZ A U H) (hAB : ∀ q, B q → A q) : TZ B U H := ⟨h.1.narrow hAB, h.2.narrow hAB⟩
def PBT (D : va_G) (ad : Nat → Nat) (G : Nat → Nat) (ids : List Nat) (σ : Sg) (sa : Nat → Nat) (sz : Nat) : State → Prop := fun U => PB D ad G ids σ sz U ∧ TX sa U ∧ TZ (AN ad ids sz) U U.heap
abbrev XQ (D : va_G) (ad : Nat → Nat) (G : Nat → Nat) (ids : List Nat) (px : String → Sg → Prop) (sz : Nat) : String → State → State → Prop :=
  vx_X (S := String × Sg) (fun u => px u.1 u.2) (fun E u t => E = u.1 ∧ va_P D vwCl (WG ad G ids u.2) t.heap) (AN ad ids sz)
/-- a method that returns or throws; one object more in the room, 6 slots -/
def VME (l : Launch) (y : MethodName) (b : ByteArray) (nL : Nat) (ret : Option FieldType) (h : Nat) (av : List Value) (D : va_G) (ad : Nat → Nat) (G : Nat → Nat) (ids : List Nat) (σ : Sg) (sa : Nat → Nat) (Qc : Nat → Array Value → State → Outcome → State → Prop) (px : String → Sg → Prop) : Prop :=
  ∀ sz : Nat, vx_Met l y (Cond.code y b nL ret :: WA) (rma h 1 6) (va_Pc av (PBT D ad G ids σ sa sz)) (Qc sz) (XQ D ad G ids px sz) 1 6 (AN ad ids sz)
theorem x_enterV {l : Launch} {y : MethodName} {b : ByteArray} {nL : Nat} {ret : Option FieldType} {h : Nat} {av : List Value} {D : va_G} {ad : Nat → Nat} {G : Nat → Nat} {ids : List Nat} {σ : Sg} {sa : Nat → Nat} {Qc : Nat → Array Value → State → Outcome → State → Prop} {px : String → Sg → Prop} (hy : plainName y.cls = true) (hlen : (lg_sl av).length ≤ nL)
    (body : ∀ (p : Program) (e : Env) (s : State) (m : MethodId) (args : Array Value) (below : List Frame) (meth : Method) (c : Code), Cx p s m meth c args b nL y.cls D G → (∀ x ∈ c.exceptionTable.toList, False) → TX sa s → TZ (AN ad ids s.heap.size) s s.heap → meth.sig.returnType = ret → ∀ ls : Array Slot, lv_has ls nL (lv_args 0 av) → XI D ad G ids (AN ad ids s.heap.size) s.heap s.heap [] σ →
      W p l e (rma h 1 6) s m args below meth c s.heap [] 0 0 (vx_MQ below (Qc s.heap.size) (XQ D ad G ids px s.heap.size) args s 1 6 (AN ad ids s.heap.size)) (F0 m 0 ls [])) : VME l y b nL ret h av D ad G ids σ sa Qc px := by
  intro sz
  refine vx_ofW (cc := b) (maxL := nL) (ret := ret) hy rfl ?_
  intro p e s m args below meth c s₁ B hml hnx hv
  obtain ⟨rfl, ⟨hsz, hP, ⟨hK, hN⟩, hD, hV⟩, hTX, hTZ⟩ := hv
  have hts := atoms_spec (ws := Cond.code y b nL ret :: WA) B.pre
  subst hsz
  rw [lg_entry_eq]
  exact body p e s m _ below meth c ⟨B.exec, B.bytes, hml, findClass_of_methodNamed B.named, fun w hw => hts w (List.mem_cons_of_mem _ hw), hK, hN, B.notSynchronized⟩ hnx hTX hTZ B.returns _ (lv_entry av hlen) ⟨hP, wd_self hD, va_S.rf, hV⟩
theorem hat_IAE {args : Array Value} {s : State} {sa : Nat → Nat} (hts : ∀ w ∈ WA, w.before args s = true) (hTX : TX sa s) : ∀ w ∈ vx_atS RX11 89 "java/lang/IllegalArgumentException" nmsE, w.before args s = true :=
  vx_hat (B := BWL) (fun w hw => hts w ((show ∀ w ∈ (vx_atS RX11 89 "java/lang/IllegalArgumentException" nmsE).filter goodWord, w ∈ WA by decide +kernel) w hw)) (by decide +kernel) (fun w hw => va_Nw.use (BWL_tab w hw) (hTX.1 w hw))
theorem kx_IAE : Cond.classLink RX11 85 "java/lang/IllegalArgumentException" ∈ WA := wa_t 611 (by decide +kernel) rfl
theorem ix_IAE : Cond.initialized "java/lang/IllegalArgumentException" ∈ WA := wa_t 16 (by decide +kernel) rfl
theorem ot_IAE : ∀ w ∈ Cond.classLink RX11 85 "java/lang/IllegalArgumentException" :: Cond.initialized "java/lang/IllegalArgumentException" :: vx_atS RX11 89 "java/lang/IllegalArgumentException" nmsE, vx_ot w = true := by decide +kernel
theorem hat_OOB {args : Array Value} {s : State} {sa : Nat → Nat} (hts : ∀ w ∈ WA, w.before args s = true) (hTX : TX sa s) : ∀ w ∈ vx_atS RX11 116 "java/lang/IndexOutOfBoundsException" nmsE, w.before args s = true :=
  vx_hat (B := BWL) (fun w hw => hts w ((show ∀ w ∈ (vx_atS RX11 116 "java/lang/IndexOutOfBoundsException" nmsE).filter goodWord, w ∈ WA by decide +kernel) w hw)) (by decide +kernel) (fun w hw => va_Nw.use (BWL_tab w hw) (hTX.1 w hw))
theorem kx_OOB : Cond.classLink RX11 112 "java/lang/IndexOutOfBoundsException" ∈ WA := wa_t 708 (by decide +kernel) rfl
theorem ix_OOB : Cond.initialized "java/lang/IndexOutOfBoundsException" ∈ WA := wa_t 17 (by decide +kernel) rfl
theorem ot_OOB : ∀ w ∈ Cond.classLink RX11 112 "java/lang/IndexOutOfBoundsException" :: Cond.initialized "java/lang/IndexOutOfBoundsException" :: vx_atS RX11 116 "java/lang/IndexOutOfBoundsException" nmsE, vx_ot w = true := by decide +kernel
theorem hat_ISE {args : Array Value} {s : State} {sa : Nat → Nat} (hts : ∀ w ∈ WA, w.before args s = true) (hTX : TX sa s) : ∀ w ∈ vx_atS RX11 130 "java/lang/IllegalStateException" nmsE, w.before args s = true :=
  vx_hat (B := BWL) (fun w hw => hts w ((show ∀ w ∈ (vx_atS RX11 130 "java/lang/IllegalStateException" nmsE).filter goodWord, w ∈ WA by decide +kernel) w hw)) (by decide +kernel) (fun w hw => va_Nw.use (BWL_tab w hw) (hTX.1 w hw))
theorem kx_ISE : Cond.classLink RX11 126 "java/lang/IllegalStateException" ∈ WA := wa_t 729 (by decide +kernel) rfl
theorem ix_ISE : Cond.initialized "java/lang/IllegalStateException" ∈ WA := wa_t 18 (by decide +kernel) rfl
theorem ot_ISE : ∀ w ∈ Cond.classLink RX11 126 "java/lang/IllegalStateException" :: Cond.initialized "java/lang/IllegalStateException" :: vx_atS RX11 130 "java/lang/IllegalStateException" nmsE, vx_ot w = true := by decide +kernel
section XTH
variable {p : Program} {l : Launch} {e : Env} {R : Room} {s : State} {m : MethodId} {args : Array Value} {below : List Frame} {meth : Method} {c : Code} {H : Heap} {locs : List Loc} {cells slots mc ms : Nat} {Q : State → Prop}
variable {cc : ByteArray} {nL : Nat} {own : String} {D : va_G} {ad : Nat → Nat} {G : Nat → Nat} {ids : List Nat} {A : Nat → Prop} {H0 : Heap} {σ : Sg} {E : va_W} {pc : Nat} {ls : Array Slot} {rest : List Value}
theorem x_throw (C : Cx p s m meth c args cc nL RX11 D G) (hst : l.stackTraces = false) (hnx : ∀ x ∈ c.exceptionTable.toList, False) {sa : Nat → Nat} (hTX : TX sa s) (hTZ : TZ (AN ad ids s.heap.size) s s.heap) (hM : XE D ad G ids (AN ad ids s.heap.size) s.heap H locs σ E) (hls : ls.size = nL) {cls : String} {ik is ic : Nat} {text : String}
    (hat : ∀ w ∈ vx_atS RX11 ic cls nmsE, w.before args s = true) (hk : Cond.classLink RX11 ik cls ∈ WA) (hi : Cond.initialized cls ∈ WA) (hot : ∀ w ∈ Cond.classLink RX11 ik cls :: Cond.initialized cls :: vx_atS RX11 ic cls nmsE, vx_ot w = true) (hfit : Bundle.fit cls = true) (hS : (is, text) ∈ STR) (hW : (rest.map fun v => v.category).sum ≤ 8)
    (d0 : decode cc pc = .ok (.new ik, 3)) (d3 : decode cc (pc + 3) = .ok (.dup, 1)) (d4 : decode cc (pc + 4) = .ok (.ldc is, 2)) (d6 : decode cc (pc + 6) = .ok (.invokespecial ic, 3)) (d9 : decode cc (pc + 9) = .ok (.athrow, 1)) (hR : 6 ≤ R.frames ∧ 100 ≤ R.locals ∧ 1 ≤ R.cells ∧ 6 ≤ R.slots) {Qc : Array Value → State → Outcome → State → Prop} {px : String → Sg → Prop} (hp : px cls σ) :
    W p l e R s m args below meth c H locs 0 0 (vx_MQ below Qc (XQ D ad G ids px s.heap.size) args s 1 6 (AN ad ids s.heap.size)) (F0 m pc ls rest) := by
  obtain ⟨hx, hb, hml, hown, hts, hK, hN, hlk⟩ := C
  have hsum : (rest.map fun v => v.category).sum + (13 * (nmsE.length + 1) + 43) ≤ R.locals := by
    have : nmsE.length = 2 := rfl
    omega
  refine vx_throwS (names := nmsE) (own := RX11) (cls := cls) (text := text) (ik := ik) (is := is) (ic := ic) (sa := sa is) hx hb hst hown hfit (by decide +kernel) (hts _ hk) (hts _ hi) (hTX.2 _ hS) hat hot hTZ.1 hTZ.2 hM.2.2.1 (hls.trans hml.symm) d0 d3 d4 d6 d9 (fun x hx => (hnx x hx).elim) (by have : nmsE.length = 2 := rfl; omega) hsum (by omega) (by omega) hlk (fun t hvm hz hk => ?_) hM.2.2.1.2.2 (Nat.le_refl _) (Nat.le_refl _)
  refine ⟨(cls, σ), hp, ⟨rfl, hM.x.1.kept (fun k q hq => hk q.1 ((hM.x.1 k q hq).lt))⟩, Nat.le_trans hM.2.2.1.1 hz, fun q h1 h2 => ?_⟩
  rw [hk q (Nat.lt_of_lt_of_le h1 hM.2.2.1.1)]
  exact hM.2.2.1.2.1 q h1 h2
theorem x_throwW (C : Cx p s m meth c args cc nL RX11 D G) (hst : l.stackTraces = false) (hnx : ∀ x ∈ c.exceptionTable.toList, False) {sa : Nat → Nat} (hTX : TX sa s) (hTZ : TZ (AN ad ids s.heap.size) s s.heap) (hM : XE D ad G ids (AN ad ids s.heap.size) s.heap H locs σ E) (hls : ls.size = nL) {cls : String} {ik is ic : Nat} {text : String}
    (hat : ∀ w ∈ vx_atS RX11 ic cls nmsE, w.before args s = true) (hk : Cond.classLink RX11 ik cls ∈ WA) (hi : Cond.initialized cls ∈ WA) (hot : ∀ w ∈ Cond.classLink RX11 ik cls :: Cond.initialized cls :: vx_atS RX11 ic cls nmsE, vx_ot w = true) (hfit : Bundle.fit cls = true) (hS : (is, text) ∈ STR) (hW : (rest.map fun v => v.category).sum ≤ 8)
    (d0 : decode cc pc = .ok (.new ik, 3)) (d3 : decode cc (pc + 3) = .ok (.dup, 1)) (d4 : decode cc (pc + 4) = .ok (.ldc_w is, 3)) (d7 : decode cc (pc + 7) = .ok (.invokespecial ic, 3)) (d10 : decode cc (pc + 10) = .ok (.athrow, 1)) (hR : 6 ≤ R.frames ∧ 100 ≤ R.locals ∧ 1 ≤ R.cells ∧ 6 ≤ R.slots) {Qc : Array Value → State → Outcome → State → Prop} {px : String → Sg → Prop} (hp : px cls σ) :
    W p l e R s m args below meth c H locs 0 0 (vx_MQ below Qc (XQ D ad G ids px s.heap.size) args s 1 6 (AN ad ids s.heap.size)) (F0 m pc ls rest) := by
  obtain ⟨hx, hb, hml, hown, hts, hK, hN, hlk⟩ := C
  have hsum : (rest.map fun v => v.category).sum + (13 * (nmsE.length + 1) + 43) ≤ R.locals := by
    have : nmsE.length = 2 := rfl
    omega
  refine vx_throwSW (names := nmsE) (own := RX11) (cls := cls) (text := text) (ik := ik) (is := is) (ic := ic) (sa := sa is) hx hb hst hown hfit (by decide +kernel) (hts _ hk) (hts _ hi) (hTX.2 _ hS) hat hot hTZ.1 hTZ.2 hM.2.2.1 (hls.trans hml.symm) d0 d3 d4 d7 d10 (fun x hx => (hnx x hx).elim) (by have : nmsE.length = 2 := rfl; omega) hsum (by omega) (by omega) hlk (fun t hvm hz hk => ?_) hM.2.2.1.2.2 (Nat.le_refl _) (Nat.le_refl _)
  refine ⟨(cls, σ), hp, ⟨rfl, hM.x.1.kept (fun k q hq => hk q.1 ((hM.x.1 k q hq).lt))⟩, Nat.le_trans hM.2.2.1.1 hz, fun q h1 h2 => ?_⟩
  rw [hk q (Nat.lt_of_lt_of_le h1 hM.2.2.1.1)]
  exact hM.2.2.1.2.1 q h1 h2
end XTH
