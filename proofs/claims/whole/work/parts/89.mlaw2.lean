/-! the law's body: two worlds side by side, the script, calls of the wrappers -/
def FA (s : State) : Nat → Prop := fun q => s.heap.size ≤ q
def xv (xs : Nat → Int32) (z : Int) : Int := (xs z.toNat).toInt
theorem xv_IR (xs : Nat → Int32) (z : Int) : IR (xv xs z) := by
  have h2 := Int32.le_toInt (xs z.toNat)
  have h3 := Int32.toInt_lt (xs z.toNat)
  unfold IR xv
  omega
theorem xv_I (xs : Nat → Int32) (z : Int) : iI (xv xs z) = xs z.toNat := Int32.ofInt_toInt _
theorem XE.swap {D : va_G} {ad ad2 : Nat → Nat} {G : Nat → Nat} {ids ids2 : List Nat} {A : Nat → Prop} {H0 H : Heap} {locs : List Loc} {σ τ : Sg} (h : XE D ad G ids A H0 H locs σ (WG ad2 G ids2 τ)) (hv : ∀ k, k ∈ ids2 → vld k) : XE D ad2 G ids2 A H0 H locs τ (WG ad G ids σ) :=
  ⟨h.1.right.app h.1.left, h.2.1.rot, h.2.2.1, hv⟩
theorem IL_vld : ∀ k, k ∈ IL → vld k := fun k hk => (IL_cases hk).elim (fun h => Or.inl h) (fun h => Or.inr (Or.inr h))
theorem IM_vld : ∀ k, k ∈ IM → vld k := fun k hk => Or.inr (Or.inl (IM_mem.mp hk))
theorem IM_h : ∀ k, 100 ≤ k → k < 233 → k ∈ IM := fun k h1 h2 => IM_mem.mpr ⟨h1, h2⟩
theorem IL_h : ∀ k, k < 81 → k ∈ IL := fun k h => IL_c h
def LC (p : Program) (s : State) (m : MethodId) (meth : Method) (c : Code) (b L : Nat) (xs : Nat → Int32) (D : va_G) (G : Nat → Nat) (sa : Nat → Nat) : Prop :=
  Cx p s m meth c #[.ref b] cL_law 9 RL D G ∧ NCS s ∧ TX sa s ∧ TZ (FA s) s s.heap ∧ va_X b L xs s s.heap ∧ b < s.heap.size ∧ L ≤ 2048
theorem tz_at {s : State} {D : va_G} {ad : Nat → Nat} {G : Nat → Nat} {ids : List Nat} {H : Heap} {locs : List Loc} {σ : Sg} {E : va_W} (hT : TZ (FA s) s s.heap) (hM : XE D ad G ids (FA s) s.heap H locs σ E) : TZ (AN ad ids H.size) s H :=
  (hT.kept (fun a h1 h2 => hM.2.2.1.2.1 a h1 h2)).narrow (an_in hM.x (fun _ h => h))
/-- the words of a call of a wrapper -/
def CWw (own : String) (idx : Nat) (y : MethodName) (b : ByteArray) (nL : Nat) (hh : List (Nat × Nat × Nat × Nat)) (n : Nat) : Prop :=
  (Cond.methodLink own idx y ∈ WA ∧ Cond.static y ∈ WA ∧ Cond.initialized y.cls ∈ WA ∧ Cond.codeWith y b nL (some .int) hh ∈ WA) ∧ (y.cls ≠ "java/lang/invoke/MethodHandle" ∧ y.cls ≠ "java/lang/invoke/VarHandle" ∧ (parseMethodDescriptor y.desc).map (fun d => d.parameters.length) = some n) ∧ nL ≤ 21
section XLW
variable {p : Program} {l : Launch} {e : Env} {R : Room} {s : State} {m : MethodId} {args : Array Value} {below : List Frame} {meth : Method} {c : Code} {H : Heap} {locs : List Loc} {cells slots mc ms : Nat} {Q : State → Prop}
variable {cc : ByteArray} {nL : Nat} {own : String} {D : va_G} {ad : Nat → Nat} {G : Nat → Nat} {ids : List Nat} {A : Nat → Prop} {H0 : Heap} {σ : Sg} {E : va_W} {pc : Nat} {ls : Array Slot} {rest : List Value}
theorem x_wr (C : Cx p s m meth c args cc nL own D G) {sa : Nat → Nat} (hNC : NCS s) (hTX : TX sa s) (hTZ : TZ (AN ad ids H.size) s H) {h' idx n nL' : Nat} (hh : h' + 1 ≤ R.frames ∧ 8 + (nL' + 11) + 40 * h' ≤ R.locals) {y : MethodName} {b : ByteArray} {hw : List (Nat × Nat × Nat × Nat)} {As : List Value} {post : Int → Sg → Prop} (cw : CWw own idx y b nL' hw n)
    (hc : WME l y b nL' hw h' As D ad G ids σ sa post) (hM : XI D ad G ids A H0 H locs σ) (hn : As.length = n) {st : List Value} (hst : st = As.reverse ++ rest) (hW : (rest.map fun v => v.category).sum ≤ 8) (hls : ls.size = nL)
    (hdg : decode cc pc = .ok (.invokestatic idx, 3)) (hf : cells + 1 ≤ R.cells ∧ slots + 6 ≤ R.slots) : va_Run p l e R s m args below meth c H locs cells slots 1 6 (F0 m pc ls st) rest (QI D ad G ids post H.size As.toArray) (AN ad ids H.size) := by
  obtain ⟨hx, hb, hml, hown, hts, hK, hN, hlk⟩ := id C
  obtain ⟨⟨w1, w2, w4, w5⟩, hd, hL⟩ := cw
  have hg : GoodIn WA (va_wsS own idx y (Cond.codeWith y b nL' (some .int) hw :: WA)) := by
    intro w hw
    unfold va_wsS at hw
    rcases List.mem_append.mp hw with hw | hw
    · simp only [List.mem_cons, List.not_mem_nil, or_false] at hw
      rcases hw with rfl | rfl | rfl
      · exact gin_one w1
      · exact gin_one w2
      · exact gin_one w4
    · rcases List.mem_cons.mp hw with rfl | hw
      · exact gin_one w5
      · exact gin_one hw
  exact vx_runSW (As := As) (rest := rest) (nL := nL) (own := own) ⟨hx, hb, hml, hown, hts⟩ (hc H.size) (vx_cwSW n hts hg rfl rfl rfl hd hh) ⟨pbw_blind, pbw_at C hM hNC hTX hTZ⟩ rfl hn hls hst (lv_room hW) hdg hf
theorem x_ciX (hA : ∀ q, H0.size ≤ q → A q) {st0 : List Value} {a : Array Value} {post : Int → Sg → Prop} (hr : va_Run p l e R s m args below meth c H locs cells slots mc ms (F0 m pc ls st0) rest (QIX D ad G post H.size a) (AN ad IM H.size)) (hM : XE D ad G IM A H0 H locs σ E)
    (kk : ∀ (z : Int) (σ1 : Sg) (q : Nat) (H1 : Heap) (locs1 : List Loc), post z σ1 → XE D (va_up ad 101 q) G IM A H0 H1 locs1 σ1 E → W p l e R s m args below meth c H1 locs1 (cells + mc) (slots + ms) Q (F0 m (pc + 3) ls (.int (iI z) :: rest))) : W p l e R s m args below meth c H locs cells slots Q (F0 m pc ls st0) := by
  refine va_calli hr hM.2.2.1 (fun q _ h => an_in hM.x hA q h) (fun q h => an_in hM.x hA q h) (fun r u t H1 locs1 ht hvm hp hB hz hk hS => ?_)
  obtain ⟨rfl, hp⟩ := hp
  rw [ht] at hB
  have hE : ∀ (k : Nat) (q : Nat × va_E), E[k]? = some q → ¬ AN ad IM H.size q.1 := by
    intro k q hq
    rintro (⟨k', hk', e⟩ | h)
    · obtain ⟨i, hi⟩ := List.getElem?_of_mem hk'
      have h1 := wg_get ad G σ hi
      have hl := (List.getElem?_eq_some_iff.mp h1).1
      have h2 := hM.2.1.1 i ((WG ad G IM σ).length + k) _ q (by rw [List.getElem?_append_left hl]; exact h1) (by rw [List.getElem?_append_right (by omega), Nat.add_sub_cancel_left]; exact hq) e.symm
      omega
    · have := (hM.1.right k q hq).lt
      omega
  refine kk u.1 u.2.1 u.2.2 H1 locs1 hp ⟨hB.1.app (hM.1.right.kept (fun k q hq => hk q.1 ((hM.1.right k q hq).lt) (hE k q hq))), va_D.app ⟨hB.2.1, fun i q hq => an_in hM.x hA _ (hB.2.2 i q hq)⟩ ⟨fun i j p q hi hj e => ?_, fun i q hq => ?_⟩ ?_, hS, hM.2.2.2⟩
  · have h2 := hM.2.1.1 ((WG ad G IM σ).length + i) ((WG ad G IM σ).length + j) p q (by rw [List.getElem?_append_right (by omega), Nat.add_sub_cancel_left]; exact hi) (by rw [List.getElem?_append_right (by omega), Nat.add_sub_cancel_left]; exact hj) e
    omega
  · exact hM.2.1.2 ((WG ad G IM σ).length + i) q (by rw [List.getElem?_append_right (by omega), Nat.add_sub_cancel_left]; exact hq)
  · intro i j p q hi hj e
    have h1 := hB.2.2 i p hi
    rw [e] at h1
    exact hE j q hj h1
theorem x_icmp_refl (C : Cx p s m meth c args cc nL own D G) {x : Int32} {off : Int} {tgt : Nat} (hdg : decode cc pc = .ok (.if_icmp .eq off, 3)) (ht : (pc : Int) + off = (tgt : Int)) (kt : W p l e R s m args below meth c H locs cells slots Q (F0 m tgt ls rest)) : W p l e R s m args below meth c H locs cells slots Q (F0 m pc ls (.int x :: .int x :: rest)) := lv_icmp_eq C.1 C.2.1 hdg ht (fun _ => kt) (fun h => absurd rfl h)
theorem x_sld (C : Cx p s m meth c args cc nL own D G) {b L : Nat} {xs : Nat → Int32} (hX : va_X b L xs s s.heap) (hbl : b < s.heap.size) (hS : va_S (FA s) s.heap H locs) {z : Int} (h0 : 0 ≤ z) (h1 : z < L) (hL : L ≤ 2048) (hdg : decode cc pc = .ok (.iaload, 1))
    (kk : W p l e R s m args below meth c H locs cells slots Q (F0 m (pc + 1) ls (.int (iI (xv xs z)) :: rest))) : W p l e R s m args below meth c H locs cells slots Q (F0 m pc ls (.int (iI z) :: .ref b :: rest)) := by
  refine va_sld C.1 C.2.1 hX hbl (fun q => by unfold FA at q; omega) hS (iI_in h0 h1 (by omega)) hdg ?_
  rw [iI_clamp ⟨by omega, by omega⟩, ← xv_I xs z]
  exact kk
theorem x_slen (C : Cx p s m meth c args cc nL own D G) {b L : Nat} {xs : Nat → Int32} (hX : va_X b L xs s s.heap) (hbl : b < s.heap.size) (hS : va_S (FA s) s.heap H locs) (hdg : decode cc pc = .ok (.arraylength, 1))
    (kk : W p l e R s m args below meth c H locs cells slots Q (F0 m (pc + 1) ls (.int (iI L) :: rest))) : W p l e R s m args below meth c H locs cells slots Q (F0 m pc ls (.ref b :: rest)) := by
  refine va_slen C.1 C.2.1 hX hbl (fun q => by unfold FA at q; omega) hS hdg ?_
  exact kk
end XLW
theorem wpost_b {post : Int → Sg → Prop} {px : String → Sg → Prop} {cd : String → Int} {k : Int} {σ1 : Sg} (h : wpost post px cd k σ1) (hcd : ∀ E, 0 ≤ cd E ∧ cd E ≤ 3) : 0 ≤ k ∧ k ≤ 3 := by
  rcases h with ⟨rfl, -⟩ | ⟨E, -, rfl⟩
  · omega
  · exact hcd E
theorem cd1_b : ∀ E, 0 ≤ cd1 E ∧ cd1 E ≤ 3 := fun _ => show (0 : Int) ≤ 1 ∧ (1 : Int) ≤ 3 by decide
theorem cdP_b : ∀ E, 0 ≤ cdP E ∧ cdP E ≤ 3 := by
  intro E
  unfold cdP
  split
  · decide
  · split <;> decide
theorem cdS_b : ∀ E, 0 ≤ cdS E ∧ cdS E ≤ 3 := by
  intro E
  unfold cdS
  split <;> decide
