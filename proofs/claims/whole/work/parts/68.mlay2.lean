/-! calling lay; ends where the board's row may be another -/
theorem va_D.skip {A : Nat → Prop} {a b : Nat × va_E} {w : va_W} (h : va_D A (a :: b :: w)) : va_D A (a :: w) := by
  have k1 : ∀ (i : Nat) (q : Nat × va_E), (a :: w)[i]? = some q → (a :: b :: w)[if i = 0 then 0 else i + 1]? = some q := by
    intro i q hq
    match i with
    | 0 => exact hq
    | i + 1 => exact hq
  refine ⟨fun i j p q hi hj e => ?_, fun i q hi => h.2 _ q (k1 i q hi)⟩
  have h1 := h.1 _ _ p q (k1 i p hi) (k1 j q hj) e
  split at h1 <;> split at h1 <;> omega
theorem ply_blind {D : va_G} {ad : Nat → Nat} {G : Nat → Nat} {σ : Sg} {x : Value} {av : List Value} {sz : Nat} : FrameBlind (va_Pc av (PLY D ad G σ x sz)) := by
  intro a U g mk q
  obtain ⟨q0, q1, qP, ⟨qK, qN⟩, qD⟩ := q
  exact ⟨q0, q1, qP, ⟨va_K.moved (u := U) (U := U.calling g mk a) (Vm.Alike.refl U.vm) qK, NW_vm (s := U) (U := U.calling g mk a) rfl qN⟩, qD⟩
theorem wg_im (ad : Nat → Nat) (G : Nat → Nat) (σ : Sg) : WG ad G IM σ = (ad 100, .inr (12, fsM ad σ (.ref (ad 101)))) :: (ad 101, cell ad G σ 101) :: WG ad G IM2 σ := rfl
theorem up_self (ad : Nat → Nat) (k : Nat) : va_up ad k (ad k) = ad := by
  funext j
  unfold va_up
  split
  · next h => rw [h]
  · rfl
abbrev QIX (D : va_G) (ad : Nat → Nat) (G : Nat → Nat) (post : Int → Sg → Prop) (sz : Nat) : Array Value → State → Outcome → State → Prop :=
  va_Qi (S := Int × Sg × Nat) (fun r u => r = iI u.1 ∧ post u.1 u.2.1) (fun u t => va_P D vwCl (WG (va_up ad 101 u.2.2) G IM u.2.1) t.heap ∧ va_D (AN ad IM sz) (WG (va_up ad 101 u.2.2) G IM u.2.1)) (AN ad IM sz)
section XLA
variable {p : Program} {l : Launch} {e : Env} {R : Room} {s : State} {m : MethodId} {args : Array Value} {below : List Frame} {meth : Method} {c : Code} {H : Heap} {locs : List Loc} {cells slots mc ms : Nat} {Q : State → Prop}
variable {cc : ByteArray} {nL : Nat} {own : String} {D : va_G} {ad : Nat → Nat} {G : Nat → Nat} {A : Nat → Prop} {H0 : Heap} {σ : Sg} {E : va_W} {pc : Nat} {ls : Array Slot} {rest : List Value}
theorem x_layA (C : Cx p s m meth c args cc nL RX12 D G) (hA : ∀ q, H0.size ≤ q → A q) (hh : 4 + 1 ≤ R.frames ∧ 8 + (5 + 11) + 160 ≤ R.locals) (hM : XE D ad G IM A H0 H locs σ []) {w h f : Int} (hw : 3 ≤ w ∧ w ≤ 5) (hh2 : 3 ≤ h ∧ h ≤ 5) (hf2 : 1 ≤ f ∧ 2 * f < h) (hT : TI (mw σ)) {idx : Nat} (cw : CWd RX12 idx yX12_lay cX12_lay 5 none 3) (hW : (rest.map fun v => v.category).sum ≤ 8) (hls : ls.size = nL) (hdg : decode cc pc = .ok (.invokevirtual idx, 3)) (hf : cells + 1 ≤ R.cells ∧ slots + 26 ≤ R.slots)
    (kk : ∀ (q : Nat) (H1 : Heap) (locs1 : List Loc), XE D (va_up ad 101 q) G IM A H0 H1 locs1 (laR (lay0 σ w h) (w * h) (f * w)) [] → W p l e R s m args below meth c H1 locs1 (cells + 1) (slots + 26) Q (F0 m (pc + 3) ls rest)) : W p l e R s m args below meth c H locs cells slots Q (F0 m pc ls (.int (iI f) :: .int (iI h) :: .int (iI w) :: .ref (ad 100) :: rest)) := by
  obtain ⟨hx, hb, hml, hown, hts, hK, hN, hlk⟩ := id C
  obtain ⟨⟨w1, w2, w3, w4, w5⟩, hd, hL⟩ := cw
  have hg : GoodIn WA (wsV RX12 idx yX12_lay.cls yX12_lay (Cond.code yX12_lay cX12_lay 5 none :: WA)) := by
    intro w hw
    unfold wsV at hw
    rcases List.mem_append.mp hw with hw | hw
    · simp only [List.mem_cons, List.not_mem_nil, or_false] at hw
      rcases hw with rfl | rfl | rfl | rfl
      · exact gin_one w1
      · exact gin_one w2
      · exact gin_one w3
      · exact gin_one w4
    · exact gin_code w5 w hw
  have hX := hM.x
  have hP := hX.1
  have hD := hX.2.1
  rw [wg_im] at hP hD
  have h2 : (WG ad G IM σ)[0]? = some (ad 100, .inr (12, fsM ad σ (.ref (ad 101)))) := rfl
  have hrc := va_recv (q := (RX12, TX12, 26)) hK hX.1 rfl h2
  have hpre : ∀ U : State, U.heap = H → s.WarmedH U.vm → va_Pc (.ref (ad 100) :: [.int (iI w), .int (iI h), .int (iI f)]) (PLY D ad G σ (.ref (ad 101)) H.size) (Value.ref (ad 100) :: [.int (iI w), .int (iI h), .int (iI f)]).toArray U := by
    intro U hU hWm
    refine ⟨rfl, by rw [hU], ?_, ⟨va_K.moved hWm.alike hK, NW_warm hWm hN⟩, ?_⟩
    · rw [hU]
      refine hP.mem (fun x hx => ?_)
      rcases List.mem_append.mp hx with h9 | h9
      · exact List.mem_cons_of_mem _ (List.mem_cons_of_mem _ h9)
      · rw [List.mem_singleton.mp h9]; exact List.mem_cons_self
    · exact va_D.rot (w := [(ad 100, .inr (12, fsM ad σ (.ref (ad 101))))]) ((hD.skip).weaken (fun _ _ _ _ => trivial))
  have hin : ∀ q, AN ad (100 :: IM2) H.size q → A q := by
    rintro q (⟨k, hk, rfl⟩ | h9)
    · refine an_in hX hA _ (Or.inl ⟨k, ?_, rfl⟩)
      rcases List.mem_cons.mp hk with rfl | hk
      · exact List.mem_cons_self
      · exact List.mem_cons_of_mem _ (List.mem_cons_of_mem _ hk)
    · exact hA q (Nat.le_trans hX.2.2.1.1 h9)
  have hr : va_Run p l e R s m args below meth c H locs cells slots 1 26 (F0 m pc ls (.int (iI f) :: .int (iI h) :: .int (iI w) :: .ref (ad 100) :: rest)) rest (QLY D ad G (laR (lay0 σ w h) (w * h) (f * w)) H.size (Value.ref (ad 100) :: [.int (iI w), .int (iI h), .int (iI f)]).toArray) (AN ad (100 :: IM2) H.size) := va_runV (As := [.int (iI w), .int (iI h), .int (iI f)]) (rest := rest) (nL := nL) (own := RX12) (C := yX12_lay.cls) ⟨hx, hb, hml, hown, hts⟩ (c_X12_lay l D ad G σ (.ref (ad 101)) w h f hw hh2 hf2 hT H.size) (cwV 3 hts hg rfl rfl rfl ⟨rfl, hd⟩ hh) ⟨ply_blind, hrc, hpre⟩ rfl rfl hls rfl (lv_room hW) hdg hf
  refine va_callv hr hX.2.2.1 (fun q _ h => hin q h) hin (fun q t H1 locs1 ht hvm hp hB hz hk hS => ?_)
  rw [ht] at hB
  exact kk q H1 locs1 (XI.e ⟨hB.1, hB.2.weaken (fun _ x _ hx => hin x.1 hx), hS, hX.2.2.2⟩)
theorem x_iretX (C : Cx p s m meth c args cc nL own D G) (hr : meth.sig.returnType = some .int) {q : Nat} (hM : XE D (va_up ad 101 q) G IM (AN ad IM s.heap.size) s.heap H locs σ []) {z : Int} {post : Int → Sg → Prop} (hp : post z σ) (hdg : decode cc pc = .ok (.ireturn, 1)) : W p l e R s m args below meth c H locs cells slots (MQ below (QIX D ad G post s.heap.size) args s cells slots (AN ad IM s.heap.size)) (F0 m pc ls [.int (iI z)]) :=
  W.iret C.1 C.2.1 hr (fun t ht hW => ⟨⟨iI z, (z, σ, q), rfl, ⟨rfl, hp⟩, by rw [ht]; exact hM.x.1, hM.x.2.1⟩, hM.2.2.1.F ht⟩) hM.2.2.1.2.2 hdg C.2.2.2.2.2.2.2
theorem x_iretX0 (C : Cx p s m meth c args cc nL own D G) (hr : meth.sig.returnType = some .int) (hM : XE D ad G IM (AN ad IM s.heap.size) s.heap H locs σ []) {z : Int} {post : Int → Sg → Prop} (hp : post z σ) (hdg : decode cc pc = .ok (.ireturn, 1)) : W p l e R s m args below meth c H locs cells slots (MQ below (QIX D ad G post s.heap.size) args s cells slots (AN ad IM s.heap.size)) (F0 m pc ls [.int (iI z)]) :=
  x_iretX (q := ad 101) C hr (by rw [up_self]; exact hM) hp hdg
end XLA
