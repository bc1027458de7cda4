/-! the law's cell of the script; its calls of cell and act -/
theorem c_L_cell (l : Launch) (D : va_G) (ad : Nat → Nat) (G : Nat → Nat) (σ : Sg) {b L : Nat} {xs : Nat → Int32} (k : Int) (hk : 0 ≤ k ∧ k ≤ 1000) (hL : L ≤ 260) : ∀ sz : Nat, Met l yL_cell (Cond.code yL_cell cL_cell 2 (some .int) :: WA) (rmh 1) (va_Pc [.ref b, .int (iI k)] (fun U => PB D ad G [] σ sz U ∧ va_X b L xs U U.heap ∧ b < sz)) (QI D ad G [] (fun z τ => IR z ∧ σ = τ) sz) 0 0 (AN ad [] sz) := by
  intro sz
  refine Met.ofW (cc := cL_cell) (maxL := 2) (ret := some .int) (by decide) rfl ?_
  intro p e s m args below meth c s₁ B hml hv
  obtain ⟨rfl, ⟨hsz, hP, ⟨hK, hN⟩, hD, hV⟩, hX, hbl⟩ := hv
  have hts := atoms_spec (ws := Cond.code yL_cell cL_cell 2 (some .int) :: WA) B.pre
  subst hsz
  rw [lg_entry_eq]
  have C : Cx p s m meth c ([Value.ref b, Value.int (iI k)]).toArray cL_cell 2 RL D G := ⟨B.exec, B.bytes, hml, findClass_of_methodNamed B.named, fun w hw => hts w (List.mem_cons_of_mem _ hw), hK, hN, B.notSynchronized⟩
  have hl : lv_has ((lg_sl [Value.ref b, Value.int (iI k)] ++ List.replicate (2 - (lg_sl [Value.ref b, Value.int (iI k)]).length) Slot.unset).toArray) 2 [(0, .ref b), (1, .int (iI k))] := lv_entry [Value.ref b, Value.int (iI k)] (n := 2) (Nat.le_of_ble_eq_true rfl)
  generalize ((lg_sl [Value.ref b, Value.int (iI k)] ++ List.replicate (2 - (lg_sl [Value.ref b, Value.int (iI k)]).length) Slot.unset).toArray) = ls at hl ⊢
  have hM : XI D ad G [] (AN ad [] s.heap.size) s.heap s.heap [] σ := ⟨hP, wd_self hD, va_S.rf, hV⟩
  have hA : ¬ AN ad [] s.heap.size b := by
    rintro (⟨q, hq, -⟩ | h)
    · cases hq
    · omega
  have fin : ∀ v : Int32, W p l e (rmh 1) s m ([Value.ref b, Value.int (iI k)]).toArray below meth c s.heap [] 0 0 (MQ below (QI D ad G [] (fun z τ => IR z ∧ σ = τ) s.heap.size) ([Value.ref b, Value.int (iI k)]).toArray s 0 0 (AN ad [] s.heap.size)) (F0 m 18 ls [.int v]) := by
    intro v
    obtain ⟨z, hz, rfl⟩ := iI_any v
    exact x_iret C B.returns hM ⟨hz, rfl⟩ dL_cell_18
  refine lv_iload_n C.1 C.2.1 dL_cell_0 rfl (lv_at hl 1 rfl) ?_
  refine lv_aload_n C.1 C.2.1 dL_cell_1 rfl (lv_at hl 0 rfl) ?_
  refine va_slen C.1 C.2.1 hX hbl hA va_S.rf dL_cell_2 ?_
  refine x_icmp_ge C (a := k) (b := (L : Int)) ⟨by omega, by omega⟩ ⟨by omega, by omega⟩ (tgt := 12) dL_cell_3 (by decide) (fun c3 => ?_) (fun c3 => ?_)
  · refine lv_ldc (v := iI 790386105) C.1 C.2.1 C.2.2.2.1 (C.2.2.2.2.1 _ wk_RL_8) dL_cell_12 ?_
    refine lv_iload_n C.1 C.2.1 dL_cell_14 rfl (lv_at hl 1 rfl) ?_
    refine lv_iconst (v := iI 3) C.1 C.2.1 dL_cell_15 (by decide) ?_
    refine x_iadd C dL_cell_16 ?_
    refine x_imul C dL_cell_17 ?_
    exact fin _
  · refine lv_aload_n C.1 C.2.1 dL_cell_6 rfl (lv_at hl 0 rfl) ?_
    refine lv_iload_n C.1 C.2.1 dL_cell_7 rfl (lv_at hl 1 rfl) ?_
    refine va_sld C.1 C.2.1 hX hbl hA va_S.rf (iI_in hk.1 (by omega) (by omega)) dL_cell_8 ?_
    refine lv_goto (tgt := 18) C.1 C.2.1 dL_cell_9 (by decide) ?_
    exact fin _
section XLC
variable {p : Program} {l : Launch} {e : Env} {R : Room} {s : State} {m : MethodId} {args : Array Value} {below : List Frame} {meth : Method} {c : Code} {H : Heap} {locs : List Loc} {cells slots : Nat} {Q : State → Prop}
variable {cc : ByteArray} {nL : Nat} {D : va_G} {ad : Nat → Nat} {G : Nat → Nat} {ids : List Nat} {σ : Sg} {pc : Nat} {ls : Array Slot} {rest : List Value}
theorem x_cell (C : Cx p s m meth c args cc nL RL D G) {b L : Nat} {xs : Nat → Int32} (hX : va_X b L xs s s.heap) (hbl : b < s.heap.size) (hL : L ≤ 260) (hM : XE D ad G ids (FA s) s.heap H locs σ []) (hR : 2 ≤ R.frames ∧ 80 ≤ R.locals) {k : Int} (hk : 0 ≤ k ∧ k ≤ 1000) (hls : ls.size = nL) (hW : (rest.map fun v => v.category).sum ≤ 8) (hdg : decode cc pc = .ok (.invokestatic 12, 3)) (hf : cells ≤ R.cells ∧ slots ≤ R.slots)
    (kk : ∀ (z : Int) (H1 : Heap) (locs1 : List Loc), XE D ad G ids (FA s) s.heap H1 locs1 σ [] → W p l e R s m args below meth c H1 locs1 cells slots Q (F0 m (pc + 3) ls (.int (iI z) :: rest))) : W p l e R s m args below meth c H locs cells slots Q (F0 m pc ls (.int (iI k) :: .ref b :: rest)) := by
  have hM0 : XE D ad G [] (FA s) s.heap H locs σ (WG ad G ids σ) := ⟨hM.x.1, hM.x.2.1, hM.x.2.2.1, fun k hk => absurd hk List.not_mem_nil⟩
  obtain ⟨hx, hb, hml, hown, hts, hK, hN, hlk⟩ := id C
  obtain ⟨⟨w1, w2, w4, w5⟩, hd, -⟩ := cw_RL_12
  have hg : GoodIn WA (wsS RL 12 yL_cell (Cond.code yL_cell cL_cell 2 (some .int) :: WA)) := by
    intro w hw
    unfold wsS at hw
    rcases List.mem_append.mp hw with hw | hw
    · simp only [List.mem_cons, List.not_mem_nil, or_false] at hw
      rcases hw with rfl | rfl | rfl
      · exact gin_one w1
      · exact gin_one w2
      · exact gin_one w4
    · exact gin_code w5 w hw
  have hS := hM.2.2.1
  have hXH : va_X b L xs s H := hX.kept (hS.2.1 b hbl (fun q => by unfold FA at q; omega))
  have hbd : FrameBlind (va_Pc [.ref b, .int (iI k)] (fun U => PB D ad G [] σ H.size U ∧ va_X b L xs U U.heap ∧ b < H.size)) := by
    intro a U g mk q
    obtain ⟨q0, q1, q2, q3⟩ := q
    have h1 := pb_blind (D := D) (ad := ad) (G := G) (ids := []) (σ := σ) (av := [.ref b, .int (iI k)]) (sz := H.size) a U g mk ⟨q0, q1⟩
    exact ⟨q0, h1.2, va_X.moved (u := U) (U := U.calling g mk a) (Vm.Alike.refl U.vm) q2, q3⟩
  have hrun := va_runS (p := p) (l := l) (e := e) (R := R) (below := below) (meth := meth) (H := H) (locs := locs) (cells := cells) (slots := slots) (g := F0 m pc ls (.int (iI k) :: .ref b :: rest)) (As := [.ref b, .int (iI k)]) (rest := rest) (nL := nL) (own := RL) ⟨hx, hb, hml, hown, hts⟩ (c_L_cell l D ad G σ (b := b) (L := L) (xs := xs) k hk hL H.size) (cwS 2 hts hg rfl rfl rfl hd ⟨hR.1, by show 8 + (2 + 11) + 40 * 1 ≤ R.locals; omega⟩)
    ⟨hbd, fun U hU hWm => ⟨rfl, (pb_at C hM0.x (av := [.ref b, .int (iI k)]) U hU hWm).2, by rw [hU]; exact hXH.moved hWm.alike, Nat.lt_of_lt_of_le hbl hS.1⟩⟩ rfl rfl hls rfl (lv_room hW) hdg hf
  refine x_ciA (mc := 0) (ms := 0) (fun q h => h) hrun hM0 (fun z σ1 H1 locs1 hp hM1 => ?_)
  obtain ⟨-, rfl⟩ := hp
  exact kk z H1 locs1 (XI.e ⟨hM1.1, hM1.2.1, hM1.2.2.1, hM.2.2.2⟩)
theorem x_actR (C : Cx p s m meth c args cc nL RL D G) {sa : Nat → Nat} (hNC : NCS s) (hTX : TX sa s) (hTZ : TZ (AN ad ids H.size) s H) {A : Nat → Prop} {H0 : Heap} {h' : Nat} (hh : h' + 1 ≤ R.frames ∧ 8 + (10 + 11) + 40 * h' ≤ R.locals) {As : List Value} {post : Int → Sg → Prop}
    (hc : AME l h' As D ad G ids σ sa post) (hM : XI D ad G ids A H0 H locs σ) (hn : As.length = 2) {st : List Value} (hst : st = As.reverse ++ rest) (hW : (rest.map fun v => v.category).sum ≤ 8) (hls : ls.size = nL)
    (hdg : decode cc pc = .ok (.invokestatic 18, 3)) (hf : cells + 2 ≤ R.cells ∧ slots + 12 ≤ R.slots) : va_Run p l e R s m args below meth c H locs cells slots 2 12 (F0 m pc ls st) rest (QI D ad G ids post H.size As.toArray) (AN ad ids H.size) := by
  obtain ⟨hx, hb, hml, hown, hts, hK, hN, hlk⟩ := id C
  have hg : GoodIn WA (va_wsS RL 18 yL_act (Cond.codeWith yL_act cL_act 10 (some .boolean) hL_act :: WA)) := by
    intro w hw
    unfold va_wsS at hw
    rcases List.mem_append.mp hw with hw | hw
    · simp only [List.mem_cons, List.not_mem_nil, or_false] at hw
      rcases hw with rfl | rfl | rfl
      · exact gin_one wm_RL_18
      · exact gin_one ws_L_act
      · exact gin_one wn_RL
    · rcases List.mem_cons.mp hw with rfl | hw
      · exact gin_one wc_L_act
      · exact gin_one hw
  exact vx_runSW (As := As) (rest := rest) (nL := nL) (own := RL) ⟨hx, hb, hml, hown, hts⟩ (hc H.size) (vx_cwSW 2 hts hg rfl rfl rfl ⟨by decide, by decide, by decide +kernel⟩ hh) ⟨pbw_blind, pbw_at C hM hNC hTX hTZ⟩ rfl hn hls hst (lv_room hW) hdg hf
end XLC
