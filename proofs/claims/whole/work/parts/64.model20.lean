def effD (no cu : Int) : UInt64 := if iI cu = 0 then FP.dconst0 else FP.ddiv (FP.i2d (iI no)) (FP.i2d (iI cu))
abbrev QD (D : va_G) (ad : Nat → Nat) (G : Nat → Nat) (ids : List Nat) (post : UInt64 → Sg → Prop) (sz : Nat) : Array Value → State → Outcome → State → Prop :=
  va_Qd (fun r (u : UInt64 × Sg) => r = u.1 ∧ post u.1 u.2) (fun u t => va_P D vwCl (WG ad G ids u.2) t.heap) (AN ad ids sz)
section XDD
variable {p : Program} {l : Launch} {e : Env} {R : Room} {s : State} {m : MethodId} {args : Array Value} {below : List Frame} {meth : Method} {c : Code} {H : Heap} {locs : List Loc} {cells slots mc ms : Nat} {Q : State → Prop}
variable {cc : ByteArray} {nL : Nat} {own : String} {D : va_G} {ad : Nat → Nat} {G : Nat → Nat} {ids : List Nat} {A : Nat → Prop} {H0 : Heap} {σ : Sg} {E : va_W} {pc : Nat} {ls : Array Slot} {rest : List Value}
theorem x_dret (C : Cx p s m meth c args cc nL own D G) (hr : meth.sig.returnType = some .double) (hM : XI D ad G ids (AN ad ids s.heap.size) s.heap H locs σ) {z : UInt64} {post : UInt64 → Sg → Prop} (hp : post z σ) (hdg : decode cc pc = .ok (.dreturn, 1)) : W p l e R s m args below meth c H locs cells slots (MQ below (QD D ad G ids post s.heap.size) args s cells slots (AN ad ids s.heap.size)) (F0 m pc ls [.double z]) :=
  W.dret C.1 C.2.1 hr (fun t ht hW => ⟨⟨z, (z, σ), rfl, ⟨rfl, hp⟩, by show va_P D vwCl (WG ad G ids σ) t.heap; rw [ht]; exact hM.1⟩, hM.2.2.1.F ht⟩) hM.2.2.1.2.2 hdg C.2.2.2.2.2.2.2
theorem x_cdA (hA : ∀ q, H0.size ≤ q → A q) {st0 : List Value} {a : Array Value} {post : UInt64 → Sg → Prop} (hr : va_Run p l e R s m args below meth c H locs cells slots mc ms (F0 m pc ls st0) rest (QD D ad G ids post H.size a) (AN ad ids H.size)) (hM : XE D ad G ids A H0 H locs σ E)
    (kk : ∀ (z : UInt64) (σ1 : Sg) (H1 : Heap) (locs1 : List Loc), post z σ1 → XE D ad G ids A H0 H1 locs1 σ1 E → W p l e R s m args below meth c H1 locs1 (cells + mc) (slots + ms) Q (F0 m (pc + 3) ls (.double z :: rest))) : W p l e R s m args below meth c H locs cells slots Q (F0 m pc ls st0) := by
  refine va_calld hr hM.2.2.1 (fun q _ h => an_in hM.x hA q h) (fun q h => an_in hM.x hA q h) (fun r u t H1 locs1 ht hvm hp hB hz hk hS => ?_)
  obtain ⟨rfl, hp⟩ := hp
  rw [ht] at hB
  exact kk u.1 u.2 H1 locs1 hp (hM.call hB hk hS)
end XDD
set_option maxRecDepth 100000 in
set_option maxHeartbeats 4000000 in
theorem c_X12_effort (l : Launch) (D : va_G) (ad : Nat → Nat) (G : Nat → Nat) (ids : List Nat) (hJ : ∀ k, 100 ≤ k → k < 233 → k ∈ ids) (σ : Sg)   : MET l yX12_effort cX12_effort 1 (some .double) 1 [.ref (ad 100)] D ad G ids σ (QD D ad G ids (fun z σ' => effD (σ 221 0) (σ 223 0) = z ∧ th σ 0 = σ')) := by
  refine x_enter (by decide) (Nat.le_of_ble_eq_true rfl) ?_
  intro pp ee ss mm args below meth cq C hr ls hl hM
  have hl : lv_has ls 1 [(0, .ref (ad 100))] := hl
  refine lv_aload_n C.1 C.2.1 dX12_effort_0 rfl (lv_at hl 0 rfl) ?_
  refine lv_iconst (v := iI 0) C.1 C.2.1 dX12_effort_1 (by decide) ?_
  refine p_X12_0 C hM (hJ 100 (by decide) (by decide)) wf_X12_64 dX12_effort_2 (fun H1 lc1 hM => ?_)
  refine lv_aload_n C.1 C.2.1 dX12_effort_5 rfl (lv_at hl 0 rfl) ?_
  refine g_X12_18 C hM (hJ 100 (by decide) (by decide)) wf_X12_198 dX12_effort_6 ?_
  rw [upr_ne _ _ (show (223 : Nat) ≠ 232 by omega)]
  refine lv_if_ne (tgt := 16) C.1 C.2.1 dX12_effort_9 (by decide) (fun c9 => ?_) (fun c9 => ?_)
  · refine lv_aload_n C.1 C.2.1 dX12_effort_16 rfl (lv_at hl 0 rfl) ?_
    refine g_X12_16 C hM (hJ 100 (by decide) (by decide)) wf_X12_169 dX12_effort_17 ?_
    rw [upr_ne _ _ (show (221 : Nat) ≠ 232 by omega)]
    refine lv_i2d C.1 C.2.1 dX12_effort_20 ?_
    refine lv_aload_n C.1 C.2.1 dX12_effort_21 rfl (lv_at hl 0 rfl) ?_
    refine g_X12_18 C hM (hJ 100 (by decide) (by decide)) wf_X12_198 dX12_effort_22 ?_
    rw [upr_ne _ _ (show (223 : Nat) ≠ 232 by omega)]
    refine lv_i2d C.1 C.2.1 dX12_effort_25 ?_
    refine lv_ddiv C.1 C.2.1 dX12_effort_26 (ddiv_n _ _ (by assumption)) ?_
    refine x_dret C hr hM ?_ dX12_effort_27
    exact ⟨by
      unfold effD
      first | exact if_neg c9 | exact if_pos c9, rfl⟩
  · refine lv_dconst0 C.1 C.2.1 dX12_effort_12 ?_
    refine lv_goto (tgt := 27) C.1 C.2.1 dX12_effort_13 (by decide) ?_
    refine x_dret C hr hM ?_ dX12_effort_27
    exact ⟨by
      unfold effD
      first | exact if_neg c9 | exact if_pos c9, rfl⟩
