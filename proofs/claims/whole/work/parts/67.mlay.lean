/-! the reference's lay, whole: the board's row is made anew -/
theorem va_D.rot {A : Nat → Prop} {w v : va_W} (h : va_D A (w ++ v)) : va_D A (v ++ w) := by
  have k1 : ∀ (i : Nat) (q : Nat × va_E), (v ++ w)[i]? = some q → (w ++ v)[if i < v.length then w.length + i else i - v.length]? = some q := by
    intro i q hq
    by_cases e : i < v.length
    · rw [if_pos e, List.getElem?_append_right (by omega), Nat.add_sub_cancel_left]
      rwa [List.getElem?_append_left e] at hq
    · rw [if_neg e]
      rw [List.getElem?_append_right (by omega)] at hq
      rw [List.getElem?_append_left (List.getElem?_eq_some_iff.mp hq).1]
      exact hq
  have k2 : ∀ (i : Nat) (q : Nat × va_E), (v ++ w)[i]? = some q → i < v.length + w.length := fun i q hq => by
    have := (List.getElem?_eq_some_iff.mp hq).1
    rwa [List.length_append] at this
  refine ⟨fun i j p q hi hj e => ?_, fun i q hi => h.2 _ q (k1 i q hi)⟩
  have h1 := h.1 _ _ p q (k1 i p hi) (k1 j q hj) e
  have h2 := k2 i p hi
  have h3 := k2 j q hj
  split at h1 <;> split at h1 <;> omega
theorem app_at2 {α : Type} (L : List α) (x y : α) : (L ++ [x] ++ [y])[L.length]? = some x := by
  rw [List.getElem?_append_left (by rw [List.length_append]; exact Nat.lt_succ_self _)]
  exact app_at L x
theorem app_set2 {α : Type} (L : List α) (x y z : α) : (L ++ [x] ++ [y]).set L.length z = L ++ [z] ++ [y] := by
  induction L with
  | nil => rfl
  | cons a L ih => show a :: ((L ++ [x] ++ [y]).set L.length z) = _; rw [ih]; rfl
def PLY (D : va_G) (ad : Nat → Nat) (G : Nat → Nat) (σ : Sg) (x : Value) (sz : Nat) : State → Prop := fun U =>
  U.heap.size = sz ∧ va_P D vwCl (WG ad G IM2 σ ++ [(ad 100, .inr (12, fsM ad σ x))]) U.heap ∧ (va_K D vwCl (tysX G) U ∧ NW U) ∧ va_D (fun _ => True) (WG ad G IM2 σ ++ [(ad 100, .inr (12, fsM ad σ x))])
abbrev QLY (D : va_G) (ad : Nat → Nat) (G : Nat → Nat) (σ' : Sg) (sz : Nat) : Array Value → State → Outcome → State → Prop :=
  va_Qv (S := Nat) (fun _ => True) (fun q t => va_P D vwCl (WG (va_up ad 101 q) G IM σ') t.heap ∧ va_D (AN ad (100 :: IM2) sz) (WG (va_up ad 101 q) G IM σ')) (AN ad (100 :: IM2) sz)
theorem lay_wg (ad : Nat → Nat) (G : Nat → Nat) (σ : Sg) (x : Value) (w h : Int) (q : Nat) (wh : Int) (hw : w * h = wh) : WG (va_up ad 101 q) G IM (lay0 σ w h) = [(ad 100, .inr (12, (((fsM ad σ x).set 1 (.int (iI w))).set 2 (.int (iI h))).set 3 (.ref q))), zI G q (wh + 1).toNat] ++ WG ad G IM2 σ := by
  rw [← lay0_wg ad G σ w h q]
  show (va_up ad 101 q 100, cell (va_up ad 101 q) G (lay0 σ w h) 100) :: (va_up ad 101 q 101, cell (va_up ad 101 q) G (lay0 σ w h) 101) :: WG (va_up ad 101 q) G IM2 (lay0 σ w h) = _
  have e1 : cell (va_up ad 101 q) G (lay0 σ w h) 101 = .inl (G 0, (wh + 1).toNat, .inl (fI (fun _ => 0))) := by
    rw [cx_101]
    have e2 : lay0 σ w h 202 0 * lay0 σ w h 203 0 = wh := hw
    rw [e2]
    congr 4
    funext j
    show iI (if (j : Int) = wh then 0 else 0) = iI 0
    split <;> rfl
  rw [e1]
  rfl
set_option maxRecDepth 100000 in
set_option maxHeartbeats 4000000 in
theorem c_X12_lay (l : Launch) (D : va_G) (ad : Nat → Nat) (G : Nat → Nat) (σ : Sg) (x : Value) (w h f : Int) (hw : 3 ≤ w ∧ w ≤ 5) (hh : 3 ≤ h ∧ h ≤ 5) (hf : 1 ≤ f ∧ 2 * f < h) (hT : TI (mw σ)) (sz : Nat) :
    Met l yX12_lay (Cond.code yX12_lay cX12_lay 5 none :: WA) (rma 4 1 26) (va_Pc [.ref (ad 100), .int (iI w), .int (iI h), .int (iI f)] (PLY D ad G σ x sz)) (QLY D ad G (laR (lay0 σ w h) (w * h) (f * w)) sz) 1 26 (AN ad (100 :: IM2) sz) := by
  obtain ⟨wh, hwh⟩ : ∃ wh, w * h = wh := ⟨_, rfl⟩
  obtain ⟨k, hk⟩ : ∃ k, f * w = k := ⟨_, rfl⟩
  have wb := wh_bd hw.1 hw.2 hh.1 hh.2
  have kb : 0 ≤ k ∧ 2 * k ≤ wh := by
    have h1 : 0 ≤ f * w := Int.mul_nonneg (by omega) (by omega)
    have h2 : 2 * f * w ≤ h * w := Int.mul_le_mul_of_nonneg_right (by omega) (by omega)
    rw [Int.mul_assoc, Int.mul_comm h w] at h2
    omega
  rw [hwh, hk]
  rw [hwh] at wb
  refine Met.ofW (cc := cX12_lay) (maxL := 5) (ret := none) (by decide) rfl ?_
  intro p e s m args below meth c s₁ B hml hv
  obtain ⟨rfl, hsz, hP, ⟨hK, hN⟩, hD⟩ := hv
  have hts := atoms_spec (ws := Cond.code yX12_lay cX12_lay 5 none :: WA) B.pre
  subst hsz
  rw [lg_entry_eq]
  have C : Cx p s m meth c [.ref (ad 100), .int (iI w), .int (iI h), .int (iI f)].toArray cX12_lay 5 RX12 D G := ⟨B.exec, B.bytes, hml, findClass_of_methodNamed B.named, fun w hw => hts w (List.mem_cons_of_mem _ hw), hK, hN, B.notSynchronized⟩
  have hr := B.returns
  have hA : ∀ q, s.heap.size ≤ q → AN ad (100 :: IM2) s.heap.size q := fun q h => Or.inr h
  have hM : XR D (AN ad (100 :: IM2) s.heap.size) s.heap s.heap [] (WG ad G IM2 σ ++ [(ad 100, .inr (12, fsM ad σ x))]) := by
    refine ⟨hP, ⟨hD.1, fun i q hq => ?_⟩, va_S.rf⟩
    rcases List.mem_append.mp (List.mem_of_getElem? hq) with h9 | h9
    · obtain ⟨k9, hk9, rfl⟩ := List.mem_map.mp h9
      exact Or.inl ⟨k9, List.mem_cons_of_mem _ hk9, rfl⟩
    · rw [List.mem_singleton.mp h9]
      exact Or.inl ⟨100, List.mem_cons_self, rfl⟩
  have hl := lv_entry ([.ref (ad 100), .int (iI w), .int (iI h), .int (iI f)]) (n := 5) (Nat.le_of_ble_eq_true rfl)
  generalize (lg_sl ([.ref (ad 100), .int (iI w), .int (iI h), .int (iI f)]) ++ List.replicate (5 - (lg_sl ([.ref (ad 100), .int (iI w), .int (iI h), .int (iI f)])).length) Slot.unset).toArray = ls at hl ⊢
  have hl : lv_has ls 5 [(0, .ref (ad 100)), (1, .int (iI w)), (2, .int (iI h)), (3, .int (iI f))] := hl
  refine lv_aload_n C.1 C.2.1 dX12_lay_0 rfl (lv_at hl 0 rfl) ?_
  refine lv_iload_n C.1 C.2.1 dX12_lay_1 rfl (lv_at hl 1 rfl) ?_
  refine r_put C hM (WG ad G IM2 σ).length (app_at _ _) rfl inWX12 tyX12 tyX12_ok nmX12 1 (by decide) wf_X12_67 rfl (ty := .int) (by decide +kernel) rfl rfl (Nat.le_of_ble_eq_true rfl) dX12_lay_2 (fun H1 lc1 hM => ?_)
  rw [app_set] at hM
  refine lv_aload_n C.1 C.2.1 dX12_lay_5 rfl (lv_at hl 0 rfl) ?_
  refine lv_iload_n C.1 C.2.1 dX12_lay_6 rfl (lv_at hl 2 rfl) ?_
  refine r_put C hM (WG ad G IM2 σ).length (app_at _ _) rfl inWX12 tyX12 tyX12_ok nmX12 2 (by decide) wf_X12_70 rfl (ty := .int) (by decide +kernel) rfl rfl (Nat.le_of_ble_eq_true rfl) dX12_lay_7 (fun H1 lc1 hM => ?_)
  rw [app_set] at hM
  refine lv_aload_n C.1 C.2.1 dX12_lay_10 rfl (lv_at hl 0 rfl) ?_
  refine lv_aload_n C.1 C.2.1 dX12_lay_11 rfl (lv_at hl 0 rfl) ?_
  refine r_get C hM (WG ad G IM2 σ).length (app_at _ _) rfl inWX12 1 (by decide) wf_X12_67 (v := .int (iI w)) rfl dX12_lay_12 ?_
  refine lv_aload_n C.1 C.2.1 dX12_lay_15 rfl (lv_at hl 0 rfl) ?_
  refine r_get C hM (WG ad G IM2 σ).length (app_at _ _) rfl inWX12 2 (by decide) wf_X12_70 (v := .int (iI h)) rfl dX12_lay_16 ?_
  refine x_imul C dX12_lay_19 ?_
  refine lv_iconst (v := iI 1) C.1 C.2.1 dX12_lay_20 (by decide) ?_
  refine x_iadd C dX12_lay_21 ?_
  rw [hwh]
  have hnn : (wh + 1).toNat ≤ 26 := by omega
  refine r_newI C hA hM (wh + 1).toNat (by omega) (by omega) (Nat.le_of_ble_eq_true rfl) (by show 0 + (wh + 1).toNat ≤ 26; omega) dX12_lay_22 (fun q H1 hM => ?_)
  refine r_put C hM (WG ad G IM2 σ).length (app_at2 _ _ _) rfl inWX12 tyX12 tyX12_ok nmX12 3 (by decide) wf_X12_73 rfl (v := .ref q) (ty := .array .int) (by decide +kernel) rfl rfl (Nat.le_of_ble_eq_true rfl) dX12_lay_24 (fun H1 lc1 hM => ?_)
  rw [app_set2, List.append_assoc] at hM
  have hM2 : XE D (va_up ad 101 q) G IM (AN ad (100 :: IM2) s.heap.size) s.heap H1 lc1 (lay0 σ w h) [] := by
    refine XI.e ⟨?_, ?_, hM.2.2, fun k hk => Or.inr (Or.inl (IM_mem.mp hk))⟩
    · rw [lay_wg ad G σ x w h q wh hwh]
      exact (hM.1.right).app (hM.1.left)
    · rw [lay_wg ad G σ x w h q wh hwh]
      exact hM.2.1.rot
  have hn0 : 0 + (wh + 1).toNat = (wh + 1).toNat := Nat.zero_add _
  rw [hn0]
  refine lay_rest hnn C hA (fun k a b => IM_mem.mpr ⟨a, b⟩) hM2 hl (wh := wh) (k := k) hwh hk (by omega) kb (hT.of (fun r hr => lay0_o σ w h (by omega))) (fun H2 lc2 ls2 hM => ?_)
  refine W.widen (k := 1) (n := 26) (Nat.le_refl _) hnn ?_
  have hM := hM.x
  exact W.vret C.1 C.2.1 hr (fun t ht hW => ⟨⟨q, rfl, trivial, ⟨by rw [ht]; exact hM.1, hM.2.1⟩⟩, hM.2.2.1.F ht⟩) hM.2.2.1.2.2 dX12_lay_89 C.2.2.2.2.2.2.2
