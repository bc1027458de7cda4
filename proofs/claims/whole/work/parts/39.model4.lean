def keM (σ : Sg) (key d b k v : Int) : Sg := if 0 < σ 209 0 then upr (upr (upr (upr (upr σ 210 (ups (σ 210) (key % σ 209 0) key)) 211 (ups (σ 211) (key % σ 209 0) d)) 212 (ups (σ 212) (key % σ 209 0) b)) 213 (ups (σ 213) (key % σ 209 0) k)) 214 (ups (σ 214) (key % σ 209 0) v) else σ
theorem mw_ke (σ : Sg) (key d b k v : Int) : mw (keM σ key d b k v) = stoT (mw σ) key d b k v := by
  unfold keM stoT
  by_cases h : 0 < σ 209 0
  · rw [if_pos h, if_pos (show 0 < mw σ 9 0 from h), mw_upr (r := 14), mw_upr (r := 13), mw_upr (r := 12), mw_upr (r := 11), mw_upr (r := 10)]
    rfl
  · rw [if_neg h, if_neg (show ¬ 0 < mw σ 9 0 from h)]
theorem keM_o {σ : Sg} {key d b k v : Int} {r : Nat} (h : ¬ (210 ≤ r ∧ r ≤ 214)) : keM σ key d b k v r = σ r := by
  unfold keM
  split
  · rw [upr_ne _ _ (by omega), upr_ne _ _ (by omega), upr_ne _ _ (by omega), upr_ne _ _ (by omega), upr_ne _ _ (by omega)]
  · rfl
def cuM (σ : Sg) (c : Fn) (d v : Int) : Sg := if c (v % 100) ≠ 0 then upr σ 223 (ups (σ 223) 0 (σ 223 0 + 1)) else if σ 217 d = v then upr σ 223 (ups (σ 223) 0 (σ 223 0 + 1)) else upr (upr (upr σ 223 (ups (σ 223) 0 (σ 223 0 + 1))) 218 (ups (σ 218) d (σ 217 d))) 217 (ups (σ 217) d v)
theorem mw_cu (σ : Sg) (c : Fn) (d v : Int) : mw (cuM σ c d v) = cutT (mw σ) c d v := by
  unfold cuM cutT noteT incT
  by_cases h : c (v % 100) ≠ 0
  · rw [if_pos h, if_pos h, mw_upr (r := 23)]; rfl
  · rw [if_neg h, if_neg h]
    have e : upr (mw σ) 23 (ups (mw σ 23) 0 (mw σ 23 0 + 1)) 17 = mw σ 17 := upr_ne _ _ (by decide)
    have e2 : upr (mw σ) 23 (ups (mw σ 23) 0 (mw σ 23 0 + 1)) 18 = mw σ 18 := upr_ne _ _ (by decide)
    rw [e, e2]
    by_cases q : σ 217 d = v
    · rw [if_pos q, if_pos (show mw σ 17 d = v from q), mw_upr (r := 23)]; rfl
    · rw [if_neg q, if_neg (show ¬ mw σ 17 d = v from q), mw_upr (r := 17), mw_upr (r := 18), mw_upr (r := 23)]; rfl
theorem cuM_o {σ : Sg} {c : Fn} {d v : Int} {r : Nat} (h : ¬ (r = 217 ∨ r = 218 ∨ r = 223)) : cuM σ c d v r = σ r := by
  unfold cuM
  split
  · exact upr_ne _ _ (by omega)
  · split
    · exact upr_ne _ _ (by omega)
    · rw [upr_ne _ _ (by omega), upr_ne _ _ (by omega), upr_ne _ _ (by omega)]
theorem not_in {A : List Int} {v : Int} (h : ∀ k : Nat, (k : Int) < A.length → A[k]? ≠ some v) : v ∉ A := by
  intro q
  obtain ⟨k, hk, e⟩ := List.mem_iff_getElem.mp q
  exact h k (by omega) (by rw [List.getElem?_eq_getElem hk, e])
theorem wnt_nd {L acc : List Int} {v : Int} (h : acc.Nodup) : (wnt L acc v).Nodup := by
  unfold wnt
  split
  · next q =>
    refine List.nodup_append.mpr ⟨h, List.nodup_cons.mpr ⟨List.not_mem_nil, List.nodup_nil⟩, fun x hx y hy => ?_⟩
    rw [List.mem_singleton.mp hy]
    intro e
    exact q.2 (e ▸ hx)
  · exact h
set_option maxRecDepth 100000 in
set_option maxHeartbeats 4000000 in
theorem c_X12_entriesNow (l : Launch) (D : va_G) (ad : Nat → Nat) (G : Nat → Nat) (ids : List Nat) (hJ : ∀ k, 100 ≤ k → k < 233 → k ∈ ids) (σ : Sg)  (hT : TI (mw σ)) : MET l yX12_entriesNow cX12_entriesNow 6 (some .int) 1 [.ref (ad 100)] D ad G ids σ (QI D ad G ids (fun z σ' => cntE (σ 211) 64 = z ∧ σ = σ')) := by
  have h9 : 0 ≤ σ 209 0 ∧ σ 209 0 ≤ 64 := hT.1
  refine x_enter (by decide) (Nat.le_of_ble_eq_true rfl) ?_
  intro pp ee ss mm args below meth cq C hr ls hl hM
  have hl : lv_has ls 6 [(0, .ref (ad 100))] := hl
  refine lv_iconst (v := iI 0) C.1 C.2.1 dX12_entriesNow_0 (by decide) ?_
  refine lv_istore_n (lv' := [(1, .int (iI 0)), (0, .ref (ad 100))]) C.1 C.2.1 dX12_entriesNow_1 rfl hl (by decide) rfl (fun ls hl => ?_)
  refine lv_aload_n C.1 C.2.1 dX12_entriesNow_2 rfl (lv_at hl 1 rfl) ?_
  refine g_X12_13 C hM (hJ 100 (by decide) (by decide)) wf_X12_39 dX12_entriesNow_3 ?_
  refine lv_astore_n (lv' := [(2, .ref (ad 117)), (1, .int (iI 0)), (0, .ref (ad 100))]) C.1 C.2.1 dX12_entriesNow_6 rfl hl (by decide) rfl (fun ls hl => ?_)
  refine lv_aload_n C.1 C.2.1 dX12_entriesNow_7 rfl (lv_at hl 0 rfl) ?_
  refine ln_117 C hM (hJ 117 (by decide) (by decide)) dX12_entriesNow_8 ?_
  refine lv_istore_n (lv' := [(3, .int (iI 64)), (2, .ref (ad 117)), (1, .int (iI 0)), (0, .ref (ad 100))]) C.1 C.2.1 dX12_entriesNow_9 rfl hl (by decide) rfl (fun ls hl => ?_)
  refine lv_iconst (v := iI 0) C.1 C.2.1 dX12_entriesNow_10 (by decide) ?_
  refine lv_istore (lv' := [(4, .int (iI 0)), (3, .int (iI 64)), (2, .ref (ad 117)), (1, .int (iI 0)), (0, .ref (ad 100))]) C.1 C.2.1 dX12_entriesNow_11 hl (by decide) rfl (fun ls hl => ?_)
  have L13 : ∀ (fu : Nat) (i : Int) (n : Int) (H1 : Heap) (lc1 : List Loc) (ls1 : Array Slot), (0 ≤ i ∧ i ≤ 64) → (n = cntE (σ 211) i.toNat) → (70 - i).toNat < fu → XI D ad G ids (AN ad ids ss.heap.size) ss.heap H1 lc1 σ → lv_has ls1 6 [(4, .int (iI i)), (3, .int (iI 64)), (2, .ref (ad 117)), (1, .int (iI n)), (0, .ref (ad 100))] → W pp l ee (rmh 1) ss mm args below meth cq H1 lc1 0 0 (MQ below (QI D ad G ids (fun z σ' => cntE (σ 211) 64 = z ∧ σ = σ') ss.heap.size) args ss 0 0 (AN ad ids ss.heap.size)) (F0 mm 13 ls1 []) := by
    intro fu
    induction fu with
    | zero => intro i n  H1 lc1 ls1 i0 hn hfu; exact absurd hfu (Nat.not_lt_zero _)
    | succ fu ih13 =>
      intro i n  H1 lc1 ls1 i0 hn hfu hM hl
      refine lv_iload C.1 C.2.1 dX12_entriesNow_13 (lv_at hl 0 rfl) ?_
      refine lv_iload_n C.1 C.2.1 dX12_entriesNow_15 rfl (lv_at hl 1 rfl) ?_
      refine x_icmp_ge C ⟨by omega, by omega⟩ ⟨by omega, by omega⟩ (tgt := 46) dX12_entriesNow_16 (by decide) (fun c16 => ?_) (fun c16 => ?_)
      · refine lv_iload_n C.1 C.2.1 dX12_entriesNow_46 rfl (lv_at hl 3 rfl) ?_
        exact x_iret C hr hM ⟨by rw [hn, show i.toNat = 64 by omega], rfl⟩ dX12_entriesNow_47
      · have hq : 0 ≤ σ 211 i ∧ σ 211 i ≤ 4 := (hT.2.1 i).1
        refine lv_aload_n C.1 C.2.1 dX12_entriesNow_19 rfl (lv_at hl 2 rfl) ?_
        refine lv_iload C.1 C.2.1 dX12_entriesNow_20 (lv_at hl 0 rfl) ?_
        refine aaz_slot C hM (hJ 117 (by decide) (by decide)) (by omega) (by omega) dX12_entriesNow_22 ?_
        refine lv_astore (lv' := [(5, .ref (ad (118 + (i).toNat))), (4, .int (iI i)), (3, .int (iI 64)), (2, .ref (ad 117)), (1, .int (iI n)), (0, .ref (ad 100))]) C.1 C.2.1 dX12_entriesNow_23 hl (by decide) rfl (fun ls hl => ?_)
        refine lv_iload_n C.1 C.2.1 dX12_entriesNow_25 rfl (lv_at hl 4 rfl) ?_
        refine lv_aload C.1 C.2.1 dX12_entriesNow_26 (lv_at hl 0 rfl) ?_
        refine lv_iconst (v := iI 0) C.1 C.2.1 dX12_entriesNow_28 (by decide) ?_
        refine alz_ts0 C hM (by omega) (by omega) (hJ _ (by omega) (by omega)) dX12_entriesNow_29 ?_
        refine x_if_le C ⟨by omega, by omega⟩ (tgt := 37) dX12_entriesNow_30 (by decide) (fun c30 => ?_) (fun c30 => ?_)
        · refine lv_iconst (v := iI 0) C.1 C.2.1 dX12_entriesNow_37 (by decide) ?_
          refine x_iadd C dX12_entriesNow_38 ?_
          refine lv_istore_n (lv' := [(1, .int (iI (n + 0))), (5, .ref (ad (118 + (i).toNat))), (4, .int (iI i)), (3, .int (iI 64)), (2, .ref (ad 117)), (0, .ref (ad 100))]) C.1 C.2.1 dX12_entriesNow_39 rfl hl (by decide) rfl (fun ls hl => ?_)
          refine x_iinc (lv1 := [(4, .int (iI (i + 1))), (1, .int (iI (n + 0))), (5, .ref (ad (118 + (i).toNat))), (3, .int (iI 64)), (2, .ref (ad 117)), (0, .ref (ad 100))]) C dX12_entriesNow_40 hl (k := 2) rfl (by decide) rfl (fun ls hl => ?_)
          refine lv_goto (tgt := 13) C.1 C.2.1 dX12_entriesNow_43 (by decide) ?_
          exact ih13 (i + 1) (n + 0) _ _ _ (by omega) (by rw [cntE_s _ i0.1]; split <;> omega) (by omega) hM (lv_sub hl [0, 3, 4, 1, 5] rfl)
        · refine lv_iconst (v := iI 1) C.1 C.2.1 dX12_entriesNow_33 (by decide) ?_
          refine lv_goto (tgt := 38) C.1 C.2.1 dX12_entriesNow_34 (by decide) ?_
          refine x_iadd C dX12_entriesNow_38 ?_
          refine lv_istore_n (lv' := [(1, .int (iI (n + 1))), (5, .ref (ad (118 + (i).toNat))), (4, .int (iI i)), (3, .int (iI 64)), (2, .ref (ad 117)), (0, .ref (ad 100))]) C.1 C.2.1 dX12_entriesNow_39 rfl hl (by decide) rfl (fun ls hl => ?_)
          refine x_iinc (lv1 := [(4, .int (iI (i + 1))), (1, .int (iI (n + 1))), (5, .ref (ad (118 + (i).toNat))), (3, .int (iI 64)), (2, .ref (ad 117)), (0, .ref (ad 100))]) C dX12_entriesNow_40 hl (k := 2) rfl (by decide) rfl (fun ls hl => ?_)
          refine lv_goto (tgt := 13) C.1 C.2.1 dX12_entriesNow_43 (by decide) ?_
          exact ih13 (i + 1) (n + 1) _ _ _ (by omega) (by rw [cntE_s _ i0.1]; split <;> omega) (by omega) hM (lv_sub hl [0, 3, 4, 1, 5] rfl)
  exact L13 _ 0 0 _ _ _ (by omega) rfl (Nat.lt_succ_self _) hM (lv_sub hl [0, 1, 2, 3, 4] rfl)
set_option maxRecDepth 100000 in
set_option maxHeartbeats 4000000 in
theorem c_X12_clear (l : Launch) (D : va_G) (ad : Nat → Nat) (G : Nat → Nat) (ids : List Nat) (hJ : ∀ k, 100 ≤ k → k < 233 → k ∈ ids) (σ : Sg) (n : Int) (hT : TI (mw σ)) : MET l yX12_clear cX12_clear 7 (some .int) 2 [.ref (ad 100), .int (iI n)] D ad G ids σ (QI D ad G ids (fun z σ' => cntE (σ 211) 64 = z ∧ upr (upr σ 209 (ups (σ 209) 0 n)) 211 (wpF (σ 211) 64) = σ')) := by
  refine x_enter (by decide) (Nat.le_of_ble_eq_true rfl) ?_
  intro pp ee ss mm args below meth cq C hr ls hl hM
  have hl : lv_has ls 7 [(0, .ref (ad 100)), (1, .int (iI n))] := hl
  refine lv_aload_n C.1 C.2.1 dX12_clear_0 rfl (lv_at hl 0 rfl) ?_
  refine x_ci (x_runV (As := []) (rest := []) C (by omega) cw_X12_154 (c_X12_entriesNow l D ad G ids hJ σ hT) hM (hJ 100 (by decide) (by decide)) (cx_100 ad G _) rfl rfl rfl rfl (Nat.le_of_ble_eq_true rfl) hl.1 dX12_clear_1) hM (fun r1 s1 H1 lc1 hp hM => ?_)
  obtain ⟨rfl, rfl⟩ := hp
  refine lv_istore_n (lv' := [(2, .int (iI (cntE (σ 211) 64))), (0, .ref (ad 100)), (1, .int (iI n))]) C.1 C.2.1 dX12_clear_4 rfl hl (by decide) rfl (fun ls hl => ?_)
  refine lv_aload_n C.1 C.2.1 dX12_clear_5 rfl (lv_at hl 1 rfl) ?_
  refine lv_iload_n C.1 C.2.1 dX12_clear_6 rfl (lv_at hl 2 rfl) ?_
  refine p_X12_11 C hM (hJ 100 (by decide) (by decide)) wf_X12_32 dX12_clear_7 (fun H1 lc1 hM => ?_)
  refine lv_aload_n C.1 C.2.1 dX12_clear_10 rfl (lv_at hl 1 rfl) ?_
  refine g_X12_13 C hM (hJ 100 (by decide) (by decide)) wf_X12_39 dX12_clear_11 ?_
  refine lv_astore_n (lv' := [(3, .ref (ad 117)), (2, .int (iI (cntE (σ 211) 64))), (0, .ref (ad 100)), (1, .int (iI n))]) C.1 C.2.1 dX12_clear_14 rfl hl (by decide) rfl (fun ls hl => ?_)
  refine lv_aload_n C.1 C.2.1 dX12_clear_15 rfl (lv_at hl 0 rfl) ?_
  refine ln_117 C hM (hJ 117 (by decide) (by decide)) dX12_clear_16 ?_
  refine lv_istore (lv' := [(4, .int (iI 64)), (3, .ref (ad 117)), (2, .int (iI (cntE (σ 211) 64))), (0, .ref (ad 100)), (1, .int (iI n))]) C.1 C.2.1 dX12_clear_17 hl (by decide) rfl (fun ls hl => ?_)
  refine lv_iconst (v := iI 0) C.1 C.2.1 dX12_clear_19 (by decide) ?_
  refine lv_istore (lv' := [(5, .int (iI 0)), (4, .int (iI 64)), (3, .ref (ad 117)), (2, .int (iI (cntE (σ 211) 64))), (0, .ref (ad 100)), (1, .int (iI n))]) C.1 C.2.1 dX12_clear_20 hl (by decide) rfl (fun ls hl => ?_)
  have L22 : ∀ (fu : Nat) (i : Int) (s1 : Sg) (H1 : Heap) (lc1 : List Loc) (ls1 : Array Slot), (0 ≤ i ∧ i ≤ 64) → (s1 = upr (upr σ 209 (ups (σ 209) 0 n)) 211 (wpF (σ 211) i)) → (70 - i).toNat < fu → XI D ad G ids (AN ad ids ss.heap.size) ss.heap H1 lc1 s1 → lv_has ls1 7 [(5, .int (iI i)), (4, .int (iI 64)), (3, .ref (ad 117)), (2, .int (iI (cntE (σ 211) 64))), (0, .ref (ad 100)), (1, .int (iI n))] → W pp l ee (rmh 2) ss mm args below meth cq H1 lc1 0 0 (MQ below (QI D ad G ids (fun z σ' => cntE (σ 211) 64 = z ∧ upr (upr σ 209 (ups (σ 209) 0 n)) 211 (wpF (σ 211) 64) = σ') ss.heap.size) args ss 0 0 (AN ad ids ss.heap.size)) (F0 mm 22 ls1 []) := by
    intro fu
    induction fu with
    | zero => intro i s1 H1 lc1 ls1 i0 hs hfu; exact absurd hfu (Nat.not_lt_zero _)
    | succ fu ih22 =>
      intro i s1 H1 lc1 ls1 i0 hs hfu hM hl
      refine lv_iload C.1 C.2.1 dX12_clear_22 (lv_at hl 0 rfl) ?_
      refine lv_iload C.1 C.2.1 dX12_clear_24 (lv_at hl 1 rfl) ?_
      refine x_icmp_ge C ⟨by omega, by omega⟩ ⟨by omega, by omega⟩ (tgt := 46) dX12_clear_26 (by decide) (fun c26 => ?_) (fun c26 => ?_)
      · refine lv_iload_n C.1 C.2.1 dX12_clear_46 rfl (lv_at hl 3 rfl) ?_
        exact x_iret C hr hM ⟨rfl, by rw [hs, show i = 64 by omega]⟩ dX12_clear_47
      · refine lv_aload_n C.1 C.2.1 dX12_clear_29 rfl (lv_at hl 2 rfl) ?_
        refine lv_iload C.1 C.2.1 dX12_clear_30 (lv_at hl 0 rfl) ?_
        refine aaz_slot C hM (hJ 117 (by decide) (by decide)) (by omega) (by omega) dX12_clear_32 ?_
        refine lv_astore (lv' := [(6, .ref (ad (118 + (i).toNat))), (5, .int (iI i)), (4, .int (iI 64)), (3, .ref (ad 117)), (2, .int (iI (cntE (σ 211) 64))), (0, .ref (ad 100)), (1, .int (iI n))]) C.1 C.2.1 dX12_clear_33 hl (by decide) rfl (fun ls hl => ?_)
        refine lv_aload C.1 C.2.1 dX12_clear_35 (lv_at hl 0 rfl) ?_
        refine lv_iconst (v := iI 0) C.1 C.2.1 dX12_clear_37 (by decide) ?_
        refine lv_iconst (v := iI 0) C.1 C.2.1 dX12_clear_38 (by decide) ?_
        refine asz_ts0 C hM (by omega) (by omega) (hJ _ (by omega) (by omega)) dX12_clear_39 (fun H1 lc1 hM => ?_)
        refine x_iinc (lv1 := [(5, .int (iI (i + 1))), (6, .ref (ad (118 + (i).toNat))), (4, .int (iI 64)), (3, .ref (ad 117)), (2, .int (iI (cntE (σ 211) 64))), (0, .ref (ad 100)), (1, .int (iI n))]) C dX12_clear_40 hl (k := 1) rfl (by decide) rfl (fun ls hl => ?_)
        refine lv_goto (tgt := 22) C.1 C.2.1 dX12_clear_43 (by decide) ?_
        exact ih22 (i + 1) (upr s1 211 (ups (s1 211) i 0)) _ _ _ (by omega) (by rw [hs, upr_eq, wpF_s _ i0.1, upr_upr]) (by omega) hM (lv_sub hl [0, 2, 3, 4, 5, 6] rfl)
  exact L22 _ 0 (upr σ 209 (ups (σ 209) 0 n)) _ _ _ (by omega) (by rw [wpF_0]; exact (upr_self (upr σ 209 (ups (σ 209) 0 n)) 211).symm) (Nat.lt_succ_self _) hM (lv_sub hl [0, 1, 2, 3, 4, 5] rfl)
set_option maxRecDepth 100000 in
set_option maxHeartbeats 4000000 in
theorem c_X12_slotOf (l : Launch) (D : va_G) (ad : Nat → Nat) (G : Nat → Nat) (ids : List Nat) (hJ : ∀ k, 100 ≤ k → k < 233 → k ∈ ids) (σ : Sg) (key : Int) (hT : TI (mw σ)) (hkey : 0 ≤ key ∧ key < 4000000000000000000) : MET l yX12_slotOf cX12_slotOf 4 (some .int) 1 [.ref (ad 100), .long (jI key)] D ad G ids σ (QI D ad G ids (fun z σ' => fndT (mw σ) key = z ∧ σ = σ')) := by
  have h9 : 0 ≤ σ 209 0 ∧ σ 209 0 ≤ 64 := hT.1
  refine x_enter (by decide) (Nat.le_of_ble_eq_true rfl) ?_
  intro pp ee ss mm args below meth cq C hr ls hl hM
  have hl : lv_has ls 4 [(0, .ref (ad 100)), (1, .long (jI key))] := hl
  refine lv_aload_n C.1 C.2.1 dX12_slotOf_0 rfl (lv_at hl 0 rfl) ?_
  refine g_X12_11 C hM (hJ 100 (by decide) (by decide)) wf_X12_32 dX12_slotOf_1 ?_
  refine x_if_ne C ⟨by omega, by omega⟩ (tgt := 9) dX12_slotOf_4 (by decide) (fun c4 => ?_) (fun c4 => ?_)
  · refine lv_lload_n C.1 C.2.1 dX12_slotOf_9 rfl (lv_at hl 1 rfl) ?_
    refine lv_aload_n C.1 C.2.1 dX12_slotOf_10 rfl (lv_at hl 0 rfl) ?_
    refine g_X12_11 C hM (hJ 100 (by decide) (by decide)) wf_X12_32 dX12_slotOf_11 ?_
    refine x_i2l C ⟨by omega, by omega⟩ dX12_slotOf_14 ?_
    refine x_lrem2 C ⟨by omega, by omega, by omega⟩ ⟨by omega, by omega, by omega⟩ dX12_slotOf_15 ?_
    refine x_l2i C dX12_slotOf_16 ?_
    have hm : 0 ≤ key % σ 209 0 ∧ key % σ 209 0 < σ 209 0 := ⟨Int.emod_nonneg _ (by omega), Int.emod_lt_of_pos _ (by omega)⟩
    have hq : 0 ≤ σ 211 (key % σ 209 0) ∧ σ 211 (key % σ 209 0) ≤ 4 := (hT.2.1 (key % σ 209 0)).1
    have hq2 : 0 ≤ σ 210 (key % σ 209 0) ∧ σ 210 (key % σ 209 0) < 4000000000000000000 := (hT.2.1 (key % σ 209 0)).2.2.2.2
    refine lv_istore_n (lv' := [(3, .int (iI (key % (σ 209 0)))), (0, .ref (ad 100)), (1, .long (jI key))]) C.1 C.2.1 dX12_slotOf_17 rfl hl (by decide) rfl (fun ls hl => ?_)
    refine lv_aload_n C.1 C.2.1 dX12_slotOf_18 rfl (lv_at hl 1 rfl) ?_
    refine g_X12_13 C hM (hJ 100 (by decide) (by decide)) wf_X12_39 dX12_slotOf_19 ?_
    refine lv_iload_n C.1 C.2.1 dX12_slotOf_22 rfl (lv_at hl 0 rfl) ?_
    refine aaz_slot C hM (hJ 117 (by decide) (by decide)) (by omega) (by omega) dX12_slotOf_23 ?_
    refine lv_iconst (v := iI 0) C.1 C.2.1 dX12_slotOf_24 (by decide) ?_
    refine alz_ts0 C hM (by omega) (by omega) (hJ _ (by omega) (by omega)) dX12_slotOf_25 ?_
    refine x_if_le C ⟨by omega, by omega⟩ (tgt := 44) dX12_slotOf_26 (by decide) (fun c26 => ?_) (fun c26 => ?_)
    · refine lv_iconst (v := iI (-1)) C.1 C.2.1 dX12_slotOf_44 (by decide) ?_
      exact x_iret C hr hM ⟨fnd_n (τ := mw σ) (show ¬ (0 < σ 209 0 ∧ 0 < σ 211 (key % σ 209 0) ∧ σ 210 (key % σ 209 0) = key) by omega), rfl⟩ dX12_slotOf_45
    · refine lv_aload_n C.1 C.2.1 dX12_slotOf_29 rfl (lv_at hl 1 rfl) ?_
      refine g_X12_12 C hM (hJ 100 (by decide) (by decide)) wf_X12_35 dX12_slotOf_30 ?_
      refine lv_iload_n C.1 C.2.1 dX12_slotOf_33 rfl (lv_at hl 0 rfl) ?_
      refine al_116 C hM (hJ 116 (by decide) (by decide)) (by omega) (by omega) dX12_slotOf_34 ?_
      refine lv_lload_n C.1 C.2.1 dX12_slotOf_35 rfl (lv_at hl 2 rfl) ?_
      refine x_lcmp C ⟨by omega, by omega⟩ ⟨by omega, by omega⟩ dX12_slotOf_36 (fun z36 i36 e36 g36 => ?_)
      refine x_if_ne C ⟨by omega, by omega⟩ (tgt := 44) dX12_slotOf_37 (by decide) (fun c37 => ?_) (fun c37 => ?_)
      · refine lv_iconst (v := iI (-1)) C.1 C.2.1 dX12_slotOf_44 (by decide) ?_
        exact x_iret C hr hM ⟨fnd_n (τ := mw σ) (show ¬ (0 < σ 209 0 ∧ 0 < σ 211 (key % σ 209 0) ∧ σ 210 (key % σ 209 0) = key) by omega), rfl⟩ dX12_slotOf_45
      · refine lv_iload_n C.1 C.2.1 dX12_slotOf_40 rfl (lv_at hl 0 rfl) ?_
        refine lv_goto (tgt := 45) C.1 C.2.1 dX12_slotOf_41 (by decide) ?_
        exact x_iret C hr hM ⟨fnd_y (τ := mw σ) (show 0 < σ 209 0 ∧ 0 < σ 211 (key % σ 209 0) ∧ σ 210 (key % σ 209 0) = key by omega), rfl⟩ dX12_slotOf_45
  · refine lv_iconst (v := iI (-1)) C.1 C.2.1 dX12_slotOf_7 (by decide) ?_
    exact x_iret C hr hM ⟨fnd_n (τ := mw σ) (show ¬ (0 < σ 209 0 ∧ 0 < σ 211 (key % σ 209 0) ∧ σ 210 (key % σ 209 0) = key) by omega), rfl⟩ dX12_slotOf_8
set_option maxRecDepth 100000 in
set_option maxHeartbeats 4000000 in
theorem c_X12_keep (l : Launch) (D : va_G) (ad : Nat → Nat) (G : Nat → Nat) (ids : List Nat) (hJ : ∀ k, 100 ≤ k → k < 233 → k ∈ ids) (σ : Sg) (d b k v : Int) (hT : TI (mw σ)) (hG : GI (mw σ)) : MET l yX12_keep cX12_keep 6 none 3 [.ref (ad 100), .int (iI d), .int (iI b), .int (iI k), .int (iI v)] D ad G ids σ (QV D ad G ids (fun σ' => keM σ (keyS (cfg (mw σ)) (σ 201) (σ 204 0)) d b k v = σ')) := by
  have hB : BG (mw σ) := hG.1
  have w1 : 3 ≤ σ 202 0 := hB.1
  have w2 : σ 202 0 ≤ 5 := hB.2.1
  have h1 : 3 ≤ σ 203 0 := hB.2.2.1
  have h2 : σ 203 0 ≤ 5 := hB.2.2.2
  have wb := wh_bd w1 w2 h1 h2
  have hC : BC (σ 201) := hG.2.1
  have hs : σ 204 0 = 0 ∨ σ 204 0 = 1 := hG.2.2.1
  have h9 : 0 ≤ σ 209 0 ∧ σ 209 0 ≤ 64 := hT.1
  have hkey := SB_key hG
  have hkey : 0 ≤ (keyS (cfg (mw σ)) (σ 201) (σ 204 0)) ∧ (keyS (cfg (mw σ)) (σ 201) (σ 204 0)) < 4000000000000000000 := hkey
  refine x_enter (by decide) (Nat.le_of_ble_eq_true rfl) ?_
  intro pp ee ss mm args below meth cq C hr ls hl hM
  have hl : lv_has ls 6 [(0, .ref (ad 100)), (1, .int (iI d)), (2, .int (iI b)), (3, .int (iI k)), (4, .int (iI v))] := hl
  refine lv_aload_n C.1 C.2.1 dX12_keep_0 rfl (lv_at hl 0 rfl) ?_
  refine g_X12_11 C hM (hJ 100 (by decide) (by decide)) wf_X12_32 dX12_keep_1 ?_
  refine x_if_ne C ⟨by omega, by omega⟩ (tgt := 8) dX12_keep_4 (by decide) (fun c4 => ?_) (fun c4 => ?_)
  · refine lv_aload_n C.1 C.2.1 dX12_keep_8 rfl (lv_at hl 0 rfl) ?_
    refine x_cl (x_runV (As := []) (rest := []) C (by omega) cw_X12_157 (c_X12_keyNow l D ad G ids hJ σ hB hC (by unfold IR; omega)) hM (hJ 100 (by decide) (by decide)) (cx_100 ad G _) rfl rfl rfl rfl (Nat.le_of_ble_eq_true rfl) hl.1 dX12_keep_9) hM (fun r9 s9 H1 lc1 hp hM => ?_)
    obtain ⟨rfl, rfl⟩ := hp
    have hke : keyF (σ 201) (σ 202 0 * σ 203 0).toNat * 2 + σ 204 0 = (keyS (cfg (mw σ)) (σ 201) (σ 204 0)) := rfl
    rw [hke]
    refine lv_aload_n C.1 C.2.1 dX12_keep_12 rfl (lv_at hl 0 rfl) ?_
    refine g_X12_11 C hM (hJ 100 (by decide) (by decide)) wf_X12_32 dX12_keep_13 ?_
    refine x_i2l C ⟨by omega, by omega⟩ dX12_keep_16 ?_
    refine x_lrem2 C ⟨by omega, by omega, by omega⟩ ⟨by omega, by omega, by omega⟩ dX12_keep_17 ?_
    refine x_l2i C dX12_keep_18 ?_
    have hm : 0 ≤ (keyS (cfg (mw σ)) (σ 201) (σ 204 0)) % σ 209 0 ∧ (keyS (cfg (mw σ)) (σ 201) (σ 204 0)) % σ 209 0 < σ 209 0 := ⟨Int.emod_nonneg _ (by omega), Int.emod_lt_of_pos _ (by omega)⟩
    refine lv_istore (lv' := [(5, .int (iI ((keyS (cfg (mw σ)) (σ 201) (σ 204 0)) % (σ 209 0)))), (0, .ref (ad 100)), (1, .int (iI d)), (2, .int (iI b)), (3, .int (iI k)), (4, .int (iI v))]) C.1 C.2.1 dX12_keep_19 hl (by decide) rfl (fun ls hl => ?_)
    refine lv_aload_n C.1 C.2.1 dX12_keep_21 rfl (lv_at hl 1 rfl) ?_
    refine g_X12_12 C hM (hJ 100 (by decide) (by decide)) wf_X12_35 dX12_keep_22 ?_
    refine lv_iload C.1 C.2.1 dX12_keep_25 (lv_at hl 0 rfl) ?_
    refine lv_aload_n C.1 C.2.1 dX12_keep_27 rfl (lv_at hl 1 rfl) ?_
    refine x_cl (x_runV (As := []) (rest := [.int (iI ((keyS (cfg (mw σ)) (σ 201) (σ 204 0)) % (σ 209 0))), .ref (ad 116)]) C (by omega) cw_X12_157 (c_X12_keyNow l D ad G ids hJ σ hB hC (by unfold IR; omega)) hM (hJ 100 (by decide) (by decide)) (cx_100 ad G _) rfl rfl rfl rfl (Nat.le_of_ble_eq_true rfl) hl.1 dX12_keep_28) hM (fun r28 s28 H1 lc1 hp hM => ?_)
    obtain ⟨rfl, rfl⟩ := hp
    rw [hke]
    refine as_116 C hM (hJ 116 (by decide) (by decide)) (by omega) (by omega) dX12_keep_31 (fun H1 lc1 hM => ?_)
    refine lv_aload_n C.1 C.2.1 dX12_keep_32 rfl (lv_at hl 1 rfl) ?_
    refine g_X12_13 C hM (hJ 100 (by decide) (by decide)) wf_X12_39 dX12_keep_33 ?_
    refine lv_iload C.1 C.2.1 dX12_keep_36 (lv_at hl 0 rfl) ?_
    refine aaz_slot C hM (hJ 117 (by decide) (by decide)) (by omega) (by omega) dX12_keep_38 ?_
    refine lv_iconst (v := iI 0) C.1 C.2.1 dX12_keep_39 (by decide) ?_
    refine lv_iload_n C.1 C.2.1 dX12_keep_40 rfl (lv_at hl 2 rfl) ?_
    refine asz_ts0 C hM (by omega) (by omega) (hJ _ (by omega) (by omega)) dX12_keep_41 (fun H1 lc1 hM => ?_)
    refine lv_aload_n C.1 C.2.1 dX12_keep_42 rfl (lv_at hl 1 rfl) ?_
    refine g_X12_13 C hM (hJ 100 (by decide) (by decide)) wf_X12_39 dX12_keep_43 ?_
    refine lv_iload C.1 C.2.1 dX12_keep_46 (lv_at hl 0 rfl) ?_
    refine aaz_slot C hM (hJ 117 (by decide) (by decide)) (by omega) (by omega) dX12_keep_48 ?_
    refine lv_iconst (v := iI 1) C.1 C.2.1 dX12_keep_49 (by decide) ?_
    refine lv_iload_n C.1 C.2.1 dX12_keep_50 rfl (lv_at hl 3 rfl) ?_
    refine asz_ts1 C hM (by omega) (by omega) (hJ _ (by omega) (by omega)) dX12_keep_51 (fun H1 lc1 hM => ?_)
    refine lv_aload_n C.1 C.2.1 dX12_keep_52 rfl (lv_at hl 1 rfl) ?_
    refine g_X12_13 C hM (hJ 100 (by decide) (by decide)) wf_X12_39 dX12_keep_53 ?_
    refine lv_iload C.1 C.2.1 dX12_keep_56 (lv_at hl 0 rfl) ?_
    refine aaz_slot C hM (hJ 117 (by decide) (by decide)) (by omega) (by omega) dX12_keep_58 ?_
    refine lv_iconst (v := iI 2) C.1 C.2.1 dX12_keep_59 (by decide) ?_
    refine lv_iload_n C.1 C.2.1 dX12_keep_60 rfl (lv_at hl 4 rfl) ?_
    refine asz_ts2 C hM (by omega) (by omega) (hJ _ (by omega) (by omega)) dX12_keep_61 (fun H1 lc1 hM => ?_)
    refine lv_aload_n C.1 C.2.1 dX12_keep_62 rfl (lv_at hl 1 rfl) ?_
    refine g_X12_13 C hM (hJ 100 (by decide) (by decide)) wf_X12_39 dX12_keep_63 ?_
    refine lv_iload C.1 C.2.1 dX12_keep_66 (lv_at hl 0 rfl) ?_
    refine aaz_slot C hM (hJ 117 (by decide) (by decide)) (by omega) (by omega) dX12_keep_68 ?_
    refine lv_iconst (v := iI 3) C.1 C.2.1 dX12_keep_69 (by decide) ?_
    refine lv_iload C.1 C.2.1 dX12_keep_70 (lv_at hl 5 rfl) ?_
    refine asz_ts3 C hM (by omega) (by omega) (hJ _ (by omega) (by omega)) dX12_keep_72 (fun H1 lc1 hM => ?_)
    refine x_vret C hr hM ?_ dX12_keep_73
    exact by
      unfold keM
      rw [if_pos (show 0 < σ 209 0 by omega)]
      rfl
  · exact x_vret C hr hM (if_neg (show ¬ 0 < σ 209 0 by omega)) dX12_keep_7
set_option maxRecDepth 100000 in
set_option maxHeartbeats 4000000 in
theorem c_X12_hasL (l : Launch) (D : va_G) (ad : Nat → Nat) (G : Nat → Nat) (ids : List Nat) (hJ : ∀ k, 100 ≤ k → k < 233 → k ∈ ids) (σ : Sg) (p : Nat) (n v : Int) (A : List Int) (hp12 : p < 12) (hn : n = A.length) (h75 : A.length ≤ 70) (hv : IR v) (hA : RWL σ (240 + p) A) (hAI : ∀ x, x ∈ A → IR x) : MET l yX12_has cX12_has 4 (some .boolean) 1 [.ref (ad (104 + p)), .int (iI n), .int (iI v)] D ad G ids σ (QI D ad G ids (fun z σ' => (if v ∈ A then 1 else 0) = z ∧ σ = σ')) := by
  refine x_enter (by decide) (Nat.le_of_ble_eq_true rfl) ?_
  intro pp ee ss mm args below meth cq C hr ls hl hM
  have hl : lv_has ls 4 [(0, .ref (ad (104 + p))), (1, .int (iI n)), (2, .int (iI v))] := hl
  refine lv_iconst (v := iI 0) C.1 C.2.1 dX12_has_0 (by decide) ?_
  refine lv_istore_n (lv' := [(3, .int (iI 0)), (0, .ref (ad (104 + p))), (1, .int (iI n)), (2, .int (iI v))]) C.1 C.2.1 dX12_has_1 rfl hl (by decide) rfl (fun ls hl => ?_)
  have L2 : ∀ (fu : Nat) (i : Int) (H1 : Heap) (lc1 : List Loc) (ls1 : Array Slot), (0 ≤ i ∧ i ≤ A.length) → (∀ k : Nat, (k : Int) < i → A[k]? ≠ some v) → (80 - i).toNat < fu → XI D ad G ids (AN ad ids ss.heap.size) ss.heap H1 lc1 σ → lv_has ls1 4 [(3, .int (iI i)), (0, .ref (ad (104 + p))), (1, .int (iI n)), (2, .int (iI v))] → W pp l ee (rmh 1) ss mm args below meth cq H1 lc1 0 0 (MQ below (QI D ad G ids (fun z σ' => (if v ∈ A then 1 else 0) = z ∧ σ = σ') ss.heap.size) args ss 0 0 (AN ad ids ss.heap.size)) (F0 mm 2 ls1 []) := by
    intro fu
    induction fu with
    | zero => intro i  H1 lc1 ls1 i0 hno hfu; exact absurd hfu (Nat.not_lt_zero _)
    | succ fu ih2 =>
      intro i  H1 lc1 ls1 i0 hno hfu hM hl
      refine lv_iload_n C.1 C.2.1 dX12_has_2 rfl (lv_at hl 0 rfl) ?_
      refine lv_iload_n C.1 C.2.1 dX12_has_3 rfl (lv_at hl 2 rfl) ?_
      refine x_icmp_ge C ⟨by omega, by omega⟩ ⟨by omega, by omega⟩ (tgt := 20) dX12_has_4 (by decide) (fun c4 => ?_) (fun c4 => ?_)
      · refine lv_iload_n C.1 C.2.1 dX12_has_20 rfl (lv_at hl 0 rfl) ?_
        refine lv_iload_n C.1 C.2.1 dX12_has_21 rfl (lv_at hl 2 rfl) ?_
        refine x_icmp_ge C ⟨by omega, by omega⟩ ⟨by omega, by omega⟩ (tgt := 29) dX12_has_22 (by decide) (fun c22 => ?_) (fun c22 => ?_)
        · refine lv_iconst (v := iI 0) C.1 C.2.1 dX12_has_29 (by decide) ?_
          exact x_zret C hr hM (by first | exact Or.inl rfl | exact Or.inr rfl | omega) ⟨by first | (exfalso; omega) | exact if_neg (not_in (fun k h => hno k (by omega))), rfl⟩ dX12_has_30
        · refine lv_iconst (v := iI 1) C.1 C.2.1 dX12_has_25 (by decide) ?_
          refine lv_goto (tgt := 30) C.1 C.2.1 dX12_has_26 (by decide) ?_
          exact x_zret C hr hM (by first | exact Or.inl rfl | exact Or.inr rfl | omega) ⟨by first | (exfalso; omega) | (rw [if_pos]; rw [← c11]; exact hmi), rfl⟩ dX12_has_30
      · refine lv_aload_n C.1 C.2.1 dX12_has_7 rfl (lv_at hl 1 rfl) ?_
        refine lv_iload_n C.1 C.2.1 dX12_has_8 rfl (lv_at hl 0 rfl) ?_
        have hmi := getD_mem (L := A) i0.1 (by omega)
        have hir := hAI _ hmi
        unfold IR at hir hv
        refine al_li C hM hp12 (hJ _ (by omega) (by omega)) (by omega) (by omega) dX12_has_9 ?_
        rw [hA.at i0.1 (by omega)]
        refine lv_iload_n C.1 C.2.1 dX12_has_10 rfl (lv_at hl 3 rfl) ?_
        refine x_icmp_eq C hir hv (tgt := 20) dX12_has_11 (by decide) (fun c11 => ?_) (fun c11 => ?_)
        · refine lv_iload_n C.1 C.2.1 dX12_has_20 rfl (lv_at hl 0 rfl) ?_
          refine lv_iload_n C.1 C.2.1 dX12_has_21 rfl (lv_at hl 2 rfl) ?_
          refine x_icmp_ge C ⟨by omega, by omega⟩ ⟨by omega, by omega⟩ (tgt := 29) dX12_has_22 (by decide) (fun c22 => ?_) (fun c22 => ?_)
          · refine lv_iconst (v := iI 0) C.1 C.2.1 dX12_has_29 (by decide) ?_
            exact x_zret C hr hM (by first | exact Or.inl rfl | exact Or.inr rfl | omega) ⟨by first | (exfalso; omega) | exact if_neg (not_in (fun k h => hno k (by omega))), rfl⟩ dX12_has_30
          · refine lv_iconst (v := iI 1) C.1 C.2.1 dX12_has_25 (by decide) ?_
            refine lv_goto (tgt := 30) C.1 C.2.1 dX12_has_26 (by decide) ?_
            exact x_zret C hr hM (by first | exact Or.inl rfl | exact Or.inr rfl | omega) ⟨by first | (exfalso; omega) | (rw [if_pos]; rw [← c11]; exact hmi), rfl⟩ dX12_has_30
        · refine x_iinc (lv1 := [(3, .int (iI (i + 1))), (0, .ref (ad (104 + p))), (1, .int (iI n)), (2, .int (iI v))]) C dX12_has_14 hl (k := 0) rfl (by decide) rfl (fun ls hl => ?_)
          refine lv_goto (tgt := 2) C.1 C.2.1 dX12_has_17 (by decide) ?_
          exact ih2 (i + 1) _ _ _ (by omega) (fun k h => by
            by_cases e : (k : Int) = i
            · rw [show k = i.toNat by omega, List.getElem?_eq_getElem (by omega), ← getD_lt (by omega)]
              intro q
              exact c11 (Option.some.inj q)
            · exact hno k (by omega)) (by omega) hM (lv_sub hl [0, 1, 2, 3] rfl)
  exact L2 _ 0 _ _ _ (by omega) (fun k h => by omega) (Nat.lt_succ_self _) hM (lv_sub hl [0, 1, 2, 3] rfl)
set_option maxRecDepth 100000 in
set_option maxHeartbeats 4000000 in
theorem c_X12_hasT (l : Launch) (D : va_G) (ad : Nat → Nat) (G : Nat → Nat) (ids : List Nat) (hJ : ∀ k, 100 ≤ k → k < 233 → k ∈ ids) (σ : Sg) (p : Nat) (n v : Int) (A : List Int) (hp12 : p < 12) (hn : n = A.length) (h75 : A.length ≤ 70) (hv : IR v) (hA : RWL σ (255 + p) A) (hAI : ∀ x, x ∈ A → IR x) : MET l yX12_has cX12_has 4 (some .boolean) 1 [.ref (ad (183 + p)), .int (iI n), .int (iI v)] D ad G ids σ (QI D ad G ids (fun z σ' => (if v ∈ A then 1 else 0) = z ∧ σ = σ')) := by
  refine x_enter (by decide) (Nat.le_of_ble_eq_true rfl) ?_
  intro pp ee ss mm args below meth cq C hr ls hl hM
  have hl : lv_has ls 4 [(0, .ref (ad (183 + p))), (1, .int (iI n)), (2, .int (iI v))] := hl
  refine lv_iconst (v := iI 0) C.1 C.2.1 dX12_has_0 (by decide) ?_
  refine lv_istore_n (lv' := [(3, .int (iI 0)), (0, .ref (ad (183 + p))), (1, .int (iI n)), (2, .int (iI v))]) C.1 C.2.1 dX12_has_1 rfl hl (by decide) rfl (fun ls hl => ?_)
  have L2 : ∀ (fu : Nat) (i : Int) (H1 : Heap) (lc1 : List Loc) (ls1 : Array Slot), (0 ≤ i ∧ i ≤ A.length) → (∀ k : Nat, (k : Int) < i → A[k]? ≠ some v) → (80 - i).toNat < fu → XI D ad G ids (AN ad ids ss.heap.size) ss.heap H1 lc1 σ → lv_has ls1 4 [(3, .int (iI i)), (0, .ref (ad (183 + p))), (1, .int (iI n)), (2, .int (iI v))] → W pp l ee (rmh 1) ss mm args below meth cq H1 lc1 0 0 (MQ below (QI D ad G ids (fun z σ' => (if v ∈ A then 1 else 0) = z ∧ σ = σ') ss.heap.size) args ss 0 0 (AN ad ids ss.heap.size)) (F0 mm 2 ls1 []) := by
    intro fu
    induction fu with
    | zero => intro i  H1 lc1 ls1 i0 hno hfu; exact absurd hfu (Nat.not_lt_zero _)
    | succ fu ih2 =>
      intro i  H1 lc1 ls1 i0 hno hfu hM hl
      refine lv_iload_n C.1 C.2.1 dX12_has_2 rfl (lv_at hl 0 rfl) ?_
      refine lv_iload_n C.1 C.2.1 dX12_has_3 rfl (lv_at hl 2 rfl) ?_
      refine x_icmp_ge C ⟨by omega, by omega⟩ ⟨by omega, by omega⟩ (tgt := 20) dX12_has_4 (by decide) (fun c4 => ?_) (fun c4 => ?_)
      · refine lv_iload_n C.1 C.2.1 dX12_has_20 rfl (lv_at hl 0 rfl) ?_
        refine lv_iload_n C.1 C.2.1 dX12_has_21 rfl (lv_at hl 2 rfl) ?_
        refine x_icmp_ge C ⟨by omega, by omega⟩ ⟨by omega, by omega⟩ (tgt := 29) dX12_has_22 (by decide) (fun c22 => ?_) (fun c22 => ?_)
        · refine lv_iconst (v := iI 0) C.1 C.2.1 dX12_has_29 (by decide) ?_
          exact x_zret C hr hM (by first | exact Or.inl rfl | exact Or.inr rfl | omega) ⟨by first | (exfalso; omega) | exact if_neg (not_in (fun k h => hno k (by omega))), rfl⟩ dX12_has_30
        · refine lv_iconst (v := iI 1) C.1 C.2.1 dX12_has_25 (by decide) ?_
          refine lv_goto (tgt := 30) C.1 C.2.1 dX12_has_26 (by decide) ?_
          exact x_zret C hr hM (by first | exact Or.inl rfl | exact Or.inr rfl | omega) ⟨by first | (exfalso; omega) | (rw [if_pos]; rw [← c11]; exact hmi), rfl⟩ dX12_has_30
      · refine lv_aload_n C.1 C.2.1 dX12_has_7 rfl (lv_at hl 1 rfl) ?_
        refine lv_iload_n C.1 C.2.1 dX12_has_8 rfl (lv_at hl 0 rfl) ?_
        have hmi := getD_mem (L := A) i0.1 (by omega)
        have hir := hAI _ hmi
        unfold IR at hir hv
        refine al_tr C hM hp12 (hJ _ (by omega) (by omega)) (by omega) (by omega) dX12_has_9 ?_
        rw [hA.at i0.1 (by omega)]
        refine lv_iload_n C.1 C.2.1 dX12_has_10 rfl (lv_at hl 3 rfl) ?_
        refine x_icmp_eq C hir hv (tgt := 20) dX12_has_11 (by decide) (fun c11 => ?_) (fun c11 => ?_)
        · refine lv_iload_n C.1 C.2.1 dX12_has_20 rfl (lv_at hl 0 rfl) ?_
          refine lv_iload_n C.1 C.2.1 dX12_has_21 rfl (lv_at hl 2 rfl) ?_
          refine x_icmp_ge C ⟨by omega, by omega⟩ ⟨by omega, by omega⟩ (tgt := 29) dX12_has_22 (by decide) (fun c22 => ?_) (fun c22 => ?_)
          · refine lv_iconst (v := iI 0) C.1 C.2.1 dX12_has_29 (by decide) ?_
            exact x_zret C hr hM (by first | exact Or.inl rfl | exact Or.inr rfl | omega) ⟨by first | (exfalso; omega) | exact if_neg (not_in (fun k h => hno k (by omega))), rfl⟩ dX12_has_30
          · refine lv_iconst (v := iI 1) C.1 C.2.1 dX12_has_25 (by decide) ?_
            refine lv_goto (tgt := 30) C.1 C.2.1 dX12_has_26 (by decide) ?_
            exact x_zret C hr hM (by first | exact Or.inl rfl | exact Or.inr rfl | omega) ⟨by first | (exfalso; omega) | (rw [if_pos]; rw [← c11]; exact hmi), rfl⟩ dX12_has_30
        · refine x_iinc (lv1 := [(3, .int (iI (i + 1))), (0, .ref (ad (183 + p))), (1, .int (iI n)), (2, .int (iI v))]) C dX12_has_14 hl (k := 0) rfl (by decide) rfl (fun ls hl => ?_)
          refine lv_goto (tgt := 2) C.1 C.2.1 dX12_has_17 (by decide) ?_
          exact ih2 (i + 1) _ _ _ (by omega) (fun k h => by
            by_cases e : (k : Int) = i
            · rw [show k = i.toNat by omega, List.getElem?_eq_getElem (by omega), ← getD_lt (by omega)]
              intro q
              exact c11 (Option.some.inj q)
            · exact hno k (by omega)) (by omega) hM (lv_sub hl [0, 1, 2, 3] rfl)
  exact L2 _ 0 _ _ _ (by omega) (fun k h => by omega) (Nat.lt_succ_self _) hM (lv_sub hl [0, 1, 2, 3] rfl)
set_option maxRecDepth 100000 in
set_option maxHeartbeats 4000000 in
theorem c_X12_want (l : Launch) (D : va_G) (ad : Nat → Nat) (G : Nat → Nat) (ids : List Nat) (hJ : ∀ k, 100 ≤ k → k < 233 → k ∈ ids) (σ : Sg) (p : Nat) (pn n k v : Int) (L acc : List Int) (hpn : pn = (p : Int)) (hp12 : p < 12) (hn : n = L.length) (hk : k = acc.length) (hL18 : L.length ≤ 18) (hk18 : acc.length ≤ 18) (hv : IR v) (hR : RWL σ (240 + p) L) (hA : RWL σ (255 + p) acc) (hLI : ∀ x, x ∈ L → IR x) (hAL : ∀ x, x ∈ acc → x ∈ L) : MET l yX12_want cX12_want 5 (some .int) 2 [.ref (ad 100), .int (iI pn), .int (iI n), .int (iI k), .int (iI v)] D ad G ids σ (QI D ad G ids (fun z σ' => ((wnt L acc v).length : Int) = z ∧ RWL σ' (255 + p) (wnt L acc v) ∧ OF (255 + p) σ σ')) := by
  refine x_enter (by decide) (Nat.le_of_ble_eq_true rfl) ?_
  intro pp ee ss mm args below meth cq C hr ls hl hM
  have hl : lv_has ls 5 [(0, .ref (ad 100)), (1, .int (iI pn)), (2, .int (iI n)), (3, .int (iI k)), (4, .int (iI v))] := hl
  refine lv_aload_n C.1 C.2.1 dX12_want_0 rfl (lv_at hl 0 rfl) ?_
  refine g_X12_10 C hM (hJ 100 (by decide) (by decide)) wf_X12_29 dX12_want_1 ?_
  refine lv_iload_n C.1 C.2.1 dX12_want_4 rfl (lv_at hl 1 rfl) ?_
  rw [hpn]
  refine aa_listed C hM (hJ 103 (by decide) (by decide)) (i := p) hp12 dX12_want_5 ?_
  refine lv_iload_n C.1 C.2.1 dX12_want_6 rfl (lv_at hl 2 rfl) ?_
  refine lv_iload C.1 C.2.1 dX12_want_7 (lv_at hl 4 rfl) ?_
  refine x_ci (x_runS (As := [.ref (ad (104 + p)), .int (iI n), .int (iI v)]) (rest := []) C (by omega) cw_X12_165 (c_X12_hasL l D ad G ids hJ σ p n v L hp12 hn (by omega) hv hR hLI) hM rfl rfl (Nat.le_of_ble_eq_true rfl) hl.1 dX12_want_9) hM (fun r9 s9 H1 lc1 hp hM => ?_)
  obtain ⟨hbs9, rfl⟩ := hp
  obtain ⟨ts9, ks9⟩ := ite01 hbs9
  refine x_if_eq C ⟨by omega, by omega⟩ (tgt := 30) dX12_want_12 (by decide) (fun c12 => ?_) (fun c12 => ?_)
  · refine lv_iload_n C.1 C.2.1 dX12_want_30 rfl (lv_at hl 3 rfl) ?_
    refine x_iret C hr hM ?_ dX12_want_31
    exact by
      have hw : wnt L acc v = acc := by
        refine wnt_no ?_
        first | (exact Or.inr (ks24.mp (by omega))) | (exact Or.inl (fun q => absurd (ks9.mpr q) (by omega)))
      exact ⟨by rw [hw, hk], by rw [hw]; exact hA, OF.rf⟩
  · refine lv_aload_n C.1 C.2.1 dX12_want_15 rfl (lv_at hl 0 rfl) ?_
    refine g_X12_14 C hM (hJ 100 (by decide) (by decide)) wf_X12_42 dX12_want_16 ?_
    refine lv_iload_n C.1 C.2.1 dX12_want_19 rfl (lv_at hl 1 rfl) ?_
    rw [hpn]
    refine aa_tried C hM (hJ 182 (by decide) (by decide)) (i := p) hp12 dX12_want_20 ?_
    refine lv_iload_n C.1 C.2.1 dX12_want_21 rfl (lv_at hl 3 rfl) ?_
    refine lv_iload C.1 C.2.1 dX12_want_22 (lv_at hl 4 rfl) ?_
    refine x_ci (x_runS (As := [.ref (ad (183 + p)), .int (iI k), .int (iI v)]) (rest := []) C (by omega) cw_X12_165 (c_X12_hasT l D ad G ids hJ σ p k v acc hp12 hk (by omega) hv hA (fun x hx => hLI x (hAL x hx))) hM rfl rfl (Nat.le_of_ble_eq_true rfl) hl.1 dX12_want_24) hM (fun r24 s24 H1 lc1 hp hM => ?_)
    obtain ⟨hbs24, rfl⟩ := hp
    obtain ⟨ts24, ks24⟩ := ite01 hbs24
    refine x_if_eq C ⟨by omega, by omega⟩ (tgt := 32) dX12_want_27 (by decide) (fun c27 => ?_) (fun c27 => ?_)
    · refine lv_aload_n C.1 C.2.1 dX12_want_32 rfl (lv_at hl 0 rfl) ?_
      refine g_X12_14 C hM (hJ 100 (by decide) (by decide)) wf_X12_42 dX12_want_33 ?_
      refine lv_iload_n C.1 C.2.1 dX12_want_36 rfl (lv_at hl 1 rfl) ?_
      rw [hpn]
      refine aa_tried C hM (hJ 182 (by decide) (by decide)) (i := p) hp12 dX12_want_37 ?_
      refine lv_iload_n C.1 C.2.1 dX12_want_38 rfl (lv_at hl 3 rfl) ?_
      refine lv_iload C.1 C.2.1 dX12_want_39 (lv_at hl 4 rfl) ?_
      refine as_tr C hM hp12 (hJ _ (by omega) (by omega)) (by omega) (by omega) dX12_want_41 (fun H1 lc1 hM => ?_)
      refine lv_iload_n C.1 C.2.1 dX12_want_42 rfl (lv_at hl 3 rfl) ?_
      refine lv_iconst (v := iI 1) C.1 C.2.1 dX12_want_43 (by decide) ?_
      refine x_iadd C dX12_want_44 ?_
      refine x_iret C hr hM ?_ dX12_want_45
      exact by
        have hw : wnt L acc v = acc ++ [v] := wnt_in (ks9.mp (by omega)) (fun q => absurd (ks24.mpr q) (by omega))
        exact ⟨by rw [hw, List.length_append, hk]; rfl, by rw [hw]; exact hA.add hk, OF.rf.up _⟩
    · refine lv_iload_n C.1 C.2.1 dX12_want_30 rfl (lv_at hl 3 rfl) ?_
      refine x_iret C hr hM ?_ dX12_want_31
      exact by
        have hw : wnt L acc v = acc := by
          refine wnt_no ?_
          first | (exact Or.inr (ks24.mp (by omega))) | (exact Or.inl (fun q => absurd (ks9.mpr q) (by omega)))
        exact ⟨by rw [hw, hk], by rw [hw]; exact hA, OF.rf⟩
