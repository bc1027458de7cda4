def layG (wh : Int) (c : Fn) (k : Int) : Fn := fun x => if 0 ≤ x ∧ x < k then 1 else if wh - k ≤ x ∧ x < wh then 2 else c x
theorem layG_0 (wh : Int) (c : Fn) : layG wh c 0 = c := by
  funext x
  unfold layG
  rw [if_neg (by omega), if_neg (by omega)]
theorem layG_s (wh : Int) (c : Fn) {i : Int} (h0 : 0 ≤ i) (h1 : 2 * (i + 1) ≤ wh) : ups (ups (layG wh c i) i 1) (wh - 1 - i) 2 = layG wh c (i + 1) := by
  funext x
  unfold ups layG
  by_cases e1 : x = wh - 1 - i
  · rw [if_pos e1, if_neg (by omega), if_pos (by omega)]
  · rw [if_neg e1]
    by_cases e2 : x = i
    · rw [if_pos e2, if_pos (by omega)]
    · rw [if_neg e2]
      by_cases e3 : 0 ≤ x ∧ x < i
      · rw [if_pos e3, if_pos (by omega)]
      · rw [if_neg e3]
        by_cases e4 : wh - i ≤ x ∧ x < wh
        · rw [if_pos e4, if_neg (by omega), if_pos (by omega)]
        · rw [if_neg e4, if_neg (by omega), if_neg (by omega)]
theorem lay_step {s1 s0 : Sg} {wh i : Int} (hs : s1 = upr s0 201 (layG wh (s0 201) i)) (h0 : 0 ≤ i) (h1 : 2 * (i + 1) ≤ wh) : upr (upr s1 201 (ups (s1 201) i 1)) 201 (ups (upr s1 201 (ups (s1 201) i 1) 201) (wh - 1 - i) 2) = upr s0 201 (layG wh (s0 201) (i + 1)) := by
  rw [upr_eq, upr_upr, hs, upr_eq, upr_upr, layG_s wh _ h0 h1]
def laR (s0 : Sg) (wh k : Int) : Sg := clM (upr (upr s0 201 (layG wh (s0 201) k)) 230 (ups (s0 230) 0 0)) (s0 209 0)
set_option maxRecDepth 100000 in
set_option maxHeartbeats 4000000 in
theorem lay_rest {pp : Program} {l : Launch} {ee : Env} {ss : State} {mm : MethodId} {args : Array Value} {below : List Frame} {meth : Method} {cq : Code} {H : Heap} {lc : List Loc} {Q : State → Prop} {D : va_G} {ad : Nat → Nat} {G : Nat → Nat} {A : Nat → Prop} {ids : List Nat} {nn : Nat} (hnn : nn ≤ 26) {ls : Array Slot} (C : Cx pp ss mm meth cq args cX12_lay 5 RX12 D G) (hA : ∀ q, ss.heap.size ≤ q → A q) (hJ : ∀ k, 100 ≤ k → k < 233 → k ∈ ids) {s0 : Sg} (hM : XE D ad G ids A ss.heap H lc s0 []) {w h f wh k : Int} (hl : lv_has ls 5 [(0, .ref (ad 100)), (1, .int (iI w)), (2, .int (iI h)), (3, .int (iI f))]) (hwh : s0 202 0 * s0 203 0 = wh) (hk : f * s0 202 0 = k) (hwb : 1 ≤ wh ∧ wh ≤ 25) (hkb : 0 ≤ k ∧ 2 * k ≤ wh) (hT : TI (mw s0)) (kk : ∀ (H1 : Heap) (lc1 : List Loc) (ls1 : Array Slot), XE D ad G ids A ss.heap H1 lc1 (laR s0 wh k) [] → W pp l ee (rma 4 1 26) ss mm args below meth cq H1 lc1 1 nn Q (F0 mm 89 ls1 [])) : W pp l ee (rma 4 1 26) ss mm args below meth cq H lc 1 nn Q (F0 mm 27 ls []) := by
  refine lv_iconst (v := iI 0) C.1 C.2.1 dX12_lay_27 (by decide) ?_
  refine lv_istore (lv' := [(4, .int (iI 0)), (0, .ref (ad 100)), (1, .int (iI w)), (2, .int (iI h)), (3, .int (iI f))]) C.1 C.2.1 dX12_lay_28 hl (by decide) rfl (fun ls hl => ?_)
  have L30 : ∀ (fu : Nat) (i : Int) (s1 : Sg) (H1 : Heap) (lc1 : List Loc) (ls1 : Array Slot), (0 ≤ i ∧ i ≤ k) → (s1 = upr s0 201 (layG wh (s0 201) i)) → (40 - i).toNat < fu → XE D ad G ids A ss.heap H1 lc1 s1 [] → lv_has ls1 5 [(4, .int (iI i)), (0, .ref (ad 100)), (1, .int (iI w)), (2, .int (iI h)), (3, .int (iI f))] → W pp l ee (rma 4 1 26) ss mm args below meth cq H1 lc1 1 nn Q (F0 mm 30 ls1 []) := by
    intro fu
    induction fu with
    | zero => intro i s1 H1 lc1 ls1 i0 hs hfu; exact absurd hfu (Nat.not_lt_zero _)
    | succ fu ih30 =>
      intro i s1 H1 lc1 ls1 i0 hs hfu hM hl
      refine lv_iload C.1 C.2.1 dX12_lay_30 (lv_at hl 0 rfl) ?_
      have hw1 : s1 202 0 * s1 203 0 = wh := by rw [hs]; exact hwh
      have hk1 : f * s1 202 0 = k := by rw [hs]; exact hk
      have hT9 : TI (mw (upr s1 230 (ups (s1 230) 0 0))) := hT.of (fun r hr => (upr_ne _ _ (by omega)).trans (by rw [hs]; exact upr_ne _ _ (by omega)))
      refine lv_iload_n C.1 C.2.1 dX12_lay_32 rfl (lv_at hl 4 rfl) ?_
      refine lv_aload_n C.1 C.2.1 dX12_lay_33 rfl (lv_at hl 1 rfl) ?_
      refine g_X12_1 C hM.x (hJ 100 (by decide) (by decide)) wf_X12_67 dX12_lay_34 ?_
      refine x_imul C dX12_lay_37 ?_
      refine x_icmp_ge C ⟨by omega, by omega⟩ ⟨by omega, by omega⟩ (tgt := 75) dX12_lay_38 (by decide) (fun c38 => ?_) (fun c38 => ?_)
      · refine lv_aload_n C.1 C.2.1 dX12_lay_75 rfl (lv_at hl 1 rfl) ?_
        refine lv_iconst (v := iI 0) C.1 C.2.1 dX12_lay_76 (by decide) ?_
        refine p_X12_5 C hM.x (hJ 100 (by decide) (by decide)) wf_X12_76 dX12_lay_77 (fun H1 lc1 hM => ?_)
        have hM := hM.e
        refine lv_aload_n C.1 C.2.1 dX12_lay_80 rfl (lv_at hl 1 rfl) ?_
        refine lv_aload_n C.1 C.2.1 dX12_lay_81 rfl (lv_at hl 1 rfl) ?_
        refine g_X12_11 C hM.x (hJ 100 (by decide) (by decide)) wf_X12_32 dX12_lay_82 ?_
        rw [upr_ne _ _ (show (209 : Nat) ≠ 230 by omega)]
        refine x_ciA hA (x_runVA (As := [.int (iI (s1 209 0))]) (rest := []) C (⟨by show _ ≤ (4 : Nat); omega, by show _ ≤ (40 * 4 : Nat); omega⟩) cw_X12_79 (MET.toA (c_X12_clear l D ad G ids hJ (upr s1 230 (ups (s1 230) 0 0)) (s1 209 0) hT9)) hM.x (hJ 100 (by decide) (by decide)) (cx_100 ad G _) rfl rfl rfl rfl (Nat.le_of_ble_eq_true rfl) hl.1 dX12_lay_85 ⟨Nat.le_of_ble_eq_true rfl, hnn⟩) hM (fun r85 s85 H1 lc1 hp hM => ?_)
        obtain ⟨rfl, rfl⟩ := hp
        refine lv_pop C.1 C.2.1 dX12_lay_88 rfl ?_
        have hik : i = k := by omega
        rw [hs, hik] at hM
        exact kk _ _ _ hM
      · refine lv_aload_n C.1 C.2.1 dX12_lay_41 rfl (lv_at hl 1 rfl) ?_
        refine g_X12_3 C hM.x (hJ 100 (by decide) (by decide)) wf_X12_73 dX12_lay_42 ?_
        refine lv_iload C.1 C.2.1 dX12_lay_45 (lv_at hl 0 rfl) ?_
        refine lv_iconst (v := iI 1) C.1 C.2.1 dX12_lay_47 (by decide) ?_
        refine as_now C hM.x (hJ 101 (by decide) (by decide)) (wh := wh) hw1 hwb (by omega) (by omega) dX12_lay_48 (fun H1 lc1 hM => ?_)
        have hM := hM.e
        refine lv_aload_n C.1 C.2.1 dX12_lay_49 rfl (lv_at hl 1 rfl) ?_
        refine g_X12_3 C hM.x (hJ 100 (by decide) (by decide)) wf_X12_73 dX12_lay_50 ?_
        refine lv_aload_n C.1 C.2.1 dX12_lay_53 rfl (lv_at hl 1 rfl) ?_
        refine g_X12_1 C hM.x (hJ 100 (by decide) (by decide)) wf_X12_67 dX12_lay_54 ?_
        rw [upr_ne _ _ (show (202 : Nat) ≠ 201 by omega)]
        refine lv_aload_n C.1 C.2.1 dX12_lay_57 rfl (lv_at hl 1 rfl) ?_
        refine g_X12_2 C hM.x (hJ 100 (by decide) (by decide)) wf_X12_70 dX12_lay_58 ?_
        rw [upr_ne _ _ (show (203 : Nat) ≠ 201 by omega)]
        refine x_imul C dX12_lay_61 ?_
        refine lv_iconst (v := iI 1) C.1 C.2.1 dX12_lay_62 (by decide) ?_
        refine x_isub C dX12_lay_63 ?_
        refine lv_iload C.1 C.2.1 dX12_lay_64 (lv_at hl 0 rfl) ?_
        refine x_isub C dX12_lay_66 ?_
        refine lv_iconst (v := iI 2) C.1 C.2.1 dX12_lay_67 (by decide) ?_
        refine as_now C hM.x (hJ 101 (by decide) (by decide)) (wh := wh) hw1 hwb (by omega) (by omega) dX12_lay_68 (fun H1 lc1 hM => ?_)
        have hM := hM.e
        refine x_iinc (lv1 := [(4, .int (iI (i + 1))), (0, .ref (ad 100)), (1, .int (iI w)), (2, .int (iI h)), (3, .int (iI f))]) C dX12_lay_69 hl (k := 0) rfl (by decide) rfl (fun ls hl => ?_)
        refine lv_goto (tgt := 30) C.1 C.2.1 dX12_lay_72 (by decide) ?_
        exact ih30 (i + 1) (upr (upr s1 201 (ups (s1 201) i 1)) 201 (ups ((upr s1 201 (ups (s1 201) i 1)) 201) ((((s1 202 0) * (s1 203 0)) - 1) - i) 2)) _ _ _ (by omega) (by rw [hw1]; exact lay_step hs i0.1 (by omega)) (by omega) hM (lv_sub hl [0, 1, 2, 3, 4] rfl)
  exact L30 _ 0 s0 _ _ _ (by omega) (by rw [layG_0, upr_self]) (Nat.lt_succ_self _) hM (lv_sub hl [0, 1, 2, 3, 4] rfl)
