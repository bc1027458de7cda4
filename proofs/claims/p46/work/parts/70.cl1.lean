/-! the class's lay -/
def layN (wh k : Int) (c : Fn) (i : Int) : Fn := fun x => if 0 ≤ x ∧ x < i then (if x < k then 1 else if wh - k ≤ x ∧ x < wh then 2 else 0) else c x
theorem layN_0 (wh k : Int) (c : Fn) : layN wh k c 0 = c := by
  funext x
  unfold layN
  rw [if_neg (by omega)]
theorem layN_s (wh k : Int) (c : Fn) {i v : Int} (h0 : 0 ≤ i) (hv : (if i < k then (1 : Int) else if wh - k ≤ i ∧ i < wh then 2 else 0) = v) : ups (layN wh k c i) i v = layN wh k c (i + 1) := by
  funext x
  unfold ups
  by_cases e : x = i
  · subst e
    rw [if_pos rfl]
    unfold layN
    rw [if_pos (by omega), hv]
  · rw [if_neg e]
    unfold layN
    by_cases q : 0 ≤ x ∧ x < i
    · rw [if_pos q, if_pos (show 0 ≤ x ∧ x < i + 1 by omega)]
    · rw [if_neg q, if_neg (show ¬ (0 ≤ x ∧ x < i + 1) by omega)]
def laC (σ : Sg) (w h k : Int) : Sg := upr (upr (upr (upr σ 2 (ups (σ 2) 0 w)) 3 (ups (σ 3) 0 h)) 4 (ups (σ 4) 0 0)) 1 (layN (w * h) k (σ 1) 25)
theorem lay_same {wh k : Int} {c : Fn} (hc : ∀ i : Int, (i < 0 ∨ 25 ≤ i) → c i = 0) (hk : 0 ≤ k ∧ 2 * k ≤ wh) (hw : wh ≤ 25) : layN wh k c 25 = layG wh (fun _ => 0) k := by
  funext x
  unfold layN layG
  by_cases q : 0 ≤ x ∧ x < 25
  · rw [if_pos q]
    by_cases e : x < k
    · rw [if_pos e, if_pos (by omega)]
    · rw [if_neg e, if_neg (show ¬ (0 ≤ x ∧ x < k) by omega)]
  · rw [if_neg q, hc x (by omega), if_neg (by omega), if_neg (by omega)]
set_option maxRecDepth 100000 in
set_option maxHeartbeats 4000000 in
theorem c_X0_lay (l : Launch) (D : va_G) (ad : Nat → Nat) (G : Nat → Nat) (ids : List Nat) (hk1 : 1 ∈ ids) (hk2 : 2 ∈ ids) (σ : Sg) (w h f : Int) (hkb : 0 ≤ f * w ∧ 2 * (f * w) ≤ w * h) (hwb : w * h ≤ 25) : MET l yX0_lay cX0_lay 9 none 1 [.ref (ad 1), .int (iI w), .int (iI h), .int (iI f)] D ad G ids σ (QV D ad G ids (fun σ' => laC σ w h (f * w) = σ')) := by
  refine x_enter (by decide) (Nat.le_of_ble_eq_true rfl) ?_
  intro pp ee ss mm args below meth cq C hr ls hl hM
  have hl : lv_has ls 9 [(0, .ref (ad 1)), (1, .int (iI w)), (2, .int (iI h)), (3, .int (iI f))] := hl
  refine lv_aload_n C.1 C.2.1 dX0_lay_0 rfl (lv_at hl 0 rfl) ?_
  refine lv_iload_n C.1 C.2.1 dX0_lay_1 rfl (lv_at hl 1 rfl) ?_
  refine p_X0_1 C hM hk1 wf_X0_19 dX0_lay_2 (fun H1 lc1 hM => ?_)
  refine lv_aload_n C.1 C.2.1 dX0_lay_5 rfl (lv_at hl 0 rfl) ?_
  refine lv_iload_n C.1 C.2.1 dX0_lay_6 rfl (lv_at hl 2 rfl) ?_
  refine p_X0_2 C hM hk1 wf_X0_23 dX0_lay_7 (fun H1 lc1 hM => ?_)
  refine lv_aload_n C.1 C.2.1 dX0_lay_10 rfl (lv_at hl 0 rfl) ?_
  refine lv_iconst (v := iI 0) C.1 C.2.1 dX0_lay_11 (by decide) ?_
  refine p_X0_3 C hM hk1 wf_X0_26 dX0_lay_12 (fun H1 lc1 hM => ?_)
  refine lv_aload_n C.1 C.2.1 dX0_lay_15 rfl (lv_at hl 0 rfl) ?_
  refine g_X0_1 C hM hk1 wf_X0_19 dX0_lay_16 ?_
  rw [upr_ne _ _ (show (2 : Nat) ≠ 4 by omega)]
  rw [upr_ne _ _ (show (2 : Nat) ≠ 3 by omega)]
  rw [upr_eq, ups_eq]
  refine lv_aload_n C.1 C.2.1 dX0_lay_19 rfl (lv_at hl 0 rfl) ?_
  refine g_X0_2 C hM hk1 wf_X0_23 dX0_lay_20 ?_
  rw [upr_ne _ _ (show (3 : Nat) ≠ 4 by omega)]
  rw [upr_eq, ups_eq]
  refine x_imul C dX0_lay_23 ?_
  refine lv_istore (lv' := [(4, .int (iI (w * h))), (0, .ref (ad 1)), (1, .int (iI w)), (2, .int (iI h)), (3, .int (iI f))]) C.1 C.2.1 dX0_lay_24 hl (by decide) rfl (fun ls hl => ?_)
  refine lv_iload_n C.1 C.2.1 dX0_lay_26 rfl (lv_at hl 4 rfl) ?_
  refine lv_aload_n C.1 C.2.1 dX0_lay_27 rfl (lv_at hl 1 rfl) ?_
  refine g_X0_1 C hM hk1 wf_X0_19 dX0_lay_28 ?_
  rw [upr_ne _ _ (show (2 : Nat) ≠ 4 by omega)]
  rw [upr_ne _ _ (show (2 : Nat) ≠ 3 by omega)]
  rw [upr_eq, ups_eq]
  refine x_imul C dX0_lay_31 ?_
  refine lv_istore (lv' := [(5, .int (iI (f * w))), (4, .int (iI (w * h))), (0, .ref (ad 1)), (1, .int (iI w)), (2, .int (iI h)), (3, .int (iI f))]) C.1 C.2.1 dX0_lay_32 hl (by decide) rfl (fun ls hl => ?_)
  refine lv_iconst (v := iI 0) C.1 C.2.1 dX0_lay_34 (by decide) ?_
  refine lv_istore (lv' := [(6, .int (iI 0)), (5, .int (iI (f * w))), (4, .int (iI (w * h))), (0, .ref (ad 1)), (1, .int (iI w)), (2, .int (iI h)), (3, .int (iI f))]) C.1 C.2.1 dX0_lay_35 hl (by decide) rfl (fun ls hl => ?_)
  obtain ⟨s0, hs0⟩ : ∃ sx_ : Sg, sx_ = upr (upr (upr σ 2 (ups (σ 2) 0 w)) 3 (ups ((upr σ 2 (ups (σ 2) 0 w)) 3) 0 h)) 4 (ups ((upr (upr σ 2 (ups (σ 2) 0 w)) 3 (ups ((upr σ 2 (ups (σ 2) 0 w)) 3) 0 h)) 4) 0 0) := ⟨_, rfl⟩
  rw [← hs0] at hM
  have L37 : ∀ (fu : Nat) (i : Int) (s1 : Sg) (H1 : Heap) (lc1 : List Loc) (ls1 : Array Slot), (0 ≤ i ∧ i ≤ 25) → (s1 = upr s0 1 (layN (w * h) (f * w) (s0 1) i)) → (40 - i).toNat < fu → XI D ad G ids (AN ad ids ss.heap.size) ss.heap H1 lc1 s1 → lv_has ls1 9 [(6, .int (iI i)), (5, .int (iI (f * w))), (4, .int (iI (w * h))), (0, .ref (ad 1)), (1, .int (iI w)), (2, .int (iI h)), (3, .int (iI f))] → W pp l ee (rmh 1) ss mm args below meth cq H1 lc1 0 0 (MQ below (QV D ad G ids (fun σ' => laC σ w h (f * w) = σ') ss.heap.size) args ss 0 0 (AN ad ids ss.heap.size)) (F0 mm 37 ls1 []) := by
    intro fu
    induction fu with
    | zero => intro i s1 H1 lc1 ls1 i0 hs hfu; exact absurd hfu (Nat.not_lt_zero _)
    | succ fu ih37 =>
      intro i s1 H1 lc1 ls1 i0 hs hfu hM hl
      refine lv_iload C.1 C.2.1 dX0_lay_37 (lv_at hl 0 rfl) ?_
      refine lv_aload_n C.1 C.2.1 dX0_lay_39 rfl (lv_at hl 3 rfl) ?_
      refine g_X0_0 C hM hk1 wf_X0_9 dX0_lay_40 ?_
      refine ln_2 C hM hk2 dX0_lay_43 ?_
      refine x_icmp_ge C ⟨by omega, by omega⟩ ⟨by omega, by omega⟩ (tgt := 117) dX0_lay_44 (by decide) (fun c44 => ?_) (fun c44 => ?_)
      · refine x_vret C hr hM ?_ dX0_lay_117
        exact by
          rw [hs, show i = 25 by omega, hs0]
          rfl
      · refine lv_iload C.1 C.2.1 dX0_lay_47 (lv_at hl 0 rfl) ?_
        refine lv_iload C.1 C.2.1 dX0_lay_49 (lv_at hl 1 rfl) ?_
        refine x_icmp_ge C ⟨by omega, by omega⟩ ⟨by omega, by omega⟩ (tgt := 58) dX0_lay_51 (by decide) (fun c51 => ?_) (fun c51 => ?_)
        · refine lv_iconst (v := iI 0) C.1 C.2.1 dX0_lay_58 (by decide) ?_
          refine lv_istore (lv' := [(7, .int (iI 0)), (6, .int (iI i)), (5, .int (iI (f * w))), (4, .int (iI (w * h))), (0, .ref (ad 1)), (1, .int (iI w)), (2, .int (iI h)), (3, .int (iI f))]) C.1 C.2.1 dX0_lay_59 hl (by decide) rfl (fun ls hl => ?_)
          refine lv_iload C.1 C.2.1 dX0_lay_61 (lv_at hl 1 rfl) ?_
          refine lv_iload C.1 C.2.1 dX0_lay_63 (lv_at hl 3 rfl) ?_
          refine lv_iload C.1 C.2.1 dX0_lay_65 (lv_at hl 2 rfl) ?_
          refine x_isub C dX0_lay_67 ?_
          refine x_icmp_lt C ⟨by omega, by omega⟩ ⟨by omega, by omega⟩ (tgt := 82) dX0_lay_68 (by decide) (fun c68 => ?_) (fun c68 => ?_)
          · refine lv_iconst (v := iI 0) C.1 C.2.1 dX0_lay_82 (by decide) ?_
            refine lv_istore (lv' := [(8, .int (iI 0)), (7, .int (iI 0)), (6, .int (iI i)), (5, .int (iI (f * w))), (4, .int (iI (w * h))), (0, .ref (ad 1)), (1, .int (iI w)), (2, .int (iI h)), (3, .int (iI f))]) C.1 C.2.1 dX0_lay_83 hl (by decide) rfl (fun ls hl => ?_)
            refine lv_aload_n C.1 C.2.1 dX0_lay_85 rfl (lv_at hl 5 rfl) ?_
            refine g_X0_0 C hM hk1 wf_X0_9 dX0_lay_86 ?_
            refine lv_iload C.1 C.2.1 dX0_lay_89 (lv_at hl 2 rfl) ?_
            refine lv_iload C.1 C.2.1 dX0_lay_91 (lv_at hl 1 rfl) ?_
            refine x_if_eq C ⟨by omega, by omega⟩ (tgt := 100) dX0_lay_93 (by decide) (fun c93 => ?_) (fun c93 => ?_)
            · refine lv_iload C.1 C.2.1 dX0_lay_100 (lv_at hl 0 rfl) ?_
              refine x_if_eq C ⟨by omega, by omega⟩ (tgt := 109) dX0_lay_102 (by decide) (fun c102 => ?_) (fun c102 => ?_)
              · refine lv_iconst (v := iI 0) C.1 C.2.1 dX0_lay_109 (by decide) ?_
                refine as_2 C hM hk2 (by omega) (by omega) dX0_lay_110 (fun H1 lc1 hM => ?_)
                refine x_iinc (lv1 := [(6, .int (iI (i + 1))), (8, .int (iI 0)), (7, .int (iI 0)), (5, .int (iI (f * w))), (4, .int (iI (w * h))), (0, .ref (ad 1)), (1, .int (iI w)), (2, .int (iI h)), (3, .int (iI f))]) C dX0_lay_111 hl (k := 2) rfl (by decide) rfl (fun ls hl => ?_)
                refine lv_goto (tgt := 37) C.1 C.2.1 dX0_lay_114 (by decide) ?_
                exact ih37 (i + 1) (upr s1 1 (ups (s1 1) i 0)) _ _ _ (by omega) (by rw [hs, upr_eq, upr_upr, layN_s (w * h) (f * w) (s0 1) i0.1 (by first | (exfalso; omega) | rw [if_pos (by omega)] | rw [if_neg (by omega), if_pos (by omega)] | rw [if_neg (by omega), if_neg (by omega)])]) (by omega) hM (lv_sub hl [0, 3, 4, 5, 6, 7, 8] rfl)
              · refine lv_iconst (v := iI 2) C.1 C.2.1 dX0_lay_105 (by decide) ?_
                refine lv_goto (tgt := 110) C.1 C.2.1 dX0_lay_106 (by decide) ?_
                refine as_2 C hM hk2 (by omega) (by omega) dX0_lay_110 (fun H1 lc1 hM => ?_)
                refine x_iinc (lv1 := [(6, .int (iI (i + 1))), (8, .int (iI 0)), (7, .int (iI 0)), (5, .int (iI (f * w))), (4, .int (iI (w * h))), (0, .ref (ad 1)), (1, .int (iI w)), (2, .int (iI h)), (3, .int (iI f))]) C dX0_lay_111 hl (k := 2) rfl (by decide) rfl (fun ls hl => ?_)
                refine lv_goto (tgt := 37) C.1 C.2.1 dX0_lay_114 (by decide) ?_
                exact ih37 (i + 1) (upr s1 1 (ups (s1 1) i 2)) _ _ _ (by omega) (by rw [hs, upr_eq, upr_upr, layN_s (w * h) (f * w) (s0 1) i0.1 (by first | (exfalso; omega) | rw [if_pos (by omega)] | rw [if_neg (by omega), if_pos (by omega)] | rw [if_neg (by omega), if_neg (by omega)])]) (by omega) hM (lv_sub hl [0, 3, 4, 5, 6, 7, 8] rfl)
            · refine lv_iconst (v := iI 1) C.1 C.2.1 dX0_lay_96 (by decide) ?_
              refine lv_goto (tgt := 110) C.1 C.2.1 dX0_lay_97 (by decide) ?_
              refine as_2 C hM hk2 (by omega) (by omega) dX0_lay_110 (fun H1 lc1 hM => ?_)
              refine x_iinc (lv1 := [(6, .int (iI (i + 1))), (8, .int (iI 0)), (7, .int (iI 0)), (5, .int (iI (f * w))), (4, .int (iI (w * h))), (0, .ref (ad 1)), (1, .int (iI w)), (2, .int (iI h)), (3, .int (iI f))]) C dX0_lay_111 hl (k := 2) rfl (by decide) rfl (fun ls hl => ?_)
              refine lv_goto (tgt := 37) C.1 C.2.1 dX0_lay_114 (by decide) ?_
              exact ih37 (i + 1) (upr s1 1 (ups (s1 1) i 1)) _ _ _ (by omega) (by rw [hs, upr_eq, upr_upr, layN_s (w * h) (f * w) (s0 1) i0.1 (by first | (exfalso; omega) | rw [if_pos (by omega)] | rw [if_neg (by omega), if_pos (by omega)] | rw [if_neg (by omega), if_neg (by omega)])]) (by omega) hM (lv_sub hl [0, 3, 4, 5, 6, 7, 8] rfl)
          · refine lv_iload C.1 C.2.1 dX0_lay_71 (lv_at hl 1 rfl) ?_
            refine lv_iload C.1 C.2.1 dX0_lay_73 (lv_at hl 3 rfl) ?_
            refine x_icmp_ge C ⟨by omega, by omega⟩ ⟨by omega, by omega⟩ (tgt := 82) dX0_lay_75 (by decide) (fun c75 => ?_) (fun c75 => ?_)
            · refine lv_iconst (v := iI 0) C.1 C.2.1 dX0_lay_82 (by decide) ?_
              refine lv_istore (lv' := [(8, .int (iI 0)), (7, .int (iI 0)), (6, .int (iI i)), (5, .int (iI (f * w))), (4, .int (iI (w * h))), (0, .ref (ad 1)), (1, .int (iI w)), (2, .int (iI h)), (3, .int (iI f))]) C.1 C.2.1 dX0_lay_83 hl (by decide) rfl (fun ls hl => ?_)
              refine lv_aload_n C.1 C.2.1 dX0_lay_85 rfl (lv_at hl 5 rfl) ?_
              refine g_X0_0 C hM hk1 wf_X0_9 dX0_lay_86 ?_
              refine lv_iload C.1 C.2.1 dX0_lay_89 (lv_at hl 2 rfl) ?_
              refine lv_iload C.1 C.2.1 dX0_lay_91 (lv_at hl 1 rfl) ?_
              refine x_if_eq C ⟨by omega, by omega⟩ (tgt := 100) dX0_lay_93 (by decide) (fun c93 => ?_) (fun c93 => ?_)
              · refine lv_iload C.1 C.2.1 dX0_lay_100 (lv_at hl 0 rfl) ?_
                refine x_if_eq C ⟨by omega, by omega⟩ (tgt := 109) dX0_lay_102 (by decide) (fun c102 => ?_) (fun c102 => ?_)
                · refine lv_iconst (v := iI 0) C.1 C.2.1 dX0_lay_109 (by decide) ?_
                  refine as_2 C hM hk2 (by omega) (by omega) dX0_lay_110 (fun H1 lc1 hM => ?_)
                  refine x_iinc (lv1 := [(6, .int (iI (i + 1))), (8, .int (iI 0)), (7, .int (iI 0)), (5, .int (iI (f * w))), (4, .int (iI (w * h))), (0, .ref (ad 1)), (1, .int (iI w)), (2, .int (iI h)), (3, .int (iI f))]) C dX0_lay_111 hl (k := 2) rfl (by decide) rfl (fun ls hl => ?_)
                  refine lv_goto (tgt := 37) C.1 C.2.1 dX0_lay_114 (by decide) ?_
                  exact ih37 (i + 1) (upr s1 1 (ups (s1 1) i 0)) _ _ _ (by omega) (by rw [hs, upr_eq, upr_upr, layN_s (w * h) (f * w) (s0 1) i0.1 (by first | (exfalso; omega) | rw [if_pos (by omega)] | rw [if_neg (by omega), if_pos (by omega)] | rw [if_neg (by omega), if_neg (by omega)])]) (by omega) hM (lv_sub hl [0, 3, 4, 5, 6, 7, 8] rfl)
                · refine lv_iconst (v := iI 2) C.1 C.2.1 dX0_lay_105 (by decide) ?_
                  refine lv_goto (tgt := 110) C.1 C.2.1 dX0_lay_106 (by decide) ?_
                  refine as_2 C hM hk2 (by omega) (by omega) dX0_lay_110 (fun H1 lc1 hM => ?_)
                  refine x_iinc (lv1 := [(6, .int (iI (i + 1))), (8, .int (iI 0)), (7, .int (iI 0)), (5, .int (iI (f * w))), (4, .int (iI (w * h))), (0, .ref (ad 1)), (1, .int (iI w)), (2, .int (iI h)), (3, .int (iI f))]) C dX0_lay_111 hl (k := 2) rfl (by decide) rfl (fun ls hl => ?_)
                  refine lv_goto (tgt := 37) C.1 C.2.1 dX0_lay_114 (by decide) ?_
                  exact ih37 (i + 1) (upr s1 1 (ups (s1 1) i 2)) _ _ _ (by omega) (by rw [hs, upr_eq, upr_upr, layN_s (w * h) (f * w) (s0 1) i0.1 (by first | (exfalso; omega) | rw [if_pos (by omega)] | rw [if_neg (by omega), if_pos (by omega)] | rw [if_neg (by omega), if_neg (by omega)])]) (by omega) hM (lv_sub hl [0, 3, 4, 5, 6, 7, 8] rfl)
              · refine lv_iconst (v := iI 1) C.1 C.2.1 dX0_lay_96 (by decide) ?_
                refine lv_goto (tgt := 110) C.1 C.2.1 dX0_lay_97 (by decide) ?_
                refine as_2 C hM hk2 (by omega) (by omega) dX0_lay_110 (fun H1 lc1 hM => ?_)
                refine x_iinc (lv1 := [(6, .int (iI (i + 1))), (8, .int (iI 0)), (7, .int (iI 0)), (5, .int (iI (f * w))), (4, .int (iI (w * h))), (0, .ref (ad 1)), (1, .int (iI w)), (2, .int (iI h)), (3, .int (iI f))]) C dX0_lay_111 hl (k := 2) rfl (by decide) rfl (fun ls hl => ?_)
                refine lv_goto (tgt := 37) C.1 C.2.1 dX0_lay_114 (by decide) ?_
                exact ih37 (i + 1) (upr s1 1 (ups (s1 1) i 1)) _ _ _ (by omega) (by rw [hs, upr_eq, upr_upr, layN_s (w * h) (f * w) (s0 1) i0.1 (by first | (exfalso; omega) | rw [if_pos (by omega)] | rw [if_neg (by omega), if_pos (by omega)] | rw [if_neg (by omega), if_neg (by omega)])]) (by omega) hM (lv_sub hl [0, 3, 4, 5, 6, 7, 8] rfl)
            · refine lv_iconst (v := iI 1) C.1 C.2.1 dX0_lay_78 (by decide) ?_
              refine lv_goto (tgt := 83) C.1 C.2.1 dX0_lay_79 (by decide) ?_
              refine lv_istore (lv' := [(8, .int (iI 1)), (7, .int (iI 0)), (6, .int (iI i)), (5, .int (iI (f * w))), (4, .int (iI (w * h))), (0, .ref (ad 1)), (1, .int (iI w)), (2, .int (iI h)), (3, .int (iI f))]) C.1 C.2.1 dX0_lay_83 hl (by decide) rfl (fun ls hl => ?_)
              refine lv_aload_n C.1 C.2.1 dX0_lay_85 rfl (lv_at hl 5 rfl) ?_
              refine g_X0_0 C hM hk1 wf_X0_9 dX0_lay_86 ?_
              refine lv_iload C.1 C.2.1 dX0_lay_89 (lv_at hl 2 rfl) ?_
              refine lv_iload C.1 C.2.1 dX0_lay_91 (lv_at hl 1 rfl) ?_
              refine x_if_eq C ⟨by omega, by omega⟩ (tgt := 100) dX0_lay_93 (by decide) (fun c93 => ?_) (fun c93 => ?_)
              · refine lv_iload C.1 C.2.1 dX0_lay_100 (lv_at hl 0 rfl) ?_
                refine x_if_eq C ⟨by omega, by omega⟩ (tgt := 109) dX0_lay_102 (by decide) (fun c102 => ?_) (fun c102 => ?_)
                · refine lv_iconst (v := iI 0) C.1 C.2.1 dX0_lay_109 (by decide) ?_
                  refine as_2 C hM hk2 (by omega) (by omega) dX0_lay_110 (fun H1 lc1 hM => ?_)
                  refine x_iinc (lv1 := [(6, .int (iI (i + 1))), (8, .int (iI 1)), (7, .int (iI 0)), (5, .int (iI (f * w))), (4, .int (iI (w * h))), (0, .ref (ad 1)), (1, .int (iI w)), (2, .int (iI h)), (3, .int (iI f))]) C dX0_lay_111 hl (k := 2) rfl (by decide) rfl (fun ls hl => ?_)
                  refine lv_goto (tgt := 37) C.1 C.2.1 dX0_lay_114 (by decide) ?_
                  exact ih37 (i + 1) (upr s1 1 (ups (s1 1) i 0)) _ _ _ (by omega) (by rw [hs, upr_eq, upr_upr, layN_s (w * h) (f * w) (s0 1) i0.1 (by first | (exfalso; omega) | rw [if_pos (by omega)] | rw [if_neg (by omega), if_pos (by omega)] | rw [if_neg (by omega), if_neg (by omega)])]) (by omega) hM (lv_sub hl [0, 3, 4, 5, 6, 7, 8] rfl)
                · refine lv_iconst (v := iI 2) C.1 C.2.1 dX0_lay_105 (by decide) ?_
                  refine lv_goto (tgt := 110) C.1 C.2.1 dX0_lay_106 (by decide) ?_
                  refine as_2 C hM hk2 (by omega) (by omega) dX0_lay_110 (fun H1 lc1 hM => ?_)
                  refine x_iinc (lv1 := [(6, .int (iI (i + 1))), (8, .int (iI 1)), (7, .int (iI 0)), (5, .int (iI (f * w))), (4, .int (iI (w * h))), (0, .ref (ad 1)), (1, .int (iI w)), (2, .int (iI h)), (3, .int (iI f))]) C dX0_lay_111 hl (k := 2) rfl (by decide) rfl (fun ls hl => ?_)
                  refine lv_goto (tgt := 37) C.1 C.2.1 dX0_lay_114 (by decide) ?_
                  exact ih37 (i + 1) (upr s1 1 (ups (s1 1) i 2)) _ _ _ (by omega) (by rw [hs, upr_eq, upr_upr, layN_s (w * h) (f * w) (s0 1) i0.1 (by first | (exfalso; omega) | rw [if_pos (by omega)] | rw [if_neg (by omega), if_pos (by omega)] | rw [if_neg (by omega), if_neg (by omega)])]) (by omega) hM (lv_sub hl [0, 3, 4, 5, 6, 7, 8] rfl)
              · refine lv_iconst (v := iI 1) C.1 C.2.1 dX0_lay_96 (by decide) ?_
                refine lv_goto (tgt := 110) C.1 C.2.1 dX0_lay_97 (by decide) ?_
                refine as_2 C hM hk2 (by omega) (by omega) dX0_lay_110 (fun H1 lc1 hM => ?_)
                refine x_iinc (lv1 := [(6, .int (iI (i + 1))), (8, .int (iI 1)), (7, .int (iI 0)), (5, .int (iI (f * w))), (4, .int (iI (w * h))), (0, .ref (ad 1)), (1, .int (iI w)), (2, .int (iI h)), (3, .int (iI f))]) C dX0_lay_111 hl (k := 2) rfl (by decide) rfl (fun ls hl => ?_)
                refine lv_goto (tgt := 37) C.1 C.2.1 dX0_lay_114 (by decide) ?_
                exact ih37 (i + 1) (upr s1 1 (ups (s1 1) i 1)) _ _ _ (by omega) (by rw [hs, upr_eq, upr_upr, layN_s (w * h) (f * w) (s0 1) i0.1 (by first | (exfalso; omega) | rw [if_pos (by omega)] | rw [if_neg (by omega), if_pos (by omega)] | rw [if_neg (by omega), if_neg (by omega)])]) (by omega) hM (lv_sub hl [0, 3, 4, 5, 6, 7, 8] rfl)
        · refine lv_iconst (v := iI 1) C.1 C.2.1 dX0_lay_54 (by decide) ?_
          refine lv_goto (tgt := 59) C.1 C.2.1 dX0_lay_55 (by decide) ?_
          refine lv_istore (lv' := [(7, .int (iI 1)), (6, .int (iI i)), (5, .int (iI (f * w))), (4, .int (iI (w * h))), (0, .ref (ad 1)), (1, .int (iI w)), (2, .int (iI h)), (3, .int (iI f))]) C.1 C.2.1 dX0_lay_59 hl (by decide) rfl (fun ls hl => ?_)
          refine lv_iload C.1 C.2.1 dX0_lay_61 (lv_at hl 1 rfl) ?_
          refine lv_iload C.1 C.2.1 dX0_lay_63 (lv_at hl 3 rfl) ?_
          refine lv_iload C.1 C.2.1 dX0_lay_65 (lv_at hl 2 rfl) ?_
          refine x_isub C dX0_lay_67 ?_
          refine x_icmp_lt C ⟨by omega, by omega⟩ ⟨by omega, by omega⟩ (tgt := 82) dX0_lay_68 (by decide) (fun c68 => ?_) (fun c68 => ?_)
          · refine lv_iconst (v := iI 0) C.1 C.2.1 dX0_lay_82 (by decide) ?_
            refine lv_istore (lv' := [(8, .int (iI 0)), (7, .int (iI 1)), (6, .int (iI i)), (5, .int (iI (f * w))), (4, .int (iI (w * h))), (0, .ref (ad 1)), (1, .int (iI w)), (2, .int (iI h)), (3, .int (iI f))]) C.1 C.2.1 dX0_lay_83 hl (by decide) rfl (fun ls hl => ?_)
            refine lv_aload_n C.1 C.2.1 dX0_lay_85 rfl (lv_at hl 5 rfl) ?_
            refine g_X0_0 C hM hk1 wf_X0_9 dX0_lay_86 ?_
            refine lv_iload C.1 C.2.1 dX0_lay_89 (lv_at hl 2 rfl) ?_
            refine lv_iload C.1 C.2.1 dX0_lay_91 (lv_at hl 1 rfl) ?_
            refine x_if_eq C ⟨by omega, by omega⟩ (tgt := 100) dX0_lay_93 (by decide) (fun c93 => ?_) (fun c93 => ?_)
            · refine lv_iload C.1 C.2.1 dX0_lay_100 (lv_at hl 0 rfl) ?_
              refine x_if_eq C ⟨by omega, by omega⟩ (tgt := 109) dX0_lay_102 (by decide) (fun c102 => ?_) (fun c102 => ?_)
              · refine lv_iconst (v := iI 0) C.1 C.2.1 dX0_lay_109 (by decide) ?_
                refine as_2 C hM hk2 (by omega) (by omega) dX0_lay_110 (fun H1 lc1 hM => ?_)
                refine x_iinc (lv1 := [(6, .int (iI (i + 1))), (8, .int (iI 0)), (7, .int (iI 1)), (5, .int (iI (f * w))), (4, .int (iI (w * h))), (0, .ref (ad 1)), (1, .int (iI w)), (2, .int (iI h)), (3, .int (iI f))]) C dX0_lay_111 hl (k := 2) rfl (by decide) rfl (fun ls hl => ?_)
                refine lv_goto (tgt := 37) C.1 C.2.1 dX0_lay_114 (by decide) ?_
                exact ih37 (i + 1) (upr s1 1 (ups (s1 1) i 0)) _ _ _ (by omega) (by rw [hs, upr_eq, upr_upr, layN_s (w * h) (f * w) (s0 1) i0.1 (by first | (exfalso; omega) | rw [if_pos (by omega)] | rw [if_neg (by omega), if_pos (by omega)] | rw [if_neg (by omega), if_neg (by omega)])]) (by omega) hM (lv_sub hl [0, 3, 4, 5, 6, 7, 8] rfl)
              · refine lv_iconst (v := iI 2) C.1 C.2.1 dX0_lay_105 (by decide) ?_
                refine lv_goto (tgt := 110) C.1 C.2.1 dX0_lay_106 (by decide) ?_
                refine as_2 C hM hk2 (by omega) (by omega) dX0_lay_110 (fun H1 lc1 hM => ?_)
                refine x_iinc (lv1 := [(6, .int (iI (i + 1))), (8, .int (iI 0)), (7, .int (iI 1)), (5, .int (iI (f * w))), (4, .int (iI (w * h))), (0, .ref (ad 1)), (1, .int (iI w)), (2, .int (iI h)), (3, .int (iI f))]) C dX0_lay_111 hl (k := 2) rfl (by decide) rfl (fun ls hl => ?_)
                refine lv_goto (tgt := 37) C.1 C.2.1 dX0_lay_114 (by decide) ?_
                exact ih37 (i + 1) (upr s1 1 (ups (s1 1) i 2)) _ _ _ (by omega) (by rw [hs, upr_eq, upr_upr, layN_s (w * h) (f * w) (s0 1) i0.1 (by first | (exfalso; omega) | rw [if_pos (by omega)] | rw [if_neg (by omega), if_pos (by omega)] | rw [if_neg (by omega), if_neg (by omega)])]) (by omega) hM (lv_sub hl [0, 3, 4, 5, 6, 7, 8] rfl)
            · refine lv_iconst (v := iI 1) C.1 C.2.1 dX0_lay_96 (by decide) ?_
              refine lv_goto (tgt := 110) C.1 C.2.1 dX0_lay_97 (by decide) ?_
              refine as_2 C hM hk2 (by omega) (by omega) dX0_lay_110 (fun H1 lc1 hM => ?_)
              refine x_iinc (lv1 := [(6, .int (iI (i + 1))), (8, .int (iI 0)), (7, .int (iI 1)), (5, .int (iI (f * w))), (4, .int (iI (w * h))), (0, .ref (ad 1)), (1, .int (iI w)), (2, .int (iI h)), (3, .int (iI f))]) C dX0_lay_111 hl (k := 2) rfl (by decide) rfl (fun ls hl => ?_)
              refine lv_goto (tgt := 37) C.1 C.2.1 dX0_lay_114 (by decide) ?_
              exact ih37 (i + 1) (upr s1 1 (ups (s1 1) i 1)) _ _ _ (by omega) (by rw [hs, upr_eq, upr_upr, layN_s (w * h) (f * w) (s0 1) i0.1 (by first | (exfalso; omega) | rw [if_pos (by omega)] | rw [if_neg (by omega), if_pos (by omega)] | rw [if_neg (by omega), if_neg (by omega)])]) (by omega) hM (lv_sub hl [0, 3, 4, 5, 6, 7, 8] rfl)
          · refine lv_iload C.1 C.2.1 dX0_lay_71 (lv_at hl 1 rfl) ?_
            refine lv_iload C.1 C.2.1 dX0_lay_73 (lv_at hl 3 rfl) ?_
            refine x_icmp_ge C ⟨by omega, by omega⟩ ⟨by omega, by omega⟩ (tgt := 82) dX0_lay_75 (by decide) (fun c75 => ?_) (fun c75 => ?_)
            · refine lv_iconst (v := iI 0) C.1 C.2.1 dX0_lay_82 (by decide) ?_
              refine lv_istore (lv' := [(8, .int (iI 0)), (7, .int (iI 1)), (6, .int (iI i)), (5, .int (iI (f * w))), (4, .int (iI (w * h))), (0, .ref (ad 1)), (1, .int (iI w)), (2, .int (iI h)), (3, .int (iI f))]) C.1 C.2.1 dX0_lay_83 hl (by decide) rfl (fun ls hl => ?_)
              refine lv_aload_n C.1 C.2.1 dX0_lay_85 rfl (lv_at hl 5 rfl) ?_
              refine g_X0_0 C hM hk1 wf_X0_9 dX0_lay_86 ?_
              refine lv_iload C.1 C.2.1 dX0_lay_89 (lv_at hl 2 rfl) ?_
              refine lv_iload C.1 C.2.1 dX0_lay_91 (lv_at hl 1 rfl) ?_
              refine x_if_eq C ⟨by omega, by omega⟩ (tgt := 100) dX0_lay_93 (by decide) (fun c93 => ?_) (fun c93 => ?_)
              · refine lv_iload C.1 C.2.1 dX0_lay_100 (lv_at hl 0 rfl) ?_
                refine x_if_eq C ⟨by omega, by omega⟩ (tgt := 109) dX0_lay_102 (by decide) (fun c102 => ?_) (fun c102 => ?_)
                · refine lv_iconst (v := iI 0) C.1 C.2.1 dX0_lay_109 (by decide) ?_
                  refine as_2 C hM hk2 (by omega) (by omega) dX0_lay_110 (fun H1 lc1 hM => ?_)
                  refine x_iinc (lv1 := [(6, .int (iI (i + 1))), (8, .int (iI 0)), (7, .int (iI 1)), (5, .int (iI (f * w))), (4, .int (iI (w * h))), (0, .ref (ad 1)), (1, .int (iI w)), (2, .int (iI h)), (3, .int (iI f))]) C dX0_lay_111 hl (k := 2) rfl (by decide) rfl (fun ls hl => ?_)
                  refine lv_goto (tgt := 37) C.1 C.2.1 dX0_lay_114 (by decide) ?_
                  exact ih37 (i + 1) (upr s1 1 (ups (s1 1) i 0)) _ _ _ (by omega) (by rw [hs, upr_eq, upr_upr, layN_s (w * h) (f * w) (s0 1) i0.1 (by first | (exfalso; omega) | rw [if_pos (by omega)] | rw [if_neg (by omega), if_pos (by omega)] | rw [if_neg (by omega), if_neg (by omega)])]) (by omega) hM (lv_sub hl [0, 3, 4, 5, 6, 7, 8] rfl)
                · refine lv_iconst (v := iI 2) C.1 C.2.1 dX0_lay_105 (by decide) ?_
                  refine lv_goto (tgt := 110) C.1 C.2.1 dX0_lay_106 (by decide) ?_
                  refine as_2 C hM hk2 (by omega) (by omega) dX0_lay_110 (fun H1 lc1 hM => ?_)
                  refine x_iinc (lv1 := [(6, .int (iI (i + 1))), (8, .int (iI 0)), (7, .int (iI 1)), (5, .int (iI (f * w))), (4, .int (iI (w * h))), (0, .ref (ad 1)), (1, .int (iI w)), (2, .int (iI h)), (3, .int (iI f))]) C dX0_lay_111 hl (k := 2) rfl (by decide) rfl (fun ls hl => ?_)
                  refine lv_goto (tgt := 37) C.1 C.2.1 dX0_lay_114 (by decide) ?_
                  exact ih37 (i + 1) (upr s1 1 (ups (s1 1) i 2)) _ _ _ (by omega) (by rw [hs, upr_eq, upr_upr, layN_s (w * h) (f * w) (s0 1) i0.1 (by first | (exfalso; omega) | rw [if_pos (by omega)] | rw [if_neg (by omega), if_pos (by omega)] | rw [if_neg (by omega), if_neg (by omega)])]) (by omega) hM (lv_sub hl [0, 3, 4, 5, 6, 7, 8] rfl)
              · refine lv_iconst (v := iI 1) C.1 C.2.1 dX0_lay_96 (by decide) ?_
                refine lv_goto (tgt := 110) C.1 C.2.1 dX0_lay_97 (by decide) ?_
                refine as_2 C hM hk2 (by omega) (by omega) dX0_lay_110 (fun H1 lc1 hM => ?_)
                refine x_iinc (lv1 := [(6, .int (iI (i + 1))), (8, .int (iI 0)), (7, .int (iI 1)), (5, .int (iI (f * w))), (4, .int (iI (w * h))), (0, .ref (ad 1)), (1, .int (iI w)), (2, .int (iI h)), (3, .int (iI f))]) C dX0_lay_111 hl (k := 2) rfl (by decide) rfl (fun ls hl => ?_)
                refine lv_goto (tgt := 37) C.1 C.2.1 dX0_lay_114 (by decide) ?_
                exact ih37 (i + 1) (upr s1 1 (ups (s1 1) i 1)) _ _ _ (by omega) (by rw [hs, upr_eq, upr_upr, layN_s (w * h) (f * w) (s0 1) i0.1 (by first | (exfalso; omega) | rw [if_pos (by omega)] | rw [if_neg (by omega), if_pos (by omega)] | rw [if_neg (by omega), if_neg (by omega)])]) (by omega) hM (lv_sub hl [0, 3, 4, 5, 6, 7, 8] rfl)
            · refine lv_iconst (v := iI 1) C.1 C.2.1 dX0_lay_78 (by decide) ?_
              refine lv_goto (tgt := 83) C.1 C.2.1 dX0_lay_79 (by decide) ?_
              refine lv_istore (lv' := [(8, .int (iI 1)), (7, .int (iI 1)), (6, .int (iI i)), (5, .int (iI (f * w))), (4, .int (iI (w * h))), (0, .ref (ad 1)), (1, .int (iI w)), (2, .int (iI h)), (3, .int (iI f))]) C.1 C.2.1 dX0_lay_83 hl (by decide) rfl (fun ls hl => ?_)
              refine lv_aload_n C.1 C.2.1 dX0_lay_85 rfl (lv_at hl 5 rfl) ?_
              refine g_X0_0 C hM hk1 wf_X0_9 dX0_lay_86 ?_
              refine lv_iload C.1 C.2.1 dX0_lay_89 (lv_at hl 2 rfl) ?_
              refine lv_iload C.1 C.2.1 dX0_lay_91 (lv_at hl 1 rfl) ?_
              refine x_if_eq C ⟨by omega, by omega⟩ (tgt := 100) dX0_lay_93 (by decide) (fun c93 => ?_) (fun c93 => ?_)
              · refine lv_iload C.1 C.2.1 dX0_lay_100 (lv_at hl 0 rfl) ?_
                refine x_if_eq C ⟨by omega, by omega⟩ (tgt := 109) dX0_lay_102 (by decide) (fun c102 => ?_) (fun c102 => ?_)
                · refine lv_iconst (v := iI 0) C.1 C.2.1 dX0_lay_109 (by decide) ?_
                  refine as_2 C hM hk2 (by omega) (by omega) dX0_lay_110 (fun H1 lc1 hM => ?_)
                  refine x_iinc (lv1 := [(6, .int (iI (i + 1))), (8, .int (iI 1)), (7, .int (iI 1)), (5, .int (iI (f * w))), (4, .int (iI (w * h))), (0, .ref (ad 1)), (1, .int (iI w)), (2, .int (iI h)), (3, .int (iI f))]) C dX0_lay_111 hl (k := 2) rfl (by decide) rfl (fun ls hl => ?_)
                  refine lv_goto (tgt := 37) C.1 C.2.1 dX0_lay_114 (by decide) ?_
                  exact ih37 (i + 1) (upr s1 1 (ups (s1 1) i 0)) _ _ _ (by omega) (by rw [hs, upr_eq, upr_upr, layN_s (w * h) (f * w) (s0 1) i0.1 (by first | (exfalso; omega) | rw [if_pos (by omega)] | rw [if_neg (by omega), if_pos (by omega)] | rw [if_neg (by omega), if_neg (by omega)])]) (by omega) hM (lv_sub hl [0, 3, 4, 5, 6, 7, 8] rfl)
                · refine lv_iconst (v := iI 2) C.1 C.2.1 dX0_lay_105 (by decide) ?_
                  refine lv_goto (tgt := 110) C.1 C.2.1 dX0_lay_106 (by decide) ?_
                  refine as_2 C hM hk2 (by omega) (by omega) dX0_lay_110 (fun H1 lc1 hM => ?_)
                  refine x_iinc (lv1 := [(6, .int (iI (i + 1))), (8, .int (iI 1)), (7, .int (iI 1)), (5, .int (iI (f * w))), (4, .int (iI (w * h))), (0, .ref (ad 1)), (1, .int (iI w)), (2, .int (iI h)), (3, .int (iI f))]) C dX0_lay_111 hl (k := 2) rfl (by decide) rfl (fun ls hl => ?_)
                  refine lv_goto (tgt := 37) C.1 C.2.1 dX0_lay_114 (by decide) ?_
                  exact ih37 (i + 1) (upr s1 1 (ups (s1 1) i 2)) _ _ _ (by omega) (by rw [hs, upr_eq, upr_upr, layN_s (w * h) (f * w) (s0 1) i0.1 (by first | (exfalso; omega) | rw [if_pos (by omega)] | rw [if_neg (by omega), if_pos (by omega)] | rw [if_neg (by omega), if_neg (by omega)])]) (by omega) hM (lv_sub hl [0, 3, 4, 5, 6, 7, 8] rfl)
              · refine lv_iconst (v := iI 1) C.1 C.2.1 dX0_lay_96 (by decide) ?_
                refine lv_goto (tgt := 110) C.1 C.2.1 dX0_lay_97 (by decide) ?_
                refine as_2 C hM hk2 (by omega) (by omega) dX0_lay_110 (fun H1 lc1 hM => ?_)
                refine x_iinc (lv1 := [(6, .int (iI (i + 1))), (8, .int (iI 1)), (7, .int (iI 1)), (5, .int (iI (f * w))), (4, .int (iI (w * h))), (0, .ref (ad 1)), (1, .int (iI w)), (2, .int (iI h)), (3, .int (iI f))]) C dX0_lay_111 hl (k := 2) rfl (by decide) rfl (fun ls hl => ?_)
                refine lv_goto (tgt := 37) C.1 C.2.1 dX0_lay_114 (by decide) ?_
                exact ih37 (i + 1) (upr s1 1 (ups (s1 1) i 1)) _ _ _ (by omega) (by rw [hs, upr_eq, upr_upr, layN_s (w * h) (f * w) (s0 1) i0.1 (by first | (exfalso; omega) | rw [if_pos (by omega)] | rw [if_neg (by omega), if_pos (by omega)] | rw [if_neg (by omega), if_neg (by omega)])]) (by omega) hM (lv_sub hl [0, 3, 4, 5, 6, 7, 8] rfl)
  exact L37 _ 0 s0 _ _ _ (by omega) (by rw [layN_0, upr_self]) (Nat.lt_succ_self _) hM (lv_sub hl [0, 1, 2, 3, 4, 5, 6] rfl)
