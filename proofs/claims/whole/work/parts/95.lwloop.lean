/-! the loop over the script -/
theorem va_D.sw {A : Nat → Prop} {w u v : va_W} (h : va_D A (w ++ (u ++ v))) : va_D A (w ++ (v ++ u)) := by
  have hr : va_D A (u ++ v) := (h.rot).left
  refine va_D.app h.left hr.rot ?_
  intro i j p q hi hj e
  have hm : q ∈ u ++ v := List.mem_append.mpr ((List.mem_append.mp (List.mem_of_getElem? hj)).elim Or.inr Or.inl)
  obtain ⟨k, hk⟩ := List.getElem?_of_mem hm
  have hl := (List.getElem?_eq_some_iff.mp hi).1
  have h2 := h.1 i (w.length + k) p q (by rw [List.getElem?_append_left hl]; exact hi) (by rw [List.getElem?_append_right (by omega), Nat.add_sub_cancel_left]; exact hk) e
  omega
theorem set_end {α : Type} (x y : α) (new : List α) : ∀ A : List α, (A ++ [x]).set A.length y ++ new = A ++ y :: new
  | [] => rfl
  | a :: A => by
    show a :: ((A ++ [x]).set A.length y ++ new) = a :: (A ++ y :: new)
    rw [set_end x y new A]
section LWL
variable {p : Program} {l : Launch} {e : Env} {s : State} {m : MethodId} {below : List Frame} {meth : Method} {c : Code} {D : va_G} {ad : Nat → Nat} {G : Nat → Nat} {b L : Nat} {xs : Nat → Int32} {sa : Nat → Nat}
set_option maxRecDepth 100000 in
set_option maxHeartbeats 4000000 in
theorem lw_sw (hst : l.stackTraces = false) {H : Heap} {locs : List Loc} {cells slots : Nat} {Q : State → Prop} {ad2 : Nat → Nat} {σ τ : Sg} {ls : Array Slot} {i : Int} (K : LC p s m meth c b L xs D G sa) (hM : XE D ad G IL (FA s) s.heap H locs σ (WG ad2 G IM τ)) (hR : REL σ τ) (hl : lv_has ls 9 (BL b ad ad2 i)) (hi : 0 ≤ i ∧ i + 4 ≤ L) (hf : cells + 2 ≤ 601024 ∧ slots + 32 ≤ 7293034) (KK : KL p l e s m below meth c b D ad G i (cells + 2) (slots + 32) Q) (x : Int32) : W p l e room_1 s m #[.ref b] below meth c H locs cells slots Q (F0 m 39 ls [.int x]) := by
  have C := K.1
  by_cases hx : x.toInt < 0 ∨ 42 < x.toInt
  · refine lv_tableOut C.1 C.2.1 (tgt := 1801) dL_law_39 hx (by decide) ?_
    exact W.widen (by omega) (by omega) (KK ad2 σ τ H locs ls hM hR hl)
  · obtain ⟨t, ht⟩ : ∃ t : Nat, x.toInt = (t : Int) := ⟨x.toInt.toNat, by omega⟩
    have ht42 : t ≤ 42 := by omega
    match t, ht, ht42 with
    | 0, ht, _ => exact lv_tableIn C.1 C.2.1 (off := 185) (tgt := 224) dL_law_39 (by omega) (by omega) (by rw [ht]; rfl) (by decide) (lc_setUp hst K hM hR hl hi hf KK)
    | 1, ht, _ => exact lv_tableIn C.1 C.2.1 (off := 265) (tgt := 304) dL_law_39 (by omega) (by omega) (by rw [ht]; rfl) (by decide) (lc_put hst K hM hR hl hi hf KK)
    | 2, ht, _ => exact lv_tableIn C.1 C.2.1 (off := 333) (tgt := 372) dL_law_39 (by omega) (by omega) (by rw [ht]; rfl) (by decide) (lc_setSide hst K hM hR hl hi hf KK)
    | 3, ht, _ => exact lv_tableIn C.1 C.2.1 (off := 389) (tgt := 428) dL_law_39 (by omega) (by omega) (by rw [ht]; rfl) (by decide) (lc_play hst K hM hR hl hi hf KK)
    | 4, ht, _ => exact lv_tableIn C.1 C.2.1 (off := 445) (tgt := 484) dL_law_39 (by omega) (by omega) (by rw [ht]; rfl) (by decide) (lc_back hst K hM hR hl hi hf KK)
    | 5, ht, _ => exact lv_tableIn C.1 C.2.1 (off := 489) (tgt := 528) dL_law_39 (by omega) (by omega) (by rw [ht]; rfl) (by decide) (lc_weigh hst K hM hR hl hi hf KK)
    | 6, ht, _ => exact lv_tableIn C.1 C.2.1 (off := 569) (tgt := 608) dL_law_39 (by omega) (by omega) (by rw [ht]; rfl) (by decide) (lc_setQuiet hst K hM hR hl hi hf KK)
    | 7, ht, _ => exact lv_tableIn C.1 C.2.1 (off := 610) (tgt := 649) dL_law_39 (by omega) (by omega) (by rw [ht]; rfl) (by decide) (lc_setSlots hst K hM hR hl hi hf KK)
    | 8, ht, _ => exact lv_tableIn C.1 C.2.1 (off := 666) (tgt := 705) dL_law_39 (by omega) (by omega) (by rw [ht]; rfl) (by decide) (lc_empty hst K hM hR hl hi hf KK)
    | 9, ht, _ => exact lv_tableIn C.1 C.2.1 (off := 679) (tgt := 718) dL_law_39 (by omega) (by omega) (by rw [ht]; rfl) (by decide) (lc_columns hst K hM hR hl hi hf KK)
    | 10, ht, _ => exact lv_tableIn C.1 C.2.1 (off := 692) (tgt := 731) dL_law_39 (by omega) (by omega) (by rw [ht]; rfl) (by decide) (lc_rows hst K hM hR hl hi hf KK)
    | 11, ht, _ => exact lv_tableIn C.1 C.2.1 (off := 705) (tgt := 744) dL_law_39 (by omega) (by omega) (by rw [ht]; rfl) (by decide) (lc_at hst K hM hR hl hi hf KK)
    | 12, ht, _ => exact lv_tableIn C.1 C.2.1 (off := 761) (tgt := 800) dL_law_39 (by omega) (by omega) (by rw [ht]; rfl) (by decide) (lc_side hst K hM hR hl hi hf KK)
    | 13, ht, _ => exact lv_tableIn C.1 C.2.1 (off := 774) (tgt := 813) dL_law_39 (by omega) (by omega) (by rw [ht]; rfl) (by decide) (lc_played hst K hM hR hl hi hf KK)
    | 14, ht, _ => exact lv_tableIn C.1 C.2.1 (off := 787) (tgt := 826) dL_law_39 (by omega) (by omega) (by rw [ht]; rfl) (by decide) (lc_moves hst K hM hR hl hi hf KK)
    | 15, ht, _ => exact lv_tableIn C.1 C.2.1 (off := 800) (tgt := 839) dL_law_39 (by omega) (by omega) (by rw [ht]; rfl) (by decide) (lc_from hst K hM hR hl hi hf KK)
    | 16, ht, _ => exact lv_tableIn C.1 C.2.1 (off := 856) (tgt := 895) dL_law_39 (by omega) (by omega) (by rw [ht]; rfl) (by decide) (lc_to hst K hM hR hl hi hf KK)
    | 17, ht, _ => exact lv_tableIn C.1 C.2.1 (off := 912) (tgt := 951) dL_law_39 (by omega) (by omega) (by rw [ht]; rfl) (by decide) (lc_takes hst K hM hR hl hi hf KK)
    | 18, ht, _ => exact lv_tableIn C.1 C.2.1 (off := 975) (tgt := 1014) dL_law_39 (by omega) (by omega) (by rw [ht]; rfl) (by decide) (lc_isLost hst K hM hR hl hi hf KK)
    | 19, ht, _ => exact lv_tableIn C.1 C.2.1 (off := 988) (tgt := 1027) dL_law_39 (by omega) (by omega) (by rw [ht]; rfl) (by decide) (lc_key hst K hM hR hl hi hf KK)
    | 20, ht, _ => exact lv_tableIn C.1 C.2.1 (off := 1002) (tgt := 1041) dL_law_39 (by omega) (by omega) (by rw [ht]; rfl) (by decide) (lc_evaluation hst K hM hR hl hi hf KK)
    | 21, ht, _ => exact lv_tableIn C.1 C.2.1 (off := 1015) (tgt := 1054) dL_law_39 (by omega) (by omega) (by rw [ht]; rfl) (by decide) (lc_ways hst K hM hR hl hi hf KK)
    | 22, ht, _ => exact lv_tableIn C.1 C.2.1 (off := 1071) (tgt := 1110) dL_law_39 (by omega) (by omega) (by rw [ht]; rfl) (by decide) (lc_value hst K hM hR hl hi hf KK)
    | 23, ht, _ => exact lv_tableIn C.1 C.2.1 (off := 1127) (tgt := 1166) dL_law_39 (by omega) (by omega) (by rw [ht]; rfl) (by decide) (lc_valueOf hst K hM hR hl hi hf KK)
    | 24, ht, _ => exact lv_tableIn C.1 C.2.1 (off := 1195) (tgt := 1234) dL_law_39 (by omega) (by omega) (by rw [ht]; rfl) (by decide) (lc_search hst K hM hR hl hi hf KK)
    | 25, ht, _ => exact lv_tableIn C.1 C.2.1 (off := 1251) (tgt := 1290) dL_law_39 (by omega) (by omega) (by rw [ht]; rfl) (by decide) (lc_bestFrom hst K hM hR hl hi hf KK)
    | 26, ht, _ => exact lv_tableIn C.1 C.2.1 (off := 1264) (tgt := 1303) dL_law_39 (by omega) (by omega) (by rw [ht]; rfl) (by decide) (lc_bestTo hst K hM hR hl hi hf KK)
    | 27, ht, _ => exact lv_tableIn C.1 C.2.1 (off := 1277) (tgt := 1316) dL_law_39 (by omega) (by omega) (by rw [ht]; rfl) (by decide) (lc_reached hst K hM hR hl hi hf KK)
    | 28, ht, _ => exact lv_tableIn C.1 C.2.1 (off := 1290) (tgt := 1329) dL_law_39 (by omega) (by omega) (by rw [ht]; rfl) (by decide) (lc_nodes hst K hM hR hl hi hf KK)
    | 29, ht, _ => exact lv_tableIn C.1 C.2.1 (off := 1303) (tgt := 1342) dL_law_39 (by omega) (by omega) (by rw [ht]; rfl) (by decide) (lc_hits hst K hM hR hl hi hf KK)
    | 30, ht, _ => exact lv_tableIn C.1 C.2.1 (off := 1316) (tgt := 1355) dL_law_39 (by omega) (by omega) (by rw [ht]; rfl) (by decide) (lc_cuts hst K hM hR hl hi hf KK)
    | 31, ht, _ => exact lv_tableIn C.1 C.2.1 (off := 1329) (tgt := 1368) dL_law_39 (by omega) (by omega) (by rw [ht]; rfl) (by decide) (lc_killer hst K hM hR hl hi hf KK)
    | 32, ht, _ => exact lv_tableIn C.1 C.2.1 (off := 1382) (tgt := 1421) dL_law_39 (by omega) (by omega) (by rw [ht]; rfl) (by decide) (lc_slots hst K hM hR hl hi hf KK)
    | 33, ht, _ => exact lv_tableIn C.1 C.2.1 (off := 1395) (tgt := 1434) dL_law_39 (by omega) (by omega) (by rw [ht]; rfl) (by decide) (lc_entries hst K hM hR hl hi hf KK)
    | 34, ht, _ => exact lv_tableIn C.1 C.2.1 (off := 1408) (tgt := 1447) dL_law_39 (by omega) (by omega) (by rw [ht]; rfl) (by decide) (lc_ofSlot hst K hM hR hl hi hf KK)
    | 35, ht, _ => exact lv_tableIn C.1 C.2.1 (off := 1476) (tgt := 1515) dL_law_39 (by omega) (by omega) (by rw [ht]; rfl) (by decide) (lc_known hst K hM hR hl hi hf KK)
    | 36, ht, _ => exact lv_tableIn C.1 C.2.1 (off := 1489) (tgt := 1528) dL_law_39 (by omega) (by omega) (by rw [ht]; rfl) (by decide) (lc_teach hst K hM hR hl hi hf KK)
    | 37, ht, _ => exact lv_tableIn C.1 C.2.1 (off := 1557) (tgt := 1596) dL_law_39 (by omega) (by omega) (by rw [ht]; rfl) (by decide) (lc_told hst K hM hR hl hi hf KK)
    | 38, ht, _ => exact lv_tableIn C.1 C.2.1 (off := 1570) (tgt := 1609) dL_law_39 (by omega) (by omega) (by rw [ht]; rfl) (by decide) (lc_go hst K hM hR hl hi hf KK)
    | 39, ht, _ => exact lv_tableIn C.1 C.2.1 (off := 1626) (tgt := 1665) dL_law_39 (by omega) (by omega) (by rw [ht]; rfl) (by decide) (lc_playOut hst K hM hR hl hi hf KK)
    | 40, ht, _ => exact lv_tableIn C.1 C.2.1 (off := 1694) (tgt := 1733) dL_law_39 (by omega) (by omega) (by rw [ht]; rfl) (by decide) (lc_pages hst K hM hR hl hi hf KK)
    | 41, ht, _ => exact lv_tableIn C.1 C.2.1 (off := 1707) (tgt := 1746) dL_law_39 (by omega) (by omega) (by rw [ht]; rfl) (by decide) (lc_effort hst K hM hR hl hi hf KK)
    | 42, ht, _ => exact lv_tableIn C.1 C.2.1 (off := 1748) (tgt := 1787) dL_law_39 (by omega) (by omega) (by rw [ht]; rfl) (by decide) (lc_digest hst K hM hR hl hi hf KK)
    | t + 43, _, h => exact absurd h (by omega)
theorem lw_loop (hst : l.stackTraces = false) (K : LC p s m meth c b L xs D G sa) (hr : meth.sig.returnType = ret) : ∀ (r : Nat) (ad2 : Nat → Nat) (σ τ : Sg) (H : Heap) (locs : List Loc) (ls : Array Slot) (i : Int) (k n : Nat), 0 ≤ i → i ≤ L → (L : Int) - i ≤ 4 * (r : Int) → XE D ad G IL (FA s) s.heap H locs σ (WG ad2 G IM τ) → REL σ τ → lv_has ls 9 (BL b ad ad2 i) → k + 2 * r ≤ 601024 → n + 32 * r ≤ 7293034 → W p l e room_1 s m #[.ref b] below meth c H locs k n (lw_Z below #[.ref b] s) (F0 m 23 ls []) := by
  intro r
  induction r with
  | zero =>
    intro ad2 σ τ H locs ls i k n i0 iL hm hM hR hl hk hn
    obtain ⟨C, -, -, -, hX, hbl, hL⟩ := id K
    refine lv_iload C.1 C.2.1 dL_law_23 (lv_at hl 4 rfl) ?_
    refine lv_aload_n C.1 C.2.1 dL_law_25 rfl (lv_at hl 0 rfl) ?_
    refine x_slen C hX hbl hM.2.2.1 dL_law_26 ?_
    refine lv_iconst C.1 C.2.1 (v := iI 4) dL_law_27 rfl ?_
    refine x_isub C dL_law_28 ?_
    refine x_icmp_gt C ⟨by omega, by omega⟩ ⟨by omega, by omega⟩ (tgt := 1807) dL_law_29 (by decide) (fun _ => ?_) (fun h => by omega)
    refine W.widen (k := 601024) (n := 7293034) (by omega) (by omega) ?_
    refine va_forget (fun q hq => hM.2.2.1.2.2 q hq) ?_
    refine lv_iconst C.1 C.2.1 (v := 1) dL_law_1807 (by decide) ?_
    refine W.base ?_
    exact lw_ret (Drawn.sameBut.refl s.drawn lw_cs) C.1 C.2.1 hr C.2.2.2.2.2.2.2 dL_law_1808
  | succ r ih =>
    intro ad2 σ τ H locs ls i k n i0 iL hm hM hR hl hk hn
    obtain ⟨C, -, -, -, hX, hbl, hL⟩ := id K
    refine lv_iload C.1 C.2.1 dL_law_23 (lv_at hl 4 rfl) ?_
    refine lv_aload_n C.1 C.2.1 dL_law_25 rfl (lv_at hl 0 rfl) ?_
    refine x_slen C hX hbl hM.2.2.1 dL_law_26 ?_
    refine lv_iconst C.1 C.2.1 (v := iI 4) dL_law_27 rfl ?_
    refine x_isub C dL_law_28 ?_
    refine x_icmp_gt C ⟨by omega, by omega⟩ ⟨by omega, by omega⟩ (tgt := 1807) dL_law_29 (by decide) (fun _ => ?_) (fun h => ?_)
    · refine W.widen (k := 601024) (n := 7293034) (by omega) (by omega) ?_
      refine va_forget (fun q hq => hM.2.2.1.2.2 q hq) ?_
      refine lv_iconst C.1 C.2.1 (v := 1) dL_law_1807 (by decide) ?_
      refine W.base ?_
      exact lw_ret (Drawn.sameBut.refl s.drawn lw_cs) C.1 C.2.1 hr C.2.2.2.2.2.2.2 dL_law_1808
    · refine lv_aload_n C.1 C.2.1 dL_law_32 rfl (lv_at hl 0 rfl) ?_
      refine lv_iload C.1 C.2.1 dL_law_33 (lv_at hl 4 rfl) ?_
      refine x_sld C hX hbl hM.2.2.1 i0 (by omega) hL dL_law_35 ?_
      refine lv_bipush (v := iI 63) C.1 C.2.1 dL_law_36 (by decide) ?_
      refine lv_iand C.1 C.2.1 dL_law_38 ?_
      refine lw_sw hst K hM hR hl ⟨i0, by omega⟩ ⟨by omega, by omega⟩ ?_ _
      intro ad3 σ3 τ3 H3 locs3 ls3 hM3 hR3 hl3
      refine x_iinc C dL_law_1801 hl3 (k := 4) rfl (by decide) rfl (fun ls4 hl4 => ?_)
      refine lv_goto C.1 C.2.1 (tgt := 23) dL_law_1804 (by decide) ?_
      have hl5 : lv_has ls4 9 (BL b ad ad3 (i + 4)) := lv_sub hl4 [1, 2, 3, 4, 0] rfl
      exact ih ad3 σ3 τ3 H3 locs3 ls4 (i + 4) (k + 2) (n + 32) (by omega) (by omega) (by omega) hM3 hR3 hl5 (by omega) (by omega)
end LWL
