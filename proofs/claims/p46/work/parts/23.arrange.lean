theorem tk_step {c : Fn} {L acc : List Int} {i : Int} (h0 : 0 ≤ i) (h1 : i < L.length) : (L.drop i.toNat).foldl (tkF c L) acc = (L.drop (i + 1).toNat).foldl (tkF c L) (if c (L.getD i.toNat (-1) % 100) ≠ 0 then wnt L acc (L.getD i.toNat (-1)) else acc) := by
  rw [drop_s h0 h1, List.foldl_cons]
  rfl
set_option maxRecDepth 100000 in
set_option maxHeartbeats 4000000 in
theorem c_X5_arrange (l : Launch) (D : va_G) (ad : Nat → Nat) (G : Nat → Nat) (ids : List Nat) (hI : ∀ k, k < 81 → k ∈ ids) (σ : Sg) (j : Nat) (L : List Int) (c : Fn) (ve v1 v2 : Int) (hj : j < 11) (hL : LM σ j L c) (h18 : L.length ≤ 18) (hN : L.Nodup) (hMB : ∀ v, v ∈ L → 0 ≤ v ∧ v < 2500) (hv : IR ve ∧ IR v1 ∧ IR v2) : MET l yX5_arrange cX5_arrange 5 none 2 [.ref (ad (26 + 5 * j)), .int (iI ve), .int (iI v1), .int (iI v2)] D ad G ids σ (QV D ad G ids (fun σ' => OP j σ σ' ∧ OR σ' j L (ord c L ve v1 v2))) := by
  refine x_enter (by decide) (Nat.le_of_ble_eq_true rfl) ?_
  intro pp ee ss mm args below meth cq C hr ls hl hM
  have hl : lv_has ls 5 [(0, .ref (ad (26 + 5 * j))), (1, .int (iI ve)), (2, .int (iI v1)), (3, .int (iI v2))] := hl
  refine lv_aload_n C.1 C.2.1 dX5_arrange_0 rfl (lv_at hl 0 rfl) ?_
  refine lv_iconst (v := iI 0) C.1 C.2.1 dX5_arrange_1 (by decide) ?_
  refine p_X5_5 C hM hj (hI _ (by omega)) wf_X5_29 dX5_arrange_2 (fun H1 lc1 hM => ?_)
  refine lv_iconst (v := iI 0) C.1 C.2.1 dX5_arrange_5 (by decide) ?_
  refine lv_istore (lv' := [(4, .int (iI 0)), (0, .ref (ad (26 + 5 * j))), (1, .int (iI ve)), (2, .int (iI v1)), (3, .int (iI v2))]) C.1 C.2.1 dX5_arrange_6 hl (by decide) rfl (fun ls hl => ?_)
  have L8 : ∀ (fu : Nat) (i : Int) (s1 : Sg) (H1 : Heap) (lc1 : List Loc) (ls1 : Array Slot), (0 ≤ i ∧ i ≤ 18) → (OP j σ s1) → (s1 (40 + 6 * j + 5) 0 = 0) → (∀ q : Int, 0 ≤ q → q < i → s1 (40 + 6 * j + 3) q = 0) → (20 - i).toNat < fu → XI D ad G ids (AN ad ids ss.heap.size) ss.heap H1 lc1 s1 → lv_has ls1 5 [(4, .int (iI i)), (0, .ref (ad (26 + 5 * j))), (1, .int (iI ve)), (2, .int (iI v1)), (3, .int (iI v2))] → W pp l ee (rmh 2) ss mm args below meth cq H1 lc1 0 0 (MQ below (QV D ad G ids (fun σ' => OP j σ σ' ∧ OR σ' j L (ord c L ve v1 v2)) ss.heap.size) args ss 0 0 (AN ad ids ss.heap.size)) (F0 mm 8 ls1 []) := by
    intro fu
    induction fu with
    | zero => intro i s1 H1 lc1 ls1 i0 hp1 h5 h3 hfu; exact absurd hfu (Nat.not_lt_zero _)
    | succ fu ih8 =>
      intro i s1 H1 lc1 ls1 i0 hp1 h5 h3 hfu hM hl
      refine lv_iload C.1 C.2.1 dX5_arrange_8 (lv_at hl 0 rfl) ?_
      refine lv_aload_n C.1 C.2.1 dX5_arrange_10 rfl (lv_at hl 1 rfl) ?_
      refine g_X5_3 C hM hj (hI _ (by omega)) wf_X5_22 dX5_arrange_11 ?_
      refine ln_lp C hM hj (hI _ (by omega)) dX5_arrange_14 ?_
      refine x_icmp_ge C ⟨by omega, by omega⟩ ⟨by omega, by omega⟩ (tgt := 32) dX5_arrange_15 (by decide) (fun c15 => ?_) (fun c15 => ?_)
      · have hL1 := hL.op hp1
        have hO1 : OR s1 j L [] := ⟨h5, List.nodup_nil, fun v h => absurd h List.not_mem_nil, fun k v h => by simp at h, fun q v h => by
          have := (List.getElem?_eq_some_iff.mp h).1
          rw [h3 (q : Int) (by omega) (by omega), if_neg List.not_mem_nil]⟩
        refine lv_aload_n C.1 C.2.1 dX5_arrange_32 rfl (lv_at hl 1 rfl) ?_
        refine lv_aload_n C.1 C.2.1 dX5_arrange_33 rfl (lv_at hl 1 rfl) ?_
        refine lv_iload_n C.1 C.2.1 dX5_arrange_34 rfl (lv_at hl 2 rfl) ?_
        refine x_ci (x_runV (As := [.int (iI ve)]) (rest := [.ref (ad (26 + 5 * j))]) C (by omega) cw_X5_32 (c_X5_indexOf l D ad G ids hI s1 j L c ve hj hL1 h18 hMB hv.1) hM (hI _ (by omega)) (cx_lo ad G _ hj) rfl rfl rfl rfl (Nat.le_of_ble_eq_true rfl) hl.1 dX5_arrange_35) hM (fun r35 s35 H1 lc1 hp hM => ?_)
        obtain ⟨hxs35, rfl⟩ := hp
        refine x_cv (x_runV (As := [.int (iI r35)]) (rest := []) C (by omega) cw_X5_36 (c_X5_place l D ad G ids hI s1 j L c ([] : List Int) ve r35 hj hL1 h18 hN hO1 hxs35) hM (hI _ (by omega)) (cx_lo ad G _ hj) rfl rfl rfl rfl (Nat.le_of_ble_eq_true rfl) hl.1 dX5_arrange_38) hM (fun s38 H1 lc1 hp hM => ?_)
        obtain ⟨hos38, hOs38⟩ := hp
        refine lv_iconst (v := iI 0) C.1 C.2.1 dX5_arrange_41 (by decide) ?_
        refine lv_istore (lv' := [(4, .int (iI 0)), (0, .ref (ad (26 + 5 * j))), (1, .int (iI ve)), (2, .int (iI v1)), (3, .int (iI v2))]) C.1 C.2.1 dX5_arrange_42 hl (by decide) rfl (fun ls hl => ?_)
        have L44 : ∀ (fu : Nat) (i : Int) (acc : List Int) (s2 : Sg) (H1 : Heap) (lc1 : List Loc) (ls1 : Array Slot), (0 ≤ i ∧ i ≤ L.length) → (OP j σ s2) → (OR s2 j L acc) → ((L.drop i.toNat).foldl (tkF c L) acc = L.foldl (tkF c L) (wnt L [] ve)) → (20 - i).toNat < fu → XI D ad G ids (AN ad ids ss.heap.size) ss.heap H1 lc1 s2 → lv_has ls1 5 [(4, .int (iI i)), (0, .ref (ad (26 + 5 * j))), (1, .int (iI ve)), (2, .int (iI v1)), (3, .int (iI v2))] → W pp l ee (rmh 2) ss mm args below meth cq H1 lc1 0 0 (MQ below (QV D ad G ids (fun σ' => OP j σ σ' ∧ OR σ' j L (ord c L ve v1 v2)) ss.heap.size) args ss 0 0 (AN ad ids ss.heap.size)) (F0 mm 44 ls1 []) := by
          intro fu
          induction fu with
          | zero => intro i acc s2 H1 lc1 ls1 i0 hp2 hO2 hf2 hfu; exact absurd hfu (Nat.not_lt_zero _)
          | succ fu ih44 =>
            intro i acc s2 H1 lc1 ls1 i0 hp2 hO2 hf2 hfu hM hl
            refine lv_iload C.1 C.2.1 dX5_arrange_44 (lv_at hl 0 rfl) ?_
            have hL2 := hL.op hp2
            have e4 := hL2.1
            refine lv_aload_n C.1 C.2.1 dX5_arrange_46 rfl (lv_at hl 1 rfl) ?_
            refine g_X5_4 C hM hj (hI _ (by omega)) wf_X5_25 dX5_arrange_47 ?_
            refine x_icmp_ge C ⟨by omega, by omega⟩ ⟨by omega, by omega⟩ (tgt := 74) dX5_arrange_50 (by decide) (fun c50 => ?_) (fun c50 => ?_)
            · rw [drop_e i0.1 (by omega)] at hf2
              have hf2 : acc = _ := hf2
              refine lv_aload_n C.1 C.2.1 dX5_arrange_74 rfl (lv_at hl 1 rfl) ?_
              refine lv_aload_n C.1 C.2.1 dX5_arrange_75 rfl (lv_at hl 1 rfl) ?_
              refine lv_iload_n C.1 C.2.1 dX5_arrange_76 rfl (lv_at hl 3 rfl) ?_
              refine x_ci (x_runV (As := [.int (iI v1)]) (rest := [.ref (ad (26 + 5 * j))]) C (by omega) cw_X5_32 (c_X5_indexOf l D ad G ids hI s2 j L c v1 hj hL2 h18 hMB hv.2.1) hM (hI _ (by omega)) (cx_lo ad G _ hj) rfl rfl rfl rfl (Nat.le_of_ble_eq_true rfl) hl.1 dX5_arrange_77) hM (fun r77 s77 H1 lc1 hp hM => ?_)
              obtain ⟨hxs77, rfl⟩ := hp
              refine x_cv (x_runV (As := [.int (iI r77)]) (rest := []) C (by omega) cw_X5_36 (c_X5_place l D ad G ids hI s2 j L c acc v1 r77 hj hL2 h18 hN hO2 hxs77) hM (hI _ (by omega)) (cx_lo ad G _ hj) rfl rfl rfl rfl (Nat.le_of_ble_eq_true rfl) hl.1 dX5_arrange_80) hM (fun s80 H1 lc1 hp hM => ?_)
              obtain ⟨hos80, hOs80⟩ := hp
              have hL3 := hL2.op hos80
              refine lv_aload_n C.1 C.2.1 dX5_arrange_83 rfl (lv_at hl 1 rfl) ?_
              refine lv_aload_n C.1 C.2.1 dX5_arrange_84 rfl (lv_at hl 1 rfl) ?_
              refine lv_iload_n C.1 C.2.1 dX5_arrange_85 rfl (lv_at hl 4 rfl) ?_
              refine x_ci (x_runV (As := [.int (iI v2)]) (rest := [.ref (ad (26 + 5 * j))]) C (by omega) cw_X5_32 (c_X5_indexOf l D ad G ids hI s80 j L c v2 hj hL3 h18 hMB hv.2.2) hM (hI _ (by omega)) (cx_lo ad G _ hj) rfl rfl rfl rfl (Nat.le_of_ble_eq_true rfl) hl.1 dX5_arrange_86) hM (fun r86 s86 H1 lc1 hp hM => ?_)
              obtain ⟨hxs86, rfl⟩ := hp
              refine x_cv (x_runV (As := [.int (iI r86)]) (rest := []) C (by omega) cw_X5_36 (c_X5_place l D ad G ids hI s80 j L c (wnt L acc v1) v2 r86 hj hL3 h18 hN hOs80 hxs86) hM (hI _ (by omega)) (cx_lo ad G _ hj) rfl rfl rfl rfl (Nat.le_of_ble_eq_true rfl) hl.1 dX5_arrange_89) hM (fun s89 H1 lc1 hp hM => ?_)
              obtain ⟨hos89, hOs89⟩ := hp
              refine lv_iconst (v := iI 0) C.1 C.2.1 dX5_arrange_92 (by decide) ?_
              refine lv_istore (lv' := [(4, .int (iI 0)), (0, .ref (ad (26 + 5 * j))), (1, .int (iI ve)), (2, .int (iI v1)), (3, .int (iI v2))]) C.1 C.2.1 dX5_arrange_93 hl (by decide) rfl (fun ls hl => ?_)
              have L95 : ∀ (fu : Nat) (i : Int) (acc2 : List Int) (s3 : Sg) (H1 : Heap) (lc1 : List Loc) (ls1 : Array Slot), (0 ≤ i ∧ i ≤ L.length) → (OP j σ s3) → (OR s3 j L acc2) → ((L.drop i.toNat).foldl (wnt L) acc2 = ord c L ve v1 v2) → (20 - i).toNat < fu → XI D ad G ids (AN ad ids ss.heap.size) ss.heap H1 lc1 s3 → lv_has ls1 5 [(4, .int (iI i)), (0, .ref (ad (26 + 5 * j))), (1, .int (iI ve)), (2, .int (iI v1)), (3, .int (iI v2))] → W pp l ee (rmh 2) ss mm args below meth cq H1 lc1 0 0 (MQ below (QV D ad G ids (fun σ' => OP j σ σ' ∧ OR σ' j L (ord c L ve v1 v2)) ss.heap.size) args ss 0 0 (AN ad ids ss.heap.size)) (F0 mm 95 ls1 []) := by
                intro fu
                induction fu with
                | zero => intro i acc2 s3 H1 lc1 ls1 i0 hp3 hO3 hf3 hfu; exact absurd hfu (Nat.not_lt_zero _)
                | succ fu ih95 =>
                  intro i acc2 s3 H1 lc1 ls1 i0 hp3 hO3 hf3 hfu hM hl
                  refine lv_iload C.1 C.2.1 dX5_arrange_95 (lv_at hl 0 rfl) ?_
                  have hL3 := hL.op hp3
                  have e4 := hL3.1
                  refine lv_aload_n C.1 C.2.1 dX5_arrange_97 rfl (lv_at hl 1 rfl) ?_
                  refine g_X5_4 C hM hj (hI _ (by omega)) wf_X5_25 dX5_arrange_98 ?_
                  refine x_icmp_ge C ⟨by omega, by omega⟩ ⟨by omega, by omega⟩ (tgt := 116) dX5_arrange_101 (by decide) (fun c101 => ?_) (fun c101 => ?_)
                  · exact x_vret C hr hM ⟨hp3, by rw [drop_e i0.1 (by omega)] at hf3; have hf3 : acc2 = _ := hf3; rw [← hf3]; exact hO3⟩ dX5_arrange_116
                  · refine lv_aload_n C.1 C.2.1 dX5_arrange_104 rfl (lv_at hl 1 rfl) ?_
                    refine lv_iload C.1 C.2.1 dX5_arrange_105 (lv_at hl 0 rfl) ?_
                    refine x_cv (x_runV (As := [.int (iI i)]) (rest := []) C (by omega) cw_X5_36 (c_X5_place l D ad G ids hI s3 j L c acc2 (L.getD i.toNat (-1)) i hj hL3 h18 hN hO3 (Or.inr ⟨i.toNat, by rw [List.getElem?_eq_getElem (by omega), ← getD_lt (by omega)], by omega⟩)) hM (hI _ (by omega)) (cx_lo ad G _ hj) rfl rfl rfl rfl (Nat.le_of_ble_eq_true rfl) hl.1 dX5_arrange_107) hM (fun s107 H1 lc1 hp hM => ?_)
                    obtain ⟨hos107, hOs107⟩ := hp
                    refine x_iinc (lv1 := [(4, .int (iI (i + 1))), (0, .ref (ad (26 + 5 * j))), (1, .int (iI ve)), (2, .int (iI v1)), (3, .int (iI v2))]) C dX5_arrange_110 hl (k := 0) rfl (by decide) rfl (fun ls hl => ?_)
                    refine lv_goto (tgt := 95) C.1 C.2.1 dX5_arrange_113 (by decide) ?_
                    exact ih95 (i + 1) (wnt L acc2 (L.getD i.toNat (-1))) s107 _ _ _ (by omega) (hp3.tr hos107) hOs107 (by rw [← hf3, drop_s i0.1 (by omega), List.foldl_cons]) (by omega) hM (lv_sub hl [0, 1, 2, 3, 4] rfl)
              exact L95 _ 0 (wnt L (wnt L acc v1) v2) s89 _ _ _ (by omega) (hp2.tr (hos80.tr hos89)) hOs89 (by rw [hf2]; rfl) (Nat.lt_succ_self _) hM (lv_sub hl [0, 1, 2, 3, 4] rfl)
            · refine lv_aload_n C.1 C.2.1 dX5_arrange_53 rfl (lv_at hl 1 rfl) ?_
              refine lv_iload C.1 C.2.1 dX5_arrange_54 (lv_at hl 0 rfl) ?_
              refine x_ci (x_runV (As := [.int (iI i)]) (rest := []) C (by omega) cw_X5_40 (c_X5_isTaking l D ad G ids hI s2 j L c i hj hL2 h18 ⟨by omega, by omega⟩) hM (hI _ (by omega)) (cx_lo ad G _ hj) rfl rfl rfl rfl (Nat.le_of_ble_eq_true rfl) hl.1 dX5_arrange_56) hM (fun r56 s56 H1 lc1 hp hM => ?_)
              obtain ⟨hbs56, rfl⟩ := hp
              obtain ⟨ts56, ks56⟩ := ite01 hbs56
              refine x_if_eq C ⟨by omega, by omega⟩ (tgt := 68) dX5_arrange_59 (by decide) (fun c59 => ?_) (fun c59 => ?_)
              · have ht9 : ¬ c (L.getD i.toNat (-1) % 100) ≠ 0 := fun q => ks56.mpr ⟨by omega, by omega, q⟩ c59
                refine x_iinc (lv1 := [(4, .int (iI (i + 1))), (0, .ref (ad (26 + 5 * j))), (1, .int (iI ve)), (2, .int (iI v1)), (3, .int (iI v2))]) C dX5_arrange_68 hl (k := 0) rfl (by decide) rfl (fun ls hl => ?_)
                refine lv_goto (tgt := 44) C.1 C.2.1 dX5_arrange_71 (by decide) ?_
                exact ih44 (i + 1) acc s2 _ _ _ (by omega) hp2 hO2 (by rw [← hf2, tk_step i0.1 (by omega), if_neg ht9]) (by omega) hM (lv_sub hl [0, 1, 2, 3, 4] rfl)
              · have ht9 := (ks56.mp c59).2.2
                refine lv_aload_n C.1 C.2.1 dX5_arrange_62 rfl (lv_at hl 1 rfl) ?_
                refine lv_iload C.1 C.2.1 dX5_arrange_63 (lv_at hl 0 rfl) ?_
                refine x_cv (x_runV (As := [.int (iI i)]) (rest := []) C (by omega) cw_X5_36 (c_X5_place l D ad G ids hI s2 j L c acc (L.getD i.toNat (-1)) i hj hL2 h18 hN hO2 (Or.inr ⟨i.toNat, by rw [List.getElem?_eq_getElem (by omega), ← getD_lt (by omega)], by omega⟩)) hM (hI _ (by omega)) (cx_lo ad G _ hj) rfl rfl rfl rfl (Nat.le_of_ble_eq_true rfl) hl.1 dX5_arrange_65) hM (fun s65 H1 lc1 hp hM => ?_)
                obtain ⟨hos65, hOs65⟩ := hp
                refine x_iinc (lv1 := [(4, .int (iI (i + 1))), (0, .ref (ad (26 + 5 * j))), (1, .int (iI ve)), (2, .int (iI v1)), (3, .int (iI v2))]) C dX5_arrange_68 hl (k := 0) rfl (by decide) rfl (fun ls hl => ?_)
                refine lv_goto (tgt := 44) C.1 C.2.1 dX5_arrange_71 (by decide) ?_
                exact ih44 (i + 1) (wnt L acc (L.getD i.toNat (-1))) s65 _ _ _ (by omega) (hp2.tr hos65) hOs65 (by rw [← hf2, tk_step i0.1 (by omega), if_pos ht9]) (by omega) hM (lv_sub hl [0, 1, 2, 3, 4] rfl)
        exact L44 _ 0 (wnt L [] ve) s38 _ _ _ (by omega) (hp1.tr hos38) hOs38 rfl (Nat.lt_succ_self _) hM (lv_sub hl [0, 1, 2, 3, 4] rfl)
      · refine lv_aload_n C.1 C.2.1 dX5_arrange_18 rfl (lv_at hl 1 rfl) ?_
        refine g_X5_3 C hM hj (hI _ (by omega)) wf_X5_22 dX5_arrange_19 ?_
        refine lv_iload C.1 C.2.1 dX5_arrange_22 (lv_at hl 0 rfl) ?_
        refine lv_iconst (v := iI 0) C.1 C.2.1 dX5_arrange_24 (by decide) ?_
        refine as_lp C hM hj (hI _ (by omega)) (by omega) (by omega) (by omega) dX5_arrange_25 (fun H1 lc1 hM => ?_)
        refine x_iinc (lv1 := [(4, .int (iI (i + 1))), (0, .ref (ad (26 + 5 * j))), (1, .int (iI ve)), (2, .int (iI v1)), (3, .int (iI v2))]) C dX5_arrange_26 hl (k := 0) rfl (by decide) rfl (fun ls hl => ?_)
        refine lv_goto (tgt := 8) C.1 C.2.1 dX5_arrange_29 (by decide) ?_
        exact ih8 (i + 1) (upr s1 (40 + 6 * j + 3) (ups (s1 (40 + 6 * j + 3)) i 0)) _ _ _ (by omega) (hp1.tr (fun r h => upr_ne _ _ (by omega))) (by rw [upr_ne _ _ (by omega)]; exact h5) (fun q a b => by
          rw [upr_eq]
          by_cases e : q = i
          · rw [e, ups_eq]
          · rw [ups_ne _ _ e]; exact h3 q a (by omega)) (by omega) hM (lv_sub hl [0, 1, 2, 3, 4] rfl)
  exact L8 _ 0 (upr σ (40 + 6 * j + 5) (ups (σ (40 + 6 * j + 5)) 0 0)) _ _ _ (by omega) (fun r h => upr_ne _ _ (by omega)) (by rw [upr_eq, ups_eq]) (fun q a b => by omega) (Nat.lt_succ_self _) hM (lv_sub hl [0, 1, 2, 3, 4] rfl)
