set_option maxRecDepth 100000 in
set_option maxHeartbeats 4000000 in
theorem c_X12_pageOf (l : Launch) (D : va_G) (ad : Nat → Nat) (G : Nat → Nat) (ids : List Nat) (hJ : ∀ k, 100 ≤ k → k < 233 → k ∈ ids) (σ : Sg) (key v : Int) (hBK : BKI (mw σ)) (hkey : 0 ≤ key ∧ key < 4000000000000000000) (hv : -1 ≤ v ∧ v < 2500) : MET l yX12_pageOf cX12_pageOf 5 (some .int) 1 [.ref (ad 100), .long (jI key), .int (iI v)] D ad G ids σ (QI D ad G ids (fun z σ' => FB (mw σ) key v z ∧ σ = σ')) := by
  have hbk : 0 ≤ σ 227 0 ∧ σ 227 0 ≤ 30 := hBK.1
  refine x_enter (by decide) (Nat.le_of_ble_eq_true rfl) ?_
  intro pp ee ss mm args below meth cq C hr ls hl hM
  have hl : lv_has ls 5 [(0, .ref (ad 100)), (1, .long (jI key)), (3, .int (iI v))] := hl
  refine lv_aload_n C.1 C.2.1 dX12_pageOf_0 rfl (lv_at hl 0 rfl) ?_
  refine g_X12_22 C hM (hJ 100 (by decide) (by decide)) wf_X12_210 dX12_pageOf_1 ?_
  refine lv_iconst (v := iI 1) C.1 C.2.1 dX12_pageOf_4 (by decide) ?_
  refine x_isub C dX12_pageOf_5 ?_
  refine lv_istore (lv' := [(4, .int (iI ((σ 227 0) - 1))), (0, .ref (ad 100)), (1, .long (jI key)), (3, .int (iI v))]) C.1 C.2.1 dX12_pageOf_6 hl (by decide) rfl (fun ls hl => ?_)
  have L8 : ∀ (fu : Nat) (k : Int) (H1 : Heap) (lc1 : List Loc) (ls1 : Array Slot), (-1 ≤ k ∧ k < σ 227 0) → (∀ q : Int, k < q → q < σ 227 0 → ¬ (σ 224 q = key ∧ σ 225 q = v)) → (k + 5).toNat < fu → XI D ad G ids (AN ad ids ss.heap.size) ss.heap H1 lc1 σ → lv_has ls1 5 [(4, .int (iI k)), (0, .ref (ad 100)), (1, .long (jI key)), (3, .int (iI v))] → W pp l ee (rmh 1) ss mm args below meth cq H1 lc1 0 0 (MQ below (QI D ad G ids (fun z σ' => FB (mw σ) key v z ∧ σ = σ') ss.heap.size) args ss 0 0 (AN ad ids ss.heap.size)) (F0 mm 8 ls1 []) := by
    intro fu
    induction fu with
    | zero => intro k  H1 lc1 ls1 k0 hno hfu; exact absurd hfu (Nat.not_lt_zero _)
    | succ fu ih8 =>
      intro k  H1 lc1 ls1 k0 hno hfu hM hl
      refine lv_iload C.1 C.2.1 dX12_pageOf_8 (lv_at hl 0 rfl) ?_
      refine x_if_lt C ⟨by omega, by omega⟩ (tgt := 44) dX12_pageOf_10 (by decide) (fun c10 => ?_) (fun c10 => ?_)
      · refine lv_iload C.1 C.2.1 dX12_pageOf_44 (lv_at hl 0 rfl) ?_
        exact x_iret C hr hM ⟨by first | exact Or.inl (show 0 ≤ k ∧ k < σ 227 0 ∧ σ 224 k = key ∧ σ 225 k = v by omega) | exact Or.inr ⟨by omega, fun q a b => hno q (by omega) b⟩, rfl⟩ dX12_pageOf_46
      · have hq : (0 ≤ σ 224 k ∧ σ 224 k < 4000000000000000000) ∧ (-1 ≤ σ 225 k ∧ σ 225 k < 2500) ∧ (0 ≤ σ 226 k ∧ σ 226 k ≤ 99) := hBK.2.1 k
        refine lv_aload_n C.1 C.2.1 dX12_pageOf_13 rfl (lv_at hl 1 rfl) ?_
        refine g_X12_23 C hM (hJ 100 (by decide) (by decide)) wf_X12_54 dX12_pageOf_14 ?_
        refine lv_iload C.1 C.2.1 dX12_pageOf_17 (lv_at hl 0 rfl) ?_
        refine al_201 C hM (hJ 201 (by decide) (by decide)) (by omega) (by omega) dX12_pageOf_19 ?_
        refine lv_lload_n C.1 C.2.1 dX12_pageOf_20 rfl (lv_at hl 2 rfl) ?_
        refine x_lcmp C ⟨by omega, by omega⟩ ⟨by omega, by omega⟩ dX12_pageOf_21 (fun z21 i21 e21 g21 => ?_)
        refine x_if_ne C ⟨by omega, by omega⟩ (tgt := 38) dX12_pageOf_22 (by decide) (fun c22 => ?_) (fun c22 => ?_)
        · refine x_iinc (lv1 := [(4, .int (iI (k + (-1)))), (0, .ref (ad 100)), (1, .long (jI key)), (3, .int (iI v))]) C dX12_pageOf_38 hl (k := 0) rfl (by decide) rfl (fun ls hl => ?_)
          refine lv_goto (tgt := 8) C.1 C.2.1 dX12_pageOf_41 (by decide) ?_
          exact ih8 (k + (-1)) _ _ _ (by omega) (fun q a b => by
            by_cases e : q = k
            · rw [e]; omega
            · exact hno q (by omega) b) (by omega) hM (lv_sub hl [0, 1, 2, 3] rfl)
        · refine lv_aload_n C.1 C.2.1 dX12_pageOf_25 rfl (lv_at hl 1 rfl) ?_
          refine g_X12_24 C hM (hJ 100 (by decide) (by decide)) wf_X12_57 dX12_pageOf_26 ?_
          refine lv_iload C.1 C.2.1 dX12_pageOf_29 (lv_at hl 0 rfl) ?_
          refine aaz_page C hM (hJ 202 (by decide) (by decide)) (by omega) (by omega) dX12_pageOf_31 ?_
          refine lv_iconst (v := iI 0) C.1 C.2.1 dX12_pageOf_32 (by decide) ?_
          refine alz_pg0 C hM (by omega) (by omega) (hJ _ (by omega) (by omega)) dX12_pageOf_33 ?_
          refine lv_iload_n C.1 C.2.1 dX12_pageOf_34 rfl (lv_at hl 3 rfl) ?_
          refine x_icmp_eq C ⟨by omega, by omega⟩ ⟨by omega, by omega⟩ (tgt := 44) dX12_pageOf_35 (by decide) (fun c35 => ?_) (fun c35 => ?_)
          · refine lv_iload C.1 C.2.1 dX12_pageOf_44 (lv_at hl 0 rfl) ?_
            exact x_iret C hr hM ⟨by first | exact Or.inl (show 0 ≤ k ∧ k < σ 227 0 ∧ σ 224 k = key ∧ σ 225 k = v by omega) | exact Or.inr ⟨by omega, fun q a b => hno q (by omega) b⟩, rfl⟩ dX12_pageOf_46
          · refine x_iinc (lv1 := [(4, .int (iI (k + (-1)))), (0, .ref (ad 100)), (1, .long (jI key)), (3, .int (iI v))]) C dX12_pageOf_38 hl (k := 0) rfl (by decide) rfl (fun ls hl => ?_)
            refine lv_goto (tgt := 8) C.1 C.2.1 dX12_pageOf_41 (by decide) ?_
            exact ih8 (k + (-1)) _ _ _ (by omega) (fun q a b => by
              by_cases e : q = k
              · rw [e]; omega
              · exact hno q (by omega) b) (by omega) hM (lv_sub hl [0, 1, 2, 3] rfl)
  exact L8 _ ((σ 227 0) - 1) _ _ _ (by omega) (fun q a b => by omega) (Nat.lt_succ_self _) hM (lv_sub hl [0, 1, 2, 3] rfl)
set_option maxRecDepth 100000 in
set_option maxHeartbeats 4000000 in
theorem c_X12_toldNow (l : Launch) (D : va_G) (ad : Nat → Nat) (G : Nat → Nat) (ids : List Nat) (hJ : ∀ k, 100 ≤ k → k < 233 → k ∈ ids) (σ : Sg)  (hG : GI (mw σ)) (hBK : BKI (mw σ)) : MET l yX12_toldNow cX12_toldNow 6 (some .int) 7 [.ref (ad 100)] D ad G ids σ (QI D ad G ids (fun z σ' => chF (wtF (mw σ) (keyS (cfg (mw σ)) (σ 201) (σ 204 0))) (MLs (σ 201) (σ 202 0) (σ 203 0) (σ 204 0)) 0 (-1) 0 = z ∧ RWL σ' 240 (MLs (σ 201) (σ 202 0) (σ 203 0) (σ 204 0)) ∧ OF 240 σ σ')) := by
  have hB : BG (mw σ) := hG.1
  have w1 : 3 ≤ σ 202 0 := hB.1
  have w2 : σ 202 0 ≤ 5 := hB.2.1
  have h1 : 3 ≤ σ 203 0 := hB.2.2.1
  have h2 : σ 203 0 ≤ 5 := hB.2.2.2
  have wb := wh_bd w1 w2 h1 h2
  have hC : BC (σ 201) := hG.2.1
  have hs : σ 204 0 = 0 ∨ σ 204 0 = 1 := hG.2.2.1
  have hbk : 0 ≤ σ 227 0 ∧ σ 227 0 ≤ 30 := hBK.1
  have h18 : (MLs (σ 201) (σ 202 0) (σ 203 0) (σ 204 0)).length ≤ 18 := MLs18 hG
  have hMB : ∀ v, v ∈ (MLs (σ 201) (σ 202 0) (σ 203 0) (σ 204 0)) → 0 ≤ v ∧ v < 2500 := MLsMB hG
  have hkey : 0 ≤ (keyS (cfg (mw σ)) (σ 201) (σ 204 0)) ∧ (keyS (cfg (mw σ)) (σ 201) (σ 204 0)) < 4000000000000000000 := SB_key hG
  refine x_enter (by decide) (Nat.le_of_ble_eq_true rfl) ?_
  intro pp ee ss mm args below meth cq C hr ls hl hM
  have hl : lv_has ls 6 [(0, .ref (ad 100))] := hl
  refine lv_aload_n C.1 C.2.1 dX12_toldNow_0 rfl (lv_at hl 0 rfl) ?_
  refine lv_iconst (v := iI 0) C.1 C.2.1 dX12_toldNow_1 (by decide) ?_
  refine x_ci (x_runV (As := [.int (iI 0)]) (rest := []) C (by omega) cw_X12_123 (c_X12_list l D ad G ids hJ σ 0 0 rfl (by decide) hG) hM (hJ 100 (by decide) (by decide)) (cx_100 ad G _) rfl rfl rfl rfl (Nat.le_of_ble_eq_true rfl) hl.1 dX12_toldNow_2) hM (fun r2 s2 H1 lc1 hp hM => ?_)
  obtain ⟨rfl, hLs2, hfs2⟩ := hp
  have f2 : ∀ r : Nat, r ≠ 240 → s2 r = σ r := fun r h => hfs2 r h
  have hGs : GI (mw s2) := GIm_of hG (fun r _ _ => f2 r (by omega))
  have hBs : BKI (mw s2) := by
    have q1 : mw s2 24 = mw σ 24 := f2 224 (by decide)
    have q2 : mw s2 25 = mw σ 25 := f2 225 (by decide)
    have q3 : mw s2 26 = mw σ 26 := f2 226 (by decide)
    have q4 : mw s2 27 = mw σ 27 := f2 227 (by decide)
    unfold BKI at *
    rw [q1, q2, q3, q4]; exact hBK
  refine lv_istore_n (lv' := [(1, .int (iI ((MLs (σ 201) (σ 202 0) (σ 203 0) (σ 204 0)).length : Int))), (0, .ref (ad 100))]) C.1 C.2.1 dX12_toldNow_5 rfl hl (by decide) rfl (fun ls hl => ?_)
  refine lv_iconst (v := iI (-1)) C.1 C.2.1 dX12_toldNow_6 (by decide) ?_
  refine lv_istore_n (lv' := [(2, .int (iI (-1))), (1, .int (iI ((MLs (σ 201) (σ 202 0) (σ 203 0) (σ 204 0)).length : Int))), (0, .ref (ad 100))]) C.1 C.2.1 dX12_toldNow_7 rfl hl (by decide) rfl (fun ls hl => ?_)
  refine lv_iconst (v := iI 0) C.1 C.2.1 dX12_toldNow_8 (by decide) ?_
  refine lv_istore_n (lv' := [(3, .int (iI 0)), (2, .int (iI (-1))), (1, .int (iI ((MLs (σ 201) (σ 202 0) (σ 203 0) (σ 204 0)).length : Int))), (0, .ref (ad 100))]) C.1 C.2.1 dX12_toldNow_9 rfl hl (by decide) rfl (fun ls hl => ?_)
  refine lv_iconst (v := iI 0) C.1 C.2.1 dX12_toldNow_10 (by decide) ?_
  refine lv_istore (lv' := [(4, .int (iI 0)), (3, .int (iI 0)), (2, .int (iI (-1))), (1, .int (iI ((MLs (σ 201) (σ 202 0) (σ 203 0) (σ 204 0)).length : Int))), (0, .ref (ad 100))]) C.1 C.2.1 dX12_toldNow_11 hl (by decide) rfl (fun ls hl => ?_)
  have L13 : ∀ (fu : Nat) (x : Int) (ch : Int) (g : Int) (H1 : Heap) (lc1 : List Loc) (ls1 : Array Slot), (0 ≤ x ∧ x ≤ (MLs (σ 201) (σ 202 0) (σ 203 0) (σ 204 0)).length) → (0 ≤ g ∧ g ≤ 99) → (chF (wtF (mw σ) (keyS (cfg (mw σ)) (σ 201) (σ 204 0))) ((MLs (σ 201) (σ 202 0) (σ 203 0) (σ 204 0)).drop x.toNat) x ch g = chF (wtF (mw σ) (keyS (cfg (mw σ)) (σ 201) (σ 204 0))) (MLs (σ 201) (σ 202 0) (σ 203 0) (σ 204 0)) 0 (-1) 0) → (20 - x).toNat < fu → XI D ad G ids (AN ad ids ss.heap.size) ss.heap H1 lc1 s2 → lv_has ls1 6 [(4, .int (iI x)), (3, .int (iI g)), (2, .int (iI ch)), (1, .int (iI ((MLs (σ 201) (σ 202 0) (σ 203 0) (σ 204 0)).length : Int))), (0, .ref (ad 100))] → W pp l ee (rmh 7) ss mm args below meth cq H1 lc1 0 0 (MQ below (QI D ad G ids (fun z σ' => chF (wtF (mw σ) (keyS (cfg (mw σ)) (σ 201) (σ 204 0))) (MLs (σ 201) (σ 202 0) (σ 203 0) (σ 204 0)) 0 (-1) 0 = z ∧ RWL σ' 240 (MLs (σ 201) (σ 202 0) (σ 203 0) (σ 204 0)) ∧ OF 240 σ σ') ss.heap.size) args ss 0 0 (AN ad ids ss.heap.size)) (F0 mm 13 ls1 []) := by
    intro fu
    induction fu with
    | zero => intro x ch g  H1 lc1 ls1 x0 g0 hq hfu; exact absurd hfu (Nat.not_lt_zero _)
    | succ fu ih13 =>
      intro x ch g  H1 lc1 ls1 x0 g0 hq hfu hM hl
      refine lv_iload C.1 C.2.1 dX12_toldNow_13 (lv_at hl 0 rfl) ?_
      refine lv_iload_n C.1 C.2.1 dX12_toldNow_15 rfl (lv_at hl 3 rfl) ?_
      refine x_icmp_ge C ⟨by omega, by omega⟩ ⟨by omega, by omega⟩ (tgt := 79) dX12_toldNow_16 (by decide) (fun c16 => ?_) (fun c16 => ?_)
      · refine lv_iload_n C.1 C.2.1 dX12_toldNow_79 rfl (lv_at hl 2 rfl) ?_
        exact x_iret C hr hM ⟨by rw [← hq, drop_e (L := (MLs (σ 201) (σ 202 0) (σ 203 0) (σ 204 0))) x0.1 (by omega), chF], hLs2, hfs2⟩ dX12_toldNow_80
      · refine lv_aload_n C.1 C.2.1 dX12_toldNow_19 rfl (lv_at hl 4 rfl) ?_
        refine lv_aload_n C.1 C.2.1 dX12_toldNow_20 rfl (lv_at hl 4 rfl) ?_
        refine x_cl (x_runV (As := []) (rest := [.ref (ad 100)]) C (by omega) cw_X12_157 (c_X12_keyNow l D ad G ids hJ s2 hGs.1 hGs.2.1 (by unfold IR; rw [f2 204 (by decide)]; omega)) hM (hJ 100 (by decide) (by decide)) (cx_100 ad G _) rfl rfl rfl rfl (Nat.le_of_ble_eq_true rfl) hl.1 dX12_toldNow_21) hM (fun r21 s21 H1 lc1 hp hM => ?_)
        obtain ⟨rfl, rfl⟩ := hp
        have hke : keyF (s2 201) (s2 202 0 * s2 203 0).toNat * 2 + s2 204 0 = (keyS (cfg (mw σ)) (σ 201) (σ 204 0)) := by rw [f2 201 (by decide), f2 202 (by decide), f2 203 (by decide), f2 204 (by decide)]; rfl
        rw [hke]
        refine lv_aload_n C.1 C.2.1 dX12_toldNow_24 rfl (lv_at hl 4 rfl) ?_
        refine g_X12_10 C hM (hJ 100 (by decide) (by decide)) wf_X12_29 dX12_toldNow_25 ?_
        refine lv_iconst (v := iI 0) C.1 C.2.1 dX12_toldNow_28 (by decide) ?_
        refine aa_listed C hM (hJ 103 (by decide) (by decide)) (i := 0) (by omega) dX12_toldNow_29 ?_
        refine lv_iload C.1 C.2.1 dX12_toldNow_30 (lv_at hl 0 rfl) ?_
        refine al_li C hM (by omega) (hJ _ (by omega) (by omega)) (by omega) (by omega) dX12_toldNow_32 ?_
        rw [hLs2.at x0.1 (by omega)]
        have hmi : ((MLs (σ 201) (σ 202 0) (σ 203 0) (σ 204 0)).getD x.toNat (-1)) ∈ (MLs (σ 201) (σ 202 0) (σ 203 0) (σ 204 0)) := getD_mem x0.1 (by omega)
        have hmb := hMB _ hmi
        refine x_ci (x_runV (As := [.long (jI (keyS (cfg (mw σ)) (σ 201) (σ 204 0))), .int (iI ((MLs (σ 201) (σ 202 0) (σ 203 0) (σ 204 0)).getD x.toNat (-1)))]) (rest := []) C (by omega) cw_X12_213 (c_X12_pageOf l D ad G ids hJ s2 (keyS (cfg (mw σ)) (σ 201) (σ 204 0)) ((MLs (σ 201) (σ 202 0) (σ 203 0) (σ 204 0)).getD x.toNat (-1)) hBs hkey (by omega)) hM (hJ 100 (by decide) (by decide)) (cx_100 ad G _) rfl rfl rfl rfl (Nat.le_of_ble_eq_true rfl) hl.1 dX12_toldNow_33) hM (fun r33 s33 H1 lc1 hp hM => ?_)
        obtain ⟨hbs33, rfl⟩ := hp
        have hb3 : FB (mw σ) (keyS (cfg (mw σ)) (σ 201) (σ 204 0)) ((MLs (σ 201) (σ 202 0) (σ 203 0) (σ 204 0)).getD x.toNat (-1)) r33 := by
          have q1 : mw s2 24 = mw σ 24 := f2 224 (by decide)
          have q2 : mw s2 25 = mw σ 25 := f2 225 (by decide)
          have q4 : mw s2 27 = mw σ 27 := f2 227 (by decide)
          unfold FB at hbs33 ⊢
          rw [q1, q2, q4] at hbs33; exact hbs33
        have hz33 : (0 ≤ r33 ∧ r33 < 30) ∨ r33 = -1 := by
          have := hBK.1
          rcases hb3 with h | h <;> omega
        have hw0 := FB_wt hBK hb3
        have hw2 := wt_bd hBK (keyS (cfg (mw σ)) (σ 201) (σ 204 0)) ((MLs (σ 201) (σ 202 0) (σ 203 0) (σ 204 0)).getD x.toNat (-1))
        refine lv_istore (lv' := [(5, .int (iI r33)), (4, .int (iI x)), (3, .int (iI g)), (2, .int (iI ch)), (1, .int (iI ((MLs (σ 201) (σ 202 0) (σ 203 0) (σ 204 0)).length : Int))), (0, .ref (ad 100))]) C.1 C.2.1 dX12_toldNow_36 hl (by decide) rfl (fun ls hl => ?_)
        refine lv_iload C.1 C.2.1 dX12_toldNow_38 (lv_at hl 0 rfl) ?_
        refine lv_iconst (v := iI (-1)) C.1 C.2.1 dX12_toldNow_40 (by decide) ?_
        refine x_icmp_eq C ⟨by omega, by omega⟩ ⟨by omega, by omega⟩ (tgt := 73) dX12_toldNow_41 (by decide) (fun c41 => ?_) (fun c41 => ?_)
        · refine x_iinc (lv1 := [(4, .int (iI (x + 1))), (5, .int (iI r33)), (3, .int (iI g)), (2, .int (iI ch)), (1, .int (iI ((MLs (σ 201) (σ 202 0) (σ 203 0) (σ 204 0)).length : Int))), (0, .ref (ad 100))]) C dX12_toldNow_73 hl (k := 1) rfl (by decide) rfl (fun ls hl => ?_)
          refine lv_goto (tgt := 13) C.1 C.2.1 dX12_toldNow_76 (by decide) ?_
          exact ih13 (x + 1) ch g _ _ _ (by omega) (by omega) (by rw [← hq, drop_s (L := (MLs (σ 201) (σ 202 0) (σ 203 0) (σ 204 0))) (i := x) x0.1 (by omega), chF, if_neg (by omega)]) (by omega) hM (lv_sub hl [0, 2, 3, 4, 5] rfl)
        · have hw : σ 226 r33 = wtF (mw σ) (keyS (cfg (mw σ)) (σ 201) (σ 204 0)) ((MLs (σ 201) (σ 202 0) (σ 203 0) (σ 204 0)).getD x.toNat (-1)) := by rw [← hw0, if_pos (by omega)]; rfl
          refine lv_aload_n C.1 C.2.1 dX12_toldNow_44 rfl (lv_at hl 5 rfl) ?_
          refine g_X12_24 C hM (hJ 100 (by decide) (by decide)) wf_X12_57 dX12_toldNow_45 ?_
          refine lv_iload C.1 C.2.1 dX12_toldNow_48 (lv_at hl 0 rfl) ?_
          refine aaz_page C hM (hJ 202 (by decide) (by decide)) (by omega) (by omega) dX12_toldNow_50 ?_
          refine lv_iconst (v := iI 1) C.1 C.2.1 dX12_toldNow_51 (by decide) ?_
          refine alz_pg1 C hM (by omega) (by omega) (hJ _ (by omega) (by omega)) dX12_toldNow_52 ?_
          rw [f2 226 (by decide)]
          refine lv_iload_n C.1 C.2.1 dX12_toldNow_53 rfl (lv_at hl 2 rfl) ?_
          refine x_icmp_gt C ⟨by omega, by omega⟩ ⟨by omega, by omega⟩ (tgt := 60) dX12_toldNow_54 (by decide) (fun c54 => ?_) (fun c54 => ?_)
          · refine lv_iload C.1 C.2.1 dX12_toldNow_60 (lv_at hl 1 rfl) ?_
            refine lv_istore_n (lv' := [(2, .int (iI x)), (5, .int (iI r33)), (4, .int (iI x)), (3, .int (iI g)), (1, .int (iI ((MLs (σ 201) (σ 202 0) (σ 203 0) (σ 204 0)).length : Int))), (0, .ref (ad 100))]) C.1 C.2.1 dX12_toldNow_62 rfl hl (by decide) rfl (fun ls hl => ?_)
            refine lv_aload_n C.1 C.2.1 dX12_toldNow_63 rfl (lv_at hl 5 rfl) ?_
            refine g_X12_24 C hM (hJ 100 (by decide) (by decide)) wf_X12_57 dX12_toldNow_64 ?_
            refine lv_iload C.1 C.2.1 dX12_toldNow_67 (lv_at hl 1 rfl) ?_
            refine aaz_page C hM (hJ 202 (by decide) (by decide)) (by omega) (by omega) dX12_toldNow_69 ?_
            refine lv_iconst (v := iI 1) C.1 C.2.1 dX12_toldNow_70 (by decide) ?_
            refine alz_pg1 C hM (by omega) (by omega) (hJ _ (by omega) (by omega)) dX12_toldNow_71 ?_
            rw [f2 226 (by decide)]
            refine lv_istore_n (lv' := [(3, .int (iI (σ 226 r33))), (2, .int (iI x)), (5, .int (iI r33)), (4, .int (iI x)), (1, .int (iI ((MLs (σ 201) (σ 202 0) (σ 203 0) (σ 204 0)).length : Int))), (0, .ref (ad 100))]) C.1 C.2.1 dX12_toldNow_72 rfl hl (by decide) rfl (fun ls hl => ?_)
            refine x_iinc (lv1 := [(4, .int (iI (x + 1))), (3, .int (iI (σ 226 r33))), (2, .int (iI x)), (5, .int (iI r33)), (1, .int (iI ((MLs (σ 201) (σ 202 0) (σ 203 0) (σ 204 0)).length : Int))), (0, .ref (ad 100))]) C dX12_toldNow_73 hl (k := 3) rfl (by decide) rfl (fun ls hl => ?_)
            refine lv_goto (tgt := 13) C.1 C.2.1 dX12_toldNow_76 (by decide) ?_
            exact ih13 (x + 1) x (σ 226 r33) _ _ _ (by omega) (by omega) (by rw [← hq, drop_s (L := (MLs (σ 201) (σ 202 0) (σ 203 0) (σ 204 0))) (i := x) x0.1 (by omega), chF, if_pos (by omega)]; rw [hw]) (by omega) hM (lv_sub hl [0, 1, 2, 4, 5] rfl)
          · refine lv_goto (tgt := 73) C.1 C.2.1 dX12_toldNow_57 (by decide) ?_
            refine x_iinc (lv1 := [(4, .int (iI (x + 1))), (5, .int (iI r33)), (3, .int (iI g)), (2, .int (iI ch)), (1, .int (iI ((MLs (σ 201) (σ 202 0) (σ 203 0) (σ 204 0)).length : Int))), (0, .ref (ad 100))]) C dX12_toldNow_73 hl (k := 1) rfl (by decide) rfl (fun ls hl => ?_)
            refine lv_goto (tgt := 13) C.1 C.2.1 dX12_toldNow_76 (by decide) ?_
            exact ih13 (x + 1) ch g _ _ _ (by omega) (by omega) (by rw [← hq, drop_s (L := (MLs (σ 201) (σ 202 0) (σ 203 0) (σ 204 0))) (i := x) x0.1 (by omega), chF, if_neg (by omega)]) (by omega) hM (lv_sub hl [0, 2, 3, 4, 5] rfl)
  exact L13 _ 0 (-1) 0 _ _ _ (by omega) (by omega) rfl (Nat.lt_succ_self _) hM (lv_sub hl [0, 1, 2, 3, 4] rfl)
set_option maxRecDepth 100000 in
set_option maxHeartbeats 4000000 in
theorem c_X12_thrown (l : Launch) (D : va_G) (ad : Nat → Nat) (G : Nat → Nat) (ids : List Nat) (hJ : ∀ k, 100 ≤ k → k < 233 → k ∈ ids) (σ : Sg)   : MET l yX12_thrown cX12_thrown 1 (some .int) 1 [.ref (ad 100)] D ad G ids σ (QI D ad G ids (fun z σ' => σ 232 0 = z ∧ σ = σ')) := by
  refine x_enter (by decide) (Nat.le_of_ble_eq_true rfl) ?_
  intro pp ee ss mm args below meth cq C hr ls hl hM
  have hl : lv_has ls 1 [(0, .ref (ad 100))] := hl
  refine lv_aload_n C.1 C.2.1 dX12_thrown_0 rfl (lv_at hl 0 rfl) ?_
  refine g_X12_0 C hM (hJ 100 (by decide) (by decide)) wf_X12_64 dX12_thrown_1 ?_
  exact x_iret C hr hM ⟨rfl, rfl⟩ dX12_thrown_4
set_option maxRecDepth 100000 in
set_option maxHeartbeats 4000000 in
theorem c_X12_refuse (l : Launch) (D : va_G) (ad : Nat → Nat) (G : Nat → Nat) (ids : List Nat) (hJ : ∀ k, 100 ≤ k → k < 233 → k ∈ ids) (σ : Sg) (n : Int)  : MET l yX12_refuse cX12_refuse 2 (some .int) 1 [.ref (ad 100), .int (iI n)] D ad G ids σ (QI D ad G ids (fun z σ' => 0 = z ∧ upr σ 232 (ups (σ 232) 0 n) = σ')) := by
  refine x_enter (by decide) (Nat.le_of_ble_eq_true rfl) ?_
  intro pp ee ss mm args below meth cq C hr ls hl hM
  have hl : lv_has ls 2 [(0, .ref (ad 100)), (1, .int (iI n))] := hl
  refine lv_aload_n C.1 C.2.1 dX12_refuse_0 rfl (lv_at hl 0 rfl) ?_
  refine lv_iload_n C.1 C.2.1 dX12_refuse_1 rfl (lv_at hl 1 rfl) ?_
  refine p_X12_0 C hM (hJ 100 (by decide) (by decide)) wf_X12_64 dX12_refuse_2 (fun H1 lc1 hM => ?_)
  refine lv_iconst (v := iI 0) C.1 C.2.1 dX12_refuse_5 (by decide) ?_
  exact x_iret C hr hM ⟨rfl, rfl⟩ dX12_refuse_6
