def goQ (d : Nat) (σ : Sg) : Int → Sg → Prop := fun z σ' => ((chF (wtF (mw σ) (keyS (cfg (mw σ)) (σ 201) (σ 204 0))) (MLs (σ 201) (σ 202 0) (σ 203 0) (σ 204 0)) 0 (-1) 0) ≠ -1 → (chF (wtF (mw σ) (keyS (cfg (mw σ)) (σ 201) (σ 204 0))) (MLs (σ 201) (σ 202 0) (σ 203 0) (σ 204 0)) 0 (-1) 0) = z ∧ ∃ τ, EQT τ σ ∧ PLQ τ σ' ((MLs (σ 201) (σ 202 0) (σ 203 0) (σ 204 0)).getD z.toNat (-1))) ∧ ((chF (wtF (mw σ) (keyS (cfg (mw σ)) (σ 201) (σ 204 0))) (MLs (σ 201) (σ 202 0) (σ 203 0) (σ 204 0)) 0 (-1) 0) = -1 → ∃ τ, SRQ d σ τ ∧ (0 ≤ z ∧ z < (MLs (σ 201) (σ 202 0) (σ 203 0) (σ 204 0)).length ∧ (MLs (σ 201) (σ 202 0) (σ 203 0) (σ 204 0)).getD z.toNat (-1) = τ 231 0) ∧ PLQ τ σ' ((MLs (σ 201) (σ 202 0) (σ 203 0) (σ 204 0)).getD z.toNat (-1)))
set_option maxRecDepth 100000 in
set_option maxHeartbeats 4000000 in
theorem c_X12_goNow (l : Launch) (D : va_G) (ad : Nat → Nat) (G : Nat → Nat) (ids : List Nat) (hJ : ∀ k, 100 ≤ k → k < 233 → k ∈ ids) (σ : Sg) (d : Int) (hd : 1 ≤ d ∧ d ≤ 4) (hG : GI (mw σ)) (hT : TI (mw σ)) (hT9 : T9 (mw σ)) (hTL : TL (cfg (mw σ)) (tv (mw σ))) (hBK : BKI (mw σ)) (htr : 0 ≤ σ 230 0 ∧ σ 230 0 ≤ 40) (hne : (MLs (σ 201) (σ 202 0) (σ 203 0) (σ 204 0)) ≠ []) : MET l yX12_goNow cX12_goNow 3 (some .int) 21 [.ref (ad 100), .int (iI d)] D ad G ids σ (QI D ad G ids (goQ d.toNat σ)) := by
  have hMB : ∀ v, v ∈ (MLs (σ 201) (σ 202 0) (σ 203 0) (σ 204 0)) → 0 ≤ v ∧ v < 2500 := MLsMB hG
  have h18 : (MLs (σ 201) (σ 202 0) (σ 203 0) (σ 204 0)).length ≤ 18 := MLs18 hG
  refine x_enter (by decide) (Nat.le_of_ble_eq_true rfl) ?_
  intro pp ee ss mm args below meth cq C hr ls hl hM
  have hl : lv_has ls 3 [(0, .ref (ad 100)), (1, .int (iI d))] := hl
  refine lv_aload_n C.1 C.2.1 dX12_goNow_0 rfl (lv_at hl 0 rfl) ?_
  refine x_ci (x_runV (As := []) (rest := []) C (by omega) cw_X12_250 (c_X12_toldNow l D ad G ids hJ σ hG hBK) hM (hJ 100 (by decide) (by decide)) (cx_100 ad G _) rfl rfl rfl rfl (Nat.le_of_ble_eq_true rfl) hl.1 dX12_goNow_1) hM (fun r1 s1 H1 lc1 hp hM => ?_)
  obtain ⟨hzs1, hLs1, hfs1⟩ := hp
  have f1 : ∀ r : Nat, r ≠ 240 → s1 r = σ r := fun r h => hfs1 r h
  have fza : ∀ r : Nat, r = 202 ∨ r = 203 ∨ r = 230 → s1 r = σ r := fun r h => f1 r (by omega)
  have hci := chF_in (wtF (mw σ) (keyS (cfg (mw σ)) (σ 201) (σ 204 0))) (MLs (σ 201) (σ 202 0) (σ 203 0) (σ 204 0)) 0 (-1) 0 (Or.inl rfl) (by decide)
  refine lv_istore_n (lv' := [(2, .int (iI r1)), (0, .ref (ad 100)), (1, .int (iI d))]) C.1 C.2.1 dX12_goNow_4 rfl hl (by decide) rfl (fun ls hl => ?_)
  refine lv_iload_n C.1 C.2.1 dX12_goNow_5 rfl (lv_at hl 0 rfl) ?_
  refine lv_iconst (v := iI (-1)) C.1 C.2.1 dX12_goNow_6 (by decide) ?_
  refine x_icmp_ne C ⟨by omega, by omega⟩ ⟨by omega, by omega⟩ (tgt := 45) dX12_goNow_7 (by decide) (fun c7 => ?_) (fun c7 => ?_)
  · have hx0 : 0 ≤ r1 ∧ r1 < (MLs (σ 201) (σ 202 0) (σ 203 0) (σ 204 0)).length := by omega
    have hmi : ((MLs (σ 201) (σ 202 0) (σ 203 0) (σ 204 0)).getD r1.toNat (-1)) ∈ (MLs (σ 201) (σ 202 0) (σ 203 0) (σ 204 0)) := getD_mem hx0.1 hx0.2
    have hmv : MV (mw σ) ((MLs (σ 201) (σ 202 0) (σ 203 0) (σ 204 0)).getD r1.toNat (-1)) := hmi
    have hok := hmv.ok hG
    have hok : (0 ≤ ((MLs (σ 201) (σ 202 0) (σ 203 0) (σ 204 0)).getD r1.toNat (-1)) ∧ ((MLs (σ 201) (σ 202 0) (σ 203 0) (σ 204 0)).getD r1.toNat (-1)) / 100 < σ 202 0 * σ 203 0 ∧ ((MLs (σ 201) (σ 202 0) (σ 203 0) (σ 204 0)).getD r1.toNat (-1)) % 100 < σ 202 0 * σ 203 0) ∧ ((MLs (σ 201) (σ 202 0) (σ 203 0) (σ 204 0)).getD r1.toNat (-1)) / 100 ≠ ((MLs (σ 201) (σ 202 0) (σ 203 0) (σ 204 0)).getD r1.toNat (-1)) % 100 ∧ ((MLs (σ 201) (σ 202 0) (σ 203 0) (σ 204 0)).getD r1.toNat (-1)) < 2500 := hok
    have hBz : BG (mw s1) := (BG_of (a := mw σ) (b := mw s1) (fza 202 (by decide)) (fza 203 (by decide))).mpr hG.1
    have hwz : s1 202 0 * s1 203 0 = σ 202 0 * σ 203 0 := by rw [fza 202 (by decide), fza 203 (by decide)]
    have e230 : s1 230 = σ 230 := fza 230 (by decide)
    refine lv_aload_n C.1 C.2.1 dX12_goNow_45 rfl (lv_at hl 1 rfl) ?_
    refine lv_aload_n C.1 C.2.1 dX12_goNow_46 rfl (lv_at hl 1 rfl) ?_
    refine g_X12_10 C hM (hJ 100 (by decide) (by decide)) wf_X12_29 dX12_goNow_47 ?_
    refine lv_iconst (v := iI 0) C.1 C.2.1 dX12_goNow_50 (by decide) ?_
    refine aa_listed C hM (hJ 103 (by decide) (by decide)) (i := 0) (by omega) dX12_goNow_51 ?_
    refine lv_iload_n C.1 C.2.1 dX12_goNow_52 rfl (lv_at hl 0 rfl) ?_
    refine al_li C hM (by omega) (hJ _ (by omega) (by omega)) (by omega) (by omega) dX12_goNow_53 ?_
    rw [hLs1.at hx0.1 hx0.2]
    refine x_ci (x_runV (As := [.int (iI ((MLs (σ 201) (σ 202 0) (σ 203 0) (σ 204 0)).getD r1.toNat (-1)))]) (rest := []) C (by omega) cw_X12_235 (c_X12_playNow l D ad G ids hJ s1 ((MLs (σ 201) (σ 202 0) (σ 203 0) (σ 204 0)).getD r1.toNat (-1)) hBz (by rw [e230]; exact htr) (by rw [hwz]; omega)) hM (hJ 100 (by decide) (by decide)) (cx_100 ad G _) rfl rfl rfl rfl (Nat.le_of_ble_eq_true rfl) hl.1 dX12_goNow_54) hM (fun r54 s54 H1 lc1 hp hM => ?_)
    obtain ⟨hzs54, hms54, hfs54⟩ := hp
    refine lv_pop C.1 C.2.1 dX12_goNow_57 rfl ?_
    refine lv_iload_n C.1 C.2.1 dX12_goNow_58 rfl (lv_at hl 0 rfl) ?_
    refine x_iret C hr hM ?_ dX12_goNow_59
    exact by
      unfold goQ
      refine ⟨fun _ => ⟨hzs1, s1, fun r hr => f1 r (by omega), hms54, hfs54⟩, fun h => absurd (hzs1.symm.trans h) (by omega)⟩
  · have hG1 : GI (mw s1) := GIm_of hG (fun r _ _ => f1 r (by omega))
    have hc1 : cfg (mw s1) = cfg (mw σ) := cfg_of (fun r hr => f1 (200 + r) (by omega))
    have hv1 : tv (mw s1) = tv (mw σ) := tv_mw (fun r hr => f1 r (by omega))
    have k1 : s1 201 = σ 201 := f1 201 (by decide)
    have k4 : s1 204 = σ 204 := f1 204 (by decide)
    have hT1 : TI (mw s1) := hT.of (fun r hr => f1 (200 + r) (by omega))
    have hT91 : T9 (mw s1) := hT9.of (f1 212 (by decide))
    refine lv_aload_n C.1 C.2.1 dX12_goNow_10 rfl (lv_at hl 1 rfl) ?_
    refine lv_iload_n C.1 C.2.1 dX12_goNow_11 rfl (lv_at hl 2 rfl) ?_
    refine x_ci (x_runV (As := [.int (iI d)]) (rest := []) C (by omega) cw_X12_238 (c_X12_searchNow l D ad G ids hJ s1 d.toNat d (by omega) (by omega) hG1 hT1 hT91) hM (hJ 100 (by decide) (by decide)) (cx_100 ad G _) rfl rfl rfl rfl (Nat.le_of_ble_eq_true rfl) hl.1 dX12_goNow_12) hM (fun r12 s12 H1 lc1 hp hM => ?_)
    obtain ⟨hz, ht, hn, hr2, hb, hf⟩ := hp
    rw [hc1, k1, k4, hv1] at ht hn hr2
    have hSR0 : SRQ d.toNat σ s12 := ⟨ht, hn, hr2, hb, fun r a b e => (hf r a b e).trans (f1 r (by unfold FRS at a; omega))⟩
    have bst := skp_best (c := σ 201) (sd := σ 204 0) (d := d.toNat) hG.2.2.2.2 hG.2.1 hG.2.2.1 hne (by omega) (T9_tv.mpr hT9) hTL
    have hb19 : s12 231 0 ∈ (MLs (σ 201) (σ 202 0) (σ 203 0) (σ 204 0)) := by
      have e := bst.2.2
      rw [← ht] at e
      rw [hb]
      exact e
    obtain ⟨ix, ix0, ix1, ixv⟩ := mem_ix hb19
    have g12 : ∀ r : Nat, FRS 0 r → r ≠ 220 → r ≠ 231 → s12 r = σ r := hSR0.2.2.2.2
    have hG12 : GI (mw s12) := GIm_of hG (fun r _ _ => g12 r (by unfold FRS; omega) (by omega) (by omega))
    have hL12 : MLs (s12 201) (s12 202 0) (s12 203 0) (s12 204 0) = (MLs (σ 201) (σ 202 0) (σ 203 0) (σ 204 0)) := by rw [g12 201 (by unfold FRS; omega) (by omega) (by omega), g12 202 (by unfold FRS; omega) (by omega) (by omega), g12 203 (by unfold FRS; omega) (by omega) (by omega), g12 204 (by unfold FRS; omega) (by omega) (by omega)]
    refine lv_pop C.1 C.2.1 dX12_goNow_15 rfl ?_
    refine lv_aload_n C.1 C.2.1 dX12_goNow_16 rfl (lv_at hl 1 rfl) ?_
    refine lv_iconst (v := iI 0) C.1 C.2.1 dX12_goNow_17 (by decide) ?_
    refine x_ci (x_runV (As := [.int (iI 0)]) (rest := []) C (by omega) cw_X12_123 (c_X12_list l D ad G ids hJ s12 0 0 rfl (by decide) hG12) hM (hJ 100 (by decide) (by decide)) (cx_100 ad G _) rfl rfl rfl rfl (Nat.le_of_ble_eq_true rfl) hl.1 dX12_goNow_18) hM (fun r18 s18 H1 lc1 hp hM => ?_)
    obtain ⟨rfl, hLs18, hfs18⟩ := hp
    rw [hL12] at hLs18
    have hL18 : RWL s18 240 (MLs (σ 201) (σ 202 0) (σ 203 0) (σ 204 0)) := hLs18
    have f18 : ∀ r : Nat, r ≠ 240 → s18 r = s12 r := fun r h => hfs18 r h
    have hSR : SRQ d.toNat σ s18 := ⟨(tv_mw (fun r hr => f18 r (by omega))).trans hSR0.1, (congrFun (f18 221 (by decide)) 0).trans hSR0.2.1, (congrFun (f18 220 (by decide)) 0).trans hSR0.2.2.1, by rw [f18 231 (by decide), f18 219 (by decide)]; exact hSR0.2.2.2.1, fun r a b e => (f18 r (by unfold FRS at a; omega)).trans (g12 r a b e)⟩
    have fzb : ∀ r : Nat, r = 202 ∨ r = 203 ∨ r = 230 → s18 r = σ r := fun r h => hSR.2.2.2.2 r (by unfold FRS; omega) (by omega) (by omega)
    have e231 : s18 231 0 = s12 231 0 := congrFun (f18 231 (by decide)) 0
    have hLx : ∀ x : Int, 0 ≤ x → x < (MLs (σ 201) (σ 202 0) (σ 203 0) (σ 204 0)).length → s18 240 x = (MLs (σ 201) (σ 202 0) (σ 203 0) (σ 204 0)).getD x.toNat (-1) := fun x a b => hL18.at a b
    have h18 : (MLs (σ 201) (σ 202 0) (σ 203 0) (σ 204 0)).length ≤ 18 := MLs18 hG
    refine lv_pop C.1 C.2.1 dX12_goNow_21 rfl ?_
    refine lv_iconst (v := iI 0) C.1 C.2.1 dX12_goNow_22 (by decide) ?_
    refine lv_istore_n (lv' := [(2, .int (iI 0)), (0, .ref (ad 100)), (1, .int (iI d))]) C.1 C.2.1 dX12_goNow_23 rfl hl (by decide) rfl (fun ls hl => ?_)
    have L24 : ∀ (fu : Nat) (x : Int) (H1 : Heap) (lc1 : List Loc) (ls1 : Array Slot), (0 ≤ x ∧ x ≤ ix) → (30 - x).toNat < fu → XI D ad G ids (AN ad ids ss.heap.size) ss.heap H1 lc1 s18 → lv_has ls1 3 [(2, .int (iI x)), (0, .ref (ad 100)), (1, .int (iI d))] → W pp l ee (rmh 21) ss mm args below meth cq H1 lc1 0 0 (MQ below (QI D ad G ids (goQ d.toNat σ) ss.heap.size) args ss 0 0 (AN ad ids ss.heap.size)) (F0 mm 24 ls1 []) := by
      intro fu
      induction fu with
      | zero => intro x  H1 lc1 ls1 x0 hfu; exact absurd hfu (Nat.not_lt_zero _)
      | succ fu ih24 =>
        intro x  H1 lc1 ls1 x0 hfu hM hl
        refine lv_aload_n C.1 C.2.1 dX12_goNow_24 rfl (lv_at hl 1 rfl) ?_
        refine g_X12_10 C hM (hJ 100 (by decide) (by decide)) wf_X12_29 dX12_goNow_25 ?_
        refine lv_iconst (v := iI 0) C.1 C.2.1 dX12_goNow_28 (by decide) ?_
        refine aa_listed C hM (hJ 103 (by decide) (by decide)) (i := 0) (by omega) dX12_goNow_29 ?_
        refine lv_iload_n C.1 C.2.1 dX12_goNow_30 rfl (lv_at hl 0 rfl) ?_
        refine al_li C hM (by omega) (hJ _ (by omega) (by omega)) (by omega) (by omega) dX12_goNow_31 ?_
        refine lv_aload_n C.1 C.2.1 dX12_goNow_32 rfl (lv_at hl 1 rfl) ?_
        refine g_X12_21 C hM (hJ 100 (by decide) (by decide)) wf_X12_51 dX12_goNow_33 ?_
        refine x_icmp_eq C (by rw [hLx _ x0.1 (by omega)]; have := hMB _ (getD_mem (L := (MLs (σ 201) (σ 202 0) (σ 203 0) (σ 204 0))) x0.1 (by omega)); unfold IR; omega) (by rw [e231]; have := hMB _ hb19; unfold IR; omega) (tgt := 45) dX12_goNow_36 (by decide) (fun c36 => ?_) (fun c36 => ?_)
        · have hx0 : 0 ≤ x ∧ x < (MLs (σ 201) (σ 202 0) (σ 203 0) (σ 204 0)).length := by omega
          have hxb : ((MLs (σ 201) (σ 202 0) (σ 203 0) (σ 204 0)).getD x.toNat (-1)) = s18 231 0 := by rw [← hLx x hx0.1 hx0.2]; exact c36
          have hmi : ((MLs (σ 201) (σ 202 0) (σ 203 0) (σ 204 0)).getD x.toNat (-1)) ∈ (MLs (σ 201) (σ 202 0) (σ 203 0) (σ 204 0)) := getD_mem hx0.1 hx0.2
          have hmv : MV (mw σ) ((MLs (σ 201) (σ 202 0) (σ 203 0) (σ 204 0)).getD x.toNat (-1)) := hmi
          have hok := hmv.ok hG
          have hok : (0 ≤ ((MLs (σ 201) (σ 202 0) (σ 203 0) (σ 204 0)).getD x.toNat (-1)) ∧ ((MLs (σ 201) (σ 202 0) (σ 203 0) (σ 204 0)).getD x.toNat (-1)) / 100 < σ 202 0 * σ 203 0 ∧ ((MLs (σ 201) (σ 202 0) (σ 203 0) (σ 204 0)).getD x.toNat (-1)) % 100 < σ 202 0 * σ 203 0) ∧ ((MLs (σ 201) (σ 202 0) (σ 203 0) (σ 204 0)).getD x.toNat (-1)) / 100 ≠ ((MLs (σ 201) (σ 202 0) (σ 203 0) (σ 204 0)).getD x.toNat (-1)) % 100 ∧ ((MLs (σ 201) (σ 202 0) (σ 203 0) (σ 204 0)).getD x.toNat (-1)) < 2500 := hok
          have hBz : BG (mw s18) := (BG_of (a := mw σ) (b := mw s18) (fzb 202 (by decide)) (fzb 203 (by decide))).mpr hG.1
          have hwz : s18 202 0 * s18 203 0 = σ 202 0 * σ 203 0 := by rw [fzb 202 (by decide), fzb 203 (by decide)]
          have e230 : s18 230 = σ 230 := fzb 230 (by decide)
          refine lv_aload_n C.1 C.2.1 dX12_goNow_45 rfl (lv_at hl 1 rfl) ?_
          refine lv_aload_n C.1 C.2.1 dX12_goNow_46 rfl (lv_at hl 1 rfl) ?_
          refine g_X12_10 C hM (hJ 100 (by decide) (by decide)) wf_X12_29 dX12_goNow_47 ?_
          refine lv_iconst (v := iI 0) C.1 C.2.1 dX12_goNow_50 (by decide) ?_
          refine aa_listed C hM (hJ 103 (by decide) (by decide)) (i := 0) (by omega) dX12_goNow_51 ?_
          refine lv_iload_n C.1 C.2.1 dX12_goNow_52 rfl (lv_at hl 0 rfl) ?_
          refine al_li C hM (by omega) (hJ _ (by omega) (by omega)) (by omega) (by omega) dX12_goNow_53 ?_
          rw [hLx _ hx0.1 hx0.2]
          refine x_ci (x_runV (As := [.int (iI ((MLs (σ 201) (σ 202 0) (σ 203 0) (σ 204 0)).getD x.toNat (-1)))]) (rest := []) C (by omega) cw_X12_235 (c_X12_playNow l D ad G ids hJ s18 ((MLs (σ 201) (σ 202 0) (σ 203 0) (σ 204 0)).getD x.toNat (-1)) hBz (by rw [e230]; exact htr) (by rw [hwz]; omega)) hM (hJ 100 (by decide) (by decide)) (cx_100 ad G _) rfl rfl rfl rfl (Nat.le_of_ble_eq_true rfl) hl.1 dX12_goNow_54) hM (fun r54 s54 H1 lc1 hp hM => ?_)
          obtain ⟨hzs54, hms54, hfs54⟩ := hp
          refine lv_pop C.1 C.2.1 dX12_goNow_57 rfl ?_
          refine lv_iload_n C.1 C.2.1 dX12_goNow_58 rfl (lv_at hl 0 rfl) ?_
          refine x_iret C hr hM ?_ dX12_goNow_59
          exact by
            unfold goQ
            refine ⟨fun h => absurd (show _ = (-1 : Int) by omega) h, fun _ => ⟨s18, hSR, ⟨x0.1, by omega, hxb⟩, hms54, hfs54⟩⟩
        · have hxi : x ≠ ix := fun q => c36 (by rw [hLx _ x0.1 (by omega), q, ixv, e231])
          refine x_iinc (lv1 := [(2, .int (iI (x + 1))), (0, .ref (ad 100)), (1, .int (iI d))]) C dX12_goNow_39 hl (k := 0) rfl (by decide) rfl (fun ls hl => ?_)
          refine lv_goto (tgt := 24) C.1 C.2.1 dX12_goNow_42 (by decide) ?_
          exact ih24 (x + 1) _ _ _ (by omega) (by omega) hM (lv_sub hl [0, 1, 2] rfl)
    exact L24 _ 0 _ _ _ (by omega) (Nat.lt_succ_self _) hM (lv_sub hl [0, 1, 2] rfl)
