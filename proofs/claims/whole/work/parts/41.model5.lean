set_option maxRecDepth 100000 in
set_option maxHeartbeats 4000000 in
theorem c_X12_order (l : Launch) (D : va_G) (ad : Nat → Nat) (G : Nat → Nat) (ids : List Nat) (hJ : ∀ k, 100 ≤ k → k < 233 → k ∈ ids) (σ : Sg) (p : Nat) (pn d e : Int) (hpn : pn = (p : Int)) (hp12 : p < 12) (hd : 0 ≤ d ∧ d < 5) (he : -1 ≤ e ∧ e < 2500) (hT : TI (mw σ)) (hG : GI (mw σ)) : MET l yX12_order cX12_order 7 (some .int) 7 [.ref (ad 100), .int (iI pn), .int (iI d), .int (iI e)] D ad G ids σ (QI D ad G ids (fun z σ' => ((MLs (σ 201) (σ 202 0) (σ 203 0) (σ 204 0)).length : Int) = z ∧ RWL σ' (255 + p) (ord (σ 201) (MLs (σ 201) (σ 202 0) (σ 203 0) (σ 204 0)) e (σ 217 d) (σ 218 d)) ∧ ∀ r : Nat, r ≠ 240 + p → r ≠ 255 + p → σ' r = σ r)) := by
  have hB : BG (mw σ) := hG.1
  have w1 : 3 ≤ σ 202 0 := hB.1
  have w2 : σ 202 0 ≤ 5 := hB.2.1
  have h1 : 3 ≤ σ 203 0 := hB.2.2.1
  have h2 : σ 203 0 ≤ 5 := hB.2.2.2
  have wb := wh_bd w1 w2 h1 h2
  have hC : BC (σ 201) := hG.2.1
  have hs : σ 204 0 = 0 ∨ σ 204 0 = 1 := hG.2.2.1
  have h18 : (MLs (σ 201) (σ 202 0) (σ 203 0) (σ 204 0)).length ≤ 18 := MLs18 hG
  have hMB : ∀ v, v ∈ (MLs (σ 201) (σ 202 0) (σ 203 0) (σ 204 0)) → 0 ≤ v ∧ v < 2500 := MLsMB hG
  have hN : (MLs (σ 201) (σ 202 0) (σ 203 0) (σ 204 0)).Nodup := MLsN hG
  have hLI : ∀ x, x ∈ (MLs (σ 201) (σ 202 0) (σ 203 0) (σ 204 0)) → IR x := fun x hx => by have := hMB x hx; unfold IR; omega
  have hkk : (-1 ≤ σ 217 d ∧ σ 217 d < 2500) ∧ (-1 ≤ σ 218 d ∧ σ 218 d < 2500) := hT.2.2 d
  refine x_enter (by decide) (Nat.le_of_ble_eq_true rfl) ?_
  intro pp ee ss mm args below meth cq C hr ls hl hM
  have hl : lv_has ls 7 [(0, .ref (ad 100)), (1, .int (iI pn)), (2, .int (iI d)), (3, .int (iI e))] := hl
  refine lv_aload_n C.1 C.2.1 dX12_order_0 rfl (lv_at hl 0 rfl) ?_
  refine lv_iload_n C.1 C.2.1 dX12_order_1 rfl (lv_at hl 1 rfl) ?_
  refine x_ci (x_runV (As := [.int (iI pn)]) (rest := []) C (by omega) cw_X12_123 (c_X12_list l D ad G ids hJ σ p pn hpn hp12 hG) hM (hJ 100 (by decide) (by decide)) (cx_100 ad G _) rfl rfl rfl rfl (Nat.le_of_ble_eq_true rfl) hl.1 dX12_order_2) hM (fun r2 s2 H1 lc1 hp hM => ?_)
  obtain ⟨rfl, hLs2, hfs2⟩ := hp
  refine lv_istore (lv' := [(4, .int (iI ((MLs (σ 201) (σ 202 0) (σ 203 0) (σ 204 0)).length : Int))), (0, .ref (ad 100)), (1, .int (iI pn)), (2, .int (iI d)), (3, .int (iI e))]) C.1 C.2.1 dX12_order_5 hl (by decide) rfl (fun ls hl => ?_)
  refine lv_aload_n C.1 C.2.1 dX12_order_7 rfl (lv_at hl 1 rfl) ?_
  refine lv_iload_n C.1 C.2.1 dX12_order_8 rfl (lv_at hl 2 rfl) ?_
  refine lv_iload C.1 C.2.1 dX12_order_9 (lv_at hl 0 rfl) ?_
  refine lv_iconst (v := iI 0) C.1 C.2.1 dX12_order_11 (by decide) ?_
  refine lv_iload_n C.1 C.2.1 dX12_order_12 rfl (lv_at hl 4 rfl) ?_
  refine x_ci (x_runV (As := [.int (iI pn), .int (iI ((MLs (σ 201) (σ 202 0) (σ 203 0) (σ 204 0)).length : Int)), .int (iI 0), .int (iI e)]) (rest := []) C (by omega) cw_X12_161 (c_X12_want l D ad G ids hJ s2 p pn ((MLs (σ 201) (σ 202 0) (σ 203 0) (σ 204 0)).length : Int) 0 e (MLs (σ 201) (σ 202 0) (σ 203 0) (σ 204 0)) ([] : List Int) hpn hp12 rfl rfl h18 (Nat.le_trans (nodup_len _ _ List.nodup_nil (fun x h => absurd h List.not_mem_nil)) h18) (by unfold IR; omega) hLs2 RWL.nl hLI (fun x h => absurd h List.not_mem_nil)) hM (hJ 100 (by decide) (by decide)) (cx_100 ad G _) rfl rfl rfl rfl (Nat.le_of_ble_eq_true rfl) hl.1 dX12_order_13) hM (fun r13 s13 H1 lc1 hp hM => ?_)
  obtain ⟨rfl, hAs13, hFs13⟩ := hp
  refine lv_istore (lv' := [(5, .int (iI ((wnt (MLs (σ 201) (σ 202 0) (σ 203 0) (σ 204 0)) ([] : List Int) e).length : Int))), (4, .int (iI ((MLs (σ 201) (σ 202 0) (σ 203 0) (σ 204 0)).length : Int))), (0, .ref (ad 100)), (1, .int (iI pn)), (2, .int (iI d)), (3, .int (iI e))]) C.1 C.2.1 dX12_order_16 hl (by decide) rfl (fun ls hl => ?_)
  refine lv_iconst (v := iI 0) C.1 C.2.1 dX12_order_18 (by decide) ?_
  refine lv_istore (lv' := [(6, .int (iI 0)), (5, .int (iI ((wnt (MLs (σ 201) (σ 202 0) (σ 203 0) (σ 204 0)) ([] : List Int) e).length : Int))), (4, .int (iI ((MLs (σ 201) (σ 202 0) (σ 203 0) (σ 204 0)).length : Int))), (0, .ref (ad 100)), (1, .int (iI pn)), (2, .int (iI d)), (3, .int (iI e))]) C.1 C.2.1 dX12_order_19 hl (by decide) rfl (fun ls hl => ?_)
  have L21 : ∀ (fu : Nat) (i : Int) (k : Int) (acc : List Int) (s1 : Sg) (H1 : Heap) (lc1 : List Loc) (ls1 : Array Slot), (0 ≤ i ∧ i ≤ (MLs (σ 201) (σ 202 0) (σ 203 0) (σ 204 0)).length) → (k = acc.length) → (RWL s1 (255 + p) acc) → (RWL s1 (240 + p) (MLs (σ 201) (σ 202 0) (σ 203 0) (σ 204 0))) → (acc.Nodup) → (∀ x, x ∈ acc → x ∈ (MLs (σ 201) (σ 202 0) (σ 203 0) (σ 204 0))) → (∀ r : Nat, r ≠ 240 + p → r ≠ 255 + p → s1 r = σ r) → (((MLs (σ 201) (σ 202 0) (σ 203 0) (σ 204 0)).drop i.toNat).foldl (tkF (σ 201) (MLs (σ 201) (σ 202 0) (σ 203 0) (σ 204 0))) acc = (MLs (σ 201) (σ 202 0) (σ 203 0) (σ 204 0)).foldl (tkF (σ 201) (MLs (σ 201) (σ 202 0) (σ 203 0) (σ 204 0))) (wnt (MLs (σ 201) (σ 202 0) (σ 203 0) (σ 204 0)) [] e)) → (20 - i).toNat < fu → XI D ad G ids (AN ad ids ss.heap.size) ss.heap H1 lc1 s1 → lv_has ls1 7 [(6, .int (iI i)), (5, .int (iI k)), (4, .int (iI ((MLs (σ 201) (σ 202 0) (σ 203 0) (σ 204 0)).length : Int))), (0, .ref (ad 100)), (1, .int (iI pn)), (2, .int (iI d)), (3, .int (iI e))] → W pp l ee (rmh 7) ss mm args below meth cq H1 lc1 0 0 (MQ below (QI D ad G ids (fun z σ' => ((MLs (σ 201) (σ 202 0) (σ 203 0) (σ 204 0)).length : Int) = z ∧ RWL σ' (255 + p) (ord (σ 201) (MLs (σ 201) (σ 202 0) (σ 203 0) (σ 204 0)) e (σ 217 d) (σ 218 d)) ∧ ∀ r : Nat, r ≠ 240 + p → r ≠ 255 + p → σ' r = σ r) ss.heap.size) args ss 0 0 (AN ad ids ss.heap.size)) (F0 mm 21 ls1 []) := by
    intro fu
    induction fu with
    | zero => intro i k acc s1 H1 lc1 ls1 i0 hk1 hA1 hR1 hN1 hS1 hfr hf hfu; exact absurd hfu (Nat.not_lt_zero _)
    | succ fu ih21 =>
      intro i k acc s1 H1 lc1 ls1 i0 hk1 hA1 hR1 hN1 hS1 hfr hf hfu hM hl
      refine lv_iload C.1 C.2.1 dX12_order_21 (lv_at hl 0 rfl) ?_
      refine lv_iload C.1 C.2.1 dX12_order_23 (lv_at hl 2 rfl) ?_
      refine x_icmp_ge C ⟨by omega, by omega⟩ ⟨by omega, by omega⟩ (tgt := 70) dX12_order_25 (by decide) (fun c25 => ?_) (fun c25 => ?_)
      · rw [drop_e (L := (MLs (σ 201) (σ 202 0) (σ 203 0) (σ 204 0))) i0.1 (by omega)] at hf
        have hf : acc = _ := hf
        refine lv_aload_n C.1 C.2.1 dX12_order_70 rfl (lv_at hl 3 rfl) ?_
        refine lv_iload_n C.1 C.2.1 dX12_order_71 rfl (lv_at hl 4 rfl) ?_
        refine lv_iload C.1 C.2.1 dX12_order_72 (lv_at hl 2 rfl) ?_
        refine lv_iload C.1 C.2.1 dX12_order_74 (lv_at hl 1 rfl) ?_
        refine lv_aload_n C.1 C.2.1 dX12_order_76 rfl (lv_at hl 3 rfl) ?_
        refine g_X12_15 C hM (hJ 100 (by decide) (by decide)) wf_X12_45 dX12_order_77 ?_
        refine lv_iload_n C.1 C.2.1 dX12_order_80 rfl (lv_at hl 5 rfl) ?_
        refine aaz_killer C hM (hJ 195 (by decide) (by decide)) (by omega) (by omega) dX12_order_81 ?_
        refine lv_iconst (v := iI 0) C.1 C.2.1 dX12_order_82 (by decide) ?_
        refine alz_ki0 C hM (by omega) (by omega) (hJ _ (by omega) (by omega)) dX12_order_83 ?_
        rw [hfr 217 (by omega) (by omega)]
        refine x_ci (x_runV (As := [.int (iI pn), .int (iI ((MLs (σ 201) (σ 202 0) (σ 203 0) (σ 204 0)).length : Int)), .int (iI k), .int (iI (σ 217 d))]) (rest := []) C (by omega) cw_X12_161 (c_X12_want l D ad G ids hJ s1 p pn ((MLs (σ 201) (σ 202 0) (σ 203 0) (σ 204 0)).length : Int) k (σ 217 d) (MLs (σ 201) (σ 202 0) (σ 203 0) (σ 204 0)) acc hpn hp12 rfl hk1 h18 (Nat.le_trans (nodup_len _ _ hN1 hS1) h18) (by unfold IR; omega) hR1 hA1 hLI hS1) hM (hJ 100 (by decide) (by decide)) (cx_100 ad G _) rfl rfl rfl rfl (Nat.le_of_ble_eq_true rfl) hl.1 dX12_order_84) hM (fun r84 s84 H1 lc1 hp hM => ?_)
        obtain ⟨rfl, hAs84, hFs84⟩ := hp
        refine lv_istore (lv' := [(5, .int (iI ((wnt (MLs (σ 201) (σ 202 0) (σ 203 0) (σ 204 0)) acc (σ 217 d)).length : Int))), (6, .int (iI i)), (4, .int (iI ((MLs (σ 201) (σ 202 0) (σ 203 0) (σ 204 0)).length : Int))), (0, .ref (ad 100)), (1, .int (iI pn)), (2, .int (iI d)), (3, .int (iI e))]) C.1 C.2.1 dX12_order_87 hl (by decide) rfl (fun ls hl => ?_)
        refine lv_aload_n C.1 C.2.1 dX12_order_89 rfl (lv_at hl 3 rfl) ?_
        refine lv_iload_n C.1 C.2.1 dX12_order_90 rfl (lv_at hl 4 rfl) ?_
        refine lv_iload C.1 C.2.1 dX12_order_91 (lv_at hl 2 rfl) ?_
        refine lv_iload C.1 C.2.1 dX12_order_93 (lv_at hl 0 rfl) ?_
        refine lv_aload_n C.1 C.2.1 dX12_order_95 rfl (lv_at hl 3 rfl) ?_
        refine g_X12_15 C hM (hJ 100 (by decide) (by decide)) wf_X12_45 dX12_order_96 ?_
        refine lv_iload_n C.1 C.2.1 dX12_order_99 rfl (lv_at hl 5 rfl) ?_
        refine aaz_killer C hM (hJ 195 (by decide) (by decide)) (by omega) (by omega) dX12_order_100 ?_
        refine lv_iconst (v := iI 1) C.1 C.2.1 dX12_order_101 (by decide) ?_
        refine alz_ki1 C hM (by omega) (by omega) (hJ _ (by omega) (by omega)) dX12_order_102 ?_
        rw [hFs84 218 (by omega), hfr 218 (by omega) (by omega)]
        refine x_ci (x_runV (As := [.int (iI pn), .int (iI ((MLs (σ 201) (σ 202 0) (σ 203 0) (σ 204 0)).length : Int)), .int (iI ((wnt (MLs (σ 201) (σ 202 0) (σ 203 0) (σ 204 0)) acc (σ 217 d)).length : Int)), .int (iI (σ 218 d))]) (rest := []) C (by omega) cw_X12_161 (c_X12_want l D ad G ids hJ s84 p pn ((MLs (σ 201) (σ 202 0) (σ 203 0) (σ 204 0)).length : Int) ((wnt (MLs (σ 201) (σ 202 0) (σ 203 0) (σ 204 0)) acc (σ 217 d)).length : Int) (σ 218 d) (MLs (σ 201) (σ 202 0) (σ 203 0) (σ 204 0)) (wnt (MLs (σ 201) (σ 202 0) (σ 203 0) (σ 204 0)) acc (σ 217 d)) hpn hp12 rfl rfl h18 (Nat.le_trans (nodup_len _ _ (wnt_nd hN1) (wnt_mem hS1)) h18) (by unfold IR; omega) (hR1.of (hFs84 _ (by omega))) hAs84 hLI (wnt_mem hS1)) hM (hJ 100 (by decide) (by decide)) (cx_100 ad G _) rfl rfl rfl rfl (Nat.le_of_ble_eq_true rfl) hl.1 dX12_order_103) hM (fun r103 s103 H1 lc1 hp hM => ?_)
        obtain ⟨rfl, hAs103, hFs103⟩ := hp
        refine lv_istore (lv' := [(5, .int (iI ((wnt (MLs (σ 201) (σ 202 0) (σ 203 0) (σ 204 0)) (wnt (MLs (σ 201) (σ 202 0) (σ 203 0) (σ 204 0)) acc (σ 217 d)) (σ 218 d)).length : Int))), (6, .int (iI i)), (4, .int (iI ((MLs (σ 201) (σ 202 0) (σ 203 0) (σ 204 0)).length : Int))), (0, .ref (ad 100)), (1, .int (iI pn)), (2, .int (iI d)), (3, .int (iI e))]) C.1 C.2.1 dX12_order_106 hl (by decide) rfl (fun ls hl => ?_)
        refine lv_iconst (v := iI 0) C.1 C.2.1 dX12_order_108 (by decide) ?_
        refine lv_istore (lv' := [(6, .int (iI 0)), (5, .int (iI ((wnt (MLs (σ 201) (σ 202 0) (σ 203 0) (σ 204 0)) (wnt (MLs (σ 201) (σ 202 0) (σ 203 0) (σ 204 0)) acc (σ 217 d)) (σ 218 d)).length : Int))), (4, .int (iI ((MLs (σ 201) (σ 202 0) (σ 203 0) (σ 204 0)).length : Int))), (0, .ref (ad 100)), (1, .int (iI pn)), (2, .int (iI d)), (3, .int (iI e))]) C.1 C.2.1 dX12_order_109 hl (by decide) rfl (fun ls hl => ?_)
        have L111 : ∀ (fu : Nat) (i : Int) (k : Int) (acc2 : List Int) (s9 : Sg) (H1 : Heap) (lc1 : List Loc) (ls1 : Array Slot), (0 ≤ i ∧ i ≤ (MLs (σ 201) (σ 202 0) (σ 203 0) (σ 204 0)).length) → (k = acc2.length) → (RWL s9 (255 + p) acc2) → (RWL s9 (240 + p) (MLs (σ 201) (σ 202 0) (σ 203 0) (σ 204 0))) → (acc2.Nodup) → (∀ x, x ∈ acc2 → x ∈ (MLs (σ 201) (σ 202 0) (σ 203 0) (σ 204 0))) → (∀ r : Nat, r ≠ 240 + p → r ≠ 255 + p → s9 r = σ r) → (((MLs (σ 201) (σ 202 0) (σ 203 0) (σ 204 0)).drop i.toNat).foldl (wnt (MLs (σ 201) (σ 202 0) (σ 203 0) (σ 204 0))) acc2 = (ord (σ 201) (MLs (σ 201) (σ 202 0) (σ 203 0) (σ 204 0)) e (σ 217 d) (σ 218 d))) → (20 - i).toNat < fu → XI D ad G ids (AN ad ids ss.heap.size) ss.heap H1 lc1 s9 → lv_has ls1 7 [(6, .int (iI i)), (5, .int (iI k)), (4, .int (iI ((MLs (σ 201) (σ 202 0) (σ 203 0) (σ 204 0)).length : Int))), (0, .ref (ad 100)), (1, .int (iI pn)), (2, .int (iI d)), (3, .int (iI e))] → W pp l ee (rmh 7) ss mm args below meth cq H1 lc1 0 0 (MQ below (QI D ad G ids (fun z σ' => ((MLs (σ 201) (σ 202 0) (σ 203 0) (σ 204 0)).length : Int) = z ∧ RWL σ' (255 + p) (ord (σ 201) (MLs (σ 201) (σ 202 0) (σ 203 0) (σ 204 0)) e (σ 217 d) (σ 218 d)) ∧ ∀ r : Nat, r ≠ 240 + p → r ≠ 255 + p → σ' r = σ r) ss.heap.size) args ss 0 0 (AN ad ids ss.heap.size)) (F0 mm 111 ls1 []) := by
          intro fu
          induction fu with
          | zero => intro i k acc2 s9 H1 lc1 ls1 i0 hk1 hA1 hR1 hN1 hS1 hfr hf hfu; exact absurd hfu (Nat.not_lt_zero _)
          | succ fu ih111 =>
            intro i k acc2 s9 H1 lc1 ls1 i0 hk1 hA1 hR1 hN1 hS1 hfr hf hfu hM hl
            refine lv_iload C.1 C.2.1 dX12_order_111 (lv_at hl 0 rfl) ?_
            refine lv_iload C.1 C.2.1 dX12_order_113 (lv_at hl 2 rfl) ?_
            refine x_icmp_ge C ⟨by omega, by omega⟩ ⟨by omega, by omega⟩ (tgt := 144) dX12_order_115 (by decide) (fun c115 => ?_) (fun c115 => ?_)
            · refine lv_iload C.1 C.2.1 dX12_order_144 (lv_at hl 2 rfl) ?_
              refine x_iret C hr hM ?_ dX12_order_146
              exact by
                rw [drop_e (L := (MLs (σ 201) (σ 202 0) (σ 203 0) (σ 204 0))) i0.1 (by omega)] at hf
                have hf : acc2 = _ := hf
                exact ⟨rfl, by rw [← hf]; exact hA1, hfr⟩
            · refine lv_aload_n C.1 C.2.1 dX12_order_118 rfl (lv_at hl 3 rfl) ?_
              refine lv_iload_n C.1 C.2.1 dX12_order_119 rfl (lv_at hl 4 rfl) ?_
              refine lv_iload C.1 C.2.1 dX12_order_120 (lv_at hl 2 rfl) ?_
              refine lv_iload C.1 C.2.1 dX12_order_122 (lv_at hl 1 rfl) ?_
              refine lv_aload_n C.1 C.2.1 dX12_order_124 rfl (lv_at hl 3 rfl) ?_
              refine g_X12_10 C hM (hJ 100 (by decide) (by decide)) wf_X12_29 dX12_order_125 ?_
              refine lv_iload_n C.1 C.2.1 dX12_order_128 rfl (lv_at hl 4 rfl) ?_
              rw [hpn]
              refine aa_listed C hM (hJ 103 (by decide) (by decide)) (i := p) (by omega) dX12_order_129 ?_
              rw [← hpn]
              refine lv_iload C.1 C.2.1 dX12_order_130 (lv_at hl 0 rfl) ?_
              refine al_li C hM (by omega) (hJ _ (by omega) (by omega)) (by omega) (by omega) dX12_order_132 ?_
              rw [hR1.at i0.1 (by omega)]
              have hmi : ((MLs (σ 201) (σ 202 0) (σ 203 0) (σ 204 0)).getD i.toNat (-1)) ∈ (MLs (σ 201) (σ 202 0) (σ 203 0) (σ 204 0)) := getD_mem i0.1 (by omega)
              refine x_ci (x_runV (As := [.int (iI pn), .int (iI ((MLs (σ 201) (σ 202 0) (σ 203 0) (σ 204 0)).length : Int)), .int (iI k), .int (iI ((MLs (σ 201) (σ 202 0) (σ 203 0) (σ 204 0)).getD i.toNat (-1)))]) (rest := []) C (by omega) cw_X12_161 (c_X12_want l D ad G ids hJ s9 p pn ((MLs (σ 201) (σ 202 0) (σ 203 0) (σ 204 0)).length : Int) k ((MLs (σ 201) (σ 202 0) (σ 203 0) (σ 204 0)).getD i.toNat (-1)) (MLs (σ 201) (σ 202 0) (σ 203 0) (σ 204 0)) acc2 hpn hp12 rfl hk1 h18 (Nat.le_trans (nodup_len _ _ hN1 hS1) h18) (hLI _ hmi) hR1 hA1 hLI hS1) hM (hJ 100 (by decide) (by decide)) (cx_100 ad G _) rfl rfl rfl rfl (Nat.le_of_ble_eq_true rfl) hl.1 dX12_order_133) hM (fun r133 s133 H1 lc1 hp hM => ?_)
              obtain ⟨rfl, hAs133, hFs133⟩ := hp
              refine lv_istore (lv' := [(5, .int (iI ((wnt (MLs (σ 201) (σ 202 0) (σ 203 0) (σ 204 0)) acc2 ((MLs (σ 201) (σ 202 0) (σ 203 0) (σ 204 0)).getD i.toNat (-1))).length : Int))), (6, .int (iI i)), (4, .int (iI ((MLs (σ 201) (σ 202 0) (σ 203 0) (σ 204 0)).length : Int))), (0, .ref (ad 100)), (1, .int (iI pn)), (2, .int (iI d)), (3, .int (iI e))]) C.1 C.2.1 dX12_order_136 hl (by decide) rfl (fun ls hl => ?_)
              refine x_iinc (lv1 := [(6, .int (iI (i + 1))), (5, .int (iI ((wnt (MLs (σ 201) (σ 202 0) (σ 203 0) (σ 204 0)) acc2 ((MLs (σ 201) (σ 202 0) (σ 203 0) (σ 204 0)).getD i.toNat (-1))).length : Int))), (4, .int (iI ((MLs (σ 201) (σ 202 0) (σ 203 0) (σ 204 0)).length : Int))), (0, .ref (ad 100)), (1, .int (iI pn)), (2, .int (iI d)), (3, .int (iI e))]) C dX12_order_138 hl (k := 1) rfl (by decide) rfl (fun ls hl => ?_)
              refine lv_goto (tgt := 111) C.1 C.2.1 dX12_order_141 (by decide) ?_
              exact ih111 (i + 1) ((wnt (MLs (σ 201) (σ 202 0) (σ 203 0) (σ 204 0)) acc2 ((MLs (σ 201) (σ 202 0) (σ 203 0) (σ 204 0)).getD i.toNat (-1))).length : Int) (wnt (MLs (σ 201) (σ 202 0) (σ 203 0) (σ 204 0)) acc2 ((MLs (σ 201) (σ 202 0) (σ 203 0) (σ 204 0)).getD i.toNat (-1))) s133 _ _ _ (by omega) rfl hAs133 (hR1.of (hFs133 _ (by omega))) (wnt_nd hN1) (wnt_mem hS1) (fun r a b => (hFs133 r b).trans (hfr r a b)) (by rw [← hf, drop_s (L := (MLs (σ 201) (σ 202 0) (σ 203 0) (σ 204 0))) i0.1 (by omega), List.foldl_cons]) (by omega) hM (lv_sub hl [0, 1, 2, 3, 4, 5, 6] rfl)
        exact L111 _ 0 ((wnt (MLs (σ 201) (σ 202 0) (σ 203 0) (σ 204 0)) (wnt (MLs (σ 201) (σ 202 0) (σ 203 0) (σ 204 0)) acc (σ 217 d)) (σ 218 d)).length : Int) (wnt (MLs (σ 201) (σ 202 0) (σ 203 0) (σ 204 0)) (wnt (MLs (σ 201) (σ 202 0) (σ 203 0) (σ 204 0)) acc (σ 217 d)) (σ 218 d)) s103 _ _ _ (by omega) rfl hAs103 (hR1.of ((hFs103 _ (by omega)).trans (hFs84 _ (by omega)))) (wnt_nd (wnt_nd hN1)) (wnt_mem (wnt_mem hS1)) (fun r a b => (hFs103 r b).trans ((hFs84 r b).trans (hfr r a b))) (by rw [hf]; rfl) (Nat.lt_succ_self _) hM (lv_sub hl [0, 1, 2, 3, 4, 5, 6] rfl)
      · refine lv_aload_n C.1 C.2.1 dX12_order_28 rfl (lv_at hl 3 rfl) ?_
        refine lv_aload_n C.1 C.2.1 dX12_order_29 rfl (lv_at hl 3 rfl) ?_
        refine g_X12_10 C hM (hJ 100 (by decide) (by decide)) wf_X12_29 dX12_order_30 ?_
        refine lv_iload_n C.1 C.2.1 dX12_order_33 rfl (lv_at hl 4 rfl) ?_
        rw [hpn]
        refine aa_listed C hM (hJ 103 (by decide) (by decide)) (i := p) (by omega) dX12_order_34 ?_
        refine lv_iload C.1 C.2.1 dX12_order_35 (lv_at hl 0 rfl) ?_
        refine al_li C hM (by omega) (hJ _ (by omega) (by omega)) (by omega) (by omega) dX12_order_37 ?_
        rw [hR1.at i0.1 (by omega)]
        have hmv : MV (mw σ) ((MLs (σ 201) (σ 202 0) (σ 203 0) (σ 204 0)).getD i.toNat (-1)) := MVm (by omega) (by omega)
        have hok := hmv.ok hG
        have hok : (0 ≤ ((MLs (σ 201) (σ 202 0) (σ 203 0) (σ 204 0)).getD i.toNat (-1)) ∧ ((MLs (σ 201) (σ 202 0) (σ 203 0) (σ 204 0)).getD i.toNat (-1)) / 100 < σ 202 0 * σ 203 0 ∧ ((MLs (σ 201) (σ 202 0) (σ 203 0) (σ 204 0)).getD i.toNat (-1)) % 100 < σ 202 0 * σ 203 0) ∧ ((MLs (σ 201) (σ 202 0) (σ 203 0) (σ 204 0)).getD i.toNat (-1)) / 100 ≠ ((MLs (σ 201) (σ 202 0) (σ 203 0) (σ 204 0)).getD i.toNat (-1)) % 100 ∧ ((MLs (σ 201) (σ 202 0) (σ 203 0) (σ 204 0)).getD i.toNat (-1)) < 2500 := hok
        have hGs : GI (mw s1) := GIm_of hG (fun r _ _ => hfr r (by omega) (by omega))
        have hws : s1 202 0 * s1 203 0 = σ 202 0 * σ 203 0 := by rw [hfr 202 (by omega) (by omega), hfr 203 (by omega) (by omega)]
        refine x_ci (x_runV (As := [.int (iI ((MLs (σ 201) (σ 202 0) (σ 203 0) (σ 204 0)).getD i.toNat (-1)))]) (rest := []) C (by omega) cw_X12_126 (c_X12_isTaking l D ad G ids hJ s1 ((MLs (σ 201) (σ 202 0) (σ 203 0) (σ 204 0)).getD i.toNat (-1)) hGs.1 hGs.2.1 (by omega)) hM (hJ 100 (by decide) (by decide)) (cx_100 ad G _) rfl rfl rfl rfl (Nat.le_of_ble_eq_true rfl) hl.1 dX12_order_38) hM (fun r38 s38 H1 lc1 hp hM => ?_)
        obtain ⟨hbs38, rfl⟩ := hp
        rw [hfr 201 (by omega) (by omega)] at hbs38
        obtain ⟨ts38, ks38⟩ := ite01 hbs38
        refine x_if_eq C ⟨by omega, by omega⟩ (tgt := 64) dX12_order_41 (by decide) (fun c41 => ?_) (fun c41 => ?_)
        · have htk : ¬ σ 201 (((MLs (σ 201) (σ 202 0) (σ 203 0) (σ 204 0)).getD i.toNat (-1)) % 100) ≠ 0 := fun q => absurd (ks38.mpr q) (by omega)
          refine x_iinc (lv1 := [(6, .int (iI (i + 1))), (5, .int (iI k)), (4, .int (iI ((MLs (σ 201) (σ 202 0) (σ 203 0) (σ 204 0)).length : Int))), (0, .ref (ad 100)), (1, .int (iI pn)), (2, .int (iI d)), (3, .int (iI e))]) C dX12_order_64 hl (k := 0) rfl (by decide) rfl (fun ls hl => ?_)
          refine lv_goto (tgt := 21) C.1 C.2.1 dX12_order_67 (by decide) ?_
          exact ih21 (i + 1) k acc s1 _ _ _ (by omega) hk1 hA1 hR1 hN1 hS1 hfr (by rw [← hf, tk_step i0.1 (by omega), if_neg htk]) (by omega) hM (lv_sub hl [0, 1, 2, 3, 4, 5, 6] rfl)
        · have htk := ks38.mp (by omega)
          refine lv_aload_n C.1 C.2.1 dX12_order_44 rfl (lv_at hl 3 rfl) ?_
          refine lv_iload_n C.1 C.2.1 dX12_order_45 rfl (lv_at hl 4 rfl) ?_
          refine lv_iload C.1 C.2.1 dX12_order_46 (lv_at hl 2 rfl) ?_
          refine lv_iload C.1 C.2.1 dX12_order_48 (lv_at hl 1 rfl) ?_
          refine lv_aload_n C.1 C.2.1 dX12_order_50 rfl (lv_at hl 3 rfl) ?_
          refine g_X12_10 C hM (hJ 100 (by decide) (by decide)) wf_X12_29 dX12_order_51 ?_
          refine lv_iload_n C.1 C.2.1 dX12_order_54 rfl (lv_at hl 4 rfl) ?_
          rw [hpn]
          refine aa_listed C hM (hJ 103 (by decide) (by decide)) (i := p) (by omega) dX12_order_55 ?_
          rw [← hpn]
          refine lv_iload C.1 C.2.1 dX12_order_56 (lv_at hl 0 rfl) ?_
          refine al_li C hM (by omega) (hJ _ (by omega) (by omega)) (by omega) (by omega) dX12_order_58 ?_
          rw [hR1.at i0.1 (by omega)]
          refine x_ci (x_runV (As := [.int (iI pn), .int (iI ((MLs (σ 201) (σ 202 0) (σ 203 0) (σ 204 0)).length : Int)), .int (iI k), .int (iI ((MLs (σ 201) (σ 202 0) (σ 203 0) (σ 204 0)).getD i.toNat (-1)))]) (rest := []) C (by omega) cw_X12_161 (c_X12_want l D ad G ids hJ s1 p pn ((MLs (σ 201) (σ 202 0) (σ 203 0) (σ 204 0)).length : Int) k ((MLs (σ 201) (σ 202 0) (σ 203 0) (σ 204 0)).getD i.toNat (-1)) (MLs (σ 201) (σ 202 0) (σ 203 0) (σ 204 0)) acc hpn hp12 rfl hk1 h18 (Nat.le_trans (nodup_len _ _ hN1 hS1) h18) (hLI _ hmv) hR1 hA1 hLI hS1) hM (hJ 100 (by decide) (by decide)) (cx_100 ad G _) rfl rfl rfl rfl (Nat.le_of_ble_eq_true rfl) hl.1 dX12_order_59) hM (fun r59 s59 H1 lc1 hp hM => ?_)
          obtain ⟨rfl, hAs59, hFs59⟩ := hp
          refine lv_istore (lv' := [(5, .int (iI ((wnt (MLs (σ 201) (σ 202 0) (σ 203 0) (σ 204 0)) acc ((MLs (σ 201) (σ 202 0) (σ 203 0) (σ 204 0)).getD i.toNat (-1))).length : Int))), (6, .int (iI i)), (4, .int (iI ((MLs (σ 201) (σ 202 0) (σ 203 0) (σ 204 0)).length : Int))), (0, .ref (ad 100)), (1, .int (iI pn)), (2, .int (iI d)), (3, .int (iI e))]) C.1 C.2.1 dX12_order_62 hl (by decide) rfl (fun ls hl => ?_)
          refine x_iinc (lv1 := [(6, .int (iI (i + 1))), (5, .int (iI ((wnt (MLs (σ 201) (σ 202 0) (σ 203 0) (σ 204 0)) acc ((MLs (σ 201) (σ 202 0) (σ 203 0) (σ 204 0)).getD i.toNat (-1))).length : Int))), (4, .int (iI ((MLs (σ 201) (σ 202 0) (σ 203 0) (σ 204 0)).length : Int))), (0, .ref (ad 100)), (1, .int (iI pn)), (2, .int (iI d)), (3, .int (iI e))]) C dX12_order_64 hl (k := 1) rfl (by decide) rfl (fun ls hl => ?_)
          refine lv_goto (tgt := 21) C.1 C.2.1 dX12_order_67 (by decide) ?_
          exact ih21 (i + 1) ((wnt (MLs (σ 201) (σ 202 0) (σ 203 0) (σ 204 0)) acc ((MLs (σ 201) (σ 202 0) (σ 203 0) (σ 204 0)).getD i.toNat (-1))).length : Int) (wnt (MLs (σ 201) (σ 202 0) (σ 203 0) (σ 204 0)) acc ((MLs (σ 201) (σ 202 0) (σ 203 0) (σ 204 0)).getD i.toNat (-1))) s59 _ _ _ (by omega) rfl hAs59 (hR1.of (hFs59 _ (by omega))) (wnt_nd hN1) (wnt_mem hS1) (fun r a b => (hFs59 r b).trans (hfr r a b)) (by rw [← hf, tk_step i0.1 (by omega), if_pos htk]) (by omega) hM (lv_sub hl [0, 1, 2, 3, 4, 5, 6] rfl)
  exact L21 _ 0 ((wnt (MLs (σ 201) (σ 202 0) (σ 203 0) (σ 204 0)) ([] : List Int) e).length : Int) (wnt (MLs (σ 201) (σ 202 0) (σ 203 0) (σ 204 0)) [] e) s13 _ _ _ (by omega) rfl hAs13 (hLs2.of (hFs13 _ (by omega))) (wnt_nd List.nodup_nil) (wnt_mem (fun x h => absurd h List.not_mem_nil)) (fun r a b => (hFs13 r b).trans (hfs2 r a)) rfl (Nat.lt_succ_self _) hM (lv_sub hl [0, 1, 2, 3, 4, 5, 6] rfl)
set_option maxRecDepth 100000 in
set_option maxHeartbeats 4000000 in
theorem c_X12_answers (l : Launch) (D : va_G) (ad : Nat → Nat) (G : Nat → Nat) (ids : List Nat) (hJ : ∀ k, 100 ≤ k → k < 233 → k ∈ ids) (σ : Sg) (s d lo up : Int) (hT : TI (mw σ)) (hs : 0 ≤ s ∧ s < 64) (hd : σ 211 s = d) (hlo : IR lo) (hup : IR up) : MET l yX12_answers cX12_answers 3 (some .boolean) 1 [.ref (ad (118 + (s).toNat)), .int (iI lo), .int (iI up)] D ad G ids σ (QI D ad G ids (fun z σ' => bI (ansB (mw σ) s d lo up) = z ∧ σ = σ')) := by
  have hq : 0 ≤ σ 213 s ∧ σ 213 s ≤ 2 := (hT.2.1 s).2.2.1
  have hq2 : -10000 ≤ σ 212 s ∧ σ 212 s ≤ 10000 := (hT.2.1 s).2.1
  unfold IR at hlo hup
  refine x_enter (by decide) (Nat.le_of_ble_eq_true rfl) ?_
  intro pp ee ss mm args below meth cq C hr ls hl hM
  have hl : lv_has ls 3 [(0, .ref (ad (118 + (s).toNat))), (1, .int (iI lo)), (2, .int (iI up))] := hl
  refine lv_aload_n C.1 C.2.1 dX12_answers_0 rfl (lv_at hl 0 rfl) ?_
  refine lv_iconst (v := iI 2) C.1 C.2.1 dX12_answers_1 (by decide) ?_
  refine alz_ts2 C hM (by omega) (by omega) (hJ _ (by omega) (by omega)) dX12_answers_2 ?_
  refine x_if_eq C ⟨by omega, by omega⟩ (tgt := 34) dX12_answers_3 (by decide) (fun c3 => ?_) (fun c3 => ?_)
  · refine lv_iconst (v := iI 1) C.1 C.2.1 dX12_answers_34 (by decide) ?_
    refine lv_goto (tgt := 39) C.1 C.2.1 dX12_answers_35 (by decide) ?_
    exact x_zret C hr hM (by first | exact Or.inl rfl | exact Or.inr rfl | omega) ⟨ans_t (τ := mw σ) (show 0 ≤ s ∧ σ 211 s = d ∧ (σ 213 s = 0 ∨ (σ 213 s = 1 ∧ up ≤ σ 212 s) ∨ (σ 213 s = 2 ∧ σ 212 s ≤ lo)) by omega), rfl⟩ dX12_answers_39
  · refine lv_aload_n C.1 C.2.1 dX12_answers_6 rfl (lv_at hl 0 rfl) ?_
    refine lv_iconst (v := iI 2) C.1 C.2.1 dX12_answers_7 (by decide) ?_
    refine alz_ts2 C hM (by omega) (by omega) (hJ _ (by omega) (by omega)) dX12_answers_8 ?_
    refine lv_iconst (v := iI 1) C.1 C.2.1 dX12_answers_9 (by decide) ?_
    refine x_icmp_ne C ⟨by omega, by omega⟩ ⟨by omega, by omega⟩ (tgt := 20) dX12_answers_10 (by decide) (fun c10 => ?_) (fun c10 => ?_)
    · refine lv_aload_n C.1 C.2.1 dX12_answers_20 rfl (lv_at hl 0 rfl) ?_
      refine lv_iconst (v := iI 2) C.1 C.2.1 dX12_answers_21 (by decide) ?_
      refine alz_ts2 C hM (by omega) (by omega) (hJ _ (by omega) (by omega)) dX12_answers_22 ?_
      refine lv_iconst (v := iI 2) C.1 C.2.1 dX12_answers_23 (by decide) ?_
      refine x_icmp_ne C ⟨by omega, by omega⟩ ⟨by omega, by omega⟩ (tgt := 38) dX12_answers_24 (by decide) (fun c24 => ?_) (fun c24 => ?_)
      · refine lv_iconst (v := iI 0) C.1 C.2.1 dX12_answers_38 (by decide) ?_
        exact x_zret C hr hM (by first | exact Or.inl rfl | exact Or.inr rfl | omega) ⟨ans_f (τ := mw σ) (show ¬ (0 ≤ s ∧ σ 211 s = d ∧ (σ 213 s = 0 ∨ (σ 213 s = 1 ∧ up ≤ σ 212 s) ∨ (σ 213 s = 2 ∧ σ 212 s ≤ lo))) by omega), rfl⟩ dX12_answers_39
      · refine lv_aload_n C.1 C.2.1 dX12_answers_27 rfl (lv_at hl 0 rfl) ?_
        refine lv_iconst (v := iI 1) C.1 C.2.1 dX12_answers_28 (by decide) ?_
        refine alz_ts1 C hM (by omega) (by omega) (hJ _ (by omega) (by omega)) dX12_answers_29 ?_
        refine lv_iload_n C.1 C.2.1 dX12_answers_30 rfl (lv_at hl 1 rfl) ?_
        refine x_icmp_gt C ⟨by omega, by omega⟩ ⟨by omega, by omega⟩ (tgt := 38) dX12_answers_31 (by decide) (fun c31 => ?_) (fun c31 => ?_)
        · refine lv_iconst (v := iI 0) C.1 C.2.1 dX12_answers_38 (by decide) ?_
          exact x_zret C hr hM (by first | exact Or.inl rfl | exact Or.inr rfl | omega) ⟨ans_f (τ := mw σ) (show ¬ (0 ≤ s ∧ σ 211 s = d ∧ (σ 213 s = 0 ∨ (σ 213 s = 1 ∧ up ≤ σ 212 s) ∨ (σ 213 s = 2 ∧ σ 212 s ≤ lo))) by omega), rfl⟩ dX12_answers_39
        · refine lv_iconst (v := iI 1) C.1 C.2.1 dX12_answers_34 (by decide) ?_
          refine lv_goto (tgt := 39) C.1 C.2.1 dX12_answers_35 (by decide) ?_
          exact x_zret C hr hM (by first | exact Or.inl rfl | exact Or.inr rfl | omega) ⟨ans_t (τ := mw σ) (show 0 ≤ s ∧ σ 211 s = d ∧ (σ 213 s = 0 ∨ (σ 213 s = 1 ∧ up ≤ σ 212 s) ∨ (σ 213 s = 2 ∧ σ 212 s ≤ lo)) by omega), rfl⟩ dX12_answers_39
    · refine lv_aload_n C.1 C.2.1 dX12_answers_13 rfl (lv_at hl 0 rfl) ?_
      refine lv_iconst (v := iI 1) C.1 C.2.1 dX12_answers_14 (by decide) ?_
      refine alz_ts1 C hM (by omega) (by omega) (hJ _ (by omega) (by omega)) dX12_answers_15 ?_
      refine lv_iload_n C.1 C.2.1 dX12_answers_16 rfl (lv_at hl 2 rfl) ?_
      refine x_icmp_ge C ⟨by omega, by omega⟩ ⟨by omega, by omega⟩ (tgt := 34) dX12_answers_17 (by decide) (fun c17 => ?_) (fun c17 => ?_)
      · refine lv_iconst (v := iI 1) C.1 C.2.1 dX12_answers_34 (by decide) ?_
        refine lv_goto (tgt := 39) C.1 C.2.1 dX12_answers_35 (by decide) ?_
        exact x_zret C hr hM (by first | exact Or.inl rfl | exact Or.inr rfl | omega) ⟨ans_t (τ := mw σ) (show 0 ≤ s ∧ σ 211 s = d ∧ (σ 213 s = 0 ∨ (σ 213 s = 1 ∧ up ≤ σ 212 s) ∨ (σ 213 s = 2 ∧ σ 212 s ≤ lo)) by omega), rfl⟩ dX12_answers_39
      · refine lv_aload_n C.1 C.2.1 dX12_answers_20 rfl (lv_at hl 0 rfl) ?_
        refine lv_iconst (v := iI 2) C.1 C.2.1 dX12_answers_21 (by decide) ?_
        refine alz_ts2 C hM (by omega) (by omega) (hJ _ (by omega) (by omega)) dX12_answers_22 ?_
        refine lv_iconst (v := iI 2) C.1 C.2.1 dX12_answers_23 (by decide) ?_
        refine x_icmp_ne C ⟨by omega, by omega⟩ ⟨by omega, by omega⟩ (tgt := 38) dX12_answers_24 (by decide) (fun c24 => ?_) (fun c24 => ?_)
        · refine lv_iconst (v := iI 0) C.1 C.2.1 dX12_answers_38 (by decide) ?_
          exact x_zret C hr hM (by first | exact Or.inl rfl | exact Or.inr rfl | omega) ⟨ans_f (τ := mw σ) (show ¬ (0 ≤ s ∧ σ 211 s = d ∧ (σ 213 s = 0 ∨ (σ 213 s = 1 ∧ up ≤ σ 212 s) ∨ (σ 213 s = 2 ∧ σ 212 s ≤ lo))) by omega), rfl⟩ dX12_answers_39
        · refine lv_aload_n C.1 C.2.1 dX12_answers_27 rfl (lv_at hl 0 rfl) ?_
          refine lv_iconst (v := iI 1) C.1 C.2.1 dX12_answers_28 (by decide) ?_
          refine alz_ts1 C hM (by omega) (by omega) (hJ _ (by omega) (by omega)) dX12_answers_29 ?_
          refine lv_iload_n C.1 C.2.1 dX12_answers_30 rfl (lv_at hl 1 rfl) ?_
          refine x_icmp_gt C ⟨by omega, by omega⟩ ⟨by omega, by omega⟩ (tgt := 38) dX12_answers_31 (by decide) (fun c31 => ?_) (fun c31 => ?_)
          · refine lv_iconst (v := iI 0) C.1 C.2.1 dX12_answers_38 (by decide) ?_
            exact x_zret C hr hM (by first | exact Or.inl rfl | exact Or.inr rfl | omega) ⟨ans_f (τ := mw σ) (show ¬ (0 ≤ s ∧ σ 211 s = d ∧ (σ 213 s = 0 ∨ (σ 213 s = 1 ∧ up ≤ σ 212 s) ∨ (σ 213 s = 2 ∧ σ 212 s ≤ lo))) by omega), rfl⟩ dX12_answers_39
          · refine lv_iconst (v := iI 1) C.1 C.2.1 dX12_answers_34 (by decide) ?_
            refine lv_goto (tgt := 39) C.1 C.2.1 dX12_answers_35 (by decide) ?_
            exact x_zret C hr hM (by first | exact Or.inl rfl | exact Or.inr rfl | omega) ⟨ans_t (τ := mw σ) (show 0 ≤ s ∧ σ 211 s = d ∧ (σ 213 s = 0 ∨ (σ 213 s = 1 ∧ up ≤ σ 212 s) ∨ (σ 213 s = 2 ∧ σ 212 s ≤ lo)) by omega), rfl⟩ dX12_answers_39
set_option maxRecDepth 100000 in
set_option maxHeartbeats 4000000 in
theorem c_X12_cut (l : Launch) (D : va_G) (ad : Nat → Nat) (G : Nat → Nat) (ids : List Nat) (hJ : ∀ k, 100 ≤ k → k < 233 → k ∈ ids) (σ : Sg) (d v : Int) (hT : TI (mw σ)) (hG : GI (mw σ)) (hd : 0 ≤ d ∧ d < 5) (hv : 0 ≤ v ∧ v < 2500 ∧ v % 100 < σ 202 0 * σ 203 0) : MET l yX12_cut cX12_cut 3 none 2 [.ref (ad 100), .int (iI d), .int (iI v)] D ad G ids σ (QV D ad G ids (fun σ' => cuM σ (σ 201) d v = σ')) := by
  have hB : BG (mw σ) := hG.1
  have w1 : 3 ≤ σ 202 0 := hB.1
  have w2 : σ 202 0 ≤ 5 := hB.2.1
  have h1 : 3 ≤ σ 203 0 := hB.2.2.1
  have h2 : σ 203 0 ≤ 5 := hB.2.2.2
  have wb := wh_bd w1 w2 h1 h2
  have hC : BC (σ 201) := hG.2.1
  have hs : σ 204 0 = 0 ∨ σ 204 0 = 1 := hG.2.2.1
  have hkk : (-1 ≤ σ 217 d ∧ σ 217 d < 2500) ∧ (-1 ≤ σ 218 d ∧ σ 218 d < 2500) := hT.2.2 d
  have f1 : ∀ r, r ≠ 223 → (upr σ 223 (ups (σ 223) 0 (σ 223 0 + 1))) r = σ r := fun r h => upr_ne _ _ h
  have hG1 : GI (mw (upr σ 223 (ups (σ 223) 0 (σ 223 0 + 1)))) := GIm_of hG (fun r _ _ => f1 r (by omega))
  refine x_enter (by decide) (Nat.le_of_ble_eq_true rfl) ?_
  intro pp ee ss mm args below meth cq C hr ls hl hM
  have hl : lv_has ls 3 [(0, .ref (ad 100)), (1, .int (iI d)), (2, .int (iI v))] := hl
  refine lv_aload_n C.1 C.2.1 dX12_cut_0 rfl (lv_at hl 0 rfl) ?_
  refine lv_dup C.1 C.2.1 dX12_cut_1 rfl ?_
  refine g_X12_18 C hM (hJ 100 (by decide) (by decide)) wf_X12_198 dX12_cut_2 ?_
  refine lv_iconst (v := iI 1) C.1 C.2.1 dX12_cut_5 (by decide) ?_
  refine x_iadd C dX12_cut_6 ?_
  refine p_X12_18 C hM (hJ 100 (by decide) (by decide)) wf_X12_198 dX12_cut_7 (fun H1 lc1 hM => ?_)
  refine lv_aload_n C.1 C.2.1 dX12_cut_10 rfl (lv_at hl 0 rfl) ?_
  refine lv_iload_n C.1 C.2.1 dX12_cut_11 rfl (lv_at hl 2 rfl) ?_
  refine x_ci (x_runV (As := [.int (iI v)]) (rest := []) C (by omega) cw_X12_126 (c_X12_isTaking l D ad G ids hJ (upr σ 223 (ups (σ 223) 0 ((σ 223 0) + 1))) v hG1.1 hG1.2.1 (by rw [f1 202 (by decide), f1 203 (by decide)]; exact hv)) hM (hJ 100 (by decide) (by decide)) (cx_100 ad G _) rfl rfl rfl rfl (Nat.le_of_ble_eq_true rfl) hl.1 dX12_cut_12) hM (fun r12 s12 H1 lc1 hp hM => ?_)
  obtain ⟨hbs12, rfl⟩ := hp
  rw [f1 201 (by decide)] at hbs12
  obtain ⟨ts12, ks12⟩ := ite01 hbs12
  refine x_if_ne C ⟨by omega, by omega⟩ (tgt := 30) dX12_cut_15 (by decide) (fun c15 => ?_) (fun c15 => ?_)
  · refine x_vret C hr hM ?_ dX12_cut_30
    exact by
      unfold cuM
      first | rw [if_pos (ks12.mp (by omega))] | rw [if_neg (fun q => absurd (ks12.mpr q) (by omega)), if_pos (show σ 217 d = v by omega)]
  · refine lv_aload_n C.1 C.2.1 dX12_cut_18 rfl (lv_at hl 0 rfl) ?_
    refine g_X12_15 C hM (hJ 100 (by decide) (by decide)) wf_X12_45 dX12_cut_19 ?_
    refine lv_iload_n C.1 C.2.1 dX12_cut_22 rfl (lv_at hl 1 rfl) ?_
    refine aaz_killer C hM (hJ 195 (by decide) (by decide)) (by omega) (by omega) dX12_cut_23 ?_
    refine lv_iconst (v := iI 0) C.1 C.2.1 dX12_cut_24 (by decide) ?_
    refine alz_ki0 C hM (by omega) (by omega) (hJ _ (by omega) (by omega)) dX12_cut_25 ?_
    rw [upr_ne _ _ (show (217 : Nat) ≠ 223 by omega)]
    refine lv_iload_n C.1 C.2.1 dX12_cut_26 rfl (lv_at hl 2 rfl) ?_
    refine x_icmp_ne C ⟨by omega, by omega⟩ ⟨by omega, by omega⟩ (tgt := 31) dX12_cut_27 (by decide) (fun c27 => ?_) (fun c27 => ?_)
    · refine lv_aload_n C.1 C.2.1 dX12_cut_31 rfl (lv_at hl 0 rfl) ?_
      refine g_X12_15 C hM (hJ 100 (by decide) (by decide)) wf_X12_45 dX12_cut_32 ?_
      refine lv_iload_n C.1 C.2.1 dX12_cut_35 rfl (lv_at hl 1 rfl) ?_
      refine aaz_killer C hM (hJ 195 (by decide) (by decide)) (by omega) (by omega) dX12_cut_36 ?_
      refine lv_iconst (v := iI 1) C.1 C.2.1 dX12_cut_37 (by decide) ?_
      refine lv_aload_n C.1 C.2.1 dX12_cut_38 rfl (lv_at hl 0 rfl) ?_
      refine g_X12_15 C hM (hJ 100 (by decide) (by decide)) wf_X12_45 dX12_cut_39 ?_
      refine lv_iload_n C.1 C.2.1 dX12_cut_42 rfl (lv_at hl 1 rfl) ?_
      refine aaz_killer C hM (hJ 195 (by decide) (by decide)) (by omega) (by omega) dX12_cut_43 ?_
      refine lv_iconst (v := iI 0) C.1 C.2.1 dX12_cut_44 (by decide) ?_
      refine alz_ki0 C hM (by omega) (by omega) (hJ _ (by omega) (by omega)) dX12_cut_45 ?_
      rw [upr_ne _ _ (show (217 : Nat) ≠ 223 by omega)]
      refine asz_ki1 C hM (by omega) (by omega) (hJ _ (by omega) (by omega)) dX12_cut_46 (fun H1 lc1 hM => ?_)
      refine lv_aload_n C.1 C.2.1 dX12_cut_47 rfl (lv_at hl 0 rfl) ?_
      refine g_X12_15 C hM (hJ 100 (by decide) (by decide)) wf_X12_45 dX12_cut_48 ?_
      refine lv_iload_n C.1 C.2.1 dX12_cut_51 rfl (lv_at hl 1 rfl) ?_
      refine aaz_killer C hM (hJ 195 (by decide) (by decide)) (by omega) (by omega) dX12_cut_52 ?_
      refine lv_iconst (v := iI 0) C.1 C.2.1 dX12_cut_53 (by decide) ?_
      refine lv_iload_n C.1 C.2.1 dX12_cut_54 rfl (lv_at hl 2 rfl) ?_
      refine asz_ki0 C hM (by omega) (by omega) (hJ _ (by omega) (by omega)) dX12_cut_55 (fun H1 lc1 hM => ?_)
      refine x_vret C hr hM ?_ dX12_cut_56
      exact by
        unfold cuM
        rw [if_neg (fun q => absurd (ks12.mpr q) (by omega)), if_neg c27]
        try rfl
    · refine x_vret C hr hM ?_ dX12_cut_30
      exact by
        unfold cuM
        first | rw [if_pos (ks12.mp (by omega))] | rw [if_neg (fun q => absurd (ks12.mpr q) (by omega)), if_pos (show σ 217 d = v by omega)]
