set_option maxRecDepth 100000 in
set_option maxHeartbeats 4000000 in
theorem c_J7_fill (l : Launch) (D : va_G) (ad : Nat → Nat) (G : Nat → Nat) (ids : List Nat) (hJ : ∀ k, 100 ≤ k → k < 233 → k ∈ ids) (σ : Sg) (i v : Int) (hi : 0 ≤ i ∧ i < 5) : MET l yJ7_fill_53178 cJ7_fill_53178 4 none 1 [.ref (ad (196 + (i).toNat)), .int (iI v)] D ad G ids σ (QV D ad G ids (fun σ' => upr (upr σ 217 (ups (σ 217) i v)) 218 (ups (σ 218) i v) = σ')) := by
  refine x_enter (by decide) (Nat.le_of_ble_eq_true rfl) ?_
  intro pp ee ss mm args below meth cq C hr ls hl hM
  have hl : lv_has ls 4 [(0, .ref (ad (196 + (i).toNat))), (1, .int (iI v))] := hl
  refine lv_iconst (v := iI 0) C.1 C.2.1 dJ7_fill_53178_0 (by decide) ?_
  refine lv_istore_n (lv' := [(2, .int (iI 0)), (0, .ref (ad (196 + (i).toNat))), (1, .int (iI v))]) C.1 C.2.1 dJ7_fill_53178_1 rfl hl (by decide) rfl (fun ls hl => ?_)
  refine lv_aload_n C.1 C.2.1 dJ7_fill_53178_2 rfl (lv_at hl 1 rfl) ?_
  refine ln_kiz C hM hi.1 hi.2 (hJ _ (by omega) (by omega)) dJ7_fill_53178_3 ?_
  refine lv_istore_n (lv' := [(3, .int (iI 2)), (2, .int (iI 0)), (0, .ref (ad (196 + (i).toNat))), (1, .int (iI v))]) C.1 C.2.1 dJ7_fill_53178_4 rfl hl (by decide) rfl (fun ls hl => ?_)
  refine lv_iload_n C.1 C.2.1 dJ7_fill_53178_5 rfl (lv_at hl 1 rfl) ?_
  refine lv_iload_n C.1 C.2.1 dJ7_fill_53178_6 rfl (lv_at hl 0 rfl) ?_
  refine x_icmp_ge C ⟨by omega, by omega⟩ ⟨by omega, by omega⟩ (tgt := 20) dJ7_fill_53178_7 (by decide) (fun c7 => ?_) (fun c7 => ?_)
  · exact absurd c7 (by omega)
  · refine lv_aload_n C.1 C.2.1 dJ7_fill_53178_10 rfl (lv_at hl 2 rfl) ?_
    refine lv_iload_n C.1 C.2.1 dJ7_fill_53178_11 rfl (lv_at hl 1 rfl) ?_
    refine lv_iload_n C.1 C.2.1 dJ7_fill_53178_12 rfl (lv_at hl 3 rfl) ?_
    refine asz_ki0 C hM hi.1 hi.2 (hJ _ (by omega) (by omega)) dJ7_fill_53178_13 (fun H1 lc1 hM => ?_)
    refine x_iinc (lv1 := [(2, .int (iI 1)), (3, .int (iI 2)), (0, .ref (ad (196 + (i).toNat))), (1, .int (iI v))]) C dJ7_fill_53178_14 hl (k := 1) rfl (by decide) rfl (fun ls hl => ?_)
    refine lv_goto (tgt := 5) C.1 C.2.1 dJ7_fill_53178_17 (by decide) ?_
    refine lv_iload_n C.1 C.2.1 dJ7_fill_53178_5 rfl (lv_at hl 0 rfl) ?_
    refine lv_iload_n C.1 C.2.1 dJ7_fill_53178_6 rfl (lv_at hl 1 rfl) ?_
    refine x_icmp_ge C ⟨by omega, by omega⟩ ⟨by omega, by omega⟩ (tgt := 20) dJ7_fill_53178_7 (by decide) (fun c7 => ?_) (fun c7 => ?_)
    · exact absurd c7 (by omega)
    · refine lv_aload_n C.1 C.2.1 dJ7_fill_53178_10 rfl (lv_at hl 2 rfl) ?_
      refine lv_iload_n C.1 C.2.1 dJ7_fill_53178_11 rfl (lv_at hl 0 rfl) ?_
      refine lv_iload_n C.1 C.2.1 dJ7_fill_53178_12 rfl (lv_at hl 3 rfl) ?_
      refine asz_ki1 C hM hi.1 hi.2 (hJ _ (by omega) (by omega)) dJ7_fill_53178_13 (fun H1 lc1 hM => ?_)
      refine x_iinc (lv1 := [(2, .int (iI 2)), (3, .int (iI 2)), (0, .ref (ad (196 + (i).toNat))), (1, .int (iI v))]) C dJ7_fill_53178_14 hl (k := 0) rfl (by decide) rfl (fun ls hl => ?_)
      refine lv_goto (tgt := 5) C.1 C.2.1 dJ7_fill_53178_17 (by decide) ?_
      refine lv_iload_n C.1 C.2.1 dJ7_fill_53178_5 rfl (lv_at hl 0 rfl) ?_
      refine lv_iload_n C.1 C.2.1 dJ7_fill_53178_6 rfl (lv_at hl 1 rfl) ?_
      refine x_icmp_ge C ⟨by omega, by omega⟩ ⟨by omega, by omega⟩ (tgt := 20) dJ7_fill_53178_7 (by decide) (fun c7 => ?_) (fun c7 => ?_)
      · exact x_vret C hr hM rfl dJ7_fill_53178_20
      · exact absurd c7 (by omega)
set_option maxRecDepth 100000 in
set_option maxHeartbeats 4000000 in
theorem c_X12_searchNow (l : Launch) (D : va_G) (ad : Nat → Nat) (G : Nat → Nat) (ids : List Nat) (hJ : ∀ k, 100 ≤ k → k < 233 → k ∈ ids) (σ : Sg) (D0 : Nat) (dn : Int) (htn : dn = (D0 : Int)) (hD : 1 ≤ D0 ∧ D0 ≤ 4) (hG : GI (mw σ)) (hT : TI (mw σ)) (hT9 : T9 (mw σ)) : MET l yX12_searchNow cX12_searchNow 6 (some .int) 20 [.ref (ad 100), .int (iI dn)] D ad G ids σ (QI D ad G ids (fun z σ' => (skp (cfg (mw σ)) (σ 201) (σ 204 0) D0 1 0 0 0 (clrT (tv (mw σ)))).1 = z ∧ tv (mw σ') = (skp (cfg (mw σ)) (σ 201) (σ 204 0) D0 1 0 0 0 (clrT (tv (mw σ)))).2.2.2 ∧ σ' 221 0 = (skp (cfg (mw σ)) (σ 201) (σ 204 0) D0 1 0 0 0 (clrT (tv (mw σ)))).2.1 ∧ σ' 220 0 = (skp (cfg (mw σ)) (σ 201) (σ 204 0) D0 1 0 0 0 (clrT (tv (mw σ)))).2.2.1 ∧ σ' 231 0 = σ' 219 0 ∧ ∀ r : Nat, FRS 0 r → r ≠ 220 → r ≠ 231 → σ' r = σ r)) := by
  have hB : BG (mw σ) := hG.1
  have w1 : 3 ≤ σ 202 0 := hB.1
  have w2 : σ 202 0 ≤ 5 := hB.2.1
  have h1 : 3 ≤ σ 203 0 := hB.2.2.1
  have h2 : σ 203 0 ≤ 5 := hB.2.2.2
  have wb := wh_bd w1 w2 h1 h2
  have hC : BC (σ 201) := hG.2.1
  have hs : σ 204 0 = 0 ∨ σ 204 0 = 1 := hG.2.2.1
  have hsd := hs
  refine x_enter (by decide) (Nat.le_of_ble_eq_true rfl) ?_
  intro pp ee ss mm args below meth cq C hr ls hl hM
  have hl : lv_has ls 6 [(0, .ref (ad 100)), (1, .int (iI dn))] := hl
  refine lv_aload_n C.1 C.2.1 dX12_searchNow_0 rfl (lv_at hl 0 rfl) ?_
  refine g_X12_15 C hM (hJ 100 (by decide) (by decide)) wf_X12_45 dX12_searchNow_1 ?_
  refine lv_astore_n (lv' := [(2, .ref (ad 195)), (0, .ref (ad 100)), (1, .int (iI dn))]) C.1 C.2.1 dX12_searchNow_4 rfl hl (by decide) rfl (fun ls hl => ?_)
  refine lv_aload_n C.1 C.2.1 dX12_searchNow_5 rfl (lv_at hl 0 rfl) ?_
  refine ln_195 C hM (hJ 195 (by decide) (by decide)) dX12_searchNow_6 ?_
  refine lv_istore_n (lv' := [(3, .int (iI 5)), (2, .ref (ad 195)), (0, .ref (ad 100)), (1, .int (iI dn))]) C.1 C.2.1 dX12_searchNow_7 rfl hl (by decide) rfl (fun ls hl => ?_)
  refine lv_iconst (v := iI 0) C.1 C.2.1 dX12_searchNow_8 (by decide) ?_
  refine lv_istore (lv' := [(4, .int (iI 0)), (3, .int (iI 5)), (2, .ref (ad 195)), (0, .ref (ad 100)), (1, .int (iI dn))]) C.1 C.2.1 dX12_searchNow_9 hl (by decide) rfl (fun ls hl => ?_)
  have L11 : ∀ (fu : Nat) (i : Int) (s0 : Sg) (H1 : Heap) (lc1 : List Loc) (ls1 : Array Slot), (0 ≤ i ∧ i ≤ 5) → (s0 = upr (upr σ 217 (fiF (σ 217) i)) 218 (fiF (σ 218) i)) → (10 - i).toNat < fu → XI D ad G ids (AN ad ids ss.heap.size) ss.heap H1 lc1 s0 → lv_has ls1 6 [(4, .int (iI i)), (3, .int (iI 5)), (2, .ref (ad 195)), (0, .ref (ad 100)), (1, .int (iI dn))] → W pp l ee (rmh 20) ss mm args below meth cq H1 lc1 0 0 (MQ below (QI D ad G ids (fun z σ' => (skp (cfg (mw σ)) (σ 201) (σ 204 0) D0 1 0 0 0 (clrT (tv (mw σ)))).1 = z ∧ tv (mw σ') = (skp (cfg (mw σ)) (σ 201) (σ 204 0) D0 1 0 0 0 (clrT (tv (mw σ)))).2.2.2 ∧ σ' 221 0 = (skp (cfg (mw σ)) (σ 201) (σ 204 0) D0 1 0 0 0 (clrT (tv (mw σ)))).2.1 ∧ σ' 220 0 = (skp (cfg (mw σ)) (σ 201) (σ 204 0) D0 1 0 0 0 (clrT (tv (mw σ)))).2.2.1 ∧ σ' 231 0 = σ' 219 0 ∧ ∀ r : Nat, FRS 0 r → r ≠ 220 → r ≠ 231 → σ' r = σ r) ss.heap.size) args ss 0 0 (AN ad ids ss.heap.size)) (F0 mm 11 ls1 []) := by
    intro fu
    induction fu with
    | zero => intro i s0 H1 lc1 ls1 i0 hs hfu; exact absurd hfu (Nat.not_lt_zero _)
    | succ fu ih11 =>
      intro i s0 H1 lc1 ls1 i0 hs hfu hM hl
      refine lv_iload C.1 C.2.1 dX12_searchNow_11 (lv_at hl 0 rfl) ?_
      refine lv_iload_n C.1 C.2.1 dX12_searchNow_13 rfl (lv_at hl 1 rfl) ?_
      refine x_icmp_ge C ⟨by omega, by omega⟩ ⟨by omega, by omega⟩ (tgt := 35) dX12_searchNow_14 (by decide) (fun c14 => ?_) (fun c14 => ?_)
      · refine lv_aload_n C.1 C.2.1 dX12_searchNow_35 rfl (lv_at hl 3 rfl) ?_
        refine lv_iconst (v := iI 0) C.1 C.2.1 dX12_searchNow_36 (by decide) ?_
        refine p_X12_16 C hM (hJ 100 (by decide) (by decide)) wf_X12_169 dX12_searchNow_37 (fun H1 lc1 hM => ?_)
        refine lv_aload_n C.1 C.2.1 dX12_searchNow_40 rfl (lv_at hl 3 rfl) ?_
        refine lv_iconst (v := iI 0) C.1 C.2.1 dX12_searchNow_41 (by decide) ?_
        refine p_X12_17 C hM (hJ 100 (by decide) (by decide)) wf_X12_182 dX12_searchNow_42 (fun H1 lc1 hM => ?_)
        refine lv_aload_n C.1 C.2.1 dX12_searchNow_45 rfl (lv_at hl 3 rfl) ?_
        refine lv_iconst (v := iI 0) C.1 C.2.1 dX12_searchNow_46 (by decide) ?_
        refine p_X12_18 C hM (hJ 100 (by decide) (by decide)) wf_X12_198 dX12_searchNow_47 (fun H1 lc1 hM => ?_)
        refine lv_iconst (v := iI 0) C.1 C.2.1 dX12_searchNow_50 (by decide) ?_
        refine lv_istore_n (lv' := [(2, .int (iI 0)), (4, .int (iI i)), (3, .int (iI 5)), (0, .ref (ad 100)), (1, .int (iI dn))]) C.1 C.2.1 dX12_searchNow_51 rfl hl (by decide) rfl (fun ls hl => ?_)
        refine lv_aload_n C.1 C.2.1 dX12_searchNow_52 rfl (lv_at hl 3 rfl) ?_
        refine lv_iconst (v := iI 0) C.1 C.2.1 dX12_searchNow_53 (by decide) ?_
        refine p_X12_19 C hM (hJ 100 (by decide) (by decide)) wf_X12_207 dX12_searchNow_54 (fun H1 lc1 hM => ?_)
        obtain ⟨s5, hs5⟩ : ∃ sx_ : Sg, sx_ = upr (upr (upr (upr s0 221 (ups (s0 221) 0 0)) 222 (ups ((upr s0 221 (ups (s0 221) 0 0)) 222) 0 0)) 223 (ups ((upr (upr s0 221 (ups (s0 221) 0 0)) 222 (ups ((upr s0 221 (ups (s0 221) 0 0)) 222) 0 0)) 223) 0 0)) 220 (ups ((upr (upr (upr s0 221 (ups (s0 221) 0 0)) 222 (ups ((upr s0 221 (ups (s0 221) 0 0)) 222) 0 0)) 223 (ups ((upr (upr s0 221 (ups (s0 221) 0 0)) 222 (ups ((upr s0 221 (ups (s0 221) 0 0)) 222) 0 0)) 223) 0 0)) 220) 0 0) := ⟨_, rfl⟩
        rw [← hs5] at hM
        have hi5 : i = 5 := by omega
        have f5 : ∀ r, FRS 0 r → r ≠ 220 → s5 r = σ r := fun r a b => by
          unfold FRS at a
          rw [hs5, hs, upr_ne _ _ (by omega), upr_ne _ _ (by omega), upr_ne _ _ (by omega), upr_ne _ _ (by omega), upr_ne _ _ (by omega), upr_ne _ _ (by omega)]
        have t5 : tv (mw s5) = clrT (tv (mw σ)) := by
          rw [← clrT_tv]
          refine tv_ext (fun r hr => ?_)
          rw [hs5, hs, hi5]
          obtain h | h | h | h | h | h : (9 ≤ r ∧ r ≤ 14) ∨ r = 17 ∨ r = 18 ∨ r = 19 ∨ r = 22 ∨ r = 23 := hr
          · unfold clrT setT mw
            rw [upr_ne _ _ (by omega), upr_ne _ _ (by omega), upr_ne _ _ (by omega), upr_ne _ _ (by omega), upr_ne _ _ (by omega), upr_ne _ _ (by omega), upr_ne _ _ (by omega), upr_ne _ _ (by omega), upr_ne _ _ (by omega), upr_ne _ _ (by omega)]
          all_goals (subst h; rfl)
        have T5 : TI (mw s5) := TI_tv.mp (by rw [t5, ← clrT_tv]; exact TI_tv.mpr hT.clr)
        have T95 : T9 (mw s5) := T9_tv.mp (by rw [t5]; exact (T9_tv.mpr hT9).of rfl)
        have n5 : s5 221 0 = 0 := by rw [hs5]; rfl
        have r5 : s5 220 0 = 0 := by rw [hs5]; rfl
        have L57 : ∀ (fu : Nat) (num : Int) (x : Int) (n : Int) (s1 : Sg) (H1 : Heap) (lc1 : List Loc) (ls1 : Array Slot), (0 ≤ x ∧ x ≤ (D0 : Int)) → (x = 0 → n = 0) → (s1 220 0 = x) → (s1 221 0 = n) → (∀ r : Nat, FRS 0 r → r ≠ 220 → s1 r = σ r) → (TI (mw s1)) → (T9 (mw s1)) → (skp (cfg (mw σ)) (σ 201) (σ 204 0) ((D0 : Int) - x).toNat (x + 1).toNat num n x (tv (mw s1)) = skp (cfg (mw σ)) (σ 201) (σ 204 0) D0 1 0 0 0 (clrT (tv (mw σ)))) → (10 - x).toNat < fu → XI D ad G ids (AN ad ids ss.heap.size) ss.heap H1 lc1 s1 → lv_has ls1 6 [(2, .int (iI num)), (4, .int (iI i)), (3, .int (iI 5)), (0, .ref (ad 100)), (1, .int (iI dn))] → W pp l ee (rmh 20) ss mm args below meth cq H1 lc1 0 0 (MQ below (QI D ad G ids (fun z σ' => (skp (cfg (mw σ)) (σ 201) (σ 204 0) D0 1 0 0 0 (clrT (tv (mw σ)))).1 = z ∧ tv (mw σ') = (skp (cfg (mw σ)) (σ 201) (σ 204 0) D0 1 0 0 0 (clrT (tv (mw σ)))).2.2.2 ∧ σ' 221 0 = (skp (cfg (mw σ)) (σ 201) (σ 204 0) D0 1 0 0 0 (clrT (tv (mw σ)))).2.1 ∧ σ' 220 0 = (skp (cfg (mw σ)) (σ 201) (σ 204 0) D0 1 0 0 0 (clrT (tv (mw σ)))).2.2.1 ∧ σ' 231 0 = σ' 219 0 ∧ ∀ r : Nat, FRS 0 r → r ≠ 220 → r ≠ 231 → σ' r = σ r) ss.heap.size) args ss 0 0 (AN ad ids ss.heap.size)) (F0 mm 57 ls1 []) := by
          intro fu
          induction fu with
          | zero => intro num x n s1 H1 lc1 ls1 x0 hx0 hre hn hfr hT1 hT91 hq hfu; exact absurd hfu (Nat.not_lt_zero _)
          | succ fu ih57 =>
            intro num x n s1 H1 lc1 ls1 x0 hx0 hre hn hfr hT1 hT91 hq hfu hM hl
            refine lv_aload_n C.1 C.2.1 dX12_searchNow_57 rfl (lv_at hl 3 rfl) ?_
            refine g_X12_19 C hM (hJ 100 (by decide) (by decide)) wf_X12_207 dX12_searchNow_58 ?_
            refine lv_iload_n C.1 C.2.1 dX12_searchNow_61 rfl (lv_at hl 4 rfl) ?_
            refine x_icmp_ge C ⟨by omega, by omega⟩ ⟨by omega, by omega⟩ (tgt := 111) dX12_searchNow_62 (by decide) (fun c62 => ?_) (fun c62 => ?_)
            · refine lv_aload_n C.1 C.2.1 dX12_searchNow_111 rfl (lv_at hl 3 rfl) ?_
              refine lv_aload_n C.1 C.2.1 dX12_searchNow_112 rfl (lv_at hl 3 rfl) ?_
              refine g_X12_20 C hM (hJ 100 (by decide) (by decide)) wf_X12_48 dX12_searchNow_113 ?_
              refine p_X12_21 C hM (hJ 100 (by decide) (by decide)) wf_X12_51 dX12_searchNow_116 (fun H1 lc1 hM => ?_)
              refine lv_iload_n C.1 C.2.1 dX12_searchNow_119 rfl (lv_at hl 0 rfl) ?_
              refine x_iret C hr hM ?_ dX12_searchNow_120
              exact by
                have hF : skp (cfg (mw σ)) (σ 201) (σ 204 0) D0 1 0 0 0 (clrT (tv (mw σ))) = (num, n, x, tv (mw s1)) := by
                  rw [← hq]
                  by_cases e : x < (D0 : Int)
                  · rw [show ((D0 : Int) - x).toNat = ((D0 : Int) - (x + 1)).toNat + 1 by omega, skp, if_pos (by rw [← hn]; first | exact c79 | omega)]
                  · rw [show ((D0 : Int) - x).toNat = 0 by omega, skp]
                rw [hF]
                refine ⟨rfl, tv_mw (fun r hr => upr_ne _ _ (by omega)), (congrFun (upr_ne _ _ (by decide)) 0).trans hn, (congrFun (upr_ne _ _ (by decide)) 0).trans hre, ?_, fun r a b d => (upr_ne _ _ d).trans (hfr r a b)⟩
                rw [upr_eq, ups_eq, upr_ne _ _ (by decide)]
            · refine lv_aload_n C.1 C.2.1 dX12_searchNow_65 rfl (lv_at hl 3 rfl) ?_
              refine g_X12_19 C hM (hJ 100 (by decide) (by decide)) wf_X12_207 dX12_searchNow_66 ?_
              refine x_if_eq C ⟨by omega, by omega⟩ (tgt := 82) dX12_searchNow_69 (by decide) (fun c69 => ?_) (fun c69 => ?_)
              · refine lv_aload_n C.1 C.2.1 dX12_searchNow_82 rfl (lv_at hl 3 rfl) ?_
                refine lv_dup C.1 C.2.1 dX12_searchNow_83 rfl ?_
                refine g_X12_19 C hM (hJ 100 (by decide) (by decide)) wf_X12_207 dX12_searchNow_84 ?_
                refine lv_iconst (v := iI 1) C.1 C.2.1 dX12_searchNow_87 (by decide) ?_
                refine x_iadd C dX12_searchNow_88 ?_
                refine p_X12_19 C hM (hJ 100 (by decide) (by decide)) wf_X12_207 dX12_searchNow_89 (fun H1 lc1 hM => ?_)
                obtain ⟨s2, hs2⟩ : ∃ sx_ : Sg, sx_ = upr s1 220 (ups (s1 220) 0 ((s1 220 0) + 1)) := ⟨_, rfl⟩
                rw [← hs2] at hM
                have h2 : ∀ r : Nat, r ≠ 220 → s2 r = s1 r := fun r hr => by rw [hs2]; exact upr_ne _ _ hr
                have h2r : s2 220 0 = x + 1 := by rw [hs2, upr_eq, ups_eq, hre]
                have hG2 : GI (mw s2) := GIm_of hG (fun r _ _ => (h2 r (by omega)).trans (hfr r (by unfold FRS; omega) (by omega)))
                have hc2 : cfg (mw s2) = cfg (mw σ) := cfg_of (fun r hr => (h2 (200 + r) (by omega)).trans (hfr (200 + r) (by unfold FRS; omega) (by omega)))
                have k1 : s2 201 = σ 201 := (h2 201 (by omega)).trans (hfr 201 (by unfold FRS; omega) (by omega))
                have k4 : s2 204 = σ 204 := (h2 204 (by omega)).trans (hfr 204 (by unfold FRS; omega) (by omega))
                have hv2 : tv (mw s2) = tv (mw s1) := tv_mw (fun r hr => h2 r (by omega))
                have hT2 : TI (mw s2) := hT1.of (fun r hr => h2 (200 + r) (by omega))
                have hT92 : T9 (mw s2) := hT91.of (h2 212 (by decide))
                refine lv_aload_n C.1 C.2.1 dX12_searchNow_92 rfl (lv_at hl 3 rfl) ?_
                refine lv_iconst (v := iI 0) C.1 C.2.1 dX12_searchNow_93 (by decide) ?_
                refine lv_aload_n C.1 C.2.1 dX12_searchNow_94 rfl (lv_at hl 3 rfl) ?_
                refine g_X12_19 C hM (hJ 100 (by decide) (by decide)) wf_X12_207 dX12_searchNow_95 ?_
                refine lv_sipush (v := iI (-9999)) C.1 C.2.1 dX12_searchNow_98 (by decide) ?_
                refine lv_sipush (v := iI 9999) C.1 C.2.1 dX12_searchNow_101 (by decide) ?_
                refine x_ci (x_runV (As := [.int (iI 0), .int (iI (s2 220 0)), .int (iI (-9999)), .int (iI 9999)]) (rest := []) C (by omega) cw_X12_188 (searched_all l D ad G ids hJ (x + 1).toNat s2 0 0 (s2 220 0) (-9999) 9999 rfl (by omega) (by omega) (by omega) hG2 hT2 hT92 (by omega) (by omega)) hM (hJ 100 (by decide) (by decide)) (cx_100 ad G _) rfl rfl rfl rfl (Nat.le_of_ble_eq_true rfl) hl.1 dX12_searchNow_104) hM (fun r104 s104 H1 lc1 hp hM => ?_)
                obtain ⟨hzs104, hts104, hns104, hfs104⟩ := hp
                rw [hc2, k1, k4, hv2] at hzs104 hts104 hns104
                have kok := sb_ok hG.2.2.2.2 (x + 1).toNat (σ 201) (σ 204 0) (-9999) 9999 (tv (mw s1)) (by omega) hC hsd (TI_tv.mpr hT1)
                have k9 := sb_9 hG.2.2.2.2 (x + 1).toNat (σ 201) (σ 204 0) (-9999) 9999 (tv (mw s1)) (by omega) (T9_tv.mpr hT91) (by omega) (by omega)
                have hq2 := hq
                rw [show ((D0 : Int) - x).toNat = ((D0 : Int) - (x + 1)).toNat + 1 by omega, skp, if_neg (by first | (rw [hx0 (by omega)]; decide) | (rw [← hn]; exact c79) | (rw [← hn]; omega))] at hq2
                have hn4 := hns104
                rw [h2 221 (by decide), hn] at hn4
                refine lv_istore_n (lv' := [(2, .int (iI r104)), (4, .int (iI i)), (3, .int (iI 5)), (0, .ref (ad 100)), (1, .int (iI dn))]) C.1 C.2.1 dX12_searchNow_107 rfl hl (by decide) rfl (fun ls hl => ?_)
                refine lv_goto (tgt := 57) C.1 C.2.1 dX12_searchNow_108 (by decide) ?_
                exact ih57 r104 (x + 1) (n + (sb (cfg (mw σ)) (x + 1).toNat (σ 201) (σ 204 0) (-9999) 9999 (tv (mw s1))).2.1) s104 _ _ _ (by omega) (fun q => by omega) (by rw [hfs104 220 (by unfold FRS; omega)]; exact h2r) hn4 (fun r a b => (hfs104 r a).trans ((h2 r b).trans (hfr r a b))) (TI_tv.mp (by rw [hts104]; exact kok.1)) (T9_tv.mp (by rw [hts104]; exact k9.1)) (by rw [← hq2, hts104, ← hzs104, show (x + 1 + 1).toNat = (x + 1).toNat + 1 by omega, Int.toNat_of_nonneg (show 0 ≤ x + 1 by omega)]) (by omega) hM (lv_sub hl [0, 1, 2, 3, 4] rfl)
              · refine lv_aload_n C.1 C.2.1 dX12_searchNow_72 rfl (lv_at hl 3 rfl) ?_
                refine g_X12_16 C hM (hJ 100 (by decide) (by decide)) wf_X12_169 dX12_searchNow_73 ?_
                refine lv_sipush (v := iI 1000) C.1 C.2.1 dX12_searchNow_76 (by decide) ?_
                refine lv_icmp_gt (tgt := 111) C.1 C.2.1 dX12_searchNow_79 (by decide) (fun c79 => ?_) (fun c79 => ?_)
                · refine lv_aload_n C.1 C.2.1 dX12_searchNow_111 rfl (lv_at hl 3 rfl) ?_
                  refine lv_aload_n C.1 C.2.1 dX12_searchNow_112 rfl (lv_at hl 3 rfl) ?_
                  refine g_X12_20 C hM (hJ 100 (by decide) (by decide)) wf_X12_48 dX12_searchNow_113 ?_
                  refine p_X12_21 C hM (hJ 100 (by decide) (by decide)) wf_X12_51 dX12_searchNow_116 (fun H1 lc1 hM => ?_)
                  refine lv_iload_n C.1 C.2.1 dX12_searchNow_119 rfl (lv_at hl 0 rfl) ?_
                  refine x_iret C hr hM ?_ dX12_searchNow_120
                  exact by
                    have hF : skp (cfg (mw σ)) (σ 201) (σ 204 0) D0 1 0 0 0 (clrT (tv (mw σ))) = (num, n, x, tv (mw s1)) := by
                      rw [← hq]
                      by_cases e : x < (D0 : Int)
                      · rw [show ((D0 : Int) - x).toNat = ((D0 : Int) - (x + 1)).toNat + 1 by omega, skp, if_pos (by rw [← hn]; first | exact c79 | omega)]
                      · rw [show ((D0 : Int) - x).toNat = 0 by omega, skp]
                    rw [hF]
                    refine ⟨rfl, tv_mw (fun r hr => upr_ne _ _ (by omega)), (congrFun (upr_ne _ _ (by decide)) 0).trans hn, (congrFun (upr_ne _ _ (by decide)) 0).trans hre, ?_, fun r a b d => (upr_ne _ _ d).trans (hfr r a b)⟩
                    rw [upr_eq, ups_eq, upr_ne _ _ (by decide)]
                · refine lv_aload_n C.1 C.2.1 dX12_searchNow_82 rfl (lv_at hl 3 rfl) ?_
                  refine lv_dup C.1 C.2.1 dX12_searchNow_83 rfl ?_
                  refine g_X12_19 C hM (hJ 100 (by decide) (by decide)) wf_X12_207 dX12_searchNow_84 ?_
                  refine lv_iconst (v := iI 1) C.1 C.2.1 dX12_searchNow_87 (by decide) ?_
                  refine x_iadd C dX12_searchNow_88 ?_
                  refine p_X12_19 C hM (hJ 100 (by decide) (by decide)) wf_X12_207 dX12_searchNow_89 (fun H1 lc1 hM => ?_)
                  obtain ⟨s2, hs2⟩ : ∃ sx_ : Sg, sx_ = upr s1 220 (ups (s1 220) 0 ((s1 220 0) + 1)) := ⟨_, rfl⟩
                  rw [← hs2] at hM
                  have h2 : ∀ r : Nat, r ≠ 220 → s2 r = s1 r := fun r hr => by rw [hs2]; exact upr_ne _ _ hr
                  have h2r : s2 220 0 = x + 1 := by rw [hs2, upr_eq, ups_eq, hre]
                  have hG2 : GI (mw s2) := GIm_of hG (fun r _ _ => (h2 r (by omega)).trans (hfr r (by unfold FRS; omega) (by omega)))
                  have hc2 : cfg (mw s2) = cfg (mw σ) := cfg_of (fun r hr => (h2 (200 + r) (by omega)).trans (hfr (200 + r) (by unfold FRS; omega) (by omega)))
                  have k1 : s2 201 = σ 201 := (h2 201 (by omega)).trans (hfr 201 (by unfold FRS; omega) (by omega))
                  have k4 : s2 204 = σ 204 := (h2 204 (by omega)).trans (hfr 204 (by unfold FRS; omega) (by omega))
                  have hv2 : tv (mw s2) = tv (mw s1) := tv_mw (fun r hr => h2 r (by omega))
                  have hT2 : TI (mw s2) := hT1.of (fun r hr => h2 (200 + r) (by omega))
                  have hT92 : T9 (mw s2) := hT91.of (h2 212 (by decide))
                  refine lv_aload_n C.1 C.2.1 dX12_searchNow_92 rfl (lv_at hl 3 rfl) ?_
                  refine lv_iconst (v := iI 0) C.1 C.2.1 dX12_searchNow_93 (by decide) ?_
                  refine lv_aload_n C.1 C.2.1 dX12_searchNow_94 rfl (lv_at hl 3 rfl) ?_
                  refine g_X12_19 C hM (hJ 100 (by decide) (by decide)) wf_X12_207 dX12_searchNow_95 ?_
                  refine lv_sipush (v := iI (-9999)) C.1 C.2.1 dX12_searchNow_98 (by decide) ?_
                  refine lv_sipush (v := iI 9999) C.1 C.2.1 dX12_searchNow_101 (by decide) ?_
                  refine x_ci (x_runV (As := [.int (iI 0), .int (iI (s2 220 0)), .int (iI (-9999)), .int (iI 9999)]) (rest := []) C (by omega) cw_X12_188 (searched_all l D ad G ids hJ (x + 1).toNat s2 0 0 (s2 220 0) (-9999) 9999 rfl (by omega) (by omega) (by omega) hG2 hT2 hT92 (by omega) (by omega)) hM (hJ 100 (by decide) (by decide)) (cx_100 ad G _) rfl rfl rfl rfl (Nat.le_of_ble_eq_true rfl) hl.1 dX12_searchNow_104) hM (fun r104 s104 H1 lc1 hp hM => ?_)
                  obtain ⟨hzs104, hts104, hns104, hfs104⟩ := hp
                  rw [hc2, k1, k4, hv2] at hzs104 hts104 hns104
                  have kok := sb_ok hG.2.2.2.2 (x + 1).toNat (σ 201) (σ 204 0) (-9999) 9999 (tv (mw s1)) (by omega) hC hsd (TI_tv.mpr hT1)
                  have k9 := sb_9 hG.2.2.2.2 (x + 1).toNat (σ 201) (σ 204 0) (-9999) 9999 (tv (mw s1)) (by omega) (T9_tv.mpr hT91) (by omega) (by omega)
                  have hq2 := hq
                  rw [show ((D0 : Int) - x).toNat = ((D0 : Int) - (x + 1)).toNat + 1 by omega, skp, if_neg (by first | (rw [hx0 (by omega)]; decide) | (rw [← hn]; exact c79) | (rw [← hn]; omega))] at hq2
                  have hn4 := hns104
                  rw [h2 221 (by decide), hn] at hn4
                  refine lv_istore_n (lv' := [(2, .int (iI r104)), (4, .int (iI i)), (3, .int (iI 5)), (0, .ref (ad 100)), (1, .int (iI dn))]) C.1 C.2.1 dX12_searchNow_107 rfl hl (by decide) rfl (fun ls hl => ?_)
                  refine lv_goto (tgt := 57) C.1 C.2.1 dX12_searchNow_108 (by decide) ?_
                  exact ih57 r104 (x + 1) (n + (sb (cfg (mw σ)) (x + 1).toNat (σ 201) (σ 204 0) (-9999) 9999 (tv (mw s1))).2.1) s104 _ _ _ (by omega) (fun q => by omega) (by rw [hfs104 220 (by unfold FRS; omega)]; exact h2r) hn4 (fun r a b => (hfs104 r a).trans ((h2 r b).trans (hfr r a b))) (TI_tv.mp (by rw [hts104]; exact kok.1)) (T9_tv.mp (by rw [hts104]; exact k9.1)) (by rw [← hq2, hts104, ← hzs104, show (x + 1 + 1).toNat = (x + 1).toNat + 1 by omega, Int.toNat_of_nonneg (show 0 ≤ x + 1 by omega)]) (by omega) hM (lv_sub hl [0, 1, 2, 3, 4] rfl)
        exact L57 _ 0 0 0 s5 _ _ _ (by omega) (fun _ => rfl) r5 n5 f5 T5 T95 (by rw [t5, show ((D0 : Int) - 0).toNat = D0 by omega]; rfl) (Nat.lt_succ_self _) hM (lv_sub hl [0, 1, 2, 3, 4] rfl)
      · refine lv_aload_n C.1 C.2.1 dX12_searchNow_17 rfl (lv_at hl 2 rfl) ?_
        refine lv_iload C.1 C.2.1 dX12_searchNow_18 (lv_at hl 0 rfl) ?_
        refine aaz_killer C hM (hJ 195 (by decide) (by decide)) (by omega) (by omega) dX12_searchNow_20 ?_
        refine lv_astore (lv' := [(5, .ref (ad (196 + (i).toNat))), (4, .int (iI i)), (3, .int (iI 5)), (2, .ref (ad 195)), (0, .ref (ad 100)), (1, .int (iI dn))]) C.1 C.2.1 dX12_searchNow_21 hl (by decide) rfl (fun ls hl => ?_)
        refine lv_aload C.1 C.2.1 dX12_searchNow_23 (lv_at hl 0 rfl) ?_
        refine lv_iconst (v := iI (-1)) C.1 C.2.1 dX12_searchNow_25 (by decide) ?_
        refine x_cv (x_runF (As := [.ref (ad (196 + (i).toNat)), .int (iI (-1))]) (rest := []) C (by omega) cw_X12_201 (c_J7_fill l D ad G ids hJ s0 i (-1) ⟨by omega, by omega⟩) hM rfl rfl (Nat.le_of_ble_eq_true rfl) hl.1 dX12_searchNow_26) hM (fun s26 H1 lc1 hp hM => ?_)
        obtain rfl := hp
        refine x_iinc (lv1 := [(4, .int (iI (i + 1))), (5, .ref (ad (196 + (i).toNat))), (3, .int (iI 5)), (2, .ref (ad 195)), (0, .ref (ad 100)), (1, .int (iI dn))]) C dX12_searchNow_29 hl (k := 1) rfl (by decide) rfl (fun ls hl => ?_)
        refine lv_goto (tgt := 11) C.1 C.2.1 dX12_searchNow_32 (by decide) ?_
        exact ih11 (i + 1) (upr (upr s0 217 (ups (s0 217) i (-1))) 218 (ups (s0 218) i (-1))) _ _ _ (by omega) (by rw [hs]; exact fi2 σ i0.1) (by omega) hM (lv_sub hl [0, 2, 3, 4, 5] rfl)
  exact L11 _ 0 σ _ _ _ (by omega) (by rw [fiF_0, fiF_0, upr_self, upr_self]) (Nat.lt_succ_self _) hM (lv_sub hl [0, 1, 2, 3, 4] rfl)
