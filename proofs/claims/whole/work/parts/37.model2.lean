abbrev frL (p : Nat) (σ σ' : Sg) : Prop := ∀ r : Nat, (r < 240 + p ∨ 252 ≤ r) → σ' r = σ r
theorem qvl_drop {rec : Fn → Int → Int} {c : Fn} {sd b x : Int} {L : List Int} (h0 : 0 ≤ x) (h1 : x < L.length) : qvl rec c sd (L.drop x.toNat) b = if c (L.getD x.toNat (-1) % 100) ≠ 0 then qvl rec c sd (L.drop (x + 1).toNat) (max b (-(rec (mvF c (L.getD x.toNat (-1))) (1 - sd)))) else qvl rec c sd (L.drop (x + 1).toNat) b := by
  rw [drop_s h0 h1]
  rfl
theorem vvl_drop {rec : Fn → Int → Int} {c : Fn} {sd b x : Int} {L : List Int} (h0 : 0 ≤ x) (h1 : x < L.length) : vvl rec c sd (L.drop x.toNat) b = vvl rec c sd (L.drop (x + 1).toNat) (max b (-(rec (mvF c (L.getD x.toNat (-1))) (1 - sd)))) := by
  rw [drop_s h0 h1]
  rfl
theorem qv_nil {S : Nat → Int} {c : Fn} {sd : Int} (h : MLs c (S 2) (S 3) sd = []) (t : Nat) : qv S t c sd = -1000 := by
  cases t <;> (unfold qv; rw [if_pos h])
theorem qv_ev {S : Nat → Int} {c : Fn} {sd : Int} (h : MLs c (S 2) (S 3) sd ≠ []) {t : Nat} (ht : t = 0 ∨ S 8 = 0) : qv S t c sd = evS S c sd := by
  cases t with
  | zero => unfold qv; rw [if_neg h]
  | succ t => unfold qv; rw [if_neg h, if_pos (ht.resolve_left (by omega))]
theorem qv_lp {S : Nat → Int} {c : Fn} {sd : Int} (h : MLs c (S 2) (S 3) sd ≠ []) {t t1 : Nat} (ht : t = t1 + 1) (h8 : S 8 ≠ 0) : qv S t c sd = qvl (qv S t1) c sd (MLs c (S 2) (S 3) sd) (evS S c sd) := by
  subst ht
  rw [qv, if_neg h, if_neg h8]
theorem MVm {σ : Sg} {x : Int} (h0 : 0 ≤ x) (h1 : x < (MLs (σ 201) (σ 202 0) (σ 203 0) (σ 204 0)).length) : MV (mw σ) ((MLs (σ 201) (σ 202 0) (σ 203 0) (σ 204 0)).getD x.toNat (-1)) := getD_mem h0 h1
abbrev qvPost (p t : Nat) (σ : Sg) : Int → Sg → Prop := fun z σ' => qv (cfg (mw σ)) t (σ 201) (σ 204 0) = z ∧ frL p σ σ'
def QVc (l : Launch) (D : va_G) (ad : Nat → Nat) (G : Nat → Nat) (ids : List Nat) (t : Nat) : Prop := ∀ (σ : Sg) (p : Nat) (pn tn : Int), pn = (p : Int) → tn = (t : Int) → p + t ≤ 12 → GI (mw σ) →
  MET l yX12_quietValue cX12_quietValue 8 (some .int) (7 + t) [.ref (ad 100), .int (iI pn), .int (iI tn)] D ad G ids σ (QI D ad G ids (qvPost p t σ))
set_option maxRecDepth 100000 in
set_option maxHeartbeats 4000000 in
theorem c_X12_list (l : Launch) (D : va_G) (ad : Nat → Nat) (G : Nat → Nat) (ids : List Nat) (hJ : ∀ k, 100 ≤ k → k < 233 → k ∈ ids) (σ : Sg) (p : Nat) (pn : Int) (hpn : pn = (p : Int)) (hp : p < 12) (hG : GI (mw σ)) : MET l yX12_list cX12_list 5 (some .int) 6 [.ref (ad 100), .int (iI pn)] D ad G ids σ (QI D ad G ids (fun z σ' => ((MLs (σ 201) (σ 202 0) (σ 203 0) (σ 204 0)).length : Int) = z ∧ RWL σ' (240 + p) (MLs (σ 201) (σ 202 0) (σ 203 0) (σ 204 0)) ∧ OF (240 + p) σ σ')) := by
  have hB : BG (mw σ) := hG.1
  have w1 : 3 ≤ σ 202 0 := hB.1
  have w2 : σ 202 0 ≤ 5 := hB.2.1
  have h1 : 3 ≤ σ 203 0 := hB.2.2.1
  have h2 : σ 203 0 ≤ 5 := hB.2.2.2
  have wb := wh_bd w1 w2 h1 h2
  have hC : BC (σ 201) := hG.2.1
  have hs : σ 204 0 = 0 ∨ σ 204 0 = 1 := hG.2.2.1
  refine x_enter (by decide) (Nat.le_of_ble_eq_true rfl) ?_
  intro pp ee ss mm args below meth cq C hr ls hl hM
  have hl : lv_has ls 5 [(0, .ref (ad 100)), (1, .int (iI pn))] := hl
  refine lv_iconst (v := iI 0) C.1 C.2.1 dX12_list_0 (by decide) ?_
  refine lv_istore_n (lv' := [(2, .int (iI 0)), (0, .ref (ad 100)), (1, .int (iI pn))]) C.1 C.2.1 dX12_list_1 rfl hl (by decide) rfl (fun ls hl => ?_)
  refine lv_aload_n C.1 C.2.1 dX12_list_2 rfl (lv_at hl 1 rfl) ?_
  refine x_ci (x_runV (As := []) (rest := []) C (by omega) cw_X12_104 (c_X12_isLostNow l D ad G ids hJ σ hG) hM (hJ 100 (by decide) (by decide)) (cx_100 ad G _) rfl rfl rfl rfl (Nat.le_of_ble_eq_true rfl) hl.1 dX12_list_3) hM (fun r3 s3 H1 lc1 hp hM => ?_)
  obtain ⟨hbs3, rfl⟩ := hp
  obtain ⟨ts3, ks3⟩ := ite01 hbs3
  refine x_if_eq C ⟨by omega, by omega⟩ (tgt := 11) dX12_list_6 (by decide) (fun c6 => ?_) (fun c6 => ?_)
  · refine lv_iconst (v := iI 0) C.1 C.2.1 dX12_list_11 (by decide) ?_
    refine lv_istore_n (lv' := [(3, .int (iI 0)), (2, .int (iI 0)), (0, .ref (ad 100)), (1, .int (iI pn))]) C.1 C.2.1 dX12_list_12 rfl hl (by decide) rfl (fun ls hl => ?_)
    have L13 : ∀ (fu : Nat) (n : Int) (f : Int) (s1 : Sg) (H1 : Heap) (lc1 : List Loc) (ls1 : Array Slot), (0 ≤ f ∧ f ≤ σ 202 0 * σ 203 0) → (n = (mvs (σ 201) (σ 202 0) (σ 203 0) (σ 204 0) f.toNat).length) → (RWL s1 (240 + p) (mvs (σ 201) (σ 202 0) (σ 203 0) (σ 204 0) f.toNat)) → (OF (240 + p) σ s1) → (30 - f).toNat < fu → XI D ad G ids (AN ad ids ss.heap.size) ss.heap H1 lc1 s1 → lv_has ls1 5 [(3, .int (iI f)), (2, .int (iI n)), (0, .ref (ad 100)), (1, .int (iI pn))] → W pp l ee (rmh 6) ss mm args below meth cq H1 lc1 0 0 (MQ below (QI D ad G ids (fun z σ' => ((MLs (σ 201) (σ 202 0) (σ 203 0) (σ 204 0)).length : Int) = z ∧ RWL σ' (240 + p) (MLs (σ 201) (σ 202 0) (σ 203 0) (σ 204 0)) ∧ OF (240 + p) σ σ') ss.heap.size) args ss 0 0 (AN ad ids ss.heap.size)) (F0 mm 13 ls1 []) := by
      intro fu
      induction fu with
      | zero => intro n f s1 H1 lc1 ls1 f0 hn hR hF hfu; exact absurd hfu (Nat.not_lt_zero _)
      | succ fu ih13 =>
        intro n f s1 H1 lc1 ls1 f0 hn hR hF hfu hM hl
        refine lv_iload_n C.1 C.2.1 dX12_list_13 rfl (lv_at hl 0 rfl) ?_
        refine lv_iconst (v := iI 1) C.1 C.2.1 dX12_list_14 (by decide) ?_
        refine x_iadd C dX12_list_15 ?_
        have e1 := hF 201 (by omega)
        have e2 := hF 202 (by omega)
        have e3 := hF 203 (by omega)
        have e4 := hF 204 (by omega)
        have hGt : GI (mw s1) := GIm_of hG (fun r _ _ => hF r (by omega))
        have hBt : BG (mw s1) := hGt.1
        have hCt : BC (s1 201) := hGt.2.1
        have hwt : s1 202 0 * s1 203 0 = σ 202 0 * σ 203 0 := by rw [e2, e3]
        refine lv_aload_n C.1 C.2.1 dX12_list_16 rfl (lv_at hl 2 rfl) ?_
        refine g_X12_3 C hM (hJ 100 (by decide) (by decide)) wf_X12_73 dX12_list_17 ?_
        refine ln_now C hM (hJ 101 (by decide) (by decide)) (wh := (σ 202 0 * σ 203 0)) hwt (by omega) dX12_list_20 ?_
        refine x_icmp_ge C ⟨by omega, by omega⟩ ⟨by omega, by omega⟩ (tgt := 89) dX12_list_21 (by decide) (fun c21 => ?_) (fun c21 => ?_)
        · refine lv_iload_n C.1 C.2.1 dX12_list_89 rfl (lv_at hl 1 rfl) ?_
          refine x_iret C hr hM ?_ dX12_list_90
          exact by
            have ht : ¬ thru (σ 201) (σ 202 0) (σ 203 0) (σ 204 0) = true := fun q => absurd (ks3.mpr (MLs_nil.mpr (Or.inl q))) (by omega)
            have hM_ : MLs (σ 201) (σ 202 0) (σ 203 0) (σ 204 0) = mvs (σ 201) (σ 202 0) (σ 203 0) (σ 204 0) f.toNat := by
              unfold MLs
              rw [if_neg ht, show f = σ 202 0 * σ 203 0 by omega]
            exact ⟨by rw [hM_, hn], by rw [hM_]; exact hR, hF⟩
        · refine lv_iconst (v := iI (-1)) C.1 C.2.1 dX12_list_24 (by decide) ?_
          refine lv_istore (lv' := [(4, .int (iI (-1))), (3, .int (iI f)), (2, .int (iI n)), (0, .ref (ad 100)), (1, .int (iI pn))]) C.1 C.2.1 dX12_list_25 hl (by decide) rfl (fun ls hl => ?_)
          have L27 : ∀ (fu : Nat) (m : Int) (a : Int) (s2 : Sg) (H1 : Heap) (lc1 : List Loc) (ls1 : Array Slot), (-1 ≤ a ∧ a ≤ 2) → (m = (mvs (σ 201) (σ 202 0) (σ 203 0) (σ 204 0) f.toNat ++ mfM (σ 201) (σ 202 0) (σ 203 0) (σ 204 0) f a).length) → (RWL s2 (240 + p) (mvs (σ 201) (σ 202 0) (σ 203 0) (σ 204 0) f.toNat ++ mfM (σ 201) (σ 202 0) (σ 203 0) (σ 204 0) f a)) → (OF (240 + p) σ s2) → (3 - a).toNat < fu → XI D ad G ids (AN ad ids ss.heap.size) ss.heap H1 lc1 s2 → lv_has ls1 5 [(4, .int (iI a)), (3, .int (iI f)), (2, .int (iI m)), (0, .ref (ad 100)), (1, .int (iI pn))] → W pp l ee (rmh 6) ss mm args below meth cq H1 lc1 0 0 (MQ below (QI D ad G ids (fun z σ' => ((MLs (σ 201) (σ 202 0) (σ 203 0) (σ 204 0)).length : Int) = z ∧ RWL σ' (240 + p) (MLs (σ 201) (σ 202 0) (σ 203 0) (σ 204 0)) ∧ OF (240 + p) σ σ') ss.heap.size) args ss 0 0 (AN ad ids ss.heap.size)) (F0 mm 27 ls1 []) := by
            intro fu
            induction fu with
            | zero => intro m a s2 H1 lc1 ls1 a0 hm hR2 hF2 hfu; exact absurd hfu (Nat.not_lt_zero _)
            | succ fu ih27 =>
              intro m a s2 H1 lc1 ls1 a0 hm hR2 hF2 hfu hM hl
              refine lv_iload C.1 C.2.1 dX12_list_27 (lv_at hl 0 rfl) ?_
              refine lv_iconst (v := iI 1) C.1 C.2.1 dX12_list_29 (by decide) ?_
              refine x_icmp_gt C ⟨by omega, by omega⟩ ⟨by omega, by omega⟩ (tgt := 83) dX12_list_30 (by decide) (fun c30 => ?_) (fun c30 => ?_)
              · refine x_iinc (lv1 := [(3, .int (iI (f + 1))), (4, .int (iI a)), (2, .int (iI m)), (0, .ref (ad 100)), (1, .int (iI pn))]) C dX12_list_83 hl (k := 1) rfl (by decide) rfl (fun ls hl => ?_)
                refine lv_goto (tgt := 13) C.1 C.2.1 dX12_list_86 (by decide) ?_
                exact ih13 m (f + 1) s2 _ _ _ (by omega) (by rw [mvs_n _ _ _ _ f0.1, ← mfM_3 hs w1 w2 h1 h2 f0.1 (by omega) (show 2 ≤ a by omega)]; exact hm) (by rw [mvs_n _ _ _ _ f0.1, ← mfM_3 hs w1 w2 h1 h2 f0.1 (by omega) (show 2 ≤ a by omega)]; exact hR2) hF2 (by omega) hM (lv_sub hl [0, 2, 3, 4] rfl)
              · have e1 := hF2 201 (by omega)
                have e2 := hF2 202 (by omega)
                have e3 := hF2 203 (by omega)
                have e4 := hF2 204 (by omega)
                have hGt : GI (mw s2) := GIm_of hG (fun r _ _ => hF2 r (by omega))
                have hBt : BG (mw s2) := hGt.1
                have hCt : BC (s2 201) := hGt.2.1
                have hwt : s2 202 0 * s2 203 0 = σ 202 0 * σ 203 0 := by rw [e2, e3]
                refine lv_aload_n C.1 C.2.1 dX12_list_33 rfl (lv_at hl 3 rfl) ?_
                refine lv_aload_n C.1 C.2.1 dX12_list_34 rfl (lv_at hl 3 rfl) ?_
                refine x_ci (x_runV (As := []) (rest := [.ref (ad 100)]) C (by omega) cw_X12_94 (c_X12_sideNow l D ad G ids hJ s2 hBt) hM (hJ 100 (by decide) (by decide)) (cx_100 ad G _) rfl rfl rfl rfl (Nat.le_of_ble_eq_true rfl) hl.1 dX12_list_35) hM (fun r35 s35 H1 lc1 hp hM => ?_)
                obtain ⟨rfl, rfl⟩ := hp
                rw [e4]
                refine lv_iload_n C.1 C.2.1 dX12_list_38 rfl (lv_at hl 1 rfl) ?_
                refine lv_iload C.1 C.2.1 dX12_list_39 (lv_at hl 0 rfl) ?_
                refine x_ci (x_runV (As := [.int (iI (σ 204 0)), .int (iI f), .int (iI a)]) (rest := []) C (by omega) cw_X12_91 (c_X12_isStep l D ad G ids hJ s2 (σ 204 0) f a hBt hCt (by omega) (by omega) (by omega)) hM (hJ 100 (by decide) (by decide)) (cx_100 ad G _) rfl rfl rfl rfl (Nat.le_of_ble_eq_true rfl) hl.1 dX12_list_41) hM (fun r41 s41 H1 lc1 hp hM => ?_)
                obtain ⟨hbs41, rfl⟩ := hp
                rw [e1, e2, e3] at hbs41
                obtain ⟨ts41, ks41⟩ := bI01 hbs41
                refine x_if_ne C ⟨by omega, by omega⟩ (tgt := 50) dX12_list_44 (by decide) (fun c44 => ?_) (fun c44 => ?_)
                · have hm1 : mf1M (σ 201) (σ 202 0) (σ 203 0) (σ 204 0) f a = [f * 100 + tgM (σ 202 0) (σ 203 0) (σ 204 0) f a] := if_pos (ks41.mp c44)
                  have hq1 := mvs_72 (σ 201) (σ 202 0) (σ 203 0) (σ 204 0) f0.1 (show f < 25 by omega)
                  have hq2 := mfM_l (σ 201) (σ 202 0) (σ 203 0) (σ 204 0) f (show a ≤ 1 by omega)
                  have hm3 := hm
                  rw [List.length_append] at hm3
                  refine lv_aload_n C.1 C.2.1 dX12_list_50 rfl (lv_at hl 3 rfl) ?_
                  refine g_X12_10 C hM (hJ 100 (by decide) (by decide)) wf_X12_29 dX12_list_51 ?_
                  refine lv_iload_n C.1 C.2.1 dX12_list_54 rfl (lv_at hl 4 rfl) ?_
                  rw [hpn]
                  refine aa_listed C hM (hJ 103 (by decide) (by decide)) (i := p) (by omega) dX12_list_55 ?_
                  refine lv_iload_n C.1 C.2.1 dX12_list_56 rfl (lv_at hl 2 rfl) ?_
                  refine lv_iload_n C.1 C.2.1 dX12_list_57 rfl (lv_at hl 1 rfl) ?_
                  refine lv_bipush (v := iI 100) C.1 C.2.1 dX12_list_58 (by decide) ?_
                  refine x_imul C dX12_list_60 ?_
                  refine lv_aload_n C.1 C.2.1 dX12_list_61 rfl (lv_at hl 3 rfl) ?_
                  refine lv_aload_n C.1 C.2.1 dX12_list_62 rfl (lv_at hl 3 rfl) ?_
                  refine x_ci (x_runV (As := []) (rest := [.ref (ad 100), .int (iI (f * 100)), .int (iI m), .ref (ad (104 + p))]) C (by omega) cw_X12_94 (c_X12_sideNow l D ad G ids hJ s2 hBt) hM (hJ 100 (by decide) (by decide)) (cx_100 ad G _) rfl rfl rfl rfl (Nat.le_of_ble_eq_true rfl) hl.1 dX12_list_63) hM (fun r63 s63 H1 lc1 hp hM => ?_)
                  obtain ⟨rfl, rfl⟩ := hp
                  rw [e4]
                  refine lv_iload_n C.1 C.2.1 dX12_list_66 rfl (lv_at hl 1 rfl) ?_
                  refine lv_iload C.1 C.2.1 dX12_list_67 (lv_at hl 0 rfl) ?_
                  refine x_ci (x_runV (As := [.int (iI (σ 204 0)), .int (iI f), .int (iI a)]) (rest := [.int (iI (f * 100)), .int (iI m), .ref (ad (104 + p))]) C (by omega) cw_X12_87 (c_X12_target l D ad G ids hJ s2 (σ 204 0) f a hBt (by omega) (by omega) (by omega)) hM (hJ 100 (by decide) (by decide)) (cx_100 ad G _) rfl rfl rfl rfl (Nat.le_of_ble_eq_true rfl) hl.1 dX12_list_69) hM (fun r69 s69 H1 lc1 hp hM => ?_)
                  obtain ⟨rfl, rfl⟩ := hp
                  rw [e2, e3]
                  refine x_iadd C dX12_list_72 ?_
                  refine as_li C hM (by omega) (hJ _ (by omega) (by omega)) (by omega) (by omega) dX12_list_73 (fun H1 lc1 hM => ?_)
                  refine x_iinc (lv1 := [(2, .int (iI (m + 1))), (4, .int (iI a)), (3, .int (iI f)), (0, .ref (ad 100)), (1, .int (iI pn))]) C dX12_list_74 hl (k := 2) rfl (by decide) rfl (fun ls hl => ?_)
                  refine x_iinc (lv1 := [(4, .int (iI (a + 1))), (2, .int (iI (m + 1))), (3, .int (iI f)), (0, .ref (ad 100)), (1, .int (iI pn))]) C dX12_list_77 hl (k := 1) rfl (by decide) rfl (fun ls hl => ?_)
                  refine lv_goto (tgt := 27) C.1 C.2.1 dX12_list_80 (by decide) ?_
                  exact ih27 (m + 1) (a + 1) (upr s2 (240 + p) (ups (s2 (240 + p)) m ((f * 100) + (tgM (σ 202 0) (σ 203 0) (σ 204 0) f a)))) _ _ _ (by omega) (by rw [mfM_s _ _ _ _ _ a0.1 (by omega), hm1, ← List.append_assoc, List.length_append, Int.natCast_add, hm]; rfl) (by rw [mfM_s _ _ _ _ _ a0.1 (by omega), hm1, ← List.append_assoc]; exact hR2.add hm) (hF2.up _) (by omega) hM (lv_sub hl [0, 2, 1, 3, 4] rfl)
                · have hm1 : mf1M (σ 201) (σ 202 0) (σ 203 0) (σ 204 0) f a = [] := if_neg (fun q => absurd (ks41.mpr q) (by omega))
                  refine lv_goto (tgt := 77) C.1 C.2.1 dX12_list_47 (by decide) ?_
                  refine x_iinc (lv1 := [(4, .int (iI (a + 1))), (3, .int (iI f)), (2, .int (iI m)), (0, .ref (ad 100)), (1, .int (iI pn))]) C dX12_list_77 hl (k := 0) rfl (by decide) rfl (fun ls hl => ?_)
                  refine lv_goto (tgt := 27) C.1 C.2.1 dX12_list_80 (by decide) ?_
                  exact ih27 m (a + 1) s2 _ _ _ (by omega) (by rw [mfM_s _ _ _ _ _ a0.1 (by omega), hm1, List.append_nil]; exact hm) (by rw [mfM_s _ _ _ _ _ a0.1 (by omega), hm1, List.append_nil]; exact hR2) hF2 (by omega) hM (lv_sub hl [0, 1, 2, 3, 4] rfl)
          exact L27 _ n (-1) s1 _ _ _ (by omega) (by rw [mfM_0, List.append_nil]; exact hn) (by rw [mfM_0, List.append_nil]; exact hR) hF (Nat.lt_succ_self _) hM (lv_sub hl [0, 1, 2, 3, 4] rfl)
    exact L13 _ 0 0 σ _ _ _ (by omega) rfl RWL.nl OF.rf (Nat.lt_succ_self _) hM (lv_sub hl [0, 1, 2, 3] rfl)
  · refine lv_iconst (v := iI 0) C.1 C.2.1 dX12_list_9 (by decide) ?_
    exact x_iret C hr hM ⟨by rw [ks3.mp (by omega)]; rfl, by rw [ks3.mp (by omega)]; exact RWL.nl, OF.rf⟩ dX12_list_10
set_option maxRecDepth 100000 in
set_option maxHeartbeats 4000000 in
theorem c_X12_quietValue (l : Launch) (D : va_G) (ad : Nat → Nat) (G : Nat → Nat) (ids : List Nat) (hJ : ∀ k, 100 ≤ k → k < 233 → k ∈ ids) (σ : Sg) (p t : Nat) (pn tn : Int) (hpn : pn = (p : Int)) (htn : tn = (t : Int)) (hpt : p + t ≤ 12) (hrec : ∀ t1, t = t1 + 1 → QVc l D ad G ids t1) (hG : GI (mw σ)) : MET l yX12_quietValue cX12_quietValue 8 (some .int) (7 + t) [.ref (ad 100), .int (iI pn), .int (iI tn)] D ad G ids σ (QI D ad G ids (qvPost p t σ)) := by
  have hB : BG (mw σ) := hG.1
  have w1 : 3 ≤ σ 202 0 := hB.1
  have w2 : σ 202 0 ≤ 5 := hB.2.1
  have h1 : 3 ≤ σ 203 0 := hB.2.2.1
  have h2 : σ 203 0 ≤ 5 := hB.2.2.2
  have wb := wh_bd w1 w2 h1 h2
  have hC : BC (σ 201) := hG.2.1
  have hs : σ 204 0 = 0 ∨ σ 204 0 = 1 := hG.2.2.1
  have h18 : (MLs (σ 201) (σ 202 0) (σ 203 0) (σ 204 0)).length ≤ 18 := MLs18 hG
  have hev := evS_bd hG.2.2.2.2 (σ 201) (σ 204 0)
  have hq8 : σ 208 0 = 0 ∨ σ 208 0 = 1 := hG.2.2.2.2.2.2.2.2
  refine x_enter (by decide) (Nat.le_of_ble_eq_true rfl) ?_
  intro pp ee ss mm args below meth cq C hr ls hl hM
  have hl : lv_has ls 8 [(0, .ref (ad 100)), (1, .int (iI pn)), (2, .int (iI tn))] := hl
  refine lv_aload_n C.1 C.2.1 dX12_quietValue_0 rfl (lv_at hl 0 rfl) ?_
  refine x_ci (x_runV (As := []) (rest := []) C (by omega) cw_X12_104 (c_X12_isLostNow l D ad G ids hJ σ hG) hM (hJ 100 (by decide) (by decide)) (cx_100 ad G _) rfl rfl rfl rfl (Nat.le_of_ble_eq_true rfl) hl.1 dX12_quietValue_1) hM (fun r1 s1 H1 lc1 hp hM => ?_)
  obtain ⟨hbs1, rfl⟩ := hp
  obtain ⟨ts1, ks1⟩ := ite01 hbs1
  refine x_if_eq C ⟨by omega, by omega⟩ (tgt := 11) dX12_quietValue_4 (by decide) (fun c4 => ?_) (fun c4 => ?_)
  · have hne : MLs (σ 201) (cfg (mw σ) 2) (cfg (mw σ) 3) (σ 204 0) ≠ [] := fun q => absurd (ks1.mpr q) (by omega)
    refine lv_aload_n C.1 C.2.1 dX12_quietValue_11 rfl (lv_at hl 0 rfl) ?_
    refine x_ci (x_runV (As := []) (rest := []) C (by omega) cw_X12_120 (c_X12_evaluated l D ad G ids hJ σ hG) hM (hJ 100 (by decide) (by decide)) (cx_100 ad G _) rfl rfl rfl rfl (Nat.le_of_ble_eq_true rfl) hl.1 dX12_quietValue_12) hM (fun r12 s12 H1 lc1 hp hM => ?_)
    obtain ⟨rfl, rfl⟩ := hp
    refine lv_istore_n (lv' := [(3, .int (iI (evS (cfg (mw σ)) (σ 201) (σ 204 0)))), (0, .ref (ad 100)), (1, .int (iI pn)), (2, .int (iI tn))]) C.1 C.2.1 dX12_quietValue_15 rfl hl (by decide) rfl (fun ls hl => ?_)
    refine lv_aload_n C.1 C.2.1 dX12_quietValue_16 rfl (lv_at hl 1 rfl) ?_
    refine g_X12_9 C hM (hJ 100 (by decide) (by decide)) wf_X12_23 dX12_quietValue_17 ?_
    refine x_if_eq C ⟨by omega, by omega⟩ (tgt := 35) dX12_quietValue_20 (by decide) (fun c20 => ?_) (fun c20 => ?_)
    · refine lv_iconst (v := iI 0) C.1 C.2.1 dX12_quietValue_35 (by decide) ?_
      refine lv_istore (lv' := [(4, .int (iI 0)), (3, .int (iI (evS (cfg (mw σ)) (σ 201) (σ 204 0)))), (0, .ref (ad 100)), (1, .int (iI pn)), (2, .int (iI tn))]) C.1 C.2.1 dX12_quietValue_36 hl (by decide) rfl (fun ls hl => ?_)
      refine lv_iconst (v := iI 0) C.1 C.2.1 dX12_quietValue_38 (by decide) ?_
      refine lv_istore (lv' := [(5, .int (iI 0)), (4, .int (iI 0)), (3, .int (iI (evS (cfg (mw σ)) (σ 201) (σ 204 0)))), (0, .ref (ad 100)), (1, .int (iI pn)), (2, .int (iI tn))]) C.1 C.2.1 dX12_quietValue_39 hl (by decide) rfl (fun ls hl => ?_)
      have L41 : ∀ (fu : Nat) (x : Int) (b : Int) (s1 : Sg) (H1 : Heap) (lc1 : List Loc) (ls1 : Array Slot), (0 ≤ x ∧ x ≤ 0) → (-4000 ≤ b ∧ b ≤ 4000) → (True) → (frL p σ s1) → (b = (evS (cfg (mw σ)) (σ 201) (σ 204 0))) → (20 - x).toNat < fu → XI D ad G ids (AN ad ids ss.heap.size) ss.heap H1 lc1 s1 → lv_has ls1 8 [(5, .int (iI x)), (4, .int (iI 0)), (3, .int (iI b)), (0, .ref (ad 100)), (1, .int (iI pn)), (2, .int (iI tn))] → W pp l ee (rmh (7 + t)) ss mm args below meth cq H1 lc1 0 0 (MQ below (QI D ad G ids (qvPost p t σ) ss.heap.size) args ss 0 0 (AN ad ids ss.heap.size)) (F0 mm 41 ls1 []) := by
        intro fu
        induction fu with
        | zero => intro x b s1 H1 lc1 ls1 x0 hb hR hfr hq hfu; exact absurd hfu (Nat.not_lt_zero _)
        | succ fu ih41 =>
          intro x b s1 H1 lc1 ls1 x0 hb hR hfr hq hfu hM hl
          refine lv_iload C.1 C.2.1 dX12_quietValue_41 (lv_at hl 0 rfl) ?_
          refine lv_iload C.1 C.2.1 dX12_quietValue_43 (lv_at hl 1 rfl) ?_
          refine x_icmp_ge C ⟨by omega, by omega⟩ ⟨by omega, by omega⟩ (tgt := 109) dX12_quietValue_45 (by decide) (fun c45 => ?_) (fun c45 => ?_)
          · refine lv_iload_n C.1 C.2.1 dX12_quietValue_109 rfl (lv_at hl 2 rfl) ?_
            exact x_iret C hr hM ⟨by rw [hq]; exact qv_ev hne (by first | exact Or.inl (by omega) | exact Or.inr (show σ 208 0 = 0 by omega)), hfr⟩ dX12_quietValue_110
          · exact absurd c45 (by omega)
      exact L41 _ 0 (evS (cfg (mw σ)) (σ 201) (σ 204 0)) σ _ _ _ (by omega) hev trivial (fun r _ => rfl) rfl (Nat.lt_succ_self _) hM (lv_sub hl [0, 1, 2, 3, 4, 5] rfl)
    · refine lv_iload_n C.1 C.2.1 dX12_quietValue_23 rfl (lv_at hl 3 rfl) ?_
      refine x_if_le C ⟨by omega, by omega⟩ (tgt := 35) dX12_quietValue_24 (by decide) (fun c24 => ?_) (fun c24 => ?_)
      · refine lv_iconst (v := iI 0) C.1 C.2.1 dX12_quietValue_35 (by decide) ?_
        refine lv_istore (lv' := [(4, .int (iI 0)), (3, .int (iI (evS (cfg (mw σ)) (σ 201) (σ 204 0)))), (0, .ref (ad 100)), (1, .int (iI pn)), (2, .int (iI tn))]) C.1 C.2.1 dX12_quietValue_36 hl (by decide) rfl (fun ls hl => ?_)
        refine lv_iconst (v := iI 0) C.1 C.2.1 dX12_quietValue_38 (by decide) ?_
        refine lv_istore (lv' := [(5, .int (iI 0)), (4, .int (iI 0)), (3, .int (iI (evS (cfg (mw σ)) (σ 201) (σ 204 0)))), (0, .ref (ad 100)), (1, .int (iI pn)), (2, .int (iI tn))]) C.1 C.2.1 dX12_quietValue_39 hl (by decide) rfl (fun ls hl => ?_)
        have L41 : ∀ (fu : Nat) (x : Int) (b : Int) (s1 : Sg) (H1 : Heap) (lc1 : List Loc) (ls1 : Array Slot), (0 ≤ x ∧ x ≤ 0) → (-4000 ≤ b ∧ b ≤ 4000) → (True) → (frL p σ s1) → (b = (evS (cfg (mw σ)) (σ 201) (σ 204 0))) → (20 - x).toNat < fu → XI D ad G ids (AN ad ids ss.heap.size) ss.heap H1 lc1 s1 → lv_has ls1 8 [(5, .int (iI x)), (4, .int (iI 0)), (3, .int (iI b)), (0, .ref (ad 100)), (1, .int (iI pn)), (2, .int (iI tn))] → W pp l ee (rmh (7 + t)) ss mm args below meth cq H1 lc1 0 0 (MQ below (QI D ad G ids (qvPost p t σ) ss.heap.size) args ss 0 0 (AN ad ids ss.heap.size)) (F0 mm 41 ls1 []) := by
          intro fu
          induction fu with
          | zero => intro x b s1 H1 lc1 ls1 x0 hb hR hfr hq hfu; exact absurd hfu (Nat.not_lt_zero _)
          | succ fu ih41 =>
            intro x b s1 H1 lc1 ls1 x0 hb hR hfr hq hfu hM hl
            refine lv_iload C.1 C.2.1 dX12_quietValue_41 (lv_at hl 0 rfl) ?_
            refine lv_iload C.1 C.2.1 dX12_quietValue_43 (lv_at hl 1 rfl) ?_
            refine x_icmp_ge C ⟨by omega, by omega⟩ ⟨by omega, by omega⟩ (tgt := 109) dX12_quietValue_45 (by decide) (fun c45 => ?_) (fun c45 => ?_)
            · refine lv_iload_n C.1 C.2.1 dX12_quietValue_109 rfl (lv_at hl 2 rfl) ?_
              exact x_iret C hr hM ⟨by rw [hq]; exact qv_ev hne (by first | exact Or.inl (by omega) | exact Or.inr (show σ 208 0 = 0 by omega)), hfr⟩ dX12_quietValue_110
            · exact absurd c45 (by omega)
        exact L41 _ 0 (evS (cfg (mw σ)) (σ 201) (σ 204 0)) σ _ _ _ (by omega) hev trivial (fun r _ => rfl) rfl (Nat.lt_succ_self _) hM (lv_sub hl [0, 1, 2, 3, 4, 5] rfl)
      · obtain ⟨t1, ht1⟩ : ∃ t1, t = t1 + 1 := ⟨t - 1, by omega⟩
        have hQ := qv_lp hne ht1 (show cfg (mw σ) 8 ≠ 0 from (show σ 208 0 ≠ 0 by omega))
        refine lv_aload_n C.1 C.2.1 dX12_quietValue_27 rfl (lv_at hl 1 rfl) ?_
        refine lv_iload_n C.1 C.2.1 dX12_quietValue_28 rfl (lv_at hl 2 rfl) ?_
        refine x_ci (x_runV (As := [.int (iI pn)]) (rest := []) C (by omega) cw_X12_123 (c_X12_list l D ad G ids hJ σ p pn hpn (by omega) hG) hM (hJ 100 (by decide) (by decide)) (cx_100 ad G _) rfl rfl rfl rfl (Nat.le_of_ble_eq_true rfl) hl.1 dX12_quietValue_29) hM (fun r29 s29 H1 lc1 hp hM => ?_)
        obtain ⟨rfl, hLs29, hfs29⟩ := hp
        refine lv_goto (tgt := 36) C.1 C.2.1 dX12_quietValue_32 (by decide) ?_
        refine lv_istore (lv' := [(4, .int (iI ((MLs (σ 201) (σ 202 0) (σ 203 0) (σ 204 0)).length : Int))), (3, .int (iI (evS (cfg (mw σ)) (σ 201) (σ 204 0)))), (0, .ref (ad 100)), (1, .int (iI pn)), (2, .int (iI tn))]) C.1 C.2.1 dX12_quietValue_36 hl (by decide) rfl (fun ls hl => ?_)
        refine lv_iconst (v := iI 0) C.1 C.2.1 dX12_quietValue_38 (by decide) ?_
        refine lv_istore (lv' := [(5, .int (iI 0)), (4, .int (iI ((MLs (σ 201) (σ 202 0) (σ 203 0) (σ 204 0)).length : Int))), (3, .int (iI (evS (cfg (mw σ)) (σ 201) (σ 204 0)))), (0, .ref (ad 100)), (1, .int (iI pn)), (2, .int (iI tn))]) C.1 C.2.1 dX12_quietValue_39 hl (by decide) rfl (fun ls hl => ?_)
        have L41 : ∀ (fu : Nat) (x : Int) (b : Int) (s1 : Sg) (H1 : Heap) (lc1 : List Loc) (ls1 : Array Slot), (0 ≤ x ∧ x ≤ (MLs (σ 201) (σ 202 0) (σ 203 0) (σ 204 0)).length) → (-4000 ≤ b ∧ b ≤ 4000) → (RWL s1 (240 + p) (MLs (σ 201) (σ 202 0) (σ 203 0) (σ 204 0))) → (frL p σ s1) → (qvl (qv (cfg (mw σ)) t1) (σ 201) (σ 204 0) ((MLs (σ 201) (σ 202 0) (σ 203 0) (σ 204 0)).drop x.toNat) b = qv (cfg (mw σ)) t (σ 201) (σ 204 0)) → (20 - x).toNat < fu → XI D ad G ids (AN ad ids ss.heap.size) ss.heap H1 lc1 s1 → lv_has ls1 8 [(5, .int (iI x)), (4, .int (iI ((MLs (σ 201) (σ 202 0) (σ 203 0) (σ 204 0)).length : Int))), (3, .int (iI b)), (0, .ref (ad 100)), (1, .int (iI pn)), (2, .int (iI tn))] → W pp l ee (rmh (7 + t)) ss mm args below meth cq H1 lc1 0 0 (MQ below (QI D ad G ids (qvPost p t σ) ss.heap.size) args ss 0 0 (AN ad ids ss.heap.size)) (F0 mm 41 ls1 []) := by
          intro fu
          induction fu with
          | zero => intro x b s1 H1 lc1 ls1 x0 hb hR hfr hq hfu; exact absurd hfu (Nat.not_lt_zero _)
          | succ fu ih41 =>
            intro x b s1 H1 lc1 ls1 x0 hb hR hfr hq hfu hM hl
            refine lv_iload C.1 C.2.1 dX12_quietValue_41 (lv_at hl 0 rfl) ?_
            refine lv_iload C.1 C.2.1 dX12_quietValue_43 (lv_at hl 1 rfl) ?_
            refine x_icmp_ge C ⟨by omega, by omega⟩ ⟨by omega, by omega⟩ (tgt := 109) dX12_quietValue_45 (by decide) (fun c45 => ?_) (fun c45 => ?_)
            · refine lv_iload_n C.1 C.2.1 dX12_quietValue_109 rfl (lv_at hl 2 rfl) ?_
              refine x_iret C hr hM ?_ dX12_quietValue_110
              exact ⟨by
                rw [drop_e (L := (MLs (σ 201) (σ 202 0) (σ 203 0) (σ 204 0))) (by omega) (by omega)] at hq
                exact hq.symm, hfr⟩
            · refine lv_aload_n C.1 C.2.1 dX12_quietValue_48 rfl (lv_at hl 3 rfl) ?_
              refine g_X12_10 C hM (hJ 100 (by decide) (by decide)) wf_X12_29 dX12_quietValue_49 ?_
              have e1 := hfr 201 (by omega)
              have e2 := hfr 202 (by omega)
              have e3 := hfr 203 (by omega)
              have e4 := hfr 204 (by omega)
              have hGs : GI (mw s1) := GIm_of hG (fun r _ _ => hfr r (by omega))
              have hcs : cfg (mw s1) = cfg (mw σ) := mw_cfg (fun r _ => hfr (200 + r) (by omega))
              refine lv_iload_n C.1 C.2.1 dX12_quietValue_52 rfl (lv_at hl 4 rfl) ?_
              rw [hpn]
              refine aa_listed C hM (hJ 103 (by decide) (by decide)) (i := p) (by omega) dX12_quietValue_53 ?_
              refine lv_iload C.1 C.2.1 dX12_quietValue_54 (lv_at hl 0 rfl) ?_
              refine al_li C hM (by omega) (hJ _ (by omega) (by omega)) (by omega) (by omega) dX12_quietValue_56 ?_
              rw [hR.at (by omega) (by omega)]
              have hmv : MV (mw σ) ((MLs (σ 201) (σ 202 0) (σ 203 0) (σ 204 0)).getD x.toNat (-1)) := MVm (by omega) (by omega)
              have hok := hmv.ok hG
              have hok : (0 ≤ ((MLs (σ 201) (σ 202 0) (σ 203 0) (σ 204 0)).getD x.toNat (-1)) ∧ ((MLs (σ 201) (σ 202 0) (σ 203 0) (σ 204 0)).getD x.toNat (-1)) / 100 < σ 202 0 * σ 203 0 ∧ ((MLs (σ 201) (σ 202 0) (σ 203 0) (σ 204 0)).getD x.toNat (-1)) % 100 < σ 202 0 * σ 203 0) ∧ ((MLs (σ 201) (σ 202 0) (σ 203 0) (σ 204 0)).getD x.toNat (-1)) / 100 ≠ ((MLs (σ 201) (σ 202 0) (σ 203 0) (σ 204 0)).getD x.toNat (-1)) % 100 ∧ ((MLs (σ 201) (σ 202 0) (σ 203 0) (σ 204 0)).getD x.toNat (-1)) < 2500 := hok
              have hws : s1 202 0 * s1 203 0 = σ 202 0 * σ 203 0 := by rw [e2, e3]
              refine lv_istore (lv' := [(6, .int (iI ((MLs (σ 201) (σ 202 0) (σ 203 0) (σ 204 0)).getD x.toNat (-1)))), (5, .int (iI x)), (4, .int (iI ((MLs (σ 201) (σ 202 0) (σ 203 0) (σ 204 0)).length : Int))), (3, .int (iI b)), (0, .ref (ad 100)), (1, .int (iI pn)), (2, .int (iI tn))]) C.1 C.2.1 dX12_quietValue_57 hl (by decide) rfl (fun ls hl => ?_)
              refine lv_aload_n C.1 C.2.1 dX12_quietValue_59 rfl (lv_at hl 4 rfl) ?_
              refine lv_iload C.1 C.2.1 dX12_quietValue_60 (lv_at hl 0 rfl) ?_
              refine x_ci (x_runV (As := [.int (iI ((MLs (σ 201) (σ 202 0) (σ 203 0) (σ 204 0)).getD x.toNat (-1)))]) (rest := []) C (by omega) cw_X12_126 (c_X12_isTaking l D ad G ids hJ s1 ((MLs (σ 201) (σ 202 0) (σ 203 0) (σ 204 0)).getD x.toNat (-1)) hGs.1 hGs.2.1 (by omega)) hM (hJ 100 (by decide) (by decide)) (cx_100 ad G _) rfl rfl rfl rfl (Nat.le_of_ble_eq_true rfl) hl.1 dX12_quietValue_62) hM (fun r62 s62 H1 lc1 hp hM => ?_)
              obtain ⟨hbs62, rfl⟩ := hp
              rw [e1] at hbs62
              obtain ⟨ts62, ks62⟩ := ite01 hbs62
              refine x_if_ne C ⟨by omega, by omega⟩ (tgt := 71) dX12_quietValue_65 (by decide) (fun c65 => ?_) (fun c65 => ?_)
              · have htk := ks62.mp c65
                refine lv_aload_n C.1 C.2.1 dX12_quietValue_71 rfl (lv_at hl 4 rfl) ?_
                refine lv_iload C.1 C.2.1 dX12_quietValue_72 (lv_at hl 0 rfl) ?_
                refine x_ci (x_runV (As := [.int (iI ((MLs (σ 201) (σ 202 0) (σ 203 0) (σ 204 0)).getD x.toNat (-1)))]) (rest := []) C (by omega) cw_X12_130 (c_X12_make l D ad G ids hJ s1 ((MLs (σ 201) (σ 202 0) (σ 203 0) (σ 204 0)).getD x.toNat (-1)) hGs.1 (by omega)) hM (hJ 100 (by decide) (by decide)) (cx_100 ad G _) rfl rfl rfl rfl (Nat.le_of_ble_eq_true rfl) hl.1 dX12_quietValue_74) hM (fun r74 s74 H1 lc1 hp hM => ?_)
                obtain ⟨rfl, rfl⟩ := hp
                have hmv1 : MV (mw s1) ((MLs (σ 201) (σ 202 0) (σ 203 0) (σ 204 0)).getD x.toNat (-1)) := by
                  show ((MLs (σ 201) (σ 202 0) (σ 203 0) (σ 204 0)).getD x.toNat (-1)) ∈ MLs (s1 201) (s1 202 0) (s1 203 0) (s1 204 0)
                  rw [e1, e2, e3, e4]; exact hmv
                have hG2 : GI (mw (mvM s1 ((MLs (σ 201) (σ 202 0) (σ 203 0) (σ 204 0)).getD x.toNat (-1)))) := by rw [mw_mv]; exact hGs.mv hmv1
                refine lv_istore (lv' := [(7, .int (iI (s1 201 (((MLs (σ 201) (σ 202 0) (σ 203 0) (σ 204 0)).getD x.toNat (-1)) % 100)))), (6, .int (iI ((MLs (σ 201) (σ 202 0) (σ 203 0) (σ 204 0)).getD x.toNat (-1)))), (5, .int (iI x)), (4, .int (iI ((MLs (σ 201) (σ 202 0) (σ 203 0) (σ 204 0)).length : Int))), (3, .int (iI b)), (0, .ref (ad 100)), (1, .int (iI pn)), (2, .int (iI tn))]) C.1 C.2.1 dX12_quietValue_77 hl (by decide) rfl (fun ls hl => ?_)
                refine lv_iload_n C.1 C.2.1 dX12_quietValue_79 rfl (lv_at hl 4 rfl) ?_
                refine lv_aload_n C.1 C.2.1 dX12_quietValue_80 rfl (lv_at hl 5 rfl) ?_
                refine lv_iload_n C.1 C.2.1 dX12_quietValue_81 rfl (lv_at hl 6 rfl) ?_
                refine lv_iconst (v := iI 1) C.1 C.2.1 dX12_quietValue_82 (by decide) ?_
                refine x_iadd C dX12_quietValue_83 ?_
                refine lv_iload_n C.1 C.2.1 dX12_quietValue_84 rfl (lv_at hl 7 rfl) ?_
                refine lv_iconst (v := iI 1) C.1 C.2.1 dX12_quietValue_85 (by decide) ?_
                refine x_isub C dX12_quietValue_86 ?_
                refine x_ci (x_runV (As := [.int (iI (pn + 1)), .int (iI (tn - 1))]) (rest := [.int (iI b)]) C (by omega) cw_X12_133 ((hrec t1 ht1) (mvM s1 ((MLs (σ 201) (σ 202 0) (σ 203 0) (σ 204 0)).getD x.toNat (-1))) (p + 1) (pn + 1) (tn - 1) (by omega) (by omega) (by omega) hG2) hM (hJ 100 (by decide) (by decide)) (cx_100 ad G _) rfl rfl rfl rfl (Nat.le_of_ble_eq_true rfl) hl.1 dX12_quietValue_87) hM (fun r87 s87 H1 lc1 hp hM => ?_)
                obtain ⟨hzs87, hfs87⟩ := hp
                have hzs87 : qv (cfg (mw (mvM s1 ((MLs (σ 201) (σ 202 0) (σ 203 0) (σ 204 0)).getD x.toNat (-1))))) t1 (mw (mvM s1 ((MLs (σ 201) (σ 202 0) (σ 203 0) (σ 204 0)).getD x.toNat (-1))) 1) (mw (mvM s1 ((MLs (σ 201) (σ 202 0) (σ 203 0) (σ 204 0)).getD x.toNat (-1))) 4 0) = r87 := hzs87
                rw [mw_mv, mvG_cfg, mvG_1, mvG_4, ups_eq, hcs] at hzs87
                have hzs87 : qv (cfg (mw σ)) t1 (mvF (s1 201) ((MLs (σ 201) (σ 202 0) (σ 203 0) (σ 204 0)).getD x.toNat (-1))) (1 - s1 204 0) = r87 := hzs87
                rw [e1, e4] at hzs87
                have hu := unM_mv (σ := s1) (b := s87) hok.2.1 ((hfs87 201 (by omega)).trans (mvM_1 s1 ((MLs (σ 201) (σ 202 0) (σ 203 0) (σ 204 0)).getD x.toNat (-1)))) ((hfs87 204 (by omega)).trans (mvM_4 s1 ((MLs (σ 201) (σ 202 0) (σ 203 0) (σ 204 0)).getD x.toNat (-1))))
                have hf3 : ∀ r : Nat, (r < 240 + (p + 1) ∨ 252 ≤ r) → (unM s87 ((MLs (σ 201) (σ 202 0) (σ 203 0) (σ 204 0)).getD x.toNat (-1)) (s1 201 (((MLs (σ 201) (σ 202 0) (σ 203 0) (σ 204 0)).getD x.toNat (-1)) % 100))) r = s1 r := fun r hr => by
                  by_cases q1 : r = 201
                  · rw [q1]; exact hu.1
                  by_cases q4 : r = 204
                  · rw [q4]; exact hu.2.1
                  rw [hu.2.2 r q1 q4, hfs87 r hr, mvM_o s1 ((MLs (σ 201) (σ 202 0) (σ 203 0) (σ 204 0)).getD x.toNat (-1)) q1 q4]
                have hGb : BG (mw s87) := (BG_of (a := mw s1) (b := mw s87) ((hfs87 202 (by omega)).trans (mvM_o s1 ((MLs (σ 201) (σ 202 0) (σ 203 0) (σ 204 0)).getD x.toNat (-1)) (by decide) (by decide))) ((hfs87 203 (by omega)).trans (mvM_o s1 ((MLs (σ 201) (σ 202 0) (σ 203 0) (σ 204 0)).getD x.toNat (-1)) (by decide) (by decide)))).mpr hGs.1
                have hwb2 : s87 202 0 * s87 203 0 = σ 202 0 * σ 203 0 := by rw [hfs87 202 (by omega), hfs87 203 (by omega), mvM_o s1 _ (by decide) (by decide), mvM_o s1 _ (by decide) (by decide), e2, e3]
                have hqb := qv_bd hG.2.2.2.2 t1 (mvF (σ 201) ((MLs (σ 201) (σ 202 0) (σ 203 0) (σ 204 0)).getD x.toNat (-1))) (1 - σ 204 0)
                have hqr : -4000 ≤ r87 ∧ r87 ≤ 4000 := by omega
                refine x_ineg C dX12_quietValue_90 ?_
                refine x_max C (by omega) hl.1 wM_X12_137 ⟨by omega, by omega⟩ ⟨by omega, by omega⟩ (Nat.le_of_ble_eq_true rfl) dX12_quietValue_91 ?_
                refine lv_istore_n (lv' := [(3, .int (iI (max b (-r87)))), (7, .int (iI (s1 201 (((MLs (σ 201) (σ 202 0) (σ 203 0) (σ 204 0)).getD x.toNat (-1)) % 100)))), (6, .int (iI ((MLs (σ 201) (σ 202 0) (σ 203 0) (σ 204 0)).getD x.toNat (-1)))), (5, .int (iI x)), (4, .int (iI ((MLs (σ 201) (σ 202 0) (σ 203 0) (σ 204 0)).length : Int))), (0, .ref (ad 100)), (1, .int (iI pn)), (2, .int (iI tn))]) C.1 C.2.1 dX12_quietValue_94 rfl hl (by decide) rfl (fun ls hl => ?_)
                refine lv_aload_n C.1 C.2.1 dX12_quietValue_95 rfl (lv_at hl 5 rfl) ?_
                refine lv_iload C.1 C.2.1 dX12_quietValue_96 (lv_at hl 2 rfl) ?_
                refine lv_iload C.1 C.2.1 dX12_quietValue_98 (lv_at hl 1 rfl) ?_
                refine x_cv (x_runV (As := [.int (iI ((MLs (σ 201) (σ 202 0) (σ 203 0) (σ 204 0)).getD x.toNat (-1))), .int (iI (s1 201 (((MLs (σ 201) (σ 202 0) (σ 203 0) (σ 204 0)).getD x.toNat (-1)) % 100)))]) (rest := []) C (by omega) cw_X12_140 (c_X12_unmake l D ad G ids hJ s87 ((MLs (σ 201) (σ 202 0) (σ 203 0) (σ 204 0)).getD x.toNat (-1)) (s1 201 (((MLs (σ 201) (σ 202 0) (σ 203 0) (σ 204 0)).getD x.toNat (-1)) % 100)) hGb (by omega)) hM (hJ 100 (by decide) (by decide)) (cx_100 ad G _) rfl rfl rfl rfl (Nat.le_of_ble_eq_true rfl) hl.1 dX12_quietValue_100) hM (fun s100 H1 lc1 hp hM => ?_)
                obtain rfl := hp
                refine x_iinc (lv1 := [(5, .int (iI (x + 1))), (3, .int (iI (max b (-r87)))), (7, .int (iI (s1 201 (((MLs (σ 201) (σ 202 0) (σ 203 0) (σ 204 0)).getD x.toNat (-1)) % 100)))), (6, .int (iI ((MLs (σ 201) (σ 202 0) (σ 203 0) (σ 204 0)).getD x.toNat (-1)))), (4, .int (iI ((MLs (σ 201) (σ 202 0) (σ 203 0) (σ 204 0)).length : Int))), (0, .ref (ad 100)), (1, .int (iI pn)), (2, .int (iI tn))]) C dX12_quietValue_103 hl (k := 3) rfl (by decide) rfl (fun ls hl => ?_)
                refine lv_goto (tgt := 41) C.1 C.2.1 dX12_quietValue_106 (by decide) ?_
                exact ih41 (x + 1) (max b (-r87)) (unM s87 ((MLs (σ 201) (σ 202 0) (σ 203 0) (σ 204 0)).getD x.toNat (-1)) (s1 201 (((MLs (σ 201) (σ 202 0) (σ 203 0) (σ 204 0)).getD x.toNat (-1)) % 100))) _ _ _ (by omega) (by omega) (hR.of (hf3 _ (by omega))) (fun r hr => (hf3 r (by omega)).trans (hfr r hr)) (by rw [← hq, qvl_drop (L := (MLs (σ 201) (σ 202 0) (σ 203 0) (σ 204 0))) (x := x) (b := b) (by omega) (by omega), if_pos htk, ← hzs87]) (by omega) hM (lv_sub hl [0, 4, 1, 5, 6, 7] rfl)
              · have htk : ¬ σ 201 (((MLs (σ 201) (σ 202 0) (σ 203 0) (σ 204 0)).getD x.toNat (-1)) % 100) ≠ 0 := fun q => absurd (ks62.mpr q) (by omega)
                refine lv_goto (tgt := 103) C.1 C.2.1 dX12_quietValue_68 (by decide) ?_
                refine x_iinc (lv1 := [(5, .int (iI (x + 1))), (6, .int (iI ((MLs (σ 201) (σ 202 0) (σ 203 0) (σ 204 0)).getD x.toNat (-1)))), (4, .int (iI ((MLs (σ 201) (σ 202 0) (σ 203 0) (σ 204 0)).length : Int))), (3, .int (iI b)), (0, .ref (ad 100)), (1, .int (iI pn)), (2, .int (iI tn))]) C dX12_quietValue_103 hl (k := 1) rfl (by decide) rfl (fun ls hl => ?_)
                refine lv_goto (tgt := 41) C.1 C.2.1 dX12_quietValue_106 (by decide) ?_
                exact ih41 (x + 1) b s1 _ _ _ (by omega) (by omega) hR hfr (by rw [← hq, qvl_drop (L := (MLs (σ 201) (σ 202 0) (σ 203 0) (σ 204 0))) (x := x) (b := b) (by omega) (by omega), if_neg htk]) (by omega) hM (lv_sub hl [0, 2, 3, 4, 5, 6] rfl)
        exact L41 _ 0 (evS (cfg (mw σ)) (σ 201) (σ 204 0)) s29 _ _ _ (by omega) hev hLs29 (fun r hr => hfs29 r (by omega)) hQ.symm (Nat.lt_succ_self _) hM (lv_sub hl [0, 1, 2, 3, 4, 5] rfl)
  · refine lv_sipush (v := iI (-1000)) C.1 C.2.1 dX12_quietValue_7 (by decide) ?_
    exact x_iret C hr hM ⟨qv_nil (ks1.mp (by omega)) _, fun r _ => rfl⟩ dX12_quietValue_10
theorem quiet_all (l : Launch) (D : va_G) (ad : Nat → Nat) (G : Nat → Nat) (ids : List Nat) (hJ : ∀ k, 100 ≤ k → k < 233 → k ∈ ids) : ∀ t : Nat, QVc l D ad G ids t := by
  intro t
  induction t with
  | zero => intro σ p pn tn hpn htn hpt hG; exact c_X12_quietValue l D ad G ids hJ σ p 0 pn tn hpn htn hpt (fun t1 h => by omega) hG
  | succ t ih => intro σ p pn tn hpn htn hpt hG; exact c_X12_quietValue l D ad G ids hJ σ p (t + 1) pn tn hpn htn hpt (fun t1 h => by
      have e : t1 = t := by omega
      subst e; exact ih) hG
abbrev vvPost (p d : Nat) (σ : Sg) : Int → Sg → Prop := fun z σ' => vv (cfg (mw σ)) d (σ 201) (σ 204 0) = z ∧ frL p σ σ'
def VNc (l : Launch) (D : va_G) (ad : Nat → Nat) (G : Nat → Nat) (ids : List Nat) (d : Nat) : Prop := ∀ (σ : Sg) (p : Nat) (pn dn : Int), pn = (p : Int) → dn = (d : Int) → p + d + 4 ≤ 12 → GI (mw σ) →
  MET l yX12_valueNow cX12_valueNow 6 (some .int) (12 + 2 * d) [.ref (ad 100), .int (iI pn), .int (iI dn)] D ad G ids σ (QI D ad G ids (vvPost p d σ))
abbrev waPost (p d : Nat) (σ : Sg) : Int → Sg → Prop := fun z σ' => waysF (cfg (mw σ)) d (σ 201) (σ 204 0) = z ∧ frL p σ σ'
def WNc (l : Launch) (D : va_G) (ad : Nat → Nat) (G : Nat → Nat) (ids : List Nat) (d : Nat) : Prop := ∀ (σ : Sg) (p : Nat) (pn dn : Int), pn = (p : Int) → dn = (d : Int) → p + d ≤ 12 → GI (mw σ) →
  MET l yX12_waysNow cX12_waysNow 8 (some .int) (7 + d) [.ref (ad 100), .int (iI pn), .int (iI dn)] D ad G ids σ (QI D ad G ids (waPost p d σ))
set_option maxRecDepth 100000 in
set_option maxHeartbeats 4000000 in
theorem c_X12_valueBehind (l : Launch) (D : va_G) (ad : Nat → Nat) (G : Nat → Nat) (ids : List Nat) (hJ : ∀ k, 100 ≤ k → k < 233 → k ∈ ids) (σ : Sg) (p d1 : Nat) (pn x dn : Int) (hpn : pn = (p : Int)) (htn : dn = (d1 : Int)) (hpd : p + d1 + 5 ≤ 12) (hrec : VNc l D ad G ids d1) (hG : GI (mw σ)) (hR : RWL σ (240 + p) (MLs (σ 201) (σ 202 0) (σ 203 0) (σ 204 0))) (x0 : 0 ≤ x ∧ x < (MLs (σ 201) (σ 202 0) (σ 203 0) (σ 204 0)).length) : MET l yX12_valueBehind cX12_valueBehind 7 (some .int) (13 + 2 * d1) [.ref (ad 100), .int (iI pn), .int (iI x), .int (iI dn)] D ad G ids σ (QI D ad G ids (fun z σ' => vv (cfg (mw σ)) d1 (mvF (σ 201) ((MLs (σ 201) (σ 202 0) (σ 203 0) (σ 204 0)).getD x.toNat (-1))) (1 - σ 204 0) = z ∧ frL (p + 1) σ σ')) := by
  have hB : BG (mw σ) := hG.1
  have w1 : 3 ≤ σ 202 0 := hB.1
  have w2 : σ 202 0 ≤ 5 := hB.2.1
  have h1 : 3 ≤ σ 203 0 := hB.2.2.1
  have h2 : σ 203 0 ≤ 5 := hB.2.2.2
  have wb := wh_bd w1 w2 h1 h2
  have hC : BC (σ 201) := hG.2.1
  have hs : σ 204 0 = 0 ∨ σ 204 0 = 1 := hG.2.2.1
  have h18 : (MLs (σ 201) (σ 202 0) (σ 203 0) (σ 204 0)).length ≤ 18 := MLs18 hG
  have e1 : σ 201 = σ 201 := rfl
  have e2 : σ 202 = σ 202 := rfl
  have e3 : σ 203 = σ 203 := rfl
  have e4 : σ 204 = σ 204 := rfl
  have hGs := hG
  have hcs : cfg (mw σ) = cfg (mw σ) := rfl
  refine x_enter (by decide) (Nat.le_of_ble_eq_true rfl) ?_
  intro pp ee ss mm args below meth cq C hr ls hl hM
  have hl : lv_has ls 7 [(0, .ref (ad 100)), (1, .int (iI pn)), (2, .int (iI x)), (3, .int (iI dn))] := hl
  refine lv_aload_n C.1 C.2.1 dX12_valueBehind_0 rfl (lv_at hl 0 rfl) ?_
  refine g_X12_10 C hM (hJ 100 (by decide) (by decide)) wf_X12_29 dX12_valueBehind_1 ?_
  refine lv_iload_n C.1 C.2.1 dX12_valueBehind_4 rfl (lv_at hl 1 rfl) ?_
  rw [hpn]
  refine aa_listed C hM (hJ 103 (by decide) (by decide)) (i := p) (by omega) dX12_valueBehind_5 ?_
  refine lv_iload_n C.1 C.2.1 dX12_valueBehind_6 rfl (lv_at hl 2 rfl) ?_
  refine al_li C hM (by omega) (hJ _ (by omega) (by omega)) (by omega) (by omega) dX12_valueBehind_7 ?_
  rw [hR.at (by omega) (by omega)]
  have hmv : MV (mw σ) ((MLs (σ 201) (σ 202 0) (σ 203 0) (σ 204 0)).getD x.toNat (-1)) := MVm (by omega) (by omega)
  have hok := hmv.ok hG
  have hok : (0 ≤ ((MLs (σ 201) (σ 202 0) (σ 203 0) (σ 204 0)).getD x.toNat (-1)) ∧ ((MLs (σ 201) (σ 202 0) (σ 203 0) (σ 204 0)).getD x.toNat (-1)) / 100 < σ 202 0 * σ 203 0 ∧ ((MLs (σ 201) (σ 202 0) (σ 203 0) (σ 204 0)).getD x.toNat (-1)) % 100 < σ 202 0 * σ 203 0) ∧ ((MLs (σ 201) (σ 202 0) (σ 203 0) (σ 204 0)).getD x.toNat (-1)) / 100 ≠ ((MLs (σ 201) (σ 202 0) (σ 203 0) (σ 204 0)).getD x.toNat (-1)) % 100 ∧ ((MLs (σ 201) (σ 202 0) (σ 203 0) (σ 204 0)).getD x.toNat (-1)) < 2500 := hok
  have hws : σ 202 0 * σ 203 0 = σ 202 0 * σ 203 0 := by rw [e2, e3]
  refine lv_istore (lv' := [(4, .int (iI ((MLs (σ 201) (σ 202 0) (σ 203 0) (σ 204 0)).getD x.toNat (-1)))), (0, .ref (ad 100)), (1, .int (iI pn)), (2, .int (iI x)), (3, .int (iI dn))]) C.1 C.2.1 dX12_valueBehind_8 hl (by decide) rfl (fun ls hl => ?_)
  refine lv_aload_n C.1 C.2.1 dX12_valueBehind_10 rfl (lv_at hl 1 rfl) ?_
  refine lv_iload C.1 C.2.1 dX12_valueBehind_11 (lv_at hl 0 rfl) ?_
  refine x_ci (x_runV (As := [.int (iI ((MLs (σ 201) (σ 202 0) (σ 203 0) (σ 204 0)).getD x.toNat (-1)))]) (rest := []) C (by omega) cw_X12_130 (c_X12_make l D ad G ids hJ σ ((MLs (σ 201) (σ 202 0) (σ 203 0) (σ 204 0)).getD x.toNat (-1)) hG.1 (by omega)) hM (hJ 100 (by decide) (by decide)) (cx_100 ad G _) rfl rfl rfl rfl (Nat.le_of_ble_eq_true rfl) hl.1 dX12_valueBehind_13) hM (fun r13 s13 H1 lc1 hp hM => ?_)
  obtain ⟨rfl, rfl⟩ := hp
  have hmv1 : MV (mw σ) ((MLs (σ 201) (σ 202 0) (σ 203 0) (σ 204 0)).getD x.toNat (-1)) := by
    show ((MLs (σ 201) (σ 202 0) (σ 203 0) (σ 204 0)).getD x.toNat (-1)) ∈ MLs (σ 201) (σ 202 0) (σ 203 0) (σ 204 0)
    rw [e1, e2, e3, e4]; exact hmv
  have hG2 : GI (mw (mvM σ ((MLs (σ 201) (σ 202 0) (σ 203 0) (σ 204 0)).getD x.toNat (-1)))) := by rw [mw_mv]; exact hGs.mv hmv1
  refine lv_istore (lv' := [(5, .int (iI (σ 201 (((MLs (σ 201) (σ 202 0) (σ 203 0) (σ 204 0)).getD x.toNat (-1)) % 100)))), (4, .int (iI ((MLs (σ 201) (σ 202 0) (σ 203 0) (σ 204 0)).getD x.toNat (-1)))), (0, .ref (ad 100)), (1, .int (iI pn)), (2, .int (iI x)), (3, .int (iI dn))]) C.1 C.2.1 dX12_valueBehind_16 hl (by decide) rfl (fun ls hl => ?_)
  refine lv_aload_n C.1 C.2.1 dX12_valueBehind_18 rfl (lv_at hl 2 rfl) ?_
  refine lv_iload_n C.1 C.2.1 dX12_valueBehind_19 rfl (lv_at hl 3 rfl) ?_
  refine lv_iconst (v := iI 1) C.1 C.2.1 dX12_valueBehind_20 (by decide) ?_
  refine x_iadd C dX12_valueBehind_21 ?_
  refine lv_iload_n C.1 C.2.1 dX12_valueBehind_22 rfl (lv_at hl 5 rfl) ?_
  refine x_ci (x_runV (As := [.int (iI (pn + 1)), .int (iI dn)]) (rest := []) C (by omega) cw_X12_148 (hrec (mvM σ ((MLs (σ 201) (σ 202 0) (σ 203 0) (σ 204 0)).getD x.toNat (-1))) (p + 1) (pn + 1) dn (by omega) htn (by omega) hG2) hM (hJ 100 (by decide) (by decide)) (cx_100 ad G _) rfl rfl rfl rfl (Nat.le_of_ble_eq_true rfl) hl.1 dX12_valueBehind_23) hM (fun r23 s23 H1 lc1 hp hM => ?_)
  obtain ⟨hzs23, hfs23⟩ := hp
  have hzs23 : vv (cfg (mw (mvM σ ((MLs (σ 201) (σ 202 0) (σ 203 0) (σ 204 0)).getD x.toNat (-1))))) d1 (mw (mvM σ ((MLs (σ 201) (σ 202 0) (σ 203 0) (σ 204 0)).getD x.toNat (-1))) 1) (mw (mvM σ ((MLs (σ 201) (σ 202 0) (σ 203 0) (σ 204 0)).getD x.toNat (-1))) 4 0) = r23 := hzs23
  rw [mw_mv, mvG_cfg, mvG_1, mvG_4, ups_eq, hcs] at hzs23
  have hzs23 : vv (cfg (mw σ)) d1 (mvF (σ 201) ((MLs (σ 201) (σ 202 0) (σ 203 0) (σ 204 0)).getD x.toNat (-1))) (1 - σ 204 0) = r23 := hzs23
  have hu := unM_mv (σ := σ) (b := s23) hok.2.1 ((hfs23 201 (by omega)).trans (mvM_1 σ ((MLs (σ 201) (σ 202 0) (σ 203 0) (σ 204 0)).getD x.toNat (-1)))) ((hfs23 204 (by omega)).trans (mvM_4 σ ((MLs (σ 201) (σ 202 0) (σ 203 0) (σ 204 0)).getD x.toNat (-1))))
  have hf3 : ∀ r : Nat, (r < 240 + (p + 1) ∨ 252 ≤ r) → (unM s23 ((MLs (σ 201) (σ 202 0) (σ 203 0) (σ 204 0)).getD x.toNat (-1)) (σ 201 (((MLs (σ 201) (σ 202 0) (σ 203 0) (σ 204 0)).getD x.toNat (-1)) % 100))) r = σ r := fun r hr => by
    by_cases q1 : r = 201
    · rw [q1]; exact hu.1
    by_cases q4 : r = 204
    · rw [q4]; exact hu.2.1
    rw [hu.2.2 r q1 q4, hfs23 r hr, mvM_o σ ((MLs (σ 201) (σ 202 0) (σ 203 0) (σ 204 0)).getD x.toNat (-1)) q1 q4]
  have hGb : BG (mw s23) := (BG_of (a := mw σ) (b := mw s23) ((hfs23 202 (by omega)).trans (mvM_o σ ((MLs (σ 201) (σ 202 0) (σ 203 0) (σ 204 0)).getD x.toNat (-1)) (by decide) (by decide))) ((hfs23 203 (by omega)).trans (mvM_o σ ((MLs (σ 201) (σ 202 0) (σ 203 0) (σ 204 0)).getD x.toNat (-1)) (by decide) (by decide)))).mpr hGs.1
  have hwb2 : s23 202 0 * s23 203 0 = σ 202 0 * σ 203 0 := by rw [hfs23 202 (by omega), hfs23 203 (by omega), mvM_o σ _ (by decide) (by decide), mvM_o σ _ (by decide) (by decide), e2, e3]
  refine lv_istore (lv' := [(6, .int (iI r23)), (5, .int (iI (σ 201 (((MLs (σ 201) (σ 202 0) (σ 203 0) (σ 204 0)).getD x.toNat (-1)) % 100)))), (4, .int (iI ((MLs (σ 201) (σ 202 0) (σ 203 0) (σ 204 0)).getD x.toNat (-1)))), (0, .ref (ad 100)), (1, .int (iI pn)), (2, .int (iI x)), (3, .int (iI dn))]) C.1 C.2.1 dX12_valueBehind_26 hl (by decide) rfl (fun ls hl => ?_)
  refine lv_aload_n C.1 C.2.1 dX12_valueBehind_28 rfl (lv_at hl 3 rfl) ?_
  refine lv_iload C.1 C.2.1 dX12_valueBehind_29 (lv_at hl 2 rfl) ?_
  refine lv_iload C.1 C.2.1 dX12_valueBehind_31 (lv_at hl 1 rfl) ?_
  refine x_cv (x_runV (As := [.int (iI ((MLs (σ 201) (σ 202 0) (σ 203 0) (σ 204 0)).getD x.toNat (-1))), .int (iI (σ 201 (((MLs (σ 201) (σ 202 0) (σ 203 0) (σ 204 0)).getD x.toNat (-1)) % 100)))]) (rest := []) C (by omega) cw_X12_140 (c_X12_unmake l D ad G ids hJ s23 ((MLs (σ 201) (σ 202 0) (σ 203 0) (σ 204 0)).getD x.toNat (-1)) (σ 201 (((MLs (σ 201) (σ 202 0) (σ 203 0) (σ 204 0)).getD x.toNat (-1)) % 100)) hGb (by omega)) hM (hJ 100 (by decide) (by decide)) (cx_100 ad G _) rfl rfl rfl rfl (Nat.le_of_ble_eq_true rfl) hl.1 dX12_valueBehind_33) hM (fun s33 H1 lc1 hp hM => ?_)
  obtain rfl := hp
  refine lv_iload C.1 C.2.1 dX12_valueBehind_36 (lv_at hl 0 rfl) ?_
  exact x_iret C hr hM ⟨hzs23, fun r hr => hf3 r (by omega)⟩ dX12_valueBehind_38
set_option maxRecDepth 100000 in
set_option maxHeartbeats 4000000 in
theorem c_X12_valueNow (l : Launch) (D : va_G) (ad : Nat → Nat) (G : Nat → Nat) (ids : List Nat) (hJ : ∀ k, 100 ≤ k → k < 233 → k ∈ ids) (σ : Sg) (p d : Nat) (pn dn : Int) (hpn : pn = (p : Int)) (htn : dn = (d : Int)) (hpt : p + d + 4 ≤ 12) (hrec : ∀ d1, d = d1 + 1 → VNc l D ad G ids d1) (hG : GI (mw σ)) : MET l yX12_valueNow cX12_valueNow 6 (some .int) (12 + 2 * d) [.ref (ad 100), .int (iI pn), .int (iI dn)] D ad G ids σ (QI D ad G ids (vvPost p d σ)) := by
  have hB : BG (mw σ) := hG.1
  have w1 : 3 ≤ σ 202 0 := hB.1
  have w2 : σ 202 0 ≤ 5 := hB.2.1
  have h1 : 3 ≤ σ 203 0 := hB.2.2.1
  have h2 : σ 203 0 ≤ 5 := hB.2.2.2
  have wb := wh_bd w1 w2 h1 h2
  have hC : BC (σ 201) := hG.2.1
  have hs : σ 204 0 = 0 ∨ σ 204 0 = 1 := hG.2.2.1
  have h18 : (MLs (σ 201) (σ 202 0) (σ 203 0) (σ 204 0)).length ≤ 18 := MLs18 hG
  refine x_enter (by decide) (Nat.le_of_ble_eq_true rfl) ?_
  intro pp ee ss mm args below meth cq C hr ls hl hM
  have hl : lv_has ls 6 [(0, .ref (ad 100)), (1, .int (iI pn)), (2, .int (iI dn))] := hl
  refine lv_aload_n C.1 C.2.1 dX12_valueNow_0 rfl (lv_at hl 0 rfl) ?_
  refine x_ci (x_runV (As := []) (rest := []) C (by omega) cw_X12_104 (c_X12_isLostNow l D ad G ids hJ σ hG) hM (hJ 100 (by decide) (by decide)) (cx_100 ad G _) rfl rfl rfl rfl (Nat.le_of_ble_eq_true rfl) hl.1 dX12_valueNow_1) hM (fun r1 s1 H1 lc1 hp hM => ?_)
  obtain ⟨hbs1, rfl⟩ := hp
  obtain ⟨ts1, ks1⟩ := ite01 hbs1
  refine x_if_eq C ⟨by omega, by omega⟩ (tgt := 13) dX12_valueNow_4 (by decide) (fun c4 => ?_) (fun c4 => ?_)
  · have hne : MLs (σ 201) (cfg (mw σ) 2) (cfg (mw σ) 3) (σ 204 0) ≠ [] := fun q => absurd (ks1.mpr q) (by omega)
    refine lv_iload_n C.1 C.2.1 dX12_valueNow_13 rfl (lv_at hl 2 rfl) ?_
    refine x_if_ne C ⟨by omega, by omega⟩ (tgt := 24) dX12_valueNow_14 (by decide) (fun c14 => ?_) (fun c14 => ?_)
    · obtain ⟨d1, hd1⟩ : ∃ d1, d = d1 + 1 := ⟨d - 1, by omega⟩
      have hQ : vv (cfg (mw σ)) d (σ 201) (σ 204 0) = vvl (vv (cfg (mw σ)) d1) (σ 201) (σ 204 0) (MLs (σ 201) (σ 202 0) (σ 203 0) (σ 204 0)) (-100000) := by
        subst hd1
        rw [vv, if_neg hne]
        rfl
      refine lv_ldc (v := iI (-100000)) C.1 C.2.1 C.2.2.2.1 (C.2.2.2.2.1 _ wk_X12_144) dX12_valueNow_24 ?_
      refine lv_istore_n (lv' := [(3, .int (iI (-100000))), (0, .ref (ad 100)), (1, .int (iI pn)), (2, .int (iI dn))]) C.1 C.2.1 dX12_valueNow_26 rfl hl (by decide) rfl (fun ls hl => ?_)
      refine lv_aload_n C.1 C.2.1 dX12_valueNow_27 rfl (lv_at hl 1 rfl) ?_
      refine lv_iload_n C.1 C.2.1 dX12_valueNow_28 rfl (lv_at hl 2 rfl) ?_
      refine x_ci (x_runV (As := [.int (iI pn)]) (rest := []) C (by omega) cw_X12_123 (c_X12_list l D ad G ids hJ σ p pn hpn (by omega) hG) hM (hJ 100 (by decide) (by decide)) (cx_100 ad G _) rfl rfl rfl rfl (Nat.le_of_ble_eq_true rfl) hl.1 dX12_valueNow_29) hM (fun r29 s29 H1 lc1 hp hM => ?_)
      obtain ⟨rfl, hLs29, hfs29⟩ := hp
      refine lv_istore (lv' := [(4, .int (iI ((MLs (σ 201) (σ 202 0) (σ 203 0) (σ 204 0)).length : Int))), (3, .int (iI (-100000))), (0, .ref (ad 100)), (1, .int (iI pn)), (2, .int (iI dn))]) C.1 C.2.1 dX12_valueNow_32 hl (by decide) rfl (fun ls hl => ?_)
      refine lv_iconst (v := iI 0) C.1 C.2.1 dX12_valueNow_34 (by decide) ?_
      refine lv_istore (lv' := [(5, .int (iI 0)), (4, .int (iI ((MLs (σ 201) (σ 202 0) (σ 203 0) (σ 204 0)).length : Int))), (3, .int (iI (-100000))), (0, .ref (ad 100)), (1, .int (iI pn)), (2, .int (iI dn))]) C.1 C.2.1 dX12_valueNow_35 hl (by decide) rfl (fun ls hl => ?_)
      have L37 : ∀ (fu : Nat) (x : Int) (b : Int) (s1 : Sg) (H1 : Heap) (lc1 : List Loc) (ls1 : Array Slot), (0 ≤ x ∧ x ≤ (MLs (σ 201) (σ 202 0) (σ 203 0) (σ 204 0)).length) → (-100000 ≤ b ∧ b ≤ 10000) → (RWL s1 (240 + p) (MLs (σ 201) (σ 202 0) (σ 203 0) (σ 204 0))) → (frL p σ s1) → (vvl (vv (cfg (mw σ)) d1) (σ 201) (σ 204 0) ((MLs (σ 201) (σ 202 0) (σ 203 0) (σ 204 0)).drop x.toNat) b = vv (cfg (mw σ)) d (σ 201) (σ 204 0)) → (20 - x).toNat < fu → XI D ad G ids (AN ad ids ss.heap.size) ss.heap H1 lc1 s1 → lv_has ls1 6 [(5, .int (iI x)), (4, .int (iI ((MLs (σ 201) (σ 202 0) (σ 203 0) (σ 204 0)).length : Int))), (3, .int (iI b)), (0, .ref (ad 100)), (1, .int (iI pn)), (2, .int (iI dn))] → W pp l ee (rmh (12 + 2 * d)) ss mm args below meth cq H1 lc1 0 0 (MQ below (QI D ad G ids (vvPost p d σ) ss.heap.size) args ss 0 0 (AN ad ids ss.heap.size)) (F0 mm 37 ls1 []) := by
        intro fu
        induction fu with
        | zero => intro x b s1 H1 lc1 ls1 x0 hb hR hfr hq hfu; exact absurd hfu (Nat.not_lt_zero _)
        | succ fu ih37 =>
          intro x b s1 H1 lc1 ls1 x0 hb hR hfr hq hfu hM hl
          refine lv_iload C.1 C.2.1 dX12_valueNow_37 (lv_at hl 0 rfl) ?_
          refine lv_iload C.1 C.2.1 dX12_valueNow_39 (lv_at hl 1 rfl) ?_
          refine x_icmp_ge C ⟨by omega, by omega⟩ ⟨by omega, by omega⟩ (tgt := 66) dX12_valueNow_41 (by decide) (fun c41 => ?_) (fun c41 => ?_)
          · refine lv_iload_n C.1 C.2.1 dX12_valueNow_66 rfl (lv_at hl 2 rfl) ?_
            refine x_iret C hr hM ?_ dX12_valueNow_67
            exact ⟨by
              rw [drop_e (L := (MLs (σ 201) (σ 202 0) (σ 203 0) (σ 204 0))) (by omega) (by omega)] at hq
              exact hq.symm, hfr⟩
          · have e1 := hfr 201 (by omega)
            have e2 := hfr 202 (by omega)
            have e3 := hfr 203 (by omega)
            have e4 := hfr 204 (by omega)
            have hGs : GI (mw s1) := GIm_of hG (fun r _ _ => hfr r (by omega))
            have hcs : cfg (mw s1) = cfg (mw σ) := mw_cfg (fun r _ => hfr (200 + r) (by omega))
            refine lv_iload_n C.1 C.2.1 dX12_valueNow_44 rfl (lv_at hl 2 rfl) ?_
            refine lv_aload_n C.1 C.2.1 dX12_valueNow_45 rfl (lv_at hl 3 rfl) ?_
            refine lv_iload_n C.1 C.2.1 dX12_valueNow_46 rfl (lv_at hl 4 rfl) ?_
            refine lv_iload C.1 C.2.1 dX12_valueNow_47 (lv_at hl 0 rfl) ?_
            refine lv_iload_n C.1 C.2.1 dX12_valueNow_49 rfl (lv_at hl 5 rfl) ?_
            refine lv_iconst (v := iI 1) C.1 C.2.1 dX12_valueNow_50 (by decide) ?_
            refine x_isub C dX12_valueNow_51 ?_
            refine x_ci (x_runV (As := [.int (iI pn), .int (iI x), .int (iI (dn - 1))]) (rest := [.int (iI b)]) C (by omega) cw_X12_145 (c_X12_valueBehind l D ad G ids hJ s1 p d1 pn x (dn - 1) hpn (by omega) (by omega) (hrec d1 hd1) hGs (by rw [e1, e2, e3, e4]; exact hR) (by rw [e1, e2, e3, e4]; omega)) hM (hJ 100 (by decide) (by decide)) (cx_100 ad G _) rfl rfl rfl rfl (Nat.le_of_ble_eq_true rfl) hl.1 dX12_valueNow_52) hM (fun r52 s52 H1 lc1 hp hM => ?_)
            obtain ⟨hzs52, hfs52⟩ := hp
            rw [e2, e3] at hzs52
            have hfs52 : frL (p + 1) s1 s52 := hfs52
            rw [hcs, e1, e4] at hzs52
            have hqb := vv_bd hG.2.2.2.2 d1 (mvF (σ 201) ((MLs (σ 201) (σ 202 0) (σ 203 0) (σ 204 0)).getD x.toNat (-1))) (1 - σ 204 0) (by omega)
            have hqr : -10000 ≤ r52 ∧ r52 ≤ 10000 := by omega
            refine x_ineg C dX12_valueNow_55 ?_
            refine x_max C (by omega) hl.1 wM_X12_137 ⟨by omega, by omega⟩ ⟨by omega, by omega⟩ (Nat.le_of_ble_eq_true rfl) dX12_valueNow_56 ?_
            refine lv_istore_n (lv' := [(3, .int (iI (max b (-r52)))), (5, .int (iI x)), (4, .int (iI ((MLs (σ 201) (σ 202 0) (σ 203 0) (σ 204 0)).length : Int))), (0, .ref (ad 100)), (1, .int (iI pn)), (2, .int (iI dn))]) C.1 C.2.1 dX12_valueNow_59 rfl hl (by decide) rfl (fun ls hl => ?_)
            refine x_iinc (lv1 := [(5, .int (iI (x + 1))), (3, .int (iI (max b (-r52)))), (4, .int (iI ((MLs (σ 201) (σ 202 0) (σ 203 0) (σ 204 0)).length : Int))), (0, .ref (ad 100)), (1, .int (iI pn)), (2, .int (iI dn))]) C dX12_valueNow_60 hl (k := 1) rfl (by decide) rfl (fun ls hl => ?_)
            refine lv_goto (tgt := 37) C.1 C.2.1 dX12_valueNow_63 (by decide) ?_
            exact ih37 (x + 1) (max b (-r52)) s52 _ _ _ (by omega) (by omega) (hR.of (hfs52 _ (by omega))) (fun r hr => (hfs52 r (by omega)).trans (hfr r hr)) (by rw [← hq, vvl_drop (L := (MLs (σ 201) (σ 202 0) (σ 203 0) (σ 204 0))) (x := x) (b := b) (by omega) (by omega), ← hzs52]) (by omega) hM (lv_sub hl [0, 2, 1, 3, 4, 5] rfl)
      exact L37 _ 0 (-100000) s29 _ _ _ (by omega) (by omega) hLs29 (fun r hr => hfs29 r (by omega)) hQ.symm (Nat.lt_succ_self _) hM (lv_sub hl [0, 1, 2, 3, 4, 5] rfl)
    · refine lv_aload_n C.1 C.2.1 dX12_valueNow_17 rfl (lv_at hl 0 rfl) ?_
      refine lv_iload_n C.1 C.2.1 dX12_valueNow_18 rfl (lv_at hl 1 rfl) ?_
      refine lv_iconst (v := iI 4) C.1 C.2.1 dX12_valueNow_19 (by decide) ?_
      refine x_ci (x_runV (As := [.int (iI pn), .int (iI 4)]) (rest := []) C (by omega) cw_X12_133 (quiet_all l D ad G ids hJ 4 σ p pn 4 hpn rfl (by omega) hG) hM (hJ 100 (by decide) (by decide)) (cx_100 ad G _) rfl rfl rfl rfl (Nat.le_of_ble_eq_true rfl) hl.1 dX12_valueNow_20) hM (fun r20 s20 H1 lc1 hp hM => ?_)
      obtain ⟨hzs20, hfs20⟩ := hp
      exact x_iret C hr hM ⟨by rw [show d = 0 by omega]; exact hzs20, fun r hr => hfs20 r (by omega)⟩ dX12_valueNow_23
  · refine lv_sipush (v := iI (-1000)) C.1 C.2.1 dX12_valueNow_7 (by decide) ?_
    refine lv_iload_n C.1 C.2.1 dX12_valueNow_10 rfl (lv_at hl 2 rfl) ?_
    refine x_isub C dX12_valueNow_11 ?_
    refine x_iret C hr hM ?_ dX12_valueNow_12
    exact by
      refine ⟨?_, fun r _ => rfl⟩
      have hnn : MLs (σ 201) (cfg (mw σ) 2) (cfg (mw σ) 3) (σ 204 0) = [] := ks1.mp (by omega)
      cases d with
      | zero => rw [vv, qv_nil hnn]; omega
      | succ d => rw [vv, if_pos hnn]; omega
theorem value_all (l : Launch) (D : va_G) (ad : Nat → Nat) (G : Nat → Nat) (ids : List Nat) (hJ : ∀ k, 100 ≤ k → k < 233 → k ∈ ids) : ∀ d : Nat, VNc l D ad G ids d := by
  intro d
  induction d with
  | zero => intro σ p pn dn hpn htn hpt hG; exact c_X12_valueNow l D ad G ids hJ σ p 0 pn dn hpn htn hpt (fun t1 h => by omega) hG
  | succ d ih => intro σ p pn dn hpn htn hpt hG; exact c_X12_valueNow l D ad G ids hJ σ p (d + 1) pn dn hpn htn hpt (fun t1 h => by
      have e : t1 = d := by omega
      subst e; exact ih) hG
set_option maxRecDepth 100000 in
set_option maxHeartbeats 4000000 in
theorem c_X12_waysNow (l : Launch) (D : va_G) (ad : Nat → Nat) (G : Nat → Nat) (ids : List Nat) (hJ : ∀ k, 100 ≤ k → k < 233 → k ∈ ids) (σ : Sg) (p d : Nat) (pn dn : Int) (hpn : pn = (p : Int)) (htn : dn = (d : Int)) (hpt : p + d ≤ 12) (hd10 : d ≤ 10) (hrec : ∀ d1, d = d1 + 1 → WNc l D ad G ids d1) (hG : GI (mw σ)) : MET l yX12_waysNow cX12_waysNow 8 (some .int) (7 + d) [.ref (ad 100), .int (iI pn), .int (iI dn)] D ad G ids σ (QI D ad G ids (waPost p d σ)) := by
  have hB : BG (mw σ) := hG.1
  have w1 : 3 ≤ σ 202 0 := hB.1
  have w2 : σ 202 0 ≤ 5 := hB.2.1
  have h1 : 3 ≤ σ 203 0 := hB.2.2.1
  have h2 : σ 203 0 ≤ 5 := hB.2.2.2
  have wb := wh_bd w1 w2 h1 h2
  have hC : BC (σ 201) := hG.2.1
  have hs : σ 204 0 = 0 ∨ σ 204 0 = 1 := hG.2.2.1
  have h18 : (MLs (σ 201) (σ 202 0) (σ 203 0) (σ 204 0)).length ≤ 18 := MLs18 hG
  refine x_enter (by decide) (Nat.le_of_ble_eq_true rfl) ?_
  intro pp ee ss mm args below meth cq C hr ls hl hM
  have hl : lv_has ls 8 [(0, .ref (ad 100)), (1, .int (iI pn)), (2, .int (iI dn))] := hl
  refine lv_iload_n C.1 C.2.1 dX12_waysNow_0 rfl (lv_at hl 2 rfl) ?_
  refine x_if_ne C ⟨by omega, by omega⟩ (tgt := 6) dX12_waysNow_1 (by decide) (fun c1 => ?_) (fun c1 => ?_)
  · obtain ⟨d1, hd1⟩ : ∃ d1, d = d1 + 1 := ⟨d - 1, by omega⟩
    have hQ : waysF (cfg (mw σ)) d (σ 201) (σ 204 0) = (MLs (σ 201) (σ 202 0) (σ 203 0) (σ 204 0)).foldl (fun a v => a + waysF (cfg (mw σ)) d1 (mvF (σ 201) v) (1 - σ 204 0)) 0 := by
      subst hd1
      rfl
    refine lv_iconst (v := iI 0) C.1 C.2.1 dX12_waysNow_6 (by decide) ?_
    refine lv_istore_n (lv' := [(3, .int (iI 0)), (0, .ref (ad 100)), (1, .int (iI pn)), (2, .int (iI dn))]) C.1 C.2.1 dX12_waysNow_7 rfl hl (by decide) rfl (fun ls hl => ?_)
    refine lv_aload_n C.1 C.2.1 dX12_waysNow_8 rfl (lv_at hl 1 rfl) ?_
    refine lv_iload_n C.1 C.2.1 dX12_waysNow_9 rfl (lv_at hl 2 rfl) ?_
    refine x_ci (x_runV (As := [.int (iI pn)]) (rest := []) C (by omega) cw_X12_123 (c_X12_list l D ad G ids hJ σ p pn hpn (by omega) hG) hM (hJ 100 (by decide) (by decide)) (cx_100 ad G _) rfl rfl rfl rfl (Nat.le_of_ble_eq_true rfl) hl.1 dX12_waysNow_10) hM (fun r10 s10 H1 lc1 hp hM => ?_)
    obtain ⟨rfl, hLs10, hfs10⟩ := hp
    refine lv_istore (lv' := [(4, .int (iI ((MLs (σ 201) (σ 202 0) (σ 203 0) (σ 204 0)).length : Int))), (3, .int (iI 0)), (0, .ref (ad 100)), (1, .int (iI pn)), (2, .int (iI dn))]) C.1 C.2.1 dX12_waysNow_13 hl (by decide) rfl (fun ls hl => ?_)
    refine lv_iconst (v := iI 0) C.1 C.2.1 dX12_waysNow_15 (by decide) ?_
    refine lv_istore (lv' := [(5, .int (iI 0)), (4, .int (iI ((MLs (σ 201) (σ 202 0) (σ 203 0) (σ 204 0)).length : Int))), (3, .int (iI 0)), (0, .ref (ad 100)), (1, .int (iI pn)), (2, .int (iI dn))]) C.1 C.2.1 dX12_waysNow_16 hl (by decide) rfl (fun ls hl => ?_)
    have L18 : ∀ (fu : Nat) (x : Int) (n : Int) (s1 : Sg) (H1 : Heap) (lc1 : List Loc) (ls1 : Array Slot), (0 ≤ x ∧ x ≤ (MLs (σ 201) (σ 202 0) (σ 203 0) (σ 204 0)).length) → (RWL s1 (240 + p) (MLs (σ 201) (σ 202 0) (σ 203 0) (σ 204 0))) → (frL p σ s1) → (((MLs (σ 201) (σ 202 0) (σ 203 0) (σ 204 0)).drop x.toNat).foldl (fun a v => a + waysF (cfg (mw σ)) d1 (mvF (σ 201) v) (1 - σ 204 0)) n = waysF (cfg (mw σ)) d (σ 201) (σ 204 0)) → (20 - x).toNat < fu → XI D ad G ids (AN ad ids ss.heap.size) ss.heap H1 lc1 s1 → lv_has ls1 8 [(5, .int (iI x)), (4, .int (iI ((MLs (σ 201) (σ 202 0) (σ 203 0) (σ 204 0)).length : Int))), (3, .int (iI n)), (0, .ref (ad 100)), (1, .int (iI pn)), (2, .int (iI dn))] → W pp l ee (rmh (7 + d)) ss mm args below meth cq H1 lc1 0 0 (MQ below (QI D ad G ids (waPost p d σ) ss.heap.size) args ss 0 0 (AN ad ids ss.heap.size)) (F0 mm 18 ls1 []) := by
      intro fu
      induction fu with
      | zero => intro x n s1 H1 lc1 ls1 x0 hR hfr hq hfu; exact absurd hfu (Nat.not_lt_zero _)
      | succ fu ih18 =>
        intro x n s1 H1 lc1 ls1 x0 hR hfr hq hfu hM hl
        refine lv_iload C.1 C.2.1 dX12_waysNow_18 (lv_at hl 0 rfl) ?_
        refine lv_iload C.1 C.2.1 dX12_waysNow_20 (lv_at hl 1 rfl) ?_
        refine x_icmp_ge C ⟨by omega, by omega⟩ ⟨by omega, by omega⟩ (tgt := 71) dX12_waysNow_22 (by decide) (fun c22 => ?_) (fun c22 => ?_)
        · refine lv_iload_n C.1 C.2.1 dX12_waysNow_71 rfl (lv_at hl 2 rfl) ?_
          refine x_iret C hr hM ?_ dX12_waysNow_72
          exact ⟨by
            rw [drop_e (L := (MLs (σ 201) (σ 202 0) (σ 203 0) (σ 204 0))) (by omega) (by omega)] at hq
            exact hq.symm, hfr⟩
        · refine lv_aload_n C.1 C.2.1 dX12_waysNow_25 rfl (lv_at hl 3 rfl) ?_
          refine g_X12_10 C hM (hJ 100 (by decide) (by decide)) wf_X12_29 dX12_waysNow_26 ?_
          have e1 := hfr 201 (by omega)
          have e2 := hfr 202 (by omega)
          have e3 := hfr 203 (by omega)
          have e4 := hfr 204 (by omega)
          have hGs : GI (mw s1) := GIm_of hG (fun r _ _ => hfr r (by omega))
          have hcs : cfg (mw s1) = cfg (mw σ) := mw_cfg (fun r _ => hfr (200 + r) (by omega))
          refine lv_iload_n C.1 C.2.1 dX12_waysNow_29 rfl (lv_at hl 4 rfl) ?_
          rw [hpn]
          refine aa_listed C hM (hJ 103 (by decide) (by decide)) (i := p) (by omega) dX12_waysNow_30 ?_
          refine lv_iload C.1 C.2.1 dX12_waysNow_31 (lv_at hl 0 rfl) ?_
          refine al_li C hM (by omega) (hJ _ (by omega) (by omega)) (by omega) (by omega) dX12_waysNow_33 ?_
          rw [hR.at (by omega) (by omega)]
          have hmv : MV (mw σ) ((MLs (σ 201) (σ 202 0) (σ 203 0) (σ 204 0)).getD x.toNat (-1)) := MVm (by omega) (by omega)
          have hok := hmv.ok hG
          have hok : (0 ≤ ((MLs (σ 201) (σ 202 0) (σ 203 0) (σ 204 0)).getD x.toNat (-1)) ∧ ((MLs (σ 201) (σ 202 0) (σ 203 0) (σ 204 0)).getD x.toNat (-1)) / 100 < σ 202 0 * σ 203 0 ∧ ((MLs (σ 201) (σ 202 0) (σ 203 0) (σ 204 0)).getD x.toNat (-1)) % 100 < σ 202 0 * σ 203 0) ∧ ((MLs (σ 201) (σ 202 0) (σ 203 0) (σ 204 0)).getD x.toNat (-1)) / 100 ≠ ((MLs (σ 201) (σ 202 0) (σ 203 0) (σ 204 0)).getD x.toNat (-1)) % 100 ∧ ((MLs (σ 201) (σ 202 0) (σ 203 0) (σ 204 0)).getD x.toNat (-1)) < 2500 := hok
          have hws : s1 202 0 * s1 203 0 = σ 202 0 * σ 203 0 := by rw [e2, e3]
          refine lv_istore (lv' := [(6, .int (iI ((MLs (σ 201) (σ 202 0) (σ 203 0) (σ 204 0)).getD x.toNat (-1)))), (5, .int (iI x)), (4, .int (iI ((MLs (σ 201) (σ 202 0) (σ 203 0) (σ 204 0)).length : Int))), (3, .int (iI n)), (0, .ref (ad 100)), (1, .int (iI pn)), (2, .int (iI dn))]) C.1 C.2.1 dX12_waysNow_34 hl (by decide) rfl (fun ls hl => ?_)
          refine lv_aload_n C.1 C.2.1 dX12_waysNow_36 rfl (lv_at hl 4 rfl) ?_
          refine lv_iload C.1 C.2.1 dX12_waysNow_37 (lv_at hl 0 rfl) ?_
          refine x_ci (x_runV (As := [.int (iI ((MLs (σ 201) (σ 202 0) (σ 203 0) (σ 204 0)).getD x.toNat (-1)))]) (rest := []) C (by omega) cw_X12_130 (c_X12_make l D ad G ids hJ s1 ((MLs (σ 201) (σ 202 0) (σ 203 0) (σ 204 0)).getD x.toNat (-1)) hGs.1 (by omega)) hM (hJ 100 (by decide) (by decide)) (cx_100 ad G _) rfl rfl rfl rfl (Nat.le_of_ble_eq_true rfl) hl.1 dX12_waysNow_39) hM (fun r39 s39 H1 lc1 hp hM => ?_)
          obtain ⟨rfl, rfl⟩ := hp
          have hmv1 : MV (mw s1) ((MLs (σ 201) (σ 202 0) (σ 203 0) (σ 204 0)).getD x.toNat (-1)) := by
            show ((MLs (σ 201) (σ 202 0) (σ 203 0) (σ 204 0)).getD x.toNat (-1)) ∈ MLs (s1 201) (s1 202 0) (s1 203 0) (s1 204 0)
            rw [e1, e2, e3, e4]; exact hmv
          have hG2 : GI (mw (mvM s1 ((MLs (σ 201) (σ 202 0) (σ 203 0) (σ 204 0)).getD x.toNat (-1)))) := by rw [mw_mv]; exact hGs.mv hmv1
          refine lv_istore (lv' := [(7, .int (iI (s1 201 (((MLs (σ 201) (σ 202 0) (σ 203 0) (σ 204 0)).getD x.toNat (-1)) % 100)))), (6, .int (iI ((MLs (σ 201) (σ 202 0) (σ 203 0) (σ 204 0)).getD x.toNat (-1)))), (5, .int (iI x)), (4, .int (iI ((MLs (σ 201) (σ 202 0) (σ 203 0) (σ 204 0)).length : Int))), (3, .int (iI n)), (0, .ref (ad 100)), (1, .int (iI pn)), (2, .int (iI dn))]) C.1 C.2.1 dX12_waysNow_42 hl (by decide) rfl (fun ls hl => ?_)
          refine lv_iload_n C.1 C.2.1 dX12_waysNow_44 rfl (lv_at hl 4 rfl) ?_
          refine lv_aload_n C.1 C.2.1 dX12_waysNow_45 rfl (lv_at hl 5 rfl) ?_
          refine lv_iload_n C.1 C.2.1 dX12_waysNow_46 rfl (lv_at hl 6 rfl) ?_
          refine lv_iconst (v := iI 1) C.1 C.2.1 dX12_waysNow_47 (by decide) ?_
          refine x_iadd C dX12_waysNow_48 ?_
          refine lv_iload_n C.1 C.2.1 dX12_waysNow_49 rfl (lv_at hl 7 rfl) ?_
          refine lv_iconst (v := iI 1) C.1 C.2.1 dX12_waysNow_50 (by decide) ?_
          refine x_isub C dX12_waysNow_51 ?_
          refine x_ci (x_runV (As := [.int (iI (pn + 1)), .int (iI (dn - 1))]) (rest := [.int (iI n)]) C (by omega) cw_X12_151 ((hrec d1 hd1) (mvM s1 ((MLs (σ 201) (σ 202 0) (σ 203 0) (σ 204 0)).getD x.toNat (-1))) (p + 1) (pn + 1) (dn - 1) (by omega) (by omega) (by omega) hG2) hM (hJ 100 (by decide) (by decide)) (cx_100 ad G _) rfl rfl rfl rfl (Nat.le_of_ble_eq_true rfl) hl.1 dX12_waysNow_52) hM (fun r52 s52 H1 lc1 hp hM => ?_)
          obtain ⟨hzs52, hfs52⟩ := hp
          have hzs52 : waysF (cfg (mw (mvM s1 ((MLs (σ 201) (σ 202 0) (σ 203 0) (σ 204 0)).getD x.toNat (-1))))) d1 (mw (mvM s1 ((MLs (σ 201) (σ 202 0) (σ 203 0) (σ 204 0)).getD x.toNat (-1))) 1) (mw (mvM s1 ((MLs (σ 201) (σ 202 0) (σ 203 0) (σ 204 0)).getD x.toNat (-1))) 4 0) = r52 := hzs52
          rw [mw_mv, mvG_cfg, mvG_1, mvG_4, ups_eq, hcs] at hzs52
          have hzs52 : waysF (cfg (mw σ)) d1 (mvF (s1 201) ((MLs (σ 201) (σ 202 0) (σ 203 0) (σ 204 0)).getD x.toNat (-1))) (1 - s1 204 0) = r52 := hzs52
          rw [e1, e4] at hzs52
          have hu := unM_mv (σ := s1) (b := s52) hok.2.1 ((hfs52 201 (by omega)).trans (mvM_1 s1 ((MLs (σ 201) (σ 202 0) (σ 203 0) (σ 204 0)).getD x.toNat (-1)))) ((hfs52 204 (by omega)).trans (mvM_4 s1 ((MLs (σ 201) (σ 202 0) (σ 203 0) (σ 204 0)).getD x.toNat (-1))))
          have hf3 : ∀ r : Nat, (r < 240 + (p + 1) ∨ 252 ≤ r) → (unM s52 ((MLs (σ 201) (σ 202 0) (σ 203 0) (σ 204 0)).getD x.toNat (-1)) (s1 201 (((MLs (σ 201) (σ 202 0) (σ 203 0) (σ 204 0)).getD x.toNat (-1)) % 100))) r = s1 r := fun r hr => by
            by_cases q1 : r = 201
            · rw [q1]; exact hu.1
            by_cases q4 : r = 204
            · rw [q4]; exact hu.2.1
            rw [hu.2.2 r q1 q4, hfs52 r hr, mvM_o s1 ((MLs (σ 201) (σ 202 0) (σ 203 0) (σ 204 0)).getD x.toNat (-1)) q1 q4]
          have hGb : BG (mw s52) := (BG_of (a := mw s1) (b := mw s52) ((hfs52 202 (by omega)).trans (mvM_o s1 ((MLs (σ 201) (σ 202 0) (σ 203 0) (σ 204 0)).getD x.toNat (-1)) (by decide) (by decide))) ((hfs52 203 (by omega)).trans (mvM_o s1 ((MLs (σ 201) (σ 202 0) (σ 203 0) (σ 204 0)).getD x.toNat (-1)) (by decide) (by decide)))).mpr hGs.1
          have hwb2 : s52 202 0 * s52 203 0 = σ 202 0 * σ 203 0 := by rw [hfs52 202 (by omega), hfs52 203 (by omega), mvM_o s1 _ (by decide) (by decide), mvM_o s1 _ (by decide) (by decide), e2, e3]
          refine x_iadd C dX12_waysNow_55 ?_
          refine lv_istore_n (lv' := [(3, .int (iI (n + r52))), (7, .int (iI (s1 201 (((MLs (σ 201) (σ 202 0) (σ 203 0) (σ 204 0)).getD x.toNat (-1)) % 100)))), (6, .int (iI ((MLs (σ 201) (σ 202 0) (σ 203 0) (σ 204 0)).getD x.toNat (-1)))), (5, .int (iI x)), (4, .int (iI ((MLs (σ 201) (σ 202 0) (σ 203 0) (σ 204 0)).length : Int))), (0, .ref (ad 100)), (1, .int (iI pn)), (2, .int (iI dn))]) C.1 C.2.1 dX12_waysNow_56 rfl hl (by decide) rfl (fun ls hl => ?_)
          refine lv_aload_n C.1 C.2.1 dX12_waysNow_57 rfl (lv_at hl 5 rfl) ?_
          refine lv_iload C.1 C.2.1 dX12_waysNow_58 (lv_at hl 2 rfl) ?_
          refine lv_iload C.1 C.2.1 dX12_waysNow_60 (lv_at hl 1 rfl) ?_
          refine x_cv (x_runV (As := [.int (iI ((MLs (σ 201) (σ 202 0) (σ 203 0) (σ 204 0)).getD x.toNat (-1))), .int (iI (s1 201 (((MLs (σ 201) (σ 202 0) (σ 203 0) (σ 204 0)).getD x.toNat (-1)) % 100)))]) (rest := []) C (by omega) cw_X12_140 (c_X12_unmake l D ad G ids hJ s52 ((MLs (σ 201) (σ 202 0) (σ 203 0) (σ 204 0)).getD x.toNat (-1)) (s1 201 (((MLs (σ 201) (σ 202 0) (σ 203 0) (σ 204 0)).getD x.toNat (-1)) % 100)) hGb (by omega)) hM (hJ 100 (by decide) (by decide)) (cx_100 ad G _) rfl rfl rfl rfl (Nat.le_of_ble_eq_true rfl) hl.1 dX12_waysNow_62) hM (fun s62 H1 lc1 hp hM => ?_)
          obtain rfl := hp
          refine x_iinc (lv1 := [(5, .int (iI (x + 1))), (3, .int (iI (n + r52))), (7, .int (iI (s1 201 (((MLs (σ 201) (σ 202 0) (σ 203 0) (σ 204 0)).getD x.toNat (-1)) % 100)))), (6, .int (iI ((MLs (σ 201) (σ 202 0) (σ 203 0) (σ 204 0)).getD x.toNat (-1)))), (4, .int (iI ((MLs (σ 201) (σ 202 0) (σ 203 0) (σ 204 0)).length : Int))), (0, .ref (ad 100)), (1, .int (iI pn)), (2, .int (iI dn))]) C dX12_waysNow_65 hl (k := 3) rfl (by decide) rfl (fun ls hl => ?_)
          refine lv_goto (tgt := 18) C.1 C.2.1 dX12_waysNow_68 (by decide) ?_
          exact ih18 (x + 1) (n + r52) (unM s52 ((MLs (σ 201) (σ 202 0) (σ 203 0) (σ 204 0)).getD x.toNat (-1)) (s1 201 (((MLs (σ 201) (σ 202 0) (σ 203 0) (σ 204 0)).getD x.toNat (-1)) % 100))) _ _ _ (by omega) (hR.of (hf3 _ (by omega))) (fun r hr => (hf3 r (by omega)).trans (hfr r hr)) (by rw [← hq, drop_s (L := (MLs (σ 201) (σ 202 0) (σ 203 0) (σ 204 0))) (i := x) (by omega) (by omega), List.foldl_cons, hzs52]) (by omega) hM (lv_sub hl [0, 4, 1, 5, 6, 7] rfl)
    exact L18 _ 0 0 s10 _ _ _ (by omega) hLs10 (fun r hr => hfs10 r (by omega)) hQ.symm (Nat.lt_succ_self _) hM (lv_sub hl [0, 1, 2, 3, 4, 5] rfl)
  · refine lv_iconst (v := iI 1) C.1 C.2.1 dX12_waysNow_4 (by decide) ?_
    exact x_iret C hr hM ⟨by rw [show d = 0 by omega]; rfl, fun r _ => rfl⟩ dX12_waysNow_5
theorem ways_all (l : Launch) (D : va_G) (ad : Nat → Nat) (G : Nat → Nat) (ids : List Nat) (hJ : ∀ k, 100 ≤ k → k < 233 → k ∈ ids) : ∀ d : Nat, d ≤ 10 → WNc l D ad G ids d := by
  intro d
  induction d with
  | zero => intro hd σ p pn dn hpn htn hpt hG; exact c_X12_waysNow l D ad G ids hJ σ p 0 pn dn hpn htn hpt hd (fun t1 h => by omega) hG
  | succ d ih => intro hd σ p pn dn hpn htn hpt hG; exact c_X12_waysNow l D ad G ids hJ σ p (d + 1) pn dn hpn htn hpt hd (fun t1 h => by
      have e : t1 = d := by omega
      subst e; exact ih (by omega)) hG
