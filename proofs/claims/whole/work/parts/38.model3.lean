theorem qlp_drop {rec : Fn → Int → Int → Int → Int × Int} {c : Fn} {sd lo hi b n x : Int} {L : List Int} (h0 : 0 ≤ x) (h1 : x < L.length) (hb : b < hi) : qlp rec c sd lo hi (L.drop x.toNat) b n = if c (L.getD x.toNat (-1) % 100) ≠ 0 then qlp rec c sd lo hi (L.drop (x + 1).toNat) (max b (-(rec (mvF c (L.getD x.toNat (-1))) (1 - sd) (-hi) (-(max lo b))).1)) (n + (rec (mvF c (L.getD x.toNat (-1))) (1 - sd) (-hi) (-(max lo b))).2) else qlp rec c sd lo hi (L.drop (x + 1).toNat) b n := by
  rw [drop_s h0 h1, qlp, if_pos hb]
abbrev qlPost (p t : Nat) (σ : Sg) (lo up : Int) : Int → Sg → Prop := fun z σ' => (qb (cfg (mw σ)) t (σ 201) (σ 204 0) lo up).1 = z ∧ σ' 221 = ups (σ 221) 0 (σ 221 0 + (qb (cfg (mw σ)) t (σ 201) (σ 204 0) lo up).2 - 1) ∧ ∀ r : Nat, (r < 240 + p ∨ 252 ≤ r) → r ≠ 221 → σ' r = σ r
def QLc (l : Launch) (D : va_G) (ad : Nat → Nat) (G : Nat → Nat) (ids : List Nat) (t : Nat) : Prop := ∀ (σ : Sg) (p : Nat) (pn tn lo up : Int), pn = (p : Int) → tn = (t : Int) → p + t ≤ 12 → GI (mw σ) → MLs (σ 201) (σ 202 0) (σ 203 0) (σ 204 0) ≠ [] → (-10000 ≤ lo ∧ lo ≤ 10000) → (-10000 ≤ up ∧ up ≤ 10000) →
  MET l yX12_quietly cX12_quietly 10 (some .int) (7 + t) [.ref (ad 100), .int (iI pn), .int (iI tn), .int (iI lo), .int (iI up)] D ad G ids σ (QI D ad G ids (qlPost p t σ lo up))
set_option maxRecDepth 100000 in
set_option maxHeartbeats 4000000 in
theorem c_X12_quietly (l : Launch) (D : va_G) (ad : Nat → Nat) (G : Nat → Nat) (ids : List Nat) (hJ : ∀ k, 100 ≤ k → k < 233 → k ∈ ids) (σ : Sg) (p t : Nat) (pn tn lo up : Int) (hpn : pn = (p : Int)) (htn : tn = (t : Int)) (hpt : p + t ≤ 12) (hrec : ∀ t1, t = t1 + 1 → QLc l D ad G ids t1) (hG : GI (mw σ)) (hne0 : MLs (σ 201) (σ 202 0) (σ 203 0) (σ 204 0) ≠ []) (hlo : -10000 ≤ lo ∧ lo ≤ 10000) (hup : -10000 ≤ up ∧ up ≤ 10000) : MET l yX12_quietly cX12_quietly 10 (some .int) (7 + t) [.ref (ad 100), .int (iI pn), .int (iI tn), .int (iI lo), .int (iI up)] D ad G ids σ (QI D ad G ids (qlPost p t σ lo up)) := by
  have hB : BG (mw σ) := hG.1
  have w1 : 3 ≤ σ 202 0 := hB.1
  have w2 : σ 202 0 ≤ 5 := hB.2.1
  have h1 : 3 ≤ σ 203 0 := hB.2.2.1
  have h2 : σ 203 0 ≤ 5 := hB.2.2.2
  have wb := wh_bd w1 w2 h1 h2
  have hC : BC (σ 201) := hG.2.1
  have hs : σ 204 0 = 0 ∨ σ 204 0 = 1 := hG.2.2.1
  have hne : MLs (σ 201) (cfg (mw σ) 2) (cfg (mw σ) 3) (σ 204 0) ≠ [] := hne0
  have h18 : (MLs (σ 201) (σ 202 0) (σ 203 0) (σ 204 0)).length ≤ 18 := MLs18 hG
  have hev := evS_bd hG.2.2.2.2 (σ 201) (σ 204 0)
  have hq8 : σ 208 0 = 0 ∨ σ 208 0 = 1 := hG.2.2.2.2.2.2.2.2
  refine x_enter (by decide) (Nat.le_of_ble_eq_true rfl) ?_
  intro pp ee ss mm args below meth cq C hr ls hl hM
  have hl : lv_has ls 10 [(0, .ref (ad 100)), (1, .int (iI pn)), (2, .int (iI tn)), (3, .int (iI lo)), (4, .int (iI up))] := hl
  refine lv_aload_n C.1 C.2.1 dX12_quietly_0 rfl (lv_at hl 0 rfl) ?_
  refine x_ci (x_runV (As := []) (rest := []) C (by omega) cw_X12_120 (c_X12_evaluated l D ad G ids hJ σ hG) hM (hJ 100 (by decide) (by decide)) (cx_100 ad G _) rfl rfl rfl rfl (Nat.le_of_ble_eq_true rfl) hl.1 dX12_quietly_1) hM (fun r1 s1 H1 lc1 hp hM => ?_)
  obtain ⟨rfl, rfl⟩ := hp
  refine lv_istore (lv' := [(5, .int (iI (evS (cfg (mw σ)) (σ 201) (σ 204 0)))), (0, .ref (ad 100)), (1, .int (iI pn)), (2, .int (iI tn)), (3, .int (iI lo)), (4, .int (iI up))]) C.1 C.2.1 dX12_quietly_4 hl (by decide) rfl (fun ls hl => ?_)
  refine lv_aload_n C.1 C.2.1 dX12_quietly_6 rfl (lv_at hl 1 rfl) ?_
  refine g_X12_9 C hM (hJ 100 (by decide) (by decide)) wf_X12_23 dX12_quietly_7 ?_
  refine x_if_eq C ⟨by omega, by omega⟩ (tgt := 25) dX12_quietly_10 (by decide) (fun c10 => ?_) (fun c10 => ?_)
  · refine lv_iconst (v := iI 0) C.1 C.2.1 dX12_quietly_25 (by decide) ?_
    refine lv_istore (lv' := [(6, .int (iI 0)), (5, .int (iI (evS (cfg (mw σ)) (σ 201) (σ 204 0)))), (0, .ref (ad 100)), (1, .int (iI pn)), (2, .int (iI tn)), (3, .int (iI lo)), (4, .int (iI up))]) C.1 C.2.1 dX12_quietly_26 hl (by decide) rfl (fun ls hl => ?_)
    refine lv_iconst (v := iI 0) C.1 C.2.1 dX12_quietly_28 (by decide) ?_
    refine lv_istore (lv' := [(7, .int (iI 0)), (6, .int (iI 0)), (5, .int (iI (evS (cfg (mw σ)) (σ 201) (σ 204 0)))), (0, .ref (ad 100)), (1, .int (iI pn)), (2, .int (iI tn)), (3, .int (iI lo)), (4, .int (iI up))]) C.1 C.2.1 dX12_quietly_29 hl (by decide) rfl (fun ls hl => ?_)
    have L31 : ∀ (fu : Nat) (x : Int) (b : Int) (n : Int) (s1 : Sg) (H1 : Heap) (lc1 : List Loc) (ls1 : Array Slot), (0 ≤ x ∧ x ≤ 0) → (-4000 ≤ b ∧ b ≤ 4000) → (True) → (∀ r : Nat, (r < 240 + p ∨ 252 ≤ r) → r ≠ 221 → s1 r = σ r) → (s1 221 = ups (σ 221) 0 (σ 221 0 + n - 1)) → (b = (evS (cfg (mw σ)) (σ 201) (σ 204 0)) ∧ n = 1) → (20 - x).toNat < fu → XI D ad G ids (AN ad ids ss.heap.size) ss.heap H1 lc1 s1 → lv_has ls1 10 [(7, .int (iI x)), (6, .int (iI 0)), (5, .int (iI b)), (0, .ref (ad 100)), (1, .int (iI pn)), (2, .int (iI tn)), (3, .int (iI lo)), (4, .int (iI up))] → W pp l ee (rmh (7 + t)) ss mm args below meth cq H1 lc1 0 0 (MQ below (QI D ad G ids (qlPost p t σ lo up) ss.heap.size) args ss 0 0 (AN ad ids ss.heap.size)) (F0 mm 31 ls1 []) := by
      intro fu
      induction fu with
      | zero => intro x b n s1 H1 lc1 ls1 x0 hb hR hfr hn hq hfu; exact absurd hfu (Nat.not_lt_zero _)
      | succ fu ih31 =>
        intro x b n s1 H1 lc1 ls1 x0 hb hR hfr hn hq hfu hM hl
        refine lv_iload C.1 C.2.1 dX12_quietly_31 (lv_at hl 0 rfl) ?_
        refine lv_iload C.1 C.2.1 dX12_quietly_33 (lv_at hl 1 rfl) ?_
        refine x_icmp_ge C ⟨by omega, by omega⟩ ⟨by omega, by omega⟩ (tgt := 141) dX12_quietly_35 (by decide) (fun c35 => ?_) (fun c35 => ?_)
        · refine lv_iload C.1 C.2.1 dX12_quietly_141 (lv_at hl 2 rfl) ?_
          exact x_iret C hr hM ⟨by rw [qb_ev hne (by first | exact Or.inl (by omega) | exact Or.inr (show σ 208 0 = 0 by omega))]; exact hq.1.symm, by rw [qb_ev hne (by first | exact Or.inl (by omega) | exact Or.inr (show σ 208 0 = 0 by omega)), hn, hq.2], hfr⟩ dX12_quietly_143
        · exact absurd c35 (by omega)
    exact L31 _ 0 (evS (cfg (mw σ)) (σ 201) (σ 204 0)) 1 σ _ _ _ (by omega) hev trivial (fun r _ _ => rfl) (by rw [show σ 221 0 + 1 - 1 = σ 221 0 by omega, ups_self]) ⟨rfl, rfl⟩ (Nat.lt_succ_self _) hM (lv_sub hl [0, 1, 2, 3, 4, 5, 6, 7] rfl)
  · refine lv_iload_n C.1 C.2.1 dX12_quietly_13 rfl (lv_at hl 3 rfl) ?_
    refine x_if_le C ⟨by omega, by omega⟩ (tgt := 25) dX12_quietly_14 (by decide) (fun c14 => ?_) (fun c14 => ?_)
    · refine lv_iconst (v := iI 0) C.1 C.2.1 dX12_quietly_25 (by decide) ?_
      refine lv_istore (lv' := [(6, .int (iI 0)), (5, .int (iI (evS (cfg (mw σ)) (σ 201) (σ 204 0)))), (0, .ref (ad 100)), (1, .int (iI pn)), (2, .int (iI tn)), (3, .int (iI lo)), (4, .int (iI up))]) C.1 C.2.1 dX12_quietly_26 hl (by decide) rfl (fun ls hl => ?_)
      refine lv_iconst (v := iI 0) C.1 C.2.1 dX12_quietly_28 (by decide) ?_
      refine lv_istore (lv' := [(7, .int (iI 0)), (6, .int (iI 0)), (5, .int (iI (evS (cfg (mw σ)) (σ 201) (σ 204 0)))), (0, .ref (ad 100)), (1, .int (iI pn)), (2, .int (iI tn)), (3, .int (iI lo)), (4, .int (iI up))]) C.1 C.2.1 dX12_quietly_29 hl (by decide) rfl (fun ls hl => ?_)
      have L31 : ∀ (fu : Nat) (x : Int) (b : Int) (n : Int) (s1 : Sg) (H1 : Heap) (lc1 : List Loc) (ls1 : Array Slot), (0 ≤ x ∧ x ≤ 0) → (-4000 ≤ b ∧ b ≤ 4000) → (True) → (∀ r : Nat, (r < 240 + p ∨ 252 ≤ r) → r ≠ 221 → s1 r = σ r) → (s1 221 = ups (σ 221) 0 (σ 221 0 + n - 1)) → (b = (evS (cfg (mw σ)) (σ 201) (σ 204 0)) ∧ n = 1) → (20 - x).toNat < fu → XI D ad G ids (AN ad ids ss.heap.size) ss.heap H1 lc1 s1 → lv_has ls1 10 [(7, .int (iI x)), (6, .int (iI 0)), (5, .int (iI b)), (0, .ref (ad 100)), (1, .int (iI pn)), (2, .int (iI tn)), (3, .int (iI lo)), (4, .int (iI up))] → W pp l ee (rmh (7 + t)) ss mm args below meth cq H1 lc1 0 0 (MQ below (QI D ad G ids (qlPost p t σ lo up) ss.heap.size) args ss 0 0 (AN ad ids ss.heap.size)) (F0 mm 31 ls1 []) := by
        intro fu
        induction fu with
        | zero => intro x b n s1 H1 lc1 ls1 x0 hb hR hfr hn hq hfu; exact absurd hfu (Nat.not_lt_zero _)
        | succ fu ih31 =>
          intro x b n s1 H1 lc1 ls1 x0 hb hR hfr hn hq hfu hM hl
          refine lv_iload C.1 C.2.1 dX12_quietly_31 (lv_at hl 0 rfl) ?_
          refine lv_iload C.1 C.2.1 dX12_quietly_33 (lv_at hl 1 rfl) ?_
          refine x_icmp_ge C ⟨by omega, by omega⟩ ⟨by omega, by omega⟩ (tgt := 141) dX12_quietly_35 (by decide) (fun c35 => ?_) (fun c35 => ?_)
          · refine lv_iload C.1 C.2.1 dX12_quietly_141 (lv_at hl 2 rfl) ?_
            exact x_iret C hr hM ⟨by rw [qb_ev hne (by first | exact Or.inl (by omega) | exact Or.inr (show σ 208 0 = 0 by omega))]; exact hq.1.symm, by rw [qb_ev hne (by first | exact Or.inl (by omega) | exact Or.inr (show σ 208 0 = 0 by omega)), hn, hq.2], hfr⟩ dX12_quietly_143
          · exact absurd c35 (by omega)
      exact L31 _ 0 (evS (cfg (mw σ)) (σ 201) (σ 204 0)) 1 σ _ _ _ (by omega) hev trivial (fun r _ _ => rfl) (by rw [show σ 221 0 + 1 - 1 = σ 221 0 by omega, ups_self]) ⟨rfl, rfl⟩ (Nat.lt_succ_self _) hM (lv_sub hl [0, 1, 2, 3, 4, 5, 6, 7] rfl)
    · obtain ⟨t1, ht1⟩ : ∃ t1, t = t1 + 1 := ⟨t - 1, by omega⟩
      have hQ := qb_lp (S := cfg (mw σ)) (lo := lo) (up := up) hne ht1 (show cfg (mw σ) 8 ≠ 0 from (show σ 208 0 ≠ 0 by omega))
      refine lv_aload_n C.1 C.2.1 dX12_quietly_17 rfl (lv_at hl 1 rfl) ?_
      refine lv_iload_n C.1 C.2.1 dX12_quietly_18 rfl (lv_at hl 2 rfl) ?_
      refine x_ci (x_runV (As := [.int (iI pn)]) (rest := []) C (by omega) cw_X12_123 (c_X12_list l D ad G ids hJ σ p pn hpn (by omega) hG) hM (hJ 100 (by decide) (by decide)) (cx_100 ad G _) rfl rfl rfl rfl (Nat.le_of_ble_eq_true rfl) hl.1 dX12_quietly_19) hM (fun r19 s19 H1 lc1 hp hM => ?_)
      obtain ⟨rfl, hLs19, hfs19⟩ := hp
      refine lv_goto (tgt := 26) C.1 C.2.1 dX12_quietly_22 (by decide) ?_
      refine lv_istore (lv' := [(6, .int (iI ((MLs (σ 201) (σ 202 0) (σ 203 0) (σ 204 0)).length : Int))), (5, .int (iI (evS (cfg (mw σ)) (σ 201) (σ 204 0)))), (0, .ref (ad 100)), (1, .int (iI pn)), (2, .int (iI tn)), (3, .int (iI lo)), (4, .int (iI up))]) C.1 C.2.1 dX12_quietly_26 hl (by decide) rfl (fun ls hl => ?_)
      refine lv_iconst (v := iI 0) C.1 C.2.1 dX12_quietly_28 (by decide) ?_
      refine lv_istore (lv' := [(7, .int (iI 0)), (6, .int (iI ((MLs (σ 201) (σ 202 0) (σ 203 0) (σ 204 0)).length : Int))), (5, .int (iI (evS (cfg (mw σ)) (σ 201) (σ 204 0)))), (0, .ref (ad 100)), (1, .int (iI pn)), (2, .int (iI tn)), (3, .int (iI lo)), (4, .int (iI up))]) C.1 C.2.1 dX12_quietly_29 hl (by decide) rfl (fun ls hl => ?_)
      have L31 : ∀ (fu : Nat) (x : Int) (b : Int) (n : Int) (s1 : Sg) (H1 : Heap) (lc1 : List Loc) (ls1 : Array Slot), (0 ≤ x ∧ x ≤ (MLs (σ 201) (σ 202 0) (σ 203 0) (σ 204 0)).length) → (-4000 ≤ b ∧ b ≤ 4000) → (RWL s1 (240 + p) (MLs (σ 201) (σ 202 0) (σ 203 0) (σ 204 0))) → (∀ r : Nat, (r < 240 + p ∨ 252 ≤ r) → r ≠ 221 → s1 r = σ r) → (s1 221 = ups (σ 221) 0 (σ 221 0 + n - 1)) → (qlp (qb (cfg (mw σ)) t1) (σ 201) (σ 204 0) lo up ((MLs (σ 201) (σ 202 0) (σ 203 0) (σ 204 0)).drop x.toNat) b n = qb (cfg (mw σ)) t (σ 201) (σ 204 0) lo up) → (20 - x).toNat < fu → XI D ad G ids (AN ad ids ss.heap.size) ss.heap H1 lc1 s1 → lv_has ls1 10 [(7, .int (iI x)), (6, .int (iI ((MLs (σ 201) (σ 202 0) (σ 203 0) (σ 204 0)).length : Int))), (5, .int (iI b)), (0, .ref (ad 100)), (1, .int (iI pn)), (2, .int (iI tn)), (3, .int (iI lo)), (4, .int (iI up))] → W pp l ee (rmh (7 + t)) ss mm args below meth cq H1 lc1 0 0 (MQ below (QI D ad G ids (qlPost p t σ lo up) ss.heap.size) args ss 0 0 (AN ad ids ss.heap.size)) (F0 mm 31 ls1 []) := by
        intro fu
        induction fu with
        | zero => intro x b n s1 H1 lc1 ls1 x0 hb hR hfr hn hq hfu; exact absurd hfu (Nat.not_lt_zero _)
        | succ fu ih31 =>
          intro x b n s1 H1 lc1 ls1 x0 hb hR hfr hn hq hfu hM hl
          refine lv_iload C.1 C.2.1 dX12_quietly_31 (lv_at hl 0 rfl) ?_
          refine lv_iload C.1 C.2.1 dX12_quietly_33 (lv_at hl 1 rfl) ?_
          refine x_icmp_ge C ⟨by omega, by omega⟩ ⟨by omega, by omega⟩ (tgt := 141) dX12_quietly_35 (by decide) (fun c35 => ?_) (fun c35 => ?_)
          · refine lv_iload C.1 C.2.1 dX12_quietly_141 (lv_at hl 2 rfl) ?_
            refine x_iret C hr hM ?_ dX12_quietly_143
            exact by
              have e9 : qb (cfg (mw σ)) t (σ 201) (σ 204 0) lo up = (b, n) := by
                rw [← hq]
                by_cases e : x < (MLs (σ 201) (σ 202 0) (σ 203 0) (σ 204 0)).length
                · rw [drop_s (L := (MLs (σ 201) (σ 202 0) (σ 203 0) (σ 204 0))) (by omega) e, qlp, if_neg (by omega)]
                · rw [drop_e (L := (MLs (σ 201) (σ 202 0) (σ 203 0) (σ 204 0))) (by omega) e, qlp]
              exact ⟨by rw [e9], by rw [e9]; exact hn, hfr⟩
          · refine lv_iload C.1 C.2.1 dX12_quietly_38 (lv_at hl 2 rfl) ?_
            refine lv_iload C.1 C.2.1 dX12_quietly_40 (lv_at hl 7 rfl) ?_
            refine x_icmp_ge C ⟨by omega, by omega⟩ ⟨by omega, by omega⟩ (tgt := 141) dX12_quietly_42 (by decide) (fun c42 => ?_) (fun c42 => ?_)
            · refine lv_iload C.1 C.2.1 dX12_quietly_141 (lv_at hl 2 rfl) ?_
              refine x_iret C hr hM ?_ dX12_quietly_143
              exact by
                have e9 : qb (cfg (mw σ)) t (σ 201) (σ 204 0) lo up = (b, n) := by
                  rw [← hq]
                  by_cases e : x < (MLs (σ 201) (σ 202 0) (σ 203 0) (σ 204 0)).length
                  · rw [drop_s (L := (MLs (σ 201) (σ 202 0) (σ 203 0) (σ 204 0))) (by omega) e, qlp, if_neg (by omega)]
                  · rw [drop_e (L := (MLs (σ 201) (σ 202 0) (σ 203 0) (σ 204 0))) (by omega) e, qlp]
                exact ⟨by rw [e9], by rw [e9]; exact hn, hfr⟩
            · refine lv_aload_n C.1 C.2.1 dX12_quietly_45 rfl (lv_at hl 3 rfl) ?_
              refine g_X12_10 C hM (hJ 100 (by decide) (by decide)) wf_X12_29 dX12_quietly_46 ?_
              have e1 := hfr 201 (by omega) (by omega)
              have e2 := hfr 202 (by omega) (by omega)
              have e3 := hfr 203 (by omega) (by omega)
              have e4 := hfr 204 (by omega) (by omega)
              have hGs : GI (mw s1) := GIm_of hG (fun r _ _ => hfr r (by omega) (by omega))
              refine lv_iload_n C.1 C.2.1 dX12_quietly_49 rfl (lv_at hl 4 rfl) ?_
              rw [hpn]
              refine aa_listed C hM (hJ 103 (by decide) (by decide)) (i := p) (by omega) dX12_quietly_50 ?_
              refine lv_iload C.1 C.2.1 dX12_quietly_51 (lv_at hl 0 rfl) ?_
              refine al_li C hM (by omega) (hJ _ (by omega) (by omega)) (by omega) (by omega) dX12_quietly_53 ?_
              rw [hR.at (by omega) (by omega)]
              have hmv : MV (mw σ) ((MLs (σ 201) (σ 202 0) (σ 203 0) (σ 204 0)).getD x.toNat (-1)) := MVm (by omega) (by omega)
              have hok := hmv.ok hG
              have hok : (0 ≤ ((MLs (σ 201) (σ 202 0) (σ 203 0) (σ 204 0)).getD x.toNat (-1)) ∧ ((MLs (σ 201) (σ 202 0) (σ 203 0) (σ 204 0)).getD x.toNat (-1)) / 100 < σ 202 0 * σ 203 0 ∧ ((MLs (σ 201) (σ 202 0) (σ 203 0) (σ 204 0)).getD x.toNat (-1)) % 100 < σ 202 0 * σ 203 0) ∧ ((MLs (σ 201) (σ 202 0) (σ 203 0) (σ 204 0)).getD x.toNat (-1)) / 100 ≠ ((MLs (σ 201) (σ 202 0) (σ 203 0) (σ 204 0)).getD x.toNat (-1)) % 100 ∧ ((MLs (σ 201) (σ 202 0) (σ 203 0) (σ 204 0)).getD x.toNat (-1)) < 2500 := hok
              have hws : s1 202 0 * s1 203 0 = σ 202 0 * σ 203 0 := by rw [e2, e3]
              refine lv_istore (lv' := [(8, .int (iI ((MLs (σ 201) (σ 202 0) (σ 203 0) (σ 204 0)).getD x.toNat (-1)))), (7, .int (iI x)), (6, .int (iI ((MLs (σ 201) (σ 202 0) (σ 203 0) (σ 204 0)).length : Int))), (5, .int (iI b)), (0, .ref (ad 100)), (1, .int (iI pn)), (2, .int (iI tn)), (3, .int (iI lo)), (4, .int (iI up))]) C.1 C.2.1 dX12_quietly_54 hl (by decide) rfl (fun ls hl => ?_)
              refine lv_aload_n C.1 C.2.1 dX12_quietly_56 rfl (lv_at hl 4 rfl) ?_
              refine lv_iload C.1 C.2.1 dX12_quietly_57 (lv_at hl 0 rfl) ?_
              refine x_ci (x_runV (As := [.int (iI ((MLs (σ 201) (σ 202 0) (σ 203 0) (σ 204 0)).getD x.toNat (-1)))]) (rest := []) C (by omega) cw_X12_126 (c_X12_isTaking l D ad G ids hJ s1 ((MLs (σ 201) (σ 202 0) (σ 203 0) (σ 204 0)).getD x.toNat (-1)) hGs.1 hGs.2.1 (by omega)) hM (hJ 100 (by decide) (by decide)) (cx_100 ad G _) rfl rfl rfl rfl (Nat.le_of_ble_eq_true rfl) hl.1 dX12_quietly_59) hM (fun r59 s59 H1 lc1 hp hM => ?_)
              obtain ⟨hbs59, rfl⟩ := hp
              rw [e1] at hbs59
              obtain ⟨ts59, ks59⟩ := ite01 hbs59
              refine x_if_ne C ⟨by omega, by omega⟩ (tgt := 68) dX12_quietly_62 (by decide) (fun c62 => ?_) (fun c62 => ?_)
              · have htk := ks59.mp c62
                refine lv_aload_n C.1 C.2.1 dX12_quietly_68 rfl (lv_at hl 4 rfl) ?_
                refine lv_iload C.1 C.2.1 dX12_quietly_69 (lv_at hl 0 rfl) ?_
                refine x_ci (x_runV (As := [.int (iI ((MLs (σ 201) (σ 202 0) (σ 203 0) (σ 204 0)).getD x.toNat (-1)))]) (rest := []) C (by omega) cw_X12_130 (c_X12_make l D ad G ids hJ s1 ((MLs (σ 201) (σ 202 0) (σ 203 0) (σ 204 0)).getD x.toNat (-1)) hGs.1 (by omega)) hM (hJ 100 (by decide) (by decide)) (cx_100 ad G _) rfl rfl rfl rfl (Nat.le_of_ble_eq_true rfl) hl.1 dX12_quietly_71) hM (fun r71 s71 H1 lc1 hp hM => ?_)
                obtain ⟨rfl, rfl⟩ := hp
                have hmv1 : MV (mw s1) ((MLs (σ 201) (σ 202 0) (σ 203 0) (σ 204 0)).getD x.toNat (-1)) := by
                  show ((MLs (σ 201) (σ 202 0) (σ 203 0) (σ 204 0)).getD x.toNat (-1)) ∈ MLs (s1 201) (s1 202 0) (s1 203 0) (s1 204 0)
                  rw [e1, e2, e3, e4]; exact hmv
                have hG2 : GI (mw (mvM s1 ((MLs (σ 201) (σ 202 0) (σ 203 0) (σ 204 0)).getD x.toNat (-1)))) := by rw [mw_mv]; exact hGs.mv hmv1
                refine lv_istore (lv' := [(9, .int (iI (s1 201 (((MLs (σ 201) (σ 202 0) (σ 203 0) (σ 204 0)).getD x.toNat (-1)) % 100)))), (8, .int (iI ((MLs (σ 201) (σ 202 0) (σ 203 0) (σ 204 0)).getD x.toNat (-1)))), (7, .int (iI x)), (6, .int (iI ((MLs (σ 201) (σ 202 0) (σ 203 0) (σ 204 0)).length : Int))), (5, .int (iI b)), (0, .ref (ad 100)), (1, .int (iI pn)), (2, .int (iI tn)), (3, .int (iI lo)), (4, .int (iI up))]) C.1 C.2.1 dX12_quietly_74 hl (by decide) rfl (fun ls hl => ?_)
                refine lv_aload_n C.1 C.2.1 dX12_quietly_76 rfl (lv_at hl 5 rfl) ?_
                refine lv_dup C.1 C.2.1 dX12_quietly_77 rfl ?_
                refine g_X12_16 C hM (hJ 100 (by decide) (by decide)) wf_X12_169 dX12_quietly_78 ?_
                refine lv_iconst (v := iI 1) C.1 C.2.1 dX12_quietly_81 (by decide) ?_
                refine x_iadd C dX12_quietly_82 ?_
                refine p_X12_16 C hM (hJ 100 (by decide) (by decide)) wf_X12_169 dX12_quietly_83 (fun H1 lc1 hM => ?_)
                obtain ⟨s2, hs2⟩ : ∃ sx_ : Sg, sx_ = upr (mvM s1 ((MLs (σ 201) (σ 202 0) (σ 203 0) (σ 204 0)).getD x.toNat (-1))) 221 (ups ((mvM s1 ((MLs (σ 201) (σ 202 0) (σ 203 0) (σ 204 0)).getD x.toNat (-1))) 221) 0 (((mvM s1 ((MLs (σ 201) (σ 202 0) (σ 203 0) (σ 204 0)).getD x.toNat (-1))) 221 0) + 1)) := ⟨_, rfl⟩
                rw [← hs2] at hM
                have h2o : ∀ r : Nat, r ≠ 221 → s2 r = mvM s1 ((MLs (σ 201) (σ 202 0) (σ 203 0) (σ 204 0)).getD x.toNat (-1)) r := fun r hr => by rw [hs2]; exact upr_ne _ _ hr
                have h2n : s2 221 = ups (σ 221) 0 (σ 221 0 + n) := by
                  rw [hs2, upr_eq, mvM_o s1 _ (by decide) (by decide), hn, ups_ups, ups_eq, show σ 221 0 + n - 1 + 1 = σ 221 0 + n by omega]
                have m1 : s2 201 = mvF (σ 201) ((MLs (σ 201) (σ 202 0) (σ 203 0) (σ 204 0)).getD x.toNat (-1)) := (h2o 201 (by omega)).trans ((mvM_1 s1 ((MLs (σ 201) (σ 202 0) (σ 203 0) (σ 204 0)).getD x.toNat (-1))).trans (by rw [e1]))
                have m4 : s2 204 = ups (σ 204) 0 (1 - σ 204 0) := (h2o 204 (by omega)).trans ((mvM_4 s1 ((MLs (σ 201) (σ 202 0) (σ 203 0) (σ 204 0)).getD x.toNat (-1))).trans (by rw [e4]))
                have m2 : s2 202 = σ 202 := (h2o 202 (by omega)).trans ((mvM_o s1 ((MLs (σ 201) (σ 202 0) (σ 203 0) (σ 204 0)).getD x.toNat (-1)) (by decide) (by decide)).trans e2)
                have m3 : s2 203 = σ 203 := (h2o 203 (by omega)).trans ((mvM_o s1 ((MLs (σ 201) (σ 202 0) (σ 203 0) (σ 204 0)).getD x.toNat (-1)) (by decide) (by decide)).trans e3)
                have mc : cfg (mw s2) = cfg (mw σ) := cfg_of (fun r hr => (h2o (200 + r) (by omega)).trans ((mvM_o s1 ((MLs (σ 201) (σ 202 0) (σ 203 0) (σ 204 0)).getD x.toNat (-1)) (by omega) (by omega)).trans (hfr (200 + r) (by omega) (by omega))))
                have hG3 : GI (mw s2) := GIm_of hG2 (fun r _ _ => h2o r (by omega))
                refine lv_iload C.1 C.2.1 dX12_quietly_86 (lv_at hl 4 rfl) ?_
                refine lv_aload_n C.1 C.2.1 dX12_quietly_88 rfl (lv_at hl 5 rfl) ?_
                refine x_ci (x_runV (As := []) (rest := [.int (iI b)]) C (by omega) cw_X12_104 (c_X12_isLostNow l D ad G ids hJ s2 hG3) hM (hJ 100 (by decide) (by decide)) (cx_100 ad G _) rfl rfl rfl rfl (Nat.le_of_ble_eq_true rfl) hl.1 dX12_quietly_89) hM (fun r89 s89 H1 lc1 hp hM => ?_)
                obtain ⟨hbs89, rfl⟩ := hp
                rw [m1, m2, m3, m4, ups_eq] at hbs89
                obtain ⟨ts89, ks89⟩ := ite01 hbs89
                refine x_if_eq C ⟨by omega, by omega⟩ (tgt := 101) dX12_quietly_92 (by decide) (fun c92 => ?_) (fun c92 => ?_)
                · have hnl : ¬ MLs (mvF (σ 201) ((MLs (σ 201) (σ 202 0) (σ 203 0) (σ 204 0)).getD x.toNat (-1))) (σ 202 0) (σ 203 0) (1 - σ 204 0) = [] := fun q => absurd (ks89.mpr q) (by omega)
                  refine lv_aload_n C.1 C.2.1 dX12_quietly_101 rfl (lv_at hl 5 rfl) ?_
                  refine lv_iload_n C.1 C.2.1 dX12_quietly_102 rfl (lv_at hl 6 rfl) ?_
                  refine lv_iconst (v := iI 1) C.1 C.2.1 dX12_quietly_103 (by decide) ?_
                  refine x_iadd C dX12_quietly_104 ?_
                  refine lv_iload_n C.1 C.2.1 dX12_quietly_105 rfl (lv_at hl 7 rfl) ?_
                  refine lv_iconst (v := iI 1) C.1 C.2.1 dX12_quietly_106 (by decide) ?_
                  refine x_isub C dX12_quietly_107 ?_
                  refine lv_iload C.1 C.2.1 dX12_quietly_108 (lv_at hl 9 rfl) ?_
                  refine x_ineg C dX12_quietly_110 ?_
                  refine lv_iload_n C.1 C.2.1 dX12_quietly_111 rfl (lv_at hl 8 rfl) ?_
                  refine lv_iload C.1 C.2.1 dX12_quietly_112 (lv_at hl 4 rfl) ?_
                  refine x_max C (by omega) hl.1 wM_X12_137 ⟨by omega, by omega⟩ ⟨by omega, by omega⟩ (Nat.le_of_ble_eq_true rfl) dX12_quietly_114 ?_
                  refine x_ineg C dX12_quietly_117 ?_
                  refine x_ci (x_runV (As := [.int (iI (pn + 1)), .int (iI (tn - 1)), .int (iI (-up)), .int (iI (-(max lo b)))]) (rest := [.int (iI b)]) C (by omega) cw_X12_172 ((hrec t1 ht1) s2 (p + 1) (pn + 1) (tn - 1) (-up) (-(max lo b)) (by omega) (by omega) (by omega) hG3 (by rw [m1, m2, m3, m4, ups_eq]; exact hnl) (by omega) (by omega)) hM (hJ 100 (by decide) (by decide)) (cx_100 ad G _) rfl rfl rfl rfl (Nat.le_of_ble_eq_true rfl) hl.1 dX12_quietly_118) hM (fun r118 s118 H1 lc1 hp hM => ?_)
                  obtain ⟨hzs118, hns118, hfs118⟩ := hp
                  rw [mc, m1, m4, ups_eq] at hzs118 hns118
                  have hqb := qb_bd hG.2.2.2.2 t1 (mvF (σ 201) ((MLs (σ 201) (σ 202 0) (σ 203 0) (σ 204 0)).getD x.toNat (-1))) (1 - σ 204 0) (-up) (-(max lo b))
                  have hqr : -4000 ≤ r118 ∧ r118 ≤ 4000 := by omega
                  have hfb : ∀ r : Nat, (r < 240 + (p + 1) ∨ 252 ≤ r) → r ≠ 221 → s118 r = mvM s1 ((MLs (σ 201) (σ 202 0) (σ 203 0) (σ 204 0)).getD x.toNat (-1)) r := fun r hr hq => (hfs118 r (by omega) hq).trans (h2o r hq)
                  have hu := unM_mv (σ := s1) (b := s118) hok.2.1 ((hfb 201 (by omega) (by omega)).trans (mvM_1 s1 ((MLs (σ 201) (σ 202 0) (σ 203 0) (σ 204 0)).getD x.toNat (-1)))) ((hfb 204 (by omega) (by omega)).trans (mvM_4 s1 ((MLs (σ 201) (σ 202 0) (σ 203 0) (σ 204 0)).getD x.toNat (-1))))
                  have hf3 : ∀ r : Nat, (r < 240 + (p + 1) ∨ 252 ≤ r) → r ≠ 221 → (unM s118 ((MLs (σ 201) (σ 202 0) (σ 203 0) (σ 204 0)).getD x.toNat (-1)) (s1 201 (((MLs (σ 201) (σ 202 0) (σ 203 0) (σ 204 0)).getD x.toNat (-1)) % 100))) r = s1 r := fun r hr hq => by
                    by_cases q1 : r = 201
                    · rw [q1]; exact hu.1
                    by_cases q4 : r = 204
                    · rw [q4]; exact hu.2.1
                    rw [hu.2.2 r q1 q4, hfb r hr hq, mvM_o s1 ((MLs (σ 201) (σ 202 0) (σ 203 0) (σ 204 0)).getD x.toNat (-1)) q1 q4]
                  have hGb : BG (mw s118) := (BG_of (a := mw s1) (b := mw s118) ((hfb 202 (by omega) (by omega)).trans (mvM_o s1 ((MLs (σ 201) (σ 202 0) (σ 203 0) (σ 204 0)).getD x.toNat (-1)) (by decide) (by decide))) ((hfb 203 (by omega) (by omega)).trans (mvM_o s1 ((MLs (σ 201) (σ 202 0) (σ 203 0) (σ 204 0)).getD x.toNat (-1)) (by decide) (by decide)))).mpr hGs.1
                  have hwb2 : s118 202 0 * s118 203 0 = σ 202 0 * σ 203 0 := by rw [hfb 202 (by omega) (by omega), hfb 203 (by omega) (by omega), mvM_o s1 _ (by decide) (by decide), mvM_o s1 _ (by decide) (by decide), e2, e3]
                  refine x_ineg C dX12_quietly_121 ?_
                  refine x_max C (by omega) hl.1 wM_X12_137 ⟨by omega, by omega⟩ ⟨by omega, by omega⟩ (Nat.le_of_ble_eq_true rfl) dX12_quietly_122 ?_
                  refine lv_istore (lv' := [(5, .int (iI (max b (-r118)))), (9, .int (iI (s1 201 (((MLs (σ 201) (σ 202 0) (σ 203 0) (σ 204 0)).getD x.toNat (-1)) % 100)))), (8, .int (iI ((MLs (σ 201) (σ 202 0) (σ 203 0) (σ 204 0)).getD x.toNat (-1)))), (7, .int (iI x)), (6, .int (iI ((MLs (σ 201) (σ 202 0) (σ 203 0) (σ 204 0)).length : Int))), (0, .ref (ad 100)), (1, .int (iI pn)), (2, .int (iI tn)), (3, .int (iI lo)), (4, .int (iI up))]) C.1 C.2.1 dX12_quietly_125 hl (by decide) rfl (fun ls hl => ?_)
                  refine lv_aload_n C.1 C.2.1 dX12_quietly_127 rfl (lv_at hl 5 rfl) ?_
                  refine lv_iload C.1 C.2.1 dX12_quietly_128 (lv_at hl 2 rfl) ?_
                  refine lv_iload C.1 C.2.1 dX12_quietly_130 (lv_at hl 1 rfl) ?_
                  refine x_cv (x_runV (As := [.int (iI ((MLs (σ 201) (σ 202 0) (σ 203 0) (σ 204 0)).getD x.toNat (-1))), .int (iI (s1 201 (((MLs (σ 201) (σ 202 0) (σ 203 0) (σ 204 0)).getD x.toNat (-1)) % 100)))]) (rest := []) C (by omega) cw_X12_140 (c_X12_unmake l D ad G ids hJ s118 ((MLs (σ 201) (σ 202 0) (σ 203 0) (σ 204 0)).getD x.toNat (-1)) (s1 201 (((MLs (σ 201) (σ 202 0) (σ 203 0) (σ 204 0)).getD x.toNat (-1)) % 100)) hGb (by omega)) hM (hJ 100 (by decide) (by decide)) (cx_100 ad G _) rfl rfl rfl rfl (Nat.le_of_ble_eq_true rfl) hl.1 dX12_quietly_132) hM (fun s132 H1 lc1 hp hM => ?_)
                  obtain rfl := hp
                  refine x_iinc (lv1 := [(7, .int (iI (x + 1))), (5, .int (iI (max b (-r118)))), (9, .int (iI (s1 201 (((MLs (σ 201) (σ 202 0) (σ 203 0) (σ 204 0)).getD x.toNat (-1)) % 100)))), (8, .int (iI ((MLs (σ 201) (σ 202 0) (σ 203 0) (σ 204 0)).getD x.toNat (-1)))), (6, .int (iI ((MLs (σ 201) (σ 202 0) (σ 203 0) (σ 204 0)).length : Int))), (0, .ref (ad 100)), (1, .int (iI pn)), (2, .int (iI tn)), (3, .int (iI lo)), (4, .int (iI up))]) C dX12_quietly_135 hl (k := 3) rfl (by decide) rfl (fun ls hl => ?_)
                  refine lv_goto (tgt := 31) C.1 C.2.1 dX12_quietly_138 (by decide) ?_
                  exact ih31 (x + 1) (max b (-r118)) (n + (qb (cfg (mw σ)) t1 (mvF (σ 201) ((MLs (σ 201) (σ 202 0) (σ 203 0) (σ 204 0)).getD x.toNat (-1))) (1 - σ 204 0) (-up) (-(max lo b))).2) (unM s118 ((MLs (σ 201) (σ 202 0) (σ 203 0) (σ 204 0)).getD x.toNat (-1)) (s1 201 (((MLs (σ 201) (σ 202 0) (σ 203 0) (σ 204 0)).getD x.toNat (-1)) % 100))) _ _ _ (by omega) (by omega) (hR.of (hf3 _ (by omega) (by omega))) (fun r hr hq => (hf3 r (by omega) hq).trans (hfr r hr hq)) (by rw [hu.2.2 221 (by decide) (by decide), hns118, h2n, ups_ups, ups_eq, show σ 221 0 + n + (qb (cfg (mw σ)) t1 (mvF (σ 201) ((MLs (σ 201) (σ 202 0) (σ 203 0) (σ 204 0)).getD x.toNat (-1))) (1 - σ 204 0) (-up) (-(max lo b))).2 - 1 = σ 221 0 + (n + (qb (cfg (mw σ)) t1 (mvF (σ 201) ((MLs (σ 201) (σ 202 0) (σ 203 0) (σ 204 0)).getD x.toNat (-1))) (1 - σ 204 0) (-up) (-(max lo b))).2) - 1 by omega]) (by rw [← hq, qlp_drop (L := (MLs (σ 201) (σ 202 0) (σ 203 0) (σ 204 0))) (x := x) (b := b) (n := n) (by omega) (by omega) (by omega), if_pos htk, ← hzs118]) (by omega) hM (lv_sub hl [0, 4, 1, 5, 6, 7, 8, 9] rfl)
                · have hql := qb_nil (S := cfg (mw σ)) (lo := -up) (up := -(max lo b)) (show MLs (mvF (σ 201) ((MLs (σ 201) (σ 202 0) (σ 203 0) (σ 204 0)).getD x.toNat (-1))) (cfg (mw σ) 2) (cfg (mw σ) 3) (1 - σ 204 0) = [] from ks89.mp (by omega)) t1
                  have hfb : ∀ r : Nat, (r < 240 + (p + 1) ∨ 252 ≤ r) → r ≠ 221 → s2 r = mvM s1 ((MLs (σ 201) (σ 202 0) (σ 203 0) (σ 204 0)).getD x.toNat (-1)) r := fun r _ hq => h2o r hq
                  have hu := unM_mv (σ := s1) (b := s2) hok.2.1 ((hfb 201 (by omega) (by omega)).trans (mvM_1 s1 ((MLs (σ 201) (σ 202 0) (σ 203 0) (σ 204 0)).getD x.toNat (-1)))) ((hfb 204 (by omega) (by omega)).trans (mvM_4 s1 ((MLs (σ 201) (σ 202 0) (σ 203 0) (σ 204 0)).getD x.toNat (-1))))
                  have hf3 : ∀ r : Nat, (r < 240 + (p + 1) ∨ 252 ≤ r) → r ≠ 221 → (unM s2 ((MLs (σ 201) (σ 202 0) (σ 203 0) (σ 204 0)).getD x.toNat (-1)) (s1 201 (((MLs (σ 201) (σ 202 0) (σ 203 0) (σ 204 0)).getD x.toNat (-1)) % 100))) r = s1 r := fun r hr hq => by
                    by_cases q1 : r = 201
                    · rw [q1]; exact hu.1
                    by_cases q4 : r = 204
                    · rw [q4]; exact hu.2.1
                    rw [hu.2.2 r q1 q4, hfb r hr hq, mvM_o s1 ((MLs (σ 201) (σ 202 0) (σ 203 0) (σ 204 0)).getD x.toNat (-1)) q1 q4]
                  have hGb : BG (mw s2) := (BG_of (a := mw s1) (b := mw s2) ((hfb 202 (by omega) (by omega)).trans (mvM_o s1 ((MLs (σ 201) (σ 202 0) (σ 203 0) (σ 204 0)).getD x.toNat (-1)) (by decide) (by decide))) ((hfb 203 (by omega) (by omega)).trans (mvM_o s1 ((MLs (σ 201) (σ 202 0) (σ 203 0) (σ 204 0)).getD x.toNat (-1)) (by decide) (by decide)))).mpr hGs.1
                  have hwb2 : s2 202 0 * s2 203 0 = σ 202 0 * σ 203 0 := by rw [hfb 202 (by omega) (by omega), hfb 203 (by omega) (by omega), mvM_o s1 _ (by decide) (by decide), mvM_o s1 _ (by decide) (by decide), e2, e3]
                  refine lv_sipush (v := iI 1000) C.1 C.2.1 dX12_quietly_95 (by decide) ?_
                  refine lv_goto (tgt := 122) C.1 C.2.1 dX12_quietly_98 (by decide) ?_
                  refine x_max C (by omega) hl.1 wM_X12_137 ⟨by omega, by omega⟩ ⟨by omega, by omega⟩ (Nat.le_of_ble_eq_true rfl) dX12_quietly_122 ?_
                  refine lv_istore (lv' := [(5, .int (iI (max b 1000))), (9, .int (iI (s1 201 (((MLs (σ 201) (σ 202 0) (σ 203 0) (σ 204 0)).getD x.toNat (-1)) % 100)))), (8, .int (iI ((MLs (σ 201) (σ 202 0) (σ 203 0) (σ 204 0)).getD x.toNat (-1)))), (7, .int (iI x)), (6, .int (iI ((MLs (σ 201) (σ 202 0) (σ 203 0) (σ 204 0)).length : Int))), (0, .ref (ad 100)), (1, .int (iI pn)), (2, .int (iI tn)), (3, .int (iI lo)), (4, .int (iI up))]) C.1 C.2.1 dX12_quietly_125 hl (by decide) rfl (fun ls hl => ?_)
                  refine lv_aload_n C.1 C.2.1 dX12_quietly_127 rfl (lv_at hl 5 rfl) ?_
                  refine lv_iload C.1 C.2.1 dX12_quietly_128 (lv_at hl 2 rfl) ?_
                  refine lv_iload C.1 C.2.1 dX12_quietly_130 (lv_at hl 1 rfl) ?_
                  refine x_cv (x_runV (As := [.int (iI ((MLs (σ 201) (σ 202 0) (σ 203 0) (σ 204 0)).getD x.toNat (-1))), .int (iI (s1 201 (((MLs (σ 201) (σ 202 0) (σ 203 0) (σ 204 0)).getD x.toNat (-1)) % 100)))]) (rest := []) C (by omega) cw_X12_140 (c_X12_unmake l D ad G ids hJ s2 ((MLs (σ 201) (σ 202 0) (σ 203 0) (σ 204 0)).getD x.toNat (-1)) (s1 201 (((MLs (σ 201) (σ 202 0) (σ 203 0) (σ 204 0)).getD x.toNat (-1)) % 100)) hGb (by omega)) hM (hJ 100 (by decide) (by decide)) (cx_100 ad G _) rfl rfl rfl rfl (Nat.le_of_ble_eq_true rfl) hl.1 dX12_quietly_132) hM (fun s132 H1 lc1 hp hM => ?_)
                  obtain rfl := hp
                  refine x_iinc (lv1 := [(7, .int (iI (x + 1))), (5, .int (iI (max b 1000))), (9, .int (iI (s1 201 (((MLs (σ 201) (σ 202 0) (σ 203 0) (σ 204 0)).getD x.toNat (-1)) % 100)))), (8, .int (iI ((MLs (σ 201) (σ 202 0) (σ 203 0) (σ 204 0)).getD x.toNat (-1)))), (6, .int (iI ((MLs (σ 201) (σ 202 0) (σ 203 0) (σ 204 0)).length : Int))), (0, .ref (ad 100)), (1, .int (iI pn)), (2, .int (iI tn)), (3, .int (iI lo)), (4, .int (iI up))]) C dX12_quietly_135 hl (k := 3) rfl (by decide) rfl (fun ls hl => ?_)
                  refine lv_goto (tgt := 31) C.1 C.2.1 dX12_quietly_138 (by decide) ?_
                  exact ih31 (x + 1) (max b 1000) (n + 1) (unM s2 ((MLs (σ 201) (σ 202 0) (σ 203 0) (σ 204 0)).getD x.toNat (-1)) (s1 201 (((MLs (σ 201) (σ 202 0) (σ 203 0) (σ 204 0)).getD x.toNat (-1)) % 100))) _ _ _ (by omega) (by omega) (hR.of (hf3 _ (by omega) (by omega))) (fun r hr hq => (hf3 r (by omega) hq).trans (hfr r hr hq)) (by rw [hu.2.2 221 (by decide) (by decide), h2n, show σ 221 0 + (n + 1) - 1 = σ 221 0 + n by omega]) (by rw [← hq, qlp_drop (L := (MLs (σ 201) (σ 202 0) (σ 203 0) (σ 204 0))) (x := x) (b := b) (n := n) (by omega) (by omega) (by omega), if_pos htk, hql]; rfl) (by omega) hM (lv_sub hl [0, 4, 1, 5, 6, 7, 8, 9] rfl)
              · have htk : ¬ σ 201 (((MLs (σ 201) (σ 202 0) (σ 203 0) (σ 204 0)).getD x.toNat (-1)) % 100) ≠ 0 := fun q => absurd (ks59.mpr q) (by omega)
                refine lv_goto (tgt := 135) C.1 C.2.1 dX12_quietly_65 (by decide) ?_
                refine x_iinc (lv1 := [(7, .int (iI (x + 1))), (8, .int (iI ((MLs (σ 201) (σ 202 0) (σ 203 0) (σ 204 0)).getD x.toNat (-1)))), (6, .int (iI ((MLs (σ 201) (σ 202 0) (σ 203 0) (σ 204 0)).length : Int))), (5, .int (iI b)), (0, .ref (ad 100)), (1, .int (iI pn)), (2, .int (iI tn)), (3, .int (iI lo)), (4, .int (iI up))]) C dX12_quietly_135 hl (k := 1) rfl (by decide) rfl (fun ls hl => ?_)
                refine lv_goto (tgt := 31) C.1 C.2.1 dX12_quietly_138 (by decide) ?_
                exact ih31 (x + 1) b n s1 _ _ _ (by omega) (by omega) hR hfr hn (by rw [← hq, qlp_drop (L := (MLs (σ 201) (σ 202 0) (σ 203 0) (σ 204 0))) (x := x) (b := b) (n := n) (by omega) (by omega) (by omega), if_neg htk]) (by omega) hM (lv_sub hl [0, 2, 3, 4, 5, 6, 7, 8] rfl)
      exact L31 _ 0 (evS (cfg (mw σ)) (σ 201) (σ 204 0)) 1 s19 _ _ _ (by omega) hev hLs19 (fun r hr _ => hfs19 r (by omega)) (by rw [show σ 221 0 + 1 - 1 = σ 221 0 by omega, ups_self]; exact hfs19 221 (by omega)) hQ.symm (Nat.lt_succ_self _) hM (lv_sub hl [0, 1, 2, 3, 4, 5, 6, 7] rfl)
theorem quietly_all (l : Launch) (D : va_G) (ad : Nat → Nat) (G : Nat → Nat) (ids : List Nat) (hJ : ∀ k, 100 ≤ k → k < 233 → k ∈ ids) : ∀ t : Nat, QLc l D ad G ids t := by
  intro t
  induction t with
  | zero => intro σ p pn tn lo up hpn htn hpt hG hne hlo hup; exact c_X12_quietly l D ad G ids hJ σ p 0 pn tn lo up hpn htn hpt (fun t1 h => by omega) hG hne hlo hup
  | succ t ih => intro σ p pn tn lo up hpn htn hpt hG hne hlo hup; exact c_X12_quietly l D ad G ids hJ σ p (t + 1) pn tn lo up hpn htn hpt (fun t1 h => by
      have e : t1 = t := by omega
      subst e; exact ih) hG hne hlo hup
