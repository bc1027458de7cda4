abbrev FRS (p r : Nat) : Prop := ¬ ((209 ≤ r ∧ r ≤ 214) ∨ r = 217 ∨ r = 218 ∨ r = 219 ∨ r = 221 ∨ r = 222 ∨ r = 223) ∧ (r < 240 + p ∨ 252 ≤ r) ∧ (r < 255 + p ∨ 267 ≤ r)
abbrev sePost (p d : Nat) (σ : Sg) (lo up : Int) : Int → Sg → Prop := fun z σ' => (sb (cfg (mw σ)) d (σ 201) (σ 204 0) lo up (tv (mw σ))).1 = z ∧ tv (mw σ') = (sb (cfg (mw σ)) d (σ 201) (σ 204 0) lo up (tv (mw σ))).2.2 ∧ σ' 221 0 = σ 221 0 + (sb (cfg (mw σ)) d (σ 201) (σ 204 0) lo up (tv (mw σ))).2.1 ∧ ∀ r : Nat, FRS p r → σ' r = σ r
def SEc (l : Launch) (D : va_G) (ad : Nat → Nat) (G : Nat → Nat) (ids : List Nat) (d : Nat) : Prop := ∀ (σ : Sg) (p : Nat) (pn dn lo up : Int), pn = (p : Int) → dn = (d : Int) → p + d + 4 ≤ 12 → d ≤ 4 → GI (mw σ) → TI (mw σ) → T9 (mw σ) → (-9999 ≤ lo ∧ lo ≤ 9999) → (-9999 ≤ up ∧ up ≤ 9999) →
  MET l yX12_searched cX12_searched 13 (some .int) (12 + d) [.ref (ad 100), .int (iI pn), .int (iI dn), .int (iI lo), .int (iI up)] D ad G ids σ (QI D ad G ids (sePost p d σ lo up))
theorem fold_nd {f : List Int → Int → List Int} (hf : ∀ acc v, acc.Nodup → (f acc v).Nodup) : ∀ (M acc : List Int), acc.Nodup → (M.foldl f acc).Nodup
  | [], _, h => h
  | v :: M, acc, h => fold_nd hf M (f acc v) (hf acc v h)
theorem ord_nd (c : Fn) (L : List Int) (e k1 k2 : Int) : (ord c L e k1 k2).Nodup := by
  unfold ord
  refine fold_nd (fun a v h => wnt_nd h) _ _ (wnt_nd (wnt_nd (fold_nd (fun a v h => ?_) _ _ (wnt_nd List.nodup_nil))))
  unfold tkF
  split
  · exact wnt_nd h
  · exact h
theorem ord_len {c : Fn} {L : List Int} {e k1 k2 : Int} (hN : L.Nodup) : (ord c L e k1 k2).length = L.length :=
  Nat.le_antisymm (nodup_len _ _ (ord_nd _ _ _ _ _) (ord_mem _ _ _ _ _)) (nodup_len _ _ hN (ord_all c L e k1 k2))
theorem tv_mw {a b : Sg} (h : ∀ r : Nat, ((209 ≤ r ∧ r ≤ 214) ∨ r = 217 ∨ r = 218 ∨ r = 219 ∨ r = 222 ∨ r = 223) → b r = a r) : tv (mw b) = tv (mw a) := tv_ext (fun r hr => h (200 + r) (by omega))
theorem mw_set (σ : Sg) (r : Nat) (x : Int) : mw (upr σ (200 + r) (ups (σ (200 + r)) 0 x)) = setT (mw σ) r x := mw_upr _ _ _
set_option maxRecDepth 100000 in
set_option maxHeartbeats 4000000 in
theorem c_X12_searched (l : Launch) (D : va_G) (ad : Nat → Nat) (G : Nat → Nat) (ids : List Nat) (hJ : ∀ k, 100 ≤ k → k < 233 → k ∈ ids) (σ : Sg) (p d : Nat) (pn dn lo up : Int) (hpn : pn = (p : Int)) (htn : dn = (d : Int)) (hpt : p + d + 4 ≤ 12) (hd4 : d ≤ 4) (hrec : ∀ d1, d = d1 + 1 → SEc l D ad G ids d1) (hG : GI (mw σ)) (hT : TI (mw σ)) (hT9 : T9 (mw σ)) (hlo : -9999 ≤ lo ∧ lo ≤ 9999) (hup : -9999 ≤ up ∧ up ≤ 9999) : MET l yX12_searched cX12_searched 13 (some .int) (12 + d) [.ref (ad 100), .int (iI pn), .int (iI dn), .int (iI lo), .int (iI up)] D ad G ids σ (QI D ad G ids (sePost p d σ lo up)) := by
  have hB : BG (mw σ) := hG.1
  have w1 : 3 ≤ σ 202 0 := hB.1
  have w2 : σ 202 0 ≤ 5 := hB.2.1
  have h1 : 3 ≤ σ 203 0 := hB.2.2.1
  have h2 : σ 203 0 ≤ 5 := hB.2.2.2
  have wb := wh_bd w1 w2 h1 h2
  have hC : BC (σ 201) := hG.2.1
  have hs : σ 204 0 = 0 ∨ σ 204 0 = 1 := hG.2.2.1
  have h18 : (MLs (σ 201) (σ 202 0) (σ 203 0) (σ 204 0)).length ≤ 18 := MLs18 hG
  have hMB : ∀ v, v ∈ (MLs (σ 201) (σ 202 0) (σ 203 0) (σ 204 0)) → 0 ≤ v ∧ v < 2500 := MLsMB hG
  have hN : (MLs (σ 201) (σ 202 0) (σ 203 0) (σ 204 0)).Nodup := MLsN hG
  have hky0 := SB_key hG
  refine x_enter (by decide) (Nat.le_of_ble_eq_true rfl) ?_
  intro pp ee ss mm args below meth cq C hr ls hl hM
  have hl : lv_has ls 13 [(0, .ref (ad 100)), (1, .int (iI pn)), (2, .int (iI dn)), (3, .int (iI lo)), (4, .int (iI up))] := hl
  refine lv_aload_n C.1 C.2.1 dX12_searched_0 rfl (lv_at hl 0 rfl) ?_
  refine lv_dup C.1 C.2.1 dX12_searched_1 rfl ?_
  refine g_X12_16 C hM (hJ 100 (by decide) (by decide)) wf_X12_169 dX12_searched_2 ?_
  refine lv_iconst (v := iI 1) C.1 C.2.1 dX12_searched_5 (by decide) ?_
  refine x_iadd C dX12_searched_6 ?_
  refine p_X12_16 C hM (hJ 100 (by decide) (by decide)) wf_X12_169 dX12_searched_7 (fun H1 lc1 hM => ?_)
  obtain ⟨sa, hsa⟩ : ∃ sx_ : Sg, sx_ = upr σ 221 (ups (σ 221) 0 ((σ 221 0) + 1)) := ⟨_, rfl⟩
  rw [← hsa] at hM
  have fa : ∀ r : Nat, r ≠ 221 → sa r = σ r := fun r h => by rw [hsa]; exact upr_ne _ _ h
  have hna : sa 221 0 = σ 221 0 + 1 := by rw [hsa, upr_eq, ups_eq]
  have hGa : GI (mw sa) := GIm_of hG (fun r _ _ => fa r (by omega))
  have hTa : TI (mw sa) := hT.of (fun r hr => fa (200 + r) (by omega))
  have hva : tv (mw sa) = tv (mw σ) := tv_mw (fun r hr => fa r (by omega))
  have hca : cfg (mw sa) = cfg (mw σ) := cfg_of (fun r hr => fa (200 + r) (by omega))
  have h9 : 0 ≤ sa 209 0 ∧ sa 209 0 ≤ 64 := hTa.1
  refine lv_aload_n C.1 C.2.1 dX12_searched_10 rfl (lv_at hl 0 rfl) ?_
  refine x_ci (x_runV (As := []) (rest := []) C (by omega) cw_X12_104 (c_X12_isLostNow l D ad G ids hJ sa hGa) hM (hJ 100 (by decide) (by decide)) (cx_100 ad G _) rfl rfl rfl rfl (Nat.le_of_ble_eq_true rfl) hl.1 dX12_searched_11) hM (fun r11 s11 H1 lc1 hp hM => ?_)
  obtain ⟨hbs11, rfl⟩ := hp
  rw [fa 201 (by decide), fa 202 (by decide), fa 203 (by decide), fa 204 (by decide)] at hbs11
  obtain ⟨ts11, ks11⟩ := ite01 hbs11
  refine x_if_eq C ⟨by omega, by omega⟩ (tgt := 23) dX12_searched_14 (by decide) (fun c14 => ?_) (fun c14 => ?_)
  · have hne : (MLs (σ 201) (σ 202 0) (σ 203 0) (σ 204 0)) ≠ [] := fun q => absurd (ks11.mpr q) (by omega)
    refine lv_iload_n C.1 C.2.1 dX12_searched_23 rfl (lv_at hl 2 rfl) ?_
    refine x_if_ne C ⟨by omega, by omega⟩ (tgt := 37) dX12_searched_24 (by decide) (fun c24 => ?_) (fun c24 => ?_)
    · obtain ⟨d1, hd1⟩ : ∃ d1, d = d1 + 1 := ⟨d - 1, by omega⟩
      refine lv_aload_n C.1 C.2.1 dX12_searched_37 rfl (lv_at hl 0 rfl) ?_
      refine lv_aload_n C.1 C.2.1 dX12_searched_38 rfl (lv_at hl 0 rfl) ?_
      refine x_cl (x_runV (As := []) (rest := [.ref (ad 100)]) C (by omega) cw_X12_157 (c_X12_keyNow l D ad G ids hJ sa hGa.1 hGa.2.1 (by unfold IR; rw [fa 204 (by decide)]; omega)) hM (hJ 100 (by decide) (by decide)) (cx_100 ad G _) rfl rfl rfl rfl (Nat.le_of_ble_eq_true rfl) hl.1 dX12_searched_39) hM (fun r39 s39 H1 lc1 hp hM => ?_)
      obtain ⟨rfl, rfl⟩ := hp
      obtain ⟨ky, hky⟩ : ∃ ky, ky = keyS (cfg (mw σ)) (σ 201) (σ 204 0) := ⟨_, rfl⟩
      have hke : keyF (sa 201) (sa 202 0 * sa 203 0).toNat * 2 + sa 204 0 = ky := by rw [fa 201 (by decide), fa 202 (by decide), fa 203 (by decide), fa 204 (by decide), hky]; rfl
      rw [hke]
      refine x_ci (x_runV (As := [.long (jI ky)]) (rest := []) C (by omega) cw_X12_175 (c_X12_slotOf l D ad G ids hJ sa ky hTa (show 0 ≤ ky ∧ ky < 4000000000000000000 from by rw [hky]; exact SB_key hG)) hM (hJ 100 (by decide) (by decide)) (cx_100 ad G _) rfl rfl rfl rfl (Nat.le_of_ble_eq_true rfl) hl.1 dX12_searched_42) hM (fun r42 s42 H1 lc1 hp hM => ?_)
      obtain ⟨hbs42, rfl⟩ := hp
      refine lv_istore (lv' := [(5, .int (iI r42)), (0, .ref (ad 100)), (1, .int (iI pn)), (2, .int (iI dn)), (3, .int (iI lo)), (4, .int (iI up))]) C.1 C.2.1 dX12_searched_45 hl (by decide) rfl (fun ls hl => ?_)
      have hcs0 : (0 ≤ r42 ∧ r42 < 64 ∧ 0 < sa 211 r42 ∧ sa 210 r42 = ky) ∨ r42 = -1 := fnd_cs hTa hbs42
      have hq4 : (0 ≤ sa 211 r42 ∧ sa 211 r42 ≤ 4) ∧ (-10000 ≤ sa 212 r42 ∧ sa 212 r42 ≤ 10000) ∧ (0 ≤ sa 213 r42 ∧ sa 213 r42 ≤ 2) ∧ (-1 ≤ sa 214 r42 ∧ sa 214 r42 < 2500) ∧ (0 ≤ sa 210 r42 ∧ sa 210 r42 < 4000000000000000000) := hTa.2.1 r42
      have J115 : ∀  (H1 : Heap) (lc1 : List Loc) (ls1 : Array Slot), (¬ ansB (mw sa) r42 dn lo up = true) → XI D ad G ids (AN ad ids ss.heap.size) ss.heap H1 lc1 sa → lv_has ls1 13 [(5, .int (iI r42)), (0, .ref (ad 100)), (1, .int (iI pn)), (2, .int (iI dn)), (3, .int (iI lo)), (4, .int (iI up))] → W pp l ee (rmh (12 + d)) ss mm args below meth cq H1 lc1 0 0 (MQ below (QI D ad G ids (sePost p d σ lo up) ss.heap.size) args ss 0 0 (AN ad ids ss.heap.size)) (F0 mm 115 ls1 []) := by
        intro  H1 lc1 ls1 hno hM hl
        have J137 : ∀ (e : Int) (H1 : Heap) (lc1 : List Loc) (ls1 : Array Slot), (mvT (mw sa) r42 = e) → XI D ad G ids (AN ad ids ss.heap.size) ss.heap H1 lc1 sa → lv_has ls1 13 [(5, .int (iI r42)), (0, .ref (ad 100)), (1, .int (iI pn)), (2, .int (iI dn)), (3, .int (iI lo)), (4, .int (iI up))] → W pp l ee (rmh (12 + d)) ss mm args below meth cq H1 lc1 0 0 (MQ below (QI D ad G ids (sePost p d σ lo up) ss.heap.size) args ss 0 0 (AN ad ids ss.heap.size)) (F0 mm 137 ls1 [.int (iI e), .int (iI dn), .int (iI pn), .ref (ad 100)]) := by
          intro e H1 lc1 ls1 he hM hl
          refine x_ci (x_runV (As := [.int (iI pn), .int (iI dn), .int (iI e)]) (rest := []) C (by omega) cw_X12_185 (c_X12_order l D ad G ids hJ sa p pn dn e hpn (by omega) (by omega) (by have q := he; unfold mvT at q; have q4 : -1 ≤ mw sa 14 r42 ∧ mw sa 14 r42 < 2500 := hq4.2.2.2.1; split at q <;> omega) hTa hGa) hM (hJ 100 (by decide) (by decide)) (cx_100 ad G _) rfl rfl rfl rfl (Nat.le_of_ble_eq_true rfl) hl.1 dX12_searched_137) hM (fun r137 s137 H1 lc1 hp hM => ?_)
          obtain ⟨rfl, hOs137, hfs137⟩ := hp
          rw [fa 201 (by decide), fa 202 (by decide), fa 203 (by decide), fa 204 (by decide), fa 217 (by decide), fa 218 (by decide)] at hOs137
          rw [fa 201 (by decide), fa 202 (by decide), fa 203 (by decide), fa 204 (by decide)]
          obtain ⟨O, hO⟩ : ∃ O, O = ord (σ 201) (MLs (σ 201) (σ 202 0) (σ 203 0) (σ 204 0)) e (σ 217 dn) (σ 218 dn) := ⟨_, rfl⟩
          rw [← hO] at hOs137
          have hOl : O.length = (MLs (σ 201) (σ 202 0) (σ 203 0) (σ 204 0)).length := by rw [hO]; exact ord_len hN
          have hOn : O ≠ [] := by rw [hO]; exact ord_nil hne
          obtain ⟨TR, hTR⟩ : ∃ TR : Int × Int × Int × Sg, TR = slp (sb (cfg (mw σ)) d1) (σ 201) (σ 204 0) lo up O (-10000) (-1) 1 (tv (mw σ)) := ⟨_, rfl⟩
          have hf0 : ∀ r : Nat, r ≠ 221 → FRS p r → s137 r = σ r := fun r a b => (hfs137 r (by unfold FRS at b; omega) (by unfold FRS at b; omega)).trans (fa r a)
          have hv0 : tv (mw s137) = tv (mw σ) := (tv_mw (fun r hr => hfs137 r (by omega) (by omega))).trans hva
          have hT0 : TI (mw s137) := hTa.of (fun r hr => hfs137 (200 + r) (by omega) (by omega))
          have hT90 : T9 (mw s137) := hT9.of ((hfs137 212 (by omega) (by omega)).trans (fa 212 (by decide)))
          have h90 := fun v => (sb_9 hG.2.2.2.2 d1 (mvF (σ 201) v) (1 - σ 204 0) (-up) (-lo) (tv (mw σ)) (by omega) (T9_tv.mpr hT9) (by omega) (by omega)).2.2
          refine lv_istore (lv' := [(6, .int (iI ((MLs (σ 201) (σ 202 0) (σ 203 0) (σ 204 0)).length : Int))), (5, .int (iI r42)), (0, .ref (ad 100)), (1, .int (iI pn)), (2, .int (iI dn)), (3, .int (iI lo)), (4, .int (iI up))]) C.1 C.2.1 dX12_searched_140 hl (by decide) rfl (fun ls hl => ?_)
          refine lv_ldc (v := iI (-100000)) C.1 C.2.1 C.2.2.2.1 (C.2.2.2.2.1 _ wk_X12_144) dX12_searched_142 ?_
          refine lv_istore (lv' := [(7, .int (iI (-100000))), (6, .int (iI ((MLs (σ 201) (σ 202 0) (σ 203 0) (σ 204 0)).length : Int))), (5, .int (iI r42)), (0, .ref (ad 100)), (1, .int (iI pn)), (2, .int (iI dn)), (3, .int (iI lo)), (4, .int (iI up))]) C.1 C.2.1 dX12_searched_144 hl (by decide) rfl (fun ls hl => ?_)
          refine lv_iconst (v := iI (-1)) C.1 C.2.1 dX12_searched_146 (by decide) ?_
          refine lv_istore (lv' := [(8, .int (iI (-1))), (7, .int (iI (-100000))), (6, .int (iI ((MLs (σ 201) (σ 202 0) (σ 203 0) (σ 204 0)).length : Int))), (5, .int (iI r42)), (0, .ref (ad 100)), (1, .int (iI pn)), (2, .int (iI dn)), (3, .int (iI lo)), (4, .int (iI up))]) C.1 C.2.1 dX12_searched_147 hl (by decide) rfl (fun ls hl => ?_)
          refine lv_iconst (v := iI 0) C.1 C.2.1 dX12_searched_149 (by decide) ?_
          refine lv_istore (lv' := [(9, .int (iI 0)), (8, .int (iI (-1))), (7, .int (iI (-100000))), (6, .int (iI ((MLs (σ 201) (σ 202 0) (σ 203 0) (σ 204 0)).length : Int))), (5, .int (iI r42)), (0, .ref (ad 100)), (1, .int (iI pn)), (2, .int (iI dn)), (3, .int (iI lo)), (4, .int (iI up))]) C.1 C.2.1 dX12_searched_150 hl (by decide) rfl (fun ls hl => ?_)
          have L152 : ∀ (fu : Nat) (x : Int) (b : Int) (f : Int) (n : Int) (s1 : Sg) (H1 : Heap) (lc1 : List Loc) (ls1 : Array Slot), (0 ≤ x ∧ x ≤ O.length) → (-100000 ≤ b ∧ b ≤ 9000 ∧ (b < -9999 ∨ -9000 ≤ b)) → ((b = -100000 ∧ f = -1) ∨ f ∈ (MLs (σ 201) (σ 202 0) (σ 203 0) (σ 204 0))) → (RWL s1 (255 + p) O) → (TI (mw s1)) → (T9 (mw s1)) → (∀ r : Nat, FRS p r → s1 r = σ r) → (s1 221 0 = σ 221 0 + n) → ((b < up ∧ slp (sb (cfg (mw σ)) d1) (σ 201) (σ 204 0) lo up (O.drop x.toNat) b f n (tv (mw s1)) = TR) ∨ (up ≤ b ∧ ∃ τ0, TR = (b, f, n, τ0) ∧ tv (mw s1) = cutT τ0 (σ 201) dn f)) → (20 - x).toNat < fu → XI D ad G ids (AN ad ids ss.heap.size) ss.heap H1 lc1 s1 → lv_has ls1 13 [(9, .int (iI x)), (8, .int (iI f)), (7, .int (iI b)), (6, .int (iI ((MLs (σ 201) (σ 202 0) (σ 203 0) (σ 204 0)).length : Int))), (5, .int (iI r42)), (0, .ref (ad 100)), (1, .int (iI pn)), (2, .int (iI dn)), (3, .int (iI lo)), (4, .int (iI up))] → W pp l ee (rmh (12 + d)) ss mm args below meth cq H1 lc1 0 0 (MQ below (QI D ad G ids (sePost p d σ lo up) ss.heap.size) args ss 0 0 (AN ad ids ss.heap.size)) (F0 mm 152 ls1 []) := by
            intro fu
            induction fu with
            | zero => intro x b f n s1 H1 lc1 ls1 x0 hb hf hO1 hT1 hT91 hfr hn hq hfu; exact absurd hfu (Nat.not_lt_zero _)
            | succ fu ih152 =>
              intro x b f n s1 H1 lc1 ls1 x0 hb hf hO1 hT1 hT91 hfr hn hq hfu hM hl
              refine lv_iload C.1 C.2.1 dX12_searched_152 (lv_at hl 0 rfl) ?_
              refine lv_iload C.1 C.2.1 dX12_searched_154 (lv_at hl 3 rfl) ?_
              refine x_icmp_ge C ⟨by omega, by omega⟩ ⟨by omega, by omega⟩ (tgt := 254) dX12_searched_156 (by decide) (fun c156 => ?_) (fun c156 => ?_)
              · refine lv_aload_n C.1 C.2.1 dX12_searched_254 rfl (lv_at hl 5 rfl) ?_
                have e1 := hfr 201 (by unfold FRS; omega)
                have e2 := hfr 202 (by unfold FRS; omega)
                have e3 := hfr 203 (by unfold FRS; omega)
                have e4 := hfr 204 (by unfold FRS; omega)
                have hGs : GI (mw s1) := GIm_of hG (fun r _ _ => hfr r (by unfold FRS; omega))
                have hcs : cfg (mw s1) = cfg (mw σ) := cfg_of (fun r hr => hfr (200 + r) (by unfold FRS; omega))
                have hws : s1 202 0 * s1 203 0 = σ 202 0 * σ 203 0 := by rw [e2, e3]
                refine lv_iload_n C.1 C.2.1 dX12_searched_255 rfl (lv_at hl 7 rfl) ?_
                refine lv_iload C.1 C.2.1 dX12_searched_256 (lv_at hl 2 rfl) ?_
                refine lv_iload C.1 C.2.1 dX12_searched_258 (lv_at hl 2 rfl) ?_
                refine lv_iload C.1 C.2.1 dX12_searched_260 (lv_at hl 9 rfl) ?_
                refine x_icmp_lt C ⟨by omega, by omega⟩ ⟨by omega, by omega⟩ (tgt := 269) dX12_searched_262 (by decide) (fun c262 => ?_) (fun c262 => ?_)
                · refine lv_iload C.1 C.2.1 dX12_searched_269 (lv_at hl 2 rfl) ?_
                  refine lv_iload_n C.1 C.2.1 dX12_searched_271 rfl (lv_at hl 8 rfl) ?_
                  refine x_icmp_gt C ⟨by omega, by omega⟩ ⟨by omega, by omega⟩ (tgt := 279) dX12_searched_272 (by decide) (fun c272 => ?_) (fun c272 => ?_)
                  · refine lv_iconst (v := iI 0) C.1 C.2.1 dX12_searched_279 (by decide) ?_
                    refine lv_iload C.1 C.2.1 dX12_searched_280 (lv_at hl 1 rfl) ?_
                    refine x_cv (x_runV (As := [.int (iI dn), .int (iI b), .int (iI 0), .int (iI f)]) (rest := []) C (by omega) cw_X12_194 (c_X12_keep l D ad G ids hJ s1 dn b 0 f hT1 hGs) hM (hJ 100 (by decide) (by decide)) (cx_100 ad G _) rfl rfl rfl rfl (Nat.le_of_ble_eq_true rfl) hl.1 dX12_searched_282) hM (fun s282 H1 lc1 hp hM => ?_)
                    obtain rfl := hp
                    refine lv_aload_n C.1 C.2.1 dX12_searched_285 rfl (lv_at hl 5 rfl) ?_
                    refine lv_iload C.1 C.2.1 dX12_searched_286 (lv_at hl 1 rfl) ?_
                    refine p_X12_20 C hM (hJ 100 (by decide) (by decide)) wf_X12_48 dX12_searched_288 (fun H1 lc1 hM => ?_)
                    refine lv_iload C.1 C.2.1 dX12_searched_291 (lv_at hl 2 rfl) ?_
                    refine x_iret C hr hM ?_ dX12_searched_293
                    exact by
                      have hkk : keyS (cfg (mw s1)) (s1 201) (s1 204 0) = ky := by rw [hcs, e1, e4, hky]
                      have hbe : (up ≤ b ∧ ∃ τ0, TR = (b, f, n, τ0) ∧ tv (mw s1) = cutT τ0 (σ 201) dn f) ∨ (b < up ∧ TR = (b, f, n, tv (mw s1))) := by
                        rcases hq with ⟨q1, q2⟩ | q
                        · right
                          refine ⟨q1, ?_⟩
                          rw [← q2, drop_e (L := O) (by omega) (by omega)]
                          rfl
                        · exact Or.inl q
                      have hmt : mvT (tv (mw sa)) r42 = e := by
                        rw [← he]
                        unfold mvT
                        rw [tv_in (mw sa) (r := 14) (by omega)]
                      have hoS : ordS (tv (mw σ)) (σ 201) (MLs (σ 201) (σ 202 0) (σ 203 0) (σ 204 0)) ky ((d1 : Int) + 1) = O := by
                        unfold ordS
                        rw [← hva, tv_fnd, hbs42, hmt, tv_in (mw sa) (r := 17) (by omega), tv_in (mw sa) (r := 18) (by omega), hO, ← show dn = (d1 : Int) + 1 by omega]
                        show ord _ _ e (sa 217 dn) (sa 218 dn) = _
                        rw [fa 217 (by decide), fa 218 (by decide)]
                      have eS : (sb (cfg (mw σ)) d (σ 201) (σ 204 0) lo up (tv (mw σ))) = (TR.1, TR.2.2.1, setT (endT (σ 201) dn lo up ky TR) 19 TR.2.1) := by
                        have q := sb_go (S := cfg (mw σ)) (c := σ 201) (sd := σ 204 0) (lo := lo) (up := up) (τ := tv (mw σ)) (d1 := d1) (s := r42) (ky := ky) (L := (MLs (σ 201) (σ 202 0) (σ 203 0) (σ 204 0))) rfl hne hky.symm (by rw [← hva, tv_fnd]; exact hbs42) (by rw [← hva, tv_ans, ← show dn = (d1 : Int) + 1 by omega]; exact hno) (R := TR) (by rw [hoS, hTR])
                        rw [hd1, q, show dn = (d1 : Int) + 1 by omega]
                      unfold sePost
                      rw [eS]
                      refine ⟨?_, ?_, ?_, ?_⟩
                      · rcases hbe with ⟨_, τ0, q, _⟩ | ⟨_, q⟩ <;> rw [q]
                      · show tv (mw (upr (keM s1 (keyS (cfg (mw s1)) (s1 201) (s1 204 0)) dn b 0 f) (200 + 19) (ups ((keM s1 (keyS (cfg (mw s1)) (s1 201) (s1 204 0)) dn b 0 f) (200 + 19)) 0 f))) = _
                        rw [mw_set, tv_set _ _ (by omega), mw_ke, tv_sto, hkk]
                        rcases hbe with ⟨q1, τ0, q, q2⟩ | ⟨q1, q⟩
                        · exfalso; omega
                        · have c1 : ¬ up ≤ b := by omega
                          have c2 : ¬ b ≤ lo := by omega
                          rw [q]
                          simp only [endT, if_neg c1, if_neg c2]
                      · rw [upr_ne _ _ (by decide), keM_o (by decide), hn]
                        rcases hbe with ⟨_, τ0, q, _⟩ | ⟨_, q⟩ <;> rw [q]
                      · intro r hr
                        have hr2 := hr
                        unfold FRS at hr2
                        rw [upr_ne _ _ (by omega), keM_o (by omega)]; exact hfr r hr
                  · refine lv_iconst (v := iI 2) C.1 C.2.1 dX12_searched_275 (by decide) ?_
                    refine lv_goto (tgt := 280) C.1 C.2.1 dX12_searched_276 (by decide) ?_
                    refine lv_iload C.1 C.2.1 dX12_searched_280 (lv_at hl 1 rfl) ?_
                    refine x_cv (x_runV (As := [.int (iI dn), .int (iI b), .int (iI 2), .int (iI f)]) (rest := []) C (by omega) cw_X12_194 (c_X12_keep l D ad G ids hJ s1 dn b 2 f hT1 hGs) hM (hJ 100 (by decide) (by decide)) (cx_100 ad G _) rfl rfl rfl rfl (Nat.le_of_ble_eq_true rfl) hl.1 dX12_searched_282) hM (fun s282 H1 lc1 hp hM => ?_)
                    obtain rfl := hp
                    refine lv_aload_n C.1 C.2.1 dX12_searched_285 rfl (lv_at hl 5 rfl) ?_
                    refine lv_iload C.1 C.2.1 dX12_searched_286 (lv_at hl 1 rfl) ?_
                    refine p_X12_20 C hM (hJ 100 (by decide) (by decide)) wf_X12_48 dX12_searched_288 (fun H1 lc1 hM => ?_)
                    refine lv_iload C.1 C.2.1 dX12_searched_291 (lv_at hl 2 rfl) ?_
                    refine x_iret C hr hM ?_ dX12_searched_293
                    exact by
                      have hkk : keyS (cfg (mw s1)) (s1 201) (s1 204 0) = ky := by rw [hcs, e1, e4, hky]
                      have hbe : (up ≤ b ∧ ∃ τ0, TR = (b, f, n, τ0) ∧ tv (mw s1) = cutT τ0 (σ 201) dn f) ∨ (b < up ∧ TR = (b, f, n, tv (mw s1))) := by
                        rcases hq with ⟨q1, q2⟩ | q
                        · right
                          refine ⟨q1, ?_⟩
                          rw [← q2, drop_e (L := O) (by omega) (by omega)]
                          rfl
                        · exact Or.inl q
                      have hmt : mvT (tv (mw sa)) r42 = e := by
                        rw [← he]
                        unfold mvT
                        rw [tv_in (mw sa) (r := 14) (by omega)]
                      have hoS : ordS (tv (mw σ)) (σ 201) (MLs (σ 201) (σ 202 0) (σ 203 0) (σ 204 0)) ky ((d1 : Int) + 1) = O := by
                        unfold ordS
                        rw [← hva, tv_fnd, hbs42, hmt, tv_in (mw sa) (r := 17) (by omega), tv_in (mw sa) (r := 18) (by omega), hO, ← show dn = (d1 : Int) + 1 by omega]
                        show ord _ _ e (sa 217 dn) (sa 218 dn) = _
                        rw [fa 217 (by decide), fa 218 (by decide)]
                      have eS : (sb (cfg (mw σ)) d (σ 201) (σ 204 0) lo up (tv (mw σ))) = (TR.1, TR.2.2.1, setT (endT (σ 201) dn lo up ky TR) 19 TR.2.1) := by
                        have q := sb_go (S := cfg (mw σ)) (c := σ 201) (sd := σ 204 0) (lo := lo) (up := up) (τ := tv (mw σ)) (d1 := d1) (s := r42) (ky := ky) (L := (MLs (σ 201) (σ 202 0) (σ 203 0) (σ 204 0))) rfl hne hky.symm (by rw [← hva, tv_fnd]; exact hbs42) (by rw [← hva, tv_ans, ← show dn = (d1 : Int) + 1 by omega]; exact hno) (R := TR) (by rw [hoS, hTR])
                        rw [hd1, q, show dn = (d1 : Int) + 1 by omega]
                      unfold sePost
                      rw [eS]
                      refine ⟨?_, ?_, ?_, ?_⟩
                      · rcases hbe with ⟨_, τ0, q, _⟩ | ⟨_, q⟩ <;> rw [q]
                      · show tv (mw (upr (keM s1 (keyS (cfg (mw s1)) (s1 201) (s1 204 0)) dn b 2 f) (200 + 19) (ups ((keM s1 (keyS (cfg (mw s1)) (s1 201) (s1 204 0)) dn b 2 f) (200 + 19)) 0 f))) = _
                        rw [mw_set, tv_set _ _ (by omega), mw_ke, tv_sto, hkk]
                        rcases hbe with ⟨q1, τ0, q, q2⟩ | ⟨q1, q⟩
                        · exfalso; omega
                        · have c1 : ¬ up ≤ b := by omega
                          have c2 : b ≤ lo := by omega
                          rw [q]
                          simp only [endT, if_neg c1, if_pos c2]
                      · rw [upr_ne _ _ (by decide), keM_o (by decide), hn]
                        rcases hbe with ⟨_, τ0, q, _⟩ | ⟨_, q⟩ <;> rw [q]
                      · intro r hr
                        have hr2 := hr
                        unfold FRS at hr2
                        rw [upr_ne _ _ (by omega), keM_o (by omega)]; exact hfr r hr
                · refine lv_iconst (v := iI 1) C.1 C.2.1 dX12_searched_265 (by decide) ?_
                  refine lv_goto (tgt := 280) C.1 C.2.1 dX12_searched_266 (by decide) ?_
                  refine lv_iload C.1 C.2.1 dX12_searched_280 (lv_at hl 1 rfl) ?_
                  refine x_cv (x_runV (As := [.int (iI dn), .int (iI b), .int (iI 1), .int (iI f)]) (rest := []) C (by omega) cw_X12_194 (c_X12_keep l D ad G ids hJ s1 dn b 1 f hT1 hGs) hM (hJ 100 (by decide) (by decide)) (cx_100 ad G _) rfl rfl rfl rfl (Nat.le_of_ble_eq_true rfl) hl.1 dX12_searched_282) hM (fun s282 H1 lc1 hp hM => ?_)
                  obtain rfl := hp
                  refine lv_aload_n C.1 C.2.1 dX12_searched_285 rfl (lv_at hl 5 rfl) ?_
                  refine lv_iload C.1 C.2.1 dX12_searched_286 (lv_at hl 1 rfl) ?_
                  refine p_X12_20 C hM (hJ 100 (by decide) (by decide)) wf_X12_48 dX12_searched_288 (fun H1 lc1 hM => ?_)
                  refine lv_iload C.1 C.2.1 dX12_searched_291 (lv_at hl 2 rfl) ?_
                  refine x_iret C hr hM ?_ dX12_searched_293
                  exact by
                    have hkk : keyS (cfg (mw s1)) (s1 201) (s1 204 0) = ky := by rw [hcs, e1, e4, hky]
                    have hbe : (up ≤ b ∧ ∃ τ0, TR = (b, f, n, τ0) ∧ tv (mw s1) = cutT τ0 (σ 201) dn f) ∨ (b < up ∧ TR = (b, f, n, tv (mw s1))) := by
                      rcases hq with ⟨q1, q2⟩ | q
                      · right
                        refine ⟨q1, ?_⟩
                        rw [← q2, drop_e (L := O) (by omega) (by omega)]
                        rfl
                      · exact Or.inl q
                    have hmt : mvT (tv (mw sa)) r42 = e := by
                      rw [← he]
                      unfold mvT
                      rw [tv_in (mw sa) (r := 14) (by omega)]
                    have hoS : ordS (tv (mw σ)) (σ 201) (MLs (σ 201) (σ 202 0) (σ 203 0) (σ 204 0)) ky ((d1 : Int) + 1) = O := by
                      unfold ordS
                      rw [← hva, tv_fnd, hbs42, hmt, tv_in (mw sa) (r := 17) (by omega), tv_in (mw sa) (r := 18) (by omega), hO, ← show dn = (d1 : Int) + 1 by omega]
                      show ord _ _ e (sa 217 dn) (sa 218 dn) = _
                      rw [fa 217 (by decide), fa 218 (by decide)]
                    have eS : (sb (cfg (mw σ)) d (σ 201) (σ 204 0) lo up (tv (mw σ))) = (TR.1, TR.2.2.1, setT (endT (σ 201) dn lo up ky TR) 19 TR.2.1) := by
                      have q := sb_go (S := cfg (mw σ)) (c := σ 201) (sd := σ 204 0) (lo := lo) (up := up) (τ := tv (mw σ)) (d1 := d1) (s := r42) (ky := ky) (L := (MLs (σ 201) (σ 202 0) (σ 203 0) (σ 204 0))) rfl hne hky.symm (by rw [← hva, tv_fnd]; exact hbs42) (by rw [← hva, tv_ans, ← show dn = (d1 : Int) + 1 by omega]; exact hno) (R := TR) (by rw [hoS, hTR])
                      rw [hd1, q, show dn = (d1 : Int) + 1 by omega]
                    unfold sePost
                    rw [eS]
                    refine ⟨?_, ?_, ?_, ?_⟩
                    · rcases hbe with ⟨_, τ0, q, _⟩ | ⟨_, q⟩ <;> rw [q]
                    · show tv (mw (upr (keM s1 (keyS (cfg (mw s1)) (s1 201) (s1 204 0)) dn b 1 f) (200 + 19) (ups ((keM s1 (keyS (cfg (mw s1)) (s1 201) (s1 204 0)) dn b 1 f) (200 + 19)) 0 f))) = _
                      rw [mw_set, tv_set _ _ (by omega), mw_ke, tv_sto, hkk]
                      rcases hbe with ⟨q1, τ0, q, q2⟩ | ⟨q1, q⟩
                      · rw [q, q2]
                        simp only [endT, if_pos q1]
                      · exfalso; omega
                    · rw [upr_ne _ _ (by decide), keM_o (by decide), hn]
                      rcases hbe with ⟨_, τ0, q, _⟩ | ⟨_, q⟩ <;> rw [q]
                    · intro r hr
                      have hr2 := hr
                      unfold FRS at hr2
                      rw [upr_ne _ _ (by omega), keM_o (by omega)]; exact hfr r hr
              · refine lv_iload C.1 C.2.1 dX12_searched_159 (lv_at hl 2 rfl) ?_
                refine lv_iload C.1 C.2.1 dX12_searched_161 (lv_at hl 9 rfl) ?_
                refine x_icmp_ge C ⟨by omega, by omega⟩ ⟨by omega, by omega⟩ (tgt := 254) dX12_searched_163 (by decide) (fun c163 => ?_) (fun c163 => ?_)
                · refine lv_aload_n C.1 C.2.1 dX12_searched_254 rfl (lv_at hl 5 rfl) ?_
                  have e1 := hfr 201 (by unfold FRS; omega)
                  have e2 := hfr 202 (by unfold FRS; omega)
                  have e3 := hfr 203 (by unfold FRS; omega)
                  have e4 := hfr 204 (by unfold FRS; omega)
                  have hGs : GI (mw s1) := GIm_of hG (fun r _ _ => hfr r (by unfold FRS; omega))
                  have hcs : cfg (mw s1) = cfg (mw σ) := cfg_of (fun r hr => hfr (200 + r) (by unfold FRS; omega))
                  have hws : s1 202 0 * s1 203 0 = σ 202 0 * σ 203 0 := by rw [e2, e3]
                  refine lv_iload_n C.1 C.2.1 dX12_searched_255 rfl (lv_at hl 7 rfl) ?_
                  refine lv_iload C.1 C.2.1 dX12_searched_256 (lv_at hl 2 rfl) ?_
                  refine lv_iload C.1 C.2.1 dX12_searched_258 (lv_at hl 2 rfl) ?_
                  refine lv_iload C.1 C.2.1 dX12_searched_260 (lv_at hl 9 rfl) ?_
                  refine x_icmp_lt C ⟨by omega, by omega⟩ ⟨by omega, by omega⟩ (tgt := 269) dX12_searched_262 (by decide) (fun c262 => ?_) (fun c262 => ?_)
                  · refine lv_iload C.1 C.2.1 dX12_searched_269 (lv_at hl 2 rfl) ?_
                    refine lv_iload_n C.1 C.2.1 dX12_searched_271 rfl (lv_at hl 8 rfl) ?_
                    refine x_icmp_gt C ⟨by omega, by omega⟩ ⟨by omega, by omega⟩ (tgt := 279) dX12_searched_272 (by decide) (fun c272 => ?_) (fun c272 => ?_)
                    · refine lv_iconst (v := iI 0) C.1 C.2.1 dX12_searched_279 (by decide) ?_
                      refine lv_iload C.1 C.2.1 dX12_searched_280 (lv_at hl 1 rfl) ?_
                      refine x_cv (x_runV (As := [.int (iI dn), .int (iI b), .int (iI 0), .int (iI f)]) (rest := []) C (by omega) cw_X12_194 (c_X12_keep l D ad G ids hJ s1 dn b 0 f hT1 hGs) hM (hJ 100 (by decide) (by decide)) (cx_100 ad G _) rfl rfl rfl rfl (Nat.le_of_ble_eq_true rfl) hl.1 dX12_searched_282) hM (fun s282 H1 lc1 hp hM => ?_)
                      obtain rfl := hp
                      refine lv_aload_n C.1 C.2.1 dX12_searched_285 rfl (lv_at hl 5 rfl) ?_
                      refine lv_iload C.1 C.2.1 dX12_searched_286 (lv_at hl 1 rfl) ?_
                      refine p_X12_20 C hM (hJ 100 (by decide) (by decide)) wf_X12_48 dX12_searched_288 (fun H1 lc1 hM => ?_)
                      refine lv_iload C.1 C.2.1 dX12_searched_291 (lv_at hl 2 rfl) ?_
                      refine x_iret C hr hM ?_ dX12_searched_293
                      exact by
                        have hkk : keyS (cfg (mw s1)) (s1 201) (s1 204 0) = ky := by rw [hcs, e1, e4, hky]
                        have hbe : (up ≤ b ∧ ∃ τ0, TR = (b, f, n, τ0) ∧ tv (mw s1) = cutT τ0 (σ 201) dn f) ∨ (b < up ∧ TR = (b, f, n, tv (mw s1))) := by
                          rcases hq with ⟨q1, q2⟩ | q
                          · right
                            refine ⟨q1, ?_⟩
                            rw [← q2, drop_e (L := O) (by omega) (by omega)]
                            rfl
                          · exact Or.inl q
                        have hmt : mvT (tv (mw sa)) r42 = e := by
                          rw [← he]
                          unfold mvT
                          rw [tv_in (mw sa) (r := 14) (by omega)]
                        have hoS : ordS (tv (mw σ)) (σ 201) (MLs (σ 201) (σ 202 0) (σ 203 0) (σ 204 0)) ky ((d1 : Int) + 1) = O := by
                          unfold ordS
                          rw [← hva, tv_fnd, hbs42, hmt, tv_in (mw sa) (r := 17) (by omega), tv_in (mw sa) (r := 18) (by omega), hO, ← show dn = (d1 : Int) + 1 by omega]
                          show ord _ _ e (sa 217 dn) (sa 218 dn) = _
                          rw [fa 217 (by decide), fa 218 (by decide)]
                        have eS : (sb (cfg (mw σ)) d (σ 201) (σ 204 0) lo up (tv (mw σ))) = (TR.1, TR.2.2.1, setT (endT (σ 201) dn lo up ky TR) 19 TR.2.1) := by
                          have q := sb_go (S := cfg (mw σ)) (c := σ 201) (sd := σ 204 0) (lo := lo) (up := up) (τ := tv (mw σ)) (d1 := d1) (s := r42) (ky := ky) (L := (MLs (σ 201) (σ 202 0) (σ 203 0) (σ 204 0))) rfl hne hky.symm (by rw [← hva, tv_fnd]; exact hbs42) (by rw [← hva, tv_ans, ← show dn = (d1 : Int) + 1 by omega]; exact hno) (R := TR) (by rw [hoS, hTR])
                          rw [hd1, q, show dn = (d1 : Int) + 1 by omega]
                        unfold sePost
                        rw [eS]
                        refine ⟨?_, ?_, ?_, ?_⟩
                        · rcases hbe with ⟨_, τ0, q, _⟩ | ⟨_, q⟩ <;> rw [q]
                        · show tv (mw (upr (keM s1 (keyS (cfg (mw s1)) (s1 201) (s1 204 0)) dn b 0 f) (200 + 19) (ups ((keM s1 (keyS (cfg (mw s1)) (s1 201) (s1 204 0)) dn b 0 f) (200 + 19)) 0 f))) = _
                          rw [mw_set, tv_set _ _ (by omega), mw_ke, tv_sto, hkk]
                          rcases hbe with ⟨q1, τ0, q, q2⟩ | ⟨q1, q⟩
                          · exfalso; omega
                          · have c1 : ¬ up ≤ b := by omega
                            have c2 : ¬ b ≤ lo := by omega
                            rw [q]
                            simp only [endT, if_neg c1, if_neg c2]
                        · rw [upr_ne _ _ (by decide), keM_o (by decide), hn]
                          rcases hbe with ⟨_, τ0, q, _⟩ | ⟨_, q⟩ <;> rw [q]
                        · intro r hr
                          have hr2 := hr
                          unfold FRS at hr2
                          rw [upr_ne _ _ (by omega), keM_o (by omega)]; exact hfr r hr
                    · refine lv_iconst (v := iI 2) C.1 C.2.1 dX12_searched_275 (by decide) ?_
                      refine lv_goto (tgt := 280) C.1 C.2.1 dX12_searched_276 (by decide) ?_
                      refine lv_iload C.1 C.2.1 dX12_searched_280 (lv_at hl 1 rfl) ?_
                      refine x_cv (x_runV (As := [.int (iI dn), .int (iI b), .int (iI 2), .int (iI f)]) (rest := []) C (by omega) cw_X12_194 (c_X12_keep l D ad G ids hJ s1 dn b 2 f hT1 hGs) hM (hJ 100 (by decide) (by decide)) (cx_100 ad G _) rfl rfl rfl rfl (Nat.le_of_ble_eq_true rfl) hl.1 dX12_searched_282) hM (fun s282 H1 lc1 hp hM => ?_)
                      obtain rfl := hp
                      refine lv_aload_n C.1 C.2.1 dX12_searched_285 rfl (lv_at hl 5 rfl) ?_
                      refine lv_iload C.1 C.2.1 dX12_searched_286 (lv_at hl 1 rfl) ?_
                      refine p_X12_20 C hM (hJ 100 (by decide) (by decide)) wf_X12_48 dX12_searched_288 (fun H1 lc1 hM => ?_)
                      refine lv_iload C.1 C.2.1 dX12_searched_291 (lv_at hl 2 rfl) ?_
                      refine x_iret C hr hM ?_ dX12_searched_293
                      exact by
                        have hkk : keyS (cfg (mw s1)) (s1 201) (s1 204 0) = ky := by rw [hcs, e1, e4, hky]
                        have hbe : (up ≤ b ∧ ∃ τ0, TR = (b, f, n, τ0) ∧ tv (mw s1) = cutT τ0 (σ 201) dn f) ∨ (b < up ∧ TR = (b, f, n, tv (mw s1))) := by
                          rcases hq with ⟨q1, q2⟩ | q
                          · right
                            refine ⟨q1, ?_⟩
                            rw [← q2, drop_e (L := O) (by omega) (by omega)]
                            rfl
                          · exact Or.inl q
                        have hmt : mvT (tv (mw sa)) r42 = e := by
                          rw [← he]
                          unfold mvT
                          rw [tv_in (mw sa) (r := 14) (by omega)]
                        have hoS : ordS (tv (mw σ)) (σ 201) (MLs (σ 201) (σ 202 0) (σ 203 0) (σ 204 0)) ky ((d1 : Int) + 1) = O := by
                          unfold ordS
                          rw [← hva, tv_fnd, hbs42, hmt, tv_in (mw sa) (r := 17) (by omega), tv_in (mw sa) (r := 18) (by omega), hO, ← show dn = (d1 : Int) + 1 by omega]
                          show ord _ _ e (sa 217 dn) (sa 218 dn) = _
                          rw [fa 217 (by decide), fa 218 (by decide)]
                        have eS : (sb (cfg (mw σ)) d (σ 201) (σ 204 0) lo up (tv (mw σ))) = (TR.1, TR.2.2.1, setT (endT (σ 201) dn lo up ky TR) 19 TR.2.1) := by
                          have q := sb_go (S := cfg (mw σ)) (c := σ 201) (sd := σ 204 0) (lo := lo) (up := up) (τ := tv (mw σ)) (d1 := d1) (s := r42) (ky := ky) (L := (MLs (σ 201) (σ 202 0) (σ 203 0) (σ 204 0))) rfl hne hky.symm (by rw [← hva, tv_fnd]; exact hbs42) (by rw [← hva, tv_ans, ← show dn = (d1 : Int) + 1 by omega]; exact hno) (R := TR) (by rw [hoS, hTR])
                          rw [hd1, q, show dn = (d1 : Int) + 1 by omega]
                        unfold sePost
                        rw [eS]
                        refine ⟨?_, ?_, ?_, ?_⟩
                        · rcases hbe with ⟨_, τ0, q, _⟩ | ⟨_, q⟩ <;> rw [q]
                        · show tv (mw (upr (keM s1 (keyS (cfg (mw s1)) (s1 201) (s1 204 0)) dn b 2 f) (200 + 19) (ups ((keM s1 (keyS (cfg (mw s1)) (s1 201) (s1 204 0)) dn b 2 f) (200 + 19)) 0 f))) = _
                          rw [mw_set, tv_set _ _ (by omega), mw_ke, tv_sto, hkk]
                          rcases hbe with ⟨q1, τ0, q, q2⟩ | ⟨q1, q⟩
                          · exfalso; omega
                          · have c1 : ¬ up ≤ b := by omega
                            have c2 : b ≤ lo := by omega
                            rw [q]
                            simp only [endT, if_neg c1, if_pos c2]
                        · rw [upr_ne _ _ (by decide), keM_o (by decide), hn]
                          rcases hbe with ⟨_, τ0, q, _⟩ | ⟨_, q⟩ <;> rw [q]
                        · intro r hr
                          have hr2 := hr
                          unfold FRS at hr2
                          rw [upr_ne _ _ (by omega), keM_o (by omega)]; exact hfr r hr
                  · refine lv_iconst (v := iI 1) C.1 C.2.1 dX12_searched_265 (by decide) ?_
                    refine lv_goto (tgt := 280) C.1 C.2.1 dX12_searched_266 (by decide) ?_
                    refine lv_iload C.1 C.2.1 dX12_searched_280 (lv_at hl 1 rfl) ?_
                    refine x_cv (x_runV (As := [.int (iI dn), .int (iI b), .int (iI 1), .int (iI f)]) (rest := []) C (by omega) cw_X12_194 (c_X12_keep l D ad G ids hJ s1 dn b 1 f hT1 hGs) hM (hJ 100 (by decide) (by decide)) (cx_100 ad G _) rfl rfl rfl rfl (Nat.le_of_ble_eq_true rfl) hl.1 dX12_searched_282) hM (fun s282 H1 lc1 hp hM => ?_)
                    obtain rfl := hp
                    refine lv_aload_n C.1 C.2.1 dX12_searched_285 rfl (lv_at hl 5 rfl) ?_
                    refine lv_iload C.1 C.2.1 dX12_searched_286 (lv_at hl 1 rfl) ?_
                    refine p_X12_20 C hM (hJ 100 (by decide) (by decide)) wf_X12_48 dX12_searched_288 (fun H1 lc1 hM => ?_)
                    refine lv_iload C.1 C.2.1 dX12_searched_291 (lv_at hl 2 rfl) ?_
                    refine x_iret C hr hM ?_ dX12_searched_293
                    exact by
                      have hkk : keyS (cfg (mw s1)) (s1 201) (s1 204 0) = ky := by rw [hcs, e1, e4, hky]
                      have hbe : (up ≤ b ∧ ∃ τ0, TR = (b, f, n, τ0) ∧ tv (mw s1) = cutT τ0 (σ 201) dn f) ∨ (b < up ∧ TR = (b, f, n, tv (mw s1))) := by
                        rcases hq with ⟨q1, q2⟩ | q
                        · right
                          refine ⟨q1, ?_⟩
                          rw [← q2, drop_e (L := O) (by omega) (by omega)]
                          rfl
                        · exact Or.inl q
                      have hmt : mvT (tv (mw sa)) r42 = e := by
                        rw [← he]
                        unfold mvT
                        rw [tv_in (mw sa) (r := 14) (by omega)]
                      have hoS : ordS (tv (mw σ)) (σ 201) (MLs (σ 201) (σ 202 0) (σ 203 0) (σ 204 0)) ky ((d1 : Int) + 1) = O := by
                        unfold ordS
                        rw [← hva, tv_fnd, hbs42, hmt, tv_in (mw sa) (r := 17) (by omega), tv_in (mw sa) (r := 18) (by omega), hO, ← show dn = (d1 : Int) + 1 by omega]
                        show ord _ _ e (sa 217 dn) (sa 218 dn) = _
                        rw [fa 217 (by decide), fa 218 (by decide)]
                      have eS : (sb (cfg (mw σ)) d (σ 201) (σ 204 0) lo up (tv (mw σ))) = (TR.1, TR.2.2.1, setT (endT (σ 201) dn lo up ky TR) 19 TR.2.1) := by
                        have q := sb_go (S := cfg (mw σ)) (c := σ 201) (sd := σ 204 0) (lo := lo) (up := up) (τ := tv (mw σ)) (d1 := d1) (s := r42) (ky := ky) (L := (MLs (σ 201) (σ 202 0) (σ 203 0) (σ 204 0))) rfl hne hky.symm (by rw [← hva, tv_fnd]; exact hbs42) (by rw [← hva, tv_ans, ← show dn = (d1 : Int) + 1 by omega]; exact hno) (R := TR) (by rw [hoS, hTR])
                        rw [hd1, q, show dn = (d1 : Int) + 1 by omega]
                      unfold sePost
                      rw [eS]
                      refine ⟨?_, ?_, ?_, ?_⟩
                      · rcases hbe with ⟨_, τ0, q, _⟩ | ⟨_, q⟩ <;> rw [q]
                      · show tv (mw (upr (keM s1 (keyS (cfg (mw s1)) (s1 201) (s1 204 0)) dn b 1 f) (200 + 19) (ups ((keM s1 (keyS (cfg (mw s1)) (s1 201) (s1 204 0)) dn b 1 f) (200 + 19)) 0 f))) = _
                        rw [mw_set, tv_set _ _ (by omega), mw_ke, tv_sto, hkk]
                        rcases hbe with ⟨q1, τ0, q, q2⟩ | ⟨q1, q⟩
                        · rw [q, q2]
                          simp only [endT, if_pos q1]
                        · exfalso; omega
                      · rw [upr_ne _ _ (by decide), keM_o (by decide), hn]
                        rcases hbe with ⟨_, τ0, q, _⟩ | ⟨_, q⟩ <;> rw [q]
                      · intro r hr
                        have hr2 := hr
                        unfold FRS at hr2
                        rw [upr_ne _ _ (by omega), keM_o (by omega)]; exact hfr r hr
                · refine lv_aload_n C.1 C.2.1 dX12_searched_166 rfl (lv_at hl 5 rfl) ?_
                  refine g_X12_14 C hM (hJ 100 (by decide) (by decide)) wf_X12_42 dX12_searched_167 ?_
                  have e1 := hfr 201 (by unfold FRS; omega)
                  have e2 := hfr 202 (by unfold FRS; omega)
                  have e3 := hfr 203 (by unfold FRS; omega)
                  have e4 := hfr 204 (by unfold FRS; omega)
                  have hGs : GI (mw s1) := GIm_of hG (fun r _ _ => hfr r (by unfold FRS; omega))
                  have hcs : cfg (mw s1) = cfg (mw σ) := cfg_of (fun r hr => hfr (200 + r) (by unfold FRS; omega))
                  have hws : s1 202 0 * s1 203 0 = σ 202 0 * σ 203 0 := by rw [e2, e3]
                  refine lv_iload_n C.1 C.2.1 dX12_searched_170 rfl (lv_at hl 6 rfl) ?_
                  rw [hpn]
                  refine aa_tried C hM (hJ 182 (by decide) (by decide)) (i := p) (by omega) dX12_searched_171 ?_
                  refine lv_iload C.1 C.2.1 dX12_searched_172 (lv_at hl 0 rfl) ?_
                  refine al_tr C hM (by omega) (hJ _ (by omega) (by omega)) (by omega) (by omega) dX12_searched_174 ?_
                  rw [hO1.at (by omega) (by omega)]
                  have hmL : (O.getD x.toNat (-1)) ∈ (MLs (σ 201) (σ 202 0) (σ 203 0) (σ 204 0)) := ord_mem _ _ _ _ _ (O.getD x.toNat (-1)) (by rw [← hO]; exact getD_mem (by omega) (by omega))
                  have hmv : MV (mw σ) (O.getD x.toNat (-1)) := hmL
                  have hok := hmv.ok hG
                  have hok : (0 ≤ (O.getD x.toNat (-1)) ∧ (O.getD x.toNat (-1)) / 100 < σ 202 0 * σ 203 0 ∧ (O.getD x.toNat (-1)) % 100 < σ 202 0 * σ 203 0) ∧ (O.getD x.toNat (-1)) / 100 ≠ (O.getD x.toNat (-1)) % 100 ∧ (O.getD x.toNat (-1)) < 2500 := hok
                  refine lv_istore (lv' := [(10, .int (iI (O.getD x.toNat (-1)))), (9, .int (iI x)), (8, .int (iI f)), (7, .int (iI b)), (6, .int (iI ((MLs (σ 201) (σ 202 0) (σ 203 0) (σ 204 0)).length : Int))), (5, .int (iI r42)), (0, .ref (ad 100)), (1, .int (iI pn)), (2, .int (iI dn)), (3, .int (iI lo)), (4, .int (iI up))]) C.1 C.2.1 dX12_searched_175 hl (by decide) rfl (fun ls hl => ?_)
                  refine lv_aload_n C.1 C.2.1 dX12_searched_177 rfl (lv_at hl 6 rfl) ?_
                  refine lv_iload C.1 C.2.1 dX12_searched_178 (lv_at hl 0 rfl) ?_
                  refine x_ci (x_runV (As := [.int (iI (O.getD x.toNat (-1)))]) (rest := []) C (by omega) cw_X12_130 (c_X12_make l D ad G ids hJ s1 (O.getD x.toNat (-1)) hGs.1 (by omega)) hM (hJ 100 (by decide) (by decide)) (cx_100 ad G _) rfl rfl rfl rfl (Nat.le_of_ble_eq_true rfl) hl.1 dX12_searched_180) hM (fun r180 s180 H1 lc1 hp hM => ?_)
                  obtain ⟨rfl, rfl⟩ := hp
                  have hmv1 : MV (mw s1) (O.getD x.toNat (-1)) := by
                    show (O.getD x.toNat (-1)) ∈ MLs (s1 201) (s1 202 0) (s1 203 0) (s1 204 0)
                    rw [e1, e2, e3, e4]; exact hmL
                  have hG2 : GI (mw (mvM s1 (O.getD x.toNat (-1)))) := by rw [mw_mv]; exact hGs.mv hmv1
                  have mo : ∀ r : Nat, r ≠ 201 → r ≠ 204 → mvM s1 (O.getD x.toNat (-1)) r = s1 r := fun r a b => mvM_o s1 _ a b
                  have hT2 : TI (mw (mvM s1 (O.getD x.toNat (-1)))) := hT1.of (fun r hr => mo (200 + r) (by omega) (by omega))
                  have hT92 : T9 (mw (mvM s1 (O.getD x.toNat (-1)))) := hT91.of (mo 212 (by decide) (by decide))
                  have hcm : cfg (mw (mvM s1 (O.getD x.toNat (-1)))) = cfg (mw σ) := (cfg_of (fun r hr => mo (200 + r) (by omega) (by omega)) : cfg (mw (mvM s1 (O.getD x.toNat (-1)))) = cfg (mw s1)).trans hcs
                  have hm1 : mvM s1 (O.getD x.toNat (-1)) 201 = mvF (σ 201) (O.getD x.toNat (-1)) := (mvM_1 s1 _).trans (by rw [e1])
                  have hm4 : mvM s1 (O.getD x.toNat (-1)) 204 = ups (σ 204) 0 (1 - σ 204 0) := (mvM_4 s1 _).trans (by rw [e4])
                  have htm : tv (mw (mvM s1 (O.getD x.toNat (-1)))) = tv (mw s1) := tv_mw (fun r hr => mo r (by omega) (by omega))
                  refine lv_istore (lv' := [(11, .int (iI (s1 201 ((O.getD x.toNat (-1)) % 100)))), (10, .int (iI (O.getD x.toNat (-1)))), (9, .int (iI x)), (8, .int (iI f)), (7, .int (iI b)), (6, .int (iI ((MLs (σ 201) (σ 202 0) (σ 203 0) (σ 204 0)).length : Int))), (5, .int (iI r42)), (0, .ref (ad 100)), (1, .int (iI pn)), (2, .int (iI dn)), (3, .int (iI lo)), (4, .int (iI up))]) C.1 C.2.1 dX12_searched_183 hl (by decide) rfl (fun ls hl => ?_)
                  refine lv_aload_n C.1 C.2.1 dX12_searched_185 rfl (lv_at hl 7 rfl) ?_
                  refine lv_iload_n C.1 C.2.1 dX12_searched_186 rfl (lv_at hl 8 rfl) ?_
                  refine lv_iconst (v := iI 1) C.1 C.2.1 dX12_searched_187 (by decide) ?_
                  refine x_iadd C dX12_searched_188 ?_
                  refine lv_iload_n C.1 C.2.1 dX12_searched_189 rfl (lv_at hl 9 rfl) ?_
                  refine lv_iconst (v := iI 1) C.1 C.2.1 dX12_searched_190 (by decide) ?_
                  refine x_isub C dX12_searched_191 ?_
                  refine lv_iload C.1 C.2.1 dX12_searched_192 (lv_at hl 11 rfl) ?_
                  refine x_ineg C dX12_searched_194 ?_
                  refine lv_iload_n C.1 C.2.1 dX12_searched_195 rfl (lv_at hl 10 rfl) ?_
                  refine lv_iload C.1 C.2.1 dX12_searched_196 (lv_at hl 4 rfl) ?_
                  refine x_max C (by omega) hl.1 wM_X12_137 ⟨by omega, by omega⟩ ⟨by omega, by omega⟩ (Nat.le_of_ble_eq_true rfl) dX12_searched_198 ?_
                  refine x_ineg C dX12_searched_201 ?_
                  refine x_ci (x_runV (As := [.int (iI (pn + 1)), .int (iI (dn - 1)), .int (iI (-up)), .int (iI (-(max lo b)))]) (rest := []) C (by omega) cw_X12_188 ((hrec d1 hd1) (mvM s1 (O.getD x.toNat (-1))) (p + 1) (pn + 1) (dn - 1) (-up) (-(max lo b)) (by omega) (by omega) (by omega) (by omega) hG2 hT2 hT92 (by omega) (by omega)) hM (hJ 100 (by decide) (by decide)) (cx_100 ad G _) rfl rfl rfl rfl (Nat.le_of_ble_eq_true rfl) hl.1 dX12_searched_202) hM (fun r202 s202 H1 lc1 hp hM => ?_)
                  obtain ⟨hzs202, hts202, hns202, hfs202⟩ := hp
                  rw [hcm, hm1, hm4, ups_eq, htm] at hzs202 hts202 hns202
                  have k9 := sb_9 hG.2.2.2.2 d1 (mvF (σ 201) (O.getD x.toNat (-1))) (1 - σ 204 0) (-up) (-(max lo b)) (tv (mw s1)) (by omega) (T9_tv.mpr hT91) (by omega) (by omega)
                  have kok := sb_ok hG.2.2.2.2 d1 (mvF (σ 201) (O.getD x.toNat (-1))) (1 - σ 204 0) (-up) (-(max lo b)) (tv (mw s1)) (by omega) (mvF_BC hC _) (mvF_side hs) (TI_tv.mpr hT1)
                  have hyb : -9000 ≤ r202 ∧ r202 ≤ 9000 := by omega
                  have hfb : ∀ r : Nat, FRS (p + 1) r → r ≠ 201 → r ≠ 204 → s202 r = s1 r := fun r hr a b => (hfs202 r hr).trans (mo r a b)
                  have hu := unM_mv (σ := s1) (b := s202) hok.2.1 ((hfs202 201 (by unfold FRS; omega)).trans (mvM_1 s1 (O.getD x.toNat (-1)))) ((hfs202 204 (by unfold FRS; omega)).trans (mvM_4 s1 (O.getD x.toNat (-1))))
                  have hGb : BG (mw s202) := (BG_of (a := mw s1) (b := mw s202) (hfb 202 (by unfold FRS; omega) (by decide) (by decide)) (hfb 203 (by unfold FRS; omega) (by decide) (by decide))).mpr hGs.1
                  have hwb2 : s202 202 0 * s202 203 0 = σ 202 0 * σ 203 0 := by rw [hfb 202 (by unfold FRS; omega) (by decide) (by decide), hfb 203 (by unfold FRS; omega) (by decide) (by decide), e2, e3]
                  refine x_ineg C dX12_searched_205 ?_
                  refine lv_istore (lv' := [(12, .int (iI (-r202))), (11, .int (iI (s1 201 ((O.getD x.toNat (-1)) % 100)))), (10, .int (iI (O.getD x.toNat (-1)))), (9, .int (iI x)), (8, .int (iI f)), (7, .int (iI b)), (6, .int (iI ((MLs (σ 201) (σ 202 0) (σ 203 0) (σ 204 0)).length : Int))), (5, .int (iI r42)), (0, .ref (ad 100)), (1, .int (iI pn)), (2, .int (iI dn)), (3, .int (iI lo)), (4, .int (iI up))]) C.1 C.2.1 dX12_searched_206 hl (by decide) rfl (fun ls hl => ?_)
                  refine lv_aload_n C.1 C.2.1 dX12_searched_208 rfl (lv_at hl 8 rfl) ?_
                  refine lv_iload C.1 C.2.1 dX12_searched_209 (lv_at hl 2 rfl) ?_
                  refine lv_iload C.1 C.2.1 dX12_searched_211 (lv_at hl 1 rfl) ?_
                  refine x_cv (x_runV (As := [.int (iI (O.getD x.toNat (-1))), .int (iI (s1 201 ((O.getD x.toNat (-1)) % 100)))]) (rest := []) C (by omega) cw_X12_140 (c_X12_unmake l D ad G ids hJ s202 (O.getD x.toNat (-1)) (s1 201 ((O.getD x.toNat (-1)) % 100)) hGb (by omega)) hM (hJ 100 (by decide) (by decide)) (cx_100 ad G _) rfl rfl rfl rfl (Nat.le_of_ble_eq_true rfl) hl.1 dX12_searched_213) hM (fun s213 H1 lc1 hp hM => ?_)
                  obtain rfl := hp
                  obtain ⟨sc, hsc⟩ : ∃ sx_ : Sg, sx_ = unM s202 (O.getD x.toNat (-1)) (s1 201 ((O.getD x.toNat (-1)) % 100)) := ⟨_, rfl⟩
                  rw [← hsc] at hM
                  have hu1 : sc 201 = s1 201 := by rw [hsc]; exact hu.1
                  have hu4 : sc 204 = s1 204 := by rw [hsc]; exact hu.2.1
                  have huo : ∀ r : Nat, r ≠ 201 → r ≠ 204 → sc r = s202 r := fun r a b => by rw [hsc]; exact hu.2.2 r a b
                  have hf3 : ∀ r : Nat, FRS (p + 1) r → sc r = s1 r := fun r hr => by
                    by_cases q1 : r = 201
                    · rw [q1]; exact hu1
                    by_cases q4 : r = 204
                    · rw [q4]; exact hu4
                    rw [huo r q1 q4]; exact hfb r hr q1 q4
                  have htc : tv (mw sc) = (sb (cfg (mw σ)) d1 (mvF (σ 201) (O.getD x.toNat (-1))) (1 - σ 204 0) (-up) (-(max lo b)) (tv (mw s1))).2.2 := (tv_mw (fun r hr => huo r (by omega) (by omega))).trans hts202
                  have hTc : TI (mw sc) := TI_tv.mp (by rw [htc]; exact kok.1)
                  have hT9c : T9 (mw sc) := T9_tv.mp (by rw [htc]; exact k9.1)
                  have hnc : sc 221 0 = σ 221 0 + (n + (sb (cfg (mw σ)) d1 (mvF (σ 201) (O.getD x.toNat (-1))) (1 - σ 204 0) (-up) (-(max lo b)) (tv (mw s1))).2.1) := by
                    have q1 := huo 221 (by decide) (by decide)
                    have q2 := mo 221 (by decide) (by decide)
                    rw [q1, hns202, q2, hn]; omega
                  have hGc : GI (mw sc) := GIm_of hGs (fun r _ _ => hf3 r (by unfold FRS; omega))
                  have hOc : RWL sc (255 + p) O := hO1.of (hf3 _ (by unfold FRS; omega))
                  have hfrc : ∀ r : Nat, FRS p r → sc r = σ r := fun r hr => (hf3 r (by unfold FRS at *; omega)).trans (hfr r hr)
                  have hwc : sc 202 0 * sc 203 0 = σ 202 0 * σ 203 0 := by rw [hfrc 202 (by unfold FRS; omega), hfrc 203 (by unfold FRS; omega)]
                  have hstep := slp_drop (rec := sb (cfg (mw σ)) d1) (c := σ 201) (sd := σ 204 0) (lo := lo) (hi := up) (b := b) (f := f) (n := n) (x := x) (τ := tv (mw s1)) (O := O) (by omega) (by omega) (by omega) rfl
                  have hq1 := (hq.resolve_right (fun z => by omega)).2
                  rw [hstep, hzs202, ← htc] at hq1
                  refine lv_iload C.1 C.2.1 dX12_searched_216 (lv_at hl 0 rfl) ?_
                  refine lv_iload C.1 C.2.1 dX12_searched_218 (lv_at hl 5 rfl) ?_
                  refine x_icmp_gt C ⟨by omega, by omega⟩ ⟨by omega, by omega⟩ (tgt := 226) dX12_searched_220 (by decide) (fun c220 => ?_) (fun c220 => ?_)
                  · refine lv_iload C.1 C.2.1 dX12_searched_226 (lv_at hl 0 rfl) ?_
                    refine lv_istore (lv' := [(7, .int (iI (-r202))), (12, .int (iI (-r202))), (11, .int (iI (s1 201 ((O.getD x.toNat (-1)) % 100)))), (10, .int (iI (O.getD x.toNat (-1)))), (9, .int (iI x)), (8, .int (iI f)), (6, .int (iI ((MLs (σ 201) (σ 202 0) (σ 203 0) (σ 204 0)).length : Int))), (5, .int (iI r42)), (0, .ref (ad 100)), (1, .int (iI pn)), (2, .int (iI dn)), (3, .int (iI lo)), (4, .int (iI up))]) C.1 C.2.1 dX12_searched_228 hl (by decide) rfl (fun ls hl => ?_)
                    refine lv_iload C.1 C.2.1 dX12_searched_230 (lv_at hl 3 rfl) ?_
                    refine lv_istore (lv' := [(8, .int (iI (O.getD x.toNat (-1)))), (7, .int (iI (-r202))), (12, .int (iI (-r202))), (11, .int (iI (s1 201 ((O.getD x.toNat (-1)) % 100)))), (10, .int (iI (O.getD x.toNat (-1)))), (9, .int (iI x)), (6, .int (iI ((MLs (σ 201) (σ 202 0) (σ 203 0) (σ 204 0)).length : Int))), (5, .int (iI r42)), (0, .ref (ad 100)), (1, .int (iI pn)), (2, .int (iI dn)), (3, .int (iI lo)), (4, .int (iI up))]) C.1 C.2.1 dX12_searched_232 hl (by decide) rfl (fun ls hl => ?_)
                    refine lv_iload C.1 C.2.1 dX12_searched_234 (lv_at hl 1 rfl) ?_
                    refine lv_iload C.1 C.2.1 dX12_searched_236 (lv_at hl 12 rfl) ?_
                    refine x_icmp_lt C ⟨by omega, by omega⟩ ⟨by omega, by omega⟩ (tgt := 248) dX12_searched_238 (by decide) (fun c238 => ?_) (fun c238 => ?_)
                    · refine x_iinc (lv1 := [(9, .int (iI (x + 1))), (8, .int (iI (O.getD x.toNat (-1)))), (7, .int (iI (-r202))), (12, .int (iI (-r202))), (11, .int (iI (s1 201 ((O.getD x.toNat (-1)) % 100)))), (10, .int (iI (O.getD x.toNat (-1)))), (6, .int (iI ((MLs (σ 201) (σ 202 0) (σ 203 0) (σ 204 0)).length : Int))), (5, .int (iI r42)), (0, .ref (ad 100)), (1, .int (iI pn)), (2, .int (iI dn)), (3, .int (iI lo)), (4, .int (iI up))]) C dX12_searched_248 hl (k := 5) rfl (by decide) rfl (fun ls hl => ?_)
                      refine lv_goto (tgt := 152) C.1 C.2.1 dX12_searched_251 (by decide) ?_
                      exact ih152 (x + 1) (-r202) (O.getD x.toNat (-1)) (n + (sb (cfg (mw σ)) d1 (mvF (σ 201) (O.getD x.toNat (-1))) (1 - σ 204 0) (-up) (-(max lo b)) (tv (mw s1))).2.1) sc _ _ _ (by omega) (by omega) (Or.inr hmL) hOc hTc hT9c hfrc hnc (Or.inl ⟨by omega, by rw [if_pos (by omega)] at hq1; exact hq1⟩) (by omega) hM (lv_sub hl [0, 1, 2, 6, 7, 8, 9, 10, 11, 12] rfl)
                    · refine lv_aload_n C.1 C.2.1 dX12_searched_241 rfl (lv_at hl 8 rfl) ?_
                      refine lv_iload_n C.1 C.2.1 dX12_searched_242 rfl (lv_at hl 10 rfl) ?_
                      refine lv_iload C.1 C.2.1 dX12_searched_243 (lv_at hl 0 rfl) ?_
                      refine x_cv (x_runV (As := [.int (iI dn), .int (iI (O.getD x.toNat (-1)))]) (rest := []) C (by omega) cw_X12_191 (c_X12_cut l D ad G ids hJ sc dn (O.getD x.toNat (-1)) hTc hGc (by omega) (by omega)) hM (hJ 100 (by decide) (by decide)) (cx_100 ad G _) rfl rfl rfl rfl (Nat.le_of_ble_eq_true rfl) hl.1 dX12_searched_245) hM (fun s245 H1 lc1 hp hM => ?_)
                      obtain rfl := hp
                      refine x_iinc (lv1 := [(9, .int (iI (x + 1))), (8, .int (iI (O.getD x.toNat (-1)))), (7, .int (iI (-r202))), (12, .int (iI (-r202))), (11, .int (iI (s1 201 ((O.getD x.toNat (-1)) % 100)))), (10, .int (iI (O.getD x.toNat (-1)))), (6, .int (iI ((MLs (σ 201) (σ 202 0) (σ 203 0) (σ 204 0)).length : Int))), (5, .int (iI r42)), (0, .ref (ad 100)), (1, .int (iI pn)), (2, .int (iI dn)), (3, .int (iI lo)), (4, .int (iI up))]) C dX12_searched_248 hl (k := 5) rfl (by decide) rfl (fun ls hl => ?_)
                      refine lv_goto (tgt := 152) C.1 C.2.1 dX12_searched_251 (by decide) ?_
                      exact ih152 (x + 1) (-r202) (O.getD x.toNat (-1)) (n + (sb (cfg (mw σ)) d1 (mvF (σ 201) (O.getD x.toNat (-1))) (1 - σ 204 0) (-up) (-(max lo b)) (tv (mw s1))).2.1) (cuM sc (sc 201) dn (O.getD x.toNat (-1))) _ _ _ (by omega) (by omega) (Or.inr hmL) (hOc.of (cuM_o (by omega))) (by rw [mw_cu]; exact hTc.cut _ _ (by omega)) (by rw [mw_cu]; exact hT9c.cut _ _ _) (fun r hr => (cuM_o (by unfold FRS at hr; omega)).trans (hfrc r hr)) (by rw [cuM_o (by decide)]; exact hnc) (Or.inr ⟨by omega, tv (mw sc), by
                        rw [if_pos (by omega)] at hq1
                        rw [← hq1]
                        by_cases ee2 : x + 1 < O.length
                        · rw [drop_s (L := O) (i := x + 1) (by omega) ee2, slp, if_neg (by omega)]
                        · rw [drop_e (L := O) (i := x + 1) (by omega) ee2, slp], by rw [mw_cu, tv_cut, hu1, e1]⟩) (by omega) hM (lv_sub hl [0, 1, 2, 6, 7, 8, 9, 10, 11, 12] rfl)
                  · refine lv_goto (tgt := 248) C.1 C.2.1 dX12_searched_223 (by decide) ?_
                    refine x_iinc (lv1 := [(9, .int (iI (x + 1))), (12, .int (iI (-r202))), (11, .int (iI (s1 201 ((O.getD x.toNat (-1)) % 100)))), (10, .int (iI (O.getD x.toNat (-1)))), (8, .int (iI f)), (7, .int (iI b)), (6, .int (iI ((MLs (σ 201) (σ 202 0) (σ 203 0) (σ 204 0)).length : Int))), (5, .int (iI r42)), (0, .ref (ad 100)), (1, .int (iI pn)), (2, .int (iI dn)), (3, .int (iI lo)), (4, .int (iI up))]) C dX12_searched_248 hl (k := 3) rfl (by decide) rfl (fun ls hl => ?_)
                    refine lv_goto (tgt := 152) C.1 C.2.1 dX12_searched_251 (by decide) ?_
                    exact ih152 (x + 1) b f (n + (sb (cfg (mw σ)) d1 (mvF (σ 201) (O.getD x.toNat (-1))) (1 - σ 204 0) (-up) (-(max lo b)) (tv (mw s1))).2.1) sc _ _ _ (by omega) (by omega) hf hOc hTc hT9c hfrc hnc (Or.inl ⟨by omega, by rw [if_neg (by omega)] at hq1; exact hq1⟩) (by omega) hM (lv_sub hl [0, 4, 5, 6, 7, 8, 9, 10, 11, 12] rfl)
          exact L152 _ 0 (-100000) (-1) 1 s137 _ _ _ (by omega) (by omega) (Or.inl ⟨rfl, rfl⟩) hOs137 hT0 hT90 (fun r hr => hf0 r (by unfold FRS at hr; omega) hr) (by rw [hfs137 221 (by omega) (by omega)]; exact hna) (Or.inl ⟨by omega, by rw [hv0, hTR]; exact slp_first hOn (by omega) (by omega) h90⟩) (Nat.lt_succ_self _) hM (lv_sub hl [0, 1, 2, 3, 4, 5, 6, 7, 8, 9] rfl)
        refine lv_aload_n C.1 C.2.1 dX12_searched_115 rfl (lv_at hl 1 rfl) ?_
        refine lv_iload_n C.1 C.2.1 dX12_searched_116 rfl (lv_at hl 2 rfl) ?_
        refine lv_iload_n C.1 C.2.1 dX12_searched_117 rfl (lv_at hl 3 rfl) ?_
        refine lv_iload C.1 C.2.1 dX12_searched_118 (lv_at hl 0 rfl) ?_
        refine lv_iconst (v := iI (-1)) C.1 C.2.1 dX12_searched_120 (by decide) ?_
        refine x_icmp_ne C ⟨by omega, by omega⟩ ⟨by omega, by omega⟩ (tgt := 128) dX12_searched_121 (by decide) (fun c121 => ?_) (fun c121 => ?_)
        · refine lv_aload_n C.1 C.2.1 dX12_searched_128 rfl (lv_at hl 1 rfl) ?_
          refine g_X12_13 C hM (hJ 100 (by decide) (by decide)) wf_X12_39 dX12_searched_129 ?_
          refine lv_iload C.1 C.2.1 dX12_searched_132 (lv_at hl 0 rfl) ?_
          refine aaz_slot C hM (hJ 117 (by decide) (by decide)) (by omega) (by omega) dX12_searched_134 ?_
          refine lv_iconst (v := iI 3) C.1 C.2.1 dX12_searched_135 (by decide) ?_
          refine alz_ts3 C hM (by omega) (by omega) (hJ _ (by omega) (by omega)) dX12_searched_136 ?_
          exact J137 (sa 214 r42) _ _ _ (by first | exact if_pos (show 0 ≤ r42 by omega) | exact if_neg (show ¬ 0 ≤ r42 by omega)) hM (lv_sub hl [0, 1, 2, 3, 4, 5] rfl)
        · refine lv_iconst (v := iI (-1)) C.1 C.2.1 dX12_searched_124 (by decide) ?_
          refine lv_goto (tgt := 137) C.1 C.2.1 dX12_searched_125 (by decide) ?_
          exact J137 (-1) _ _ _ (by first | exact if_pos (show 0 ≤ r42 by omega) | exact if_neg (show ¬ 0 ≤ r42 by omega)) hM (lv_sub hl [0, 1, 2, 3, 4, 5] rfl)
      refine lv_iload C.1 C.2.1 dX12_searched_47 (lv_at hl 0 rfl) ?_
      refine lv_iconst (v := iI (-1)) C.1 C.2.1 dX12_searched_49 (by decide) ?_
      refine x_icmp_eq C ⟨by omega, by omega⟩ ⟨by omega, by omega⟩ (tgt := 115) dX12_searched_50 (by decide) (fun c50 => ?_) (fun c50 => ?_)
      · exact J115  _ _ _ (by first | exact (fun q => absurd (ks76.mpr q) (by omega)) | (intro q; have q : 0 ≤ r42 ∧ sa 211 r42 = dn ∧ _ := of_decide_eq_true q; omega)) hM (lv_sub hl [0, 1, 2, 3, 4, 5] rfl)
      · refine lv_aload_n C.1 C.2.1 dX12_searched_53 rfl (lv_at hl 1 rfl) ?_
        refine g_X12_13 C hM (hJ 100 (by decide) (by decide)) wf_X12_39 dX12_searched_54 ?_
        refine lv_iload C.1 C.2.1 dX12_searched_57 (lv_at hl 0 rfl) ?_
        refine aaz_slot C hM (hJ 117 (by decide) (by decide)) (by omega) (by omega) dX12_searched_59 ?_
        refine lv_iconst (v := iI 0) C.1 C.2.1 dX12_searched_60 (by decide) ?_
        refine alz_ts0 C hM (by omega) (by omega) (hJ _ (by omega) (by omega)) dX12_searched_61 ?_
        refine lv_iload_n C.1 C.2.1 dX12_searched_62 rfl (lv_at hl 3 rfl) ?_
        refine x_icmp_ne C ⟨by omega, by omega⟩ ⟨by omega, by omega⟩ (tgt := 115) dX12_searched_63 (by decide) (fun c63 => ?_) (fun c63 => ?_)
        · exact J115  _ _ _ (by first | exact (fun q => absurd (ks76.mpr q) (by omega)) | (intro q; have q : 0 ≤ r42 ∧ sa 211 r42 = dn ∧ _ := of_decide_eq_true q; omega)) hM (lv_sub hl [0, 1, 2, 3, 4, 5] rfl)
        · refine lv_aload_n C.1 C.2.1 dX12_searched_66 rfl (lv_at hl 1 rfl) ?_
          refine g_X12_13 C hM (hJ 100 (by decide) (by decide)) wf_X12_39 dX12_searched_67 ?_
          refine lv_iload C.1 C.2.1 dX12_searched_70 (lv_at hl 0 rfl) ?_
          refine aaz_slot C hM (hJ 117 (by decide) (by decide)) (by omega) (by omega) dX12_searched_72 ?_
          refine lv_iload_n C.1 C.2.1 dX12_searched_73 rfl (lv_at hl 4 rfl) ?_
          refine lv_iload C.1 C.2.1 dX12_searched_74 (lv_at hl 5 rfl) ?_
          refine x_ci (x_runS (As := [.ref (ad (118 + (r42).toNat)), .int (iI lo), .int (iI up)]) (rest := []) C (by omega) cw_X12_179 (c_X12_answers l D ad G ids hJ sa r42 dn lo up hTa (by omega) (by omega) (by unfold IR; omega) (by unfold IR; omega)) hM rfl rfl (Nat.le_of_ble_eq_true rfl) hl.1 dX12_searched_76) hM (fun r76 s76 H1 lc1 hp hM => ?_)
          obtain ⟨hbs76, rfl⟩ := hp
          obtain ⟨ts76, ks76⟩ := bI01 hbs76
          refine x_if_eq C ⟨by omega, by omega⟩ (tgt := 115) dX12_searched_79 (by decide) (fun c79 => ?_) (fun c79 => ?_)
          · exact J115  _ _ _ (by first | exact (fun q => absurd (ks76.mpr q) (by omega)) | (intro q; have q : 0 ≤ r42 ∧ sa 211 r42 = dn ∧ _ := of_decide_eq_true q; omega)) hM (lv_sub hl [0, 1, 2, 3, 4, 5] rfl)
          · have han := ks76.mp (by omega)
            have eS : (sb (cfg (mw σ)) d (σ 201) (σ 204 0) lo up (tv (mw σ))) = (sa 212 r42, 1, setT (incT (tv (mw σ)) 22) 19 (sa 214 r42)) := by
              have q := sb_hit (S := cfg (mw σ)) (s := r42) (c := σ 201) (sd := σ 204 0) (lo := lo) (up := up) (τ := tv (mw σ)) (d1 := d1) (L := (MLs (σ 201) (σ 202 0) (σ 203 0) (σ 204 0))) rfl hne hky.symm (by rw [← hva, tv_fnd]; exact hbs42) (by rw [← hva, tv_ans, ← show dn = (d1 : Int) + 1 by omega]; exact han)
              rw [hd1, q, ← hva, tv_in (mw sa) (r := 12) (by omega), tv_in (mw sa) (r := 14) (by omega)]
              rfl
            refine lv_aload_n C.1 C.2.1 dX12_searched_82 rfl (lv_at hl 1 rfl) ?_
            refine lv_dup C.1 C.2.1 dX12_searched_83 rfl ?_
            refine g_X12_17 C hM (hJ 100 (by decide) (by decide)) wf_X12_182 dX12_searched_84 ?_
            refine lv_iconst (v := iI 1) C.1 C.2.1 dX12_searched_87 (by decide) ?_
            refine x_iadd C dX12_searched_88 ?_
            refine p_X12_17 C hM (hJ 100 (by decide) (by decide)) wf_X12_182 dX12_searched_89 (fun H1 lc1 hM => ?_)
            refine lv_aload_n C.1 C.2.1 dX12_searched_92 rfl (lv_at hl 1 rfl) ?_
            refine lv_aload_n C.1 C.2.1 dX12_searched_93 rfl (lv_at hl 1 rfl) ?_
            refine g_X12_13 C hM (hJ 100 (by decide) (by decide)) wf_X12_39 dX12_searched_94 ?_
            refine lv_iload C.1 C.2.1 dX12_searched_97 (lv_at hl 0 rfl) ?_
            refine aaz_slot C hM (hJ 117 (by decide) (by decide)) (by omega) (by omega) dX12_searched_99 ?_
            refine lv_iconst (v := iI 3) C.1 C.2.1 dX12_searched_100 (by decide) ?_
            refine alz_ts3 C hM (by omega) (by omega) (hJ _ (by omega) (by omega)) dX12_searched_101 ?_
            rw [upr_ne _ _ (show (214 : Nat) ≠ 222 by omega)]
            refine p_X12_20 C hM (hJ 100 (by decide) (by decide)) wf_X12_48 dX12_searched_102 (fun H1 lc1 hM => ?_)
            refine lv_aload_n C.1 C.2.1 dX12_searched_105 rfl (lv_at hl 1 rfl) ?_
            refine g_X12_13 C hM (hJ 100 (by decide) (by decide)) wf_X12_39 dX12_searched_106 ?_
            refine lv_iload C.1 C.2.1 dX12_searched_109 (lv_at hl 0 rfl) ?_
            refine aaz_slot C hM (hJ 117 (by decide) (by decide)) (by omega) (by omega) dX12_searched_111 ?_
            refine lv_iconst (v := iI 1) C.1 C.2.1 dX12_searched_112 (by decide) ?_
            refine alz_ts1 C hM (by omega) (by omega) (hJ _ (by omega) (by omega)) dX12_searched_113 ?_
            rw [upr_ne _ _ (show (212 : Nat) ≠ 219 by omega)]
            rw [upr_ne _ _ (show (212 : Nat) ≠ 222 by omega)]
            refine x_iret C hr hM ?_ dX12_searched_114
            exact by
              unfold sePost
              rw [eS]
              refine ⟨rfl, ?_, ?_, ?_⟩
              · show tv (mw (upr (upr sa (200 + 22) (ups (sa (200 + 22)) 0 (sa 222 0 + 1))) (200 + 19) (ups (upr sa (200 + 22) (ups (sa (200 + 22)) 0 (sa 222 0 + 1)) (200 + 19)) 0 (sa 214 r42)))) = _
                rw [mw_set, mw_set]
                show tv (setT (incT (mw sa) 22) 19 (sa 214 r42)) = _
                rw [tv_set _ _ (by omega), tv_inc _ (by omega), hva]
              · rw [upr_ne _ _ (by decide), upr_ne _ _ (by decide)]; exact hna
              · intro r hr
                unfold FRS at hr
                rw [upr_ne _ _ (by omega), upr_ne _ _ (by omega)]; exact fa r (by omega)
    · refine lv_aload_n C.1 C.2.1 dX12_searched_27 rfl (lv_at hl 0 rfl) ?_
      refine lv_iload_n C.1 C.2.1 dX12_searched_28 rfl (lv_at hl 1 rfl) ?_
      refine lv_iconst (v := iI 4) C.1 C.2.1 dX12_searched_29 (by decide) ?_
      refine lv_iload_n C.1 C.2.1 dX12_searched_30 rfl (lv_at hl 3 rfl) ?_
      refine lv_iload C.1 C.2.1 dX12_searched_31 (lv_at hl 4 rfl) ?_
      refine x_ci (x_runV (As := [.int (iI pn), .int (iI 4), .int (iI lo), .int (iI up)]) (rest := []) C (by omega) cw_X12_172 (quietly_all l D ad G ids hJ 4 sa p pn 4 lo up hpn rfl (by omega) hGa (by rw [fa 201 (by decide), fa 202 (by decide), fa 203 (by decide), fa 204 (by decide)]; exact hne) (by omega) (by omega)) hM (hJ 100 (by decide) (by decide)) (cx_100 ad G _) rfl rfl rfl rfl (Nat.le_of_ble_eq_true rfl) hl.1 dX12_searched_33) hM (fun r33 s33 H1 lc1 hp hM => ?_)
      obtain ⟨hzs33, hns33, hfs33⟩ := hp
      refine x_iret C hr hM ?_ dX12_searched_36
      exact by
        rw [hca, fa 201 (by decide), fa 204 (by decide)] at hzs33 hns33
        have eS : (sb (cfg (mw σ)) d (σ 201) (σ 204 0) lo up (tv (mw σ))) = ((qb (cfg (mw σ)) 4 (σ 201) (σ 204 0) lo up).1, (qb (cfg (mw σ)) 4 (σ 201) (σ 204 0) lo up).2, tv (mw σ)) := by rw [show d = 0 by omega]; rfl
        unfold sePost
        rw [eS]
        refine ⟨hzs33, (tv_mw (fun r hr => hfs33 r (by omega) (by omega))).trans hva, ?_, fun r hr => (hfs33 r (by unfold FRS at hr; omega) (by unfold FRS at hr; omega)).trans (fa r (by unfold FRS at hr; omega))⟩
        rw [hns33, ups_eq, hna]
        show _ = σ 221 0 + (qb (cfg (mw σ)) 4 (σ 201) (σ 204 0) lo up).2
        omega
  · have hnn := ks11.mp (by omega)
    refine lv_sipush (v := iI (-1000)) C.1 C.2.1 dX12_searched_17 (by decide) ?_
    refine lv_iload_n C.1 C.2.1 dX12_searched_20 rfl (lv_at hl 2 rfl) ?_
    refine x_isub C dX12_searched_21 ?_
    refine x_iret C hr hM ?_ dX12_searched_22
    exact by
      have hnn : MLs (σ 201) (cfg (mw σ) 2) (cfg (mw σ) 3) (σ 204 0) = [] := hnn
      have eS : (sb (cfg (mw σ)) d (σ 201) (σ 204 0) lo up (tv (mw σ))) = (-1000 - dn, 1, tv (mw σ)) := by
        cases d with
        | zero =>
          show ((qb (cfg (mw σ)) 4 (σ 201) (σ 204 0) lo up).1, (qb (cfg (mw σ)) 4 (σ 201) (σ 204 0) lo up).2, tv (mw σ)) = _
          rw [qb_nil hnn, show dn = 0 by omega]; rfl
        | succ d => rw [sb_nil rfl hnn, show dn = (d : Int) + 1 by omega]
      unfold sePost
      rw [eS]
      exact ⟨rfl, hva, hna, fun r hr => fa r (by unfold FRS at hr; omega)⟩
theorem searched_all (l : Launch) (D : va_G) (ad : Nat → Nat) (G : Nat → Nat) (ids : List Nat) (hJ : ∀ k, 100 ≤ k → k < 233 → k ∈ ids) : ∀ d : Nat, SEc l D ad G ids d := by
  intro d
  induction d with
  | zero => intro σ p pn dn lo up hpn htn hpt hd4 hG hT hT9 hlo hup; exact c_X12_searched l D ad G ids hJ σ p 0 pn dn lo up hpn htn hpt hd4 (fun t1 h => by omega) hG hT hT9 hlo hup
  | succ d ih => intro σ p pn dn lo up hpn htn hpt hd4 hG hT hT9 hlo hup; exact c_X12_searched l D ad G ids hJ σ p (d + 1) pn dn lo up hpn htn hpt hd4 (fun t1 h => by
      have e : t1 = d := by omega
      subst e; exact ih) hG hT hT9 hlo hup
