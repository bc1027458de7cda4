theorem wr_ok {a b : Sg} {pg k v w : Int} (h4 : a 224 = ups (b 224) pg k) (h5 : a 225 = ups (b 225) pg v) (h6 : a 226 = ups (b 226) pg w) (h7 : a 227 = ups (b 227) 0 (max (b 227 0) (pg + 1))) (ho : ∀ r : Nat, ¬ (224 ≤ r ∧ r ≤ 227) → a r = b r) : mw a = wrB (mw b) pg k v w := by
  funext q
  unfold wrB
  by_cases e7 : q = 27
  · subst e7; rw [upr_eq]; exact h7
  rw [upr_ne _ _ e7]
  by_cases e6 : q = 26
  · subst e6; rw [upr_eq]; exact h6
  rw [upr_ne _ _ e6]
  by_cases e5 : q = 25
  · subst e5; rw [upr_eq]; exact h5
  rw [upr_ne _ _ e5]
  by_cases e4 : q = 24
  · subst e4; rw [upr_eq]; exact h4
  rw [upr_ne _ _ e4]
  exact ho (200 + q) (by omega)
theorem SRQ.inv {d : Nat} {σ τ : Sg} (h : SRQ d σ τ) (hd : 1 ≤ d ∧ d ≤ 4) (hN : INV (mw σ)) (hne : (MLs (σ 201) (σ 202 0) (σ 203 0) (σ 204 0)) ≠ []) : INV (mw τ) := by
  obtain ⟨ht, -, -, -, hf⟩ := h
  obtain ⟨h1, h2, h3, h4, h5, h6, h7⟩ := hN
  have e : ∀ r : Nat, ((1 ≤ r ∧ r ≤ 8) ∨ (24 ≤ r ∧ r ≤ 30)) → mw τ r = mw σ r := fun r hr => hf (200 + r) (by unfold FRS; omega) (by omega) (by omega)
  have hc : cfg (mw τ) = cfg (mw σ) := cfg_of (fun r hr => e r (by omega))
  have b := skp_best (d := d) h1.2.2.2.2 h1.2.1 h1.2.2.1 hne hd (T9_tv.mpr h3) (TL_tv.mpr h4)
  have bt : TI (skp (cfg (mw σ)) (mw σ 1) (mw σ 4 0) d 1 0 0 0 (clrT (tv (mw σ)))).2.2.2 := skp_TI h1.2.2.2.2 h1.2.1 h1.2.2.1 d 1 0 0 0 _ (by omega) (by rw [← clrT_tv]; exact TI_tv.mpr h2.clr)
  refine ⟨h1.of (fun r hr => e r (by omega)), TI_tv.mp (by rw [ht]; exact bt), T9_tv.mp (by rw [ht]; exact b.1), ?_, ?_, ?_, ?_⟩
  · rw [hc]; exact TL_tv.mp (by rw [ht]; exact b.2.1)
  · unfold BKI at *; rw [e 24 (by omega), e 25 (by omega), e 26 (by omega), e 27 (by omega)]; exact h5
  · unfold TRI at *; rw [e 30 (by omega)]; exact h6
  · rw [e 2 (by omega), e 3 (by omega), e 28 (by omega), e 29 (by omega), e 30 (by omega), e 1 (by omega)]; exact h7
theorem goQ_ok {d : Nat} {σ σ' : Sg} {z : Int} (h : goQ d σ z σ') (hd : 1 ≤ d ∧ d ≤ 4) (hN : INV (mw σ)) (hne : (MLs (σ 201) (σ 202 0) (σ 203 0) (σ 204 0)) ≠ []) : INV (mw σ') := by
  have hci := chF_in (wtF (mw σ) (keyS (cfg (mw σ)) (σ 201) (σ 204 0))) (MLs (σ 201) (σ 202 0) (σ 203 0) (σ 204 0)) 0 (-1) 0 (Or.inl rfl) (by decide)
  by_cases e : (chF (wtF (mw σ) (keyS (cfg (mw σ)) (σ 201) (σ 204 0))) (MLs (σ 201) (σ 202 0) (σ 203 0) (σ 204 0)) 0 (-1) 0) = -1
  · obtain ⟨τ, hs, hz, hp, -⟩ := h.2 e
    have hN2 := hs.inv hd hN hne
    have e1 : ∀ r : Nat, (1 ≤ r ∧ r ≤ 4) → τ (200 + r) = σ (200 + r) := fun r hr => hs.2.2.2.2 (200 + r) (by unfold FRS; omega) (by omega) (by omega)
    rw [hp]
    refine hN2.play ?_
    show _ ∈ MLs (τ 201) (τ 202 0) (τ 203 0) (τ 204 0)
    rw [e1 1 (by omega), e1 2 (by omega), e1 3 (by omega), e1 4 (by omega)]
    exact getD_mem hz.1 hz.2.1
  · obtain ⟨hz, τ, hs, hp, -⟩ := h.1 e
    have hN2 : INV (mw τ) := hN.of (fun r hr => hs (200 + r) (by omega))
    rw [hp]
    refine hN2.play ?_
    show _ ∈ MLs (τ 201) (τ 202 0) (τ 203 0) (τ 204 0)
    rw [hs 201 (by omega), hs 202 (by omega), hs 203 (by omega), hs 204 (by omega)]
    exact getD_mem (by omega) (by omega)
def poQ (d : Nat) : Nat → Sg → Int → Sg → Prop
  | 0, σ, z, σ' => 0 = z ∧ σ = σ'
  | n + 1, σ, z, σ' => ((MLs (σ 201) (σ 202 0) (σ 203 0) (σ 204 0)) = [] → 0 = z ∧ σ = σ') ∧ ((MLs (σ 201) (σ 202 0) (σ 203 0) (σ 204 0)) ≠ [] → ∃ x τ, goQ d σ x τ ∧ poQ d n τ (z - 1) σ')
theorem INV_th {σ : Sg} {n : Int} (h : INV (mw σ)) : INV (mw (th σ n)) := h.of (fun r hr => th_o (by omega))
set_option maxRecDepth 100000 in
set_option maxHeartbeats 4000000 in
theorem c_X12_go (l : Launch) (D : va_G) (ad : Nat → Nat) (G : Nat → Nat) (ids : List Nat) (hJ : ∀ k, 100 ≤ k → k < 233 → k ∈ ids) (σ : Sg) (d : Int) (hN : INV (mw σ)) (hd : IR d) : MET l yX12_go cX12_go 2 (some .int) 22 [.ref (ad 100), .int (iI d)] D ad G ids σ (QI D ad G ids (fun z σ' => (¬ (1 ≤ d ∧ d ≤ 4) → 0 = z ∧ th σ 1 = σ') ∧ ((1 ≤ d ∧ d ≤ 4) → (MLs (σ 201) (σ 202 0) (σ 203 0) (σ 204 0)) = [] → 0 = z ∧ th σ 2 = σ') ∧ ((1 ≤ d ∧ d ≤ 4) → (MLs (σ 201) (σ 202 0) (σ 203 0) (σ 204 0)) ≠ [] → goQ d.toNat (th σ 0) z σ'))) := by
  unfold IR at hd
  have hN0 : INV (mw (th σ 0)) := INV_th hN
  refine x_enter (by decide) (Nat.le_of_ble_eq_true rfl) ?_
  intro pp ee ss mm args below meth cq C hr ls hl hM
  have hl : lv_has ls 2 [(0, .ref (ad 100)), (1, .int (iI d))] := hl
  refine lv_aload_n C.1 C.2.1 dX12_go_0 rfl (lv_at hl 0 rfl) ?_
  refine lv_iconst (v := iI 0) C.1 C.2.1 dX12_go_1 (by decide) ?_
  refine p_X12_0 C hM (hJ 100 (by decide) (by decide)) wf_X12_64 dX12_go_2 (fun H1 lc1 hM => ?_)
  refine lv_iload_n C.1 C.2.1 dX12_go_5 rfl (lv_at hl 1 rfl) ?_
  refine lv_iconst (v := iI 1) C.1 C.2.1 dX12_go_6 (by decide) ?_
  refine lv_iconst (v := iI 4) C.1 C.2.1 dX12_go_7 (by decide) ?_
  refine x_ci (x_runS (As := [.int (iI d), .int (iI 1), .int (iI 4)]) (rest := []) C (by omega) cw_X12_83 (c_X12_is l D ad G ids hJ (upr σ 232 (ups (σ 232) 0 0)) d 1 4 (by unfold IR; omega) (by unfold IR; omega) (by unfold IR; omega)) hM rfl rfl (Nat.le_of_ble_eq_true rfl) hl.1 dX12_go_8) hM (fun r8 s8 H1 lc1 hp hM => ?_)
  obtain ⟨hbs8, rfl⟩ := hp
  obtain ⟨ts8, ks8⟩ := ite01 hbs8
  refine x_if_ne C ⟨by omega, by omega⟩ (tgt := 20) dX12_go_11 (by decide) (fun c11 => ?_) (fun c11 => ?_)
  · refine lv_aload_n C.1 C.2.1 dX12_go_20 rfl (lv_at hl 0 rfl) ?_
    refine x_ci (x_runV (As := []) (rest := []) C (by omega) cw_X12_104 (c_X12_isLostNow l D ad G ids hJ (upr σ 232 (ups (σ 232) 0 0)) (GI_th 0 hN.1)) hM (hJ 100 (by decide) (by decide)) (cx_100 ad G _) rfl rfl rfl rfl (Nat.le_of_ble_eq_true rfl) hl.1 dX12_go_21) hM (fun r21 s21 H1 lc1 hp hM => ?_)
    obtain ⟨hbs21, rfl⟩ := hp
    have hbs21 : (if (MLs (σ 201) (σ 202 0) (σ 203 0) (σ 204 0)) = [] then (1 : Int) else 0) = r21 := hbs21
    obtain ⟨ts21, ks21⟩ := ite01 hbs21
    refine x_if_eq C ⟨by omega, by omega⟩ (tgt := 35) dX12_go_24 (by decide) (fun c24 => ?_) (fun c24 => ?_)
    · refine lv_aload_n C.1 C.2.1 dX12_go_35 rfl (lv_at hl 0 rfl) ?_
      refine lv_iload_n C.1 C.2.1 dX12_go_36 rfl (lv_at hl 1 rfl) ?_
      refine x_ci (x_runV (As := [.int (iI d)]) (rest := []) C (by omega) cw_X12_253 (c_X12_goNow l D ad G ids hJ (upr σ 232 (ups (σ 232) 0 0)) d (by omega) hN0.1 hN0.2.1 hN0.2.2.1 (TL_tv.mpr hN0.2.2.2.1) hN0.2.2.2.2.1 hN0.2.2.2.2.2.1 (fun h => absurd (ks21.mpr h) (by omega))) hM (hJ 100 (by decide) (by decide)) (cx_100 ad G _) rfl rfl rfl rfl (Nat.le_of_ble_eq_true rfl) hl.1 dX12_go_37) hM (fun r37 s37 H1 lc1 hp hM => ?_)
      obtain hqs37 : goQ _ _ _ _ := hp
      have hqs37 := hp
      exact x_iret C hr hM ⟨fun h => absurd (show 1 ≤ d ∧ d ≤ 4 by omega) h, fun _ h => absurd (ks21.mpr h) (by omega), fun _ _ => hqs37⟩ dX12_go_40
    · refine lv_aload_n C.1 C.2.1 dX12_go_27 rfl (lv_at hl 0 rfl) ?_
      refine lv_iconst (v := iI 2) C.1 C.2.1 dX12_go_28 (by decide) ?_
      refine x_ci (x_runV (As := [.int (iI 2)]) (rest := []) C (by omega) cw_X12_217 (c_X12_refuse l D ad G ids hJ (upr σ 232 (ups (σ 232) 0 0)) 2) hM (hJ 100 (by decide) (by decide)) (cx_100 ad G _) rfl rfl rfl rfl (Nat.le_of_ble_eq_true rfl) hl.1 dX12_go_29) hM (fun r29 s29 H1 lc1 hp hM => ?_)
      obtain ⟨rfl, rfl⟩ := hp
      refine lv_goto (tgt := 40) C.1 C.2.1 dX12_go_32 (by decide) ?_
      exact x_iret C hr hM ⟨fun h => absurd (show 1 ≤ d ∧ d ≤ 4 by omega) h, fun _ _ => ⟨rfl, (th_th σ 0 2).symm⟩, fun _ h => absurd (ks21.mp (by omega)) h⟩ dX12_go_40
  · refine lv_aload_n C.1 C.2.1 dX12_go_14 rfl (lv_at hl 0 rfl) ?_
    refine lv_iconst (v := iI 1) C.1 C.2.1 dX12_go_15 (by decide) ?_
    refine x_ci (x_runV (As := [.int (iI 1)]) (rest := []) C (by omega) cw_X12_217 (c_X12_refuse l D ad G ids hJ (upr σ 232 (ups (σ 232) 0 0)) 1) hM (hJ 100 (by decide) (by decide)) (cx_100 ad G _) rfl rfl rfl rfl (Nat.le_of_ble_eq_true rfl) hl.1 dX12_go_16) hM (fun r16 s16 H1 lc1 hp hM => ?_)
    obtain ⟨rfl, rfl⟩ := hp
    exact x_iret C hr hM ⟨fun _ => ⟨rfl, (th_th σ 0 1).symm⟩, fun h => absurd h (by omega), fun h => absurd h (by omega)⟩ dX12_go_19
set_option maxRecDepth 100000 in
set_option maxHeartbeats 4000000 in
theorem c_X12_playOut (l : Launch) (D : va_G) (ad : Nat → Nat) (G : Nat → Nat) (ids : List Nat) (hJ : ∀ k, 100 ≤ k → k < 233 → k ∈ ids) (σ : Sg) (d m : Int) (hN : INV (mw σ)) (hd : IR d) (hm : IR m) : MET l yX12_playOut cX12_playOut 4 (some .int) 22 [.ref (ad 100), .int (iI d), .int (iI m)] D ad G ids σ (QI D ad G ids (fun z σ' => (¬ ((1 ≤ d ∧ d ≤ 3) ∧ 1 ≤ m ∧ m ≤ 10) → 0 = z ∧ th σ 1 = σ') ∧ (((1 ≤ d ∧ d ≤ 3) ∧ 1 ≤ m ∧ m ≤ 10) → poQ d.toNat m.toNat (th σ 0) z σ'))) := by
  unfold IR at hd hm
  have hN0 : INV (mw (th σ 0)) := INV_th hN
  refine x_enter (by decide) (Nat.le_of_ble_eq_true rfl) ?_
  intro pp ee ss mm args below meth cq C hr ls hl hM
  have hl : lv_has ls 4 [(0, .ref (ad 100)), (1, .int (iI d)), (2, .int (iI m))] := hl
  refine lv_aload_n C.1 C.2.1 dX12_playOut_0 rfl (lv_at hl 0 rfl) ?_
  refine lv_iconst (v := iI 0) C.1 C.2.1 dX12_playOut_1 (by decide) ?_
  refine p_X12_0 C hM (hJ 100 (by decide) (by decide)) wf_X12_64 dX12_playOut_2 (fun H1 lc1 hM => ?_)
  refine lv_iload_n C.1 C.2.1 dX12_playOut_5 rfl (lv_at hl 1 rfl) ?_
  refine lv_iconst (v := iI 1) C.1 C.2.1 dX12_playOut_6 (by decide) ?_
  refine lv_iconst (v := iI 3) C.1 C.2.1 dX12_playOut_7 (by decide) ?_
  refine x_ci (x_runS (As := [.int (iI d), .int (iI 1), .int (iI 3)]) (rest := []) C (by omega) cw_X12_83 (c_X12_is l D ad G ids hJ (upr σ 232 (ups (σ 232) 0 0)) d 1 3 (by unfold IR; omega) (by unfold IR; omega) (by unfold IR; omega)) hM rfl rfl (Nat.le_of_ble_eq_true rfl) hl.1 dX12_playOut_8) hM (fun r8 s8 H1 lc1 hp hM => ?_)
  obtain ⟨hbs8, rfl⟩ := hp
  obtain ⟨ts8, ks8⟩ := ite01 hbs8
  refine x_if_eq C ⟨by omega, by omega⟩ (tgt := 24) dX12_playOut_11 (by decide) (fun c11 => ?_) (fun c11 => ?_)
  · refine lv_aload_n C.1 C.2.1 dX12_playOut_24 rfl (lv_at hl 0 rfl) ?_
    refine lv_iconst (v := iI 1) C.1 C.2.1 dX12_playOut_25 (by decide) ?_
    refine x_ci (x_runV (As := [.int (iI 1)]) (rest := []) C (by omega) cw_X12_217 (c_X12_refuse l D ad G ids hJ (upr σ 232 (ups (σ 232) 0 0)) 1) hM (hJ 100 (by decide) (by decide)) (cx_100 ad G _) rfl rfl rfl rfl (Nat.le_of_ble_eq_true rfl) hl.1 dX12_playOut_26) hM (fun r26 s26 H1 lc1 hp hM => ?_)
    obtain ⟨rfl, rfl⟩ := hp
    exact x_iret C hr hM ⟨fun _ => ⟨rfl, (th_th σ 0 1).symm⟩, fun h => absurd h (by omega)⟩ dX12_playOut_29
  · refine lv_iload_n C.1 C.2.1 dX12_playOut_14 rfl (lv_at hl 2 rfl) ?_
    refine lv_iconst (v := iI 1) C.1 C.2.1 dX12_playOut_15 (by decide) ?_
    refine lv_bipush (v := iI 10) C.1 C.2.1 dX12_playOut_16 (by decide) ?_
    refine x_ci (x_runS (As := [.int (iI m), .int (iI 1), .int (iI 10)]) (rest := []) C (by omega) cw_X12_83 (c_X12_is l D ad G ids hJ (upr σ 232 (ups (σ 232) 0 0)) m 1 10 (by unfold IR; omega) (by unfold IR; omega) (by unfold IR; omega)) hM rfl rfl (Nat.le_of_ble_eq_true rfl) hl.1 dX12_playOut_18) hM (fun r18 s18 H1 lc1 hp hM => ?_)
    obtain ⟨hbs18, rfl⟩ := hp
    obtain ⟨ts18, ks18⟩ := ite01 hbs18
    refine x_if_ne C ⟨by omega, by omega⟩ (tgt := 30) dX12_playOut_21 (by decide) (fun c21 => ?_) (fun c21 => ?_)
    · refine lv_iconst (v := iI 0) C.1 C.2.1 dX12_playOut_30 (by decide) ?_
      refine lv_istore_n (lv' := [(3, .int (iI 0)), (0, .ref (ad 100)), (1, .int (iI d)), (2, .int (iI m))]) C.1 C.2.1 dX12_playOut_31 rfl hl (by decide) rfl (fun ls hl => ?_)
      have L32 : ∀ (fu : Nat) (c : Int) (s1 : Sg) (H1 : Heap) (lc1 : List Loc) (ls1 : Array Slot), (0 ≤ c ∧ c ≤ m) → (INV (mw s1)) → (∀ (z : Int) (σ' : Sg), poQ d.toNat (m - c).toNat s1 (z - c) σ' → poQ d.toNat m.toNat (th σ 0) z σ') → (20 - c).toNat < fu → XI D ad G ids (AN ad ids ss.heap.size) ss.heap H1 lc1 s1 → lv_has ls1 4 [(3, .int (iI c)), (0, .ref (ad 100)), (1, .int (iI d)), (2, .int (iI m))] → W pp l ee (rmh 22) ss mm args below meth cq H1 lc1 0 0 (MQ below (QI D ad G ids (fun z σ' => (¬ ((1 ≤ d ∧ d ≤ 3) ∧ 1 ≤ m ∧ m ≤ 10) → 0 = z ∧ th σ 1 = σ') ∧ (((1 ≤ d ∧ d ≤ 3) ∧ 1 ≤ m ∧ m ≤ 10) → poQ d.toNat m.toNat (th σ 0) z σ')) ss.heap.size) args ss 0 0 (AN ad ids ss.heap.size)) (F0 mm 32 ls1 []) := by
        intro fu
        induction fu with
        | zero => intro c s1 H1 lc1 ls1 c0 hN1 hq hfu; exact absurd hfu (Nat.not_lt_zero _)
        | succ fu ih32 =>
          intro c s1 H1 lc1 ls1 c0 hN1 hq hfu hM hl
          refine lv_iload_n C.1 C.2.1 dX12_playOut_32 rfl (lv_at hl 0 rfl) ?_
          refine lv_iload_n C.1 C.2.1 dX12_playOut_33 rfl (lv_at hl 3 rfl) ?_
          refine x_icmp_ge C ⟨by omega, by omega⟩ ⟨by omega, by omega⟩ (tgt := 56) dX12_playOut_34 (by decide) (fun c34 => ?_) (fun c34 => ?_)
          · refine lv_iload_n C.1 C.2.1 dX12_playOut_56 rfl (lv_at hl 0 rfl) ?_
            refine x_iret C hr hM ?_ dX12_playOut_57
            exact ⟨fun h => absurd (show (1 ≤ d ∧ d ≤ 3) ∧ 1 ≤ m ∧ m ≤ 10 by omega) h, fun _ => hq c _ (by
              rw [show c - c = 0 by omega]
              by_cases e : c < m
              · rw [show (m - c).toNat = (m - (c + 1)).toNat + 1 by omega]
                first | exact ⟨fun _ => ⟨by omega, rfl⟩, fun h => absurd (ks38.mp (by omega)) h⟩ | (exfalso; omega)
              · rw [show (m - c).toNat = 0 by omega]
                exact ⟨rfl, rfl⟩)⟩
          · refine lv_aload_n C.1 C.2.1 dX12_playOut_37 rfl (lv_at hl 1 rfl) ?_
            refine x_ci (x_runV (As := []) (rest := []) C (by omega) cw_X12_104 (c_X12_isLostNow l D ad G ids hJ s1 hN1.1) hM (hJ 100 (by decide) (by decide)) (cx_100 ad G _) rfl rfl rfl rfl (Nat.le_of_ble_eq_true rfl) hl.1 dX12_playOut_38) hM (fun r38 s38 H1 lc1 hp hM => ?_)
            obtain ⟨hbs38, rfl⟩ := hp
            have hbs38 : (if (MLs (s1 201) (s1 202 0) (s1 203 0) (s1 204 0)) = [] then (1 : Int) else 0) = r38 := hbs38
            obtain ⟨ts38, ks38⟩ := ite01 hbs38
            refine x_if_ne C ⟨by omega, by omega⟩ (tgt := 56) dX12_playOut_41 (by decide) (fun c41 => ?_) (fun c41 => ?_)
            · refine lv_iload_n C.1 C.2.1 dX12_playOut_56 rfl (lv_at hl 0 rfl) ?_
              refine x_iret C hr hM ?_ dX12_playOut_57
              exact ⟨fun h => absurd (show (1 ≤ d ∧ d ≤ 3) ∧ 1 ≤ m ∧ m ≤ 10 by omega) h, fun _ => hq c _ (by
                rw [show c - c = 0 by omega]
                by_cases e : c < m
                · rw [show (m - c).toNat = (m - (c + 1)).toNat + 1 by omega]
                  first | exact ⟨fun _ => ⟨by omega, rfl⟩, fun h => absurd (ks38.mp (by omega)) h⟩ | (exfalso; omega)
                · rw [show (m - c).toNat = 0 by omega]
                  exact ⟨rfl, rfl⟩)⟩
            · have hne41 : (MLs (s1 201) (s1 202 0) (s1 203 0) (s1 204 0)) ≠ [] := fun h => absurd (ks38.mpr h) (by omega)
              refine lv_aload_n C.1 C.2.1 dX12_playOut_44 rfl (lv_at hl 1 rfl) ?_
              refine lv_iload_n C.1 C.2.1 dX12_playOut_45 rfl (lv_at hl 2 rfl) ?_
              refine x_ci (x_runV (As := [.int (iI d)]) (rest := []) C (by omega) cw_X12_253 (c_X12_goNow l D ad G ids hJ s1 d (by omega) hN1.1 hN1.2.1 hN1.2.2.1 (TL_tv.mpr hN1.2.2.2.1) hN1.2.2.2.2.1 hN1.2.2.2.2.2.1 hne41) hM (hJ 100 (by decide) (by decide)) (cx_100 ad G _) rfl rfl rfl rfl (Nat.le_of_ble_eq_true rfl) hl.1 dX12_playOut_46) hM (fun r46 s46 H1 lc1 hp hM => ?_)
              obtain hqs46 : goQ _ _ _ _ := hp
              have hqs46 := hp
              refine lv_pop C.1 C.2.1 dX12_playOut_49 rfl ?_
              refine x_iinc (lv1 := [(3, .int (iI (c + 1))), (0, .ref (ad 100)), (1, .int (iI d)), (2, .int (iI m))]) C dX12_playOut_50 hl (k := 0) rfl (by decide) rfl (fun ls hl => ?_)
              refine lv_goto (tgt := 32) C.1 C.2.1 dX12_playOut_53 (by decide) ?_
              exact ih32 (c + 1) s46 _ _ _ (by omega) (goQ_ok hqs46 (by omega) hN1 hne41) (fun z σ' q => hq z σ' (by
                rw [show (m - c).toNat = (m - (c + 1)).toNat + 1 by omega]
                refine ⟨fun e => absurd e hne41, fun _ => ⟨_, _, hqs46, ?_⟩⟩
                rw [show z - c - 1 = z - (c + 1) by omega]; exact q)) (by omega) hM (lv_sub hl [0, 1, 2, 3] rfl)
      exact L32 _ 0 (upr σ 232 (ups (σ 232) 0 0)) _ _ _ (by omega) hN0 (fun z σ' q => by rw [show (m - 0).toNat = m.toNat by omega, show z - 0 = z by omega] at q; exact q) (Nat.lt_succ_self _) hM (lv_sub hl [0, 1, 2, 3] rfl)
    · refine lv_aload_n C.1 C.2.1 dX12_playOut_24 rfl (lv_at hl 0 rfl) ?_
      refine lv_iconst (v := iI 1) C.1 C.2.1 dX12_playOut_25 (by decide) ?_
      refine x_ci (x_runV (As := [.int (iI 1)]) (rest := []) C (by omega) cw_X12_217 (c_X12_refuse l D ad G ids hJ (upr σ 232 (ups (σ 232) 0 0)) 1) hM (hJ 100 (by decide) (by decide)) (cx_100 ad G _) rfl rfl rfl rfl (Nat.le_of_ble_eq_true rfl) hl.1 dX12_playOut_26) hM (fun r26 s26 H1 lc1 hp hM => ?_)
      obtain ⟨rfl, rfl⟩ := hp
      exact x_iret C hr hM ⟨fun _ => ⟨rfl, (th_th σ 0 1).symm⟩, fun h => absurd h (by omega)⟩ dX12_playOut_29
abbrev tePost (i wt : Int) (σ : Sg) : Int → Sg → Prop := fun z σ' => (¬ (0 ≤ i ∧ i < ((MLs (σ 201) (σ 202 0) (σ 203 0) (σ 204 0)).length : Int)) → 0 = z ∧ EQT σ' (th σ 1)) ∧ ((0 ≤ i ∧ i < ((MLs (σ 201) (σ 202 0) (σ 203 0) (σ 204 0)).length : Int)) → ¬ (1 ≤ wt ∧ wt ≤ 99) → 0 = z ∧ EQT σ' (th σ 2)) ∧ ((0 ≤ i ∧ i < ((MLs (σ 201) (σ 202 0) (σ 203 0) (σ 204 0)).length : Int)) → (1 ≤ wt ∧ wt ≤ 99) → (FB (mw σ) (keyS (cfg (mw σ)) (σ 201) (σ 204 0)) ((MLs (σ 201) (σ 202 0) (σ 203 0) (σ 204 0)).getD i.toNat (-1)) (-1) ∧ σ 227 0 = 30) → 0 = z ∧ EQT σ' (th σ 3)) ∧ ((0 ≤ i ∧ i < ((MLs (σ 201) (σ 202 0) (σ 203 0) (σ 204 0)).length : Int)) → (1 ≤ wt ∧ wt ≤ 99) → ¬ (FB (mw σ) (keyS (cfg (mw σ)) (σ 201) (σ 204 0)) ((MLs (σ 201) (σ 202 0) (σ 203 0) (σ 204 0)).getD i.toNat (-1)) (-1) ∧ σ 227 0 = 30) → ∃ (pg : Int) (τ : Sg), EQT τ (th σ 0) ∧ (FB (mw σ) (keyS (cfg (mw σ)) (σ 201) (σ 204 0)) ((MLs (σ 201) (σ 202 0) (σ 203 0) (σ 204 0)).getD i.toNat (-1)) pg ∧ 0 ≤ pg ∨ FB (mw σ) (keyS (cfg (mw σ)) (σ 201) (σ 204 0)) ((MLs (σ 201) (σ 202 0) (σ 203 0) (σ 204 0)).getD i.toNat (-1)) (-1) ∧ pg = σ 227 0) ∧ mw σ' = wrB (mw τ) pg (keyS (cfg (mw σ)) (σ 201) (σ 204 0)) ((MLs (σ 201) (σ 202 0) (σ 203 0) (σ 204 0)).getD i.toNat (-1)) wt ∧ σ' 227 0 = z ∧ ∀ r : Nat, ¬ (224 ≤ r ∧ r ≤ 227) → σ' r = τ r)
set_option maxRecDepth 100000 in
set_option maxHeartbeats 4000000 in
theorem c_X12_teach (l : Launch) (D : va_G) (ad : Nat → Nat) (G : Nat → Nat) (ids : List Nat) (hJ : ∀ k, 100 ≤ k → k < 233 → k ∈ ids) (σ : Sg) (i wt : Int) (hG : GI (mw σ)) (hBK : BKI (mw σ)) (hi : IR i) (hw : IR wt) : MET l yX12_teach cX12_teach 5 (some .int) 9 [.ref (ad 100), .int (iI i), .int (iI wt)] D ad G ids σ (QI D ad G ids (tePost i wt σ)) := by
  have hi0 := hi
  have h18 : (MLs (σ 201) (σ 202 0) (σ 203 0) (σ 204 0)).length ≤ 18 := MLs18 hG
  unfold IR at hi
  unfold IR at hw
  have hbk : 0 ≤ σ 227 0 ∧ σ 227 0 ≤ 30 := hBK.1
  have hkey : 0 ≤ (keyS (cfg (mw σ)) (σ 201) (σ 204 0)) ∧ (keyS (cfg (mw σ)) (σ 201) (σ 204 0)) < 4000000000000000000 := SB_key hG
  refine x_enter (by decide) (Nat.le_of_ble_eq_true rfl) ?_
  intro pp ee ss mm args below meth cq C hr ls hl hM
  have hl : lv_has ls 5 [(0, .ref (ad 100)), (1, .int (iI i)), (2, .int (iI wt))] := hl
  refine lv_aload_n C.1 C.2.1 dX12_teach_0 rfl (lv_at hl 0 rfl) ?_
  refine lv_iconst (v := iI 0) C.1 C.2.1 dX12_teach_1 (by decide) ?_
  refine p_X12_0 C hM (hJ 100 (by decide) (by decide)) wf_X12_64 dX12_teach_2 (fun H1 lc1 hM => ?_)
  refine lv_aload_n C.1 C.2.1 dX12_teach_5 rfl (lv_at hl 0 rfl) ?_
  refine lv_iload_n C.1 C.2.1 dX12_teach_6 rfl (lv_at hl 1 rfl) ?_
  refine x_ci (x_runV (As := [.int (iI i)]) (rest := []) C (by omega) cw_X12_232 (c_X12_isMove l D ad G ids hJ (upr σ 232 (ups (σ 232) 0 0)) i (GI_th 0 hG) hi0) hM (hJ 100 (by decide) (by decide)) (cx_100 ad G _) rfl rfl rfl rfl (Nat.le_of_ble_eq_true rfl) hl.1 dX12_teach_7) hM (fun r7 s7 H1 lc1 hp hM => ?_)
  obtain ⟨hbs7, hLs7, hfs7⟩ := hp
  have hbs7 : (if 0 ≤ i ∧ i < ((MLs (σ 201) (σ 202 0) (σ 203 0) (σ 204 0)).length : Int) then (1 : Int) else 0) = r7 := hbs7
  have hLs7 : RWL s7 (240 + 0) (MLs (σ 201) (σ 202 0) (σ 203 0) (σ 204 0)) := hLs7
  have hE : EQT s7 (th σ 0) := fun r hr => hfs7 r (by omega)
  obtain ⟨ts7, ks7⟩ := ite01 hbs7
  refine x_if_ne C ⟨by omega, by omega⟩ (tgt := 19) dX12_teach_10 (by decide) (fun c10 => ?_) (fun c10 => ?_)
  · refine lv_iload_n C.1 C.2.1 dX12_teach_19 rfl (lv_at hl 2 rfl) ?_
    refine lv_iconst (v := iI 1) C.1 C.2.1 dX12_teach_20 (by decide) ?_
    refine lv_bipush (v := iI 99) C.1 C.2.1 dX12_teach_21 (by decide) ?_
    refine x_ci (x_runS (As := [.int (iI wt), .int (iI 1), .int (iI 99)]) (rest := []) C (by omega) cw_X12_83 (c_X12_is l D ad G ids hJ s7 wt 1 99 (by unfold IR; omega) (by unfold IR; omega) (by unfold IR; omega)) hM rfl rfl (Nat.le_of_ble_eq_true rfl) hl.1 dX12_teach_23) hM (fun r23 s23 H1 lc1 hp hM => ?_)
    obtain ⟨hbs23, rfl⟩ := hp
    obtain ⟨ts23, ks23⟩ := ite01 hbs23
    refine x_if_ne C ⟨by omega, by omega⟩ (tgt := 35) dX12_teach_26 (by decide) (fun c26 => ?_) (fun c26 => ?_)
    · have hmi : ((MLs (σ 201) (σ 202 0) (σ 203 0) (σ 204 0)).getD i.toNat (-1)) ∈ (MLs (σ 201) (σ 202 0) (σ 203 0) (σ 204 0)) := getD_mem (by omega) (by omega)
      have hmv : MV (mw σ) ((MLs (σ 201) (σ 202 0) (σ 203 0) (σ 204 0)).getD i.toNat (-1)) := hmi
      have hok := hmv.ok hG
      have hok : (0 ≤ ((MLs (σ 201) (σ 202 0) (σ 203 0) (σ 204 0)).getD i.toNat (-1)) ∧ ((MLs (σ 201) (σ 202 0) (σ 203 0) (σ 204 0)).getD i.toNat (-1)) / 100 < σ 202 0 * σ 203 0 ∧ ((MLs (σ 201) (σ 202 0) (σ 203 0) (σ 204 0)).getD i.toNat (-1)) % 100 < σ 202 0 * σ 203 0) ∧ ((MLs (σ 201) (σ 202 0) (σ 203 0) (σ 204 0)).getD i.toNat (-1)) / 100 ≠ ((MLs (σ 201) (σ 202 0) (σ 203 0) (σ 204 0)).getD i.toNat (-1)) % 100 ∧ ((MLs (σ 201) (σ 202 0) (σ 203 0) (σ 204 0)).getD i.toNat (-1)) < 2500 := hok
      have hGs : GI (mw s7) := GIm_of (GI_th 0 hG) (fun r _ _ => hE r (by omega))
      have e201 : s7 201 = σ 201 := hE 201 (by decide)
      have e202 : s7 202 = σ 202 := hE 202 (by decide)
      have e203 : s7 203 = σ 203 := hE 203 (by decide)
      have e204 : s7 204 = σ 204 := hE 204 (by decide)
      have e224 : s7 224 = σ 224 := hE 224 (by decide)
      have e225 : s7 225 = σ 225 := hE 225 (by decide)
      have e226 : s7 226 = σ 226 := hE 226 (by decide)
      have e227 : s7 227 = σ 227 := hE 227 (by decide)
      have e227b : s7 227 0 = σ 227 0 := congrFun e227 0
      have hBs : BKI (mw s7) := by
        have q1 : mw s7 24 = mw σ 24 := e224
        have q2 : mw s7 25 = mw σ 25 := e225
        have q3 : mw s7 26 = mw σ 26 := e226
        have q4 : mw s7 27 = mw σ 27 := e227
        unfold BKI at *
        rw [q1, q2, q3, q4]; exact hBK
      have hke46 : keyF (s7 201) (s7 202 0 * s7 203 0).toNat * 2 + s7 204 0 = (keyS (cfg (mw σ)) (σ 201) (σ 204 0)) := by rw [e201, e202, e203, e204]; rfl
      have hsr7 : IR (s7 204 0) := by rw [e204]; unfold IR; have h01 : σ 204 0 = 0 ∨ σ 204 0 = 1 := hG.2.2.1; omega
      refine lv_aload_n C.1 C.2.1 dX12_teach_35 rfl (lv_at hl 0 rfl) ?_
      refine g_X12_10 C hM (hJ 100 (by decide) (by decide)) wf_X12_29 dX12_teach_36 ?_
      refine lv_iconst (v := iI 0) C.1 C.2.1 dX12_teach_39 (by decide) ?_
      refine aa_listed C hM (hJ 103 (by decide) (by decide)) (i := 0) (by omega) dX12_teach_40 ?_
      refine lv_iload_n C.1 C.2.1 dX12_teach_41 rfl (lv_at hl 1 rfl) ?_
      refine al_li C hM (by omega) (hJ _ (by omega) (by omega)) (by omega) (by omega) dX12_teach_42 ?_
      rw [hLs7.at (by omega) (by omega)]
      refine lv_istore_n (lv' := [(3, .int (iI ((MLs (σ 201) (σ 202 0) (σ 203 0) (σ 204 0)).getD i.toNat (-1)))), (0, .ref (ad 100)), (1, .int (iI i)), (2, .int (iI wt))]) C.1 C.2.1 dX12_teach_43 rfl hl (by decide) rfl (fun ls hl => ?_)
      refine lv_aload_n C.1 C.2.1 dX12_teach_44 rfl (lv_at hl 1 rfl) ?_
      refine lv_aload_n C.1 C.2.1 dX12_teach_45 rfl (lv_at hl 1 rfl) ?_
      refine x_cl (x_runV (As := []) (rest := [.ref (ad 100)]) C (by omega) cw_X12_157 (c_X12_keyNow l D ad G ids hJ s7 hGs.1 hGs.2.1 hsr7) hM (hJ 100 (by decide) (by decide)) (cx_100 ad G _) rfl rfl rfl rfl (Nat.le_of_ble_eq_true rfl) hl.1 dX12_teach_46) hM (fun r46 s46 H1 lc1 hp hM => ?_)
      obtain ⟨rfl, rfl⟩ := hp
      rw [hke46]
      refine lv_iload_n C.1 C.2.1 dX12_teach_49 rfl (lv_at hl 0 rfl) ?_
      refine x_ci (x_runV (As := [.long (jI (keyS (cfg (mw σ)) (σ 201) (σ 204 0))), .int (iI ((MLs (σ 201) (σ 202 0) (σ 203 0) (σ 204 0)).getD i.toNat (-1)))]) (rest := []) C (by omega) cw_X12_213 (c_X12_pageOf l D ad G ids hJ s7 (keyS (cfg (mw σ)) (σ 201) (σ 204 0)) ((MLs (σ 201) (σ 202 0) (σ 203 0) (σ 204 0)).getD i.toNat (-1)) hBs hkey (by omega)) hM (hJ 100 (by decide) (by decide)) (cx_100 ad G _) rfl rfl rfl rfl (Nat.le_of_ble_eq_true rfl) hl.1 dX12_teach_50) hM (fun r50 s50 H1 lc1 hp hM => ?_)
      obtain ⟨hbs50, rfl⟩ := hp
      refine lv_istore (lv' := [(4, .int (iI r50)), (3, .int (iI ((MLs (σ 201) (σ 202 0) (σ 203 0) (σ 204 0)).getD i.toNat (-1)))), (0, .ref (ad 100)), (1, .int (iI i)), (2, .int (iI wt))]) C.1 C.2.1 dX12_teach_53 hl (by decide) rfl (fun ls hl => ?_)
      have hb5 : FB (mw σ) (keyS (cfg (mw σ)) (σ 201) (σ 204 0)) ((MLs (σ 201) (σ 202 0) (σ 203 0) (σ 204 0)).getD i.toNat (-1)) r50 := by
        have q1 : mw s7 24 = mw σ 24 := e224
        have q2 : mw s7 25 = mw σ 25 := e225
        have q4 : mw s7 27 = mw σ 27 := e227
        unfold FB at hbs50 ⊢
        rw [q1, q2, q4] at hbs50; exact hbs50
      have hz50 : (0 ≤ r50 ∧ r50 < σ 227 0) ∨ r50 = -1 := by
        rcases hb5 with h | h
        · exact Or.inl ⟨h.1, h.2.1⟩
        · exact Or.inr h.1
      refine lv_iload C.1 C.2.1 dX12_teach_55 (lv_at hl 0 rfl) ?_
      refine lv_iconst (v := iI (-1)) C.1 C.2.1 dX12_teach_57 (by decide) ?_
      refine x_icmp_ne C ⟨by omega, by omega⟩ ⟨by omega, by omega⟩ (tgt := 76) dX12_teach_58 (by decide) (fun c58 => ?_) (fun c58 => ?_)
      · refine lv_iload C.1 C.2.1 dX12_teach_76 (lv_at hl 0 rfl) ?_
        refine lv_iconst (v := iI (-1)) C.1 C.2.1 dX12_teach_78 (by decide) ?_
        refine x_icmp_ne C ⟨by omega, by omega⟩ ⟨by omega, by omega⟩ (tgt := 98) dX12_teach_79 (by decide) (fun c79 => ?_) (fun c79 => ?_)
        · refine lv_aload_n C.1 C.2.1 dX12_teach_98 rfl (lv_at hl 2 rfl) ?_
          refine g_X12_23 C hM (hJ 100 (by decide) (by decide)) wf_X12_54 dX12_teach_99 ?_
          refine lv_iload C.1 C.2.1 dX12_teach_102 (lv_at hl 0 rfl) ?_
          refine lv_aload_n C.1 C.2.1 dX12_teach_104 rfl (lv_at hl 2 rfl) ?_
          refine x_cl (x_runV (As := []) (rest := [.int (iI r50), .ref (ad 201)]) C (by omega) cw_X12_157 (c_X12_keyNow l D ad G ids hJ s7 (show BG (mw s7) from hGs.1) (show BC (s7 201) from hGs.2.1) (show IR (s7 204 0) from hsr7)) hM (hJ 100 (by decide) (by decide)) (cx_100 ad G _) rfl rfl rfl rfl (Nat.le_of_ble_eq_true rfl) hl.1 dX12_teach_105) hM (fun r105 s105 H1 lc1 hp hM => ?_)
          obtain ⟨rfl, rfl⟩ := hp
          have hke105 : keyF (s7 201) (s7 202 0 * s7 203 0).toNat * 2 + s7 204 0 = (keyS (cfg (mw σ)) (σ 201) (σ 204 0)) := hke46
          rw [hke105]
          refine as_201 C hM (hJ 201 (by decide) (by decide)) (by omega) (by omega) dX12_teach_108 (fun H1 lc1 hM => ?_)
          refine lv_aload_n C.1 C.2.1 dX12_teach_109 rfl (lv_at hl 2 rfl) ?_
          refine g_X12_24 C hM (hJ 100 (by decide) (by decide)) wf_X12_57 dX12_teach_110 ?_
          refine lv_iload C.1 C.2.1 dX12_teach_113 (lv_at hl 0 rfl) ?_
          refine aaz_page C hM (hJ 202 (by decide) (by decide)) (by omega) (by omega) dX12_teach_115 ?_
          refine lv_iconst (v := iI 0) C.1 C.2.1 dX12_teach_116 (by decide) ?_
          refine lv_iload_n C.1 C.2.1 dX12_teach_117 rfl (lv_at hl 1 rfl) ?_
          refine asz_pg0 C hM (by omega) (by omega) (hJ _ (by omega) (by omega)) dX12_teach_118 (fun H1 lc1 hM => ?_)
          refine lv_aload_n C.1 C.2.1 dX12_teach_119 rfl (lv_at hl 2 rfl) ?_
          refine g_X12_24 C hM (hJ 100 (by decide) (by decide)) wf_X12_57 dX12_teach_120 ?_
          refine lv_iload C.1 C.2.1 dX12_teach_123 (lv_at hl 0 rfl) ?_
          refine aaz_page C hM (hJ 202 (by decide) (by decide)) (by omega) (by omega) dX12_teach_125 ?_
          refine lv_iconst (v := iI 1) C.1 C.2.1 dX12_teach_126 (by decide) ?_
          refine lv_iload_n C.1 C.2.1 dX12_teach_127 rfl (lv_at hl 4 rfl) ?_
          refine asz_pg1 C hM (by omega) (by omega) (hJ _ (by omega) (by omega)) dX12_teach_128 (fun H1 lc1 hM => ?_)
          refine lv_aload_n C.1 C.2.1 dX12_teach_129 rfl (lv_at hl 2 rfl) ?_
          refine g_X12_22 C hM (hJ 100 (by decide) (by decide)) wf_X12_210 dX12_teach_130 ?_
          rw [upr_ne _ _ (show (227 : Nat) ≠ 226 by omega)]
          rw [upr_ne _ _ (show (227 : Nat) ≠ 225 by omega)]
          rw [upr_ne _ _ (show (227 : Nat) ≠ 224 by omega)]
          refine x_iret C hr hM ?_ dX12_teach_133
          exact by
            refine ⟨fun h => absurd (show 0 ≤ i ∧ i < ((MLs (σ 201) (σ 202 0) (σ 203 0) (σ 204 0)).length : Int) by omega) h, fun _ h => absurd (show 1 ≤ wt ∧ wt ≤ 99 by omega) h, fun _ _ h => absurd (show r50 = -1 from ?_) (by omega), fun _ _ _ => ⟨r50, s7, hE, Or.inl ⟨hb5, by omega⟩, wr_ok rfl rfl rfl (by rw [show max (s7 227 0) (r50 + 1) = s7 227 0 by omega, ups_self]; rfl) (fun r hr => ?_), rfl, fun r hr => ?_⟩⟩
            · rcases hb5 with q | q
              · exact absurd ⟨q.2.2.1, q.2.2.2⟩ ((h.1.resolve_left (fun w => absurd w.1 (by omega))).2 r50 q.1 q.2.1)
              · exact q.1
            all_goals rw [upr_ne _ _ (by omega), upr_ne _ _ (by omega), upr_ne _ _ (by omega)]
        · have hbm : FB (mw σ) (keyS (cfg (mw σ)) (σ 201) (σ 204 0)) ((MLs (σ 201) (σ 202 0) (σ 203 0) (σ 204 0)).getD i.toNat (-1)) (-1) := (show r50 = -1 by omega) ▸ hb5
          refine lv_aload_n C.1 C.2.1 dX12_teach_82 rfl (lv_at hl 2 rfl) ?_
          refine g_X12_22 C hM (hJ 100 (by decide) (by decide)) wf_X12_210 dX12_teach_83 ?_
          refine lv_istore (lv' := [(4, .int (iI (s7 227 0))), (3, .int (iI ((MLs (σ 201) (σ 202 0) (σ 203 0) (σ 204 0)).getD i.toNat (-1)))), (0, .ref (ad 100)), (1, .int (iI i)), (2, .int (iI wt))]) C.1 C.2.1 dX12_teach_86 hl (by decide) rfl (fun ls hl => ?_)
          refine lv_aload_n C.1 C.2.1 dX12_teach_88 rfl (lv_at hl 2 rfl) ?_
          refine lv_dup C.1 C.2.1 dX12_teach_89 rfl ?_
          refine g_X12_22 C hM (hJ 100 (by decide) (by decide)) wf_X12_210 dX12_teach_90 ?_
          refine lv_iconst (v := iI 1) C.1 C.2.1 dX12_teach_93 (by decide) ?_
          refine x_iadd C dX12_teach_94 ?_
          refine p_X12_22 C hM (hJ 100 (by decide) (by decide)) wf_X12_210 dX12_teach_95 (fun H1 lc1 hM => ?_)
          refine lv_aload_n C.1 C.2.1 dX12_teach_98 rfl (lv_at hl 2 rfl) ?_
          refine g_X12_23 C hM (hJ 100 (by decide) (by decide)) wf_X12_54 dX12_teach_99 ?_
          refine lv_iload C.1 C.2.1 dX12_teach_102 (lv_at hl 0 rfl) ?_
          refine lv_aload_n C.1 C.2.1 dX12_teach_104 rfl (lv_at hl 2 rfl) ?_
          refine x_cl (x_runV (As := []) (rest := [.int (iI (s7 227 0)), .ref (ad 201)]) C (by omega) cw_X12_157 (c_X12_keyNow l D ad G ids hJ (upr s7 227 (ups (s7 227) 0 ((s7 227 0) + 1))) (show BG (mw s7) from hGs.1) (show BC (s7 201) from hGs.2.1) (show IR (s7 204 0) from hsr7)) hM (hJ 100 (by decide) (by decide)) (cx_100 ad G _) rfl rfl rfl rfl (Nat.le_of_ble_eq_true rfl) hl.1 dX12_teach_105) hM (fun r105 s105 H1 lc1 hp hM => ?_)
          obtain ⟨rfl, rfl⟩ := hp
          have hke105 : keyF ((upr s7 227 (ups (s7 227) 0 ((s7 227 0) + 1))) 201) ((upr s7 227 (ups (s7 227) 0 ((s7 227 0) + 1))) 202 0 * (upr s7 227 (ups (s7 227) 0 ((s7 227 0) + 1))) 203 0).toNat * 2 + (upr s7 227 (ups (s7 227) 0 ((s7 227 0) + 1))) 204 0 = (keyS (cfg (mw σ)) (σ 201) (σ 204 0)) := hke46
          rw [hke105]
          refine as_201 C hM (hJ 201 (by decide) (by decide)) (by omega) (by omega) dX12_teach_108 (fun H1 lc1 hM => ?_)
          refine lv_aload_n C.1 C.2.1 dX12_teach_109 rfl (lv_at hl 2 rfl) ?_
          refine g_X12_24 C hM (hJ 100 (by decide) (by decide)) wf_X12_57 dX12_teach_110 ?_
          refine lv_iload C.1 C.2.1 dX12_teach_113 (lv_at hl 0 rfl) ?_
          refine aaz_page C hM (hJ 202 (by decide) (by decide)) (by omega) (by omega) dX12_teach_115 ?_
          refine lv_iconst (v := iI 0) C.1 C.2.1 dX12_teach_116 (by decide) ?_
          refine lv_iload_n C.1 C.2.1 dX12_teach_117 rfl (lv_at hl 1 rfl) ?_
          refine asz_pg0 C hM (by omega) (by omega) (hJ _ (by omega) (by omega)) dX12_teach_118 (fun H1 lc1 hM => ?_)
          refine lv_aload_n C.1 C.2.1 dX12_teach_119 rfl (lv_at hl 2 rfl) ?_
          refine g_X12_24 C hM (hJ 100 (by decide) (by decide)) wf_X12_57 dX12_teach_120 ?_
          refine lv_iload C.1 C.2.1 dX12_teach_123 (lv_at hl 0 rfl) ?_
          refine aaz_page C hM (hJ 202 (by decide) (by decide)) (by omega) (by omega) dX12_teach_125 ?_
          refine lv_iconst (v := iI 1) C.1 C.2.1 dX12_teach_126 (by decide) ?_
          refine lv_iload_n C.1 C.2.1 dX12_teach_127 rfl (lv_at hl 4 rfl) ?_
          refine asz_pg1 C hM (by omega) (by omega) (hJ _ (by omega) (by omega)) dX12_teach_128 (fun H1 lc1 hM => ?_)
          refine lv_aload_n C.1 C.2.1 dX12_teach_129 rfl (lv_at hl 2 rfl) ?_
          refine g_X12_22 C hM (hJ 100 (by decide) (by decide)) wf_X12_210 dX12_teach_130 ?_
          rw [upr_ne _ _ (show (227 : Nat) ≠ 226 by omega)]
          rw [upr_ne _ _ (show (227 : Nat) ≠ 225 by omega)]
          rw [upr_ne _ _ (show (227 : Nat) ≠ 224 by omega)]
          rw [upr_eq, ups_eq]
          refine x_iret C hr hM ?_ dX12_teach_133
          exact by
            refine ⟨fun h => absurd (show 0 ≤ i ∧ i < ((MLs (σ 201) (σ 202 0) (σ 203 0) (σ 204 0)).length : Int) by omega) h, fun _ h => absurd (show 1 ≤ wt ∧ wt ≤ 99 by omega) h, fun _ _ h => absurd h.2 (by omega), fun _ _ _ => ⟨s7 227 0, s7, hE, Or.inr ⟨hbm, e227b⟩, wr_ok rfl rfl rfl (by rw [show max (s7 227 0) (s7 227 0 + 1) = s7 227 0 + 1 by omega]; rfl) (fun r hr => ?_), rfl, fun r hr => ?_⟩⟩
            all_goals rw [upr_ne _ _ (by omega), upr_ne _ _ (by omega), upr_ne _ _ (by omega), upr_ne _ _ (by omega)]
      · refine lv_aload_n C.1 C.2.1 dX12_teach_61 rfl (lv_at hl 2 rfl) ?_
        refine g_X12_22 C hM (hJ 100 (by decide) (by decide)) wf_X12_210 dX12_teach_62 ?_
        refine lv_bipush (v := iI 30) C.1 C.2.1 dX12_teach_65 (by decide) ?_
        refine x_icmp_ne C ⟨by omega, by omega⟩ ⟨by omega, by omega⟩ (tgt := 76) dX12_teach_67 (by decide) (fun c67 => ?_) (fun c67 => ?_)
        · refine lv_iload C.1 C.2.1 dX12_teach_76 (lv_at hl 0 rfl) ?_
          refine lv_iconst (v := iI (-1)) C.1 C.2.1 dX12_teach_78 (by decide) ?_
          refine x_icmp_ne C ⟨by omega, by omega⟩ ⟨by omega, by omega⟩ (tgt := 98) dX12_teach_79 (by decide) (fun c79 => ?_) (fun c79 => ?_)
          · refine lv_aload_n C.1 C.2.1 dX12_teach_98 rfl (lv_at hl 2 rfl) ?_
            refine g_X12_23 C hM (hJ 100 (by decide) (by decide)) wf_X12_54 dX12_teach_99 ?_
            refine lv_iload C.1 C.2.1 dX12_teach_102 (lv_at hl 0 rfl) ?_
            refine lv_aload_n C.1 C.2.1 dX12_teach_104 rfl (lv_at hl 2 rfl) ?_
            refine x_cl (x_runV (As := []) (rest := [.int (iI r50), .ref (ad 201)]) C (by omega) cw_X12_157 (c_X12_keyNow l D ad G ids hJ s7 (show BG (mw s7) from hGs.1) (show BC (s7 201) from hGs.2.1) (show IR (s7 204 0) from hsr7)) hM (hJ 100 (by decide) (by decide)) (cx_100 ad G _) rfl rfl rfl rfl (Nat.le_of_ble_eq_true rfl) hl.1 dX12_teach_105) hM (fun r105 s105 H1 lc1 hp hM => ?_)
            obtain ⟨rfl, rfl⟩ := hp
            have hke105 : keyF (s7 201) (s7 202 0 * s7 203 0).toNat * 2 + s7 204 0 = (keyS (cfg (mw σ)) (σ 201) (σ 204 0)) := hke46
            rw [hke105]
            refine as_201 C hM (hJ 201 (by decide) (by decide)) (by omega) (by omega) dX12_teach_108 (fun H1 lc1 hM => ?_)
            refine lv_aload_n C.1 C.2.1 dX12_teach_109 rfl (lv_at hl 2 rfl) ?_
            refine g_X12_24 C hM (hJ 100 (by decide) (by decide)) wf_X12_57 dX12_teach_110 ?_
            refine lv_iload C.1 C.2.1 dX12_teach_113 (lv_at hl 0 rfl) ?_
            refine aaz_page C hM (hJ 202 (by decide) (by decide)) (by omega) (by omega) dX12_teach_115 ?_
            refine lv_iconst (v := iI 0) C.1 C.2.1 dX12_teach_116 (by decide) ?_
            refine lv_iload_n C.1 C.2.1 dX12_teach_117 rfl (lv_at hl 1 rfl) ?_
            refine asz_pg0 C hM (by omega) (by omega) (hJ _ (by omega) (by omega)) dX12_teach_118 (fun H1 lc1 hM => ?_)
            refine lv_aload_n C.1 C.2.1 dX12_teach_119 rfl (lv_at hl 2 rfl) ?_
            refine g_X12_24 C hM (hJ 100 (by decide) (by decide)) wf_X12_57 dX12_teach_120 ?_
            refine lv_iload C.1 C.2.1 dX12_teach_123 (lv_at hl 0 rfl) ?_
            refine aaz_page C hM (hJ 202 (by decide) (by decide)) (by omega) (by omega) dX12_teach_125 ?_
            refine lv_iconst (v := iI 1) C.1 C.2.1 dX12_teach_126 (by decide) ?_
            refine lv_iload_n C.1 C.2.1 dX12_teach_127 rfl (lv_at hl 4 rfl) ?_
            refine asz_pg1 C hM (by omega) (by omega) (hJ _ (by omega) (by omega)) dX12_teach_128 (fun H1 lc1 hM => ?_)
            refine lv_aload_n C.1 C.2.1 dX12_teach_129 rfl (lv_at hl 2 rfl) ?_
            refine g_X12_22 C hM (hJ 100 (by decide) (by decide)) wf_X12_210 dX12_teach_130 ?_
            rw [upr_ne _ _ (show (227 : Nat) ≠ 226 by omega)]
            rw [upr_ne _ _ (show (227 : Nat) ≠ 225 by omega)]
            rw [upr_ne _ _ (show (227 : Nat) ≠ 224 by omega)]
            refine x_iret C hr hM ?_ dX12_teach_133
            exact by
              refine ⟨fun h => absurd (show 0 ≤ i ∧ i < ((MLs (σ 201) (σ 202 0) (σ 203 0) (σ 204 0)).length : Int) by omega) h, fun _ h => absurd (show 1 ≤ wt ∧ wt ≤ 99 by omega) h, fun _ _ h => absurd (show r50 = -1 from ?_) (by omega), fun _ _ _ => ⟨r50, s7, hE, Or.inl ⟨hb5, by omega⟩, wr_ok rfl rfl rfl (by rw [show max (s7 227 0) (r50 + 1) = s7 227 0 by omega, ups_self]; rfl) (fun r hr => ?_), rfl, fun r hr => ?_⟩⟩
              · rcases hb5 with q | q
                · exact absurd ⟨q.2.2.1, q.2.2.2⟩ ((h.1.resolve_left (fun w => absurd w.1 (by omega))).2 r50 q.1 q.2.1)
                · exact q.1
              all_goals rw [upr_ne _ _ (by omega), upr_ne _ _ (by omega), upr_ne _ _ (by omega)]
          · have hbm : FB (mw σ) (keyS (cfg (mw σ)) (σ 201) (σ 204 0)) ((MLs (σ 201) (σ 202 0) (σ 203 0) (σ 204 0)).getD i.toNat (-1)) (-1) := (show r50 = -1 by omega) ▸ hb5
            refine lv_aload_n C.1 C.2.1 dX12_teach_82 rfl (lv_at hl 2 rfl) ?_
            refine g_X12_22 C hM (hJ 100 (by decide) (by decide)) wf_X12_210 dX12_teach_83 ?_
            refine lv_istore (lv' := [(4, .int (iI (s7 227 0))), (3, .int (iI ((MLs (σ 201) (σ 202 0) (σ 203 0) (σ 204 0)).getD i.toNat (-1)))), (0, .ref (ad 100)), (1, .int (iI i)), (2, .int (iI wt))]) C.1 C.2.1 dX12_teach_86 hl (by decide) rfl (fun ls hl => ?_)
            refine lv_aload_n C.1 C.2.1 dX12_teach_88 rfl (lv_at hl 2 rfl) ?_
            refine lv_dup C.1 C.2.1 dX12_teach_89 rfl ?_
            refine g_X12_22 C hM (hJ 100 (by decide) (by decide)) wf_X12_210 dX12_teach_90 ?_
            refine lv_iconst (v := iI 1) C.1 C.2.1 dX12_teach_93 (by decide) ?_
            refine x_iadd C dX12_teach_94 ?_
            refine p_X12_22 C hM (hJ 100 (by decide) (by decide)) wf_X12_210 dX12_teach_95 (fun H1 lc1 hM => ?_)
            refine lv_aload_n C.1 C.2.1 dX12_teach_98 rfl (lv_at hl 2 rfl) ?_
            refine g_X12_23 C hM (hJ 100 (by decide) (by decide)) wf_X12_54 dX12_teach_99 ?_
            refine lv_iload C.1 C.2.1 dX12_teach_102 (lv_at hl 0 rfl) ?_
            refine lv_aload_n C.1 C.2.1 dX12_teach_104 rfl (lv_at hl 2 rfl) ?_
            refine x_cl (x_runV (As := []) (rest := [.int (iI (s7 227 0)), .ref (ad 201)]) C (by omega) cw_X12_157 (c_X12_keyNow l D ad G ids hJ (upr s7 227 (ups (s7 227) 0 ((s7 227 0) + 1))) (show BG (mw s7) from hGs.1) (show BC (s7 201) from hGs.2.1) (show IR (s7 204 0) from hsr7)) hM (hJ 100 (by decide) (by decide)) (cx_100 ad G _) rfl rfl rfl rfl (Nat.le_of_ble_eq_true rfl) hl.1 dX12_teach_105) hM (fun r105 s105 H1 lc1 hp hM => ?_)
            obtain ⟨rfl, rfl⟩ := hp
            have hke105 : keyF ((upr s7 227 (ups (s7 227) 0 ((s7 227 0) + 1))) 201) ((upr s7 227 (ups (s7 227) 0 ((s7 227 0) + 1))) 202 0 * (upr s7 227 (ups (s7 227) 0 ((s7 227 0) + 1))) 203 0).toNat * 2 + (upr s7 227 (ups (s7 227) 0 ((s7 227 0) + 1))) 204 0 = (keyS (cfg (mw σ)) (σ 201) (σ 204 0)) := hke46
            rw [hke105]
            refine as_201 C hM (hJ 201 (by decide) (by decide)) (by omega) (by omega) dX12_teach_108 (fun H1 lc1 hM => ?_)
            refine lv_aload_n C.1 C.2.1 dX12_teach_109 rfl (lv_at hl 2 rfl) ?_
            refine g_X12_24 C hM (hJ 100 (by decide) (by decide)) wf_X12_57 dX12_teach_110 ?_
            refine lv_iload C.1 C.2.1 dX12_teach_113 (lv_at hl 0 rfl) ?_
            refine aaz_page C hM (hJ 202 (by decide) (by decide)) (by omega) (by omega) dX12_teach_115 ?_
            refine lv_iconst (v := iI 0) C.1 C.2.1 dX12_teach_116 (by decide) ?_
            refine lv_iload_n C.1 C.2.1 dX12_teach_117 rfl (lv_at hl 1 rfl) ?_
            refine asz_pg0 C hM (by omega) (by omega) (hJ _ (by omega) (by omega)) dX12_teach_118 (fun H1 lc1 hM => ?_)
            refine lv_aload_n C.1 C.2.1 dX12_teach_119 rfl (lv_at hl 2 rfl) ?_
            refine g_X12_24 C hM (hJ 100 (by decide) (by decide)) wf_X12_57 dX12_teach_120 ?_
            refine lv_iload C.1 C.2.1 dX12_teach_123 (lv_at hl 0 rfl) ?_
            refine aaz_page C hM (hJ 202 (by decide) (by decide)) (by omega) (by omega) dX12_teach_125 ?_
            refine lv_iconst (v := iI 1) C.1 C.2.1 dX12_teach_126 (by decide) ?_
            refine lv_iload_n C.1 C.2.1 dX12_teach_127 rfl (lv_at hl 4 rfl) ?_
            refine asz_pg1 C hM (by omega) (by omega) (hJ _ (by omega) (by omega)) dX12_teach_128 (fun H1 lc1 hM => ?_)
            refine lv_aload_n C.1 C.2.1 dX12_teach_129 rfl (lv_at hl 2 rfl) ?_
            refine g_X12_22 C hM (hJ 100 (by decide) (by decide)) wf_X12_210 dX12_teach_130 ?_
            rw [upr_ne _ _ (show (227 : Nat) ≠ 226 by omega)]
            rw [upr_ne _ _ (show (227 : Nat) ≠ 225 by omega)]
            rw [upr_ne _ _ (show (227 : Nat) ≠ 224 by omega)]
            rw [upr_eq, ups_eq]
            refine x_iret C hr hM ?_ dX12_teach_133
            exact by
              refine ⟨fun h => absurd (show 0 ≤ i ∧ i < ((MLs (σ 201) (σ 202 0) (σ 203 0) (σ 204 0)).length : Int) by omega) h, fun _ h => absurd (show 1 ≤ wt ∧ wt ≤ 99 by omega) h, fun _ _ h => absurd h.2 (by omega), fun _ _ _ => ⟨s7 227 0, s7, hE, Or.inr ⟨hbm, e227b⟩, wr_ok rfl rfl rfl (by rw [show max (s7 227 0) (s7 227 0 + 1) = s7 227 0 + 1 by omega]; rfl) (fun r hr => ?_), rfl, fun r hr => ?_⟩⟩
              all_goals rw [upr_ne _ _ (by omega), upr_ne _ _ (by omega), upr_ne _ _ (by omega), upr_ne _ _ (by omega)]
        · have hbm : FB (mw σ) (keyS (cfg (mw σ)) (σ 201) (σ 204 0)) ((MLs (σ 201) (σ 202 0) (σ 203 0) (σ 204 0)).getD i.toNat (-1)) (-1) := (show r50 = -1 by omega) ▸ hb5
          refine lv_aload_n C.1 C.2.1 dX12_teach_70 rfl (lv_at hl 2 rfl) ?_
          refine lv_iconst (v := iI 3) C.1 C.2.1 dX12_teach_71 (by decide) ?_
          refine x_ci (x_runV (As := [.int (iI 3)]) (rest := []) C (by omega) cw_X12_217 (c_X12_refuse l D ad G ids hJ s7 3) hM (hJ 100 (by decide) (by decide)) (cx_100 ad G _) rfl rfl rfl rfl (Nat.le_of_ble_eq_true rfl) hl.1 dX12_teach_72) hM (fun r72 s72 H1 lc1 hp hM => ?_)
          obtain ⟨rfl, rfl⟩ := hp
          exact x_iret C hr hM ⟨fun h => absurd (show 0 ≤ i ∧ i < ((MLs (σ 201) (σ 202 0) (σ 203 0) (σ 204 0)).length : Int) by omega) h, fun _ h => absurd (show 1 ≤ wt ∧ wt ≤ 99 by omega) h, fun _ _ _ => ⟨rfl, EQT_th hE 3⟩, fun _ _ h => absurd ⟨hbm, by omega⟩ h⟩ dX12_teach_75
    · refine lv_aload_n C.1 C.2.1 dX12_teach_29 rfl (lv_at hl 0 rfl) ?_
      refine lv_iconst (v := iI 2) C.1 C.2.1 dX12_teach_30 (by decide) ?_
      refine x_ci (x_runV (As := [.int (iI 2)]) (rest := []) C (by omega) cw_X12_217 (c_X12_refuse l D ad G ids hJ s7 2) hM (hJ 100 (by decide) (by decide)) (cx_100 ad G _) rfl rfl rfl rfl (Nat.le_of_ble_eq_true rfl) hl.1 dX12_teach_31) hM (fun r31 s31 H1 lc1 hp hM => ?_)
      obtain ⟨rfl, rfl⟩ := hp
      exact x_iret C hr hM ⟨fun h => absurd (show 0 ≤ i ∧ i < ((MLs (σ 201) (σ 202 0) (σ 203 0) (σ 204 0)).length : Int) by omega) h, fun _ _ => ⟨rfl, EQT_th hE 2⟩, fun _ h => absurd h (by omega), fun _ h => absurd h (by omega)⟩ dX12_teach_34
  · refine lv_aload_n C.1 C.2.1 dX12_teach_13 rfl (lv_at hl 0 rfl) ?_
    refine lv_iconst (v := iI 1) C.1 C.2.1 dX12_teach_14 (by decide) ?_
    refine x_ci (x_runV (As := [.int (iI 1)]) (rest := []) C (by omega) cw_X12_217 (c_X12_refuse l D ad G ids hJ s7 1) hM (hJ 100 (by decide) (by decide)) (cx_100 ad G _) rfl rfl rfl rfl (Nat.le_of_ble_eq_true rfl) hl.1 dX12_teach_15) hM (fun r15 s15 H1 lc1 hp hM => ?_)
    obtain ⟨rfl, rfl⟩ := hp
    exact x_iret C hr hM ⟨fun _ => ⟨rfl, EQT_th hE 1⟩, fun h => absurd h (by omega), fun h => absurd h (by omega), fun h => absurd h (by omega)⟩ dX12_teach_18
