/-! the class's own methods: what its calls share -/
theorem addT_o {X : Sg} {v t : Int} {r : Nat} (h : ¬ (r = 28 ∨ r = 29 ∨ r = 30)) : addT X v t r = X r := by
  unfold addT putT shT
  split
  · rw [upr_ne _ _ (by omega), upr_ne _ _ (by omega), upr_ne _ _ (by omega), upr_ne _ _ (by omega), upr_ne _ _ (by omega), upr_ne _ _ (by omega)]
  · rw [upr_ne _ _ (by omega), upr_ne _ _ (by omega), upr_ne _ _ (by omega)]
def HLM (σ : Sg) : Prop := LM σ 0 (MLs (σ 1) (σ 2 0) (σ 3 0) (σ 4 0)) (σ 1)
theorem HLM.of {a b : Sg} (h : HLM a) (e : ∀ r : Nat, (r = 1 ∨ r = 2 ∨ r = 3 ∨ r = 4 ∨ (40 ≤ r ∧ r < 46)) → b r = a r) : HLM b := by
  unfold HLM LM at *
  rw [e 1 (by omega), e 2 (by omega), e 3 (by omega), e 4 (by omega), e 40 (by omega), e 41 (by omega), e 44 (by omega)]
  exact h
def SAN (σ σ' : Sg) : Prop := (∀ r : Nat, ¬ (40 ≤ r ∧ r < 46) → σ' r = upr σ 30 (ups (σ 30) 0 0) r) ∧ HLM σ'
def PLC (τ σ' : Sg) (v : Int) : Prop := (∀ r : Nat, ¬ (40 ≤ r ∧ r < 46) → σ' r = addT (mvG τ v) v (τ 1 (v % 100)) r) ∧ HLM σ'
def SRC (d : Nat) (σ τ : Sg) : Prop := tv τ = (skp (cfg σ) (σ 1) (σ 4 0) d 1 0 0 (σ 20 0) (clrT (tv σ))).2.2.2 ∧ τ 21 0 + τ 16 0 = (skp (cfg σ) (σ 1) (σ 4 0) d 1 0 0 (σ 20 0) (clrT (tv σ))).2.1 ∧ τ 20 0 = (skp (cfg σ) (σ 1) (σ 4 0) d 1 0 0 (σ 20 0) (clrT (tv σ))).2.2.1 ∧ ∀ r : Nat, r < 46 → NSR r → r ≠ 20 → τ r = σ r
abbrev MLg0 (σ : Sg) : List Int := MLs (σ 1) (σ 2 0) (σ 3 0) (σ 4 0)
def cgQ (d : Nat) (σ : Sg) (z : Int) (σ' : Sg) : Prop := (tlF σ ≠ -1 → tlF σ = z ∧ PLC σ σ' ((MLg0 σ).getD z.toNat (-1))) ∧ (tlF σ = -1 → ∃ τ, SRC d σ τ ∧ (0 ≤ z ∧ z < (MLg0 σ).length ∧ (MLg0 σ).getD z.toNat (-1) = τ 19 0) ∧ PLC τ σ' ((MLg0 σ).getD z.toNat (-1)))
set_option maxRecDepth 100000 in
set_option maxHeartbeats 4000000 in
theorem c_X11_isWithin (l : Launch) (D : va_G) (ad : Nat → Nat) (G : Nat → Nat) (ids : List Nat) (hI : ∀ k, k < 81 → k ∈ ids) (σ : Sg) (x a b : Int) (hx : IR x) (ha : IR a) (hb : IR b) : MET l yX11_isWithin cX11_isWithin 3 (some .boolean) 1 [.int (iI x), .int (iI a), .int (iI b)] D ad G ids σ (QI D ad G ids (fun z σ' => (if a ≤ x ∧ x ≤ b then 1 else 0) = z ∧ σ = σ')) := by
  unfold IR at hx ha hb
  refine x_enter (by decide) (Nat.le_of_ble_eq_true rfl) ?_
  intro pp ee ss mm args below meth cq C hr ls hl hM
  have hl : lv_has ls 3 [(0, .int (iI x)), (1, .int (iI a)), (2, .int (iI b))] := hl
  refine lv_iload_n C.1 C.2.1 dX11_isWithin_0 rfl (lv_at hl 0 rfl) ?_
  refine lv_iload_n C.1 C.2.1 dX11_isWithin_1 rfl (lv_at hl 1 rfl) ?_
  refine x_icmp_lt C ⟨by omega, by omega⟩ ⟨by omega, by omega⟩ (tgt := 14) dX11_isWithin_2 (by decide) (fun c2 => ?_) (fun c2 => ?_)
  · refine lv_iconst (v := iI 0) C.1 C.2.1 dX11_isWithin_14 (by decide) ?_
    exact x_zret C hr hM (by first | exact Or.inl rfl | exact Or.inr rfl | omega) ⟨if_neg (by omega), rfl⟩ dX11_isWithin_15
  · refine lv_iload_n C.1 C.2.1 dX11_isWithin_5 rfl (lv_at hl 0 rfl) ?_
    refine lv_iload_n C.1 C.2.1 dX11_isWithin_6 rfl (lv_at hl 2 rfl) ?_
    refine x_icmp_gt C ⟨by omega, by omega⟩ ⟨by omega, by omega⟩ (tgt := 14) dX11_isWithin_7 (by decide) (fun c7 => ?_) (fun c7 => ?_)
    · refine lv_iconst (v := iI 0) C.1 C.2.1 dX11_isWithin_14 (by decide) ?_
      exact x_zret C hr hM (by first | exact Or.inl rfl | exact Or.inr rfl | omega) ⟨if_neg (by omega), rfl⟩ dX11_isWithin_15
    · refine lv_iconst (v := iI 1) C.1 C.2.1 dX11_isWithin_10 (by decide) ?_
      refine lv_goto (tgt := 15) C.1 C.2.1 dX11_isWithin_11 (by decide) ?_
      exact x_zret C hr hM (by first | exact Or.inl rfl | exact Or.inr rfl | omega) ⟨if_pos (by omega), rfl⟩ dX11_isWithin_15
set_option maxRecDepth 100000 in
set_option maxHeartbeats 4000000 in
theorem c_X11_isOver (l : Launch) (D : va_G) (ad : Nat → Nat) (G : Nat → Nat) (ids : List Nat) (hI : ∀ k, k < 81 → k ∈ ids) (σ : Sg) (L : List Int) (c : Fn) (hL : LM σ 0 L c) (h18 : L.length ≤ 18) : MET l yX11_isOver cX11_isOver 1 (some .boolean) 2 [.ref (ad 0)] D ad G ids σ (QI D ad G ids (fun z σ' => (if L = [] then 1 else 0) = z ∧ σ = σ')) := by
  refine x_enter (by decide) (Nat.le_of_ble_eq_true rfl) ?_
  intro pp ee ss mm args below meth cq C hr ls hl hM
  have hl : lv_has ls 1 [(0, .ref (ad 0))] := hl
  refine lv_aload_n C.1 C.2.1 dX11_isOver_0 rfl (lv_at hl 0 rfl) ?_
  refine g_X11_1 C hM (hI 0 (by decide)) wf_X11_22 dX11_isOver_1 ?_
  refine x_ci (x_runV (As := []) (rest := []) C (by omega) cw_X11_204 (c_X5_size l D ad G ids hI σ 0 L c (by decide) hL) hM (hI _ (by omega)) (cx_lo ad G _ (by decide)) rfl rfl rfl rfl (Nat.le_of_ble_eq_true rfl) hl.1 dX11_isOver_4) hM (fun r4 s4 H1 lc1 hp hM => ?_)
  obtain ⟨rfl, rfl⟩ := hp
  refine x_if_ne C ⟨by omega, by omega⟩ (tgt := 14) dX11_isOver_7 (by decide) (fun c7 => ?_) (fun c7 => ?_)
  · refine lv_iconst (v := iI 0) C.1 C.2.1 dX11_isOver_14 (by decide) ?_
    refine x_zret C hr hM (by first | exact Or.inl rfl | exact Or.inr rfl | omega) ?_ dX11_isOver_15
    exact ⟨by
      by_cases e : L = []
      · rw [if_pos e]
        exfalso
        rw [e] at c7
        exact c7 rfl
      · rw [if_neg e], rfl⟩
  · refine lv_iconst (v := iI 1) C.1 C.2.1 dX11_isOver_10 (by decide) ?_
    refine lv_goto (tgt := 15) C.1 C.2.1 dX11_isOver_11 (by decide) ?_
    refine x_zret C hr hM (by first | exact Or.inl rfl | exact Or.inr rfl | omega) ?_ dX11_isOver_15
    exact ⟨by
      by_cases e : L = []
      · rw [if_pos e]
      · rw [if_neg e]
        exact absurd (List.eq_nil_of_length_eq_zero (by omega)) e, rfl⟩
set_option maxRecDepth 100000 in
set_option maxHeartbeats 4000000 in
theorem c_X11_join (l : Launch) (D : va_G) (ad : Nat → Nat) (G : Nat → Nat) (ids : List Nat) (hI : ∀ k, k < 81 → k ∈ ids) (σ : Sg) (d x : Int)  : MET l yX11_join cX11_join 4 (some .long) 1 [.long (jI d), .long (jI x)] D ad G ids σ (QL D ad G ids (fun z σ' => d * 31 + x = z ∧ σ = σ')) := by
  refine x_enter (by decide) (Nat.le_of_ble_eq_true rfl) ?_
  intro pp ee ss mm args below meth cq C hr ls hl hM
  have hl : lv_has ls 4 [(0, .long (jI d)), (2, .long (jI x))] := hl
  refine lv_lload_n C.1 C.2.1 dX11_join_0 rfl (lv_at hl 0 rfl) ?_
  refine lv_ldc2 C.1 C.2.1 C.2.2.2.1 (C.2.2.2.2.1 _ wk_X11_335) dX11_join_1 ?_
  refine x_lmul C dX11_join_4 ?_
  refine lv_lload_n C.1 C.2.1 dX11_join_5 rfl (lv_at hl 1 rfl) ?_
  refine x_ladd C dX11_join_6 ?_
  exact x_lret C hr hM ⟨rfl, rfl⟩ dX11_join_7
set_option maxRecDepth 100000 in
set_option maxHeartbeats 4000000 in
theorem c_X11_startAnew (l : Launch) (D : va_G) (ad : Nat → Nat) (G : Nat → Nat) (ids : List Nat) (hI : ∀ k, k < 81 → k ∈ ids) (σ : Sg)  (hB : BG σ) (hC : BC (σ 1)) (hs : σ 4 0 = 0 ∨ σ 4 0 = 1) (hp : PW (σ 1)) : MET l yX11_startAnew cX11_startAnew 1 none 4 [.ref (ad 0)] D ad G ids σ (QV D ad G ids (fun σ' => SAN σ σ')) := by
  refine x_enter (by decide) (Nat.le_of_ble_eq_true rfl) ?_
  intro pp ee ss mm args below meth cq C hr ls hl hM
  have hl : lv_has ls 1 [(0, .ref (ad 0))] := hl
  refine lv_aload_n C.1 C.2.1 dX11_startAnew_0 rfl (lv_at hl 0 rfl) ?_
  refine g_X11_2 C hM (hI 0 (by decide)) wf_X11_29 dX11_startAnew_1 ?_
  refine x_cv (x_runV (As := []) (rest := []) C (by omega) cw_X11_337 (c_X9_clear l D ad G ids hI σ) hM (hI 21 (by decide)) (cx_21 ad G _) rfl rfl rfl rfl (Nat.le_of_ble_eq_true rfl) hl.1 dX11_startAnew_4) hM (fun s4 H1 lc1 hp hM => ?_)
  obtain rfl := hp
  refine lv_aload_n C.1 C.2.1 dX11_startAnew_7 rfl (lv_at hl 0 rfl) ?_
  refine g_X11_0 C hM (hI 0 (by decide)) wf_X11_13 dX11_startAnew_8 ?_
  refine lv_aload_n C.1 C.2.1 dX11_startAnew_11 rfl (lv_at hl 0 rfl) ?_
  refine g_X11_1 C hM (hI 0 (by decide)) wf_X11_22 dX11_startAnew_12 ?_
  refine x_cv (x_runV (As := [.ref (ad (26 + 5 * 0))]) (rest := []) C (by omega) cw_X11_77 (c_X0_listMoves l D ad G ids hI (upr σ 30 (ups (σ 30) 0 0)) 0 (by decide) ((show _ ∧ _ ∧ _ ∧ _ ∧ True from ⟨hB, hC, hs, hp, trivial⟩)).1 ((show _ ∧ _ ∧ _ ∧ _ ∧ True from ⟨hB, hC, hs, hp, trivial⟩)).2.1 ((show _ ∧ _ ∧ _ ∧ _ ∧ True from ⟨hB, hC, hs, hp, trivial⟩)).2.2.1 ((show _ ∧ _ ∧ _ ∧ _ ∧ True from ⟨hB, hC, hs, hp, trivial⟩)).2.2.2.1) hM (hI 1 (by decide)) (cx_1 ad G _) rfl rfl rfl rfl (Nat.le_of_ble_eq_true rfl) hl.1 dX11_startAnew_15) hM (fun s15 H1 lc1 hp hM => ?_)
  obtain ⟨hos15, hLs15⟩ := hp
  refine x_vret C hr hM ?_ dX11_startAnew_18
  exact ⟨fun r hr => hos15 r (by omega), by
    unfold HLM
    have e := fun r hr => hos15.lo (r := r) hr
    rw [e 1 (by decide), e 2 (by decide), e 3 (by decide), e 4 (by decide)]
    exact hLs15⟩
set_option maxRecDepth 100000 in
set_option maxHeartbeats 4000000 in
theorem c_X11_playHere (l : Launch) (D : va_G) (ad : Nat → Nat) (G : Nat → Nat) (ids : List Nat) (hI : ∀ k, k < 81 → k ∈ ids) (σ : Sg) (i : Int) (hG : GI σ) (hL : LM σ 0 (MLs (σ 1) (σ 2 0) (σ 3 0) (σ 4 0)) (σ 1)) (hTR : TRI σ) (hi : 0 ≤ i ∧ i < (MLs (σ 1) (σ 2 0) (σ 3 0) (σ 4 0)).length) : MET l yX11_playHere cX11_playHere 4 (some .int) 4 [.ref (ad 0), .int (iI i)] D ad G ids σ (QI D ad G ids (fun z σ' => σ 1 (((MLs (σ 1) (σ 2 0) (σ 3 0) (σ 4 0)).getD i.toNat (-1)) % 100) = z ∧ PLC σ σ' ((MLs (σ 1) (σ 2 0) (σ 3 0) (σ 4 0)).getD i.toNat (-1)))) := by
  have h18 : (MLs (σ 1) (σ 2 0) (σ 3 0) (σ 4 0)).length ≤ 18 := MLs18 hG
  have hMB : ∀ v, v ∈ (MLs (σ 1) (σ 2 0) (σ 3 0) (σ 4 0)) → 0 ≤ v ∧ v < 2500 := MLsMB hG
  have hmv : MV σ ((MLs (σ 1) (σ 2 0) (σ 3 0) (σ 4 0)).getD i.toNat (-1)) := getD_mem hi.1 hi.2
  have hok := hmv.ok hG
  have hok : (0 ≤ ((MLs (σ 1) (σ 2 0) (σ 3 0) (σ 4 0)).getD i.toNat (-1)) ∧ ((MLs (σ 1) (σ 2 0) (σ 3 0) (σ 4 0)).getD i.toNat (-1)) / 100 < σ 2 0 * σ 3 0 ∧ ((MLs (σ 1) (σ 2 0) (σ 3 0) (σ 4 0)).getD i.toNat (-1)) % 100 < σ 2 0 * σ 3 0) ∧ ((MLs (σ 1) (σ 2 0) (σ 3 0) (σ 4 0)).getD i.toNat (-1)) / 100 ≠ ((MLs (σ 1) (σ 2 0) (σ 3 0) (σ 4 0)).getD i.toNat (-1)) % 100 ∧ ((MLs (σ 1) (σ 2 0) (σ 3 0) (σ 4 0)).getD i.toNat (-1)) < 2500 := hok
  refine x_enter (by decide) (Nat.le_of_ble_eq_true rfl) ?_
  intro pp ee ss mm args below meth cq C hr ls hl hM
  have hl : lv_has ls 4 [(0, .ref (ad 0)), (1, .int (iI i))] := hl
  refine lv_aload_n C.1 C.2.1 dX11_playHere_0 rfl (lv_at hl 0 rfl) ?_
  refine g_X11_1 C hM (hI 0 (by decide)) wf_X11_22 dX11_playHere_1 ?_
  refine lv_iload_n C.1 C.2.1 dX11_playHere_4 rfl (lv_at hl 1 rfl) ?_
  refine x_ci (x_runV (As := [.int (iI i)]) (rest := []) C (by omega) cw_X11_205 (c_X5_moveAt l D ad G ids hI σ 0 (MLs (σ 1) (σ 2 0) (σ 3 0) (σ 4 0)) (σ 1) i (by decide) hL h18 ⟨by omega, by omega⟩) hM (hI _ (by omega)) (cx_lo ad G _ (by decide)) rfl rfl rfl rfl (Nat.le_of_ble_eq_true rfl) hl.1 dX11_playHere_5) hM (fun r5 s5 H1 lc1 hp hM => ?_)
  obtain ⟨rfl, rfl⟩ := hp
  rw [if_pos (show 0 ≤ i by omega)]
  refine lv_istore_n (lv' := [(2, .int (iI ((MLs (σ 1) (σ 2 0) (σ 3 0) (σ 4 0)).getD (i).toNat (-1)))), (0, .ref (ad 0)), (1, .int (iI i))]) C.1 C.2.1 dX11_playHere_8 rfl hl (by decide) rfl (fun ls hl => ?_)
  refine lv_aload_n C.1 C.2.1 dX11_playHere_9 rfl (lv_at hl 1 rfl) ?_
  refine g_X11_0 C hM (hI 0 (by decide)) wf_X11_13 dX11_playHere_10 ?_
  refine lv_iload_n C.1 C.2.1 dX11_playHere_13 rfl (lv_at hl 0 rfl) ?_
  refine x_ci (x_runV (As := [.int (iI ((MLs (σ 1) (σ 2 0) (σ 3 0) (σ 4 0)).getD (i).toNat (-1)))]) (rest := []) C (by omega) cw_X11_340 (c_X0_advance l D ad G ids hI σ ((MLs (σ 1) (σ 2 0) (σ 3 0) (σ 4 0)).getD (i).toNat (-1)) (hG).1 (hG).2.2.1 hok.1) hM (hI 1 (by decide)) (cx_1 ad G _) rfl rfl rfl rfl (Nat.le_of_ble_eq_true rfl) hl.1 dX11_playHere_14) hM (fun r14 s14 H1 lc1 hp hM => ?_)
  obtain ⟨rfl, rfl⟩ := hp
  refine lv_istore_n (lv' := [(3, .int (iI (σ 1 (((MLs (σ 1) (σ 2 0) (σ 3 0) (σ 4 0)).getD (i).toNat (-1)) % 100)))), (2, .int (iI ((MLs (σ 1) (σ 2 0) (σ 3 0) (σ 4 0)).getD (i).toNat (-1)))), (0, .ref (ad 0)), (1, .int (iI i))]) C.1 C.2.1 dX11_playHere_17 rfl hl (by decide) rfl (fun ls hl => ?_)
  refine lv_aload_n C.1 C.2.1 dX11_playHere_18 rfl (lv_at hl 2 rfl) ?_
  refine g_X11_2 C hM (hI 0 (by decide)) wf_X11_29 dX11_playHere_19 ?_
  refine lv_iload_n C.1 C.2.1 dX11_playHere_22 rfl (lv_at hl 1 rfl) ?_
  refine lv_iload_n C.1 C.2.1 dX11_playHere_23 rfl (lv_at hl 0 rfl) ?_
  refine x_cv (x_runV (As := [.int (iI ((MLs (σ 1) (σ 2 0) (σ 3 0) (σ 4 0)).getD (i).toNat (-1))), .int (iI (σ 1 (((MLs (σ 1) (σ 2 0) (σ 3 0) (σ 4 0)).getD (i).toNat (-1)) % 100)))]) (rest := []) C (by omega) cw_X11_343 (c_X9_add l D ad G ids hI (mvG σ ((MLs (σ 1) (σ 2 0) (σ 3 0) (σ 4 0)).getD (i).toNat (-1))) ((MLs (σ 1) (σ 2 0) (σ 3 0) (σ 4 0)).getD (i).toNat (-1)) (σ 1 (((MLs (σ 1) (σ 2 0) (σ 3 0) (σ 4 0)).getD (i).toNat (-1)) % 100)) (show TRI (mvG σ ((MLs (σ 1) (σ 2 0) (σ 3 0) (σ 4 0)).getD i.toNat (-1))) by unfold TRI; rw [mvG_o _ _ (by decide) (by decide)]; exact hTR)) hM (hI 21 (by decide)) (cx_21 ad G _) rfl rfl rfl rfl (Nat.le_of_ble_eq_true rfl) hl.1 dX11_playHere_24) hM (fun s24 H1 lc1 hp hM => ?_)
  obtain rfl := hp
  have hg2 := hG.mv hmv
  have zz : ∀ r : Nat, ¬ (r = 28 ∨ r = 29 ∨ r = 30) → addT (mvG σ ((MLs (σ 1) (σ 2 0) (σ 3 0) (σ 4 0)).getD i.toNat (-1))) ((MLs (σ 1) (σ 2 0) (σ 3 0) (σ 4 0)).getD i.toNat (-1)) (σ 1 (((MLs (σ 1) (σ 2 0) (σ 3 0) (σ 4 0)).getD i.toNat (-1)) % 100)) r = mvG σ ((MLs (σ 1) (σ 2 0) (σ 3 0) (σ 4 0)).getD i.toNat (-1)) r := fun r hr => addT_o hr
  have hg3 : GI (addT (mvG σ ((MLs (σ 1) (σ 2 0) (σ 3 0) (σ 4 0)).getD i.toNat (-1))) ((MLs (σ 1) (σ 2 0) (σ 3 0) (σ 4 0)).getD i.toNat (-1)) (σ 1 (((MLs (σ 1) (σ 2 0) (σ 3 0) (σ 4 0)).getD i.toNat (-1)) % 100))) := hg2.of (fun r hr => zz r (by omega))
  refine lv_aload_n C.1 C.2.1 dX11_playHere_27 rfl (lv_at hl 2 rfl) ?_
  refine g_X11_0 C hM (hI 0 (by decide)) wf_X11_13 dX11_playHere_28 ?_
  refine lv_aload_n C.1 C.2.1 dX11_playHere_31 rfl (lv_at hl 2 rfl) ?_
  refine g_X11_1 C hM (hI 0 (by decide)) wf_X11_22 dX11_playHere_32 ?_
  refine x_cv (x_runV (As := [.ref (ad (26 + 5 * 0))]) (rest := []) C (by omega) cw_X11_77 (c_X0_listMoves l D ad G ids hI (addT (mvG σ ((MLs (σ 1) (σ 2 0) (σ 3 0) (σ 4 0)).getD (i).toNat (-1))) ((MLs (σ 1) (σ 2 0) (σ 3 0) (σ 4 0)).getD (i).toNat (-1)) (σ 1 (((MLs (σ 1) (σ 2 0) (σ 3 0) (σ 4 0)).getD (i).toNat (-1)) % 100))) 0 (by decide) (hg3).1 (hg3).2.1 (hg3).2.2.1 (hg3).2.2.2.1) hM (hI 1 (by decide)) (cx_1 ad G _) rfl rfl rfl rfl (Nat.le_of_ble_eq_true rfl) hl.1 dX11_playHere_35) hM (fun s35 H1 lc1 hp hM => ?_)
  obtain ⟨hos35, hLs35⟩ := hp
  refine lv_iload_n C.1 C.2.1 dX11_playHere_38 rfl (lv_at hl 0 rfl) ?_
  refine x_iret C hr hM ?_ dX11_playHere_39
  exact ⟨rfl, fun r hr => hos35 r (by omega), by
    unfold HLM
    have e := fun r hr => hos35.lo (r := r) hr
    rw [e 1 (by decide), e 2 (by decide), e 3 (by decide), e 4 (by decide)]
    exact hLs35⟩
set_option maxRecDepth 100000 in
set_option maxHeartbeats 4000000 in
theorem c_X11_goOn (l : Launch) (D : va_G) (ad : Nat → Nat) (G : Nat → Nat) (ids : List Nat) (hI : ∀ k, k < 81 → k ∈ ids) (σ : Sg) (d : Int) (hd : 1 ≤ d ∧ d ≤ 4) (hG : GI σ) (hL : LM σ 0 (MLs (σ 1) (σ 2 0) (σ 3 0) (σ 4 0)) (σ 1)) (hTI : TI σ) (hT9 : T9 σ) (hTL : TL (cfg σ) σ) (hBK : BKI σ) (hTR : TRI σ) (hne : (MLs (σ 1) (σ 2 0) (σ 3 0) (σ 4 0)) ≠ []) : MET l yX11_goOn cX11_goOn 3 (some .int) 41 [.ref (ad 0), .int (iI d)] D ad G ids σ (QI D ad G ids (cgQ d.toNat σ)) := by
  have h18 : (MLs (σ 1) (σ 2 0) (σ 3 0) (σ 4 0)).length ≤ 18 := MLs18 hG
  have hMB : ∀ v, v ∈ (MLs (σ 1) (σ 2 0) (σ 3 0) (σ 4 0)) → 0 ≤ v ∧ v < 2500 := MLsMB hG
  have hkey : 0 ≤ (keyS (cfg σ) (σ 1) (σ 4 0)) ∧ (keyS (cfg σ) (σ 1) (σ 4 0)) < 4000000000000000000 := SB_key hG
  have hs := hG.2.2.1
  have hci := chF_in (wtF σ (keyS (cfg σ) (σ 1) (σ 4 0))) (MLs (σ 1) (σ 2 0) (σ 3 0) (σ 4 0)) 0 (-1) 0 (Or.inl rfl) (by decide)
  change tlF σ = -1 ∨ (0 ≤ tlF σ ∧ tlF σ < 0 + ((MLs (σ 1) (σ 2 0) (σ 3 0) (σ 4 0)).length : Int)) at hci
  refine x_enter (by decide) (Nat.le_of_ble_eq_true rfl) ?_
  intro pp ee ss mm args below meth cq C hr ls hl hM
  have hl : lv_has ls 3 [(0, .ref (ad 0)), (1, .int (iI d))] := hl
  refine lv_aload_n C.1 C.2.1 dX11_goOn_0 rfl (lv_at hl 0 rfl) ?_
  refine g_X11_7 C hM (hI 0 (by decide)) wf_X11_73 dX11_goOn_1 ?_
  refine lv_aload_n C.1 C.2.1 dX11_goOn_4 rfl (lv_at hl 0 rfl) ?_
  refine g_X11_0 C hM (hI 0 (by decide)) wf_X11_13 dX11_goOn_5 ?_
  refine x_cl (x_runV (As := []) (rest := [.ref (ad 17)]) C (by omega) cw_X11_220 (c_X0_keyNumber l D ad G ids hI σ hG.1 hG.2.1 hs) hM (hI 1 (by decide)) (cx_1 ad G _) rfl rfl rfl rfl (Nat.le_of_ble_eq_true rfl) hl.1 dX11_goOn_8) hM (fun r8 s8 H1 lc1 hp hM => ?_)
  obtain ⟨rfl, rfl⟩ := hp
  have hke : keyF (σ 1) (σ 2 0 * σ 3 0).toNat * 2 + σ 4 0 = (keyS (cfg σ) (σ 1) (σ 4 0)) := rfl
  rw [hke]
  refine lv_aload_n C.1 C.2.1 dX11_goOn_11 rfl (lv_at hl 0 rfl) ?_
  refine g_X11_1 C hM (hI 0 (by decide)) wf_X11_22 dX11_goOn_12 ?_
  refine x_ci (x_runV (As := [.long (jI (keyS (cfg σ) (σ 1) (σ 4 0))), .ref (ad (26 + 5 * 0))]) (rest := []) C (by omega) cw_X11_298 (c_X1_choose l D ad G ids hI σ 0 (MLs (σ 1) (σ 2 0) (σ 3 0) (σ 4 0)) (σ 1) (keyS (cfg σ) (σ 1) (σ 4 0)) (by decide) hL h18 hMB hBK hkey) hM (hI 17 (by decide)) (cx_17 ad G _) rfl rfl rfl rfl (Nat.le_of_ble_eq_true rfl) hl.1 dX11_goOn_15) hM (fun r15 s15 H1 lc1 hp hM => ?_)
  obtain ⟨rfl, rfl⟩ := hp
  have hte : chF (wtF σ (keyS (cfg σ) (σ 1) (σ 4 0))) (MLs (σ 1) (σ 2 0) (σ 3 0) (σ 4 0)) 0 (-1) 0 = tlF σ := rfl
  rw [hte]
  refine lv_istore_n (lv' := [(2, .int (iI (tlF σ))), (0, .ref (ad 0)), (1, .int (iI d))]) C.1 C.2.1 dX11_goOn_18 rfl hl (by decide) rfl (fun ls hl => ?_)
  refine lv_iload_n C.1 C.2.1 dX11_goOn_19 rfl (lv_at hl 0 rfl) ?_
  refine lv_iconst (v := iI (-1)) C.1 C.2.1 dX11_goOn_20 (by decide) ?_
  refine x_icmp_ne C ⟨by omega, by omega⟩ ⟨by omega, by omega⟩ (tgt := 48) dX11_goOn_21 (by decide) (fun c21 => ?_) (fun c21 => ?_)
  · refine lv_aload_n C.1 C.2.1 dX11_goOn_48 rfl (lv_at hl 1 rfl) ?_
    refine lv_iload_n C.1 C.2.1 dX11_goOn_49 rfl (lv_at hl 0 rfl) ?_
    refine x_ci (x_runV (As := [.int (iI (tlF σ))]) (rest := []) C (by omega) cw_X11_150 (c_X11_playHere l D ad G ids hI σ (tlF σ) hG hL hTR (by omega)) hM (hI 0 (by decide)) (cx_0 ad G _) rfl rfl rfl rfl (Nat.le_of_ble_eq_true rfl) hl.1 dX11_goOn_50) hM (fun r50 s50 H1 lc1 hp hM => ?_)
    obtain ⟨hzs50, hqs50⟩ := hp
    refine lv_pop C.1 C.2.1 dX11_goOn_53 rfl ?_
    refine lv_iload_n C.1 C.2.1 dX11_goOn_54 rfl (lv_at hl 0 rfl) ?_
    refine x_iret C hr hM ?_ dX11_goOn_55
    exact by
      unfold cgQ
      refine ⟨fun _ => ⟨rfl, hqs50⟩, fun h => absurd h (by omega)⟩
  · refine lv_aload_n C.1 C.2.1 dX11_goOn_24 rfl (lv_at hl 1 rfl) ?_
    refine g_X11_6 C hM (hI 0 (by decide)) wf_X11_66 dX11_goOn_25 ?_
    refine lv_iload_n C.1 C.2.1 dX11_goOn_28 rfl (lv_at hl 2 rfl) ?_
    refine x_ci (x_runV (As := [.int (iI d)]) (rest := []) C (by omega) cw_X11_243 (c_X7_seek l D ad G ids hI σ d.toNat d (by omega) (by omega) (hG) (hTI)) hM (hI 13 (by decide)) (cx_13 ad G _) rfl rfl rfl rfl (Nat.le_of_ble_eq_true rfl) hl.1 dX11_goOn_29) hM (fun r29 s29 H1 lc1 hp hM => ?_)
    obtain ⟨hzs29, hts29, hns29, hrs29, hfs29⟩ := hp
    have hSR : SRC d.toNat σ s29 := ⟨hts29, hns29, hrs29, hfs29⟩
    have f29 : ∀ r : Nat, r < 46 → NSR r → r ≠ 20 → s29 r = σ r := hfs29
    have k1 : s29 1 = σ 1 := f29 1 (by omega) (by unfold NSR; omega) (by omega)
    have k2 : s29 2 = σ 2 := f29 2 (by omega) (by unfold NSR; omega) (by omega)
    have k3 : s29 3 = σ 3 := f29 3 (by omega) (by unfold NSR; omega) (by omega)
    have k4 : s29 4 = σ 4 := f29 4 (by omega) (by unfold NSR; omega) (by omega)
    have hG29 : GI s29 := hG.of (fun r hr => f29 r (by omega) (by unfold NSR; omega) (by omega))
    have hL29 : LM s29 0 (MLs (σ 1) (σ 2 0) (σ 3 0) (σ 4 0)) (σ 1) := by
      have q := hL
      unfold LM at *
      rw [f29 40 (by omega) (by unfold NSR; omega) (by omega), f29 41 (by omega) (by unfold NSR; omega) (by omega), f29 44 (by omega) (by unfold NSR; omega) (by omega)]
      exact q
    have bst := skp_best (c := σ 1) (sd := σ 4 0) (d := d.toNat) hG.2.2.2.2 hG.2.1 hG.2.2.1 hne (by omega) (T9_tv.mpr hT9) (TL_tv.mpr hTL)
    rw [skp_re _ _ _ (show 1 ≤ d.toNat by omega) 0 (σ 20 0), ← hts29] at bst
    have hb19 : s29 19 0 ∈ (MLs (σ 1) (σ 2 0) (σ 3 0) (σ 4 0)) := bst.2.2
    have hb19b := hMB _ hb19
    have hTR29 : TRI s29 := by unfold TRI; rw [f29 30 (by omega) (by unfold NSR; omega) (by omega)]; exact hTR
    refine lv_pop C.1 C.2.1 dX11_goOn_32 rfl ?_
    refine lv_aload_n C.1 C.2.1 dX11_goOn_33 rfl (lv_at hl 1 rfl) ?_
    refine g_X11_1 C hM (hI 0 (by decide)) wf_X11_22 dX11_goOn_34 ?_
    refine lv_aload_n C.1 C.2.1 dX11_goOn_37 rfl (lv_at hl 1 rfl) ?_
    refine g_X11_6 C hM (hI 0 (by decide)) wf_X11_66 dX11_goOn_38 ?_
    refine x_ci (x_runV (As := []) (rest := [.ref (ad (26 + 5 * 0))]) C (by omega) cw_X11_246 (c_X7_bestMove l D ad G ids hI s29) hM (hI 13 (by decide)) (cx_13 ad G _) rfl rfl rfl rfl (Nat.le_of_ble_eq_true rfl) hl.1 dX11_goOn_41) hM (fun r41 s41 H1 lc1 hp hM => ?_)
    obtain ⟨rfl, rfl⟩ := hp
    refine x_ci (x_runV (As := [.int (iI (s29 19 0))]) (rest := []) C (by omega) cw_X11_346 (c_X5_indexOf l D ad G ids hI s29 0 (MLs (σ 1) (σ 2 0) (σ 3 0) (σ 4 0)) (σ 1) (s29 19 0) (by decide) hL29 h18 hMB ⟨by omega, by omega⟩) hM (hI _ (by omega)) (cx_lo ad G _ (by decide)) rfl rfl rfl rfl (Nat.le_of_ble_eq_true rfl) hl.1 dX11_goOn_44) hM (fun r44 s44 H1 lc1 hp hM => ?_)
    obtain ⟨hxs44, rfl⟩ := hp
    have hxx : 0 ≤ r44 ∧ r44 < (MLs (σ 1) (σ 2 0) (σ 3 0) (σ 4 0)).length ∧ (MLs (σ 1) (σ 2 0) (σ 3 0) (σ 4 0)).getD r44.toNat (-1) = s29 19 0 := by
      rcases hxs44 with h | ⟨i, hi, he⟩
      · exact absurd hb19 h.2
      · have hl := (List.getElem?_eq_some_iff.mp hi).1
        refine ⟨by omega, by omega, ?_⟩
        rw [he, Int.toNat_natCast, List.getD_eq_getElem?_getD, hi]
        rfl
    refine lv_istore_n (lv' := [(2, .int (iI r44)), (0, .ref (ad 0)), (1, .int (iI d))]) C.1 C.2.1 dX11_goOn_47 rfl hl (by decide) rfl (fun ls hl => ?_)
    refine lv_aload_n C.1 C.2.1 dX11_goOn_48 rfl (lv_at hl 1 rfl) ?_
    refine lv_iload_n C.1 C.2.1 dX11_goOn_49 rfl (lv_at hl 0 rfl) ?_
    refine x_ci (x_runV (As := [.int (iI r44)]) (rest := []) C (by omega) cw_X11_150 (c_X11_playHere l D ad G ids hI s29 r44 hG29 (by rw [k1, k2, k3, k4]; exact hL29) hTR29 (by rw [k1, k2, k3, k4]; exact ⟨hxx.1, hxx.2.1⟩)) hM (hI 0 (by decide)) (cx_0 ad G _) rfl rfl rfl rfl (Nat.le_of_ble_eq_true rfl) hl.1 dX11_goOn_50) hM (fun r50 s50 H1 lc1 hp hM => ?_)
    obtain ⟨hzs50, hqs50⟩ := hp
    refine lv_pop C.1 C.2.1 dX11_goOn_53 rfl ?_
    refine lv_iload_n C.1 C.2.1 dX11_goOn_54 rfl (lv_at hl 0 rfl) ?_
    refine x_iret C hr hM ?_ dX11_goOn_55
    exact by
      unfold cgQ
      refine ⟨fun h => absurd (by omega) h, fun _ => ⟨s29, hSR, hxx, ?_⟩⟩
      rw [k1, k2, k3, k4] at hqs50
      exact hqs50
