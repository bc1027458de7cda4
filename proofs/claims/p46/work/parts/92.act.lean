/-! act: its handlers, its cases, whole -/
theorem wk_RL_7 : Cond.constant RL 7 (iI 2147483647) ∈ WA := wa_t 603 (by decide +kernel) rfl
theorem wk_RL_8 : Cond.constant RL 8 (iI 790386105) ∈ WA := wa_t 577 (by decide +kernel) rfl
set_option maxRecDepth 100000 in
set_option maxHeartbeats 4000000 in
theorem c_L_below (l : Launch) (D : va_G) (ad : Nat → Nat) (G : Nat → Nat) (ids : List Nat) (hI : ∀ k, k < 81 → k ∈ ids) (σ : Sg) (v n : Int) (hn : 1 ≤ n ∧ n ≤ 1000) : MET l yL_below cL_below 2 (some .int) 1 [.int (iI v), .int (iI n)] D ad G ids σ (QI D ad G ids (fun z s' => (0 ≤ z ∧ z < n) ∧ σ = s')) := by
  refine x_enter (by decide) (Nat.le_of_ble_eq_true rfl) ?_
  intro pp ee ss mm args below meth cq C hr ls hl hM
  have hl : lv_has ls 2 [(0, .int (iI v)), (1, .int (iI n))] := hl
  refine lv_iload_n C.1 C.2.1 dL_below_0 rfl (lv_at hl 0 rfl) ?_
  refine lv_ldc (v := iI 2147483647) C.1 C.2.1 C.2.2.2.1 (C.2.2.2.2.1 _ wk_RL_7) dL_below_1 ?_
  refine x_iandM C dL_below_3 (fun y3 hy3 => ?_)
  refine lv_iload_n C.1 C.2.1 dL_below_4 rfl (lv_at hl 1 rfl) ?_
  refine x_irem2 C ⟨by omega, by omega, by omega⟩ ⟨by omega, by omega, by omega⟩ dL_below_5 ?_
  exact x_iret C hr hM ⟨⟨Int.emod_nonneg _ (by omega), Int.emod_lt_of_pos _ (by omega)⟩, rfl⟩ dL_below_6
set_option maxRecDepth 100000 in
set_option maxHeartbeats 4000000 in
theorem hnd_524 {pp : Program} {l : Launch} {ee : Env} {ss : State} {mm : MethodId} {args : Array Value} {below : List Frame} {meth : Method} {cq : Code} {D : va_G} {ad : Nat → Nat} {G : Nat → Nat} {ids : List Nat} (hI : ∀ k, k < 81 → k ∈ ids) {σ : Sg} (hJσ : JI σ) (C : Cx pp ss mm meth cq args cL_act 10 RL D G) (hr : meth.sig.returnType = some .boolean)  {q9 : Nat} {ck cn : Nat} (hk : ck ≤ 2) (hn : cn ≤ 12) {H1 : Heap} {lc1 : List Loc} {ls : Array Slot}  (hM : XE D ad G ids (AN ad ids ss.heap.size) ss.heap H1 lc1 σ []) (hl : lv_has ls 10 [(0, .ref (ad 0)), (3, .int (iI (σ 4 0))), (4, .int (iI (σ 30 0)))]) : W pp l ee (rma 60 2 12) ss mm args below meth cq H1 lc1 ck cn (MQ below (QI D ad G ids (fun z s' => 1 = z ∧ JI s') ss.heap.size) args ss 2 12 (AN ad ids ss.heap.size)) (F0 mm 524 ls [.ref q9]) := by
  have hB := hJσ.g.1
  unfold BG at hB
  have h18 : ((MLs (σ 1) (σ 2 0) (σ 3 0) (σ 4 0)).length : Int) ≤ 18 := hJσ.l18
  have hwh := hJσ.wh
  have hsd := hJσ.sd
  have htr : 0 ≤ σ 30 0 ∧ σ 30 0 ≤ 40 := hJσ.tr
  refine lv_astore (lv' := [(5, .ref q9), (0, .ref (ad 0)), (3, .int (iI (σ 4 0))), (4, .int (iI (σ 30 0)))]) C.1 C.2.1 dL_act_524 hl (by decide) rfl (fun ls hl => ?_)
  refine lv_aload_n C.1 C.2.1 dL_act_526 rfl (lv_at hl 1 rfl) ?_
  refine x_ciA (fun q h => Or.inr h) (x_runVA (As := []) (rest := []) C (⟨by show _ ≤ (60 : Nat); omega, by show _ ≤ (40 * 60 : Nat); omega⟩) cw_RL_37 (MET.toA (v_X11_side l D ad G ids hI hJσ EQS.rf)) hM.x (hI 0 (by decide)) (cx_0 ad G _) rfl rfl rfl rfl (Nat.le_of_ble_eq_true rfl) hl.1 dL_act_527 ⟨by show ck + 0 ≤ 2; omega, by show cn + 0 ≤ 12; omega⟩) hM (fun r527 s527 H1 lc1 hp hM => ?_)
  obtain ⟨rfl, rfl⟩ := hp
  refine lv_iload_n C.1 C.2.1 dL_act_530 rfl (lv_at hl 2 rfl) ?_
  refine x_icmp_ne C ⟨by omega, by omega⟩ ⟨by omega, by omega⟩ (tgt := 547) dL_act_531 (by decide) (fun c531 => ?_) (fun c531 => ?_)
  · exfalso; omega
  · refine lv_aload_n C.1 C.2.1 dL_act_534 rfl (lv_at hl 1 rfl) ?_
    refine x_ciA (fun q h => Or.inr h) (x_runVA (As := []) (rest := []) C (⟨by show _ ≤ (60 : Nat); omega, by show _ ≤ (40 * 60 : Nat); omega⟩) cw_RL_40 (MET.toA (v_X11_played l D ad G ids hI hJσ EQS.rf)) hM.x (hI 0 (by decide)) (cx_0 ad G _) rfl rfl rfl rfl (Nat.le_of_ble_eq_true rfl) hl.1 dL_act_535 ⟨by show ck + 0 ≤ 2; omega, by show cn + 0 ≤ 12; omega⟩) hM (fun r535 s535 H1 lc1 hp hM => ?_)
    obtain ⟨rfl, rfl⟩ := hp
    refine lv_iload C.1 C.2.1 dL_act_538 (lv_at hl 3 rfl) ?_
    refine x_icmp_ne C ⟨by omega, by omega⟩ ⟨by omega, by omega⟩ (tgt := 547) dL_act_540 (by decide) (fun c540 => ?_) (fun c540 => ?_)
    · exfalso; omega
    · refine lv_iconst (v := iI 1) C.1 C.2.1 dL_act_543 (by decide) ?_
      refine lv_goto (tgt := 548) C.1 C.2.1 dL_act_544 (by decide) ?_
      refine W.widen (k := 2) (n := 12) hk hn ?_
      exact x_zret C hr hM.x (by first | exact Or.inl rfl | exact Or.inr rfl | omega) ⟨rfl, hJσ⟩ dL_act_548
set_option maxRecDepth 100000 in
set_option maxHeartbeats 4000000 in
theorem hnd_549 {pp : Program} {l : Launch} {ee : Env} {ss : State} {mm : MethodId} {args : Array Value} {below : List Frame} {meth : Method} {cq : Code} {D : va_G} {ad : Nat → Nat} {G : Nat → Nat} {ids : List Nat} (hI : ∀ k, k < 81 → k ∈ ids) {σ : Sg} (hJσ : JI σ) (C : Cx pp ss mm meth cq args cL_act 10 RL D G) (hr : meth.sig.returnType = some .boolean)  {q9 : Nat} {ck cn : Nat} (hk : ck ≤ 2) (hn : cn ≤ 12) {H1 : Heap} {lc1 : List Loc} {ls : Array Slot}  (hM : XE D ad G ids (AN ad ids ss.heap.size) ss.heap H1 lc1 σ []) (hl : lv_has ls 10 [(0, .ref (ad 0)), (3, .int (iI (σ 4 0))), (4, .int (iI (σ 30 0)))]) : W pp l ee (rma 60 2 12) ss mm args below meth cq H1 lc1 ck cn (MQ below (QI D ad G ids (fun z s' => 1 = z ∧ JI s') ss.heap.size) args ss 2 12 (AN ad ids ss.heap.size)) (F0 mm 549 ls [.ref q9]) := by
  have hB := hJσ.g.1
  unfold BG at hB
  have h18 : ((MLs (σ 1) (σ 2 0) (σ 3 0) (σ 4 0)).length : Int) ≤ 18 := hJσ.l18
  have hwh := hJσ.wh
  have hsd := hJσ.sd
  have htr : 0 ≤ σ 30 0 ∧ σ 30 0 ≤ 40 := hJσ.tr
  refine lv_astore (lv' := [(5, .ref q9), (0, .ref (ad 0)), (3, .int (iI (σ 4 0))), (4, .int (iI (σ 30 0)))]) C.1 C.2.1 dL_act_549 hl (by decide) rfl (fun ls hl => ?_)
  refine lv_aload_n C.1 C.2.1 dL_act_551 rfl (lv_at hl 1 rfl) ?_
  refine x_ciA (fun q h => Or.inr h) (x_runVA (As := []) (rest := []) C (⟨by show _ ≤ (60 : Nat); omega, by show _ ≤ (40 * 60 : Nat); omega⟩) cw_RL_37 (MET.toA (v_X11_side l D ad G ids hI hJσ EQS.rf)) hM.x (hI 0 (by decide)) (cx_0 ad G _) rfl rfl rfl rfl (Nat.le_of_ble_eq_true rfl) hl.1 dL_act_552 ⟨by show ck + 0 ≤ 2; omega, by show cn + 0 ≤ 12; omega⟩) hM (fun r552 s552 H1 lc1 hp hM => ?_)
  obtain ⟨rfl, rfl⟩ := hp
  refine lv_iload_n C.1 C.2.1 dL_act_555 rfl (lv_at hl 2 rfl) ?_
  refine x_icmp_ne C ⟨by omega, by omega⟩ ⟨by omega, by omega⟩ (tgt := 572) dL_act_556 (by decide) (fun c556 => ?_) (fun c556 => ?_)
  · exfalso; omega
  · refine lv_aload_n C.1 C.2.1 dL_act_559 rfl (lv_at hl 1 rfl) ?_
    refine x_ciA (fun q h => Or.inr h) (x_runVA (As := []) (rest := []) C (⟨by show _ ≤ (60 : Nat); omega, by show _ ≤ (40 * 60 : Nat); omega⟩) cw_RL_40 (MET.toA (v_X11_played l D ad G ids hI hJσ EQS.rf)) hM.x (hI 0 (by decide)) (cx_0 ad G _) rfl rfl rfl rfl (Nat.le_of_ble_eq_true rfl) hl.1 dL_act_560 ⟨by show ck + 0 ≤ 2; omega, by show cn + 0 ≤ 12; omega⟩) hM (fun r560 s560 H1 lc1 hp hM => ?_)
    obtain ⟨rfl, rfl⟩ := hp
    refine lv_iload C.1 C.2.1 dL_act_563 (lv_at hl 3 rfl) ?_
    refine x_icmp_ne C ⟨by omega, by omega⟩ ⟨by omega, by omega⟩ (tgt := 572) dL_act_565 (by decide) (fun c565 => ?_) (fun c565 => ?_)
    · exfalso; omega
    · refine lv_iconst (v := iI 1) C.1 C.2.1 dL_act_568 (by decide) ?_
      refine lv_goto (tgt := 573) C.1 C.2.1 dL_act_569 (by decide) ?_
      refine W.widen (k := 2) (n := 12) hk hn ?_
      exact x_zret C hr hM.x (by first | exact Or.inl rfl | exact Or.inr rfl | omega) ⟨rfl, hJσ⟩ dL_act_573
set_option maxRecDepth 100000 in
set_option maxHeartbeats 4000000 in
theorem hnd_574 {pp : Program} {l : Launch} {ee : Env} {ss : State} {mm : MethodId} {args : Array Value} {below : List Frame} {meth : Method} {cq : Code} {D : va_G} {ad : Nat → Nat} {G : Nat → Nat} {ids : List Nat} (hI : ∀ k, k < 81 → k ∈ ids) {σ : Sg} (hJσ : JI σ) (C : Cx pp ss mm meth cq args cL_act 10 RL D G) (hr : meth.sig.returnType = some .boolean)  {q9 : Nat} {ck cn : Nat} (hk : ck ≤ 2) (hn : cn ≤ 12) {H1 : Heap} {lc1 : List Loc} {ls : Array Slot}  (hM : XE D ad G ids (AN ad ids ss.heap.size) ss.heap H1 lc1 σ []) (hl : lv_has ls 10 [(0, .ref (ad 0)), (3, .int (iI (σ 4 0))), (4, .int (iI (σ 30 0)))]) : W pp l ee (rma 60 2 12) ss mm args below meth cq H1 lc1 ck cn (MQ below (QI D ad G ids (fun z s' => 1 = z ∧ JI s') ss.heap.size) args ss 2 12 (AN ad ids ss.heap.size)) (F0 mm 574 ls [.ref q9]) := by
  have hB := hJσ.g.1
  unfold BG at hB
  have h18 : ((MLs (σ 1) (σ 2 0) (σ 3 0) (σ 4 0)).length : Int) ≤ 18 := hJσ.l18
  have hwh := hJσ.wh
  have hsd := hJσ.sd
  have htr : 0 ≤ σ 30 0 ∧ σ 30 0 ≤ 40 := hJσ.tr
  refine lv_astore (lv' := [(5, .ref q9), (0, .ref (ad 0)), (3, .int (iI (σ 4 0))), (4, .int (iI (σ 30 0)))]) C.1 C.2.1 dL_act_574 hl (by decide) rfl (fun ls hl => ?_)
  refine lv_aload_n C.1 C.2.1 dL_act_576 rfl (lv_at hl 1 rfl) ?_
  refine x_ciA (fun q h => Or.inr h) (x_runVA (As := []) (rest := []) C (⟨by show _ ≤ (60 : Nat); omega, by show _ ≤ (40 * 60 : Nat); omega⟩) cw_RL_37 (MET.toA (v_X11_side l D ad G ids hI hJσ EQS.rf)) hM.x (hI 0 (by decide)) (cx_0 ad G _) rfl rfl rfl rfl (Nat.le_of_ble_eq_true rfl) hl.1 dL_act_577 ⟨by show ck + 0 ≤ 2; omega, by show cn + 0 ≤ 12; omega⟩) hM (fun r577 s577 H1 lc1 hp hM => ?_)
  obtain ⟨rfl, rfl⟩ := hp
  refine lv_iload_n C.1 C.2.1 dL_act_580 rfl (lv_at hl 2 rfl) ?_
  refine x_icmp_ne C ⟨by omega, by omega⟩ ⟨by omega, by omega⟩ (tgt := 597) dL_act_581 (by decide) (fun c581 => ?_) (fun c581 => ?_)
  · exfalso; omega
  · refine lv_aload_n C.1 C.2.1 dL_act_584 rfl (lv_at hl 1 rfl) ?_
    refine x_ciA (fun q h => Or.inr h) (x_runVA (As := []) (rest := []) C (⟨by show _ ≤ (60 : Nat); omega, by show _ ≤ (40 * 60 : Nat); omega⟩) cw_RL_40 (MET.toA (v_X11_played l D ad G ids hI hJσ EQS.rf)) hM.x (hI 0 (by decide)) (cx_0 ad G _) rfl rfl rfl rfl (Nat.le_of_ble_eq_true rfl) hl.1 dL_act_585 ⟨by show ck + 0 ≤ 2; omega, by show cn + 0 ≤ 12; omega⟩) hM (fun r585 s585 H1 lc1 hp hM => ?_)
    obtain ⟨rfl, rfl⟩ := hp
    refine lv_iload C.1 C.2.1 dL_act_588 (lv_at hl 3 rfl) ?_
    refine x_icmp_ne C ⟨by omega, by omega⟩ ⟨by omega, by omega⟩ (tgt := 597) dL_act_590 (by decide) (fun c590 => ?_) (fun c590 => ?_)
    · exfalso; omega
    · refine lv_iconst (v := iI 1) C.1 C.2.1 dL_act_593 (by decide) ?_
      refine lv_goto (tgt := 598) C.1 C.2.1 dL_act_594 (by decide) ?_
      refine W.widen (k := 2) (n := 12) hk hn ?_
      exact x_zret C hr hM.x (by first | exact Or.inl rfl | exact Or.inr rfl | omega) ⟨rfl, hJσ⟩ dL_act_598
theorem hnd_all {pp : Program} {l : Launch} {ee : Env} {ss : State} {mm : MethodId} {args : Array Value} {below : List Frame} {meth : Method} {cq : Code} {D : va_G} {ad : Nat → Nat} {G : Nat → Nat} {ids : List Nat} (hI : ∀ k, k < 81 → k ∈ ids) {σ : Sg} (hJσ : JI σ) (C : Cx pp ss mm meth cq args cL_act 10 RL D G) (hr : meth.sig.returnType = some .boolean) (htab : cq.exceptionTable.toList = tableOf hL_act) {sa : Nat → Nat} (hTX : TX sa ss) {pc : Nat} (hR : RALL ss pc) {E : String} {τ : Sg} (hp : σ = τ ∧ (E = sOOB ∨ E = sIAE ∨ E = sISE)) {H1 : Heap} {lc1 : List Loc} {ls : Array Slot} {rest : List Value} (hM : XI D ad G ids (AN ad ids ss.heap.size) ss.heap H1 lc1 τ) (hl : lv_has ls 10 [(0, .ref (ad 0)), (3, .int (iI (σ 4 0))), (4, .int (iI (σ 30 0)))])
    {ce : Cell} {q : Nat} (hcell : H1[q]? = some ce) (hv : ce.vm = .none) (hcl : ss.vm.findClass E = some ce.cls) {ck cn : Nat} (hk : ck ≤ 2) (hn : cn ≤ 12) : vx_W pp l ee (rma 60 2 12) ss mm args below meth cq H1 lc1 ck cn (MQ below (QI D ad G ids (fun z s' => 1 = z ∧ JI s') ss.heap.size) args ss 2 12 (AN ad ids ss.heap.size)) (F0 mm pc ls rest) q := by
  obtain ⟨rfl, hE⟩ := hp
  rcases hE with rfl | rfl | rfl
  · exact x_row C htab hTX hR.1 hcell hv hcl (hnd_524 hI hJσ C hr hk hn hM.e hl)
  · exact x_row C htab hTX hR.2.1 hcell hv hcl (hnd_549 hI hJσ C hr hk hn hM.e hl)
  · exact x_row C htab hTX hR.2.2 hcell hv hcl (hnd_574 hI hJσ C hr hk hn hM.e hl)
set_option maxRecDepth 100000 in
set_option maxHeartbeats 4000000 in
theorem a_setUp {pp : Program} {l : Launch} {ee : Env} {ss : State} {mm : MethodId} {args : Array Value} {below : List Frame} {meth : Method} {cq : Code} {D : va_G} {ad : Nat → Nat} {G : Nat → Nat} {ids : List Nat} (hI : ∀ k, k < 81 → k ∈ ids) {σ : Sg} (hJσ : JI σ) (C : Cx pp ss mm meth cq args cL_act 10 RL D G) (hr : meth.sig.returnType = some .boolean) (hst : l.stackTraces = false) {sa : Nat → Nat} (htab : cq.exceptionTable.toList = tableOf hL_act) (hNC : NCS ss) (hTX : TX sa ss) (hTZ : TZ (AN ad ids ss.heap.size) ss ss.heap) {x : Int} {H1 : Heap} {lc1 : List Loc} {ls : Array Slot}  (hM : XE D ad G ids (AN ad ids ss.heap.size) ss.heap H1 lc1 σ []) (hl : lv_has ls 10 [(0, .ref (ad 0)), (1, .int (iI x)), (2, .int (iI (σ 2 0 * σ 3 0))), (3, .int (iI (σ 4 0))), (4, .int (iI (σ 30 0)))]) : W pp l ee (rma 60 2 12) ss mm args below meth cq H1 lc1 0 0 (MQ below (QI D ad G ids (fun z s' => 1 = z ∧ JI s') ss.heap.size) args ss 2 12 (AN ad ids ss.heap.size)) (F0 mm 88 ls []) := by
  have hB := hJσ.g.1
  unfold BG at hB
  have h18 : ((MLs (σ 1) (σ 2 0) (σ 3 0) (σ 4 0)).length : Int) ≤ 18 := hJσ.l18
  have hwh := hJσ.wh
  have hsd := hJσ.sd
  have htr : 0 ≤ σ 30 0 ∧ σ 30 0 ≤ 40 := hJσ.tr
  refine lv_aload_n C.1 C.2.1 dL_act_88 rfl (lv_at hl 0 rfl) ?_
  refine lv_iconst (v := iI 3) C.1 C.2.1 dL_act_89 (by decide) ?_
  refine lv_iload_n C.1 C.2.1 dL_act_90 rfl (lv_at hl 1 rfl) ?_
  refine lv_iconst (v := iI 4) C.1 C.2.1 dL_act_91 (by decide) ?_
  refine x_ishrA C dL_act_92 (fun y92 hy92 => ?_)
  refine lv_iconst (v := iI 3) C.1 C.2.1 dL_act_93 (by decide) ?_
  refine x_ciA (fun q h => Or.inr h) (x_runSA (As := [.int (iI y92), .int (iI 3)]) (rest := [.int (iI 3), .ref (ad 0)]) C (⟨by show _ ≤ (60 : Nat); omega, by show _ ≤ (40 * 60 : Nat); omega⟩) cw_RL_43 (MET.toA (c_L_below l D ad G ids hI σ y92 3 (by omega))) hM.x rfl rfl (Nat.le_of_ble_eq_true rfl) hl.1 dL_act_94 ⟨Nat.le_of_ble_eq_true rfl, Nat.le_of_ble_eq_true rfl⟩) hM (fun r94 s94 H1 lc1 hp hM => ?_)
  obtain ⟨hbs94, rfl⟩ := hp
  refine x_iadd C dL_act_97 ?_
  refine lv_iconst (v := iI 3) C.1 C.2.1 dL_act_98 (by decide) ?_
  refine lv_iload_n C.1 C.2.1 dL_act_99 rfl (lv_at hl 1 rfl) ?_
  refine lv_bipush (v := iI 6) C.1 C.2.1 dL_act_100 (by decide) ?_
  refine x_ishrA C dL_act_102 (fun y102 hy102 => ?_)
  refine lv_iconst (v := iI 3) C.1 C.2.1 dL_act_103 (by decide) ?_
  refine x_ciA (fun q h => Or.inr h) (x_runSA (As := [.int (iI y102), .int (iI 3)]) (rest := [.int (iI 3), .int (iI (3 + r94)), .ref (ad 0)]) C (⟨by show _ ≤ (60 : Nat); omega, by show _ ≤ (40 * 60 : Nat); omega⟩) cw_RL_43 (MET.toA (c_L_below l D ad G ids hI σ y102 3 (by omega))) hM.x rfl rfl (Nat.le_of_ble_eq_true rfl) hl.1 dL_act_104 ⟨Nat.le_of_ble_eq_true rfl, Nat.le_of_ble_eq_true rfl⟩) hM (fun r104 s104 H1 lc1 hp hM => ?_)
  obtain ⟨hbs104, rfl⟩ := hp
  refine x_iadd C dL_act_107 ?_
  refine lv_iconst (v := iI 1) C.1 C.2.1 dL_act_108 (by decide) ?_
  refine lv_iload_n C.1 C.2.1 dL_act_109 rfl (lv_at hl 1 rfl) ?_
  refine lv_bipush (v := iI 8) C.1 C.2.1 dL_act_110 (by decide) ?_
  refine x_ishrA C dL_act_112 (fun y112 hy112 => ?_)
  refine lv_iconst (v := iI 2) C.1 C.2.1 dL_act_113 (by decide) ?_
  refine x_ciA (fun q h => Or.inr h) (x_runSA (As := [.int (iI y112), .int (iI 2)]) (rest := [.int (iI 1), .int (iI (3 + r104)), .int (iI (3 + r94)), .ref (ad 0)]) C (⟨by show _ ≤ (60 : Nat); omega, by show _ ≤ (40 * 60 : Nat); omega⟩) cw_RL_43 (MET.toA (c_L_below l D ad G ids hI σ y112 2 (by omega))) hM.x rfl rfl (Nat.le_of_ble_eq_true rfl) hl.1 dL_act_114 ⟨Nat.le_of_ble_eq_true rfl, Nat.le_of_ble_eq_true rfl⟩) hM (fun r114 s114 H1 lc1 hp hM => ?_)
  obtain ⟨hbs114, rfl⟩ := hp
  refine x_iadd C dL_act_117 ?_
  refine x_tryA (As := [.int (iI (3 + r94)), .int (iI (3 + r104)), .int (iI (1 + r114))]) (rest := []) C hTX hTZ hM.x (hI 0 (by decide)) ⟨Nat.le_of_ble_eq_true rfl, Nat.le_of_ble_eq_true rfl⟩ cw_RL_47 (c_X11_setUp l hst D ad G ids hI σ sa (3 + r94) (3 + r104) (1 + r114) hJσ.hcz ⟨by omega, by omega⟩ ⟨by omega, by omega⟩ ⟨by omega, by omega⟩) rfl rfl rfl (Nat.le_of_ble_eq_true rfl) hl.1 dL_act_118 ⟨Nat.le_of_ble_eq_true rfl, Nat.le_of_ble_eq_true rfl⟩ (fun E τ ce q9 H1 lc1 hp hM hce hcv hcl => ?_) (fun r118 s118 H1 lc1 hp hM => ?_)
  · exact hnd_all hI hJσ C hr htab hTX (ra_118 hNC) ⟨hp.1, Or.inr (Or.inl hp.2.1)⟩ hM (lv_sub hl [0, 3, 4] rfl) hce hcv hcl (Nat.le_of_ble_eq_true rfl) (Nat.le_of_ble_eq_true rfl)
  obtain ⟨hcs118, rfl, hss118⟩ := hp
  obtain ⟨hJs118, f30, f4, f11, fne⟩ := hJσ.setUp hcs118 hss118
  have fen : cntE (s118 11) 64 = 0 := cntE_0 f11 64
  have fln : 0 < ((MLs (s118 1) (s118 2 0) (s118 3 0) (s118 4 0)).length : Int) := by have q : 0 < (MLs (s118 1) (s118 2 0) (s118 3 0) (s118 4 0)).length := List.length_pos_iff.mpr fne; omega
  have f18 : ((MLs (s118 1) (s118 2 0) (s118 3 0) (s118 4 0)).length : Int) ≤ 18 := hJs118.l18
  refine lv_pop C.1 C.2.1 dL_act_121 rfl ?_
  refine lv_aload_n C.1 C.2.1 dL_act_122 rfl (lv_at hl 0 rfl) ?_
  refine x_ciA (fun q h => Or.inr h) (x_runVA (As := []) (rest := []) C (⟨by show _ ≤ (60 : Nat); omega, by show _ ≤ (40 * 60 : Nat); omega⟩) cw_RL_40 (MET.toA (v_X11_played l D ad G ids hI hJs118 EQS.rf)) hM.x (hI 0 (by decide)) (cx_0 ad G _) rfl rfl rfl rfl (Nat.le_of_ble_eq_true rfl) hl.1 dL_act_123 ⟨Nat.le_of_ble_eq_true rfl, Nat.le_of_ble_eq_true rfl⟩) hM (fun r123 s123 H1 lc1 hp hM => ?_)
  obtain ⟨rfl, rfl⟩ := hp
  refine x_if_ne C ⟨by omega, by omega⟩ (tgt := 154) dL_act_126 (by decide) (fun c126 => ?_) (fun c126 => ?_)
  · exfalso; omega
  · refine lv_aload_n C.1 C.2.1 dL_act_129 rfl (lv_at hl 0 rfl) ?_
    refine x_ciA (fun q h => Or.inr h) (x_runVA (As := []) (rest := []) C (⟨by show _ ≤ (60 : Nat); omega, by show _ ≤ (40 * 60 : Nat); omega⟩) cw_RL_37 (MET.toA (v_X11_side l D ad G ids hI hJs118 EQS.rf)) hM.x (hI 0 (by decide)) (cx_0 ad G _) rfl rfl rfl rfl (Nat.le_of_ble_eq_true rfl) hl.1 dL_act_130 ⟨Nat.le_of_ble_eq_true rfl, Nat.le_of_ble_eq_true rfl⟩) hM (fun r130 s130 H1 lc1 hp hM => ?_)
    obtain ⟨rfl, rfl⟩ := hp
    refine x_if_ne C ⟨by omega, by omega⟩ (tgt := 154) dL_act_133 (by decide) (fun c133 => ?_) (fun c133 => ?_)
    · exfalso; omega
    · refine lv_aload_n C.1 C.2.1 dL_act_136 rfl (lv_at hl 0 rfl) ?_
      refine x_ciA (fun q h => Or.inr h) (x_runVA (As := []) (rest := []) C (⟨by show _ ≤ (60 : Nat); omega, by show _ ≤ (40 * 60 : Nat); omega⟩) cw_RL_51 (MET.toA (v_X11_entries l D ad G ids hI hJs118 EQS.rf)) hM.x (hI 0 (by decide)) (cx_0 ad G _) rfl rfl rfl rfl (Nat.le_of_ble_eq_true rfl) hl.1 dL_act_137 ⟨Nat.le_of_ble_eq_true rfl, Nat.le_of_ble_eq_true rfl⟩) hM (fun r137 s137 H1 lc1 hp hM => ?_)
      obtain ⟨rfl, rfl⟩ := hp
      refine x_if_ne C ⟨by omega, by omega⟩ (tgt := 154) dL_act_140 (by decide) (fun c140 => ?_) (fun c140 => ?_)
      · exfalso; omega
      · refine lv_aload_n C.1 C.2.1 dL_act_143 rfl (lv_at hl 0 rfl) ?_
        refine x_ciA (fun q h => Or.inr h) (x_runVA (As := []) (rest := []) C (⟨by show _ ≤ (60 : Nat); omega, by show _ ≤ (40 * 60 : Nat); omega⟩) cw_RL_54 (MET.toA (v_X11_moves l D ad G ids hI hJs118 EQS.rf)) hM.x (hI 0 (by decide)) (cx_0 ad G _) rfl rfl rfl rfl (Nat.le_of_ble_eq_true rfl) hl.1 dL_act_144 ⟨Nat.le_of_ble_eq_true rfl, Nat.le_of_ble_eq_true rfl⟩) hM (fun r144 s144 H1 lc1 hp hM => ?_)
        obtain ⟨rfl, rfl⟩ := hp
        refine x_if_le C ⟨by omega, by omega⟩ (tgt := 154) dL_act_147 (by decide) (fun c147 => ?_) (fun c147 => ?_)
        · exfalso; omega
        · refine lv_iconst (v := iI 1) C.1 C.2.1 dL_act_150 (by decide) ?_
          refine lv_goto (tgt := 155) C.1 C.2.1 dL_act_151 (by decide) ?_
          refine W.widen (k := 2) (n := 12) (Nat.le_of_ble_eq_true rfl) (Nat.le_of_ble_eq_true rfl) ?_
          exact x_zret C hr hM.x (by first | exact Or.inl rfl | exact Or.inr rfl | omega) ⟨rfl, hJs118⟩ dL_act_155
set_option maxRecDepth 100000 in
set_option maxHeartbeats 4000000 in
theorem a_put {pp : Program} {l : Launch} {ee : Env} {ss : State} {mm : MethodId} {args : Array Value} {below : List Frame} {meth : Method} {cq : Code} {D : va_G} {ad : Nat → Nat} {G : Nat → Nat} {ids : List Nat} (hI : ∀ k, k < 81 → k ∈ ids) {σ : Sg} (hJσ : JI σ) (C : Cx pp ss mm meth cq args cL_act 10 RL D G) (hr : meth.sig.returnType = some .boolean) (hst : l.stackTraces = false) {sa : Nat → Nat} (htab : cq.exceptionTable.toList = tableOf hL_act) (hNC : NCS ss) (hTX : TX sa ss) (hTZ : TZ (AN ad ids ss.heap.size) ss ss.heap) {x : Int} {H1 : Heap} {lc1 : List Loc} {ls : Array Slot}  (hM : XE D ad G ids (AN ad ids ss.heap.size) ss.heap H1 lc1 σ []) (hl : lv_has ls 10 [(0, .ref (ad 0)), (1, .int (iI x)), (2, .int (iI (σ 2 0 * σ 3 0))), (3, .int (iI (σ 4 0))), (4, .int (iI (σ 30 0)))]) : W pp l ee (rma 60 2 12) ss mm args below meth cq H1 lc1 0 0 (MQ below (QI D ad G ids (fun z s' => 1 = z ∧ JI s') ss.heap.size) args ss 2 12 (AN ad ids ss.heap.size)) (F0 mm 156 ls []) := by
  have hB := hJσ.g.1
  unfold BG at hB
  have h18 : ((MLs (σ 1) (σ 2 0) (σ 3 0) (σ 4 0)).length : Int) ≤ 18 := hJσ.l18
  have hwh := hJσ.wh
  have hsd := hJσ.sd
  have htr : 0 ≤ σ 30 0 ∧ σ 30 0 ≤ 40 := hJσ.tr
  refine lv_iload_n C.1 C.2.1 dL_act_156 rfl (lv_at hl 1 rfl) ?_
  refine lv_iconst (v := iI 4) C.1 C.2.1 dL_act_157 (by decide) ?_
  refine x_ishrA C dL_act_158 (fun y158 hy158 => ?_)
  refine lv_iconst (v := iI 3) C.1 C.2.1 dL_act_159 (by decide) ?_
  refine x_ciA (fun q h => Or.inr h) (x_runSA (As := [.int (iI y158), .int (iI 3)]) (rest := []) C (⟨by show _ ≤ (60 : Nat); omega, by show _ ≤ (40 * 60 : Nat); omega⟩) cw_RL_43 (MET.toA (c_L_below l D ad G ids hI σ y158 3 (by omega))) hM.x rfl rfl (Nat.le_of_ble_eq_true rfl) hl.1 dL_act_160 ⟨Nat.le_of_ble_eq_true rfl, Nat.le_of_ble_eq_true rfl⟩) hM (fun r160 s160 H1 lc1 hp hM => ?_)
  obtain ⟨hbs160, rfl⟩ := hp
  refine lv_istore (lv' := [(5, .int (iI r160)), (0, .ref (ad 0)), (1, .int (iI x)), (2, .int (iI (σ 2 0 * σ 3 0))), (3, .int (iI (σ 4 0))), (4, .int (iI (σ 30 0)))]) C.1 C.2.1 dL_act_163 hl (by decide) rfl (fun ls hl => ?_)
  refine lv_aload_n C.1 C.2.1 dL_act_165 rfl (lv_at hl 1 rfl) ?_
  refine lv_iload_n C.1 C.2.1 dL_act_166 rfl (lv_at hl 2 rfl) ?_
  refine lv_bipush (v := iI 6) C.1 C.2.1 dL_act_167 (by decide) ?_
  refine x_ishrA C dL_act_169 (fun y169 hy169 => ?_)
  refine lv_iload_n C.1 C.2.1 dL_act_170 rfl (lv_at hl 3 rfl) ?_
  refine x_ciA (fun q h => Or.inr h) (x_runSA (As := [.int (iI y169), .int (iI (σ 2 0 * σ 3 0))]) (rest := [.ref (ad 0)]) C (⟨by show _ ≤ (60 : Nat); omega, by show _ ≤ (40 * 60 : Nat); omega⟩) cw_RL_43 (MET.toA (c_L_below l D ad G ids hI σ y169 (σ 2 0 * σ 3 0) (by omega))) hM.x rfl rfl (Nat.le_of_ble_eq_true rfl) hl.1 dL_act_171 ⟨Nat.le_of_ble_eq_true rfl, Nat.le_of_ble_eq_true rfl⟩) hM (fun r171 s171 H1 lc1 hp hM => ?_)
  obtain ⟨hbs171, rfl⟩ := hp
  refine lv_iload C.1 C.2.1 dL_act_174 (lv_at hl 0 rfl) ?_
  refine x_tryA (As := [.int (iI r171), .int (iI r160)]) (rest := []) C hTX hTZ hM.x (hI 0 (by decide)) ⟨Nat.le_of_ble_eq_true rfl, Nat.le_of_ble_eq_true rfl⟩ cw_RL_57 (c_X11_put l hst D ad G ids hI σ sa r171 r160 hJσ.g ⟨by omega, by omega⟩ ⟨by omega, by omega⟩) rfl rfl rfl (Nat.le_of_ble_eq_true rfl) hl.1 dL_act_176 ⟨Nat.le_of_ble_eq_true rfl, Nat.le_of_ble_eq_true rfl⟩ (fun E τ ce q9 H1 lc1 hp hM hce hcv hcl => ?_) (fun r176 s176 H1 lc1 hp hM => ?_)
  · exact hnd_all hI hJσ C hr htab hTX (ra_176 hNC) ⟨hp.1, hp.2.elim (fun h => Or.inl h.1) (fun h => h.elim (fun h => Or.inr (Or.inl h.1)) (fun h => Or.inr (Or.inr h.1)))⟩ hM (lv_sub hl [1, 4, 5] rfl) hce hcv hcl (Nat.le_of_ble_eq_true rfl) (Nat.le_of_ble_eq_true rfl)
  obtain ⟨⟨hc1, hc2, hc3⟩, rfl, hss176⟩ := hp
  obtain ⟨hJs176, f30⟩ := hJσ.put hc1 hc2 hc3 hss176
  refine lv_pop C.1 C.2.1 dL_act_179 rfl ?_
  refine lv_aload_n C.1 C.2.1 dL_act_180 rfl (lv_at hl 1 rfl) ?_
  refine x_ciA (fun q h => Or.inr h) (x_runVA (As := []) (rest := []) C (⟨by show _ ≤ (60 : Nat); omega, by show _ ≤ (40 * 60 : Nat); omega⟩) cw_RL_40 (MET.toA (v_X11_played l D ad G ids hI hJs176 EQS.rf)) hM.x (hI 0 (by decide)) (cx_0 ad G _) rfl rfl rfl rfl (Nat.le_of_ble_eq_true rfl) hl.1 dL_act_181 ⟨Nat.le_of_ble_eq_true rfl, Nat.le_of_ble_eq_true rfl⟩) hM (fun r181 s181 H1 lc1 hp hM => ?_)
  obtain ⟨rfl, rfl⟩ := hp
  refine x_if_ne C ⟨by omega, by omega⟩ (tgt := 191) dL_act_184 (by decide) (fun c184 => ?_) (fun c184 => ?_)
  · exfalso; omega
  · refine lv_iconst (v := iI 1) C.1 C.2.1 dL_act_187 (by decide) ?_
    refine lv_goto (tgt := 192) C.1 C.2.1 dL_act_188 (by decide) ?_
    refine W.widen (k := 2) (n := 12) (Nat.le_of_ble_eq_true rfl) (Nat.le_of_ble_eq_true rfl) ?_
    exact x_zret C hr hM.x (by first | exact Or.inl rfl | exact Or.inr rfl | omega) ⟨rfl, hJs176⟩ dL_act_192
set_option maxRecDepth 100000 in
set_option maxHeartbeats 4000000 in
theorem a_setSide {pp : Program} {l : Launch} {ee : Env} {ss : State} {mm : MethodId} {args : Array Value} {below : List Frame} {meth : Method} {cq : Code} {D : va_G} {ad : Nat → Nat} {G : Nat → Nat} {ids : List Nat} (hI : ∀ k, k < 81 → k ∈ ids) {σ : Sg} (hJσ : JI σ) (C : Cx pp ss mm meth cq args cL_act 10 RL D G) (hr : meth.sig.returnType = some .boolean) (hst : l.stackTraces = false) {sa : Nat → Nat} (htab : cq.exceptionTable.toList = tableOf hL_act) (hNC : NCS ss) (hTX : TX sa ss) (hTZ : TZ (AN ad ids ss.heap.size) ss ss.heap) {x : Int} {H1 : Heap} {lc1 : List Loc} {ls : Array Slot}  (hM : XE D ad G ids (AN ad ids ss.heap.size) ss.heap H1 lc1 σ []) (hl : lv_has ls 10 [(0, .ref (ad 0)), (1, .int (iI x)), (2, .int (iI (σ 2 0 * σ 3 0))), (3, .int (iI (σ 4 0))), (4, .int (iI (σ 30 0)))]) : W pp l ee (rma 60 2 12) ss mm args below meth cq H1 lc1 0 0 (MQ below (QI D ad G ids (fun z s' => 1 = z ∧ JI s') ss.heap.size) args ss 2 12 (AN ad ids ss.heap.size)) (F0 mm 193 ls []) := by
  have hB := hJσ.g.1
  unfold BG at hB
  have h18 : ((MLs (σ 1) (σ 2 0) (σ 3 0) (σ 4 0)).length : Int) ≤ 18 := hJσ.l18
  have hwh := hJσ.wh
  have hsd := hJσ.sd
  have htr : 0 ≤ σ 30 0 ∧ σ 30 0 ≤ 40 := hJσ.tr
  refine lv_aload_n C.1 C.2.1 dL_act_193 rfl (lv_at hl 0 rfl) ?_
  refine lv_iload_n C.1 C.2.1 dL_act_194 rfl (lv_at hl 1 rfl) ?_
  refine lv_iconst (v := iI 4) C.1 C.2.1 dL_act_195 (by decide) ?_
  refine x_ishrA C dL_act_196 (fun y196 hy196 => ?_)
  refine lv_iconst (v := iI 2) C.1 C.2.1 dL_act_197 (by decide) ?_
  refine x_ciA (fun q h => Or.inr h) (x_runSA (As := [.int (iI y196), .int (iI 2)]) (rest := [.ref (ad 0)]) C (⟨by show _ ≤ (60 : Nat); omega, by show _ ≤ (40 * 60 : Nat); omega⟩) cw_RL_43 (MET.toA (c_L_below l D ad G ids hI σ y196 2 (by omega))) hM.x rfl rfl (Nat.le_of_ble_eq_true rfl) hl.1 dL_act_198 ⟨Nat.le_of_ble_eq_true rfl, Nat.le_of_ble_eq_true rfl⟩) hM (fun r198 s198 H1 lc1 hp hM => ?_)
  obtain ⟨hbs198, rfl⟩ := hp
  refine x_tryA (As := [.int (iI r198)]) (rest := []) C hTX hTZ hM.x (hI 0 (by decide)) ⟨Nat.le_of_ble_eq_true rfl, Nat.le_of_ble_eq_true rfl⟩ cw_RL_60 (c_X11_setSide l hst D ad G ids hI σ sa r198 hJσ.g ⟨by omega, by omega⟩) rfl rfl rfl (Nat.le_of_ble_eq_true rfl) hl.1 dL_act_201 ⟨Nat.le_of_ble_eq_true rfl, Nat.le_of_ble_eq_true rfl⟩ (fun E τ ce q9 H1 lc1 hp hM hce hcv hcl => ?_) (fun r201 s201 H1 lc1 hp hM => ?_)
  · exact hnd_all hI hJσ C hr htab hTX (ra_201 hNC) ⟨hp.1, Or.inr (Or.inl hp.2.1)⟩ hM (lv_sub hl [0, 3, 4] rfl) hce hcv hcl (Nat.le_of_ble_eq_true rfl) (Nat.le_of_ble_eq_true rfl)
  obtain ⟨hc1, rfl, hss201⟩ := hp
  have hJs201 := hJσ.setSide hc1 hss201
  refine lv_pop C.1 C.2.1 dL_act_204 rfl ?_
  refine lv_goto (tgt := 521) C.1 C.2.1 dL_act_205 (by decide) ?_
  refine lv_goto (tgt := 599) C.1 C.2.1 dL_act_521 (by decide) ?_
  refine lv_iconst (v := iI 1) C.1 C.2.1 dL_act_599 (by decide) ?_
  refine W.widen (k := 2) (n := 12) (Nat.le_of_ble_eq_true rfl) (Nat.le_of_ble_eq_true rfl) ?_
  exact x_zret C hr hM.x (by first | exact Or.inl rfl | exact Or.inr rfl | omega) ⟨rfl, hJs201⟩ dL_act_600
set_option maxRecDepth 100000 in
set_option maxHeartbeats 4000000 in
theorem a_play {pp : Program} {l : Launch} {ee : Env} {ss : State} {mm : MethodId} {args : Array Value} {below : List Frame} {meth : Method} {cq : Code} {D : va_G} {ad : Nat → Nat} {G : Nat → Nat} {ids : List Nat} (hI : ∀ k, k < 81 → k ∈ ids) {σ : Sg} (hJσ : JI σ) (C : Cx pp ss mm meth cq args cL_act 10 RL D G) (hr : meth.sig.returnType = some .boolean) (hst : l.stackTraces = false) {sa : Nat → Nat} (htab : cq.exceptionTable.toList = tableOf hL_act) (hNC : NCS ss) (hTX : TX sa ss) (hTZ : TZ (AN ad ids ss.heap.size) ss ss.heap) {x : Int} {H1 : Heap} {lc1 : List Loc} {ls : Array Slot}  (hM : XE D ad G ids (AN ad ids ss.heap.size) ss.heap H1 lc1 σ []) (hl : lv_has ls 10 [(0, .ref (ad 0)), (1, .int (iI x)), (2, .int (iI (σ 2 0 * σ 3 0))), (3, .int (iI (σ 4 0))), (4, .int (iI (σ 30 0)))]) : W pp l ee (rma 60 2 12) ss mm args below meth cq H1 lc1 0 0 (MQ below (QI D ad G ids (fun z s' => 1 = z ∧ JI s') ss.heap.size) args ss 2 12 (AN ad ids ss.heap.size)) (F0 mm 208 ls []) := by
  have hB := hJσ.g.1
  unfold BG at hB
  have h18 : ((MLs (σ 1) (σ 2 0) (σ 3 0) (σ 4 0)).length : Int) ≤ 18 := hJσ.l18
  have hwh := hJσ.wh
  have hsd := hJσ.sd
  have htr : 0 ≤ σ 30 0 ∧ σ 30 0 ≤ 40 := hJσ.tr
  refine lv_iload_n C.1 C.2.1 dL_act_208 rfl (lv_at hl 1 rfl) ?_
  refine lv_iconst (v := iI 4) C.1 C.2.1 dL_act_209 (by decide) ?_
  refine x_ishrA C dL_act_210 (fun y210 hy210 => ?_)
  refine lv_iconst (v := iI 1) C.1 C.2.1 dL_act_211 (by decide) ?_
  refine lv_aload_n C.1 C.2.1 dL_act_212 rfl (lv_at hl 0 rfl) ?_
  refine x_ciA (fun q h => Or.inr h) (x_runVA (As := []) (rest := [.int (iI 1), .int (iI y210)]) C (⟨by show _ ≤ (60 : Nat); omega, by show _ ≤ (40 * 60 : Nat); omega⟩) cw_RL_54 (MET.toA (v_X11_moves l D ad G ids hI hJσ EQS.rf)) hM.x (hI 0 (by decide)) (cx_0 ad G _) rfl rfl rfl rfl (Nat.le_of_ble_eq_true rfl) hl.1 dL_act_213 ⟨Nat.le_of_ble_eq_true rfl, Nat.le_of_ble_eq_true rfl⟩) hM (fun r213 s213 H1 lc1 hp hM => ?_)
  obtain ⟨rfl, rfl⟩ := hp
  refine x_maxR C ⟨Nat.le_of_ble_eq_true rfl, Nat.le_of_ble_eq_true rfl⟩ ⟨Nat.le_of_ble_eq_true rfl, Nat.le_of_ble_eq_true rfl⟩ hl.1 wM_RL_64 ⟨by omega, by omega⟩ ⟨by omega, by omega⟩ (Nat.le_of_ble_eq_true rfl) dL_act_216 ?_
  refine x_ciA (fun q h => Or.inr h) (x_runSA (As := [.int (iI y210), .int (iI (max 1 ((MLs (σ 1) (σ 2 0) (σ 3 0) (σ 4 0)).length : Int)))]) (rest := []) C (⟨by show _ ≤ (60 : Nat); omega, by show _ ≤ (40 * 60 : Nat); omega⟩) cw_RL_43 (MET.toA (c_L_below l D ad G ids hI σ y210 (max 1 ((MLs (σ 1) (σ 2 0) (σ 3 0) (σ 4 0)).length : Int)) (by omega))) hM.x rfl rfl (Nat.le_of_ble_eq_true rfl) hl.1 dL_act_219 ⟨Nat.le_of_ble_eq_true rfl, Nat.le_of_ble_eq_true rfl⟩) hM (fun r219 s219 H1 lc1 hp hM => ?_)
  obtain ⟨hbs219, rfl⟩ := hp
  refine lv_istore (lv' := [(6, .int (iI r219)), (0, .ref (ad 0)), (1, .int (iI x)), (2, .int (iI (σ 2 0 * σ 3 0))), (3, .int (iI (σ 4 0))), (4, .int (iI (σ 30 0)))]) C.1 C.2.1 dL_act_222 hl (by decide) rfl (fun ls hl => ?_)
  refine lv_aload_n C.1 C.2.1 dL_act_224 rfl (lv_at hl 1 rfl) ?_
  refine lv_iload C.1 C.2.1 dL_act_225 (lv_at hl 0 rfl) ?_
  refine x_tryA (As := [.int (iI r219)]) (rest := []) C hTX hTZ hM.x (hI 0 (by decide)) ⟨Nat.le_of_ble_eq_true rfl, Nat.le_of_ble_eq_true rfl⟩ cw_RL_69 (c_X11_play l hst D ad G ids hI σ sa r219 hJσ.g hJσ.hl hJσ.tr ⟨by omega, by omega⟩) rfl rfl rfl (Nat.le_of_ble_eq_true rfl) hl.1 dL_act_227 ⟨Nat.le_of_ble_eq_true rfl, Nat.le_of_ble_eq_true rfl⟩ (fun E τ ce q9 H1 lc1 hp hM hce hcv hcl => ?_) (fun r227 s227 H1 lc1 hp hM => ?_)
  · exact hnd_all hI hJσ C hr htab hTX (ra_227 hNC) ⟨hp.1, Or.inl hp.2.1⟩ hM (lv_sub hl [1, 4, 5] rfl) hce hcv hcl (Nat.le_of_ble_eq_true rfl) (Nat.le_of_ble_eq_true rfl)
  obtain ⟨hc1, rfl, hss227⟩ := hp
  obtain ⟨hJs227, f30, f4⟩ := hJσ.play (getD_mem hc1.1 hc1.2) hss227
  refine lv_pop C.1 C.2.1 dL_act_230 rfl ?_
  refine lv_aload_n C.1 C.2.1 dL_act_231 rfl (lv_at hl 1 rfl) ?_
  refine x_ciA (fun q h => Or.inr h) (x_runVA (As := []) (rest := []) C (⟨by show _ ≤ (60 : Nat); omega, by show _ ≤ (40 * 60 : Nat); omega⟩) cw_RL_37 (MET.toA (v_X11_side l D ad G ids hI hJs227 EQS.rf)) hM.x (hI 0 (by decide)) (cx_0 ad G _) rfl rfl rfl rfl (Nat.le_of_ble_eq_true rfl) hl.1 dL_act_232 ⟨Nat.le_of_ble_eq_true rfl, Nat.le_of_ble_eq_true rfl⟩) hM (fun r232 s232 H1 lc1 hp hM => ?_)
  obtain ⟨rfl, rfl⟩ := hp
  refine lv_iconst (v := iI 1) C.1 C.2.1 dL_act_235 (by decide) ?_
  refine lv_iload_n C.1 C.2.1 dL_act_236 rfl (lv_at hl 4 rfl) ?_
  refine x_isub C dL_act_237 ?_
  refine x_icmp_ne C ⟨by omega, by omega⟩ ⟨by omega, by omega⟩ (tgt := 261) dL_act_238 (by decide) (fun c238 => ?_) (fun c238 => ?_)
  · exfalso; omega
  · refine lv_aload_n C.1 C.2.1 dL_act_241 rfl (lv_at hl 1 rfl) ?_
    refine x_ciA (fun q h => Or.inr h) (x_runVA (As := []) (rest := []) C (⟨by show _ ≤ (60 : Nat); omega, by show _ ≤ (40 * 60 : Nat); omega⟩) cw_RL_40 (MET.toA (v_X11_played l D ad G ids hI hJs227 EQS.rf)) hM.x (hI 0 (by decide)) (cx_0 ad G _) rfl rfl rfl rfl (Nat.le_of_ble_eq_true rfl) hl.1 dL_act_242 ⟨Nat.le_of_ble_eq_true rfl, Nat.le_of_ble_eq_true rfl⟩) hM (fun r242 s242 H1 lc1 hp hM => ?_)
    obtain ⟨rfl, rfl⟩ := hp
    refine lv_bipush (v := iI 40) C.1 C.2.1 dL_act_245 (by decide) ?_
    refine lv_iload C.1 C.2.1 dL_act_247 (lv_at hl 5 rfl) ?_
    refine lv_iconst (v := iI 1) C.1 C.2.1 dL_act_249 (by decide) ?_
    refine x_iadd C dL_act_250 ?_
    refine x_minR C ⟨Nat.le_of_ble_eq_true rfl, Nat.le_of_ble_eq_true rfl⟩ ⟨Nat.le_of_ble_eq_true rfl, Nat.le_of_ble_eq_true rfl⟩ hl.1 wM_RL_72 ⟨by omega, by omega⟩ ⟨by omega, by omega⟩ (Nat.le_of_ble_eq_true rfl) dL_act_251 ?_
    refine x_icmp_ne C ⟨by omega, by omega⟩ ⟨by omega, by omega⟩ (tgt := 261) dL_act_254 (by decide) (fun c254 => ?_) (fun c254 => ?_)
    · exfalso; omega
    · refine lv_iconst (v := iI 1) C.1 C.2.1 dL_act_257 (by decide) ?_
      refine lv_goto (tgt := 262) C.1 C.2.1 dL_act_258 (by decide) ?_
      refine W.widen (k := 2) (n := 12) (Nat.le_of_ble_eq_true rfl) (Nat.le_of_ble_eq_true rfl) ?_
      exact x_zret C hr hM.x (by first | exact Or.inl rfl | exact Or.inr rfl | omega) ⟨rfl, hJs227⟩ dL_act_262
set_option maxRecDepth 100000 in
set_option maxHeartbeats 4000000 in
theorem a_back {pp : Program} {l : Launch} {ee : Env} {ss : State} {mm : MethodId} {args : Array Value} {below : List Frame} {meth : Method} {cq : Code} {D : va_G} {ad : Nat → Nat} {G : Nat → Nat} {ids : List Nat} (hI : ∀ k, k < 81 → k ∈ ids) {σ : Sg} (hJσ : JI σ) (C : Cx pp ss mm meth cq args cL_act 10 RL D G) (hr : meth.sig.returnType = some .boolean) (hst : l.stackTraces = false) {sa : Nat → Nat} (htab : cq.exceptionTable.toList = tableOf hL_act) (hNC : NCS ss) (hTX : TX sa ss) (hTZ : TZ (AN ad ids ss.heap.size) ss ss.heap) {x : Int} {H1 : Heap} {lc1 : List Loc} {ls : Array Slot}  (hM : XE D ad G ids (AN ad ids ss.heap.size) ss.heap H1 lc1 σ []) (hl : lv_has ls 10 [(0, .ref (ad 0)), (1, .int (iI x)), (2, .int (iI (σ 2 0 * σ 3 0))), (3, .int (iI (σ 4 0))), (4, .int (iI (σ 30 0)))]) : W pp l ee (rma 60 2 12) ss mm args below meth cq H1 lc1 0 0 (MQ below (QI D ad G ids (fun z s' => 1 = z ∧ JI s') ss.heap.size) args ss 2 12 (AN ad ids ss.heap.size)) (F0 mm 263 ls []) := by
  have hB := hJσ.g.1
  unfold BG at hB
  have h18 : ((MLs (σ 1) (σ 2 0) (σ 3 0) (σ 4 0)).length : Int) ≤ 18 := hJσ.l18
  have hwh := hJσ.wh
  have hsd := hJσ.sd
  have htr : 0 ≤ σ 30 0 ∧ σ 30 0 ≤ 40 := hJσ.tr
  refine lv_aload_n C.1 C.2.1 dL_act_263 rfl (lv_at hl 0 rfl) ?_
  refine x_tryA (As := []) (rest := []) C hTX hTZ hM.x (hI 0 (by decide)) ⟨Nat.le_of_ble_eq_true rfl, Nat.le_of_ble_eq_true rfl⟩ cw_RL_75 (c_X11_back l hst D ad G ids hI σ sa hJσ.g hJσ.tr hJσ.hu) rfl rfl rfl (Nat.le_of_ble_eq_true rfl) hl.1 dL_act_264 ⟨Nat.le_of_ble_eq_true rfl, Nat.le_of_ble_eq_true rfl⟩ (fun E τ ce q9 H1 lc1 hp hM hce hcv hcl => ?_) (fun r264 s264 H1 lc1 hp hM => ?_)
  · exact hnd_all hI hJσ C hr htab hTX (ra_264 hNC) ⟨hp.1, Or.inr (Or.inr hp.2.1)⟩ hM (lv_sub hl [0, 3, 4] rfl) hce hcv hcl (Nat.le_of_ble_eq_true rfl) (Nat.le_of_ble_eq_true rfl)
  obtain ⟨hc1, hzs264, hss264, hhs264⟩ := hp
  obtain ⟨hJs264, f4, f30⟩ := hJσ.back hc1 hss264 hhs264
  refine lv_iload C.1 C.2.1 dL_act_267 (lv_at hl 4 rfl) ?_
  refine lv_iconst (v := iI 1) C.1 C.2.1 dL_act_269 (by decide) ?_
  refine x_isub C dL_act_270 ?_
  refine x_icmp_ne C ⟨by omega, by omega⟩ ⟨by omega, by omega⟩ (tgt := 288) dL_act_271 (by decide) (fun c271 => ?_) (fun c271 => ?_)
  · exfalso; omega
  · refine lv_aload_n C.1 C.2.1 dL_act_274 rfl (lv_at hl 0 rfl) ?_
    refine x_ciA (fun q h => Or.inr h) (x_runVA (As := []) (rest := []) C (⟨by show _ ≤ (60 : Nat); omega, by show _ ≤ (40 * 60 : Nat); omega⟩) cw_RL_37 (MET.toA (v_X11_side l D ad G ids hI hJs264 EQS.rf)) hM.x (hI 0 (by decide)) (cx_0 ad G _) rfl rfl rfl rfl (Nat.le_of_ble_eq_true rfl) hl.1 dL_act_275 ⟨Nat.le_of_ble_eq_true rfl, Nat.le_of_ble_eq_true rfl⟩) hM (fun r275 s275 H1 lc1 hp hM => ?_)
    obtain ⟨rfl, rfl⟩ := hp
    refine lv_iconst (v := iI 1) C.1 C.2.1 dL_act_278 (by decide) ?_
    refine lv_iload_n C.1 C.2.1 dL_act_279 rfl (lv_at hl 3 rfl) ?_
    refine x_isub C dL_act_280 ?_
    refine x_icmp_ne C ⟨by omega, by omega⟩ ⟨by omega, by omega⟩ (tgt := 288) dL_act_281 (by decide) (fun c281 => ?_) (fun c281 => ?_)
    · exfalso; omega
    · refine lv_iconst (v := iI 1) C.1 C.2.1 dL_act_284 (by decide) ?_
      refine lv_goto (tgt := 289) C.1 C.2.1 dL_act_285 (by decide) ?_
      refine W.widen (k := 2) (n := 12) (Nat.le_of_ble_eq_true rfl) (Nat.le_of_ble_eq_true rfl) ?_
      exact x_zret C hr hM.x (by first | exact Or.inl rfl | exact Or.inr rfl | omega) ⟨rfl, hJs264⟩ dL_act_289
set_option maxRecDepth 100000 in
set_option maxHeartbeats 4000000 in
theorem a_weigh {pp : Program} {l : Launch} {ee : Env} {ss : State} {mm : MethodId} {args : Array Value} {below : List Frame} {meth : Method} {cq : Code} {D : va_G} {ad : Nat → Nat} {G : Nat → Nat} {ids : List Nat} (hI : ∀ k, k < 81 → k ∈ ids) {σ : Sg} (hJσ : JI σ) (C : Cx pp ss mm meth cq args cL_act 10 RL D G) (hr : meth.sig.returnType = some .boolean) (hst : l.stackTraces = false) {sa : Nat → Nat} (htab : cq.exceptionTable.toList = tableOf hL_act) (hNC : NCS ss) (hTX : TX sa ss) (hTZ : TZ (AN ad ids ss.heap.size) ss ss.heap) {x : Int} {H1 : Heap} {lc1 : List Loc} {ls : Array Slot}  (hM : XE D ad G ids (AN ad ids ss.heap.size) ss.heap H1 lc1 σ []) (hl : lv_has ls 10 [(0, .ref (ad 0)), (1, .int (iI x)), (2, .int (iI (σ 2 0 * σ 3 0))), (3, .int (iI (σ 4 0))), (4, .int (iI (σ 30 0)))]) : W pp l ee (rma 60 2 12) ss mm args below meth cq H1 lc1 0 0 (MQ below (QI D ad G ids (fun z s' => 1 = z ∧ JI s') ss.heap.size) args ss 2 12 (AN ad ids ss.heap.size)) (F0 mm 290 ls []) := by
  have hB := hJσ.g.1
  unfold BG at hB
  have h18 : ((MLs (σ 1) (σ 2 0) (σ 3 0) (σ 4 0)).length : Int) ≤ 18 := hJσ.l18
  have hwh := hJσ.wh
  have hsd := hJσ.sd
  have htr : 0 ≤ σ 30 0 ∧ σ 30 0 ≤ 40 := hJσ.tr
  refine lv_aload_n C.1 C.2.1 dL_act_290 rfl (lv_at hl 0 rfl) ?_
  refine lv_iload_n C.1 C.2.1 dL_act_291 rfl (lv_at hl 1 rfl) ?_
  refine lv_iconst (v := iI 3) C.1 C.2.1 dL_act_292 (by decide) ?_
  refine x_ishrA C dL_act_293 (fun y293 hy293 => ?_)
  refine lv_bipush (v := iI 51) C.1 C.2.1 dL_act_294 (by decide) ?_
  refine x_ciA (fun q h => Or.inr h) (x_runSA (As := [.int (iI y293), .int (iI 51)]) (rest := [.ref (ad 0)]) C (⟨by show _ ≤ (60 : Nat); omega, by show _ ≤ (40 * 60 : Nat); omega⟩) cw_RL_43 (MET.toA (c_L_below l D ad G ids hI σ y293 51 (by omega))) hM.x rfl rfl (Nat.le_of_ble_eq_true rfl) hl.1 dL_act_296 ⟨Nat.le_of_ble_eq_true rfl, Nat.le_of_ble_eq_true rfl⟩) hM (fun r296 s296 H1 lc1 hp hM => ?_)
  obtain ⟨hbs296, rfl⟩ := hp
  refine lv_iload_n C.1 C.2.1 dL_act_299 rfl (lv_at hl 1 rfl) ?_
  refine lv_bipush (v := iI 6) C.1 C.2.1 dL_act_300 (by decide) ?_
  refine x_ishrA C dL_act_302 (fun y302 hy302 => ?_)
  refine lv_bipush (v := iI 21) C.1 C.2.1 dL_act_303 (by decide) ?_
  refine x_ciA (fun q h => Or.inr h) (x_runSA (As := [.int (iI y302), .int (iI 21)]) (rest := [.int (iI r296), .ref (ad 0)]) C (⟨by show _ ≤ (60 : Nat); omega, by show _ ≤ (40 * 60 : Nat); omega⟩) cw_RL_43 (MET.toA (c_L_below l D ad G ids hI σ y302 21 (by omega))) hM.x rfl rfl (Nat.le_of_ble_eq_true rfl) hl.1 dL_act_305 ⟨Nat.le_of_ble_eq_true rfl, Nat.le_of_ble_eq_true rfl⟩) hM (fun r305 s305 H1 lc1 hp hM => ?_)
  obtain ⟨hbs305, rfl⟩ := hp
  refine lv_iload_n C.1 C.2.1 dL_act_308 rfl (lv_at hl 1 rfl) ?_
  refine lv_bipush (v := iI 8) C.1 C.2.1 dL_act_309 (by decide) ?_
  refine x_ishrA C dL_act_311 (fun y311 hy311 => ?_)
  refine lv_bipush (v := iI 11) C.1 C.2.1 dL_act_312 (by decide) ?_
  refine x_ciA (fun q h => Or.inr h) (x_runSA (As := [.int (iI y311), .int (iI 11)]) (rest := [.int (iI r305), .int (iI r296), .ref (ad 0)]) C (⟨by show _ ≤ (60 : Nat); omega, by show _ ≤ (40 * 60 : Nat); omega⟩) cw_RL_43 (MET.toA (c_L_below l D ad G ids hI σ y311 11 (by omega))) hM.x rfl rfl (Nat.le_of_ble_eq_true rfl) hl.1 dL_act_314 ⟨Nat.le_of_ble_eq_true rfl, Nat.le_of_ble_eq_true rfl⟩) hM (fun r314 s314 H1 lc1 hp hM => ?_)
  obtain ⟨hbs314, rfl⟩ := hp
  refine x_tryA (As := [.int (iI r296), .int (iI r305), .int (iI r314)]) (rest := []) C hTX hTZ hM.x (hI 0 (by decide)) ⟨Nat.le_of_ble_eq_true rfl, Nat.le_of_ble_eq_true rfl⟩ cw_RL_78 (c_X11_weigh l hst D ad G ids hI σ sa r296 r305 r314 hJσ.g ⟨by omega, by omega⟩ ⟨by omega, by omega⟩ ⟨by omega, by omega⟩) rfl rfl rfl (Nat.le_of_ble_eq_true rfl) hl.1 dL_act_317 ⟨Nat.le_of_ble_eq_true rfl, Nat.le_of_ble_eq_true rfl⟩ (fun E τ ce q9 H1 lc1 hp hM hce hcv hcl => ?_) (fun r317 s317 H1 lc1 hp hM => ?_)
  · exact hnd_all hI hJσ C hr htab hTX (ra_317 hNC) ⟨hp.1, Or.inr (Or.inl hp.2.1)⟩ hM (lv_sub hl [0, 3, 4] rfl) hce hcv hcl (Nat.le_of_ble_eq_true rfl) (Nat.le_of_ble_eq_true rfl)
  obtain ⟨hc1, hzs317, hss317⟩ := hp
  obtain ⟨hJs317, f11, f1, f4⟩ := hJσ.weigh hc1 hss317
  rw [hss317, ← f1, ← f4] at hzs317
  have fen : cntE (s317 11) 64 = 0 := cntE_0 f11 64
  have fbd := evS_bd hJs317.sb (s317 1) (s317 4 0)
  refine lv_aload_n C.1 C.2.1 dL_act_320 rfl (lv_at hl 0 rfl) ?_
  refine x_ciA (fun q h => Or.inr h) (x_runVA (As := []) (rest := [.int (iI r317)]) C (⟨by show _ ≤ (60 : Nat); omega, by show _ ≤ (40 * 60 : Nat); omega⟩) cw_RL_81 (MET.toA (v_X11_evaluation l D ad G ids hI hJs317 EQS.rf)) hM.x (hI 0 (by decide)) (cx_0 ad G _) rfl rfl rfl rfl (Nat.le_of_ble_eq_true rfl) hl.1 dL_act_321 ⟨Nat.le_of_ble_eq_true rfl, Nat.le_of_ble_eq_true rfl⟩) hM (fun r321 s321 H1 lc1 hp hM => ?_)
  obtain ⟨rfl, rfl⟩ := hp
  refine x_icmp_eq C ⟨by omega, by omega⟩ ⟨by omega, by omega⟩ (tgt := 329) dL_act_324 (by decide) (fun c324 => ?_) (fun c324 => ?_)
  · refine lv_aload_n C.1 C.2.1 dL_act_329 rfl (lv_at hl 0 rfl) ?_
    refine x_ciA (fun q h => Or.inr h) (x_runVA (As := []) (rest := []) C (⟨by show _ ≤ (60 : Nat); omega, by show _ ≤ (40 * 60 : Nat); omega⟩) cw_RL_51 (MET.toA (v_X11_entries l D ad G ids hI hJs317 EQS.rf)) hM.x (hI 0 (by decide)) (cx_0 ad G _) rfl rfl rfl rfl (Nat.le_of_ble_eq_true rfl) hl.1 dL_act_330 ⟨Nat.le_of_ble_eq_true rfl, Nat.le_of_ble_eq_true rfl⟩) hM (fun r330 s330 H1 lc1 hp hM => ?_)
    obtain ⟨rfl, rfl⟩ := hp
    refine x_if_ne C ⟨by omega, by omega⟩ (tgt := 340) dL_act_333 (by decide) (fun c333 => ?_) (fun c333 => ?_)
    · exfalso; omega
    · refine lv_iconst (v := iI 1) C.1 C.2.1 dL_act_336 (by decide) ?_
      refine lv_goto (tgt := 341) C.1 C.2.1 dL_act_337 (by decide) ?_
      refine W.widen (k := 2) (n := 12) (Nat.le_of_ble_eq_true rfl) (Nat.le_of_ble_eq_true rfl) ?_
      exact x_zret C hr hM.x (by first | exact Or.inl rfl | exact Or.inr rfl | omega) ⟨rfl, hJs317⟩ dL_act_341
  · exfalso; omega
set_option maxRecDepth 100000 in
set_option maxHeartbeats 4000000 in
theorem a_setQuiet {pp : Program} {l : Launch} {ee : Env} {ss : State} {mm : MethodId} {args : Array Value} {below : List Frame} {meth : Method} {cq : Code} {D : va_G} {ad : Nat → Nat} {G : Nat → Nat} {ids : List Nat} (hI : ∀ k, k < 81 → k ∈ ids) {σ : Sg} (hJσ : JI σ) (C : Cx pp ss mm meth cq args cL_act 10 RL D G) (hr : meth.sig.returnType = some .boolean) (hst : l.stackTraces = false) {sa : Nat → Nat} (htab : cq.exceptionTable.toList = tableOf hL_act) (hNC : NCS ss) (hTX : TX sa ss) (hTZ : TZ (AN ad ids ss.heap.size) ss ss.heap) {x : Int} {H1 : Heap} {lc1 : List Loc} {ls : Array Slot}  (hM : XE D ad G ids (AN ad ids ss.heap.size) ss.heap H1 lc1 σ []) (hl : lv_has ls 10 [(0, .ref (ad 0)), (1, .int (iI x)), (2, .int (iI (σ 2 0 * σ 3 0))), (3, .int (iI (σ 4 0))), (4, .int (iI (σ 30 0)))]) : W pp l ee (rma 60 2 12) ss mm args below meth cq H1 lc1 0 0 (MQ below (QI D ad G ids (fun z s' => 1 = z ∧ JI s') ss.heap.size) args ss 2 12 (AN ad ids ss.heap.size)) (F0 mm 342 ls []) := by
  have hB := hJσ.g.1
  unfold BG at hB
  have h18 : ((MLs (σ 1) (σ 2 0) (σ 3 0) (σ 4 0)).length : Int) ≤ 18 := hJσ.l18
  have hwh := hJσ.wh
  have hsd := hJσ.sd
  have htr : 0 ≤ σ 30 0 ∧ σ 30 0 ≤ 40 := hJσ.tr
  refine lv_aload_n C.1 C.2.1 dL_act_342 rfl (lv_at hl 0 rfl) ?_
  refine lv_iload_n C.1 C.2.1 dL_act_343 rfl (lv_at hl 1 rfl) ?_
  refine lv_iconst (v := iI 4) C.1 C.2.1 dL_act_344 (by decide) ?_
  refine x_ishrA C dL_act_345 (fun y345 hy345 => ?_)
  refine lv_iconst (v := iI 2) C.1 C.2.1 dL_act_346 (by decide) ?_
  refine x_ciA (fun q h => Or.inr h) (x_runSA (As := [.int (iI y345), .int (iI 2)]) (rest := [.ref (ad 0)]) C (⟨by show _ ≤ (60 : Nat); omega, by show _ ≤ (40 * 60 : Nat); omega⟩) cw_RL_43 (MET.toA (c_L_below l D ad G ids hI σ y345 2 (by omega))) hM.x rfl rfl (Nat.le_of_ble_eq_true rfl) hl.1 dL_act_347 ⟨Nat.le_of_ble_eq_true rfl, Nat.le_of_ble_eq_true rfl⟩) hM (fun r347 s347 H1 lc1 hp hM => ?_)
  obtain ⟨hbs347, rfl⟩ := hp
  refine x_if_ne C ⟨by omega, by omega⟩ (tgt := 357) dL_act_350 (by decide) (fun c350 => ?_) (fun c350 => ?_)
  · refine lv_iconst (v := iI 0) C.1 C.2.1 dL_act_357 (by decide) ?_
    refine x_ciA (fun q h => Or.inr h) (x_runVA (As := [.int (iI 0)]) (rest := []) C (⟨by show _ ≤ (60 : Nat); omega, by show _ ≤ (40 * 60 : Nat); omega⟩) cw_RL_84 (MET.toA (c_X11_setQuiet l D ad G ids hI σ 0 (by omega) (show σ 8 0 = 0 ∨ σ 8 0 = 1 from hJσ.sb.2.2.2.2))) hM.x (hI 0 (by decide)) (cx_0 ad G _) rfl rfl rfl rfl (Nat.le_of_ble_eq_true rfl) hl.1 dL_act_358 ⟨Nat.le_of_ble_eq_true rfl, Nat.le_of_ble_eq_true rfl⟩) hM (fun r358 s358 H1 lc1 hp hM => ?_)
    obtain ⟨hzs358, hss358⟩ := hp
    have hJs358 := hJσ.setQuiet (n := 0) (by omega) hss358
    refine lv_pop C.1 C.2.1 dL_act_361 rfl ?_
    refine lv_goto (tgt := 521) C.1 C.2.1 dL_act_362 (by decide) ?_
    refine lv_goto (tgt := 599) C.1 C.2.1 dL_act_521 (by decide) ?_
    refine lv_iconst (v := iI 1) C.1 C.2.1 dL_act_599 (by decide) ?_
    refine W.widen (k := 2) (n := 12) (Nat.le_of_ble_eq_true rfl) (Nat.le_of_ble_eq_true rfl) ?_
    exact x_zret C hr hM.x (by first | exact Or.inl rfl | exact Or.inr rfl | omega) ⟨rfl, hJs358⟩ dL_act_600
  · refine lv_iconst (v := iI 1) C.1 C.2.1 dL_act_353 (by decide) ?_
    refine lv_goto (tgt := 358) C.1 C.2.1 dL_act_354 (by decide) ?_
    refine x_ciA (fun q h => Or.inr h) (x_runVA (As := [.int (iI 1)]) (rest := []) C (⟨by show _ ≤ (60 : Nat); omega, by show _ ≤ (40 * 60 : Nat); omega⟩) cw_RL_84 (MET.toA (c_X11_setQuiet l D ad G ids hI σ 1 (by omega) (show σ 8 0 = 0 ∨ σ 8 0 = 1 from hJσ.sb.2.2.2.2))) hM.x (hI 0 (by decide)) (cx_0 ad G _) rfl rfl rfl rfl (Nat.le_of_ble_eq_true rfl) hl.1 dL_act_358 ⟨Nat.le_of_ble_eq_true rfl, Nat.le_of_ble_eq_true rfl⟩) hM (fun r358 s358 H1 lc1 hp hM => ?_)
    obtain ⟨hzs358, hss358⟩ := hp
    have hJs358 := hJσ.setQuiet (n := 1) (by omega) hss358
    refine lv_pop C.1 C.2.1 dL_act_361 rfl ?_
    refine lv_goto (tgt := 521) C.1 C.2.1 dL_act_362 (by decide) ?_
    refine lv_goto (tgt := 599) C.1 C.2.1 dL_act_521 (by decide) ?_
    refine lv_iconst (v := iI 1) C.1 C.2.1 dL_act_599 (by decide) ?_
    refine W.widen (k := 2) (n := 12) (Nat.le_of_ble_eq_true rfl) (Nat.le_of_ble_eq_true rfl) ?_
    exact x_zret C hr hM.x (by first | exact Or.inl rfl | exact Or.inr rfl | omega) ⟨rfl, hJs358⟩ dL_act_600
set_option maxRecDepth 100000 in
set_option maxHeartbeats 4000000 in
theorem a_setSlots {pp : Program} {l : Launch} {ee : Env} {ss : State} {mm : MethodId} {args : Array Value} {below : List Frame} {meth : Method} {cq : Code} {D : va_G} {ad : Nat → Nat} {G : Nat → Nat} {ids : List Nat} (hI : ∀ k, k < 81 → k ∈ ids) {σ : Sg} (hJσ : JI σ) (C : Cx pp ss mm meth cq args cL_act 10 RL D G) (hr : meth.sig.returnType = some .boolean) (hst : l.stackTraces = false) {sa : Nat → Nat} (htab : cq.exceptionTable.toList = tableOf hL_act) (hNC : NCS ss) (hTX : TX sa ss) (hTZ : TZ (AN ad ids ss.heap.size) ss ss.heap) {x : Int} {H1 : Heap} {lc1 : List Loc} {ls : Array Slot}  (hM : XE D ad G ids (AN ad ids ss.heap.size) ss.heap H1 lc1 σ []) (hl : lv_has ls 10 [(0, .ref (ad 0)), (1, .int (iI x)), (2, .int (iI (σ 2 0 * σ 3 0))), (3, .int (iI (σ 4 0))), (4, .int (iI (σ 30 0)))]) : W pp l ee (rma 60 2 12) ss mm args below meth cq H1 lc1 0 0 (MQ below (QI D ad G ids (fun z s' => 1 = z ∧ JI s') ss.heap.size) args ss 2 12 (AN ad ids ss.heap.size)) (F0 mm 365 ls []) := by
  have hB := hJσ.g.1
  unfold BG at hB
  have h18 : ((MLs (σ 1) (σ 2 0) (σ 3 0) (σ 4 0)).length : Int) ≤ 18 := hJσ.l18
  have hwh := hJσ.wh
  have hsd := hJσ.sd
  have htr : 0 ≤ σ 30 0 ∧ σ 30 0 ≤ 40 := hJσ.tr
  refine lv_aload_n C.1 C.2.1 dL_act_365 rfl (lv_at hl 0 rfl) ?_
  refine lv_iload_n C.1 C.2.1 dL_act_366 rfl (lv_at hl 1 rfl) ?_
  refine lv_iconst (v := iI 4) C.1 C.2.1 dL_act_367 (by decide) ?_
  refine x_ishrA C dL_act_368 (fun y368 hy368 => ?_)
  refine lv_bipush (v := iI 65) C.1 C.2.1 dL_act_369 (by decide) ?_
  refine x_ciA (fun q h => Or.inr h) (x_runSA (As := [.int (iI y368), .int (iI 65)]) (rest := [.ref (ad 0)]) C (⟨by show _ ≤ (60 : Nat); omega, by show _ ≤ (40 * 60 : Nat); omega⟩) cw_RL_43 (MET.toA (c_L_below l D ad G ids hI σ y368 65 (by omega))) hM.x rfl rfl (Nat.le_of_ble_eq_true rfl) hl.1 dL_act_371 ⟨Nat.le_of_ble_eq_true rfl, Nat.le_of_ble_eq_true rfl⟩) hM (fun r371 s371 H1 lc1 hp hM => ?_)
  obtain ⟨hbs371, rfl⟩ := hp
  refine x_tryA (As := [.int (iI r371)]) (rest := []) C hTX hTZ hM.x (hI 0 (by decide)) ⟨Nat.le_of_ble_eq_true rfl, Nat.le_of_ble_eq_true rfl⟩ cw_RL_88 (c_X11_setSlots l hst D ad G ids hI σ sa r371 ⟨by omega, by omega⟩) rfl rfl rfl (Nat.le_of_ble_eq_true rfl) hl.1 dL_act_374 ⟨Nat.le_of_ble_eq_true rfl, Nat.le_of_ble_eq_true rfl⟩ (fun E τ ce q9 H1 lc1 hp hM hce hcv hcl => ?_) (fun r374 s374 H1 lc1 hp hM => ?_)
  · exact hnd_all hI hJσ C hr htab hTX (ra_374 hNC) ⟨hp.1, Or.inr (Or.inl hp.2.1)⟩ hM (lv_sub hl [0, 3, 4] rfl) hce hcv hcl (Nat.le_of_ble_eq_true rfl) (Nat.le_of_ble_eq_true rfl)
  obtain ⟨hc1, rfl, hss374⟩ := hp
  have hJs374 := hJσ.setSlots hc1 hss374
  refine lv_pop C.1 C.2.1 dL_act_377 rfl ?_
  refine lv_goto (tgt := 521) C.1 C.2.1 dL_act_378 (by decide) ?_
  refine lv_goto (tgt := 599) C.1 C.2.1 dL_act_521 (by decide) ?_
  refine lv_iconst (v := iI 1) C.1 C.2.1 dL_act_599 (by decide) ?_
  refine W.widen (k := 2) (n := 12) (Nat.le_of_ble_eq_true rfl) (Nat.le_of_ble_eq_true rfl) ?_
  exact x_zret C hr hM.x (by first | exact Or.inl rfl | exact Or.inr rfl | omega) ⟨rfl, hJs374⟩ dL_act_600
set_option maxRecDepth 100000 in
set_option maxHeartbeats 4000000 in
theorem a_search {pp : Program} {l : Launch} {ee : Env} {ss : State} {mm : MethodId} {args : Array Value} {below : List Frame} {meth : Method} {cq : Code} {D : va_G} {ad : Nat → Nat} {G : Nat → Nat} {ids : List Nat} (hI : ∀ k, k < 81 → k ∈ ids) {σ : Sg} (hJσ : JI σ) (C : Cx pp ss mm meth cq args cL_act 10 RL D G) (hr : meth.sig.returnType = some .boolean) (hst : l.stackTraces = false) {sa : Nat → Nat} (htab : cq.exceptionTable.toList = tableOf hL_act) (hNC : NCS ss) (hTX : TX sa ss) (hTZ : TZ (AN ad ids ss.heap.size) ss ss.heap) {x : Int} {H1 : Heap} {lc1 : List Loc} {ls : Array Slot}  (hM : XE D ad G ids (AN ad ids ss.heap.size) ss.heap H1 lc1 σ []) (hl : lv_has ls 10 [(0, .ref (ad 0)), (1, .int (iI x)), (2, .int (iI (σ 2 0 * σ 3 0))), (3, .int (iI (σ 4 0))), (4, .int (iI (σ 30 0)))]) : W pp l ee (rma 60 2 12) ss mm args below meth cq H1 lc1 0 0 (MQ below (QI D ad G ids (fun z s' => 1 = z ∧ JI s') ss.heap.size) args ss 2 12 (AN ad ids ss.heap.size)) (F0 mm 381 ls []) := by
  have hB := hJσ.g.1
  unfold BG at hB
  have h18 : ((MLs (σ 1) (σ 2 0) (σ 3 0) (σ 4 0)).length : Int) ≤ 18 := hJσ.l18
  have hwh := hJσ.wh
  have hsd := hJσ.sd
  have htr : 0 ≤ σ 30 0 ∧ σ 30 0 ≤ 40 := hJσ.tr
  refine lv_iconst (v := iI 1) C.1 C.2.1 dL_act_381 (by decide) ?_
  refine lv_iload_n C.1 C.2.1 dL_act_382 rfl (lv_at hl 1 rfl) ?_
  refine lv_iconst (v := iI 4) C.1 C.2.1 dL_act_383 (by decide) ?_
  refine x_ishrA C dL_act_384 (fun y384 hy384 => ?_)
  refine lv_iconst (v := iI 3) C.1 C.2.1 dL_act_385 (by decide) ?_
  refine x_ciA (fun q h => Or.inr h) (x_runSA (As := [.int (iI y384), .int (iI 3)]) (rest := [.int (iI 1)]) C (⟨by show _ ≤ (60 : Nat); omega, by show _ ≤ (40 * 60 : Nat); omega⟩) cw_RL_43 (MET.toA (c_L_below l D ad G ids hI σ y384 3 (by omega))) hM.x rfl rfl (Nat.le_of_ble_eq_true rfl) hl.1 dL_act_386 ⟨Nat.le_of_ble_eq_true rfl, Nat.le_of_ble_eq_true rfl⟩) hM (fun r386 s386 H1 lc1 hp hM => ?_)
  obtain ⟨hbs386, rfl⟩ := hp
  refine x_iadd C dL_act_389 ?_
  refine lv_istore (lv' := [(7, .int (iI (1 + r386))), (0, .ref (ad 0)), (1, .int (iI x)), (2, .int (iI (σ 2 0 * σ 3 0))), (3, .int (iI (σ 4 0))), (4, .int (iI (σ 30 0)))]) C.1 C.2.1 dL_act_390 hl (by decide) rfl (fun ls hl => ?_)
  refine lv_aload_n C.1 C.2.1 dL_act_392 rfl (lv_at hl 1 rfl) ?_
  refine lv_iload C.1 C.2.1 dL_act_393 (lv_at hl 0 rfl) ?_
  refine x_tryA (As := [.int (iI (1 + r386))]) (rest := []) C hTX hTZ hM.x (hI 0 (by decide)) ⟨Nat.le_of_ble_eq_true rfl, Nat.le_of_ble_eq_true rfl⟩ cw_RL_91 (c_X11_search l hst D ad G ids hI σ sa (1 + r386) hJσ.g hJσ.hl hJσ.ti ⟨by omega, by omega⟩) rfl rfl rfl (Nat.le_of_ble_eq_true rfl) hl.1 dL_act_395 ⟨Nat.le_of_ble_eq_true rfl, Nat.le_of_ble_eq_true rfl⟩ (fun E τ ce q9 H1 lc1 hp hM hce hcv hcl => ?_) (fun r395 s395 H1 lc1 hp hM => ?_)
  · exact hnd_all hI hJσ C hr htab hTX (ra_395 hNC) ⟨hp.1, hp.2.elim (fun h => Or.inr (Or.inl h.1)) (fun h => Or.inr (Or.inr h.1))⟩ hM (lv_sub hl [1, 4, 5] rfl) hce hcv hcl (Nat.le_of_ble_eq_true rfl) (Nat.le_of_ble_eq_true rfl)
  obtain ⟨hc1, hzs395, hss395⟩ := hp
  obtain ⟨hJs395, fre, fnum, ffr⟩ := hJσ.search (by omega) hc1.2 hss395
  have fe1 : s395 1 = σ 1 := ffr 1 (by decide) (by unfold NSR; omega) (by decide)
  have fe4 : s395 4 = σ 4 := ffr 4 (by decide) (by unfold NSR; omega) (by decide)
  have fe30 : s395 30 = σ 30 := ffr 30 (by decide) (by unfold NSR; omega) (by decide)
  have fcf : cfg s395 = cfg σ := cfg_of (fun r hr => ffr r (by omega) (by unfold NSR; omega) (by omega))
  rw [fnum, ← fcf, ← fe1, ← fe4] at hzs395
  have fbd := hJs395.vvb (d := (s395 20 0 : Int).toNat) (by omega)
  refine lv_istore (lv' := [(8, .int (iI r395)), (7, .int (iI (1 + r386))), (0, .ref (ad 0)), (1, .int (iI x)), (2, .int (iI (σ 2 0 * σ 3 0))), (3, .int (iI (σ 4 0))), (4, .int (iI (σ 30 0)))]) C.1 C.2.1 dL_act_398 hl (by decide) rfl (fun ls hl => ?_)
  refine lv_aload_n C.1 C.2.1 dL_act_400 rfl (lv_at hl 2 rfl) ?_
  refine x_ciA (fun q h => Or.inr h) (x_runVA (As := []) (rest := []) C (⟨by show _ ≤ (60 : Nat); omega, by show _ ≤ (40 * 60 : Nat); omega⟩) cw_RL_94 (MET.toA (v_X11_reached l D ad G ids hI hJs395 EQS.rf)) hM.x (hI 0 (by decide)) (cx_0 ad G _) rfl rfl rfl rfl (Nat.le_of_ble_eq_true rfl) hl.1 dL_act_401 ⟨Nat.le_of_ble_eq_true rfl, Nat.le_of_ble_eq_true rfl⟩) hM (fun r401 s401 H1 lc1 hp hM => ?_)
  obtain ⟨rfl, rfl⟩ := hp
  refine lv_iload C.1 C.2.1 dL_act_404 (lv_at hl 1 rfl) ?_
  refine x_icmp_gt C ⟨by omega, by omega⟩ ⟨by omega, by omega⟩ (tgt := 443) dL_act_406 (by decide) (fun c406 => ?_) (fun c406 => ?_)
  · exfalso; omega
  · refine lv_iload C.1 C.2.1 dL_act_409 (lv_at hl 0 rfl) ?_
    refine lv_aload_n C.1 C.2.1 dL_act_411 rfl (lv_at hl 2 rfl) ?_
    refine lv_aload_n C.1 C.2.1 dL_act_412 rfl (lv_at hl 2 rfl) ?_
    refine x_ciA (fun q h => Or.inr h) (x_runVA (As := []) (rest := [.ref (ad 0), .int (iI r395)]) C (⟨by show _ ≤ (60 : Nat); omega, by show _ ≤ (40 * 60 : Nat); omega⟩) cw_RL_94 (MET.toA (v_X11_reached l D ad G ids hI hJs395 EQS.rf)) hM.x (hI 0 (by decide)) (cx_0 ad G _) rfl rfl rfl rfl (Nat.le_of_ble_eq_true rfl) hl.1 dL_act_413 ⟨Nat.le_of_ble_eq_true rfl, Nat.le_of_ble_eq_true rfl⟩) hM (fun r413 s413 H1 lc1 hp hM => ?_)
    obtain ⟨rfl, rfl⟩ := hp
    refine x_ciA (fun q h => Or.inr h) (x_runVA (As := [.int (iI (s395 20 0))]) (rest := [.int (iI r395)]) C (⟨by show _ ≤ (60 : Nat); omega, by show _ ≤ (40 * 60 : Nat); omega⟩) cw_RL_97 (MET.toA (v_X11_value l D ad G ids hI hJs395 EQS.rf (s395 20 0) (by omega))) hM.x (hI 0 (by decide)) (cx_0 ad G _) rfl rfl rfl rfl (Nat.le_of_ble_eq_true rfl) hl.1 dL_act_416 ⟨Nat.le_of_ble_eq_true rfl, Nat.le_of_ble_eq_true rfl⟩) hM (fun r416 s416 H1 lc1 hp hM => ?_)
    obtain ⟨rfl, hEs416⟩ := hp
    have hJs416 := hJs395.ro hEs416
    have fg4 : s416 4 0 = σ 4 0 := (congrFun (hEs416 4 (by decide) (by decide)) 0).trans (congrFun fe4 0)
    have fg30 : s416 30 0 = σ 30 0 := (congrFun (hEs416 30 (by decide) (by decide)) 0).trans (congrFun fe30 0)
    refine x_icmp_ne C ⟨by omega, by omega⟩ ⟨by omega, by omega⟩ (tgt := 443) dL_act_419 (by decide) (fun c419 => ?_) (fun c419 => ?_)
    · exfalso; omega
    · refine lv_aload_n C.1 C.2.1 dL_act_422 rfl (lv_at hl 2 rfl) ?_
      refine x_ciA (fun q h => Or.inr h) (x_runVA (As := []) (rest := []) C (⟨by show _ ≤ (60 : Nat); omega, by show _ ≤ (40 * 60 : Nat); omega⟩) cw_RL_37 (MET.toA (v_X11_side l D ad G ids hI hJs416 EQS.rf)) hM.x (hI 0 (by decide)) (cx_0 ad G _) rfl rfl rfl rfl (Nat.le_of_ble_eq_true rfl) hl.1 dL_act_423 ⟨Nat.le_of_ble_eq_true rfl, Nat.le_of_ble_eq_true rfl⟩) hM (fun r423 s423 H1 lc1 hp hM => ?_)
      obtain ⟨rfl, rfl⟩ := hp
      refine lv_iload_n C.1 C.2.1 dL_act_426 rfl (lv_at hl 5 rfl) ?_
      refine x_icmp_ne C ⟨by omega, by omega⟩ ⟨by omega, by omega⟩ (tgt := 443) dL_act_427 (by decide) (fun c427 => ?_) (fun c427 => ?_)
      · exfalso; omega
      · refine lv_aload_n C.1 C.2.1 dL_act_430 rfl (lv_at hl 2 rfl) ?_
        refine x_ciA (fun q h => Or.inr h) (x_runVA (As := []) (rest := []) C (⟨by show _ ≤ (60 : Nat); omega, by show _ ≤ (40 * 60 : Nat); omega⟩) cw_RL_40 (MET.toA (v_X11_played l D ad G ids hI hJs416 EQS.rf)) hM.x (hI 0 (by decide)) (cx_0 ad G _) rfl rfl rfl rfl (Nat.le_of_ble_eq_true rfl) hl.1 dL_act_431 ⟨Nat.le_of_ble_eq_true rfl, Nat.le_of_ble_eq_true rfl⟩) hM (fun r431 s431 H1 lc1 hp hM => ?_)
        obtain ⟨rfl, rfl⟩ := hp
        refine lv_iload C.1 C.2.1 dL_act_434 (lv_at hl 6 rfl) ?_
        refine x_icmp_ne C ⟨by omega, by omega⟩ ⟨by omega, by omega⟩ (tgt := 443) dL_act_436 (by decide) (fun c436 => ?_) (fun c436 => ?_)
        · exfalso; omega
        · refine lv_iconst (v := iI 1) C.1 C.2.1 dL_act_439 (by decide) ?_
          refine lv_goto (tgt := 444) C.1 C.2.1 dL_act_440 (by decide) ?_
          refine W.widen (k := 2) (n := 12) (Nat.le_of_ble_eq_true rfl) (Nat.le_of_ble_eq_true rfl) ?_
          exact x_zret C hr hM.x (by first | exact Or.inl rfl | exact Or.inr rfl | omega) ⟨rfl, hJs416⟩ dL_act_444
set_option maxRecDepth 100000 in
set_option maxHeartbeats 4000000 in
theorem a_teach {pp : Program} {l : Launch} {ee : Env} {ss : State} {mm : MethodId} {args : Array Value} {below : List Frame} {meth : Method} {cq : Code} {D : va_G} {ad : Nat → Nat} {G : Nat → Nat} {ids : List Nat} (hI : ∀ k, k < 81 → k ∈ ids) {σ : Sg} (hJσ : JI σ) (C : Cx pp ss mm meth cq args cL_act 10 RL D G) (hr : meth.sig.returnType = some .boolean) (hst : l.stackTraces = false) {sa : Nat → Nat} (htab : cq.exceptionTable.toList = tableOf hL_act) (hNC : NCS ss) (hTX : TX sa ss) (hTZ : TZ (AN ad ids ss.heap.size) ss ss.heap) {x : Int} {H1 : Heap} {lc1 : List Loc} {ls : Array Slot}  (hM : XE D ad G ids (AN ad ids ss.heap.size) ss.heap H1 lc1 σ []) (hl : lv_has ls 10 [(0, .ref (ad 0)), (1, .int (iI x)), (2, .int (iI (σ 2 0 * σ 3 0))), (3, .int (iI (σ 4 0))), (4, .int (iI (σ 30 0)))]) : W pp l ee (rma 60 2 12) ss mm args below meth cq H1 lc1 0 0 (MQ below (QI D ad G ids (fun z s' => 1 = z ∧ JI s') ss.heap.size) args ss 2 12 (AN ad ids ss.heap.size)) (F0 mm 445 ls []) := by
  have hB := hJσ.g.1
  unfold BG at hB
  have h18 : ((MLs (σ 1) (σ 2 0) (σ 3 0) (σ 4 0)).length : Int) ≤ 18 := hJσ.l18
  have hwh := hJσ.wh
  have hsd := hJσ.sd
  have htr : 0 ≤ σ 30 0 ∧ σ 30 0 ≤ 40 := hJσ.tr
  refine lv_aload_n C.1 C.2.1 dL_act_445 rfl (lv_at hl 0 rfl) ?_
  refine lv_iload_n C.1 C.2.1 dL_act_446 rfl (lv_at hl 1 rfl) ?_
  refine lv_iconst (v := iI 4) C.1 C.2.1 dL_act_447 (by decide) ?_
  refine x_ishrA C dL_act_448 (fun y448 hy448 => ?_)
  refine lv_iconst (v := iI 1) C.1 C.2.1 dL_act_449 (by decide) ?_
  refine lv_aload_n C.1 C.2.1 dL_act_450 rfl (lv_at hl 0 rfl) ?_
  refine x_ciA (fun q h => Or.inr h) (x_runVA (As := []) (rest := [.int (iI 1), .int (iI y448), .ref (ad 0)]) C (⟨by show _ ≤ (60 : Nat); omega, by show _ ≤ (40 * 60 : Nat); omega⟩) cw_RL_54 (MET.toA (v_X11_moves l D ad G ids hI hJσ EQS.rf)) hM.x (hI 0 (by decide)) (cx_0 ad G _) rfl rfl rfl rfl (Nat.le_of_ble_eq_true rfl) hl.1 dL_act_451 ⟨Nat.le_of_ble_eq_true rfl, Nat.le_of_ble_eq_true rfl⟩) hM (fun r451 s451 H1 lc1 hp hM => ?_)
  obtain ⟨rfl, rfl⟩ := hp
  refine x_maxR C ⟨Nat.le_of_ble_eq_true rfl, Nat.le_of_ble_eq_true rfl⟩ ⟨Nat.le_of_ble_eq_true rfl, Nat.le_of_ble_eq_true rfl⟩ hl.1 wM_RL_64 ⟨by omega, by omega⟩ ⟨by omega, by omega⟩ (Nat.le_of_ble_eq_true rfl) dL_act_454 ?_
  refine x_ciA (fun q h => Or.inr h) (x_runSA (As := [.int (iI y448), .int (iI (max 1 ((MLs (σ 1) (σ 2 0) (σ 3 0) (σ 4 0)).length : Int)))]) (rest := [.ref (ad 0)]) C (⟨by show _ ≤ (60 : Nat); omega, by show _ ≤ (40 * 60 : Nat); omega⟩) cw_RL_43 (MET.toA (c_L_below l D ad G ids hI σ y448 (max 1 ((MLs (σ 1) (σ 2 0) (σ 3 0) (σ 4 0)).length : Int)) (by omega))) hM.x rfl rfl (Nat.le_of_ble_eq_true rfl) hl.1 dL_act_457 ⟨Nat.le_of_ble_eq_true rfl, Nat.le_of_ble_eq_true rfl⟩) hM (fun r457 s457 H1 lc1 hp hM => ?_)
  obtain ⟨hbs457, rfl⟩ := hp
  refine lv_iconst (v := iI 1) C.1 C.2.1 dL_act_460 (by decide) ?_
  refine lv_iload_n C.1 C.2.1 dL_act_461 rfl (lv_at hl 1 rfl) ?_
  refine lv_bipush (v := iI 7) C.1 C.2.1 dL_act_462 (by decide) ?_
  refine x_ishrA C dL_act_464 (fun y464 hy464 => ?_)
  refine lv_bipush (v := iI 99) C.1 C.2.1 dL_act_465 (by decide) ?_
  refine x_ciA (fun q h => Or.inr h) (x_runSA (As := [.int (iI y464), .int (iI 99)]) (rest := [.int (iI 1), .int (iI r457), .ref (ad 0)]) C (⟨by show _ ≤ (60 : Nat); omega, by show _ ≤ (40 * 60 : Nat); omega⟩) cw_RL_43 (MET.toA (c_L_below l D ad G ids hI σ y464 99 (by omega))) hM.x rfl rfl (Nat.le_of_ble_eq_true rfl) hl.1 dL_act_467 ⟨Nat.le_of_ble_eq_true rfl, Nat.le_of_ble_eq_true rfl⟩) hM (fun r467 s467 H1 lc1 hp hM => ?_)
  obtain ⟨hbs467, rfl⟩ := hp
  refine x_iadd C dL_act_470 ?_
  refine x_tryA (As := [.int (iI r457), .int (iI (1 + r467))]) (rest := []) C hTX hTZ hM.x (hI 0 (by decide)) ⟨Nat.le_of_ble_eq_true rfl, Nat.le_of_ble_eq_true rfl⟩ cw_RL_100 (c_X11_teach l hst D ad G ids hI σ sa r457 (1 + r467) hJσ.g hJσ.hl hJσ.bk ⟨by omega, by omega⟩ ⟨by omega, by omega⟩) rfl rfl rfl (Nat.le_of_ble_eq_true rfl) hl.1 dL_act_471 ⟨Nat.le_of_ble_eq_true rfl, Nat.le_of_ble_eq_true rfl⟩ (fun E τ ce q9 H1 lc1 hp hM hce hcv hcl => ?_) (fun r471 s471 H1 lc1 hp hM => ?_)
  · exact hnd_all hI hJσ C hr htab hTX (ra_471 hNC) ⟨hp.1, hp.2.elim (fun h => Or.inl h.1) (fun h => h.elim (fun h => Or.inr (Or.inl h.1)) (fun h => Or.inr (Or.inr h.1)))⟩ hM (lv_sub hl [0, 3, 4] rfl) hce hcv hcl (Nat.le_of_ble_eq_true rfl) (Nat.le_of_ble_eq_true rfl)
  obtain ⟨⟨hc1, hc2, hc3⟩, hzs471, pgs471, hpgs471, hss471⟩ := hp
  have hJs471 := hJσ.teach hc1 hc2 hc3 hpgs471 hss471
  refine lv_pop C.1 C.2.1 dL_act_474 rfl ?_
  refine lv_goto (tgt := 521) C.1 C.2.1 dL_act_475 (by decide) ?_
  refine lv_goto (tgt := 599) C.1 C.2.1 dL_act_521 (by decide) ?_
  refine lv_iconst (v := iI 1) C.1 C.2.1 dL_act_599 (by decide) ?_
  refine W.widen (k := 2) (n := 12) (Nat.le_of_ble_eq_true rfl) (Nat.le_of_ble_eq_true rfl) ?_
  exact x_zret C hr hM.x (by first | exact Or.inl rfl | exact Or.inr rfl | omega) ⟨rfl, hJs471⟩ dL_act_600
set_option maxRecDepth 100000 in
set_option maxHeartbeats 4000000 in
theorem a_playOut {pp : Program} {l : Launch} {ee : Env} {ss : State} {mm : MethodId} {args : Array Value} {below : List Frame} {meth : Method} {cq : Code} {D : va_G} {ad : Nat → Nat} {G : Nat → Nat} {ids : List Nat} (hI : ∀ k, k < 81 → k ∈ ids) {σ : Sg} (hJσ : JI σ) (C : Cx pp ss mm meth cq args cL_act 10 RL D G) (hr : meth.sig.returnType = some .boolean) (hst : l.stackTraces = false) {sa : Nat → Nat} (htab : cq.exceptionTable.toList = tableOf hL_act) (hNC : NCS ss) (hTX : TX sa ss) (hTZ : TZ (AN ad ids ss.heap.size) ss ss.heap) {x : Int} {H1 : Heap} {lc1 : List Loc} {ls : Array Slot}  (hM : XE D ad G ids (AN ad ids ss.heap.size) ss.heap H1 lc1 σ []) (hl : lv_has ls 10 [(0, .ref (ad 0)), (1, .int (iI x)), (2, .int (iI (σ 2 0 * σ 3 0))), (3, .int (iI (σ 4 0))), (4, .int (iI (σ 30 0)))]) : W pp l ee (rma 60 2 12) ss mm args below meth cq H1 lc1 0 0 (MQ below (QI D ad G ids (fun z s' => 1 = z ∧ JI s') ss.heap.size) args ss 2 12 (AN ad ids ss.heap.size)) (F0 mm 478 ls []) := by
  have hB := hJσ.g.1
  unfold BG at hB
  have h18 : ((MLs (σ 1) (σ 2 0) (σ 3 0) (σ 4 0)).length : Int) ≤ 18 := hJσ.l18
  have hwh := hJσ.wh
  have hsd := hJσ.sd
  have htr : 0 ≤ σ 30 0 ∧ σ 30 0 ≤ 40 := hJσ.tr
  refine lv_aload_n C.1 C.2.1 dL_act_478 rfl (lv_at hl 0 rfl) ?_
  refine lv_iconst (v := iI 1) C.1 C.2.1 dL_act_479 (by decide) ?_
  refine lv_iload_n C.1 C.2.1 dL_act_480 rfl (lv_at hl 1 rfl) ?_
  refine lv_iconst (v := iI 4) C.1 C.2.1 dL_act_481 (by decide) ?_
  refine x_ishrA C dL_act_482 (fun y482 hy482 => ?_)
  refine lv_iconst (v := iI 2) C.1 C.2.1 dL_act_483 (by decide) ?_
  refine x_ciA (fun q h => Or.inr h) (x_runSA (As := [.int (iI y482), .int (iI 2)]) (rest := [.int (iI 1), .ref (ad 0)]) C (⟨by show _ ≤ (60 : Nat); omega, by show _ ≤ (40 * 60 : Nat); omega⟩) cw_RL_43 (MET.toA (c_L_below l D ad G ids hI σ y482 2 (by omega))) hM.x rfl rfl (Nat.le_of_ble_eq_true rfl) hl.1 dL_act_484 ⟨Nat.le_of_ble_eq_true rfl, Nat.le_of_ble_eq_true rfl⟩) hM (fun r484 s484 H1 lc1 hp hM => ?_)
  obtain ⟨hbs484, rfl⟩ := hp
  refine x_iadd C dL_act_487 ?_
  refine lv_iconst (v := iI 1) C.1 C.2.1 dL_act_488 (by decide) ?_
  refine lv_iload_n C.1 C.2.1 dL_act_489 rfl (lv_at hl 1 rfl) ?_
  refine lv_bipush (v := iI 6) C.1 C.2.1 dL_act_490 (by decide) ?_
  refine x_ishrA C dL_act_492 (fun y492 hy492 => ?_)
  refine lv_iconst (v := iI 3) C.1 C.2.1 dL_act_493 (by decide) ?_
  refine x_ciA (fun q h => Or.inr h) (x_runSA (As := [.int (iI y492), .int (iI 3)]) (rest := [.int (iI 1), .int (iI (1 + r484)), .ref (ad 0)]) C (⟨by show _ ≤ (60 : Nat); omega, by show _ ≤ (40 * 60 : Nat); omega⟩) cw_RL_43 (MET.toA (c_L_below l D ad G ids hI σ y492 3 (by omega))) hM.x rfl rfl (Nat.le_of_ble_eq_true rfl) hl.1 dL_act_494 ⟨Nat.le_of_ble_eq_true rfl, Nat.le_of_ble_eq_true rfl⟩) hM (fun r494 s494 H1 lc1 hp hM => ?_)
  obtain ⟨hbs494, rfl⟩ := hp
  refine x_iadd C dL_act_497 ?_
  refine x_tryA (As := [.int (iI (1 + r484)), .int (iI (1 + r494))]) (rest := []) C hTX hTZ hM.x (hI 0 (by decide)) ⟨Nat.le_of_ble_eq_true rfl, Nat.le_of_ble_eq_true rfl⟩ cw_RL_103 (c_X11_playOut l hst D ad G ids hI σ sa (1 + r484) (1 + r494) hJσ.n hJσ.hl ⟨by omega, by omega⟩ ⟨by omega, by omega⟩) rfl rfl rfl (Nat.le_of_ble_eq_true rfl) hl.1 dL_act_498 ⟨Nat.le_of_ble_eq_true rfl, Nat.le_of_ble_eq_true rfl⟩ (fun E τ ce q9 H1 lc1 hp hM hce hcv hcl => ?_) (fun r498 s498 H1 lc1 hp hM => ?_)
  · exact hnd_all hI hJσ C hr htab hTX (ra_498 hNC) ⟨hp.1, Or.inr (Or.inl hp.2.1)⟩ hM (lv_sub hl [0, 3, 4] rfl) hce hcv hcl (Nat.le_of_ble_eq_true rfl) (Nat.le_of_ble_eq_true rfl)
  obtain ⟨hc1, hss498⟩ := hp
  obtain ⟨hJs498, f30, fz0, fz1⟩ := JI.po (by omega) _ hJσ hss498
  have ftr : 0 ≤ s498 30 0 ∧ s498 30 0 ≤ 40 := hJs498.tr
  refine lv_istore (lv' := [(9, .int (iI r498)), (0, .ref (ad 0)), (1, .int (iI x)), (2, .int (iI (σ 2 0 * σ 3 0))), (3, .int (iI (σ 4 0))), (4, .int (iI (σ 30 0)))]) C.1 C.2.1 dL_act_501 hl (by decide) rfl (fun ls hl => ?_)
  refine lv_iload C.1 C.2.1 dL_act_503 (lv_at hl 0 rfl) ?_
  refine x_if_eq C ⟨by omega, by omega⟩ (tgt := 515) dL_act_505 (by decide) (fun c505 => ?_) (fun c505 => ?_)
  · refine lv_iconst (v := iI 1) C.1 C.2.1 dL_act_515 (by decide) ?_
    refine lv_goto (tgt := 520) C.1 C.2.1 dL_act_516 (by decide) ?_
    refine W.widen (k := 2) (n := 12) (Nat.le_of_ble_eq_true rfl) (Nat.le_of_ble_eq_true rfl) ?_
    exact x_zret C hr hM.x (by first | exact Or.inl rfl | exact Or.inr rfl | omega) ⟨rfl, hJs498⟩ dL_act_520
  · refine lv_aload_n C.1 C.2.1 dL_act_508 rfl (lv_at hl 1 rfl) ?_
    refine x_ciA (fun q h => Or.inr h) (x_runVA (As := []) (rest := []) C (⟨by show _ ≤ (60 : Nat); omega, by show _ ≤ (40 * 60 : Nat); omega⟩) cw_RL_40 (MET.toA (v_X11_played l D ad G ids hI hJs498 EQS.rf)) hM.x (hI 0 (by decide)) (cx_0 ad G _) rfl rfl rfl rfl (Nat.le_of_ble_eq_true rfl) hl.1 dL_act_509 ⟨Nat.le_of_ble_eq_true rfl, Nat.le_of_ble_eq_true rfl⟩) hM (fun r509 s509 H1 lc1 hp hM => ?_)
    obtain ⟨rfl, rfl⟩ := hp
    refine x_if_le C ⟨by omega, by omega⟩ (tgt := 519) dL_act_512 (by decide) (fun c512 => ?_) (fun c512 => ?_)
    · exfalso; omega
    · refine lv_iconst (v := iI 1) C.1 C.2.1 dL_act_515 (by decide) ?_
      refine lv_goto (tgt := 520) C.1 C.2.1 dL_act_516 (by decide) ?_
      refine W.widen (k := 2) (n := 12) (Nat.le_of_ble_eq_true rfl) (Nat.le_of_ble_eq_true rfl) ?_
      exact x_zret C hr hM.x (by first | exact Or.inl rfl | exact Or.inr rfl | omega) ⟨rfl, hJs498⟩ dL_act_520
set_option maxRecDepth 100000 in
set_option maxHeartbeats 4000000 in
theorem c_L_act (l : Launch) (hst : l.stackTraces = false) (D : va_G) (ad : Nat → Nat) (G : Nat → Nat) (ids : List Nat) (hI : ∀ k, k < 81 → k ∈ ids) {σ : Sg} (hJσ : JI σ) (sa : Nat → Nat) (x : Int) : AME l 60 [.ref (ad 0), .int (iI x)] D ad G ids σ sa (fun z s' => 1 = z ∧ JI s') := by
  have hB := hJσ.g.1
  unfold BG at hB
  have h18 : ((MLs (σ 1) (σ 2 0) (σ 3 0) (σ 4 0)).length : Int) ≤ 18 := hJσ.l18
  have hwh := hJσ.wh
  have hsd := hJσ.sd
  have htr : 0 ≤ σ 30 0 ∧ σ 30 0 ≤ 40 := hJσ.tr
  refine x_enterAct (Nat.le_of_ble_eq_true rfl) ?_
  intro pp ee ss mm args below meth cq C htab hNC hTX hTZ hr ls hl hM
  have hM := hM.e
  have hl : lv_has ls 10 [(0, .ref (ad 0)), (1, .int (iI x))] := hl
  refine lv_aload_n C.1 C.2.1 dL_act_0 rfl (lv_at hl 0 rfl) ?_
  refine x_ciA (fun q h => Or.inr h) (x_runVA (As := []) (rest := []) C (⟨by show _ ≤ (60 : Nat); omega, by show _ ≤ (40 * 60 : Nat); omega⟩) cw_RL_30 (MET.toA (v_X11_columns l D ad G ids hI hJσ EQS.rf)) hM.x (hI 0 (by decide)) (cx_0 ad G _) rfl rfl rfl rfl (Nat.le_of_ble_eq_true rfl) hl.1 dL_act_1 ⟨Nat.le_of_ble_eq_true rfl, Nat.le_of_ble_eq_true rfl⟩) hM (fun r1 s1 H1 lc1 hp hM => ?_)
  obtain ⟨rfl, rfl⟩ := hp
  refine lv_aload_n C.1 C.2.1 dL_act_4 rfl (lv_at hl 0 rfl) ?_
  refine x_ciA (fun q h => Or.inr h) (x_runVA (As := []) (rest := [.int (iI (σ 2 0))]) C (⟨by show _ ≤ (60 : Nat); omega, by show _ ≤ (40 * 60 : Nat); omega⟩) cw_RL_34 (MET.toA (v_X11_rows l D ad G ids hI hJσ EQS.rf)) hM.x (hI 0 (by decide)) (cx_0 ad G _) rfl rfl rfl rfl (Nat.le_of_ble_eq_true rfl) hl.1 dL_act_5 ⟨Nat.le_of_ble_eq_true rfl, Nat.le_of_ble_eq_true rfl⟩) hM (fun r5 s5 H1 lc1 hp hM => ?_)
  obtain ⟨rfl, rfl⟩ := hp
  refine x_imul C dL_act_8 ?_
  refine lv_istore_n (lv' := [(2, .int (iI ((σ 2 0) * (σ 3 0)))), (0, .ref (ad 0)), (1, .int (iI x))]) C.1 C.2.1 dL_act_9 rfl hl (by decide) rfl (fun ls hl => ?_)
  refine lv_aload_n C.1 C.2.1 dL_act_10 rfl (lv_at hl 1 rfl) ?_
  refine x_ciA (fun q h => Or.inr h) (x_runVA (As := []) (rest := []) C (⟨by show _ ≤ (60 : Nat); omega, by show _ ≤ (40 * 60 : Nat); omega⟩) cw_RL_37 (MET.toA (v_X11_side l D ad G ids hI hJσ EQS.rf)) hM.x (hI 0 (by decide)) (cx_0 ad G _) rfl rfl rfl rfl (Nat.le_of_ble_eq_true rfl) hl.1 dL_act_11 ⟨Nat.le_of_ble_eq_true rfl, Nat.le_of_ble_eq_true rfl⟩) hM (fun r11 s11 H1 lc1 hp hM => ?_)
  obtain ⟨rfl, rfl⟩ := hp
  refine lv_istore_n (lv' := [(3, .int (iI (σ 4 0))), (2, .int (iI ((σ 2 0) * (σ 3 0)))), (0, .ref (ad 0)), (1, .int (iI x))]) C.1 C.2.1 dL_act_14 rfl hl (by decide) rfl (fun ls hl => ?_)
  refine lv_aload_n C.1 C.2.1 dL_act_15 rfl (lv_at hl 2 rfl) ?_
  refine x_ciA (fun q h => Or.inr h) (x_runVA (As := []) (rest := []) C (⟨by show _ ≤ (60 : Nat); omega, by show _ ≤ (40 * 60 : Nat); omega⟩) cw_RL_40 (MET.toA (v_X11_played l D ad G ids hI hJσ EQS.rf)) hM.x (hI 0 (by decide)) (cx_0 ad G _) rfl rfl rfl rfl (Nat.le_of_ble_eq_true rfl) hl.1 dL_act_16 ⟨Nat.le_of_ble_eq_true rfl, Nat.le_of_ble_eq_true rfl⟩) hM (fun r16 s16 H1 lc1 hp hM => ?_)
  obtain ⟨rfl, rfl⟩ := hp
  refine lv_istore (lv' := [(4, .int (iI (σ 30 0))), (3, .int (iI (σ 4 0))), (2, .int (iI ((σ 2 0) * (σ 3 0)))), (0, .ref (ad 0)), (1, .int (iI x))]) C.1 C.2.1 dL_act_19 hl (by decide) rfl (fun ls hl => ?_)
  refine lv_iload_n C.1 C.2.1 dL_act_21 rfl (lv_at hl 4 rfl) ?_
  refine lv_bipush (v := iI 13) C.1 C.2.1 dL_act_22 (by decide) ?_
  refine x_ciA (fun q h => Or.inr h) (x_runSA (As := [.int (iI x), .int (iI 13)]) (rest := []) C (⟨by show _ ≤ (60 : Nat); omega, by show _ ≤ (40 * 60 : Nat); omega⟩) cw_RL_43 (MET.toA (c_L_below l D ad G ids hI σ x 13 (by omega))) hM.x rfl rfl (Nat.le_of_ble_eq_true rfl) hl.1 dL_act_24 ⟨Nat.le_of_ble_eq_true rfl, Nat.le_of_ble_eq_true rfl⟩) hM (fun r24 s24 H1 lc1 hp hM => ?_)
  obtain ⟨hbs24, rfl⟩ := hp
  by_cases w27_0 : r24 = 0
  · refine lv_tableIn (off := 61) (tgt := 88) C.1 C.2.1 dL_act_27 (by rw [iI_toInt ⟨by omega, by omega⟩]; omega) (by rw [iI_toInt ⟨by omega, by omega⟩]; omega) (by rw [iI_toInt ⟨by omega, by omega⟩, w27_0]; rfl) (by decide) ?_
    exact a_setUp hI hJσ C hr hst htab hNC hTX hTZ hM (lv_sub hl [3, 4, 2, 1, 0] rfl)
  by_cases w27_1 : r24 = 1
  · refine lv_tableIn (off := 129) (tgt := 156) C.1 C.2.1 dL_act_27 (by rw [iI_toInt ⟨by omega, by omega⟩]; omega) (by rw [iI_toInt ⟨by omega, by omega⟩]; omega) (by rw [iI_toInt ⟨by omega, by omega⟩, w27_1]; rfl) (by decide) ?_
    exact a_put hI hJσ C hr hst htab hNC hTX hTZ hM (lv_sub hl [3, 4, 2, 1, 0] rfl)
  by_cases w27_2 : r24 = 2
  · refine lv_tableIn (off := 166) (tgt := 193) C.1 C.2.1 dL_act_27 (by rw [iI_toInt ⟨by omega, by omega⟩]; omega) (by rw [iI_toInt ⟨by omega, by omega⟩]; omega) (by rw [iI_toInt ⟨by omega, by omega⟩, w27_2]; rfl) (by decide) ?_
    exact a_setSide hI hJσ C hr hst htab hNC hTX hTZ hM (lv_sub hl [3, 4, 2, 1, 0] rfl)
  by_cases w27_3 : r24 = 3
  · refine lv_tableIn (off := 181) (tgt := 208) C.1 C.2.1 dL_act_27 (by rw [iI_toInt ⟨by omega, by omega⟩]; omega) (by rw [iI_toInt ⟨by omega, by omega⟩]; omega) (by rw [iI_toInt ⟨by omega, by omega⟩, w27_3]; rfl) (by decide) ?_
    exact a_play hI hJσ C hr hst htab hNC hTX hTZ hM (lv_sub hl [3, 4, 2, 1, 0] rfl)
  by_cases w27_4 : r24 = 4
  · refine lv_tableIn (off := 181) (tgt := 208) C.1 C.2.1 dL_act_27 (by rw [iI_toInt ⟨by omega, by omega⟩]; omega) (by rw [iI_toInt ⟨by omega, by omega⟩]; omega) (by rw [iI_toInt ⟨by omega, by omega⟩, w27_4]; rfl) (by decide) ?_
    exact a_play hI hJσ C hr hst htab hNC hTX hTZ hM (lv_sub hl [3, 4, 2, 1, 0] rfl)
  by_cases w27_5 : r24 = 5
  · refine lv_tableIn (off := 181) (tgt := 208) C.1 C.2.1 dL_act_27 (by rw [iI_toInt ⟨by omega, by omega⟩]; omega) (by rw [iI_toInt ⟨by omega, by omega⟩]; omega) (by rw [iI_toInt ⟨by omega, by omega⟩, w27_5]; rfl) (by decide) ?_
    exact a_play hI hJσ C hr hst htab hNC hTX hTZ hM (lv_sub hl [3, 4, 2, 1, 0] rfl)
  by_cases w27_6 : r24 = 6
  · refine lv_tableIn (off := 236) (tgt := 263) C.1 C.2.1 dL_act_27 (by rw [iI_toInt ⟨by omega, by omega⟩]; omega) (by rw [iI_toInt ⟨by omega, by omega⟩]; omega) (by rw [iI_toInt ⟨by omega, by omega⟩, w27_6]; rfl) (by decide) ?_
    exact a_back hI hJσ C hr hst htab hNC hTX hTZ hM (lv_sub hl [3, 4, 2, 1, 0] rfl)
  by_cases w27_7 : r24 = 7
  · refine lv_tableIn (off := 263) (tgt := 290) C.1 C.2.1 dL_act_27 (by rw [iI_toInt ⟨by omega, by omega⟩]; omega) (by rw [iI_toInt ⟨by omega, by omega⟩]; omega) (by rw [iI_toInt ⟨by omega, by omega⟩, w27_7]; rfl) (by decide) ?_
    exact a_weigh hI hJσ C hr hst htab hNC hTX hTZ hM (lv_sub hl [3, 4, 2, 1, 0] rfl)
  by_cases w27_8 : r24 = 8
  · refine lv_tableIn (off := 315) (tgt := 342) C.1 C.2.1 dL_act_27 (by rw [iI_toInt ⟨by omega, by omega⟩]; omega) (by rw [iI_toInt ⟨by omega, by omega⟩]; omega) (by rw [iI_toInt ⟨by omega, by omega⟩, w27_8]; rfl) (by decide) ?_
    exact a_setQuiet hI hJσ C hr hst htab hNC hTX hTZ hM (lv_sub hl [3, 4, 2, 1, 0] rfl)
  by_cases w27_9 : r24 = 9
  · refine lv_tableIn (off := 338) (tgt := 365) C.1 C.2.1 dL_act_27 (by rw [iI_toInt ⟨by omega, by omega⟩]; omega) (by rw [iI_toInt ⟨by omega, by omega⟩]; omega) (by rw [iI_toInt ⟨by omega, by omega⟩, w27_9]; rfl) (by decide) ?_
    exact a_setSlots hI hJσ C hr hst htab hNC hTX hTZ hM (lv_sub hl [3, 4, 2, 1, 0] rfl)
  by_cases w27_10 : r24 = 10
  · refine lv_tableIn (off := 354) (tgt := 381) C.1 C.2.1 dL_act_27 (by rw [iI_toInt ⟨by omega, by omega⟩]; omega) (by rw [iI_toInt ⟨by omega, by omega⟩]; omega) (by rw [iI_toInt ⟨by omega, by omega⟩, w27_10]; rfl) (by decide) ?_
    exact a_search hI hJσ C hr hst htab hNC hTX hTZ hM (lv_sub hl [3, 4, 2, 1, 0] rfl)
  by_cases w27_11 : r24 = 11
  · refine lv_tableIn (off := 418) (tgt := 445) C.1 C.2.1 dL_act_27 (by rw [iI_toInt ⟨by omega, by omega⟩]; omega) (by rw [iI_toInt ⟨by omega, by omega⟩]; omega) (by rw [iI_toInt ⟨by omega, by omega⟩, w27_11]; rfl) (by decide) ?_
    exact a_teach hI hJσ C hr hst htab hNC hTX hTZ hM (lv_sub hl [3, 4, 2, 1, 0] rfl)
  refine lv_tableOut (tgt := 478) C.1 C.2.1 dL_act_27 (by rw [iI_toInt ⟨by omega, by omega⟩]; omega) (by decide) ?_
  exact a_playOut hI hJσ C hr hst htab hNC hTX hTZ hM (lv_sub hl [3, 4, 2, 1, 0] rfl)
