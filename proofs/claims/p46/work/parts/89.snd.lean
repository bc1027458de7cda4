/-! isSound, piece by piece from its end -/
theorem pw_step {ff c : Fn} {i x : Int} (h : ff x = cntF c x i.toNat) (h0 : 0 ≤ i) : ups ff (c i) (ff (c i) + 1) x = cntF c x (i + 1).toNat := by
  rw [cntF_s c x h0, ← h]
  unfold ups
  by_cases e : x = c i
  · rw [if_pos e, if_pos e.symm, e]
  · rw [if_neg e, if_neg (Ne.symm e)]; omega
set_option maxRecDepth 100000 in
set_option maxHeartbeats 4000000 in
theorem snd_503 {pp : Program} {l : Launch} {ee : Env} {ss : State} {mm : MethodId} {args : Array Value} {below : List Frame} {meth : Method} {cq : Code} {D : va_G} {ad : Nat → Nat} {G : Nat → Nat} {ids : List Nat} (hI : ∀ k, k < 81 → k ∈ ids) {σ s1 : Sg} (hJ : JI σ) (hEs1 : EQS σ s1) (C : Cx pp ss mm meth cq args cL_isSound 8 RL D G) (hr : meth.sig.returnType = some .boolean) {E : va_W} {en : Int} {H1 : Heap} {lc1 : List Loc} {ls : Array Slot} (hen : en = cntE (σ 11) 64) (hM : XE D ad G ids (AN ad ids ss.heap.size) ss.heap H1 lc1 s1 E) (hl : lv_has ls 8 [(0, .ref (ad 0)), (4, .int (iI en))]) : W pp l ee (rma 60 1 3) ss mm args below meth cq H1 lc1 1 3 (MQ below (QI D ad G ids (fun z s' => 1 = z ∧ EQS σ s') ss.heap.size) args ss 1 3 (AN ad ids ss.heap.size)) (F0 mm 503 ls []) := by
  have hB := hJ.g.1
  unfold BG at hB
  have h18 : ((MLs (σ 1) (σ 2 0) (σ 3 0) (σ 4 0)).length : Int) ≤ 18 := hJ.l18
  have hwh := hJ.wh
  have hsd := hJ.sd
  have h9 := hJ.ti.1
  have hent := hJ.ent
  have hkey := hJ.key
  refine lv_iconst (v := iI 0) C.1 C.2.1 dL_isSound_503 (by decide) ?_
  refine lv_istore (lv' := [(5, .int (iI 0)), (0, .ref (ad 0)), (4, .int (iI en))]) C.1 C.2.1 dL_isSound_504 hl (by decide) rfl (fun ls hl => ?_)
  have L506 : ∀ (fu : Nat) (k : Int) (s2 : Sg) (H1 : Heap) (lc1 : List Loc) (ls1 : Array Slot), (0 ≤ k ∧ k ≤ σ 9 0) → (EQS σ s2) → (70 - k).toNat < fu → XE D ad G ids (AN ad ids ss.heap.size) ss.heap H1 lc1 s2 E → lv_has ls1 8 [(5, .int (iI k)), (0, .ref (ad 0)), (4, .int (iI en))] → W pp l ee (rma 60 1 3) ss mm args below meth cq H1 lc1 1 3 (MQ below (QI D ad G ids (fun z s' => 1 = z ∧ EQS σ s') ss.heap.size) args ss 1 3 (AN ad ids ss.heap.size)) (F0 mm 506 ls1 []) := by
    intro fu
    induction fu with
    | zero => intro k s2 H1 lc1 ls1 k0 hEs2 hfu; exact absurd hfu (Nat.not_lt_zero _)
    | succ fu ih506 =>
      intro k s2 H1 lc1 ls1 k0 hEs2 hfu hM hl
      refine lv_iload C.1 C.2.1 dL_isSound_506 (lv_at hl 0 rfl) ?_
      refine lv_aload_n C.1 C.2.1 dL_isSound_508 rfl (lv_at hl 1 rfl) ?_
      refine x_ciA (fun q h => Or.inr h) (x_runVA (As := []) (rest := [.int (iI k)]) C (⟨by show _ ≤ (60 : Nat); omega, by show _ ≤ (40 * 60 : Nat); omega⟩) cw_RL_141 (MET.toA (v_X11_slots l D ad G ids hI hJ hEs2  )) hM.x (hI 0 (by decide)) (cx_0 ad G _) rfl rfl rfl rfl (Nat.le_of_ble_eq_true rfl) hl.1 dL_isSound_509 ⟨Nat.le_of_ble_eq_true rfl, Nat.le_of_ble_eq_true rfl⟩) hM (fun r509 s509 H1 lc1 hp hM => ?_)
      obtain ⟨rfl, rfl⟩ := hp
      refine x_icmp_ge C ⟨by omega, by omega⟩ ⟨by omega, by omega⟩ (tgt := 613) dL_isSound_512 (by decide) (fun c512 => ?_) (fun c512 => ?_)
      · refine lv_aload_n C.1 C.2.1 dL_isSound_613 rfl (lv_at hl 1 rfl) ?_
        refine x_ciA (fun q h => Or.inr h) (x_runVA (As := []) (rest := []) C (⟨by show _ ≤ (60 : Nat); omega, by show _ ≤ (40 * 60 : Nat); omega⟩) cw_RL_51 (MET.toA (v_X11_entries l D ad G ids hI hJ hEs2  )) hM.x (hI 0 (by decide)) (cx_0 ad G _) rfl rfl rfl rfl (Nat.le_of_ble_eq_true rfl) hl.1 dL_isSound_614 ⟨Nat.le_of_ble_eq_true rfl, Nat.le_of_ble_eq_true rfl⟩) hM (fun r614 s614 H1 lc1 hp hM => ?_)
        obtain ⟨rfl, rfl⟩ := hp
        refine lv_iload C.1 C.2.1 dL_isSound_617 (lv_at hl 2 rfl) ?_
        refine x_icmp_ne C ⟨by omega, by omega⟩ ⟨by omega, by omega⟩ (tgt := 626) dL_isSound_619 (by decide) (fun c619 => ?_) (fun c619 => ?_)
        · exfalso; omega
        · refine lv_iconst (v := iI 1) C.1 C.2.1 dL_isSound_622 (by decide) ?_
          refine lv_goto (tgt := 627) C.1 C.2.1 dL_isSound_623 (by decide) ?_
          exact x_zret C hr hM.x (by first | exact Or.inl rfl | exact Or.inr rfl | omega) ⟨rfl, hEs2⟩ dL_isSound_627
      · have hm1 := Int.emod_nonneg (keyS (cfg σ) (σ 1) (σ 4 0)) (show σ 9 0 ≠ 0 by omega)
        have hm2 := Int.emod_lt_of_pos (keyS (cfg σ) (σ 1) (σ 4 0)) (show 0 < σ 9 0 by omega)
        refine lv_aload_n C.1 C.2.1 dL_isSound_515 rfl (lv_at hl 1 rfl) ?_
        refine x_clA (fun q h => Or.inr h) (x_runVA (As := []) (rest := []) C (⟨by show _ ≤ (60 : Nat); omega, by show _ ≤ (40 * 60 : Nat); omega⟩) cw_RL_162 (MET.toA (v_X11_key l D ad G ids hI hJ hEs2  )) hM.x (hI 0 (by decide)) (cx_0 ad G _) rfl rfl rfl rfl (Nat.le_of_ble_eq_true rfl) hl.1 dL_isSound_516 ⟨Nat.le_of_ble_eq_true rfl, Nat.le_of_ble_eq_true rfl⟩) hM (fun r516 s516 H1 lc1 hp hM => ?_)
        obtain ⟨rfl, rfl⟩ := hp
        refine lv_aload_n C.1 C.2.1 dL_isSound_519 rfl (lv_at hl 1 rfl) ?_
        refine x_ciA (fun q h => Or.inr h) (x_runVA (As := []) (rest := [.long (jI (keyS (cfg σ) (σ 1) (σ 4 0)))]) C (⟨by show _ ≤ (60 : Nat); omega, by show _ ≤ (40 * 60 : Nat); omega⟩) cw_RL_141 (MET.toA (v_X11_slots l D ad G ids hI hJ hEs2  )) hM.x (hI 0 (by decide)) (cx_0 ad G _) rfl rfl rfl rfl (Nat.le_of_ble_eq_true rfl) hl.1 dL_isSound_520 ⟨Nat.le_of_ble_eq_true rfl, Nat.le_of_ble_eq_true rfl⟩) hM (fun r520 s520 H1 lc1 hp hM => ?_)
        obtain ⟨rfl, rfl⟩ := hp
        refine x_i2l C ⟨by omega, by omega⟩ dL_isSound_523 ?_
        refine x_lrem2 C ⟨by omega, by omega, by omega⟩ ⟨by omega, by omega, by omega⟩ dL_isSound_524 ?_
        refine lv_iload C.1 C.2.1 dL_isSound_525 (lv_at hl 0 rfl) ?_
        refine x_i2l C ⟨by omega, by omega⟩ dL_isSound_527 ?_
        refine x_lcmp C ⟨by omega, by omega⟩ ⟨by omega, by omega⟩ dL_isSound_528 (fun z528 i528 e528 g528 => ?_)
        refine x_if_ne C ⟨by omega, by omega⟩ (tgt := 607) dL_isSound_529 (by decide) (fun c529 => ?_) (fun c529 => ?_)
        · refine x_iinc (lv1 := [(5, .int (iI (k + 1))), (0, .ref (ad 0)), (4, .int (iI en))]) C dL_isSound_607 hl (k := 0) rfl (by decide) rfl (fun ls hl => ?_)
          refine lv_goto (tgt := 506) C.1 C.2.1 dL_isSound_610 (by decide) ?_
          exact ih506 (k + 1) s2 _ _ _ (by omega) hEs2 (by omega) hM (lv_sub hl [0, 1, 2] rfl)
        · have hkk : keyS (cfg σ) (σ 1) (σ 4 0) % σ 9 0 = k := (e528.mp (by omega))
          have hk9 := hJ.kn
          rw [hkk] at hk9
          have ht := hJ.tell k
          refine lv_aload_n C.1 C.2.1 dL_isSound_532 rfl (lv_at hl 1 rfl) ?_
          refine x_ciA (fun q h => Or.inr h) (x_runVA (As := []) (rest := []) C (⟨by show _ ≤ (60 : Nat); omega, by show _ ≤ (40 * 60 : Nat); omega⟩) cw_RL_144 (MET.toA (v_X11_known l D ad G ids hI hJ hEs2  )) hM.x (hI 0 (by decide)) (cx_0 ad G _) rfl rfl rfl rfl (Nat.le_of_ble_eq_true rfl) hl.1 dL_isSound_533 ⟨Nat.le_of_ble_eq_true rfl, Nat.le_of_ble_eq_true rfl⟩) hM (fun r533 s533 H1 lc1 hp hM => ?_)
          obtain ⟨rfl, rfl⟩ := hp
          refine x_if_eq C ⟨by omega, by omega⟩ (tgt := 607) dL_isSound_536 (by decide) (fun c536 => ?_) (fun c536 => ?_)
          · refine x_iinc (lv1 := [(5, .int (iI (k + 1))), (0, .ref (ad 0)), (4, .int (iI en))]) C dL_isSound_607 hl (k := 0) rfl (by decide) rfl (fun ls hl => ?_)
            refine lv_goto (tgt := 506) C.1 C.2.1 dL_isSound_610 (by decide) ?_
            exact ih506 (k + 1) s2 _ _ _ (by omega) hEs2 (by omega) hM (lv_sub hl [0, 1, 2] rfl)
          · refine lv_aload_n C.1 C.2.1 dL_isSound_539 rfl (lv_at hl 1 rfl) ?_
            refine x_ciA (fun q h => Or.inr h) (x_runVA (As := []) (rest := []) C (⟨by show _ ≤ (60 : Nat); omega, by show _ ≤ (40 * 60 : Nat); omega⟩) cw_RL_144 (MET.toA (v_X11_known l D ad G ids hI hJ hEs2  )) hM.x (hI 0 (by decide)) (cx_0 ad G _) rfl rfl rfl rfl (Nat.le_of_ble_eq_true rfl) hl.1 dL_isSound_540 ⟨Nat.le_of_ble_eq_true rfl, Nat.le_of_ble_eq_true rfl⟩) hM (fun r540 s540 H1 lc1 hp hM => ?_)
            obtain ⟨rfl, rfl⟩ := hp
            refine lv_iconst (v := iI 3) C.1 C.2.1 dL_isSound_543 (by decide) ?_
            refine x_icmp_le C ⟨by omega, by omega⟩ ⟨by omega, by omega⟩ (tgt := 550) dL_isSound_544 (by decide) (fun c544 => ?_) (fun c544 => ?_)
            · refine lv_aload_n C.1 C.2.1 dL_isSound_550 rfl (lv_at hl 1 rfl) ?_
              refine lv_aload_n C.1 C.2.1 dL_isSound_551 rfl (lv_at hl 1 rfl) ?_
              refine x_ciA (fun q h => Or.inr h) (x_runVA (As := []) (rest := [.ref (ad 0)]) C (⟨by show _ ≤ (60 : Nat); omega, by show _ ≤ (40 * 60 : Nat); omega⟩) cw_RL_144 (MET.toA (v_X11_known l D ad G ids hI hJ hEs2  )) hM.x (hI 0 (by decide)) (cx_0 ad G _) rfl rfl rfl rfl (Nat.le_of_ble_eq_true rfl) hl.1 dL_isSound_552 ⟨Nat.le_of_ble_eq_true rfl, Nat.le_of_ble_eq_true rfl⟩) hM (fun r552 s552 H1 lc1 hp hM => ?_)
              obtain ⟨rfl, rfl⟩ := hp
              refine x_ciA (fun q h => Or.inr h) (x_runVA (As := [.int (iI (knF σ))]) (rest := []) C (⟨by show _ ≤ (60 : Nat); omega, by show _ ≤ (40 * 60 : Nat); omega⟩) cw_RL_97 (MET.toA (v_X11_value l D ad G ids hI hJ hEs2 (knF σ) (by omega))) hM.x (hI 0 (by decide)) (cx_0 ad G _) rfl rfl rfl rfl (Nat.le_of_ble_eq_true rfl) hl.1 dL_isSound_555 ⟨Nat.le_of_ble_eq_true rfl, Nat.le_of_ble_eq_true rfl⟩) hM (fun r555 s555 H1 lc1 hp hM => ?_)
              obtain ⟨rfl, hEs555⟩ := hp
              have hvv := hJ.vvb (d := (knF σ).toNat) (by omega)
              refine lv_istore (lv' := [(6, .int (iI (vv (cfg σ) ((knF σ) : Int).toNat (σ 1) (σ 4 0)))), (5, .int (iI k)), (0, .ref (ad 0)), (4, .int (iI en))]) C.1 C.2.1 dL_isSound_558 hl (by decide) rfl (fun ls hl => ?_)
              refine lv_aload_n C.1 C.2.1 dL_isSound_560 rfl (lv_at hl 2 rfl) ?_
              refine lv_iload C.1 C.2.1 dL_isSound_561 (lv_at hl 1 rfl) ?_
              refine lv_iconst (v := iI 2) C.1 C.2.1 dL_isSound_563 (by decide) ?_
              refine x_ciA (fun q h => Or.inr h) (x_runVA (As := [.int (iI k), .int (iI 2)]) (rest := []) C (⟨by show _ ≤ (60 : Nat); omega, by show _ ≤ (40 * 60 : Nat); omega⟩) cw_RL_159 (MET.toA (v_X11_ofSlot l D ad G ids hI hJ hEs555 k 2 (by omega) (by omega))) hM.x (hI 0 (by decide)) (cx_0 ad G _) rfl rfl rfl rfl (Nat.le_of_ble_eq_true rfl) hl.1 dL_isSound_564 ⟨Nat.le_of_ble_eq_true rfl, Nat.le_of_ble_eq_true rfl⟩) hM (fun r564 s564 H1 lc1 hp hM => ?_)
              obtain ⟨rfl, rfl⟩ := hp
              refine lv_istore (lv' := [(7, .int (iI (tellF σ k 2))), (6, .int (iI (vv (cfg σ) ((knF σ) : Int).toNat (σ 1) (σ 4 0)))), (5, .int (iI k)), (0, .ref (ad 0)), (4, .int (iI en))]) C.1 C.2.1 dL_isSound_567 hl (by decide) rfl (fun ls hl => ?_)
              refine lv_iload C.1 C.2.1 dL_isSound_569 (lv_at hl 0 rfl) ?_
              refine lv_iconst (v := iI 2) C.1 C.2.1 dL_isSound_571 (by decide) ?_
              refine x_icmp_eq C ⟨by omega, by omega⟩ ⟨by omega, by omega⟩ (tgt := 587) dL_isSound_572 (by decide) (fun c572 => ?_) (fun c572 => ?_)
              · refine lv_iload C.1 C.2.1 dL_isSound_587 (lv_at hl 0 rfl) ?_
                refine lv_iconst (v := iI 1) C.1 C.2.1 dL_isSound_589 (by decide) ?_
                refine x_icmp_eq C ⟨by omega, by omega⟩ ⟨by omega, by omega⟩ (tgt := 607) dL_isSound_590 (by decide) (fun c590 => ?_) (fun c590 => ?_)
                · refine x_iinc (lv1 := [(5, .int (iI (k + 1))), (7, .int (iI (tellF σ k 2))), (6, .int (iI (vv (cfg σ) ((knF σ) : Int).toNat (σ 1) (σ 4 0)))), (0, .ref (ad 0)), (4, .int (iI en))]) C dL_isSound_607 hl (k := 2) rfl (by decide) rfl (fun ls hl => ?_)
                  refine lv_goto (tgt := 506) C.1 C.2.1 dL_isSound_610 (by decide) ?_
                  exact ih506 (k + 1) s555 _ _ _ (by omega) hEs555 (by omega) hM (lv_sub hl [0, 3, 4] rfl)
                · refine lv_aload_n C.1 C.2.1 dL_isSound_593 rfl (lv_at hl 3 rfl) ?_
                  refine lv_iload C.1 C.2.1 dL_isSound_594 (lv_at hl 2 rfl) ?_
                  refine lv_iconst (v := iI 1) C.1 C.2.1 dL_isSound_596 (by decide) ?_
                  refine x_ciA (fun q h => Or.inr h) (x_runVA (As := [.int (iI k), .int (iI 1)]) (rest := []) C (⟨by show _ ≤ (60 : Nat); omega, by show _ ≤ (40 * 60 : Nat); omega⟩) cw_RL_159 (MET.toA (v_X11_ofSlot l D ad G ids hI hJ hEs555 k 1 (by omega) (by omega))) hM.x (hI 0 (by decide)) (cx_0 ad G _) rfl rfl rfl rfl (Nat.le_of_ble_eq_true rfl) hl.1 dL_isSound_597 ⟨Nat.le_of_ble_eq_true rfl, Nat.le_of_ble_eq_true rfl⟩) hM (fun r597 s597 H1 lc1 hp hM => ?_)
                  obtain ⟨rfl, rfl⟩ := hp
                  refine lv_iload C.1 C.2.1 dL_isSound_600 (lv_at hl 1 rfl) ?_
                  refine x_icmp_ge C ⟨by omega, by omega⟩ ⟨by omega, by omega⟩ (tgt := 607) dL_isSound_602 (by decide) (fun c602 => ?_) (fun c602 => ?_)
                  · refine x_iinc (lv1 := [(5, .int (iI (k + 1))), (7, .int (iI (tellF σ k 2))), (6, .int (iI (vv (cfg σ) ((knF σ) : Int).toNat (σ 1) (σ 4 0)))), (0, .ref (ad 0)), (4, .int (iI en))]) C dL_isSound_607 hl (k := 2) rfl (by decide) rfl (fun ls hl => ?_)
                    refine lv_goto (tgt := 506) C.1 C.2.1 dL_isSound_610 (by decide) ?_
                    exact ih506 (k + 1) s555 _ _ _ (by omega) hEs555 (by omega) hM (lv_sub hl [0, 3, 4] rfl)
                  · exfalso; omega
              · refine lv_aload_n C.1 C.2.1 dL_isSound_575 rfl (lv_at hl 3 rfl) ?_
                refine lv_iload C.1 C.2.1 dL_isSound_576 (lv_at hl 2 rfl) ?_
                refine lv_iconst (v := iI 1) C.1 C.2.1 dL_isSound_578 (by decide) ?_
                refine x_ciA (fun q h => Or.inr h) (x_runVA (As := [.int (iI k), .int (iI 1)]) (rest := []) C (⟨by show _ ≤ (60 : Nat); omega, by show _ ≤ (40 * 60 : Nat); omega⟩) cw_RL_159 (MET.toA (v_X11_ofSlot l D ad G ids hI hJ hEs555 k 1 (by omega) (by omega))) hM.x (hI 0 (by decide)) (cx_0 ad G _) rfl rfl rfl rfl (Nat.le_of_ble_eq_true rfl) hl.1 dL_isSound_579 ⟨Nat.le_of_ble_eq_true rfl, Nat.le_of_ble_eq_true rfl⟩) hM (fun r579 s579 H1 lc1 hp hM => ?_)
                obtain ⟨rfl, rfl⟩ := hp
                refine lv_iload C.1 C.2.1 dL_isSound_582 (lv_at hl 1 rfl) ?_
                refine x_icmp_gt C ⟨by omega, by omega⟩ ⟨by omega, by omega⟩ (tgt := 605) dL_isSound_584 (by decide) (fun c584 => ?_) (fun c584 => ?_)
                · exfalso; omega
                · refine lv_iload C.1 C.2.1 dL_isSound_587 (lv_at hl 0 rfl) ?_
                  refine lv_iconst (v := iI 1) C.1 C.2.1 dL_isSound_589 (by decide) ?_
                  refine x_icmp_eq C ⟨by omega, by omega⟩ ⟨by omega, by omega⟩ (tgt := 607) dL_isSound_590 (by decide) (fun c590 => ?_) (fun c590 => ?_)
                  · refine x_iinc (lv1 := [(5, .int (iI (k + 1))), (7, .int (iI (tellF σ k 2))), (6, .int (iI (vv (cfg σ) ((knF σ) : Int).toNat (σ 1) (σ 4 0)))), (0, .ref (ad 0)), (4, .int (iI en))]) C dL_isSound_607 hl (k := 2) rfl (by decide) rfl (fun ls hl => ?_)
                    refine lv_goto (tgt := 506) C.1 C.2.1 dL_isSound_610 (by decide) ?_
                    exact ih506 (k + 1) s555 _ _ _ (by omega) hEs555 (by omega) hM (lv_sub hl [0, 3, 4] rfl)
                  · refine lv_aload_n C.1 C.2.1 dL_isSound_593 rfl (lv_at hl 3 rfl) ?_
                    refine lv_iload C.1 C.2.1 dL_isSound_594 (lv_at hl 2 rfl) ?_
                    refine lv_iconst (v := iI 1) C.1 C.2.1 dL_isSound_596 (by decide) ?_
                    refine x_ciA (fun q h => Or.inr h) (x_runVA (As := [.int (iI k), .int (iI 1)]) (rest := []) C (⟨by show _ ≤ (60 : Nat); omega, by show _ ≤ (40 * 60 : Nat); omega⟩) cw_RL_159 (MET.toA (v_X11_ofSlot l D ad G ids hI hJ hEs555 k 1 (by omega) (by omega))) hM.x (hI 0 (by decide)) (cx_0 ad G _) rfl rfl rfl rfl (Nat.le_of_ble_eq_true rfl) hl.1 dL_isSound_597 ⟨Nat.le_of_ble_eq_true rfl, Nat.le_of_ble_eq_true rfl⟩) hM (fun r597 s597 H1 lc1 hp hM => ?_)
                    obtain ⟨rfl, rfl⟩ := hp
                    refine lv_iload C.1 C.2.1 dL_isSound_600 (lv_at hl 1 rfl) ?_
                    refine x_icmp_ge C ⟨by omega, by omega⟩ ⟨by omega, by omega⟩ (tgt := 607) dL_isSound_602 (by decide) (fun c602 => ?_) (fun c602 => ?_)
                    · refine x_iinc (lv1 := [(5, .int (iI (k + 1))), (7, .int (iI (tellF σ k 2))), (6, .int (iI (vv (cfg σ) ((knF σ) : Int).toNat (σ 1) (σ 4 0)))), (0, .ref (ad 0)), (4, .int (iI en))]) C dL_isSound_607 hl (k := 2) rfl (by decide) rfl (fun ls hl => ?_)
                      refine lv_goto (tgt := 506) C.1 C.2.1 dL_isSound_610 (by decide) ?_
                      exact ih506 (k + 1) s555 _ _ _ (by omega) hEs555 (by omega) hM (lv_sub hl [0, 3, 4] rfl)
                    · exfalso; omega
            · refine lv_goto (tgt := 607) C.1 C.2.1 dL_isSound_547 (by decide) ?_
              refine x_iinc (lv1 := [(5, .int (iI (k + 1))), (0, .ref (ad 0)), (4, .int (iI en))]) C dL_isSound_607 hl (k := 0) rfl (by decide) rfl (fun ls hl => ?_)
              refine lv_goto (tgt := 506) C.1 C.2.1 dL_isSound_610 (by decide) ?_
              exact ih506 (k + 1) s2 _ _ _ (by omega) hEs2 (by omega) hM (lv_sub hl [0, 1, 2] rfl)
  exact L506 _ 0 s1 _ _ _ (by omega) hEs1 (Nat.lt_succ_self _) hM (lv_sub hl [0, 1, 2] rfl)
set_option maxRecDepth 100000 in
set_option maxHeartbeats 4000000 in
theorem snd_400 {pp : Program} {l : Launch} {ee : Env} {ss : State} {mm : MethodId} {args : Array Value} {below : List Frame} {meth : Method} {cq : Code} {D : va_G} {ad : Nat → Nat} {G : Nat → Nat} {ids : List Nat} (hI : ∀ k, k < 81 → k ∈ ids) {σ s1 : Sg} (hJ : JI σ) (hEs1 : EQS σ s1) (C : Cx pp ss mm meth cq args cL_isSound 8 RL D G) (hr : meth.sig.returnType = some .boolean) {E : va_W} {H1 : Heap} {lc1 : List Loc} {ls : Array Slot}  (hM : XE D ad G ids (AN ad ids ss.heap.size) ss.heap H1 lc1 s1 E) (hl : lv_has ls 8 [(0, .ref (ad 0))]) : W pp l ee (rma 60 1 3) ss mm args below meth cq H1 lc1 1 3 (MQ below (QI D ad G ids (fun z s' => 1 = z ∧ EQS σ s') ss.heap.size) args ss 1 3 (AN ad ids ss.heap.size)) (F0 mm 400 ls []) := by
  have hB := hJ.g.1
  unfold BG at hB
  have h18 : ((MLs (σ 1) (σ 2 0) (σ 3 0) (σ 4 0)).length : Int) ≤ 18 := hJ.l18
  have hwh := hJ.wh
  have hsd := hJ.sd
  have h9 := hJ.ti.1
  have hent := hJ.ent
  refine lv_iconst (v := iI 0) C.1 C.2.1 dL_isSound_400 (by decide) ?_
  refine lv_istore (lv' := [(4, .int (iI 0)), (0, .ref (ad 0))]) C.1 C.2.1 dL_isSound_401 hl (by decide) rfl (fun ls hl => ?_)
  refine lv_iconst (v := iI 0) C.1 C.2.1 dL_isSound_403 (by decide) ?_
  refine lv_istore (lv' := [(5, .int (iI 0)), (4, .int (iI 0)), (0, .ref (ad 0))]) C.1 C.2.1 dL_isSound_404 hl (by decide) rfl (fun ls hl => ?_)
  have L406 : ∀ (fu : Nat) (k : Int) (en : Int) (H1 : Heap) (lc1 : List Loc) (ls1 : Array Slot), (0 ≤ k ∧ k ≤ σ 9 0) → (en = cntE (σ 11) k.toNat) → (70 - k).toNat < fu → XE D ad G ids (AN ad ids ss.heap.size) ss.heap H1 lc1 s1 E → lv_has ls1 8 [(5, .int (iI k)), (4, .int (iI en)), (0, .ref (ad 0))] → W pp l ee (rma 60 1 3) ss mm args below meth cq H1 lc1 1 3 (MQ below (QI D ad G ids (fun z s' => 1 = z ∧ EQS σ s') ss.heap.size) args ss 1 3 (AN ad ids ss.heap.size)) (F0 mm 406 ls1 []) := by
    intro fu
    induction fu with
    | zero => intro k en  H1 lc1 ls1 k0 he hfu; exact absurd hfu (Nat.not_lt_zero _)
    | succ fu ih406 =>
      intro k en  H1 lc1 ls1 k0 he hfu hM hl
      refine lv_iload C.1 C.2.1 dL_isSound_406 (lv_at hl 0 rfl) ?_
      refine lv_aload_n C.1 C.2.1 dL_isSound_408 rfl (lv_at hl 2 rfl) ?_
      refine x_ciA (fun q h => Or.inr h) (x_runVA (As := []) (rest := [.int (iI k)]) C (⟨by show _ ≤ (60 : Nat); omega, by show _ ≤ (40 * 60 : Nat); omega⟩) cw_RL_141 (MET.toA (v_X11_slots l D ad G ids hI hJ hEs1  )) hM.x (hI 0 (by decide)) (cx_0 ad G _) rfl rfl rfl rfl (Nat.le_of_ble_eq_true rfl) hl.1 dL_isSound_409 ⟨Nat.le_of_ble_eq_true rfl, Nat.le_of_ble_eq_true rfl⟩) hM (fun r409 s409 H1 lc1 hp hM => ?_)
      obtain ⟨rfl, rfl⟩ := hp
      refine x_icmp_ge C ⟨by omega, by omega⟩ ⟨by omega, by omega⟩ (tgt := 503) dL_isSound_412 (by decide) (fun c412 => ?_) (fun c412 => ?_)
      · exact snd_503 hI hJ hEs1 C hr (by rw [he, show k = σ 9 0 by omega]; exact hent.1.symm) hM (lv_sub hl [2, 1] rfl)
      · have ht := hJ.tell k
        refine lv_aload_n C.1 C.2.1 dL_isSound_415 rfl (lv_at hl 2 rfl) ?_
        refine lv_iload C.1 C.2.1 dL_isSound_416 (lv_at hl 0 rfl) ?_
        refine lv_iconst (v := iI 0) C.1 C.2.1 dL_isSound_418 (by decide) ?_
        refine x_ciA (fun q h => Or.inr h) (x_runVA (As := [.int (iI k), .int (iI 0)]) (rest := []) C (⟨by show _ ≤ (60 : Nat); omega, by show _ ≤ (40 * 60 : Nat); omega⟩) cw_RL_159 (MET.toA (v_X11_ofSlot l D ad G ids hI hJ hEs1 k 0 (by omega) (by omega))) hM.x (hI 0 (by decide)) (cx_0 ad G _) rfl rfl rfl rfl (Nat.le_of_ble_eq_true rfl) hl.1 dL_isSound_419 ⟨Nat.le_of_ble_eq_true rfl, Nat.le_of_ble_eq_true rfl⟩) hM (fun r419 s419 H1 lc1 hp hM => ?_)
        obtain ⟨rfl, rfl⟩ := hp
        have J430 : ∀ (iz : Int) (H1 : Heap) (lc1 : List Loc) (ls1 : Array Slot), ((iz = 0 ∧ tellF σ k 0 < 0) ∨ (iz = 1 ∧ 0 ≤ tellF σ k 0)) → XE D ad G ids (AN ad ids ss.heap.size) ss.heap H1 lc1 s1 E → lv_has ls1 8 [(5, .int (iI k)), (4, .int (iI en)), (0, .ref (ad 0))] → W pp l ee (rma 60 1 3) ss mm args below meth cq H1 lc1 1 3 (MQ below (QI D ad G ids (fun z s' => 1 = z ∧ EQS σ s') ss.heap.size) args ss 1 3 (AN ad ids ss.heap.size)) (F0 mm 430 ls1 [.int (iI iz)]) := by
          intro iz H1 lc1 ls1 hz hM hl
          refine lv_istore (lv' := [(6, .int (iI iz)), (5, .int (iI k)), (4, .int (iI en)), (0, .ref (ad 0))]) C.1 C.2.1 dL_isSound_430 hl (by decide) rfl (fun ls hl => ?_)
          refine lv_iload C.1 C.2.1 dL_isSound_432 (lv_at hl 2 rfl) ?_
          refine lv_iload C.1 C.2.1 dL_isSound_434 (lv_at hl 0 rfl) ?_
          have J444 : ∀ (ix : Int) (H1 : Heap) (lc1 : List Loc) (ls1 : Array Slot), (ix = iz) → XE D ad G ids (AN ad ids ss.heap.size) ss.heap H1 lc1 s1 E → lv_has ls1 8 [(6, .int (iI iz)), (5, .int (iI k)), (4, .int (iI en)), (0, .ref (ad 0))] → W pp l ee (rma 60 1 3) ss mm args below meth cq H1 lc1 1 3 (MQ below (QI D ad G ids (fun z s' => 1 = z ∧ EQS σ s') ss.heap.size) args ss 1 3 (AN ad ids ss.heap.size)) (F0 mm 444 ls1 [.int (iI ix), .int (iI en)]) := by
            intro ix H1 lc1 ls1 hx hM hl
            refine x_iadd C dL_isSound_444 ?_
            refine lv_istore (lv' := [(4, .int (iI (en + ix))), (6, .int (iI iz)), (5, .int (iI k)), (0, .ref (ad 0))]) C.1 C.2.1 dL_isSound_445 hl (by decide) rfl (fun ls hl => ?_)
            refine lv_iload C.1 C.2.1 dL_isSound_447 (lv_at hl 1 rfl) ?_
            refine x_if_eq C ⟨by omega, by omega⟩ (tgt := 497) dL_isSound_449 (by decide) (fun c449 => ?_) (fun c449 => ?_)
            · refine x_iinc (lv1 := [(5, .int (iI (k + 1))), (4, .int (iI (en + ix))), (6, .int (iI iz)), (0, .ref (ad 0))]) C dL_isSound_497 hl (k := 2) rfl (by decide) rfl (fun ls hl => ?_)
              refine lv_goto (tgt := 406) C.1 C.2.1 dL_isSound_500 (by decide) ?_
              exact ih406 (k + 1) (en + ix) _ _ _ (by omega) (by rw [cntE_s (σ 11) k0.1, ← he]; split <;> omega) (by omega) hM (lv_sub hl [0, 1, 3] rfl)
            · refine lv_aload_n C.1 C.2.1 dL_isSound_452 rfl (lv_at hl 3 rfl) ?_
              refine lv_iload C.1 C.2.1 dL_isSound_453 (lv_at hl 2 rfl) ?_
              refine lv_iconst (v := iI 0) C.1 C.2.1 dL_isSound_455 (by decide) ?_
              refine x_ciA (fun q h => Or.inr h) (x_runVA (As := [.int (iI k), .int (iI 0)]) (rest := []) C (⟨by show _ ≤ (60 : Nat); omega, by show _ ≤ (40 * 60 : Nat); omega⟩) cw_RL_159 (MET.toA (v_X11_ofSlot l D ad G ids hI hJ hEs1 k 0 (by omega) (by omega))) hM.x (hI 0 (by decide)) (cx_0 ad G _) rfl rfl rfl rfl (Nat.le_of_ble_eq_true rfl) hl.1 dL_isSound_456 ⟨Nat.le_of_ble_eq_true rfl, Nat.le_of_ble_eq_true rfl⟩) hM (fun r456 s456 H1 lc1 hp hM => ?_)
              obtain ⟨rfl, rfl⟩ := hp
              refine lv_iconst (v := iI 1) C.1 C.2.1 dL_isSound_459 (by decide) ?_
              refine x_icmp_lt C ⟨by omega, by omega⟩ ⟨by omega, by omega⟩ (tgt := 495) dL_isSound_460 (by decide) (fun c460 => ?_) (fun c460 => ?_)
              · exfalso; omega
              · refine lv_aload_n C.1 C.2.1 dL_isSound_463 rfl (lv_at hl 3 rfl) ?_
                refine lv_iload C.1 C.2.1 dL_isSound_464 (lv_at hl 2 rfl) ?_
                refine lv_iconst (v := iI 0) C.1 C.2.1 dL_isSound_466 (by decide) ?_
                refine x_ciA (fun q h => Or.inr h) (x_runVA (As := [.int (iI k), .int (iI 0)]) (rest := []) C (⟨by show _ ≤ (60 : Nat); omega, by show _ ≤ (40 * 60 : Nat); omega⟩) cw_RL_159 (MET.toA (v_X11_ofSlot l D ad G ids hI hJ hEs1 k 0 (by omega) (by omega))) hM.x (hI 0 (by decide)) (cx_0 ad G _) rfl rfl rfl rfl (Nat.le_of_ble_eq_true rfl) hl.1 dL_isSound_467 ⟨Nat.le_of_ble_eq_true rfl, Nat.le_of_ble_eq_true rfl⟩) hM (fun r467 s467 H1 lc1 hp hM => ?_)
                obtain ⟨rfl, rfl⟩ := hp
                refine lv_iconst (v := iI 4) C.1 C.2.1 dL_isSound_470 (by decide) ?_
                refine x_icmp_gt C ⟨by omega, by omega⟩ ⟨by omega, by omega⟩ (tgt := 495) dL_isSound_471 (by decide) (fun c471 => ?_) (fun c471 => ?_)
                · exfalso; omega
                · refine lv_aload_n C.1 C.2.1 dL_isSound_474 rfl (lv_at hl 3 rfl) ?_
                  refine lv_iload C.1 C.2.1 dL_isSound_475 (lv_at hl 2 rfl) ?_
                  refine lv_iconst (v := iI 2) C.1 C.2.1 dL_isSound_477 (by decide) ?_
                  refine x_ciA (fun q h => Or.inr h) (x_runVA (As := [.int (iI k), .int (iI 2)]) (rest := []) C (⟨by show _ ≤ (60 : Nat); omega, by show _ ≤ (40 * 60 : Nat); omega⟩) cw_RL_159 (MET.toA (v_X11_ofSlot l D ad G ids hI hJ hEs1 k 2 (by omega) (by omega))) hM.x (hI 0 (by decide)) (cx_0 ad G _) rfl rfl rfl rfl (Nat.le_of_ble_eq_true rfl) hl.1 dL_isSound_478 ⟨Nat.le_of_ble_eq_true rfl, Nat.le_of_ble_eq_true rfl⟩) hM (fun r478 s478 H1 lc1 hp hM => ?_)
                  obtain ⟨rfl, rfl⟩ := hp
                  refine lv_iconst (v := iI 2) C.1 C.2.1 dL_isSound_481 (by decide) ?_
                  refine x_icmp_gt C ⟨by omega, by omega⟩ ⟨by omega, by omega⟩ (tgt := 495) dL_isSound_482 (by decide) (fun c482 => ?_) (fun c482 => ?_)
                  · exfalso; omega
                  · refine lv_aload_n C.1 C.2.1 dL_isSound_485 rfl (lv_at hl 3 rfl) ?_
                    refine lv_iload C.1 C.2.1 dL_isSound_486 (lv_at hl 2 rfl) ?_
                    refine lv_iconst (v := iI 3) C.1 C.2.1 dL_isSound_488 (by decide) ?_
                    refine x_ciA (fun q h => Or.inr h) (x_runVA (As := [.int (iI k), .int (iI 3)]) (rest := []) C (⟨by show _ ≤ (60 : Nat); omega, by show _ ≤ (40 * 60 : Nat); omega⟩) cw_RL_159 (MET.toA (v_X11_ofSlot l D ad G ids hI hJ hEs1 k 3 (by omega) (by omega))) hM.x (hI 0 (by decide)) (cx_0 ad G _) rfl rfl rfl rfl (Nat.le_of_ble_eq_true rfl) hl.1 dL_isSound_489 ⟨Nat.le_of_ble_eq_true rfl, Nat.le_of_ble_eq_true rfl⟩) hM (fun r489 s489 H1 lc1 hp hM => ?_)
                    obtain ⟨rfl, rfl⟩ := hp
                    refine x_if_ge C ⟨by omega, by omega⟩ (tgt := 497) dL_isSound_492 (by decide) (fun c492 => ?_) (fun c492 => ?_)
                    · refine x_iinc (lv1 := [(5, .int (iI (k + 1))), (4, .int (iI (en + ix))), (6, .int (iI iz)), (0, .ref (ad 0))]) C dL_isSound_497 hl (k := 2) rfl (by decide) rfl (fun ls hl => ?_)
                      refine lv_goto (tgt := 406) C.1 C.2.1 dL_isSound_500 (by decide) ?_
                      exact ih406 (k + 1) (en + ix) _ _ _ (by omega) (by rw [cntE_s (σ 11) k0.1, ← he]; split <;> omega) (by omega) hM (lv_sub hl [0, 1, 3] rfl)
                    · exfalso; omega
          refine x_if_eq C ⟨by omega, by omega⟩ (tgt := 443) dL_isSound_436 (by decide) (fun c436 => ?_) (fun c436 => ?_)
          · refine lv_iconst (v := iI 0) C.1 C.2.1 dL_isSound_443 (by decide) ?_
            exact J444 0 _ _ _ (by omega) hM (lv_sub hl [0, 1, 2, 3] rfl)
          · refine lv_iconst (v := iI 1) C.1 C.2.1 dL_isSound_439 (by decide) ?_
            refine lv_goto (tgt := 444) C.1 C.2.1 dL_isSound_440 (by decide) ?_
            exact J444 1 _ _ _ (by omega) hM (lv_sub hl [0, 1, 2, 3] rfl)
        refine x_if_lt C ⟨by omega, by omega⟩ (tgt := 429) dL_isSound_422 (by decide) (fun c422 => ?_) (fun c422 => ?_)
        · refine lv_iconst (v := iI 0) C.1 C.2.1 dL_isSound_429 (by decide) ?_
          exact J430 0 _ _ _ (by omega) hM (lv_sub hl [0, 1, 2] rfl)
        · refine lv_iconst (v := iI 1) C.1 C.2.1 dL_isSound_425 (by decide) ?_
          refine lv_goto (tgt := 430) C.1 C.2.1 dL_isSound_426 (by decide) ?_
          exact J430 1 _ _ _ (by omega) hM (lv_sub hl [0, 1, 2] rfl)
  exact L406 _ 0 0 _ _ _ (by omega) rfl (Nat.lt_succ_self _) hM (lv_sub hl [0, 1, 2] rfl)
set_option maxRecDepth 100000 in
set_option maxHeartbeats 4000000 in
theorem snd_346 {pp : Program} {l : Launch} {ee : Env} {ss : State} {mm : MethodId} {args : Array Value} {below : List Frame} {meth : Method} {cq : Code} {D : va_G} {ad : Nat → Nat} {G : Nat → Nat} {ids : List Nat} (hI : ∀ k, k < 81 → k ∈ ids) {σ s1 : Sg} (hJ : JI σ) (hEs1 : EQS σ s1) (C : Cx pp ss mm meth cq args cL_isSound 8 RL D G) (hr : meth.sig.returnType = some .boolean)  {H1 : Heap} {lc1 : List Loc} {ls : Array Slot}  (hM : XE D ad G ids (AN ad ids ss.heap.size) ss.heap H1 lc1 s1 []) (hl : lv_has ls 8 [(0, .ref (ad 0)), (2, .int (iI (σ 2 0)))]) : W pp l ee (rma 60 1 3) ss mm args below meth cq H1 lc1 0 0 (MQ below (QI D ad G ids (fun z s' => 1 = z ∧ EQS σ s') ss.heap.size) args ss 1 3 (AN ad ids ss.heap.size)) (F0 mm 346 ls []) := by
  have hB := hJ.g.1
  unfold BG at hB
  have h18 : ((MLs (σ 1) (σ 2 0) (σ 3 0) (σ 4 0)).length : Int) ≤ 18 := hJ.l18
  have hwh := hJ.wh
  have hsd := hJ.sd
  have h9 := hJ.ti.1
  have hpw := hJ.pawns
  refine lv_iconst (v := iI 3) C.1 C.2.1 dL_isSound_346 (by decide) ?_
  refine x_newI C (fun q h => Or.inr h) hM 3 rfl (by decide) (Nat.le_of_ble_eq_true rfl) (Nat.le_of_ble_eq_true rfl) dL_isSound_347 (fun q347 H1 hM => ?_)
  refine lv_astore_n (lv' := [(3, .ref q347), (0, .ref (ad 0)), (2, .int (iI (σ 2 0)))]) C.1 C.2.1 dL_isSound_349 rfl hl (by decide) rfl (fun ls hl => ?_)
  refine lv_iconst (v := iI 0) C.1 C.2.1 dL_isSound_350 (by decide) ?_
  refine lv_istore (lv' := [(4, .int (iI 0)), (3, .ref q347), (0, .ref (ad 0)), (2, .int (iI (σ 2 0)))]) C.1 C.2.1 dL_isSound_351 hl (by decide) rfl (fun ls hl => ?_)
  have L353 : ∀ (fu : Nat) (i : Int) (ff : Fn) (H1 : Heap) (lc1 : List Loc) (ls1 : Array Slot), (0 ≤ i ∧ i ≤ σ 2 0 * σ 3 0) → (ff 1 = cntF (σ 1) 1 i.toNat) → (ff 2 = cntF (σ 1) 2 i.toNat) → (40 - i).toNat < fu → XE D ad G ids (AN ad ids ss.heap.size) ss.heap H1 lc1 s1 [(q347, .inl (G 0, 3, .inl (fI ff)))] → lv_has ls1 8 [(4, .int (iI i)), (3, .ref q347), (0, .ref (ad 0)), (2, .int (iI (σ 2 0)))] → W pp l ee (rma 60 1 3) ss mm args below meth cq H1 lc1 1 3 (MQ below (QI D ad G ids (fun z s' => 1 = z ∧ EQS σ s') ss.heap.size) args ss 1 3 (AN ad ids ss.heap.size)) (F0 mm 353 ls1 []) := by
    intro fu
    induction fu with
    | zero => intro i ff  H1 lc1 ls1 i0 f1 f2 hfu; exact absurd hfu (Nat.not_lt_zero _)
    | succ fu ih353 =>
      intro i ff  H1 lc1 ls1 i0 f1 f2 hfu hM hl
      refine lv_iload C.1 C.2.1 dL_isSound_353 (lv_at hl 0 rfl) ?_
      refine lv_iload_n C.1 C.2.1 dL_isSound_355 rfl (lv_at hl 3 rfl) ?_
      refine lv_aload_n C.1 C.2.1 dL_isSound_356 rfl (lv_at hl 2 rfl) ?_
      refine x_ciA (fun q h => Or.inr h) (x_runVA (As := []) (rest := [.int (iI (σ 2 0)), .int (iI i)]) C (⟨by show _ ≤ (60 : Nat); omega, by show _ ≤ (40 * 60 : Nat); omega⟩) cw_RL_34 (MET.toA (v_X11_rows l D ad G ids hI hJ hEs1  )) hM.x (hI 0 (by decide)) (cx_0 ad G _) rfl rfl rfl rfl (Nat.le_of_ble_eq_true rfl) hl.1 dL_isSound_357 ⟨Nat.le_of_ble_eq_true rfl, Nat.le_of_ble_eq_true rfl⟩) hM (fun r357 s357 H1 lc1 hp hM => ?_)
      obtain ⟨rfl, rfl⟩ := hp
      refine x_imul C dL_isSound_360 ?_
      refine x_icmp_ge C ⟨by omega, by omega⟩ ⟨by omega, by omega⟩ (tgt := 382) dL_isSound_361 (by decide) (fun c361 => ?_) (fun c361 => ?_)
      · rw [show i = σ 2 0 * σ 3 0 by omega] at f1 f2
        have b1 := cntF_bd (σ 1) 1 (σ 2 0 * σ 3 0).toNat
        have b2 := cntF_bd (σ 1) 2 (σ 2 0 * σ 3 0).toNat
        refine lv_aload_n C.1 C.2.1 dL_isSound_382 rfl (lv_at hl 1 rfl) ?_
        refine lv_iconst (v := iI 1) C.1 C.2.1 dL_isSound_383 (by decide) ?_
        refine e_ald C hM (by omega) (by omega) (by omega) dL_isSound_384 ?_
        refine lv_bipush (v := iI 6) C.1 C.2.1 dL_isSound_385 (by decide) ?_
        refine x_icmp_gt C ⟨by omega, by omega⟩ ⟨by omega, by omega⟩ (tgt := 398) dL_isSound_387 (by decide) (fun c387 => ?_) (fun c387 => ?_)
        · exfalso; omega
        · refine lv_aload_n C.1 C.2.1 dL_isSound_390 rfl (lv_at hl 1 rfl) ?_
          refine lv_iconst (v := iI 2) C.1 C.2.1 dL_isSound_391 (by decide) ?_
          refine e_ald C hM (by omega) (by omega) (by omega) dL_isSound_392 ?_
          refine lv_bipush (v := iI 6) C.1 C.2.1 dL_isSound_393 (by decide) ?_
          refine x_icmp_le C ⟨by omega, by omega⟩ ⟨by omega, by omega⟩ (tgt := 400) dL_isSound_395 (by decide) (fun c395 => ?_) (fun c395 => ?_)
          · exact snd_400 hI hJ hEs1 C hr  hM (lv_sub hl [2] rfl)
          · exfalso; omega
      · refine lv_aload_n C.1 C.2.1 dL_isSound_364 rfl (lv_at hl 1 rfl) ?_
        refine lv_aload_n C.1 C.2.1 dL_isSound_365 rfl (lv_at hl 2 rfl) ?_
        refine lv_iload C.1 C.2.1 dL_isSound_366 (lv_at hl 0 rfl) ?_
        refine x_ciA (fun q h => Or.inr h) (x_runVA (As := [.int (iI i)]) (rest := [.ref q347]) C (⟨by show _ ≤ (60 : Nat); omega, by show _ ≤ (40 * 60 : Nat); omega⟩) cw_RL_118 (MET.toA (v_X11_at l D ad G ids hI hJ hEs1 i (by omega))) hM.x (hI 0 (by decide)) (cx_0 ad G _) rfl rfl rfl rfl (Nat.le_of_ble_eq_true rfl) hl.1 dL_isSound_368 ⟨Nat.le_of_ble_eq_true rfl, Nat.le_of_ble_eq_true rfl⟩) hM (fun r368 s368 H1 lc1 hp hM => ?_)
        obtain ⟨rfl, rfl⟩ := hp
        have hbc := hJ.g.2.1 i
        refine lv_dup2_11 C.1 C.2.1 dL_isSound_371 rfl rfl ?_
        refine e_ald C hM (by omega) (by omega) (by omega) dL_isSound_372 ?_
        refine lv_iconst (v := iI 1) C.1 C.2.1 dL_isSound_373 (by decide) ?_
        refine x_iadd C dL_isSound_374 ?_
        refine e_ast C hM (by omega) (by omega) (by omega) dL_isSound_375 (fun H1 lc1 hM => ?_)
        refine x_iinc (lv1 := [(4, .int (iI (i + 1))), (3, .ref q347), (0, .ref (ad 0)), (2, .int (iI (σ 2 0)))]) C dL_isSound_376 hl (k := 0) rfl (by decide) rfl (fun ls hl => ?_)
        refine lv_goto (tgt := 353) C.1 C.2.1 dL_isSound_379 (by decide) ?_
        exact ih353 (i + 1) (ups ff (σ 1 i) ((ff (σ 1 i)) + 1)) _ _ _ (by omega) (pw_step f1 i0.1) (pw_step f2 i0.1) (by omega) hM (lv_sub hl [0, 1, 2, 3] rfl)
  exact L353 _ 0 (fun _ => 0) _ _ _ (by omega) rfl rfl (Nat.lt_succ_self _) hM (lv_sub hl [0, 1, 2, 3] rfl)
set_option maxRecDepth 100000 in
set_option maxHeartbeats 4000000 in
theorem snd_272 {pp : Program} {l : Launch} {ee : Env} {ss : State} {mm : MethodId} {args : Array Value} {below : List Frame} {meth : Method} {cq : Code} {D : va_G} {ad : Nat → Nat} {G : Nat → Nat} {ids : List Nat} (hI : ∀ k, k < 81 → k ∈ ids) {σ s1 : Sg} (hJ : JI σ) (hEs1 : EQS σ s1) (C : Cx pp ss mm meth cq args cL_isSound 8 RL D G) (hr : meth.sig.returnType = some .boolean)  {H1 : Heap} {lc1 : List Loc} {ls : Array Slot}  (hM : XE D ad G ids (AN ad ids ss.heap.size) ss.heap H1 lc1 s1 []) (hl : lv_has ls 8 [(0, .ref (ad 0)), (2, .int (iI (σ 2 0)))]) : W pp l ee (rma 60 1 3) ss mm args below meth cq H1 lc1 0 0 (MQ below (QI D ad G ids (fun z s' => 1 = z ∧ EQS σ s') ss.heap.size) args ss 1 3 (AN ad ids ss.heap.size)) (F0 mm 272 ls []) := by
  have hB := hJ.g.1
  unfold BG at hB
  have h18 : ((MLs (σ 1) (σ 2 0) (σ 3 0) (σ 4 0)).length : Int) ≤ 18 := hJ.l18
  have hwh := hJ.wh
  have hsd := hJ.sd
  have h9 := hJ.ti.1
  have hent := hJ.ent
  have htl : (tlF σ = -1 ∨ (0 ≤ tlF σ ∧ tlF σ < ((MLs (σ 1) (σ 2 0) (σ 3 0) (σ 4 0)).length : Int))) ∧ ((MLs (σ 1) (σ 2 0) (σ 3 0) (σ 4 0)) = [] → tlF σ = -1) := hJ.told
  have hcn := hJ.cnt
  unfold CNT at hcn
  have htr : 0 ≤ σ 30 0 ∧ σ 30 0 ≤ 40 := hJ.tr
  have h27 := hJ.bk.1
  have hk9 := hJ.kn
  refine lv_aload_n C.1 C.2.1 dL_isSound_272 rfl (lv_at hl 0 rfl) ?_
  refine x_ciA (fun q h => Or.inr h) (x_runVA (As := []) (rest := []) C (⟨by show _ ≤ (60 : Nat); omega, by show _ ≤ (40 * 60 : Nat); omega⟩) cw_RL_138 (MET.toA (v_X11_told l D ad G ids hI hJ hEs1  )) hM.x (hI 0 (by decide)) (cx_0 ad G _) rfl rfl rfl rfl (Nat.le_of_ble_eq_true rfl) hl.1 dL_isSound_273 ⟨Nat.le_of_ble_eq_true rfl, Nat.le_of_ble_eq_true rfl⟩) hM (fun r273 s273 H1 lc1 hp hM => ?_)
  obtain ⟨rfl, rfl⟩ := hp
  refine lv_aload_n C.1 C.2.1 dL_isSound_276 rfl (lv_at hl 0 rfl) ?_
  refine x_ciA (fun q h => Or.inr h) (x_runVA (As := []) (rest := [.int (iI (tlF σ))]) C (⟨by show _ ≤ (60 : Nat); omega, by show _ ≤ (40 * 60 : Nat); omega⟩) cw_RL_54 (MET.toA (v_X11_moves l D ad G ids hI hJ hEs1  )) hM.x (hI 0 (by decide)) (cx_0 ad G _) rfl rfl rfl rfl (Nat.le_of_ble_eq_true rfl) hl.1 dL_isSound_277 ⟨Nat.le_of_ble_eq_true rfl, Nat.le_of_ble_eq_true rfl⟩) hM (fun r277 s277 H1 lc1 hp hM => ?_)
  obtain ⟨rfl, rfl⟩ := hp
  refine x_icmp_lt C ⟨by omega, by omega⟩ ⟨by omega, by omega⟩ (tgt := 285) dL_isSound_280 (by decide) (fun c280 => ?_) (fun c280 => ?_)
  · refine lv_aload_n C.1 C.2.1 dL_isSound_285 rfl (lv_at hl 0 rfl) ?_
    refine x_ciA (fun q h => Or.inr h) (x_runVA (As := []) (rest := []) C (⟨by show _ ≤ (60 : Nat); omega, by show _ ≤ (40 * 60 : Nat); omega⟩) cw_RL_51 (MET.toA (v_X11_entries l D ad G ids hI hJ hEs1  )) hM.x (hI 0 (by decide)) (cx_0 ad G _) rfl rfl rfl rfl (Nat.le_of_ble_eq_true rfl) hl.1 dL_isSound_286 ⟨Nat.le_of_ble_eq_true rfl, Nat.le_of_ble_eq_true rfl⟩) hM (fun r286 s286 H1 lc1 hp hM => ?_)
    obtain ⟨rfl, rfl⟩ := hp
    refine lv_aload_n C.1 C.2.1 dL_isSound_289 rfl (lv_at hl 0 rfl) ?_
    refine x_ciA (fun q h => Or.inr h) (x_runVA (As := []) (rest := [.int (iI (cntE (σ 11) 64))]) C (⟨by show _ ≤ (60 : Nat); omega, by show _ ≤ (40 * 60 : Nat); omega⟩) cw_RL_141 (MET.toA (v_X11_slots l D ad G ids hI hJ hEs1  )) hM.x (hI 0 (by decide)) (cx_0 ad G _) rfl rfl rfl rfl (Nat.le_of_ble_eq_true rfl) hl.1 dL_isSound_290 ⟨Nat.le_of_ble_eq_true rfl, Nat.le_of_ble_eq_true rfl⟩) hM (fun r290 s290 H1 lc1 hp hM => ?_)
    obtain ⟨rfl, rfl⟩ := hp
    refine x_icmp_gt C ⟨by omega, by omega⟩ ⟨by omega, by omega⟩ (tgt := 344) dL_isSound_293 (by decide) (fun c293 => ?_) (fun c293 => ?_)
    · exfalso; omega
    · refine lv_aload_n C.1 C.2.1 dL_isSound_296 rfl (lv_at hl 0 rfl) ?_
      refine x_ciA (fun q h => Or.inr h) (x_runVA (As := []) (rest := []) C (⟨by show _ ≤ (60 : Nat); omega, by show _ ≤ (40 * 60 : Nat); omega⟩) cw_RL_144 (MET.toA (v_X11_known l D ad G ids hI hJ hEs1  )) hM.x (hI 0 (by decide)) (cx_0 ad G _) rfl rfl rfl rfl (Nat.le_of_ble_eq_true rfl) hl.1 dL_isSound_297 ⟨Nat.le_of_ble_eq_true rfl, Nat.le_of_ble_eq_true rfl⟩) hM (fun r297 s297 H1 lc1 hp hM => ?_)
      obtain ⟨rfl, rfl⟩ := hp
      refine lv_iconst (v := iI 4) C.1 C.2.1 dL_isSound_300 (by decide) ?_
      refine x_icmp_gt C ⟨by omega, by omega⟩ ⟨by omega, by omega⟩ (tgt := 344) dL_isSound_301 (by decide) (fun c301 => ?_) (fun c301 => ?_)
      · exfalso; omega
      · refine lv_aload_n C.1 C.2.1 dL_isSound_304 rfl (lv_at hl 0 rfl) ?_
        refine x_ciA (fun q h => Or.inr h) (x_runVA (As := []) (rest := []) C (⟨by show _ ≤ (60 : Nat); omega, by show _ ≤ (40 * 60 : Nat); omega⟩) cw_RL_147 (MET.toA (v_X11_hits l D ad G ids hI hJ hEs1  )) hM.x (hI 0 (by decide)) (cx_0 ad G _) rfl rfl rfl rfl (Nat.le_of_ble_eq_true rfl) hl.1 dL_isSound_305 ⟨Nat.le_of_ble_eq_true rfl, Nat.le_of_ble_eq_true rfl⟩) hM (fun r305 s305 H1 lc1 hp hM => ?_)
        obtain ⟨rfl, rfl⟩ := hp
        refine lv_aload_n C.1 C.2.1 dL_isSound_308 rfl (lv_at hl 0 rfl) ?_
        refine x_ciA (fun q h => Or.inr h) (x_runVA (As := []) (rest := [.int (iI (σ 22 0))]) C (⟨by show _ ≤ (60 : Nat); omega, by show _ ≤ (40 * 60 : Nat); omega⟩) cw_RL_150 (MET.toA (v_X11_nodes l D ad G ids hI hJ hEs1  )) hM.x (hI 0 (by decide)) (cx_0 ad G _) rfl rfl rfl rfl (Nat.le_of_ble_eq_true rfl) hl.1 dL_isSound_309 ⟨Nat.le_of_ble_eq_true rfl, Nat.le_of_ble_eq_true rfl⟩) hM (fun r309 s309 H1 lc1 hp hM => ?_)
        obtain ⟨rfl, rfl⟩ := hp
        refine x_icmp_gt C ⟨by omega, by omega⟩ ⟨by omega, by omega⟩ (tgt := 344) dL_isSound_312 (by decide) (fun c312 => ?_) (fun c312 => ?_)
        · exfalso; omega
        · refine lv_aload_n C.1 C.2.1 dL_isSound_315 rfl (lv_at hl 0 rfl) ?_
          refine x_ciA (fun q h => Or.inr h) (x_runVA (As := []) (rest := []) C (⟨by show _ ≤ (60 : Nat); omega, by show _ ≤ (40 * 60 : Nat); omega⟩) cw_RL_153 (MET.toA (v_X11_cuts l D ad G ids hI hJ hEs1  )) hM.x (hI 0 (by decide)) (cx_0 ad G _) rfl rfl rfl rfl (Nat.le_of_ble_eq_true rfl) hl.1 dL_isSound_316 ⟨Nat.le_of_ble_eq_true rfl, Nat.le_of_ble_eq_true rfl⟩) hM (fun r316 s316 H1 lc1 hp hM => ?_)
          obtain ⟨rfl, rfl⟩ := hp
          refine lv_aload_n C.1 C.2.1 dL_isSound_319 rfl (lv_at hl 0 rfl) ?_
          refine x_ciA (fun q h => Or.inr h) (x_runVA (As := []) (rest := [.int (iI (σ 23 0))]) C (⟨by show _ ≤ (60 : Nat); omega, by show _ ≤ (40 * 60 : Nat); omega⟩) cw_RL_150 (MET.toA (v_X11_nodes l D ad G ids hI hJ hEs1  )) hM.x (hI 0 (by decide)) (cx_0 ad G _) rfl rfl rfl rfl (Nat.le_of_ble_eq_true rfl) hl.1 dL_isSound_320 ⟨Nat.le_of_ble_eq_true rfl, Nat.le_of_ble_eq_true rfl⟩) hM (fun r320 s320 H1 lc1 hp hM => ?_)
          obtain ⟨rfl, rfl⟩ := hp
          refine x_icmp_gt C ⟨by omega, by omega⟩ ⟨by omega, by omega⟩ (tgt := 344) dL_isSound_323 (by decide) (fun c323 => ?_) (fun c323 => ?_)
          · exfalso; omega
          · refine lv_aload_n C.1 C.2.1 dL_isSound_326 rfl (lv_at hl 0 rfl) ?_
            refine x_ciA (fun q h => Or.inr h) (x_runVA (As := []) (rest := []) C (⟨by show _ ≤ (60 : Nat); omega, by show _ ≤ (40 * 60 : Nat); omega⟩) cw_RL_156 (MET.toA (v_X11_pages l D ad G ids hI hJ hEs1  )) hM.x (hI 0 (by decide)) (cx_0 ad G _) rfl rfl rfl rfl (Nat.le_of_ble_eq_true rfl) hl.1 dL_isSound_327 ⟨Nat.le_of_ble_eq_true rfl, Nat.le_of_ble_eq_true rfl⟩) hM (fun r327 s327 H1 lc1 hp hM => ?_)
            obtain ⟨rfl, rfl⟩ := hp
            refine lv_bipush (v := iI 30) C.1 C.2.1 dL_isSound_330 (by decide) ?_
            refine x_icmp_gt C ⟨by omega, by omega⟩ ⟨by omega, by omega⟩ (tgt := 344) dL_isSound_332 (by decide) (fun c332 => ?_) (fun c332 => ?_)
            · exfalso; omega
            · refine lv_aload_n C.1 C.2.1 dL_isSound_335 rfl (lv_at hl 0 rfl) ?_
              refine x_ciA (fun q h => Or.inr h) (x_runVA (As := []) (rest := []) C (⟨by show _ ≤ (60 : Nat); omega, by show _ ≤ (40 * 60 : Nat); omega⟩) cw_RL_40 (MET.toA (v_X11_played l D ad G ids hI hJ hEs1  )) hM.x (hI 0 (by decide)) (cx_0 ad G _) rfl rfl rfl rfl (Nat.le_of_ble_eq_true rfl) hl.1 dL_isSound_336 ⟨Nat.le_of_ble_eq_true rfl, Nat.le_of_ble_eq_true rfl⟩) hM (fun r336 s336 H1 lc1 hp hM => ?_)
              obtain ⟨rfl, rfl⟩ := hp
              refine lv_bipush (v := iI 40) C.1 C.2.1 dL_isSound_339 (by decide) ?_
              refine x_icmp_le C ⟨by omega, by omega⟩ ⟨by omega, by omega⟩ (tgt := 346) dL_isSound_341 (by decide) (fun c341 => ?_) (fun c341 => ?_)
              · exact snd_346 hI hJ hEs1 C hr  hM (lv_sub hl [0, 1] rfl)
              · exfalso; omega
  · exfalso; omega
set_option maxRecDepth 100000 in
set_option maxHeartbeats 4000000 in
theorem snd_204 {pp : Program} {l : Launch} {ee : Env} {ss : State} {mm : MethodId} {args : Array Value} {below : List Frame} {meth : Method} {cq : Code} {D : va_G} {ad : Nat → Nat} {G : Nat → Nat} {ids : List Nat} (hI : ∀ k, k < 81 → k ∈ ids) {σ s1 : Sg} (hJ : JI σ) (hEs1 : EQS σ s1) (C : Cx pp ss mm meth cq args cL_isSound 8 RL D G) (hr : meth.sig.returnType = some .boolean)  {H1 : Heap} {lc1 : List Loc} {ls : Array Slot}  (hM : XE D ad G ids (AN ad ids ss.heap.size) ss.heap H1 lc1 s1 []) (hl : lv_has ls 8 [(0, .ref (ad 0)), (2, .int (iI (σ 2 0)))]) : W pp l ee (rma 60 1 3) ss mm args below meth cq H1 lc1 0 0 (MQ below (QI D ad G ids (fun z s' => 1 = z ∧ EQS σ s') ss.heap.size) args ss 1 3 (AN ad ids ss.heap.size)) (F0 mm 204 ls []) := by
  have hB := hJ.g.1
  unfold BG at hB
  have h18 : ((MLs (σ 1) (σ 2 0) (σ 3 0) (σ 4 0)).length : Int) ≤ 18 := hJ.l18
  have hwh := hJ.wh
  have hsd := hJ.sd
  have h9 := hJ.ti.1
  have htl : (tlF σ = -1 ∨ (0 ≤ tlF σ ∧ tlF σ < ((MLs (σ 1) (σ 2 0) (σ 3 0) (σ 4 0)).length : Int))) ∧ ((MLs (σ 1) (σ 2 0) (σ 3 0) (σ 4 0)) = [] → tlF σ = -1) := hJ.told
  have hw1 : waysF (cfg σ) (1 : Int).toNat (σ 1) (σ 4 0) = ((MLs (σ 1) (σ 2 0) (σ 3 0) (σ 4 0)).length : Int) := waysF_1 _ _ _
  have hw0 : waysF (cfg σ) (0 : Int).toNat (σ 1) (σ 4 0) = 1 := rfl
  have hlen : (MLs (σ 1) (σ 2 0) (σ 3 0) (σ 4 0)) = [] ↔ ((MLs (σ 1) (σ 2 0) (σ 3 0) (σ 4 0)).length : Int) = 0 := ⟨fun h => by rw [h]; rfl, fun h => List.eq_nil_of_length_eq_zero (by omega)⟩
  have hlz : (if (MLs (σ 1) (σ 2 0) (σ 3 0) (σ 4 0)) = [] then (1 : Int) else 0) = if ((MLs (σ 1) (σ 2 0) (σ 3 0) (σ 4 0)).length : Int) = 0 then 1 else 0 := by by_cases e : (MLs (σ 1) (σ 2 0) (σ 3 0) (σ 4 0)) = [] <;> simp [e]
  have hv2 : (MLs (σ 1) (σ 2 0) (σ 3 0) (σ 4 0)) = [] → vv (cfg σ) (2 : Int).toNat (σ 1) (σ 4 0) = -1002 := fun e => if_pos e
  refine lv_aload_n C.1 C.2.1 dL_isSound_204 rfl (lv_at hl 0 rfl) ?_
  refine x_ciA (fun q h => Or.inr h) (x_runVA (As := []) (rest := []) C (⟨by show _ ≤ (60 : Nat); omega, by show _ ≤ (40 * 60 : Nat); omega⟩) cw_RL_131 (MET.toA (v_X11_isLost l D ad G ids hI hJ hEs1  )) hM.x (hI 0 (by decide)) (cx_0 ad G _) rfl rfl rfl rfl (Nat.le_of_ble_eq_true rfl) hl.1 dL_isSound_205 ⟨Nat.le_of_ble_eq_true rfl, Nat.le_of_ble_eq_true rfl⟩) hM (fun r205 s205 H1 lc1 hp hM => ?_)
  obtain ⟨rfl, rfl⟩ := hp
  refine lv_aload_n C.1 C.2.1 dL_isSound_208 rfl (lv_at hl 0 rfl) ?_
  refine x_ciA (fun q h => Or.inr h) (x_runVA (As := []) (rest := [.int (iI (if (MLs (σ 1) (σ 2 0) (σ 3 0) (σ 4 0)) = [] then 1 else 0))]) C (⟨by show _ ≤ (60 : Nat); omega, by show _ ≤ (40 * 60 : Nat); omega⟩) cw_RL_54 (MET.toA (v_X11_moves l D ad G ids hI hJ hEs1  )) hM.x (hI 0 (by decide)) (cx_0 ad G _) rfl rfl rfl rfl (Nat.le_of_ble_eq_true rfl) hl.1 dL_isSound_209 ⟨Nat.le_of_ble_eq_true rfl, Nat.le_of_ble_eq_true rfl⟩) hM (fun r209 s209 H1 lc1 hp hM => ?_)
  obtain ⟨rfl, rfl⟩ := hp
  have J220 : ∀ (ix : Int) (H1 : Heap) (lc1 : List Loc) (ls1 : Array Slot), (ix = if ((MLs (σ 1) (σ 2 0) (σ 3 0) (σ 4 0)).length : Int) = 0 then 1 else 0) → XE D ad G ids (AN ad ids ss.heap.size) ss.heap H1 lc1 s1 [] → lv_has ls1 8 [(0, .ref (ad 0)), (2, .int (iI (σ 2 0)))] → W pp l ee (rma 60 1 3) ss mm args below meth cq H1 lc1 0 0 (MQ below (QI D ad G ids (fun z s' => 1 = z ∧ EQS σ s') ss.heap.size) args ss 1 3 (AN ad ids ss.heap.size)) (F0 mm 220 ls1 [.int (iI ix), .int (iI (if (MLs (σ 1) (σ 2 0) (σ 3 0) (σ 4 0)) = [] then 1 else 0))]) := by
    intro ix H1 lc1 ls1 hx hM hl
    refine x_icmp_ne C ⟨by omega, by omega⟩ ⟨by omega, by omega⟩ (tgt := 244) dL_isSound_220 (by decide) (fun c220 => ?_) (fun c220 => ?_)
    · exfalso; omega
    · refine lv_aload_n C.1 C.2.1 dL_isSound_223 rfl (lv_at hl 0 rfl) ?_
      refine lv_iconst (v := iI 1) C.1 C.2.1 dL_isSound_224 (by decide) ?_
      refine x_ciA (fun q h => Or.inr h) (x_runVA (As := [.int (iI 1)]) (rest := []) C (⟨by show _ ≤ (60 : Nat); omega, by show _ ≤ (40 * 60 : Nat); omega⟩) cw_RL_135 (MET.toA (v_X11_ways l D ad G ids hI hJ hEs1 1 (by omega))) hM.x (hI 0 (by decide)) (cx_0 ad G _) rfl rfl rfl rfl (Nat.le_of_ble_eq_true rfl) hl.1 dL_isSound_225 ⟨Nat.le_of_ble_eq_true rfl, Nat.le_of_ble_eq_true rfl⟩) hM (fun r225 s225 H1 lc1 hp hM => ?_)
      obtain ⟨rfl, hEs225⟩ := hp
      refine lv_aload_n C.1 C.2.1 dL_isSound_228 rfl (lv_at hl 0 rfl) ?_
      refine x_ciA (fun q h => Or.inr h) (x_runVA (As := []) (rest := [.int (iI (waysF (cfg σ) (1 : Int).toNat (σ 1) (σ 4 0)))]) C (⟨by show _ ≤ (60 : Nat); omega, by show _ ≤ (40 * 60 : Nat); omega⟩) cw_RL_54 (MET.toA (v_X11_moves l D ad G ids hI hJ hEs225  )) hM.x (hI 0 (by decide)) (cx_0 ad G _) rfl rfl rfl rfl (Nat.le_of_ble_eq_true rfl) hl.1 dL_isSound_229 ⟨Nat.le_of_ble_eq_true rfl, Nat.le_of_ble_eq_true rfl⟩) hM (fun r229 s229 H1 lc1 hp hM => ?_)
      obtain ⟨rfl, rfl⟩ := hp
      refine x_icmp_ne C ⟨by omega, by omega⟩ ⟨by omega, by omega⟩ (tgt := 244) dL_isSound_232 (by decide) (fun c232 => ?_) (fun c232 => ?_)
      · exfalso; omega
      · refine lv_aload_n C.1 C.2.1 dL_isSound_235 rfl (lv_at hl 0 rfl) ?_
        refine lv_iconst (v := iI 0) C.1 C.2.1 dL_isSound_236 (by decide) ?_
        refine x_ciA (fun q h => Or.inr h) (x_runVA (As := [.int (iI 0)]) (rest := []) C (⟨by show _ ≤ (60 : Nat); omega, by show _ ≤ (40 * 60 : Nat); omega⟩) cw_RL_135 (MET.toA (v_X11_ways l D ad G ids hI hJ hEs225 0 (by omega))) hM.x (hI 0 (by decide)) (cx_0 ad G _) rfl rfl rfl rfl (Nat.le_of_ble_eq_true rfl) hl.1 dL_isSound_237 ⟨Nat.le_of_ble_eq_true rfl, Nat.le_of_ble_eq_true rfl⟩) hM (fun r237 s237 H1 lc1 hp hM => ?_)
        obtain ⟨rfl, hEs237⟩ := hp
        refine lv_iconst (v := iI 1) C.1 C.2.1 dL_isSound_240 (by decide) ?_
        refine x_icmp_eq C ⟨by omega, by omega⟩ ⟨by omega, by omega⟩ (tgt := 246) dL_isSound_241 (by decide) (fun c241 => ?_) (fun c241 => ?_)
        · refine lv_aload_n C.1 C.2.1 dL_isSound_246 rfl (lv_at hl 0 rfl) ?_
          refine x_ciA (fun q h => Or.inr h) (x_runVA (As := []) (rest := []) C (⟨by show _ ≤ (60 : Nat); omega, by show _ ≤ (40 * 60 : Nat); omega⟩) cw_RL_131 (MET.toA (v_X11_isLost l D ad G ids hI hJ hEs237  )) hM.x (hI 0 (by decide)) (cx_0 ad G _) rfl rfl rfl rfl (Nat.le_of_ble_eq_true rfl) hl.1 dL_isSound_247 ⟨Nat.le_of_ble_eq_true rfl, Nat.le_of_ble_eq_true rfl⟩) hM (fun r247 s247 H1 lc1 hp hM => ?_)
          obtain ⟨rfl, rfl⟩ := hp
          refine x_if_eq C ⟨by omega, by omega⟩ (tgt := 272) dL_isSound_250 (by decide) (fun c250 => ?_) (fun c250 => ?_)
          · exact snd_272 hI hJ hEs237 C hr  hM (lv_sub hl [0, 1] rfl)
          · have hvl := hv2 (hlen.mpr (by omega))
            refine lv_aload_n C.1 C.2.1 dL_isSound_253 rfl (lv_at hl 0 rfl) ?_
            refine lv_iconst (v := iI 2) C.1 C.2.1 dL_isSound_254 (by decide) ?_
            refine x_ciA (fun q h => Or.inr h) (x_runVA (As := [.int (iI 2)]) (rest := []) C (⟨by show _ ≤ (60 : Nat); omega, by show _ ≤ (40 * 60 : Nat); omega⟩) cw_RL_97 (MET.toA (v_X11_value l D ad G ids hI hJ hEs237 2 (by omega))) hM.x (hI 0 (by decide)) (cx_0 ad G _) rfl rfl rfl rfl (Nat.le_of_ble_eq_true rfl) hl.1 dL_isSound_255 ⟨Nat.le_of_ble_eq_true rfl, Nat.le_of_ble_eq_true rfl⟩) hM (fun r255 s255 H1 lc1 hp hM => ?_)
            obtain ⟨rfl, hEs255⟩ := hp
            refine lv_sipush (v := iI (-1002)) C.1 C.2.1 dL_isSound_258 (by decide) ?_
            refine x_icmp_ne C ⟨by omega, by omega⟩ ⟨by omega, by omega⟩ (tgt := 283) dL_isSound_261 (by decide) (fun c261 => ?_) (fun c261 => ?_)
            · exfalso; omega
            · refine lv_aload_n C.1 C.2.1 dL_isSound_264 rfl (lv_at hl 0 rfl) ?_
              refine x_ciA (fun q h => Or.inr h) (x_runVA (As := []) (rest := []) C (⟨by show _ ≤ (60 : Nat); omega, by show _ ≤ (40 * 60 : Nat); omega⟩) cw_RL_138 (MET.toA (v_X11_told l D ad G ids hI hJ hEs255  )) hM.x (hI 0 (by decide)) (cx_0 ad G _) rfl rfl rfl rfl (Nat.le_of_ble_eq_true rfl) hl.1 dL_isSound_265 ⟨Nat.le_of_ble_eq_true rfl, Nat.le_of_ble_eq_true rfl⟩) hM (fun r265 s265 H1 lc1 hp hM => ?_)
              obtain ⟨rfl, rfl⟩ := hp
              refine lv_iconst (v := iI (-1)) C.1 C.2.1 dL_isSound_268 (by decide) ?_
              refine x_icmp_ne C ⟨by omega, by omega⟩ ⟨by omega, by omega⟩ (tgt := 283) dL_isSound_269 (by decide) (fun c269 => ?_) (fun c269 => ?_)
              · exfalso; omega
              · exact snd_272 hI hJ hEs255 C hr  hM (lv_sub hl [0, 1] rfl)
        · exfalso; omega
  refine x_if_ne C ⟨by omega, by omega⟩ (tgt := 219) dL_isSound_212 (by decide) (fun c212 => ?_) (fun c212 => ?_)
  · refine lv_iconst (v := iI 0) C.1 C.2.1 dL_isSound_219 (by decide) ?_
    exact J220 0 _ _ _ (by first | rw [if_pos (by omega)] | rw [if_neg (by omega)]) hM (lv_sub hl [0, 1] rfl)
  · refine lv_iconst (v := iI 1) C.1 C.2.1 dL_isSound_215 (by decide) ?_
    refine lv_goto (tgt := 220) C.1 C.2.1 dL_isSound_216 (by decide) ?_
    exact J220 1 _ _ _ (by first | rw [if_pos (by omega)] | rw [if_neg (by omega)]) hM (lv_sub hl [0, 1] rfl)
