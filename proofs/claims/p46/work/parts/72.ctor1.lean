theorem cl_L_9 : Cond.classLink RL 9 RX11 ∈ WA := wa_t 20 (by decide +kernel) rfl
theorem in_X11 : Cond.instantiable RX11 8 ∈ WA := wa_t 21 (by decide +kernel) rfl
theorem wo_X11_1 : Cond.methodLink RX11 1 Lib.objectInit ∈ WA := wa_t 25 (by decide +kernel) rfl
theorem cl_X11_7 : Cond.classLink RX11 7 RX4 ∈ WA := wa_t 28 (by decide +kernel) rfl
theorem in_X4 : Cond.instantiable RX4 2 ∈ WA := wa_t 29 (by decide +kernel) rfl
theorem wo_X4_3 : Cond.methodLink RX4 3 Lib.objectInit ∈ WA := wa_t 33 (by decide +kernel) rfl
theorem in_X5 : Cond.instantiable RX5 6 ∈ WA := wa_t 36 (by decide +kernel) rfl
theorem wo_X5_3 : Cond.methodLink RX5 3 Lib.objectInit ∈ WA := wa_t 40 (by decide +kernel) rfl
theorem cl_X11_10 : Cond.classLink RX11 10 RX0 ∈ WA := wa_t 69 (by decide +kernel) rfl
theorem in_X0 : Cond.instantiable RX0 4 ∈ WA := wa_t 70 (by decide +kernel) rfl
theorem wo_X0_3 : Cond.methodLink RX0 3 Lib.objectInit ∈ WA := wa_t 74 (by decide +kernel) rfl
theorem cl_X11_19 : Cond.classLink RX11 19 RX5 ∈ WA := wa_t 92 (by decide +kernel) rfl
theorem cl_X11_26 : Cond.classLink RX11 26 RX9 ∈ WA := wa_t 94 (by decide +kernel) rfl
theorem in_X9 : Cond.instantiable RX9 3 ∈ WA := wa_t 95 (by decide +kernel) rfl
theorem wo_X9_3 : Cond.methodLink RX9 3 Lib.objectInit ∈ WA := wa_t 99 (by decide +kernel) rfl
theorem cl_X11_33 : Cond.classLink RX11 33 RX2 ∈ WA := wa_t 110 (by decide +kernel) rfl
theorem in_X2 : Cond.instantiable RX2 4 ∈ WA := wa_t 111 (by decide +kernel) rfl
theorem wo_X2_1 : Cond.methodLink RX2 1 Lib.objectInit ∈ WA := wa_t 115 (by decide +kernel) rfl
theorem cl_X11_40 : Cond.classLink RX11 40 RX8 ∈ WA := wa_t 129 (by decide +kernel) rfl
theorem in_X8 : Cond.instantiable RX8 6 ∈ WA := wa_t 130 (by decide +kernel) rfl
theorem wo_X8_3 : Cond.methodLink RX8 3 Lib.objectInit ∈ WA := wa_t 134 (by decide +kernel) rfl
theorem cl_X11_47 : Cond.classLink RX11 47 RX10 ∈ WA := wa_t 155 (by decide +kernel) rfl
theorem in_X10 : Cond.instantiable RX10 3 ∈ WA := wa_t 156 (by decide +kernel) rfl
theorem cl_X11_49 : Cond.classLink RX11 49 RX6 ∈ WA := wa_t 157 (by decide +kernel) rfl
theorem in_X6 : Cond.instantiable RX6 4 ∈ WA := wa_t 158 (by decide +kernel) rfl
theorem wo_X6_3 : Cond.methodLink RX6 3 Lib.objectInit ∈ WA := wa_t 162 (by decide +kernel) rfl
theorem wo_X10_3 : Cond.methodLink RX10 3 Lib.objectInit ∈ WA := wa_t 179 (by decide +kernel) rfl
theorem cl_X11_61 : Cond.classLink RX11 61 RX7 ∈ WA := wa_t 190 (by decide +kernel) rfl
theorem in_X7 : Cond.instantiable RX7 10 ∈ WA := wa_t 191 (by decide +kernel) rfl
theorem wo_X7_3 : Cond.methodLink RX7 3 Lib.objectInit ∈ WA := wa_t 195 (by decide +kernel) rfl
theorem cl_X7_27 : Cond.classLink RX7 27 RX3 ∈ WA := wa_t 196 (by decide +kernel) rfl
theorem in_X3 : Cond.instantiable RX3 2 ∈ WA := wa_t 197 (by decide +kernel) rfl
theorem wo_X3_3 : Cond.methodLink RX3 3 Lib.objectInit ∈ WA := wa_t 201 (by decide +kernel) rfl
theorem cl_X11_70 : Cond.classLink RX11 70 RX1 ∈ WA := wa_t 244 (by decide +kernel) rfl
theorem in_X1 : Cond.instantiable RX1 4 ∈ WA := wa_t 245 (by decide +kernel) rfl
theorem wo_X1_3 : Cond.methodLink RX1 3 Lib.objectInit ∈ WA := wa_t 249 (by decide +kernel) rfl
theorem ci_L_11 : CWi RL 11 yX11_init cX11_init 2 0 := ⟨⟨wm_RL_11, wi_X11_init, wn_X11, wc_X11_init⟩, by decide +kernel, rfl⟩
theorem ci_X11_9 : CWi RX11 9 yX4_init cX4_init 2 0 := ⟨⟨wm_X11_9, wi_X4_init, wn_X4, wc_X4_init⟩, by decide +kernel, rfl⟩
theorem ci_X4_17 : CWi RX4 17 yX5_init cX5_init 1 0 := ⟨⟨wm_X4_17, wi_X5_init, wn_X5, wc_X5_init⟩, by decide +kernel, rfl⟩
theorem ci_X11_12 : CWi RX11 12 yX0_init cX0_init 1 0 := ⟨⟨wm_X11_12, wi_X0_init, wn_X0, wc_X0_init⟩, by decide +kernel, rfl⟩
theorem ci_X11_21 : CWi RX11 21 yX5_init cX5_init 1 0 := ⟨⟨wm_X11_21, wi_X5_init, wn_X5, wc_X5_init⟩, by decide +kernel, rfl⟩
theorem ci_X11_28 : CWi RX11 28 yX9_init cX9_init 1 0 := ⟨⟨wm_X11_28, wi_X9_init, wn_X9, wc_X9_init⟩, by decide +kernel, rfl⟩
theorem ci_X11_35 : CWin RX11 35 yX2_init cX2_init 1 0 := ⟨⟨List.mem_of_getElem? (i := 0) rfl, wi_X2_init, wn_X2, wc_X2_init⟩, by decide +kernel, rfl⟩
theorem ci_X11_42 : CWi RX11 42 yX8_init cX8_init 1 0 := ⟨⟨wm_X11_42, wi_X8_init, wn_X8, wc_X8_init⟩, by decide +kernel, rfl⟩
theorem ci_X11_51 : CWi RX11 51 yX6_init cX6_init 4 3 := ⟨⟨wm_X11_51, wi_X6_init, wn_X6, wc_X6_init⟩, by decide +kernel, rfl⟩
theorem ci_X11_54 : CWi RX11 54 yX10_init cX10_init 4 3 := ⟨⟨wm_X11_54, wi_X10_init, wn_X10, wc_X10_init⟩, by decide +kernel, rfl⟩
theorem ci_X11_63 : CWi RX11 63 yX7_init cX7_init 5 4 := ⟨⟨wm_X11_63, wi_X7_init, wn_X7, wc_X7_init⟩, by decide +kernel, rfl⟩
theorem ci_X7_29 : CWi RX7 29 yX3_init cX3_init 1 0 := ⟨⟨wm_X7_29, wi_X3_init, wn_X3, wc_X3_init⟩, by decide +kernel, rfl⟩
theorem ci_X11_72 : CWi RX11 72 yX1_init cX1_init 1 0 := ⟨⟨wm_X11_72, wi_X1_init, wn_X1, wc_X1_init⟩, by decide +kernel, rfl⟩
abbrev pX5 (G : Nat → Nat) (a : Nat) (w : va_W) : Prop := ∃ b1 b2 b3 b4 : Nat, w = [(a, .inr (5, [.ref b1, .ref b2, .ref b3, .ref b4, .int 0, .int 0])), (b1, .inl (G 0, 18, .inl (fI (fun _ => 0)))), (b2, .inl (G 2, 18, .inl (fI (fun _ => 0)))), (b3, .inl (G 0, 18, .inl (fI (fun _ => 0)))), (b4, .inl (G 2, 18, .inl (fI (fun _ => 0))))]
set_option maxRecDepth 100000 in
set_option maxHeartbeats 4000000 in
theorem c_X5_init (l : Launch) (D : va_G) (G : Nat → Nat) : NEWC l yX5_init cX5_init 1 1 4 72 [] D G 5 [.null, .null, .null, .null, .int 0, .int 0] (pX5 G) := by
  refine x_enterN (by decide) rfl (fun _ => Nat.le_of_ble_eq_true rfl) ?_
  intro a pp ee ss mm args below meth cq C hAV hr hnm ls hl hM
  have hl : lv_has ls 1 [(0, .ref a)] := hl
  refine lv_aload_n C.1 C.2.1 dX5_init_0 rfl (lv_at hl 0 rfl) ?_
  refine r_obj C wo_X5_3 hl.1 ⟨Nat.le_of_ble_eq_true rfl, Nat.le_of_ble_eq_true rfl⟩ dX5_init_1 ?_
  refine lv_aload_n C.1 C.2.1 dX5_init_4 rfl (lv_at hl 0 rfl) ?_
  refine lv_bipush (v := iI 18) C.1 C.2.1 dX5_init_5 (by decide) ?_
  refine r_newI C (fun q h => Or.inr h) hM 18 rfl (by decide) (Nat.le_of_ble_eq_true rfl) (Nat.le_of_ble_eq_true rfl) dX5_init_7 (fun q7 H1 hM => ?_)
  have hM : XR D (AO a ss.heap.size) ss.heap H1 _ [(a, .inr (5, [.null, .null, .null, .null, .int 0, .int 0])), (q7, .inl (G 0, 18, .inl (fI (fun _ => 0))))] := hM
  refine r_putF C hnm hM 0 rfl rfl inWX5 tyX5 tyX5_ok nmX5 0 (by decide) wf_X5_9 rfl rfl (v := .ref q7) (ty := (.array .int)) (by decide +kernel) rfl rfl (Nat.le_of_ble_eq_true rfl) dX5_init_9 (fun H1 lc1 hM => ?_)
  have hM : XR D (AO a ss.heap.size) ss.heap H1 lc1 [(a, .inr (5, [.ref q7, .null, .null, .null, .int 0, .int 0])), (q7, .inl (G 0, 18, .inl (fI (fun _ => 0))))] := hM
  refine lv_aload_n C.1 C.2.1 dX5_init_12 rfl (lv_at hl 0 rfl) ?_
  refine lv_bipush (v := iI 18) C.1 C.2.1 dX5_init_13 (by decide) ?_
  refine r_newZ C (fun q h => Or.inr h) hM 18 rfl (by decide) (Nat.le_of_ble_eq_true rfl) (Nat.le_of_ble_eq_true rfl) dX5_init_15 (fun q15 H1 hM => ?_)
  have hM : XR D (AO a ss.heap.size) ss.heap H1 _ [(a, .inr (5, [.ref q7, .null, .null, .null, .int 0, .int 0])), (q7, .inl (G 0, 18, .inl (fI (fun _ => 0)))), (q15, .inl (G 2, 18, .inl (fI (fun _ => 0))))] := hM
  refine r_putF C hnm hM 0 rfl rfl inWX5 tyX5 tyX5_ok nmX5 1 (by decide) wf_X5_15 rfl rfl (v := .ref q15) (ty := (.array .boolean)) (by decide +kernel) rfl rfl (Nat.le_of_ble_eq_true rfl) dX5_init_17 (fun H1 lc1 hM => ?_)
  have hM : XR D (AO a ss.heap.size) ss.heap H1 lc1 [(a, .inr (5, [.ref q7, .ref q15, .null, .null, .int 0, .int 0])), (q7, .inl (G 0, 18, .inl (fI (fun _ => 0)))), (q15, .inl (G 2, 18, .inl (fI (fun _ => 0))))] := hM
  refine lv_aload_n C.1 C.2.1 dX5_init_20 rfl (lv_at hl 0 rfl) ?_
  refine lv_bipush (v := iI 18) C.1 C.2.1 dX5_init_21 (by decide) ?_
  refine r_newI C (fun q h => Or.inr h) hM 18 rfl (by decide) (Nat.le_of_ble_eq_true rfl) (Nat.le_of_ble_eq_true rfl) dX5_init_23 (fun q23 H1 hM => ?_)
  have hM : XR D (AO a ss.heap.size) ss.heap H1 _ [(a, .inr (5, [.ref q7, .ref q15, .null, .null, .int 0, .int 0])), (q7, .inl (G 0, 18, .inl (fI (fun _ => 0)))), (q15, .inl (G 2, 18, .inl (fI (fun _ => 0)))), (q23, .inl (G 0, 18, .inl (fI (fun _ => 0))))] := hM
  refine r_putF C hnm hM 0 rfl rfl inWX5 tyX5 tyX5_ok nmX5 2 (by decide) wf_X5_19 rfl rfl (v := .ref q23) (ty := (.array .int)) (by decide +kernel) rfl rfl (Nat.le_of_ble_eq_true rfl) dX5_init_25 (fun H1 lc1 hM => ?_)
  have hM : XR D (AO a ss.heap.size) ss.heap H1 lc1 [(a, .inr (5, [.ref q7, .ref q15, .ref q23, .null, .int 0, .int 0])), (q7, .inl (G 0, 18, .inl (fI (fun _ => 0)))), (q15, .inl (G 2, 18, .inl (fI (fun _ => 0)))), (q23, .inl (G 0, 18, .inl (fI (fun _ => 0))))] := hM
  refine lv_aload_n C.1 C.2.1 dX5_init_28 rfl (lv_at hl 0 rfl) ?_
  refine lv_bipush (v := iI 18) C.1 C.2.1 dX5_init_29 (by decide) ?_
  refine r_newZ C (fun q h => Or.inr h) hM 18 rfl (by decide) (Nat.le_of_ble_eq_true rfl) (Nat.le_of_ble_eq_true rfl) dX5_init_31 (fun q31 H1 hM => ?_)
  have hM : XR D (AO a ss.heap.size) ss.heap H1 _ [(a, .inr (5, [.ref q7, .ref q15, .ref q23, .null, .int 0, .int 0])), (q7, .inl (G 0, 18, .inl (fI (fun _ => 0)))), (q15, .inl (G 2, 18, .inl (fI (fun _ => 0)))), (q23, .inl (G 0, 18, .inl (fI (fun _ => 0)))), (q31, .inl (G 2, 18, .inl (fI (fun _ => 0))))] := hM
  refine r_putF C hnm hM 0 rfl rfl inWX5 tyX5 tyX5_ok nmX5 3 (by decide) wf_X5_22 rfl rfl (v := .ref q31) (ty := (.array .boolean)) (by decide +kernel) rfl rfl (Nat.le_of_ble_eq_true rfl) dX5_init_33 (fun H1 lc1 hM => ?_)
  have hM : XR D (AO a ss.heap.size) ss.heap H1 lc1 [(a, .inr (5, [.ref q7, .ref q15, .ref q23, .ref q31, .int 0, .int 0])), (q7, .inl (G 0, 18, .inl (fI (fun _ => 0)))), (q15, .inl (G 2, 18, .inl (fI (fun _ => 0)))), (q23, .inl (G 0, 18, .inl (fI (fun _ => 0)))), (q31, .inl (G 2, 18, .inl (fI (fun _ => 0))))] := hM
  exact r_vret C hr hM (⟨q7, q15, q23, q31, rfl⟩) dX5_init_36
abbrev pX9 (G : Nat → Nat) (a : Nat) (w : va_W) : Prop := ∃ b1 b2 : Nat, w = [(a, .inr (9, [.ref b1, .ref b2, .int 0])), (b1, .inl (G 0, 40, .inl (fI (fun _ => 0)))), (b2, .inl (G 0, 40, .inl (fI (fun _ => 0))))]
set_option maxRecDepth 100000 in
set_option maxHeartbeats 4000000 in
theorem c_X9_init (l : Launch) (D : va_G) (G : Nat → Nat) : NEWC l yX9_init cX9_init 1 1 2 80 [] D G 9 [.null, .null, .int 0] (pX9 G) := by
  refine x_enterN (by decide) rfl (fun _ => Nat.le_of_ble_eq_true rfl) ?_
  intro a pp ee ss mm args below meth cq C hAV hr hnm ls hl hM
  have hl : lv_has ls 1 [(0, .ref a)] := hl
  refine lv_aload_n C.1 C.2.1 dX9_init_0 rfl (lv_at hl 0 rfl) ?_
  refine r_obj C wo_X9_3 hl.1 ⟨Nat.le_of_ble_eq_true rfl, Nat.le_of_ble_eq_true rfl⟩ dX9_init_1 ?_
  refine lv_aload_n C.1 C.2.1 dX9_init_4 rfl (lv_at hl 0 rfl) ?_
  refine lv_bipush (v := iI 40) C.1 C.2.1 dX9_init_5 (by decide) ?_
  refine r_newI C (fun q h => Or.inr h) hM 40 rfl (by decide) (Nat.le_of_ble_eq_true rfl) (Nat.le_of_ble_eq_true rfl) dX9_init_7 (fun q7 H1 hM => ?_)
  have hM : XR D (AO a ss.heap.size) ss.heap H1 _ [(a, .inr (9, [.null, .null, .int 0])), (q7, .inl (G 0, 40, .inl (fI (fun _ => 0))))] := hM
  refine r_putF C hnm hM 0 rfl rfl inWX9 tyX9 tyX9_ok nmX9 0 (by decide) wf_X9_9 rfl rfl (v := .ref q7) (ty := (.array .int)) (by decide +kernel) rfl rfl (Nat.le_of_ble_eq_true rfl) dX9_init_9 (fun H1 lc1 hM => ?_)
  have hM : XR D (AO a ss.heap.size) ss.heap H1 lc1 [(a, .inr (9, [.ref q7, .null, .int 0])), (q7, .inl (G 0, 40, .inl (fI (fun _ => 0))))] := hM
  refine lv_aload_n C.1 C.2.1 dX9_init_12 rfl (lv_at hl 0 rfl) ?_
  refine lv_bipush (v := iI 40) C.1 C.2.1 dX9_init_13 (by decide) ?_
  refine r_newI C (fun q h => Or.inr h) hM 40 rfl (by decide) (Nat.le_of_ble_eq_true rfl) (Nat.le_of_ble_eq_true rfl) dX9_init_15 (fun q15 H1 hM => ?_)
  have hM : XR D (AO a ss.heap.size) ss.heap H1 _ [(a, .inr (9, [.ref q7, .null, .int 0])), (q7, .inl (G 0, 40, .inl (fI (fun _ => 0)))), (q15, .inl (G 0, 40, .inl (fI (fun _ => 0))))] := hM
  refine r_putF C hnm hM 0 rfl rfl inWX9 tyX9 tyX9_ok nmX9 1 (by decide) wf_X9_15 rfl rfl (v := .ref q15) (ty := (.array .int)) (by decide +kernel) rfl rfl (Nat.le_of_ble_eq_true rfl) dX9_init_17 (fun H1 lc1 hM => ?_)
  have hM : XR D (AO a ss.heap.size) ss.heap H1 lc1 [(a, .inr (9, [.ref q7, .ref q15, .int 0])), (q7, .inl (G 0, 40, .inl (fI (fun _ => 0)))), (q15, .inl (G 0, 40, .inl (fI (fun _ => 0))))] := hM
  exact r_vret C hr hM (⟨q7, q15, rfl⟩) dX9_init_20
abbrev pX2 (G : Nat → Nat) (a : Nat) (w : va_W) : Prop := w = [(a, .inr (2, [.int (iI 10), .int (iI 2), .int (iI 1), .int (iI 1)]))]
set_option maxRecDepth 100000 in
set_option maxHeartbeats 4000000 in
theorem c_X2_init (l : Launch) (D : va_G) (G : Nat → Nat) : NEWC l yX2_init cX2_init 1 1 0 0 [] D G 2 [.int 0, .int 0, .int 0, .int 0] (pX2 G) := by
  refine x_enterN (by decide) rfl (fun _ => Nat.le_of_ble_eq_true rfl) ?_
  intro a pp ee ss mm args below meth cq C hAV hr hnm ls hl hM
  have hl : lv_has ls 1 [(0, .ref a)] := hl
  refine lv_aload_n C.1 C.2.1 dX2_init_0 rfl (lv_at hl 0 rfl) ?_
  refine r_obj C wo_X2_1 hl.1 ⟨Nat.le_of_ble_eq_true rfl, Nat.le_of_ble_eq_true rfl⟩ dX2_init_1 ?_
  refine lv_aload_n C.1 C.2.1 dX2_init_4 rfl (lv_at hl 0 rfl) ?_
  refine lv_bipush (v := iI 10) C.1 C.2.1 dX2_init_5 (by decide) ?_
  refine r_put C hM 0 rfl rfl inWX2 tyX2 tyX2_ok nmX2 0 (by decide) wf_X2_7 rfl (v := .int (iI 10)) (ty := .int) (by decide +kernel) rfl rfl (Nat.le_of_ble_eq_true rfl) dX2_init_7 (fun H1 lc1 hM => ?_)
  have hM : XR D (AO a ss.heap.size) ss.heap H1 lc1 [(a, .inr (2, [.int (iI 10), .int 0, .int 0, .int 0]))] := hM
  refine lv_aload_n C.1 C.2.1 dX2_init_10 rfl (lv_at hl 0 rfl) ?_
  refine lv_iconst (v := iI 2) C.1 C.2.1 dX2_init_11 (by decide) ?_
  refine r_put C hM 0 rfl rfl inWX2 tyX2 tyX2_ok nmX2 1 (by decide) wf_X2_13 rfl (v := .int (iI 2)) (ty := .int) (by decide +kernel) rfl rfl (Nat.le_of_ble_eq_true rfl) dX2_init_12 (fun H1 lc1 hM => ?_)
  have hM : XR D (AO a ss.heap.size) ss.heap H1 lc1 [(a, .inr (2, [.int (iI 10), .int (iI 2), .int 0, .int 0]))] := hM
  refine lv_aload_n C.1 C.2.1 dX2_init_15 rfl (lv_at hl 0 rfl) ?_
  refine lv_iconst (v := iI 1) C.1 C.2.1 dX2_init_16 (by decide) ?_
  refine r_put C hM 0 rfl rfl inWX2 tyX2 tyX2_ok nmX2 2 (by decide) wf_X2_16 rfl (v := .int (iI 1)) (ty := .int) (by decide +kernel) rfl rfl (Nat.le_of_ble_eq_true rfl) dX2_init_17 (fun H1 lc1 hM => ?_)
  have hM : XR D (AO a ss.heap.size) ss.heap H1 lc1 [(a, .inr (2, [.int (iI 10), .int (iI 2), .int (iI 1), .int 0]))] := hM
  refine lv_aload_n C.1 C.2.1 dX2_init_20 rfl (lv_at hl 0 rfl) ?_
  refine lv_iconst (v := iI 1) C.1 C.2.1 dX2_init_21 (by decide) ?_
  refine r_put C hM 0 rfl rfl inWX2 tyX2 tyX2_ok nmX2 3 (by decide) wf_X2_19 rfl (v := .int (iI 1)) (ty := .boolean) (by decide +kernel) rfl rfl (Nat.le_of_ble_eq_true rfl) dX2_init_22 (fun H1 lc1 hM => ?_)
  have hM : XR D (AO a ss.heap.size) ss.heap H1 lc1 [(a, .inr (2, [.int (iI 10), .int (iI 2), .int (iI 1), .int (iI 1)]))] := hM
  exact r_vret C hr hM (rfl) dX2_init_25
abbrev pX6 (G : Nat → Nat) (p1 : Nat) (p2 : Nat) (p3 : Nat) (a : Nat) (w : va_W) : Prop := w = [(a, .inr (6, [.ref p1, .ref p2, .ref p3, .int 0]))]
set_option maxRecDepth 100000 in
set_option maxHeartbeats 4000000 in
theorem c_X6_init (l : Launch) (D : va_G) (G : Nat → Nat) (p1 : Nat) (p2 : Nat) (p3 : Nat) : NEWC l yX6_init cX6_init 4 1 0 0 [.ref p1, .ref p2, .ref p3] D G 6 [.null, .null, .null, .int 0] (pX6 G p1 p2 p3) := by
  refine x_enterN (by decide) rfl (fun _ => Nat.le_of_ble_eq_true rfl) ?_
  intro a pp ee ss mm args below meth cq C hAV hr hnm ls hl hM
  have hl : lv_has ls 4 [(0, .ref a), (1, .ref p1), (2, .ref p2), (3, .ref p3)] := hl
  refine lv_aload_n C.1 C.2.1 dX6_init_0 rfl (lv_at hl 0 rfl) ?_
  refine r_obj C wo_X6_3 hl.1 ⟨Nat.le_of_ble_eq_true rfl, Nat.le_of_ble_eq_true rfl⟩ dX6_init_1 ?_
  refine lv_aload_n C.1 C.2.1 dX6_init_4 rfl (lv_at hl 0 rfl) ?_
  refine lv_aload_n C.1 C.2.1 dX6_init_5 rfl (lv_at hl 1 rfl) ?_
  refine r_putF C hnm hM 0 rfl rfl inWX6 tyX6 tyX6_ok nmX6 0 (by decide) wf_X6_9 rfl rfl (v := .ref p1) (ty := (.object "KindlingTree$Board")) (by decide +kernel) rfl rfl (Nat.le_of_ble_eq_true rfl) dX6_init_6 (fun H1 lc1 hM => ?_)
  have hM : XR D (AO a ss.heap.size) ss.heap H1 lc1 [(a, .inr (6, [.ref p1, .null, .null, .int 0]))] := hM
  refine lv_aload_n C.1 C.2.1 dX6_init_9 rfl (lv_at hl 0 rfl) ?_
  refine lv_aload_n C.1 C.2.1 dX6_init_10 rfl (lv_at hl 2 rfl) ?_
  refine r_putF C hnm hM 0 rfl rfl inWX6 tyX6 tyX6_ok nmX6 1 (by decide) wf_X6_15 rfl rfl (v := .ref p2) (ty := (.object "KindlingTree$Judge")) (by decide +kernel) rfl rfl (Nat.le_of_ble_eq_true rfl) dX6_init_11 (fun H1 lc1 hM => ?_)
  have hM : XR D (AO a ss.heap.size) ss.heap H1 lc1 [(a, .inr (6, [.ref p1, .ref p2, .null, .int 0]))] := hM
  refine lv_aload_n C.1 C.2.1 dX6_init_14 rfl (lv_at hl 0 rfl) ?_
  refine lv_aload_n C.1 C.2.1 dX6_init_15 rfl (lv_at hl 3 rfl) ?_
  refine r_putF C hnm hM 0 rfl rfl inWX6 tyX6 tyX6_ok nmX6 2 (by decide) wf_X6_19 rfl rfl (v := .ref p3) (ty := (.object "KindlingTree$Levels")) (by decide +kernel) rfl rfl (Nat.le_of_ble_eq_true rfl) dX6_init_16 (fun H1 lc1 hM => ?_)
  have hM : XR D (AO a ss.heap.size) ss.heap H1 lc1 [(a, .inr (6, [.ref p1, .ref p2, .ref p3, .int 0]))] := hM
  exact r_vret C hr hM (rfl) dX6_init_19
abbrev pX10 (G : Nat → Nat) (p1 : Nat) (p2 : Nat) (p3 : Nat) (a : Nat) (w : va_W) : Prop := w = [(a, .inr (10, [.ref p1, .ref p2, .ref p3]))]
set_option maxRecDepth 100000 in
set_option maxHeartbeats 4000000 in
theorem c_X10_init (l : Launch) (D : va_G) (G : Nat → Nat) (p1 : Nat) (p2 : Nat) (p3 : Nat) : NEWC l yX10_init cX10_init 4 1 0 0 [.ref p1, .ref p2, .ref p3] D G 10 [.null, .null, .null] (pX10 G p1 p2 p3) := by
  refine x_enterN (by decide) rfl (fun _ => Nat.le_of_ble_eq_true rfl) ?_
  intro a pp ee ss mm args below meth cq C hAV hr hnm ls hl hM
  have hl : lv_has ls 4 [(0, .ref a), (1, .ref p1), (2, .ref p2), (3, .ref p3)] := hl
  refine lv_aload_n C.1 C.2.1 dX10_init_0 rfl (lv_at hl 0 rfl) ?_
  refine r_obj C wo_X10_3 hl.1 ⟨Nat.le_of_ble_eq_true rfl, Nat.le_of_ble_eq_true rfl⟩ dX10_init_1 ?_
  refine lv_aload_n C.1 C.2.1 dX10_init_4 rfl (lv_at hl 0 rfl) ?_
  refine lv_aload_n C.1 C.2.1 dX10_init_5 rfl (lv_at hl 1 rfl) ?_
  refine r_putF C hnm hM 0 rfl rfl inWX10 tyX10 tyX10_ok nmX10 0 (by decide) wf_X10_9 rfl rfl (v := .ref p1) (ty := (.object "KindlingTree$Board")) (by decide +kernel) rfl rfl (Nat.le_of_ble_eq_true rfl) dX10_init_6 (fun H1 lc1 hM => ?_)
  have hM : XR D (AO a ss.heap.size) ss.heap H1 lc1 [(a, .inr (10, [.ref p1, .null, .null]))] := hM
  refine lv_aload_n C.1 C.2.1 dX10_init_9 rfl (lv_at hl 0 rfl) ?_
  refine lv_aload_n C.1 C.2.1 dX10_init_10 rfl (lv_at hl 2 rfl) ?_
  refine r_putF C hnm hM 0 rfl rfl inWX10 tyX10 tyX10_ok nmX10 1 (by decide) wf_X10_15 rfl rfl (v := .ref p2) (ty := (.object "KindlingTree$Levels")) (by decide +kernel) rfl rfl (Nat.le_of_ble_eq_true rfl) dX10_init_11 (fun H1 lc1 hM => ?_)
  have hM : XR D (AO a ss.heap.size) ss.heap H1 lc1 [(a, .inr (10, [.ref p1, .ref p2, .null]))] := hM
  refine lv_aload_n C.1 C.2.1 dX10_init_14 rfl (lv_at hl 0 rfl) ?_
  refine lv_aload_n C.1 C.2.1 dX10_init_15 rfl (lv_at hl 3 rfl) ?_
  refine r_putF C hnm hM 0 rfl rfl inWX10 tyX10 tyX10_ok nmX10 2 (by decide) wf_X10_19 rfl rfl (v := .ref p3) (ty := (.object "KindlingTree$Quiet")) (by decide +kernel) rfl rfl (Nat.le_of_ble_eq_true rfl) dX10_init_16 (fun H1 lc1 hM => ?_)
  have hM : XR D (AO a ss.heap.size) ss.heap H1 lc1 [(a, .inr (10, [.ref p1, .ref p2, .ref p3]))] := hM
  exact r_vret C hr hM (rfl) dX10_init_19
abbrev pX8 (G : Nat → Nat) (a : Nat) (w : va_W) : Prop := ∃ b1 b2 b3 b4 b5 : Nat, w = [(a, .inr (8, [.ref b1, .ref b2, .ref b3, .ref b4, .ref b5, .int (iI 32)])), (b1, .inl (G 1, 64, .inr (.inl (fJ (fun _ => 0))))), (b2, .inl (G 0, 64, .inl (fI (fun _ => 0)))), (b3, .inl (G 0, 64, .inl (fI (fun _ => 0)))), (b4, .inl (G 0, 64, .inl (fI (fun _ => 0)))), (b5, .inl (G 0, 64, .inl (fI (fun _ => 0))))]
set_option maxRecDepth 100000 in
set_option maxHeartbeats 4000000 in
theorem c_X8_init (l : Launch) (D : va_G) (G : Nat → Nat) : NEWC l yX8_init cX8_init 1 1 5 320 [] D G 8 [.null, .null, .null, .null, .null, .int 0] (pX8 G) := by
  refine x_enterN (by decide) rfl (fun _ => Nat.le_of_ble_eq_true rfl) ?_
  intro a pp ee ss mm args below meth cq C hAV hr hnm ls hl hM
  have hl : lv_has ls 1 [(0, .ref a)] := hl
  refine lv_aload_n C.1 C.2.1 dX8_init_0 rfl (lv_at hl 0 rfl) ?_
  refine r_obj C wo_X8_3 hl.1 ⟨Nat.le_of_ble_eq_true rfl, Nat.le_of_ble_eq_true rfl⟩ dX8_init_1 ?_
  refine lv_aload_n C.1 C.2.1 dX8_init_4 rfl (lv_at hl 0 rfl) ?_
  refine lv_bipush (v := iI 64) C.1 C.2.1 dX8_init_5 (by decide) ?_
  refine r_newJ C (fun q h => Or.inr h) hM 64 rfl (by decide) (Nat.le_of_ble_eq_true rfl) (Nat.le_of_ble_eq_true rfl) dX8_init_7 (fun q7 H1 hM => ?_)
  have hM : XR D (AO a ss.heap.size) ss.heap H1 _ [(a, .inr (8, [.null, .null, .null, .null, .null, .int 0])), (q7, .inl (G 1, 64, .inr (.inl (fJ (fun _ => 0)))))] := hM
  refine r_putF C hnm hM 0 rfl rfl inWX8 tyX8 tyX8_ok nmX8 0 (by decide) wf_X8_9 rfl rfl (v := .ref q7) (ty := (.array .long)) (by decide +kernel) rfl rfl (Nat.le_of_ble_eq_true rfl) dX8_init_9 (fun H1 lc1 hM => ?_)
  have hM : XR D (AO a ss.heap.size) ss.heap H1 lc1 [(a, .inr (8, [.ref q7, .null, .null, .null, .null, .int 0])), (q7, .inl (G 1, 64, .inr (.inl (fJ (fun _ => 0)))))] := hM
  refine lv_aload_n C.1 C.2.1 dX8_init_12 rfl (lv_at hl 0 rfl) ?_
  refine lv_bipush (v := iI 64) C.1 C.2.1 dX8_init_13 (by decide) ?_
  refine r_newI C (fun q h => Or.inr h) hM 64 rfl (by decide) (Nat.le_of_ble_eq_true rfl) (Nat.le_of_ble_eq_true rfl) dX8_init_15 (fun q15 H1 hM => ?_)
  have hM : XR D (AO a ss.heap.size) ss.heap H1 _ [(a, .inr (8, [.ref q7, .null, .null, .null, .null, .int 0])), (q7, .inl (G 1, 64, .inr (.inl (fJ (fun _ => 0))))), (q15, .inl (G 0, 64, .inl (fI (fun _ => 0))))] := hM
  refine r_putF C hnm hM 0 rfl rfl inWX8 tyX8 tyX8_ok nmX8 1 (by decide) wf_X8_15 rfl rfl (v := .ref q15) (ty := (.array .int)) (by decide +kernel) rfl rfl (Nat.le_of_ble_eq_true rfl) dX8_init_17 (fun H1 lc1 hM => ?_)
  have hM : XR D (AO a ss.heap.size) ss.heap H1 lc1 [(a, .inr (8, [.ref q7, .ref q15, .null, .null, .null, .int 0])), (q7, .inl (G 1, 64, .inr (.inl (fJ (fun _ => 0))))), (q15, .inl (G 0, 64, .inl (fI (fun _ => 0))))] := hM
  refine lv_aload_n C.1 C.2.1 dX8_init_20 rfl (lv_at hl 0 rfl) ?_
  refine lv_bipush (v := iI 64) C.1 C.2.1 dX8_init_21 (by decide) ?_
  refine r_newI C (fun q h => Or.inr h) hM 64 rfl (by decide) (Nat.le_of_ble_eq_true rfl) (Nat.le_of_ble_eq_true rfl) dX8_init_23 (fun q23 H1 hM => ?_)
  have hM : XR D (AO a ss.heap.size) ss.heap H1 _ [(a, .inr (8, [.ref q7, .ref q15, .null, .null, .null, .int 0])), (q7, .inl (G 1, 64, .inr (.inl (fJ (fun _ => 0))))), (q15, .inl (G 0, 64, .inl (fI (fun _ => 0)))), (q23, .inl (G 0, 64, .inl (fI (fun _ => 0))))] := hM
  refine r_putF C hnm hM 0 rfl rfl inWX8 tyX8 tyX8_ok nmX8 2 (by decide) wf_X8_19 rfl rfl (v := .ref q23) (ty := (.array .int)) (by decide +kernel) rfl rfl (Nat.le_of_ble_eq_true rfl) dX8_init_25 (fun H1 lc1 hM => ?_)
  have hM : XR D (AO a ss.heap.size) ss.heap H1 lc1 [(a, .inr (8, [.ref q7, .ref q15, .ref q23, .null, .null, .int 0])), (q7, .inl (G 1, 64, .inr (.inl (fJ (fun _ => 0))))), (q15, .inl (G 0, 64, .inl (fI (fun _ => 0)))), (q23, .inl (G 0, 64, .inl (fI (fun _ => 0))))] := hM
  refine lv_aload_n C.1 C.2.1 dX8_init_28 rfl (lv_at hl 0 rfl) ?_
  refine lv_bipush (v := iI 64) C.1 C.2.1 dX8_init_29 (by decide) ?_
  refine r_newI C (fun q h => Or.inr h) hM 64 rfl (by decide) (Nat.le_of_ble_eq_true rfl) (Nat.le_of_ble_eq_true rfl) dX8_init_31 (fun q31 H1 hM => ?_)
  have hM : XR D (AO a ss.heap.size) ss.heap H1 _ [(a, .inr (8, [.ref q7, .ref q15, .ref q23, .null, .null, .int 0])), (q7, .inl (G 1, 64, .inr (.inl (fJ (fun _ => 0))))), (q15, .inl (G 0, 64, .inl (fI (fun _ => 0)))), (q23, .inl (G 0, 64, .inl (fI (fun _ => 0)))), (q31, .inl (G 0, 64, .inl (fI (fun _ => 0))))] := hM
  refine r_putF C hnm hM 0 rfl rfl inWX8 tyX8 tyX8_ok nmX8 3 (by decide) wf_X8_22 rfl rfl (v := .ref q31) (ty := (.array .int)) (by decide +kernel) rfl rfl (Nat.le_of_ble_eq_true rfl) dX8_init_33 (fun H1 lc1 hM => ?_)
  have hM : XR D (AO a ss.heap.size) ss.heap H1 lc1 [(a, .inr (8, [.ref q7, .ref q15, .ref q23, .ref q31, .null, .int 0])), (q7, .inl (G 1, 64, .inr (.inl (fJ (fun _ => 0))))), (q15, .inl (G 0, 64, .inl (fI (fun _ => 0)))), (q23, .inl (G 0, 64, .inl (fI (fun _ => 0)))), (q31, .inl (G 0, 64, .inl (fI (fun _ => 0))))] := hM
  refine lv_aload_n C.1 C.2.1 dX8_init_36 rfl (lv_at hl 0 rfl) ?_
  refine lv_bipush (v := iI 64) C.1 C.2.1 dX8_init_37 (by decide) ?_
  refine r_newI C (fun q h => Or.inr h) hM 64 rfl (by decide) (Nat.le_of_ble_eq_true rfl) (Nat.le_of_ble_eq_true rfl) dX8_init_39 (fun q39 H1 hM => ?_)
  have hM : XR D (AO a ss.heap.size) ss.heap H1 _ [(a, .inr (8, [.ref q7, .ref q15, .ref q23, .ref q31, .null, .int 0])), (q7, .inl (G 1, 64, .inr (.inl (fJ (fun _ => 0))))), (q15, .inl (G 0, 64, .inl (fI (fun _ => 0)))), (q23, .inl (G 0, 64, .inl (fI (fun _ => 0)))), (q31, .inl (G 0, 64, .inl (fI (fun _ => 0)))), (q39, .inl (G 0, 64, .inl (fI (fun _ => 0))))] := hM
  refine r_putF C hnm hM 0 rfl rfl inWX8 tyX8 tyX8_ok nmX8 4 (by decide) wf_X8_25 rfl rfl (v := .ref q39) (ty := (.array .int)) (by decide +kernel) rfl rfl (Nat.le_of_ble_eq_true rfl) dX8_init_41 (fun H1 lc1 hM => ?_)
  have hM : XR D (AO a ss.heap.size) ss.heap H1 lc1 [(a, .inr (8, [.ref q7, .ref q15, .ref q23, .ref q31, .ref q39, .int 0])), (q7, .inl (G 1, 64, .inr (.inl (fJ (fun _ => 0))))), (q15, .inl (G 0, 64, .inl (fI (fun _ => 0)))), (q23, .inl (G 0, 64, .inl (fI (fun _ => 0)))), (q31, .inl (G 0, 64, .inl (fI (fun _ => 0)))), (q39, .inl (G 0, 64, .inl (fI (fun _ => 0))))] := hM
  refine lv_aload_n C.1 C.2.1 dX8_init_44 rfl (lv_at hl 0 rfl) ?_
  refine lv_bipush (v := iI 32) C.1 C.2.1 dX8_init_45 (by decide) ?_
  refine r_put C hM 0 rfl rfl inWX8 tyX8 tyX8_ok nmX8 5 (by decide) wf_X8_28 rfl (v := .int (iI 32)) (ty := .int) (by decide +kernel) rfl rfl (Nat.le_of_ble_eq_true rfl) dX8_init_47 (fun H1 lc1 hM => ?_)
  have hM : XR D (AO a ss.heap.size) ss.heap H1 lc1 [(a, .inr (8, [.ref q7, .ref q15, .ref q23, .ref q31, .ref q39, .int (iI 32)])), (q7, .inl (G 1, 64, .inr (.inl (fJ (fun _ => 0))))), (q15, .inl (G 0, 64, .inl (fI (fun _ => 0)))), (q23, .inl (G 0, 64, .inl (fI (fun _ => 0)))), (q31, .inl (G 0, 64, .inl (fI (fun _ => 0)))), (q39, .inl (G 0, 64, .inl (fI (fun _ => 0))))] := hM
  exact r_vret C hr hM (⟨q7, q15, q23, q31, q39, rfl⟩) dX8_init_50
abbrev pX1 (G : Nat → Nat) (a : Nat) (w : va_W) : Prop := ∃ b1 b2 b3 : Nat, w = [(a, .inr (1, [.ref b1, .ref b2, .ref b3, .int 0])), (b1, .inl (G 1, 30, .inr (.inl (fJ (fun _ => 0))))), (b2, .inl (G 0, 30, .inl (fI (fun _ => 0)))), (b3, .inl (G 0, 30, .inl (fI (fun _ => 0))))]
set_option maxRecDepth 100000 in
set_option maxHeartbeats 4000000 in
theorem c_X1_init (l : Launch) (D : va_G) (G : Nat → Nat) : NEWC l yX1_init cX1_init 1 1 3 90 [] D G 1 [.null, .null, .null, .int 0] (pX1 G) := by
  refine x_enterN (by decide) rfl (fun _ => Nat.le_of_ble_eq_true rfl) ?_
  intro a pp ee ss mm args below meth cq C hAV hr hnm ls hl hM
  have hl : lv_has ls 1 [(0, .ref a)] := hl
  refine lv_aload_n C.1 C.2.1 dX1_init_0 rfl (lv_at hl 0 rfl) ?_
  refine r_obj C wo_X1_3 hl.1 ⟨Nat.le_of_ble_eq_true rfl, Nat.le_of_ble_eq_true rfl⟩ dX1_init_1 ?_
  refine lv_aload_n C.1 C.2.1 dX1_init_4 rfl (lv_at hl 0 rfl) ?_
  refine lv_bipush (v := iI 30) C.1 C.2.1 dX1_init_5 (by decide) ?_
  refine r_newJ C (fun q h => Or.inr h) hM 30 rfl (by decide) (Nat.le_of_ble_eq_true rfl) (Nat.le_of_ble_eq_true rfl) dX1_init_7 (fun q7 H1 hM => ?_)
  have hM : XR D (AO a ss.heap.size) ss.heap H1 _ [(a, .inr (1, [.null, .null, .null, .int 0])), (q7, .inl (G 1, 30, .inr (.inl (fJ (fun _ => 0)))))] := hM
  refine r_putF C hnm hM 0 rfl rfl inWX1 tyX1 tyX1_ok nmX1 0 (by decide) wf_X1_9 rfl rfl (v := .ref q7) (ty := (.array .long)) (by decide +kernel) rfl rfl (Nat.le_of_ble_eq_true rfl) dX1_init_9 (fun H1 lc1 hM => ?_)
  have hM : XR D (AO a ss.heap.size) ss.heap H1 lc1 [(a, .inr (1, [.ref q7, .null, .null, .int 0])), (q7, .inl (G 1, 30, .inr (.inl (fJ (fun _ => 0)))))] := hM
  refine lv_aload_n C.1 C.2.1 dX1_init_12 rfl (lv_at hl 0 rfl) ?_
  refine lv_bipush (v := iI 30) C.1 C.2.1 dX1_init_13 (by decide) ?_
  refine r_newI C (fun q h => Or.inr h) hM 30 rfl (by decide) (Nat.le_of_ble_eq_true rfl) (Nat.le_of_ble_eq_true rfl) dX1_init_15 (fun q15 H1 hM => ?_)
  have hM : XR D (AO a ss.heap.size) ss.heap H1 _ [(a, .inr (1, [.ref q7, .null, .null, .int 0])), (q7, .inl (G 1, 30, .inr (.inl (fJ (fun _ => 0))))), (q15, .inl (G 0, 30, .inl (fI (fun _ => 0))))] := hM
  refine r_putF C hnm hM 0 rfl rfl inWX1 tyX1 tyX1_ok nmX1 1 (by decide) wf_X1_15 rfl rfl (v := .ref q15) (ty := (.array .int)) (by decide +kernel) rfl rfl (Nat.le_of_ble_eq_true rfl) dX1_init_17 (fun H1 lc1 hM => ?_)
  have hM : XR D (AO a ss.heap.size) ss.heap H1 lc1 [(a, .inr (1, [.ref q7, .ref q15, .null, .int 0])), (q7, .inl (G 1, 30, .inr (.inl (fJ (fun _ => 0))))), (q15, .inl (G 0, 30, .inl (fI (fun _ => 0))))] := hM
  refine lv_aload_n C.1 C.2.1 dX1_init_20 rfl (lv_at hl 0 rfl) ?_
  refine lv_bipush (v := iI 30) C.1 C.2.1 dX1_init_21 (by decide) ?_
  refine r_newI C (fun q h => Or.inr h) hM 30 rfl (by decide) (Nat.le_of_ble_eq_true rfl) (Nat.le_of_ble_eq_true rfl) dX1_init_23 (fun q23 H1 hM => ?_)
  have hM : XR D (AO a ss.heap.size) ss.heap H1 _ [(a, .inr (1, [.ref q7, .ref q15, .null, .int 0])), (q7, .inl (G 1, 30, .inr (.inl (fJ (fun _ => 0))))), (q15, .inl (G 0, 30, .inl (fI (fun _ => 0)))), (q23, .inl (G 0, 30, .inl (fI (fun _ => 0))))] := hM
  refine r_putF C hnm hM 0 rfl rfl inWX1 tyX1 tyX1_ok nmX1 2 (by decide) wf_X1_19 rfl rfl (v := .ref q23) (ty := (.array .int)) (by decide +kernel) rfl rfl (Nat.le_of_ble_eq_true rfl) dX1_init_25 (fun H1 lc1 hM => ?_)
  have hM : XR D (AO a ss.heap.size) ss.heap H1 lc1 [(a, .inr (1, [.ref q7, .ref q15, .ref q23, .int 0])), (q7, .inl (G 1, 30, .inr (.inl (fJ (fun _ => 0))))), (q15, .inl (G 0, 30, .inl (fI (fun _ => 0)))), (q23, .inl (G 0, 30, .inl (fI (fun _ => 0))))] := hM
  exact r_vret C hr hM (⟨q7, q15, q23, rfl⟩) dX1_init_28
