/-! the reference's object, whole -/
def σM : Sg := fun r => if r = 202 ∨ r = 203 then (fun i => if i = 0 then 0 else 3) else if r = 205 then fun _ => 10 else if r = 206 then fun _ => 2 else if r = 207 ∨ r = 208 then fun _ => 1 else if r = 209 then fun _ => 32 else if r = 219 ∨ r = 231 then fun _ => -1 else fun _ => 0
theorem σM_0 {r : Nat} (h : ¬ (202 ≤ r ∧ r ≤ 209) ∧ r ≠ 219 ∧ r ≠ 231) : σM r = fun _ => 0 := by
  unfold σM
  rw [if_neg (by omega), if_neg (by omega), if_neg (by omega), if_neg (by omega), if_neg (by omega), if_neg (by omega)]
theorem im2_eq : IM2 = [102, 103] ++ (List.range 12).map (fun i => 104 + i) ++ [116, 117] ++ (List.range 64).map (fun i => 118 + i) ++ [182] ++ (List.range 12).map (fun i => 183 + i) ++ [195] ++ (List.range 5).map (fun i => 196 + i) ++ [201, 202] ++ (List.range 30).map (fun i => 203 + i) := by decide +kernel
def adM (a qg ql qk qs qt qc qp qq : Nat) (r1 r2 r3 r4 r5 : Nat → Nat) : Nat → Nat := fun k => if k = 100 then a else if k = 102 then qg else if k = 103 then ql else if k < 116 then r1 (k - 104) else if k = 116 then qk else if k = 117 then qs else if k < 182 then r2 (k - 118) else if k = 182 then qt else if k < 195 then r3 (k - 183) else if k = 195 then qc else if k < 201 then r4 (k - 196) else if k = 201 then qp else if k = 202 then qq else r5 (k - 203)
section ADM
variable {a qg ql qk qs qt qc qp qq : Nat} {r1 r2 r3 r4 r5 : Nat → Nat} {i : Nat}
theorem adM_1 (h : i < 12) : adM a qg ql qk qs qt qc qp qq r1 r2 r3 r4 r5 (104 + i) = r1 i := by
  unfold adM
  rw [if_neg (by omega), if_neg (by omega), if_neg (by omega), if_pos (by omega), Nat.add_sub_cancel_left]
theorem adM_2 (h : i < 64) : adM a qg ql qk qs qt qc qp qq r1 r2 r3 r4 r5 (118 + i) = r2 i := by
  unfold adM
  rw [if_neg (by omega), if_neg (by omega), if_neg (by omega), if_neg (by omega), if_neg (by omega), if_neg (by omega), if_pos (by omega), Nat.add_sub_cancel_left]
theorem adM_3 (h : i < 12) : adM a qg ql qk qs qt qc qp qq r1 r2 r3 r4 r5 (183 + i) = r3 i := by
  unfold adM
  rw [if_neg (by omega), if_neg (by omega), if_neg (by omega), if_neg (by omega), if_neg (by omega), if_neg (by omega), if_neg (by omega), if_neg (by omega), if_pos (by omega), Nat.add_sub_cancel_left]
theorem adM_4 (h : i < 5) : adM a qg ql qk qs qt qc qp qq r1 r2 r3 r4 r5 (196 + i) = r4 i := by
  unfold adM
  rw [if_neg (by omega), if_neg (by omega), if_neg (by omega), if_neg (by omega), if_neg (by omega), if_neg (by omega), if_neg (by omega), if_neg (by omega), if_neg (by omega), if_neg (by omega), if_pos (by omega), Nat.add_sub_cancel_left]
theorem adM_5 (h : i < 30) : adM a qg ql qk qs qt qc qp qq r1 r2 r3 r4 r5 (203 + i) = r5 i := by
  unfold adM
  rw [if_neg (by omega), if_neg (by omega), if_neg (by omega), if_neg (by omega), if_neg (by omega), if_neg (by omega), if_neg (by omega), if_neg (by omega), if_neg (by omega), if_neg (by omega), if_neg (by omega), if_neg (by omega), if_neg (by omega), Nat.add_sub_cancel_left]
end ADM
abbrev rfE (G : Nat → Nat) (q n : Nat) (f : Nat → Option Nat) : Nat × va_E := (q, .inl (G 4, n, .inr (.inr (.inr (.inr f)))))
theorem seg_eq (ad : Nat → Nat) (G : Nat → Nat) (σ : Sg) (n b k : Nat) (r : Nat → Nat) (h1 : ∀ i, i < n → ad (b + i) = r i) (h2 : ∀ i, i < n → cell ad G σ (b + i) = .inl (G 0, k, .inl (fI (fun _ => 0)))) : ((List.range n).map (fun i => b + i)).map (fun j => (ad j, cell ad G σ j)) = rws G n k r := by
  rw [List.map_map]
  refine List.map_congr_left (fun i hi => ?_)
  have hi := List.mem_range.mp hi
  show (ad (b + i), cell ad G σ (b + i)) = _
  rw [h1 i hi, h2 i hi]
theorem row0 (b n : Nat) (i : Int) (h : ∀ j, j < n → σM (b + j) = fun _ => 0) : rowF σM b n i = fI (fun _ => 0) := by
  funext j
  unfold rowF
  by_cases e : j < n
  · rw [if_pos e, h j e]; rfl
  · rw [if_neg e]; rfl
theorem wgM_eq (G : Nat → Nat) (a qg ql qk qs qt qc qp qq : Nat) (r1 r2 r3 r4 r5 ad : Nat → Nat) (had : ad = adM a qg ql qk qs qt qc qp qq r1 r2 r3 r4 r5) : WG ad G IM2 σM = [zI G qg 80, rfE G ql 12 (fun j => some (ad (104 + j)))] ++ rws G 12 75 r1 ++ [zJ G qk 64, rfE G qs 64 (fun j => some (ad (118 + j)))] ++ rws G 64 4 r2 ++ [rfE G qt 12 (fun j => some (ad (183 + j)))] ++ rws G 12 75 r3 ++ [rfE G qc 5 (fun j => some (ad (196 + j)))] ++ rws G 5 2 r4 ++ [zJ G qp 30, rfE G qq 30 (fun j => some (ad (203 + j)))] ++ rws G 30 2 r5 := by
  unfold WG
  rw [im2_eq]
  simp only [List.map_append]
  have s1 := seg_eq ad G σM 12 104 75 r1 (fun i hi => by rw [had]; exact adM_1 hi) (fun i hi => by rw [cx_li _ _ _ hi, σM_0 (by omega)])
  have s2 := seg_eq ad G σM 64 118 4 r2 (fun i hi => by rw [had]; exact adM_2 hi) (fun i hi => by rw [cx_ts _ _ _ hi, row0 211 4 _ (fun j hj => σM_0 (by omega))])
  have s3 := seg_eq ad G σM 12 183 75 r3 (fun i hi => by rw [had]; exact adM_3 hi) (fun i hi => by rw [cx_tr _ _ _ hi, σM_0 (by omega)])
  have s4 := seg_eq ad G σM 5 196 2 r4 (fun i hi => by rw [had]; exact adM_4 hi) (fun i hi => by rw [cx_ki _ _ _ hi, row0 217 2 _ (fun j hj => σM_0 (by omega))])
  have s5 := seg_eq ad G σM 30 203 2 r5 (fun i hi => by rw [had]; exact adM_5 hi) (fun i hi => by rw [cx_pg _ _ _ hi, row0 225 2 _ (fun j hj => σM_0 (by omega))])
  have t1 : ([102, 103] : List Nat).map (fun j => (ad j, cell ad G σM j)) = [zI G qg 80, rfE G ql 12 (fun j => some (ad (104 + j)))] := by
    have e1 : cell ad G σM 102 = .inl (G 0, 80, .inl (fI (fun _ => 0))) := by
      rw [cx_102]
      congr 4
      funext j
      show iI (if j % 2 = 0 then (0 : Int) else 0) = iI 0
      split <;> rfl
    show [(ad 102, cell ad G σM 102), (ad 103, cell ad G σM 103)] = _
    rw [e1, cx_103, had]
    rfl
  have t2 : ([116, 117] : List Nat).map (fun j => (ad j, cell ad G σM j)) = [zJ G qk 64, rfE G qs 64 (fun j => some (ad (118 + j)))] := by
    show [(ad 116, cell ad G σM 116), (ad 117, cell ad G σM 117)] = _
    rw [cx_116, cx_117, had]
    rfl
  have t3 : ([182] : List Nat).map (fun j => (ad j, cell ad G σM j)) = [rfE G qt 12 (fun j => some (ad (183 + j)))] := by
    show [(ad 182, cell ad G σM 182)] = _
    rw [cx_182, had]
    rfl
  have t4 : ([195] : List Nat).map (fun j => (ad j, cell ad G σM j)) = [rfE G qc 5 (fun j => some (ad (196 + j)))] := by
    show [(ad 195, cell ad G σM 195)] = _
    rw [cx_195, had]
    rfl
  have t5 : ([201, 202] : List Nat).map (fun j => (ad j, cell ad G σM j)) = [zJ G qp 30, rfE G qq 30 (fun j => some (ad (203 + j)))] := by
    show [(ad 201, cell ad G σM 201), (ad 202, cell ad G σM 202)] = _
    rw [cx_201, cx_202, had]
    rfl
  rw [s1, s2, s3, s4, s5, t1, t2, t3, t4, t5]
def pX12 (G : Nat → Nat) (a : Nat) (w : va_W) : Prop := ∃ ad : Nat → Nat, ad 100 = a ∧ w = WG ad G IM (laR (lay0 σM 3 3) (3 * 3) (1 * 3))
theorem M_TI : TI (mw σM) := by
  have z : ∀ r : Nat, (10 ≤ r ∧ r ≤ 14) ∨ r = 17 ∨ r = 18 → mw σM r = fun _ => 0 := fun r hr => σM_0 (by omega)
  have e9 : mw σM 9 0 = 32 := rfl
  refine ⟨by rw [e9]; decide, fun s => ?_, fun d => ?_⟩
  · rw [z 11 (by omega), z 12 (by omega), z 13 (by omega), z 14 (by omega), z 10 (by omega)]
    show (0 ≤ (0 : Int) ∧ (0 : Int) ≤ 4) ∧ (-10000 ≤ (0 : Int) ∧ (0 : Int) ≤ 10000) ∧ (0 ≤ (0 : Int) ∧ (0 : Int) ≤ 2) ∧ (-1 ≤ (0 : Int) ∧ (0 : Int) < 2500) ∧ 0 ≤ (0 : Int) ∧ (0 : Int) < 4000000000000000000
    decide
  · rw [z 17 (by omega), z 18 (by omega)]
    show (-1 ≤ (0 : Int) ∧ (0 : Int) < 2500) ∧ -1 ≤ (0 : Int) ∧ (0 : Int) < 2500
    decide
section XLN
variable {p : Program} {l : Launch} {e : Env} {R : Room} {s : State} {m : MethodId} {args : Array Value} {below : List Frame} {meth : Method} {c : Code} {H : Heap} {locs : List Loc} {cells slots mc ms : Nat} {Q : State → Prop}
variable {cc : ByteArray} {nL : Nat} {own : String} {D : va_G} {ad : Nat → Nat} {G : Nat → Nat} {A : Nat → Prop} {H0 : Heap} {σ : Sg} {E : va_W} {pc : Nat} {ls : Array Slot} {rest : List Value}
theorem x_layN (C : Cx p s m meth c args cc nL RX12 D G) (hA : ∀ q, H0.size ≤ q → A q) (hh : 4 + 1 ≤ R.frames ∧ 8 + (5 + 11) + 160 ≤ R.locals) (hX : XR D A H0 H locs (WG ad G IM2 σ ++ [(ad 100, .inr (12, fsM ad σ .null))])) {w h f : Int} (hw : 3 ≤ w ∧ w ≤ 5) (hh2 : 3 ≤ h ∧ h ≤ 5) (hf2 : 1 ≤ f ∧ 2 * f < h) (hT : TI (mw σ)) {idx : Nat} (cw : CWd RX12 idx yX12_lay cX12_lay 5 none 3) (hW : (rest.map fun v => v.category).sum ≤ 8) (hls : ls.size = nL) (hdg : decode cc pc = .ok (.invokevirtual idx, 3)) (hf : cells + 1 ≤ R.cells ∧ slots + 26 ≤ R.slots)
    (kk : ∀ (q : Nat) (H1 : Heap) (locs1 : List Loc), XR D A H0 H1 locs1 (WG (va_up ad 101 q) G IM (laR (lay0 σ w h) (w * h) (f * w))) → W p l e R s m args below meth c H1 locs1 (cells + 1) (slots + 26) Q (F0 m (pc + 3) ls rest)) : W p l e R s m args below meth c H locs cells slots Q (F0 m pc ls (.int (iI f) :: .int (iI h) :: .int (iI w) :: .ref (ad 100) :: rest)) := by
  obtain ⟨hx, hb, hml, hown, hts, hK, hN, hlk⟩ := id C
  obtain ⟨⟨w1, w2, w3, w4, w5⟩, hd, hL⟩ := cw
  have hg : GoodIn WA (wsV RX12 idx yX12_lay.cls yX12_lay (Cond.code yX12_lay cX12_lay 5 none :: WA)) := by
    intro w hw
    unfold wsV at hw
    rcases List.mem_append.mp hw with hw | hw
    · simp only [List.mem_cons, List.not_mem_nil, or_false] at hw
      rcases hw with rfl | rfl | rfl | rfl
      · exact gin_one w1
      · exact gin_one w2
      · exact gin_one w3
      · exact gin_one w4
    · exact gin_code w5 w hw
  have h2 := app_at (WG ad G IM2 σ) (ad 100, (.inr (12, fsM ad σ .null) : va_E))
  have hrc := va_recv (q := (RX12, TX12, 26)) hK hX.1 rfl h2
  have hpre : ∀ U : State, U.heap = H → s.WarmedH U.vm → va_Pc (.ref (ad 100) :: [.int (iI w), .int (iI h), .int (iI f)]) (PLY D ad G σ .null H.size) (Value.ref (ad 100) :: [.int (iI w), .int (iI h), .int (iI f)]).toArray U := by
    intro U hU hWm
    refine ⟨rfl, by rw [hU], ?_, ⟨va_K.moved hWm.alike hK, NW_warm hWm hN⟩, ?_⟩
    · rw [hU]; exact hX.1
    · exact hX.2.1.weaken (fun _ _ _ _ => trivial)
  have hin : ∀ q, AN ad (100 :: IM2) H.size q → A q := by
    rintro q (⟨k, hk, rfl⟩ | h9)
    · rcases List.mem_cons.mp hk with rfl | hk
      · exact hX.2.1.2 _ _ h2
      · obtain ⟨i, hi⟩ := List.getElem?_of_mem hk
        have h3 := wg_get ad G σ hi
        exact hX.2.1.2 i _ (by rw [List.getElem?_append_left (List.getElem?_eq_some_iff.mp h3).1]; exact h3)
    · exact hA q (Nat.le_trans hX.2.2.1 h9)
  have hr : va_Run p l e R s m args below meth c H locs cells slots 1 26 (F0 m pc ls (.int (iI f) :: .int (iI h) :: .int (iI w) :: .ref (ad 100) :: rest)) rest (QLY D ad G (laR (lay0 σ w h) (w * h) (f * w)) H.size (Value.ref (ad 100) :: [.int (iI w), .int (iI h), .int (iI f)]).toArray) (AN ad (100 :: IM2) H.size) := va_runV (As := [.int (iI w), .int (iI h), .int (iI f)]) (rest := rest) (nL := nL) (own := RX12) (C := yX12_lay.cls) ⟨hx, hb, hml, hown, hts⟩ (c_X12_lay l D ad G σ .null w h f hw hh2 hf2 hT H.size) (cwV 3 hts hg rfl rfl rfl ⟨rfl, hd⟩ hh) ⟨ply_blind, hrc, hpre⟩ rfl rfl hls rfl (lv_room hW) hdg hf
  refine va_callv hr hX.2.2 (fun q _ h => hin q h) hin (fun q t H1 locs1 ht hvm hp hB hz hk hS => ?_)
  rw [ht] at hB
  exact kk q H1 locs1 ⟨hB.1, hB.2.weaken (fun _ x _ hx => hin x.1 hx), hS⟩
end XLN
set_option maxRecDepth 1000000 in
set_option maxHeartbeats 40000000 in
theorem c_X12_init (l : Launch) (D : va_G) (G : Nat → Nat) : NEWC l yX12_init cX12_init 1 6 132 2449 [] D G 12 [.int 0, .int 0, .int 0, .null, .null, .int 0, .int 0, .int 0, .int 0, .int 0, .null, .int 0, .null, .null, .null, .null, .int 0, .int 0, .int 0, .int 0, .int 0, .int 0, .int 0, .null, .null, .long 0] (pX12 G) := by
  refine x_enterN (by decide) rfl (fun _ => Nat.le_of_ble_eq_true rfl) ?_
  intro a pp ee ss mm args below meth cq C hAV hr hnm ls hl hM
  have hl : lv_has ls 1 [(0, .ref a)] := hl
  have hM : XR D (AO a ss.heap.size) ss.heap ss.heap [] ((a, .inr (12, [.int 0, .int 0, .int 0, .null, .null, .int 0, .int 0, .int 0, .int 0, .int 0, .null, .int 0, .null, .null, .null, .null, .int 0, .int 0, .int 0, .int 0, .int 0, .int 0, .int 0, .null, .null, .long 0])) :: []) := hM
  refine lv_aload_n C.1 C.2.1 dX12_init_0 rfl (lv_at hl 0 rfl) ?_
  refine r_obj C wo_X12_1 hl.1 ⟨Nat.le_of_ble_eq_true rfl, Nat.le_of_ble_eq_true rfl⟩ dX12_init_1 ?_
  refine lv_aload_n C.1 C.2.1 dX12_init_4 rfl (lv_at hl 0 rfl) ?_
  refine lv_bipush (v := iI 80) C.1 C.2.1 dX12_init_5 (by decide) ?_
  refine r_newI C (fun q h => Or.inr h) hM 80 rfl (by decide) (Nat.le_of_ble_eq_true rfl) (Nat.le_of_ble_eq_true rfl) dX12_init_7 (fun q7 H1 hM => ?_)
  have hM : XR D (AO a ss.heap.size) ss.heap H1 _ ((a, .inr (12, [.int 0, .int 0, .int 0, .null, .null, .int 0, .int 0, .int 0, .int 0, .int 0, .null, .int 0, .null, .null, .null, .null, .int 0, .int 0, .int 0, .int 0, .int 0, .int 0, .int 0, .null, .null, .long 0])) :: (([]) ++ [zI G q7 80])) := hM
  refine r_putF C hnm hM 0 rfl rfl inWX12 tyX12 tyX12_ok nmX12 4 (by decide) wf_X12_9 rfl rfl (v := .ref q7) (ty := (.array .int)) (by decide +kernel) rfl rfl (Nat.le_of_ble_eq_true rfl) dX12_init_9 (fun H1 lc1 hM => ?_)
  have hM : XR D (AO a ss.heap.size) ss.heap H1 lc1 ((a, .inr (12, [.int 0, .int 0, .int 0, .null, .ref q7, .int 0, .int 0, .int 0, .int 0, .int 0, .null, .int 0, .null, .null, .null, .null, .int 0, .int 0, .int 0, .int 0, .int 0, .int 0, .int 0, .null, .null, .long 0])) :: (([]) ++ [zI G q7 80])) := hM
  refine lv_aload_n C.1 C.2.1 dX12_init_12 rfl (lv_at hl 0 rfl) ?_
  refine lv_bipush (v := iI 10) C.1 C.2.1 dX12_init_13 (by decide) ?_
  refine r_put C hM 0 rfl rfl inWX12 tyX12 tyX12_ok nmX12 6 (by decide) wf_X12_13 rfl (v := .int (iI 10)) (ty := .int) (by decide +kernel) rfl rfl (Nat.le_of_ble_eq_true rfl) dX12_init_15 (fun H1 lc1 hM => ?_)
  have hM : XR D (AO a ss.heap.size) ss.heap H1 lc1 ((a, .inr (12, [.int 0, .int 0, .int 0, .null, .ref q7, .int 0, .int (iI 10), .int 0, .int 0, .int 0, .null, .int 0, .null, .null, .null, .null, .int 0, .int 0, .int 0, .int 0, .int 0, .int 0, .int 0, .null, .null, .long 0])) :: (([]) ++ [zI G q7 80])) := hM
  refine lv_aload_n C.1 C.2.1 dX12_init_18 rfl (lv_at hl 0 rfl) ?_
  refine lv_iconst (v := iI 2) C.1 C.2.1 dX12_init_19 (by decide) ?_
  refine r_put C hM 0 rfl rfl inWX12 tyX12 tyX12_ok nmX12 7 (by decide) wf_X12_17 rfl (v := .int (iI 2)) (ty := .int) (by decide +kernel) rfl rfl (Nat.le_of_ble_eq_true rfl) dX12_init_20 (fun H1 lc1 hM => ?_)
  have hM : XR D (AO a ss.heap.size) ss.heap H1 lc1 ((a, .inr (12, [.int 0, .int 0, .int 0, .null, .ref q7, .int 0, .int (iI 10), .int (iI 2), .int 0, .int 0, .null, .int 0, .null, .null, .null, .null, .int 0, .int 0, .int 0, .int 0, .int 0, .int 0, .int 0, .null, .null, .long 0])) :: (([]) ++ [zI G q7 80])) := hM
  refine lv_aload_n C.1 C.2.1 dX12_init_23 rfl (lv_at hl 0 rfl) ?_
  refine lv_iconst (v := iI 1) C.1 C.2.1 dX12_init_24 (by decide) ?_
  refine r_put C hM 0 rfl rfl inWX12 tyX12 tyX12_ok nmX12 8 (by decide) wf_X12_20 rfl (v := .int (iI 1)) (ty := .int) (by decide +kernel) rfl rfl (Nat.le_of_ble_eq_true rfl) dX12_init_25 (fun H1 lc1 hM => ?_)
  have hM : XR D (AO a ss.heap.size) ss.heap H1 lc1 ((a, .inr (12, [.int 0, .int 0, .int 0, .null, .ref q7, .int 0, .int (iI 10), .int (iI 2), .int (iI 1), .int 0, .null, .int 0, .null, .null, .null, .null, .int 0, .int 0, .int 0, .int 0, .int 0, .int 0, .int 0, .null, .null, .long 0])) :: (([]) ++ [zI G q7 80])) := hM
  refine lv_aload_n C.1 C.2.1 dX12_init_28 rfl (lv_at hl 0 rfl) ?_
  refine lv_iconst (v := iI 1) C.1 C.2.1 dX12_init_29 (by decide) ?_
  refine r_put C hM 0 rfl rfl inWX12 tyX12 tyX12_ok nmX12 9 (by decide) wf_X12_23 rfl (v := .int (iI 1)) (ty := .boolean) (by decide +kernel) rfl rfl (Nat.le_of_ble_eq_true rfl) dX12_init_30 (fun H1 lc1 hM => ?_)
  have hM : XR D (AO a ss.heap.size) ss.heap H1 lc1 ((a, .inr (12, [.int 0, .int 0, .int 0, .null, .ref q7, .int 0, .int (iI 10), .int (iI 2), .int (iI 1), .int (iI 1), .null, .int 0, .null, .null, .null, .null, .int 0, .int 0, .int 0, .int 0, .int 0, .int 0, .int 0, .null, .null, .long 0])) :: (([]) ++ [zI G q7 80])) := hM
  refine lv_aload_n C.1 C.2.1 dX12_init_33 rfl (lv_at hl 0 rfl) ?_
  refine lv_bipush (v := iI 12) C.1 C.2.1 dX12_init_34 (by decide) ?_
  refine lv_bipush (v := iI 75) C.1 C.2.1 dX12_init_36 (by decide) ?_
  refine r_mna C hAV (fun q h => Or.inr h) hM cl_X12_27 12 75 rfl rfl (by decide) (by decide) (Nat.le_of_ble_eq_true rfl) (Nat.le_of_ble_eq_true rfl) dX12_init_38 (fun q38 r1 H1 hM => ?_)
  have hM : XR D (AO a ss.heap.size) ss.heap H1 _ ((a, .inr (12, [.int 0, .int 0, .int 0, .null, .ref q7, .int 0, .int (iI 10), .int (iI 2), .int (iI 1), .int (iI 1), .null, .int 0, .null, .null, .null, .null, .int 0, .int 0, .int 0, .int 0, .int 0, .int 0, .int 0, .null, .null, .long 0])) :: ((([]) ++ [zI G q7 80]) ++ [rfE G q38 12 (fun i => if i < 12 then some (r1 i) else none)] ++ rws G 12 75 r1)) := hM
  refine r_putF C hnm hM 0 rfl rfl inWX12 tyX12 tyX12_ok nmX12 10 (by decide) wf_X12_29 rfl rfl (v := .ref q38) (ty := (.array (.array .int))) (by decide +kernel) rfl rfl (Nat.le_of_ble_eq_true rfl) dX12_init_42 (fun H1 lc1 hM => ?_)
  have hM : XR D (AO a ss.heap.size) ss.heap H1 lc1 ((a, .inr (12, [.int 0, .int 0, .int 0, .null, .ref q7, .int 0, .int (iI 10), .int (iI 2), .int (iI 1), .int (iI 1), .ref q38, .int 0, .null, .null, .null, .null, .int 0, .int 0, .int 0, .int 0, .int 0, .int 0, .int 0, .null, .null, .long 0])) :: ((([]) ++ [zI G q7 80]) ++ [rfE G q38 12 (fun i => if i < 12 then some (r1 i) else none)] ++ rws G 12 75 r1)) := hM
  refine lv_aload_n C.1 C.2.1 dX12_init_45 rfl (lv_at hl 0 rfl) ?_
  refine lv_bipush (v := iI 32) C.1 C.2.1 dX12_init_46 (by decide) ?_
  refine r_put C hM 0 rfl rfl inWX12 tyX12 tyX12_ok nmX12 11 (by decide) wf_X12_32 rfl (v := .int (iI 32)) (ty := .int) (by decide +kernel) rfl rfl (Nat.le_of_ble_eq_true rfl) dX12_init_48 (fun H1 lc1 hM => ?_)
  have hM : XR D (AO a ss.heap.size) ss.heap H1 lc1 ((a, .inr (12, [.int 0, .int 0, .int 0, .null, .ref q7, .int 0, .int (iI 10), .int (iI 2), .int (iI 1), .int (iI 1), .ref q38, .int (iI 32), .null, .null, .null, .null, .int 0, .int 0, .int 0, .int 0, .int 0, .int 0, .int 0, .null, .null, .long 0])) :: ((([]) ++ [zI G q7 80]) ++ [rfE G q38 12 (fun i => if i < 12 then some (r1 i) else none)] ++ rws G 12 75 r1)) := hM
  refine lv_aload_n C.1 C.2.1 dX12_init_51 rfl (lv_at hl 0 rfl) ?_
  refine lv_bipush (v := iI 64) C.1 C.2.1 dX12_init_52 (by decide) ?_
  refine r_newJ C (fun q h => Or.inr h) hM 64 rfl (by decide) (Nat.le_of_ble_eq_true rfl) (Nat.le_of_ble_eq_true rfl) dX12_init_54 (fun q54 H1 hM => ?_)
  have hM : XR D (AO a ss.heap.size) ss.heap H1 _ ((a, .inr (12, [.int 0, .int 0, .int 0, .null, .ref q7, .int 0, .int (iI 10), .int (iI 2), .int (iI 1), .int (iI 1), .ref q38, .int (iI 32), .null, .null, .null, .null, .int 0, .int 0, .int 0, .int 0, .int 0, .int 0, .int 0, .null, .null, .long 0])) :: (((([]) ++ [zI G q7 80]) ++ [rfE G q38 12 (fun i => if i < 12 then some (r1 i) else none)] ++ rws G 12 75 r1) ++ [zJ G q54 64])) := hM
  refine r_putF C hnm hM 0 rfl rfl inWX12 tyX12 tyX12_ok nmX12 12 (by decide) wf_X12_35 rfl rfl (v := .ref q54) (ty := (.array .long)) (by decide +kernel) rfl rfl (Nat.le_of_ble_eq_true rfl) dX12_init_56 (fun H1 lc1 hM => ?_)
  have hM : XR D (AO a ss.heap.size) ss.heap H1 lc1 ((a, .inr (12, [.int 0, .int 0, .int 0, .null, .ref q7, .int 0, .int (iI 10), .int (iI 2), .int (iI 1), .int (iI 1), .ref q38, .int (iI 32), .ref q54, .null, .null, .null, .int 0, .int 0, .int 0, .int 0, .int 0, .int 0, .int 0, .null, .null, .long 0])) :: (((([]) ++ [zI G q7 80]) ++ [rfE G q38 12 (fun i => if i < 12 then some (r1 i) else none)] ++ rws G 12 75 r1) ++ [zJ G q54 64])) := hM
  refine lv_aload_n C.1 C.2.1 dX12_init_59 rfl (lv_at hl 0 rfl) ?_
  refine lv_bipush (v := iI 64) C.1 C.2.1 dX12_init_60 (by decide) ?_
  refine lv_iconst (v := iI 4) C.1 C.2.1 dX12_init_62 (by decide) ?_
  refine r_mna C hAV (fun q h => Or.inr h) hM cl_X12_27 64 4 rfl rfl (by decide) (by decide) (Nat.le_of_ble_eq_true rfl) (Nat.le_of_ble_eq_true rfl) dX12_init_63 (fun q63 r2 H1 hM => ?_)
  have hM : XR D (AO a ss.heap.size) ss.heap H1 _ ((a, .inr (12, [.int 0, .int 0, .int 0, .null, .ref q7, .int 0, .int (iI 10), .int (iI 2), .int (iI 1), .int (iI 1), .ref q38, .int (iI 32), .ref q54, .null, .null, .null, .int 0, .int 0, .int 0, .int 0, .int 0, .int 0, .int 0, .null, .null, .long 0])) :: ((((([]) ++ [zI G q7 80]) ++ [rfE G q38 12 (fun i => if i < 12 then some (r1 i) else none)] ++ rws G 12 75 r1) ++ [zJ G q54 64]) ++ [rfE G q63 64 (fun i => if i < 64 then some (r2 i) else none)] ++ rws G 64 4 r2)) := hM
  refine r_putF C hnm hM 0 rfl rfl inWX12 tyX12 tyX12_ok nmX12 13 (by decide) wf_X12_39 rfl rfl (v := .ref q63) (ty := (.array (.array .int))) (by decide +kernel) rfl rfl (Nat.le_of_ble_eq_true rfl) dX12_init_67 (fun H1 lc1 hM => ?_)
  have hM : XR D (AO a ss.heap.size) ss.heap H1 lc1 ((a, .inr (12, [.int 0, .int 0, .int 0, .null, .ref q7, .int 0, .int (iI 10), .int (iI 2), .int (iI 1), .int (iI 1), .ref q38, .int (iI 32), .ref q54, .ref q63, .null, .null, .int 0, .int 0, .int 0, .int 0, .int 0, .int 0, .int 0, .null, .null, .long 0])) :: ((((([]) ++ [zI G q7 80]) ++ [rfE G q38 12 (fun i => if i < 12 then some (r1 i) else none)] ++ rws G 12 75 r1) ++ [zJ G q54 64]) ++ [rfE G q63 64 (fun i => if i < 64 then some (r2 i) else none)] ++ rws G 64 4 r2)) := hM
  refine lv_aload_n C.1 C.2.1 dX12_init_70 rfl (lv_at hl 0 rfl) ?_
  refine lv_bipush (v := iI 12) C.1 C.2.1 dX12_init_71 (by decide) ?_
  refine lv_bipush (v := iI 75) C.1 C.2.1 dX12_init_73 (by decide) ?_
  refine r_mna C hAV (fun q h => Or.inr h) hM cl_X12_27 12 75 rfl rfl (by decide) (by decide) (Nat.le_of_ble_eq_true rfl) (Nat.le_of_ble_eq_true rfl) dX12_init_75 (fun q75 r3 H1 hM => ?_)
  have hM : XR D (AO a ss.heap.size) ss.heap H1 _ ((a, .inr (12, [.int 0, .int 0, .int 0, .null, .ref q7, .int 0, .int (iI 10), .int (iI 2), .int (iI 1), .int (iI 1), .ref q38, .int (iI 32), .ref q54, .ref q63, .null, .null, .int 0, .int 0, .int 0, .int 0, .int 0, .int 0, .int 0, .null, .null, .long 0])) :: (((((([]) ++ [zI G q7 80]) ++ [rfE G q38 12 (fun i => if i < 12 then some (r1 i) else none)] ++ rws G 12 75 r1) ++ [zJ G q54 64]) ++ [rfE G q63 64 (fun i => if i < 64 then some (r2 i) else none)] ++ rws G 64 4 r2) ++ [rfE G q75 12 (fun i => if i < 12 then some (r3 i) else none)] ++ rws G 12 75 r3)) := hM
  refine r_putF C hnm hM 0 rfl rfl inWX12 tyX12 tyX12_ok nmX12 14 (by decide) wf_X12_42 rfl rfl (v := .ref q75) (ty := (.array (.array .int))) (by decide +kernel) rfl rfl (Nat.le_of_ble_eq_true rfl) dX12_init_79 (fun H1 lc1 hM => ?_)
  have hM : XR D (AO a ss.heap.size) ss.heap H1 lc1 ((a, .inr (12, [.int 0, .int 0, .int 0, .null, .ref q7, .int 0, .int (iI 10), .int (iI 2), .int (iI 1), .int (iI 1), .ref q38, .int (iI 32), .ref q54, .ref q63, .ref q75, .null, .int 0, .int 0, .int 0, .int 0, .int 0, .int 0, .int 0, .null, .null, .long 0])) :: (((((([]) ++ [zI G q7 80]) ++ [rfE G q38 12 (fun i => if i < 12 then some (r1 i) else none)] ++ rws G 12 75 r1) ++ [zJ G q54 64]) ++ [rfE G q63 64 (fun i => if i < 64 then some (r2 i) else none)] ++ rws G 64 4 r2) ++ [rfE G q75 12 (fun i => if i < 12 then some (r3 i) else none)] ++ rws G 12 75 r3)) := hM
  refine lv_aload_n C.1 C.2.1 dX12_init_82 rfl (lv_at hl 0 rfl) ?_
  refine lv_iconst (v := iI 5) C.1 C.2.1 dX12_init_83 (by decide) ?_
  refine lv_iconst (v := iI 2) C.1 C.2.1 dX12_init_84 (by decide) ?_
  refine r_mna C hAV (fun q h => Or.inr h) hM cl_X12_27 5 2 rfl rfl (by decide) (by decide) (Nat.le_of_ble_eq_true rfl) (Nat.le_of_ble_eq_true rfl) dX12_init_85 (fun q85 r4 H1 hM => ?_)
  have hM : XR D (AO a ss.heap.size) ss.heap H1 _ ((a, .inr (12, [.int 0, .int 0, .int 0, .null, .ref q7, .int 0, .int (iI 10), .int (iI 2), .int (iI 1), .int (iI 1), .ref q38, .int (iI 32), .ref q54, .ref q63, .ref q75, .null, .int 0, .int 0, .int 0, .int 0, .int 0, .int 0, .int 0, .null, .null, .long 0])) :: ((((((([]) ++ [zI G q7 80]) ++ [rfE G q38 12 (fun i => if i < 12 then some (r1 i) else none)] ++ rws G 12 75 r1) ++ [zJ G q54 64]) ++ [rfE G q63 64 (fun i => if i < 64 then some (r2 i) else none)] ++ rws G 64 4 r2) ++ [rfE G q75 12 (fun i => if i < 12 then some (r3 i) else none)] ++ rws G 12 75 r3) ++ [rfE G q85 5 (fun i => if i < 5 then some (r4 i) else none)] ++ rws G 5 2 r4)) := hM
  refine r_putF C hnm hM 0 rfl rfl inWX12 tyX12 tyX12_ok nmX12 15 (by decide) wf_X12_45 rfl rfl (v := .ref q85) (ty := (.array (.array .int))) (by decide +kernel) rfl rfl (Nat.le_of_ble_eq_true rfl) dX12_init_89 (fun H1 lc1 hM => ?_)
  have hM : XR D (AO a ss.heap.size) ss.heap H1 lc1 ((a, .inr (12, [.int 0, .int 0, .int 0, .null, .ref q7, .int 0, .int (iI 10), .int (iI 2), .int (iI 1), .int (iI 1), .ref q38, .int (iI 32), .ref q54, .ref q63, .ref q75, .ref q85, .int 0, .int 0, .int 0, .int 0, .int 0, .int 0, .int 0, .null, .null, .long 0])) :: ((((((([]) ++ [zI G q7 80]) ++ [rfE G q38 12 (fun i => if i < 12 then some (r1 i) else none)] ++ rws G 12 75 r1) ++ [zJ G q54 64]) ++ [rfE G q63 64 (fun i => if i < 64 then some (r2 i) else none)] ++ rws G 64 4 r2) ++ [rfE G q75 12 (fun i => if i < 12 then some (r3 i) else none)] ++ rws G 12 75 r3) ++ [rfE G q85 5 (fun i => if i < 5 then some (r4 i) else none)] ++ rws G 5 2 r4)) := hM
  refine lv_aload_n C.1 C.2.1 dX12_init_92 rfl (lv_at hl 0 rfl) ?_
  refine lv_iconst (v := iI (-1)) C.1 C.2.1 dX12_init_93 (by decide) ?_
  refine r_put C hM 0 rfl rfl inWX12 tyX12 tyX12_ok nmX12 20 (by decide) wf_X12_48 rfl (v := .int (iI (-1))) (ty := .int) (by decide +kernel) rfl rfl (Nat.le_of_ble_eq_true rfl) dX12_init_94 (fun H1 lc1 hM => ?_)
  have hM : XR D (AO a ss.heap.size) ss.heap H1 lc1 ((a, .inr (12, [.int 0, .int 0, .int 0, .null, .ref q7, .int 0, .int (iI 10), .int (iI 2), .int (iI 1), .int (iI 1), .ref q38, .int (iI 32), .ref q54, .ref q63, .ref q75, .ref q85, .int 0, .int 0, .int 0, .int 0, .int (iI (-1)), .int 0, .int 0, .null, .null, .long 0])) :: ((((((([]) ++ [zI G q7 80]) ++ [rfE G q38 12 (fun i => if i < 12 then some (r1 i) else none)] ++ rws G 12 75 r1) ++ [zJ G q54 64]) ++ [rfE G q63 64 (fun i => if i < 64 then some (r2 i) else none)] ++ rws G 64 4 r2) ++ [rfE G q75 12 (fun i => if i < 12 then some (r3 i) else none)] ++ rws G 12 75 r3) ++ [rfE G q85 5 (fun i => if i < 5 then some (r4 i) else none)] ++ rws G 5 2 r4)) := hM
  refine lv_aload_n C.1 C.2.1 dX12_init_97 rfl (lv_at hl 0 rfl) ?_
  refine lv_iconst (v := iI (-1)) C.1 C.2.1 dX12_init_98 (by decide) ?_
  refine r_put C hM 0 rfl rfl inWX12 tyX12 tyX12_ok nmX12 21 (by decide) wf_X12_51 rfl (v := .int (iI (-1))) (ty := .int) (by decide +kernel) rfl rfl (Nat.le_of_ble_eq_true rfl) dX12_init_99 (fun H1 lc1 hM => ?_)
  have hM : XR D (AO a ss.heap.size) ss.heap H1 lc1 ((a, .inr (12, [.int 0, .int 0, .int 0, .null, .ref q7, .int 0, .int (iI 10), .int (iI 2), .int (iI 1), .int (iI 1), .ref q38, .int (iI 32), .ref q54, .ref q63, .ref q75, .ref q85, .int 0, .int 0, .int 0, .int 0, .int (iI (-1)), .int (iI (-1)), .int 0, .null, .null, .long 0])) :: ((((((([]) ++ [zI G q7 80]) ++ [rfE G q38 12 (fun i => if i < 12 then some (r1 i) else none)] ++ rws G 12 75 r1) ++ [zJ G q54 64]) ++ [rfE G q63 64 (fun i => if i < 64 then some (r2 i) else none)] ++ rws G 64 4 r2) ++ [rfE G q75 12 (fun i => if i < 12 then some (r3 i) else none)] ++ rws G 12 75 r3) ++ [rfE G q85 5 (fun i => if i < 5 then some (r4 i) else none)] ++ rws G 5 2 r4)) := hM
  refine lv_aload_n C.1 C.2.1 dX12_init_102 rfl (lv_at hl 0 rfl) ?_
  refine lv_bipush (v := iI 30) C.1 C.2.1 dX12_init_103 (by decide) ?_
  refine r_newJ C (fun q h => Or.inr h) hM 30 rfl (by decide) (Nat.le_of_ble_eq_true rfl) (Nat.le_of_ble_eq_true rfl) dX12_init_105 (fun q105 H1 hM => ?_)
  have hM : XR D (AO a ss.heap.size) ss.heap H1 _ ((a, .inr (12, [.int 0, .int 0, .int 0, .null, .ref q7, .int 0, .int (iI 10), .int (iI 2), .int (iI 1), .int (iI 1), .ref q38, .int (iI 32), .ref q54, .ref q63, .ref q75, .ref q85, .int 0, .int 0, .int 0, .int 0, .int (iI (-1)), .int (iI (-1)), .int 0, .null, .null, .long 0])) :: (((((((([]) ++ [zI G q7 80]) ++ [rfE G q38 12 (fun i => if i < 12 then some (r1 i) else none)] ++ rws G 12 75 r1) ++ [zJ G q54 64]) ++ [rfE G q63 64 (fun i => if i < 64 then some (r2 i) else none)] ++ rws G 64 4 r2) ++ [rfE G q75 12 (fun i => if i < 12 then some (r3 i) else none)] ++ rws G 12 75 r3) ++ [rfE G q85 5 (fun i => if i < 5 then some (r4 i) else none)] ++ rws G 5 2 r4) ++ [zJ G q105 30])) := hM
  refine r_putF C hnm hM 0 rfl rfl inWX12 tyX12 tyX12_ok nmX12 23 (by decide) wf_X12_54 rfl rfl (v := .ref q105) (ty := (.array .long)) (by decide +kernel) rfl rfl (Nat.le_of_ble_eq_true rfl) dX12_init_107 (fun H1 lc1 hM => ?_)
  have hM : XR D (AO a ss.heap.size) ss.heap H1 lc1 ((a, .inr (12, [.int 0, .int 0, .int 0, .null, .ref q7, .int 0, .int (iI 10), .int (iI 2), .int (iI 1), .int (iI 1), .ref q38, .int (iI 32), .ref q54, .ref q63, .ref q75, .ref q85, .int 0, .int 0, .int 0, .int 0, .int (iI (-1)), .int (iI (-1)), .int 0, .ref q105, .null, .long 0])) :: (((((((([]) ++ [zI G q7 80]) ++ [rfE G q38 12 (fun i => if i < 12 then some (r1 i) else none)] ++ rws G 12 75 r1) ++ [zJ G q54 64]) ++ [rfE G q63 64 (fun i => if i < 64 then some (r2 i) else none)] ++ rws G 64 4 r2) ++ [rfE G q75 12 (fun i => if i < 12 then some (r3 i) else none)] ++ rws G 12 75 r3) ++ [rfE G q85 5 (fun i => if i < 5 then some (r4 i) else none)] ++ rws G 5 2 r4) ++ [zJ G q105 30])) := hM
  refine lv_aload_n C.1 C.2.1 dX12_init_110 rfl (lv_at hl 0 rfl) ?_
  refine lv_bipush (v := iI 30) C.1 C.2.1 dX12_init_111 (by decide) ?_
  refine lv_iconst (v := iI 2) C.1 C.2.1 dX12_init_113 (by decide) ?_
  refine r_mna C hAV (fun q h => Or.inr h) hM cl_X12_27 30 2 rfl rfl (by decide) (by decide) (Nat.le_of_ble_eq_true rfl) (Nat.le_of_ble_eq_true rfl) dX12_init_114 (fun q114 r5 H1 hM => ?_)
  have hM : XR D (AO a ss.heap.size) ss.heap H1 _ ((a, .inr (12, [.int 0, .int 0, .int 0, .null, .ref q7, .int 0, .int (iI 10), .int (iI 2), .int (iI 1), .int (iI 1), .ref q38, .int (iI 32), .ref q54, .ref q63, .ref q75, .ref q85, .int 0, .int 0, .int 0, .int 0, .int (iI (-1)), .int (iI (-1)), .int 0, .ref q105, .null, .long 0])) :: ((((((((([]) ++ [zI G q7 80]) ++ [rfE G q38 12 (fun i => if i < 12 then some (r1 i) else none)] ++ rws G 12 75 r1) ++ [zJ G q54 64]) ++ [rfE G q63 64 (fun i => if i < 64 then some (r2 i) else none)] ++ rws G 64 4 r2) ++ [rfE G q75 12 (fun i => if i < 12 then some (r3 i) else none)] ++ rws G 12 75 r3) ++ [rfE G q85 5 (fun i => if i < 5 then some (r4 i) else none)] ++ rws G 5 2 r4) ++ [zJ G q105 30]) ++ [rfE G q114 30 (fun i => if i < 30 then some (r5 i) else none)] ++ rws G 30 2 r5)) := hM
  refine r_putF C hnm hM 0 rfl rfl inWX12 tyX12 tyX12_ok nmX12 24 (by decide) wf_X12_57 rfl rfl (v := .ref q114) (ty := (.array (.array .int))) (by decide +kernel) rfl rfl (Nat.le_of_ble_eq_true rfl) dX12_init_118 (fun H1 lc1 hM => ?_)
  have hM : XR D (AO a ss.heap.size) ss.heap H1 lc1 ((a, .inr (12, [.int 0, .int 0, .int 0, .null, .ref q7, .int 0, .int (iI 10), .int (iI 2), .int (iI 1), .int (iI 1), .ref q38, .int (iI 32), .ref q54, .ref q63, .ref q75, .ref q85, .int 0, .int 0, .int 0, .int 0, .int (iI (-1)), .int (iI (-1)), .int 0, .ref q105, .ref q114, .long 0])) :: ((((((((([]) ++ [zI G q7 80]) ++ [rfE G q38 12 (fun i => if i < 12 then some (r1 i) else none)] ++ rws G 12 75 r1) ++ [zJ G q54 64]) ++ [rfE G q63 64 (fun i => if i < 64 then some (r2 i) else none)] ++ rws G 64 4 r2) ++ [rfE G q75 12 (fun i => if i < 12 then some (r3 i) else none)] ++ rws G 12 75 r3) ++ [rfE G q85 5 (fun i => if i < 5 then some (r4 i) else none)] ++ rws G 5 2 r4) ++ [zJ G q105 30]) ++ [rfE G q114 30 (fun i => if i < 30 then some (r5 i) else none)] ++ rws G 30 2 r5)) := hM
  obtain ⟨ad, had⟩ : ∃ ad : Nat → Nat, ad = adM a q7 q38 q54 q63 q75 q85 q105 q114 r1 r2 r3 r4 r5 := ⟨_, rfl⟩
  have e0 : ad 100 = a := by rw [had]; rfl
  have hM := hM.swap 2 (y := (G 4, 12, .inr (.inr (.inr (.inr (fun j => some (ad (104 + j)))))))) rfl (arrV_ext (f := fun i => if i < 12 then some (r1 i) else none) (fun j hj => by rw [if_pos hj, had, adM_1 hj]))
  have hM := hM.swap 16 (y := (G 4, 64, .inr (.inr (.inr (.inr (fun j => some (ad (118 + j)))))))) rfl (arrV_ext (f := fun i => if i < 64 then some (r2 i) else none) (fun j hj => by rw [if_pos hj, had, adM_2 hj]))
  have hM := hM.swap 81 (y := (G 4, 12, .inr (.inr (.inr (.inr (fun j => some (ad (183 + j)))))))) rfl (arrV_ext (f := fun i => if i < 12 then some (r3 i) else none) (fun j hj => by rw [if_pos hj, had, adM_3 hj]))
  have hM := hM.swap 94 (y := (G 4, 5, .inr (.inr (.inr (.inr (fun j => some (ad (196 + j)))))))) rfl (arrV_ext (f := fun i => if i < 5 then some (r4 i) else none) (fun j hj => by rw [if_pos hj, had, adM_4 hj]))
  have hM := hM.swap 101 (y := (G 4, 30, .inr (.inr (.inr (.inr (fun j => some (ad (203 + j)))))))) rfl (arrV_ext (f := fun i => if i < 30 then some (r5 i) else none) (fun j hj => by rw [if_pos hj, had, adM_5 hj]))
  have hM : XR D (AO a ss.heap.size) ss.heap H1 lc1 ([(a, .inr (12, [.int 0, .int 0, .int 0, .null, .ref q7, .int 0, .int (iI 10), .int (iI 2), .int (iI 1), .int (iI 1), .ref q38, .int (iI 32), .ref q54, .ref q63, .ref q75, .ref q85, .int 0, .int 0, .int 0, .int 0, .int (iI (-1)), .int (iI (-1)), .int 0, .ref q105, .ref q114, .long 0]))] ++ ([zI G q7 80, rfE G q38 12 (fun j => some (ad (104 + j)))] ++ rws G 12 75 r1 ++ [zJ G q54 64, rfE G q63 64 (fun j => some (ad (118 + j)))] ++ rws G 64 4 r2 ++ [rfE G q75 12 (fun j => some (ad (183 + j)))] ++ rws G 12 75 r3 ++ [rfE G q85 5 (fun j => some (ad (196 + j)))] ++ rws G 5 2 r4 ++ [zJ G q105 30, rfE G q114 30 (fun j => some (ad (203 + j)))] ++ rws G 30 2 r5)) := hM
  rw [← wgM_eq G a q7 q38 q54 q63 q75 q85 q105 q114 r1 r2 r3 r4 r5 ad had] at hM
  have hf : (.inr (12, [.int 0, .int 0, .int 0, .null, .ref q7, .int 0, .int (iI 10), .int (iI 2), .int (iI 1), .int (iI 1), .ref q38, .int (iI 32), .ref q54, .ref q63, .ref q75, .ref q85, .int 0, .int 0, .int 0, .int 0, .int (iI (-1)), .int (iI (-1)), .int 0, .ref q105, .ref q114, .long 0]) : va_E) = .inr (12, fsM ad σM .null) := by rw [had]; rfl
  rw [hf, ← e0] at hM
  have hM : XR D (AO (ad 100) ss.heap.size) ss.heap H1 lc1 (WG ad G IM2 σM ++ [(ad 100, .inr (12, fsM ad σM .null))]) := ⟨(hM.1.right).app (hM.1.left), hM.2.1.rot, hM.2.2⟩
  refine lv_aload_n C.1 C.2.1 dX12_init_121 rfl (lv_at hl 0 rfl) ?_
  refine lv_iconst (v := iI 3) C.1 C.2.1 dX12_init_122 (by decide) ?_
  refine lv_iconst (v := iI 3) C.1 C.2.1 dX12_init_123 (by decide) ?_
  refine lv_iconst (v := iI 1) C.1 C.2.1 dX12_init_124 (by decide) ?_
  rw [← e0]
  refine x_layN C (fun q h => Or.inr h) ⟨Nat.le_of_ble_eq_true rfl, Nat.le_of_ble_eq_true rfl⟩ hM (by decide) (by decide) (by decide) M_TI cw_X12_60 (Nat.le_of_ble_eq_true rfl) hl.1 dX12_init_125 ⟨Nat.le_of_ble_eq_true rfl, Nat.le_of_ble_eq_true rfl⟩ (fun q H1 lc1 hM => ?_)
  refine r_vret C hr (ws := WG (va_up ad 101 q) G IM (laR (lay0 σM 3 3) (3 * 3) (1 * 3))) ⟨hM.1, hM.2.1, hM.2.2⟩ ⟨va_up ad 101 q, rfl, rfl⟩ dX12_init_128
