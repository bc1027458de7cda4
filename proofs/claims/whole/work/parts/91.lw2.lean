/-! the law's cases -/
theorem cwl_setUp : CWw RL 81 yL_setUp cL_setUp 6 hL_setUp 5 := ⟨⟨wm_RL_81, ws_L_setUp, wn_RL, wc_L_setUp⟩, by decide +kernel, by decide⟩
theorem cwl_put : CWw RL 90 yL_put cL_put 5 hL_put 4 := ⟨⟨wm_RL_90, ws_L_put, wn_RL, wc_L_put⟩, by decide +kernel, by decide⟩
theorem cwl_setSide : CWw RL 94 yL_setSide cL_setSide 4 hL_setSide 3 := ⟨⟨wm_RL_94, ws_L_setSide, wn_RL, wc_L_setSide⟩, by decide +kernel, by decide⟩
theorem cwl_play : CWw RL 98 yL_play cL_play 4 hL_play 3 := ⟨⟨wm_RL_98, ws_L_play, wn_RL, wc_L_play⟩, by decide +kernel, by decide⟩
theorem cwl_back : CWw RL 101 yL_back cL_back 3 hL_back 2 := ⟨⟨wm_RL_101, ws_L_back, wn_RL, wc_L_back⟩, by decide +kernel, by decide⟩
theorem cwl_weigh : CWw RL 105 yL_weigh cL_weigh 6 hL_weigh 5 := ⟨⟨wm_RL_105, ws_L_weigh, wn_RL, wc_L_weigh⟩, by decide +kernel, by decide⟩
theorem cwl_setSlots : CWw RL 113 yL_setSlots cL_setSlots 4 hL_setSlots 3 := ⟨⟨wm_RL_113, ws_L_setSlots, wn_RL, wc_L_setSlots⟩, by decide +kernel, by decide⟩
theorem cwl_at : CWw RL 128 yL_at cL_at 4 hL_at 3 := ⟨⟨wm_RL_128, ws_L_at, wn_RL, wc_L_at⟩, by decide +kernel, by decide⟩
theorem cwl_from : CWw RL 143 yL_from cL_from 4 hL_from 3 := ⟨⟨wm_RL_143, ws_L_from, wn_RL, wc_L_from⟩, by decide +kernel, by decide⟩
theorem cwl_to : CWw RL 146 yL_to cL_to 4 hL_to 3 := ⟨⟨wm_RL_146, ws_L_to, wn_RL, wc_L_to⟩, by decide +kernel, by decide⟩
theorem cwl_takes : CWw RL 149 yL_takes cL_takes 4 hL_takes 3 := ⟨⟨wm_RL_149, ws_L_takes, wn_RL, wc_L_takes⟩, by decide +kernel, by decide⟩
theorem cwl_ways : CWw RL 166 yL_ways cL_ways 4 hL_ways 3 := ⟨⟨wm_RL_166, ws_L_ways, wn_RL, wc_L_ways⟩, by decide +kernel, by decide⟩
theorem cwl_value : CWw RL 169 yL_value cL_value 4 hL_value 3 := ⟨⟨wm_RL_169, ws_L_value, wn_RL, wc_L_value⟩, by decide +kernel, by decide⟩
theorem cwl_valueOf : CWw RL 172 yL_valueOf cL_valueOf 5 hL_valueOf 4 := ⟨⟨wm_RL_172, ws_L_valueOf, wn_RL, wc_L_valueOf⟩, by decide +kernel, by decide⟩
theorem cwl_search : CWw RL 175 yL_search cL_search 4 hL_search 3 := ⟨⟨wm_RL_175, ws_L_search, wn_RL, wc_L_search⟩, by decide +kernel, by decide⟩
theorem cwl_ofSlot : CWw RL 215 yL_ofSlot cL_ofSlot 5 hL_ofSlot 4 := ⟨⟨wm_RL_215, ws_L_ofSlot, wn_RL, wc_L_ofSlot⟩, by decide +kernel, by decide⟩
theorem cwl_teach : CWw RL 222 yL_teach cL_teach 5 hL_teach 4 := ⟨⟨wm_RL_222, ws_L_teach, wn_RL, wc_L_teach⟩, by decide +kernel, by decide⟩
theorem cwl_go : CWw RL 229 yL_go cL_go 4 hL_go 3 := ⟨⟨wm_RL_229, ws_L_go, wn_RL, wc_L_go⟩, by decide +kernel, by decide⟩
theorem cwl_playOut : CWw RL 232 yL_playOut cL_playOut 5 hL_playOut 4 := ⟨⟨wm_RL_232, ws_L_playOut, wn_RL, wc_L_playOut⟩, by decide +kernel, by decide⟩
set_option maxRecDepth 100000 in
set_option maxHeartbeats 4000000 in
theorem lc_setUp {p : Program} {l : Launch} (hst : l.stackTraces = false) {e : Env} {s : State} {m : MethodId} {below : List Frame} {meth : Method} {c : Code} {H : Heap} {locs : List Loc} {cells slots : Nat} {Q : State → Prop} {D : va_G} {ad ad2 : Nat → Nat} {G : Nat → Nat} {σ τ : Sg} {ls : Array Slot} {b L : Nat} {xs : Nat → Int32} {sa : Nat → Nat} {i : Int} (K : LC p s m meth c b L xs D G sa) (hM : XE D ad G IL (FA s) s.heap H locs σ (WG ad2 G IM τ)) (hR : REL σ τ) (hl : lv_has ls 9 (BL b ad ad2 i)) (hi : 0 ≤ i ∧ i + 4 ≤ L) (hf : cells + 2 ≤ 601024 ∧ slots + 32 ≤ 7293034) (KK : KL p l e s m below meth c b D ad G i (cells + 2) (slots + 32) Q) : W p l e room_1 s m #[.ref b] below meth c H locs cells slots Q (F0 m 224 ls []) := by
  have C := K.1
  refine lv_aload_n C.1 C.2.1 dL_law_224 rfl (lv_at hl 1 rfl) ?_
  refine x_arg K hM.2.2.1 (lv_at hl 0 rfl) (lv_at hl 4 rfl) (k := 1) (v := iI 1) (by omega) rfl dL_law_225 dL_law_226 dL_law_228 dL_law_229 dL_law_230 ?_
  refine x_arg K hM.2.2.1 (lv_at hl 0 rfl) (lv_at hl 4 rfl) (k := 2) (v := iI 2) (by omega) rfl dL_law_231 dL_law_232 dL_law_234 dL_law_235 dL_law_236 ?_
  refine x_arg K hM.2.2.1 (lv_at hl 0 rfl) (lv_at hl 4 rfl) (k := 3) (v := iI 3) (by omega) rfl dL_law_237 dL_law_238 dL_law_240 dL_law_241 dL_law_242 ?_
  refine lv_aload_n C.1 C.2.1 dL_law_243 rfl (lv_at hl 3 rfl) ?_
  have W1 := c_L_setUp l D ad G σ sa (c_X11_setUp l hst D ad G IL IL_h σ sa (xv xs (i + 1)) (xv xs (i + 2)) (xv xs (i + 3)) hR.hcz (xv_IR xs _) (xv_IR xs _) (xv_IR xs _)) (fun E τ h => h.2.1)
  refine x_ciA (mc := 1) (ms := 6) (fun q h => h) (x_wr (As := [.ref (ad 0), .int (iI (xv xs (i + 1))), .int (iI (xv xs (i + 2))), .int (iI (xv xs (i + 3))), .ref (ad 240)]) (rest := []) C K.2.1 K.2.2.1 (tz_at K.2.2.2.1 hM) ⟨Nat.le_of_ble_eq_true rfl, Nat.le_of_ble_eq_true rfl⟩ cwl_setUp W1 hM.x rfl rfl (Nat.le_of_ble_eq_true rfl) hl.1 dL_law_244 ⟨by show cells + 1 ≤ 601024; omega, by show slots + 6 ≤ 7293034; omega⟩) hM (fun k1 σ1 H1 locs1 hp hM => ?_)
  refine lv_istore C.1 C.2.1 dL_law_247 hl (by decide) rfl (fun ls hl => ?_)
  have hl : lv_has ls 9 ((5, .int (iI k1)) :: BL b ad ad2 i) := hl
  have hM := hM.swap IM_vld
  refine lv_aload_n C.1 C.2.1 dL_law_249 rfl (lv_at hl 3 rfl) ?_
  refine x_arg K hM.2.2.1 (lv_at hl 1 rfl) (lv_at hl 5 rfl) (k := 1) (v := iI 1) (by omega) rfl dL_law_250 dL_law_251 dL_law_253 dL_law_254 dL_law_255 ?_
  refine x_arg K hM.2.2.1 (lv_at hl 1 rfl) (lv_at hl 5 rfl) (k := 2) (v := iI 2) (by omega) rfl dL_law_256 dL_law_257 dL_law_259 dL_law_260 dL_law_261 ?_
  refine x_arg K hM.2.2.1 (lv_at hl 1 rfl) (lv_at hl 5 rfl) (k := 3) (v := iI 3) (by omega) rfl dL_law_262 dL_law_263 dL_law_265 dL_law_266 dL_law_267 ?_
  refine x_ciX (mc := 1) (ms := 26) (fun q h => h) (x_runVA (As := [.int (iI (xv xs (i + 1))), .int (iI (xv xs (i + 2))), .int (iI (xv xs (i + 3)))]) (rest := []) C ⟨Nat.le_of_ble_eq_true rfl, Nat.le_of_ble_eq_true rfl⟩ cw_RL_86 (c_X12_setUp l D ad2 G τ (xv xs (i + 1)) (xv xs (i + 2)) (xv xs (i + 3)) (xv_IR xs _) (xv_IR xs _) (xv_IR xs _) hR.inv.2.1) hM.x (IM_h 100 (by decide) (by decide)) (cx_100 ad2 G _) (q := vwCl[12]) rfl rfl rfl rfl (Nat.le_of_ble_eq_true rfl) hl.1 dL_law_268 ⟨by show cells + 1 + 1 ≤ 601024; omega, by show slots + 6 + 26 ≤ 7293034; omega⟩) hM (fun z2 τ1 q9 H2 locs2 hq hM => ?_)
  have J := j_setUp (z1 := 0) hR hp hq
  have kb := wpost_b hp cd1_b
  refine lv_istore C.1 C.2.1 dL_law_271 hl (by decide) rfl (fun ls hl => ?_)
  have hl : lv_has ls 9 ((6, .int (iI z2)) :: (5, .int (iI k1)) :: BL b ad (va_up ad2 101 q9) i) := hl
  exact x_tail K hM J kb hl ⟨by omega, by omega, by omega, by omega⟩ KK dL_law_273 dL_law_274 dL_law_277 dL_law_279 dL_law_284 dL_law_286 dL_law_289 dL_law_290 dL_law_291 dL_law_292 dL_law_294 dL_law_295 dL_law_296 dL_law_301 (by decide)
set_option maxRecDepth 100000 in
set_option maxHeartbeats 4000000 in
theorem lc_put {p : Program} {l : Launch} (hst : l.stackTraces = false) {e : Env} {s : State} {m : MethodId} {below : List Frame} {meth : Method} {c : Code} {H : Heap} {locs : List Loc} {cells slots : Nat} {Q : State → Prop} {D : va_G} {ad ad2 : Nat → Nat} {G : Nat → Nat} {σ τ : Sg} {ls : Array Slot} {b L : Nat} {xs : Nat → Int32} {sa : Nat → Nat} {i : Int} (K : LC p s m meth c b L xs D G sa) (hM : XE D ad G IL (FA s) s.heap H locs σ (WG ad2 G IM τ)) (hR : REL σ τ) (hl : lv_has ls 9 (BL b ad ad2 i)) (hi : 0 ≤ i ∧ i + 4 ≤ L) (hf : cells + 2 ≤ 601024 ∧ slots + 32 ≤ 7293034) (KK : KL p l e s m below meth c b D ad G i (cells + 2) (slots + 32) Q) : W p l e room_1 s m #[.ref b] below meth c H locs cells slots Q (F0 m 304 ls []) := by
  have C := K.1
  refine lv_aload_n C.1 C.2.1 dL_law_304 rfl (lv_at hl 1 rfl) ?_
  refine x_arg K hM.2.2.1 (lv_at hl 0 rfl) (lv_at hl 4 rfl) (k := 1) (v := iI 1) (by omega) rfl dL_law_305 dL_law_306 dL_law_308 dL_law_309 dL_law_310 ?_
  refine x_arg K hM.2.2.1 (lv_at hl 0 rfl) (lv_at hl 4 rfl) (k := 2) (v := iI 2) (by omega) rfl dL_law_311 dL_law_312 dL_law_314 dL_law_315 dL_law_316 ?_
  refine lv_aload_n C.1 C.2.1 dL_law_317 rfl (lv_at hl 3 rfl) ?_
  have W1 := c_L_put l D ad G σ sa (c_X11_put l hst D ad G IL IL_h σ sa (xv xs (i + 1)) (xv xs (i + 2)) hR.g (xv_IR xs _) (xv_IR xs _)) (fun E τ h => h.2.elim (fun h => Or.inl h.1) (fun h => Or.inr (h.elim (fun h => Or.inl h.1) (fun h => Or.inr h.1))))
  refine x_ciA (mc := 1) (ms := 6) (fun q h => h) (x_wr (As := [.ref (ad 0), .int (iI (xv xs (i + 1))), .int (iI (xv xs (i + 2))), .ref (ad 240)]) (rest := []) C K.2.1 K.2.2.1 (tz_at K.2.2.2.1 hM) ⟨Nat.le_of_ble_eq_true rfl, Nat.le_of_ble_eq_true rfl⟩ cwl_put W1 hM.x rfl rfl (Nat.le_of_ble_eq_true rfl) hl.1 dL_law_318 ⟨by show cells + 1 ≤ 601024; omega, by show slots + 6 ≤ 7293034; omega⟩) hM (fun k1 σ1 H1 locs1 hp hM => ?_)
  refine lv_istore C.1 C.2.1 dL_law_321 hl (by decide) rfl (fun ls hl => ?_)
  have hl : lv_has ls 9 ((5, .int (iI k1)) :: BL b ad ad2 i) := hl
  have hM := hM.swap IM_vld
  refine lv_aload_n C.1 C.2.1 dL_law_323 rfl (lv_at hl 3 rfl) ?_
  refine x_arg K hM.2.2.1 (lv_at hl 1 rfl) (lv_at hl 5 rfl) (k := 1) (v := iI 1) (by omega) rfl dL_law_324 dL_law_325 dL_law_327 dL_law_328 dL_law_329 ?_
  refine x_arg K hM.2.2.1 (lv_at hl 1 rfl) (lv_at hl 5 rfl) (k := 2) (v := iI 2) (by omega) rfl dL_law_330 dL_law_331 dL_law_333 dL_law_334 dL_law_335 ?_
  refine x_ciA (mc := 0) (ms := 0) (fun q h => h) (x_runVA (As := [.int (iI (xv xs (i + 1))), .int (iI (xv xs (i + 2)))]) (rest := []) C ⟨Nat.le_of_ble_eq_true rfl, Nat.le_of_ble_eq_true rfl⟩ cw_RL_93 (MET.toA (c_X12_put l D ad2 G IM IM_h τ (xv xs (i + 1)) (xv xs (i + 2)) hR.inv.1.1 hR.inv.1.2.1 (xv_IR xs _) (xv_IR xs _))) hM.x (IM_h 100 (by decide) (by decide)) (cx_100 ad2 G _) (q := vwCl[12]) rfl rfl rfl rfl (Nat.le_of_ble_eq_true rfl) hl.1 dL_law_336 ⟨by show cells + 1 + 0 ≤ 601024; omega, by show slots + 6 + 0 ≤ 7293034; omega⟩) hM (fun z2 τ1 H2 locs2 hq hM => ?_)
  have J := j_put (z1 := 0) hR hp hq
  have kb := wpost_b hp cdP_b
  refine lv_istore C.1 C.2.1 dL_law_339 hl (by decide) rfl (fun ls hl => ?_)
  have hl : lv_has ls 9 ((6, .int (iI z2)) :: (5, .int (iI k1)) :: BL b ad ad2 i) := hl
  exact x_tail K hM J kb hl ⟨by omega, by omega, by omega, by omega⟩ KK dL_law_341 dL_law_342 dL_law_345 dL_law_347 dL_law_352 dL_law_354 dL_law_357 dL_law_358 dL_law_359 dL_law_360 dL_law_362 dL_law_363 dL_law_364 dL_law_369 (by decide)
set_option maxRecDepth 100000 in
set_option maxHeartbeats 4000000 in
theorem lc_setSide {p : Program} {l : Launch} (hst : l.stackTraces = false) {e : Env} {s : State} {m : MethodId} {below : List Frame} {meth : Method} {c : Code} {H : Heap} {locs : List Loc} {cells slots : Nat} {Q : State → Prop} {D : va_G} {ad ad2 : Nat → Nat} {G : Nat → Nat} {σ τ : Sg} {ls : Array Slot} {b L : Nat} {xs : Nat → Int32} {sa : Nat → Nat} {i : Int} (K : LC p s m meth c b L xs D G sa) (hM : XE D ad G IL (FA s) s.heap H locs σ (WG ad2 G IM τ)) (hR : REL σ τ) (hl : lv_has ls 9 (BL b ad ad2 i)) (hi : 0 ≤ i ∧ i + 4 ≤ L) (hf : cells + 2 ≤ 601024 ∧ slots + 32 ≤ 7293034) (KK : KL p l e s m below meth c b D ad G i (cells + 2) (slots + 32) Q) : W p l e room_1 s m #[.ref b] below meth c H locs cells slots Q (F0 m 372 ls []) := by
  have C := K.1
  refine lv_aload_n C.1 C.2.1 dL_law_372 rfl (lv_at hl 1 rfl) ?_
  refine x_arg K hM.2.2.1 (lv_at hl 0 rfl) (lv_at hl 4 rfl) (k := 1) (v := iI 1) (by omega) rfl dL_law_373 dL_law_374 dL_law_376 dL_law_377 dL_law_378 ?_
  refine lv_aload_n C.1 C.2.1 dL_law_379 rfl (lv_at hl 3 rfl) ?_
  have W1 := c_L_setSide l D ad G σ sa (c_X11_setSide l hst D ad G IL IL_h σ sa (xv xs (i + 1)) hR.g (xv_IR xs _)) (fun E τ h => h.2.1)
  refine x_ciA (mc := 1) (ms := 6) (fun q h => h) (x_wr (As := [.ref (ad 0), .int (iI (xv xs (i + 1))), .ref (ad 240)]) (rest := []) C K.2.1 K.2.2.1 (tz_at K.2.2.2.1 hM) ⟨Nat.le_of_ble_eq_true rfl, Nat.le_of_ble_eq_true rfl⟩ cwl_setSide W1 hM.x rfl rfl (Nat.le_of_ble_eq_true rfl) hl.1 dL_law_380 ⟨by show cells + 1 ≤ 601024; omega, by show slots + 6 ≤ 7293034; omega⟩) hM (fun k1 σ1 H1 locs1 hp hM => ?_)
  refine lv_istore C.1 C.2.1 dL_law_383 hl (by decide) rfl (fun ls hl => ?_)
  have hl : lv_has ls 9 ((5, .int (iI k1)) :: BL b ad ad2 i) := hl
  have hM := hM.swap IM_vld
  refine lv_aload_n C.1 C.2.1 dL_law_385 rfl (lv_at hl 3 rfl) ?_
  refine x_arg K hM.2.2.1 (lv_at hl 1 rfl) (lv_at hl 5 rfl) (k := 1) (v := iI 1) (by omega) rfl dL_law_386 dL_law_387 dL_law_389 dL_law_390 dL_law_391 ?_
  refine x_ciA (mc := 0) (ms := 0) (fun q h => h) (x_runVA (As := [.int (iI (xv xs (i + 1)))]) (rest := []) C ⟨Nat.le_of_ble_eq_true rfl, Nat.le_of_ble_eq_true rfl⟩ cw_RL_97 (MET.toA (c_X12_setSide l D ad2 G IM IM_h τ (xv xs (i + 1)) hR.inv.1.1 (xv_IR xs _))) hM.x (IM_h 100 (by decide) (by decide)) (cx_100 ad2 G _) (q := vwCl[12]) rfl rfl rfl rfl (Nat.le_of_ble_eq_true rfl) hl.1 dL_law_392 ⟨by show cells + 1 + 0 ≤ 601024; omega, by show slots + 6 + 0 ≤ 7293034; omega⟩) hM (fun z2 τ1 H2 locs2 hq hM => ?_)
  have J := j_setSide (z1 := 0) hR hp hq
  have kb := wpost_b hp cd1_b
  refine lv_istore C.1 C.2.1 dL_law_395 hl (by decide) rfl (fun ls hl => ?_)
  have hl : lv_has ls 9 ((6, .int (iI z2)) :: (5, .int (iI k1)) :: BL b ad ad2 i) := hl
  exact x_tail K hM J kb hl ⟨by omega, by omega, by omega, by omega⟩ KK dL_law_397 dL_law_398 dL_law_401 dL_law_403 dL_law_408 dL_law_410 dL_law_413 dL_law_414 dL_law_415 dL_law_416 dL_law_418 dL_law_419 dL_law_420 dL_law_425 (by decide)
set_option maxRecDepth 100000 in
set_option maxHeartbeats 4000000 in
theorem lc_play {p : Program} {l : Launch} (hst : l.stackTraces = false) {e : Env} {s : State} {m : MethodId} {below : List Frame} {meth : Method} {c : Code} {H : Heap} {locs : List Loc} {cells slots : Nat} {Q : State → Prop} {D : va_G} {ad ad2 : Nat → Nat} {G : Nat → Nat} {σ τ : Sg} {ls : Array Slot} {b L : Nat} {xs : Nat → Int32} {sa : Nat → Nat} {i : Int} (K : LC p s m meth c b L xs D G sa) (hM : XE D ad G IL (FA s) s.heap H locs σ (WG ad2 G IM τ)) (hR : REL σ τ) (hl : lv_has ls 9 (BL b ad ad2 i)) (hi : 0 ≤ i ∧ i + 4 ≤ L) (hf : cells + 2 ≤ 601024 ∧ slots + 32 ≤ 7293034) (KK : KL p l e s m below meth c b D ad G i (cells + 2) (slots + 32) Q) : W p l e room_1 s m #[.ref b] below meth c H locs cells slots Q (F0 m 428 ls []) := by
  have C := K.1
  refine lv_aload_n C.1 C.2.1 dL_law_428 rfl (lv_at hl 1 rfl) ?_
  refine x_arg K hM.2.2.1 (lv_at hl 0 rfl) (lv_at hl 4 rfl) (k := 1) (v := iI 1) (by omega) rfl dL_law_429 dL_law_430 dL_law_432 dL_law_433 dL_law_434 ?_
  refine lv_aload_n C.1 C.2.1 dL_law_435 rfl (lv_at hl 3 rfl) ?_
  have W1 := c_L_play l D ad G σ sa (c_X11_play l hst D ad G IL IL_h σ sa (xv xs (i + 1)) hR.g hR.hl hR.n.2.2.2.2.2.1 (xv_IR xs _)) (fun E τ h => h.2.1)
  refine x_ciA (mc := 1) (ms := 6) (fun q h => h) (x_wr (As := [.ref (ad 0), .int (iI (xv xs (i + 1))), .ref (ad 240)]) (rest := []) C K.2.1 K.2.2.1 (tz_at K.2.2.2.1 hM) ⟨Nat.le_of_ble_eq_true rfl, Nat.le_of_ble_eq_true rfl⟩ cwl_play W1 hM.x rfl rfl (Nat.le_of_ble_eq_true rfl) hl.1 dL_law_436 ⟨by show cells + 1 ≤ 601024; omega, by show slots + 6 ≤ 7293034; omega⟩) hM (fun k1 σ1 H1 locs1 hp hM => ?_)
  refine lv_istore C.1 C.2.1 dL_law_439 hl (by decide) rfl (fun ls hl => ?_)
  have hl : lv_has ls 9 ((5, .int (iI k1)) :: BL b ad ad2 i) := hl
  have hM := hM.swap IM_vld
  refine lv_aload_n C.1 C.2.1 dL_law_441 rfl (lv_at hl 3 rfl) ?_
  refine x_arg K hM.2.2.1 (lv_at hl 1 rfl) (lv_at hl 5 rfl) (k := 1) (v := iI 1) (by omega) rfl dL_law_442 dL_law_443 dL_law_445 dL_law_446 dL_law_447 ?_
  refine x_ciA (mc := 0) (ms := 0) (fun q h => h) (x_runVA (As := [.int (iI (xv xs (i + 1)))]) (rest := []) C ⟨Nat.le_of_ble_eq_true rfl, Nat.le_of_ble_eq_true rfl⟩ cw_RL_100 (MET.toA (c_X12_play l D ad2 G IM IM_h τ (xv xs (i + 1)) hR.inv.1 (xv_IR xs _) hR.tr2)) hM.x (IM_h 100 (by decide) (by decide)) (cx_100 ad2 G _) (q := vwCl[12]) rfl rfl rfl rfl (Nat.le_of_ble_eq_true rfl) hl.1 dL_law_448 ⟨by show cells + 1 + 0 ≤ 601024; omega, by show slots + 6 + 0 ≤ 7293034; omega⟩) hM (fun z2 τ1 H2 locs2 hq hM => ?_)
  have J := j_play (z1 := 0) hR hp hq
  have kb := wpost_b hp cd1_b
  refine lv_istore C.1 C.2.1 dL_law_451 hl (by decide) rfl (fun ls hl => ?_)
  have hl : lv_has ls 9 ((6, .int (iI z2)) :: (5, .int (iI k1)) :: BL b ad ad2 i) := hl
  exact x_tail K hM J kb hl ⟨by omega, by omega, by omega, by omega⟩ KK dL_law_453 dL_law_454 dL_law_457 dL_law_459 dL_law_464 dL_law_466 dL_law_469 dL_law_470 dL_law_471 dL_law_472 dL_law_474 dL_law_475 dL_law_476 dL_law_481 (by decide)
set_option maxRecDepth 100000 in
set_option maxHeartbeats 4000000 in
theorem lc_back {p : Program} {l : Launch} (hst : l.stackTraces = false) {e : Env} {s : State} {m : MethodId} {below : List Frame} {meth : Method} {c : Code} {H : Heap} {locs : List Loc} {cells slots : Nat} {Q : State → Prop} {D : va_G} {ad ad2 : Nat → Nat} {G : Nat → Nat} {σ τ : Sg} {ls : Array Slot} {b L : Nat} {xs : Nat → Int32} {sa : Nat → Nat} {i : Int} (K : LC p s m meth c b L xs D G sa) (hM : XE D ad G IL (FA s) s.heap H locs σ (WG ad2 G IM τ)) (hR : REL σ τ) (hl : lv_has ls 9 (BL b ad ad2 i)) (hi : 0 ≤ i ∧ i + 4 ≤ L) (hf : cells + 2 ≤ 601024 ∧ slots + 32 ≤ 7293034) (KK : KL p l e s m below meth c b D ad G i (cells + 2) (slots + 32) Q) : W p l e room_1 s m #[.ref b] below meth c H locs cells slots Q (F0 m 484 ls []) := by
  have C := K.1
  refine lv_aload_n C.1 C.2.1 dL_law_484 rfl (lv_at hl 1 rfl) ?_
  refine lv_aload_n C.1 C.2.1 dL_law_485 rfl (lv_at hl 3 rfl) ?_
  have W1 := c_L_back l D ad G σ sa (c_X11_back l hst D ad G IL IL_h σ sa hR.g hR.n.2.2.2.2.2.1 hR.hu) (fun E τ h => h.2.1)
  refine x_ciA (mc := 1) (ms := 6) (fun q h => h) (x_wr (As := [.ref (ad 0), .ref (ad 240)]) (rest := []) C K.2.1 K.2.2.1 (tz_at K.2.2.2.1 hM) ⟨Nat.le_of_ble_eq_true rfl, Nat.le_of_ble_eq_true rfl⟩ cwl_back W1 hM.x rfl rfl (Nat.le_of_ble_eq_true rfl) hl.1 dL_law_486 ⟨by show cells + 1 ≤ 601024; omega, by show slots + 6 ≤ 7293034; omega⟩) hM (fun k1 σ1 H1 locs1 hp hM => ?_)
  refine lv_istore C.1 C.2.1 dL_law_489 hl (by decide) rfl (fun ls hl => ?_)
  have hl : lv_has ls 9 ((5, .int (iI k1)) :: BL b ad ad2 i) := hl
  have hM := hM.swap IM_vld
  refine lv_aload_n C.1 C.2.1 dL_law_491 rfl (lv_at hl 3 rfl) ?_
  refine x_ciA (mc := 0) (ms := 0) (fun q h => h) (x_runVA (As := []) (rest := []) C ⟨Nat.le_of_ble_eq_true rfl, Nat.le_of_ble_eq_true rfl⟩ cw_RL_104 (MET.toA (c_X12_back l D ad2 G IM IM_h τ hR.inv.1.1 hR.tr2 hR.hv)) hM.x (IM_h 100 (by decide) (by decide)) (cx_100 ad2 G _) (q := vwCl[12]) rfl rfl rfl rfl (Nat.le_of_ble_eq_true rfl) hl.1 dL_law_492 ⟨by show cells + 1 + 0 ≤ 601024; omega, by show slots + 6 + 0 ≤ 7293034; omega⟩) hM (fun z2 τ1 H2 locs2 hq hM => ?_)
  have J := j_back (z1 := 0) hR hp hq
  have kb := wpost_b hp cd1_b
  refine lv_istore C.1 C.2.1 dL_law_495 hl (by decide) rfl (fun ls hl => ?_)
  have hl : lv_has ls 9 ((6, .int (iI z2)) :: (5, .int (iI k1)) :: BL b ad ad2 i) := hl
  exact x_tail K hM J kb hl ⟨by omega, by omega, by omega, by omega⟩ KK dL_law_497 dL_law_498 dL_law_501 dL_law_503 dL_law_508 dL_law_510 dL_law_513 dL_law_514 dL_law_515 dL_law_516 dL_law_518 dL_law_519 dL_law_520 dL_law_525 (by decide)
set_option maxRecDepth 100000 in
set_option maxHeartbeats 4000000 in
theorem lc_weigh {p : Program} {l : Launch} (hst : l.stackTraces = false) {e : Env} {s : State} {m : MethodId} {below : List Frame} {meth : Method} {c : Code} {H : Heap} {locs : List Loc} {cells slots : Nat} {Q : State → Prop} {D : va_G} {ad ad2 : Nat → Nat} {G : Nat → Nat} {σ τ : Sg} {ls : Array Slot} {b L : Nat} {xs : Nat → Int32} {sa : Nat → Nat} {i : Int} (K : LC p s m meth c b L xs D G sa) (hM : XE D ad G IL (FA s) s.heap H locs σ (WG ad2 G IM τ)) (hR : REL σ τ) (hl : lv_has ls 9 (BL b ad ad2 i)) (hi : 0 ≤ i ∧ i + 4 ≤ L) (hf : cells + 2 ≤ 601024 ∧ slots + 32 ≤ 7293034) (KK : KL p l e s m below meth c b D ad G i (cells + 2) (slots + 32) Q) : W p l e room_1 s m #[.ref b] below meth c H locs cells slots Q (F0 m 528 ls []) := by
  have C := K.1
  refine lv_aload_n C.1 C.2.1 dL_law_528 rfl (lv_at hl 1 rfl) ?_
  refine x_arg K hM.2.2.1 (lv_at hl 0 rfl) (lv_at hl 4 rfl) (k := 1) (v := iI 1) (by omega) rfl dL_law_529 dL_law_530 dL_law_532 dL_law_533 dL_law_534 ?_
  refine x_arg K hM.2.2.1 (lv_at hl 0 rfl) (lv_at hl 4 rfl) (k := 2) (v := iI 2) (by omega) rfl dL_law_535 dL_law_536 dL_law_538 dL_law_539 dL_law_540 ?_
  refine x_arg K hM.2.2.1 (lv_at hl 0 rfl) (lv_at hl 4 rfl) (k := 3) (v := iI 3) (by omega) rfl dL_law_541 dL_law_542 dL_law_544 dL_law_545 dL_law_546 ?_
  refine lv_aload_n C.1 C.2.1 dL_law_547 rfl (lv_at hl 3 rfl) ?_
  have W1 := c_L_weigh l D ad G σ sa (c_X11_weigh l hst D ad G IL IL_h σ sa (xv xs (i + 1)) (xv xs (i + 2)) (xv xs (i + 3)) hR.g (xv_IR xs _) (xv_IR xs _) (xv_IR xs _)) (fun E τ h => h.2.1)
  refine x_ciA (mc := 1) (ms := 6) (fun q h => h) (x_wr (As := [.ref (ad 0), .int (iI (xv xs (i + 1))), .int (iI (xv xs (i + 2))), .int (iI (xv xs (i + 3))), .ref (ad 240)]) (rest := []) C K.2.1 K.2.2.1 (tz_at K.2.2.2.1 hM) ⟨Nat.le_of_ble_eq_true rfl, Nat.le_of_ble_eq_true rfl⟩ cwl_weigh W1 hM.x rfl rfl (Nat.le_of_ble_eq_true rfl) hl.1 dL_law_548 ⟨by show cells + 1 ≤ 601024; omega, by show slots + 6 ≤ 7293034; omega⟩) hM (fun k1 σ1 H1 locs1 hp hM => ?_)
  refine lv_istore C.1 C.2.1 dL_law_551 hl (by decide) rfl (fun ls hl => ?_)
  have hl : lv_has ls 9 ((5, .int (iI k1)) :: BL b ad ad2 i) := hl
  have hM := hM.swap IM_vld
  refine lv_aload_n C.1 C.2.1 dL_law_553 rfl (lv_at hl 3 rfl) ?_
  refine x_arg K hM.2.2.1 (lv_at hl 1 rfl) (lv_at hl 5 rfl) (k := 1) (v := iI 1) (by omega) rfl dL_law_554 dL_law_555 dL_law_557 dL_law_558 dL_law_559 ?_
  refine x_arg K hM.2.2.1 (lv_at hl 1 rfl) (lv_at hl 5 rfl) (k := 2) (v := iI 2) (by omega) rfl dL_law_560 dL_law_561 dL_law_563 dL_law_564 dL_law_565 ?_
  refine x_arg K hM.2.2.1 (lv_at hl 1 rfl) (lv_at hl 5 rfl) (k := 3) (v := iI 3) (by omega) rfl dL_law_566 dL_law_567 dL_law_569 dL_law_570 dL_law_571 ?_
  refine x_ciA (mc := 0) (ms := 0) (fun q h => h) (x_runVA (As := [.int (iI (xv xs (i + 1))), .int (iI (xv xs (i + 2))), .int (iI (xv xs (i + 3)))]) (rest := []) C ⟨Nat.le_of_ble_eq_true rfl, Nat.le_of_ble_eq_true rfl⟩ cw_RL_107 (MET.toA (c_X12_weigh l D ad2 G IM IM_h τ (xv xs (i + 1)) (xv xs (i + 2)) (xv xs (i + 3)) hR.inv.1 hR.inv.2.1 (xv_IR xs _) (xv_IR xs _) (xv_IR xs _))) hM.x (IM_h 100 (by decide) (by decide)) (cx_100 ad2 G _) (q := vwCl[12]) rfl rfl rfl rfl (Nat.le_of_ble_eq_true rfl) hl.1 dL_law_572 ⟨by show cells + 1 + 0 ≤ 601024; omega, by show slots + 6 + 0 ≤ 7293034; omega⟩) hM (fun z2 τ1 H2 locs2 hq hM => ?_)
  have J := j_weigh (z1 := 0) hR hp hq
  have kb := wpost_b hp cd1_b
  refine lv_istore C.1 C.2.1 dL_law_575 hl (by decide) rfl (fun ls hl => ?_)
  have hl : lv_has ls 9 ((6, .int (iI z2)) :: (5, .int (iI k1)) :: BL b ad ad2 i) := hl
  exact x_tail K hM J kb hl ⟨by omega, by omega, by omega, by omega⟩ KK dL_law_577 dL_law_578 dL_law_581 dL_law_583 dL_law_588 dL_law_590 dL_law_593 dL_law_594 dL_law_595 dL_law_596 dL_law_598 dL_law_599 dL_law_600 dL_law_605 (by decide)
set_option maxRecDepth 100000 in
set_option maxHeartbeats 4000000 in
theorem lc_setQuiet {p : Program} {l : Launch} (hst : l.stackTraces = false) {e : Env} {s : State} {m : MethodId} {below : List Frame} {meth : Method} {c : Code} {H : Heap} {locs : List Loc} {cells slots : Nat} {Q : State → Prop} {D : va_G} {ad ad2 : Nat → Nat} {G : Nat → Nat} {σ τ : Sg} {ls : Array Slot} {b L : Nat} {xs : Nat → Int32} {sa : Nat → Nat} {i : Int} (K : LC p s m meth c b L xs D G sa) (hM : XE D ad G IL (FA s) s.heap H locs σ (WG ad2 G IM τ)) (hR : REL σ τ) (hl : lv_has ls 9 (BL b ad ad2 i)) (hi : 0 ≤ i ∧ i + 4 ≤ L) (hf : cells + 2 ≤ 601024 ∧ slots + 32 ≤ 7293034) (KK : KL p l e s m below meth c b D ad G i (cells + 2) (slots + 32) Q) : W p l e room_1 s m #[.ref b] below meth c H locs cells slots Q (F0 m 608 ls []) := by
  have C := K.1
  refine lv_aload_n C.1 C.2.1 dL_law_608 rfl (lv_at hl 1 rfl) ?_
  refine x_arg K hM.2.2.1 (lv_at hl 0 rfl) (lv_at hl 4 rfl) (k := 1) (v := iI 1) (by omega) rfl dL_law_609 dL_law_610 dL_law_612 dL_law_613 dL_law_614 ?_
  refine x_bz C (xv_IR xs _) dL_law_615 dL_law_618 dL_law_619 dL_law_622 ?_
  refine x_ciA (mc := 0) (ms := 0) (fun q h => h) (x_runVA (As := [.int (iI (bz (xv xs (i + 1))))]) (rest := []) C ⟨Nat.le_of_ble_eq_true rfl, Nat.le_of_ble_eq_true rfl⟩ cw_RL_108 (MET.toA (c_X11_setQuiet l D ad G IL IL_h σ (bz (xv xs (i + 1))) (bz_01 _) hR.q8)) hM.x (IL_c (by omega)) (cx_0 ad G σ) (q := vwCl[11]) rfl rfl rfl rfl (Nat.le_of_ble_eq_true rfl) hl.1 dL_law_623 ⟨by show cells ≤ 601024; omega, by show slots ≤ 7293034; omega⟩) hM (fun k1 σ1 H1 locs1 hp hM => ?_)
  have hM := hM.swap IM_vld
  refine lv_aload_n C.1 C.2.1 dL_law_626 rfl (lv_at hl 2 rfl) ?_
  refine x_arg K hM.2.2.1 (lv_at hl 0 rfl) (lv_at hl 4 rfl) (k := 1) (v := iI 1) (by omega) rfl dL_law_627 dL_law_628 dL_law_630 dL_law_631 dL_law_632 ?_
  refine x_bz C (xv_IR xs _) dL_law_633 dL_law_636 dL_law_637 dL_law_640 ?_
  refine x_ciA (mc := 0) (ms := 0) (fun q h => h) (x_runVA (As := [.int (iI (bz (xv xs (i + 1))))]) (rest := [.int (iI k1)]) C ⟨Nat.le_of_ble_eq_true rfl, Nat.le_of_ble_eq_true rfl⟩ cw_RL_112 (MET.toA (c_X12_setQuiet l D ad2 G IM IM_h τ (bz (xv xs (i + 1))) hR.inv.2.1 (bz_01 _) hR.q82)) hM.x (IM_h 100 (by decide) (by decide)) (cx_100 ad2 G _) (q := vwCl[12]) rfl rfl rfl rfl (Nat.le_of_ble_eq_true rfl) hl.1 dL_law_641 ⟨by show cells + 0 ≤ 601024; omega, by show slots + 0 ≤ 7293034; omega⟩) hM (fun z2 τ1 H2 locs2 hq hM => ?_)
  obtain ⟨ez, hR2⟩ := j_setQuiet (kc := 0) hR (bz_01 _) hp hq
  subst ez
  have hM := hM.swap IL_vld
  refine x_icmp_refl C (tgt := 1801) dL_law_644 (by decide) ?_
  exact W.widen (by omega) (by omega) (KK ad2 σ1 τ1 H2 locs2 ls hM hR2 hl)
set_option maxRecDepth 100000 in
set_option maxHeartbeats 4000000 in
theorem lc_setSlots {p : Program} {l : Launch} (hst : l.stackTraces = false) {e : Env} {s : State} {m : MethodId} {below : List Frame} {meth : Method} {c : Code} {H : Heap} {locs : List Loc} {cells slots : Nat} {Q : State → Prop} {D : va_G} {ad ad2 : Nat → Nat} {G : Nat → Nat} {σ τ : Sg} {ls : Array Slot} {b L : Nat} {xs : Nat → Int32} {sa : Nat → Nat} {i : Int} (K : LC p s m meth c b L xs D G sa) (hM : XE D ad G IL (FA s) s.heap H locs σ (WG ad2 G IM τ)) (hR : REL σ τ) (hl : lv_has ls 9 (BL b ad ad2 i)) (hi : 0 ≤ i ∧ i + 4 ≤ L) (hf : cells + 2 ≤ 601024 ∧ slots + 32 ≤ 7293034) (KK : KL p l e s m below meth c b D ad G i (cells + 2) (slots + 32) Q) : W p l e room_1 s m #[.ref b] below meth c H locs cells slots Q (F0 m 649 ls []) := by
  have C := K.1
  refine lv_aload_n C.1 C.2.1 dL_law_649 rfl (lv_at hl 1 rfl) ?_
  refine x_arg K hM.2.2.1 (lv_at hl 0 rfl) (lv_at hl 4 rfl) (k := 1) (v := iI 1) (by omega) rfl dL_law_650 dL_law_651 dL_law_653 dL_law_654 dL_law_655 ?_
  refine lv_aload_n C.1 C.2.1 dL_law_656 rfl (lv_at hl 3 rfl) ?_
  have W1 := c_L_setSlots l D ad G σ sa (c_X11_setSlots l hst D ad G IL IL_h σ sa (xv xs (i + 1)) (xv_IR xs _)) (fun E τ h => h.2.1)
  refine x_ciA (mc := 1) (ms := 6) (fun q h => h) (x_wr (As := [.ref (ad 0), .int (iI (xv xs (i + 1))), .ref (ad 240)]) (rest := []) C K.2.1 K.2.2.1 (tz_at K.2.2.2.1 hM) ⟨Nat.le_of_ble_eq_true rfl, Nat.le_of_ble_eq_true rfl⟩ cwl_setSlots W1 hM.x rfl rfl (Nat.le_of_ble_eq_true rfl) hl.1 dL_law_657 ⟨by show cells + 1 ≤ 601024; omega, by show slots + 6 ≤ 7293034; omega⟩) hM (fun k1 σ1 H1 locs1 hp hM => ?_)
  refine lv_istore C.1 C.2.1 dL_law_660 hl (by decide) rfl (fun ls hl => ?_)
  have hl : lv_has ls 9 ((5, .int (iI k1)) :: BL b ad ad2 i) := hl
  have hM := hM.swap IM_vld
  refine lv_aload_n C.1 C.2.1 dL_law_662 rfl (lv_at hl 3 rfl) ?_
  refine x_arg K hM.2.2.1 (lv_at hl 1 rfl) (lv_at hl 5 rfl) (k := 1) (v := iI 1) (by omega) rfl dL_law_663 dL_law_664 dL_law_666 dL_law_667 dL_law_668 ?_
  refine x_ciA (mc := 0) (ms := 0) (fun q h => h) (x_runVA (As := [.int (iI (xv xs (i + 1)))]) (rest := []) C ⟨Nat.le_of_ble_eq_true rfl, Nat.le_of_ble_eq_true rfl⟩ cw_RL_115 (MET.toA (c_X12_setSlots l D ad2 G IM IM_h τ (xv xs (i + 1)) hR.inv.2.1 (xv_IR xs _))) hM.x (IM_h 100 (by decide) (by decide)) (cx_100 ad2 G _) (q := vwCl[12]) rfl rfl rfl rfl (Nat.le_of_ble_eq_true rfl) hl.1 dL_law_669 ⟨by show cells + 1 + 0 ≤ 601024; omega, by show slots + 6 + 0 ≤ 7293034; omega⟩) hM (fun z2 τ1 H2 locs2 hq hM => ?_)
  have J := j_setSlots (z1 := 0) hR hp hq
  have kb := wpost_b hp cd1_b
  refine lv_istore C.1 C.2.1 dL_law_672 hl (by decide) rfl (fun ls hl => ?_)
  have hl : lv_has ls 9 ((6, .int (iI z2)) :: (5, .int (iI k1)) :: BL b ad ad2 i) := hl
  exact x_tail K hM J kb hl ⟨by omega, by omega, by omega, by omega⟩ KK dL_law_674 dL_law_675 dL_law_678 dL_law_680 dL_law_685 dL_law_687 dL_law_690 dL_law_691 dL_law_692 dL_law_693 dL_law_695 dL_law_696 dL_law_697 dL_law_702 (by decide)
set_option maxRecDepth 100000 in
set_option maxHeartbeats 4000000 in
theorem lc_empty {p : Program} {l : Launch} (hst : l.stackTraces = false) {e : Env} {s : State} {m : MethodId} {below : List Frame} {meth : Method} {c : Code} {H : Heap} {locs : List Loc} {cells slots : Nat} {Q : State → Prop} {D : va_G} {ad ad2 : Nat → Nat} {G : Nat → Nat} {σ τ : Sg} {ls : Array Slot} {b L : Nat} {xs : Nat → Int32} {sa : Nat → Nat} {i : Int} (K : LC p s m meth c b L xs D G sa) (hM : XE D ad G IL (FA s) s.heap H locs σ (WG ad2 G IM τ)) (hR : REL σ τ) (hl : lv_has ls 9 (BL b ad ad2 i)) (hi : 0 ≤ i ∧ i + 4 ≤ L) (hf : cells + 2 ≤ 601024 ∧ slots + 32 ≤ 7293034) (KK : KL p l e s m below meth c b D ad G i (cells + 2) (slots + 32) Q) : W p l e room_1 s m #[.ref b] below meth c H locs cells slots Q (F0 m 705 ls []) := by
  have C := K.1
  refine lv_aload_n C.1 C.2.1 dL_law_705 rfl (lv_at hl 1 rfl) ?_
  refine x_ciA (mc := 0) (ms := 0) (fun q h => h) (x_runVA (As := []) (rest := []) C ⟨Nat.le_of_ble_eq_true rfl, Nat.le_of_ble_eq_true rfl⟩ cw_RL_116 (MET.toA (c_X11_empty l D ad G IL IL_h σ hR.n.2.1)) hM.x (IL_c (by omega)) (cx_0 ad G σ) (q := vwCl[11]) rfl rfl rfl rfl (Nat.le_of_ble_eq_true rfl) hl.1 dL_law_706 ⟨by show cells ≤ 601024; omega, by show slots ≤ 7293034; omega⟩) hM (fun k1 σ1 H1 locs1 hp hM => ?_)
  have hM := hM.swap IM_vld
  refine lv_aload_n C.1 C.2.1 dL_law_709 rfl (lv_at hl 2 rfl) ?_
  refine x_ciA (mc := 0) (ms := 0) (fun q h => h) (x_runVA (As := []) (rest := [.int (iI k1)]) C ⟨Nat.le_of_ble_eq_true rfl, Nat.le_of_ble_eq_true rfl⟩ cw_RL_119 (MET.toA (c_X12_empty l D ad2 G IM IM_h τ hR.inv.2.1)) hM.x (IM_h 100 (by decide) (by decide)) (cx_100 ad2 G _) (q := vwCl[12]) rfl rfl rfl rfl (Nat.le_of_ble_eq_true rfl) hl.1 dL_law_710 ⟨by show cells + 0 ≤ 601024; omega, by show slots + 0 ≤ 7293034; omega⟩) hM (fun z2 τ1 H2 locs2 hq hM => ?_)
  obtain ⟨ez, hR2⟩ := j_empty (kc := 0) hR hp hq
  subst ez
  have hM := hM.swap IL_vld
  refine x_icmp_refl C (tgt := 1801) dL_law_713 (by decide) ?_
  exact W.widen (by omega) (by omega) (KK ad2 σ1 τ1 H2 locs2 ls hM hR2 hl)
set_option maxRecDepth 100000 in
set_option maxHeartbeats 4000000 in
theorem lc_columns {p : Program} {l : Launch} (hst : l.stackTraces = false) {e : Env} {s : State} {m : MethodId} {below : List Frame} {meth : Method} {c : Code} {H : Heap} {locs : List Loc} {cells slots : Nat} {Q : State → Prop} {D : va_G} {ad ad2 : Nat → Nat} {G : Nat → Nat} {σ τ : Sg} {ls : Array Slot} {b L : Nat} {xs : Nat → Int32} {sa : Nat → Nat} {i : Int} (K : LC p s m meth c b L xs D G sa) (hM : XE D ad G IL (FA s) s.heap H locs σ (WG ad2 G IM τ)) (hR : REL σ τ) (hl : lv_has ls 9 (BL b ad ad2 i)) (hi : 0 ≤ i ∧ i + 4 ≤ L) (hf : cells + 2 ≤ 601024 ∧ slots + 32 ≤ 7293034) (KK : KL p l e s m below meth c b D ad G i (cells + 2) (slots + 32) Q) : W p l e room_1 s m #[.ref b] below meth c H locs cells slots Q (F0 m 718 ls []) := by
  have C := K.1
  refine lv_aload_n C.1 C.2.1 dL_law_718 rfl (lv_at hl 1 rfl) ?_
  refine x_ciA (mc := 0) (ms := 0) (fun q h => h) (x_runVA (As := []) (rest := []) C ⟨Nat.le_of_ble_eq_true rfl, Nat.le_of_ble_eq_true rfl⟩ cw_RL_120 (MET.toA (c_X11_columns l D ad G IL IL_h σ )) hM.x (IL_c (by omega)) (cx_0 ad G σ) (q := vwCl[11]) rfl rfl rfl rfl (Nat.le_of_ble_eq_true rfl) hl.1 dL_law_719 ⟨by show cells ≤ 601024; omega, by show slots ≤ 7293034; omega⟩) hM (fun k1 σ1 H1 locs1 hp hM => ?_)
  have hM := hM.swap IM_vld
  refine lv_aload_n C.1 C.2.1 dL_law_722 rfl (lv_at hl 2 rfl) ?_
  refine x_ciA (mc := 0) (ms := 0) (fun q h => h) (x_runVA (As := []) (rest := [.int (iI k1)]) C ⟨Nat.le_of_ble_eq_true rfl, Nat.le_of_ble_eq_true rfl⟩ cw_RL_123 (MET.toA (c_X12_columns l D ad2 G IM IM_h τ )) hM.x (IM_h 100 (by decide) (by decide)) (cx_100 ad2 G _) (q := vwCl[12]) rfl rfl rfl rfl (Nat.le_of_ble_eq_true rfl) hl.1 dL_law_723 ⟨by show cells + 0 ≤ 601024; omega, by show slots + 0 ≤ 7293034; omega⟩) hM (fun z2 τ1 H2 locs2 hq hM => ?_)
  obtain ⟨ez, hR2⟩ := j_columns (kc := 0) hR hp hq
  subst ez
  have hM := hM.swap IL_vld
  refine x_icmp_refl C (tgt := 1801) dL_law_726 (by decide) ?_
  exact W.widen (by omega) (by omega) (KK ad2 σ1 τ1 H2 locs2 ls hM hR2 hl)
set_option maxRecDepth 100000 in
set_option maxHeartbeats 4000000 in
theorem lc_rows {p : Program} {l : Launch} (hst : l.stackTraces = false) {e : Env} {s : State} {m : MethodId} {below : List Frame} {meth : Method} {c : Code} {H : Heap} {locs : List Loc} {cells slots : Nat} {Q : State → Prop} {D : va_G} {ad ad2 : Nat → Nat} {G : Nat → Nat} {σ τ : Sg} {ls : Array Slot} {b L : Nat} {xs : Nat → Int32} {sa : Nat → Nat} {i : Int} (K : LC p s m meth c b L xs D G sa) (hM : XE D ad G IL (FA s) s.heap H locs σ (WG ad2 G IM τ)) (hR : REL σ τ) (hl : lv_has ls 9 (BL b ad ad2 i)) (hi : 0 ≤ i ∧ i + 4 ≤ L) (hf : cells + 2 ≤ 601024 ∧ slots + 32 ≤ 7293034) (KK : KL p l e s m below meth c b D ad G i (cells + 2) (slots + 32) Q) : W p l e room_1 s m #[.ref b] below meth c H locs cells slots Q (F0 m 731 ls []) := by
  have C := K.1
  refine lv_aload_n C.1 C.2.1 dL_law_731 rfl (lv_at hl 1 rfl) ?_
  refine x_ciA (mc := 0) (ms := 0) (fun q h => h) (x_runVA (As := []) (rest := []) C ⟨Nat.le_of_ble_eq_true rfl, Nat.le_of_ble_eq_true rfl⟩ cw_RL_124 (MET.toA (c_X11_rows l D ad G IL IL_h σ )) hM.x (IL_c (by omega)) (cx_0 ad G σ) (q := vwCl[11]) rfl rfl rfl rfl (Nat.le_of_ble_eq_true rfl) hl.1 dL_law_732 ⟨by show cells ≤ 601024; omega, by show slots ≤ 7293034; omega⟩) hM (fun k1 σ1 H1 locs1 hp hM => ?_)
  have hM := hM.swap IM_vld
  refine lv_aload_n C.1 C.2.1 dL_law_735 rfl (lv_at hl 2 rfl) ?_
  refine x_ciA (mc := 0) (ms := 0) (fun q h => h) (x_runVA (As := []) (rest := [.int (iI k1)]) C ⟨Nat.le_of_ble_eq_true rfl, Nat.le_of_ble_eq_true rfl⟩ cw_RL_127 (MET.toA (c_X12_rows l D ad2 G IM IM_h τ )) hM.x (IM_h 100 (by decide) (by decide)) (cx_100 ad2 G _) (q := vwCl[12]) rfl rfl rfl rfl (Nat.le_of_ble_eq_true rfl) hl.1 dL_law_736 ⟨by show cells + 0 ≤ 601024; omega, by show slots + 0 ≤ 7293034; omega⟩) hM (fun z2 τ1 H2 locs2 hq hM => ?_)
  obtain ⟨ez, hR2⟩ := j_rows (kc := 0) hR hp hq
  subst ez
  have hM := hM.swap IL_vld
  refine x_icmp_refl C (tgt := 1801) dL_law_739 (by decide) ?_
  exact W.widen (by omega) (by omega) (KK ad2 σ1 τ1 H2 locs2 ls hM hR2 hl)
set_option maxRecDepth 100000 in
set_option maxHeartbeats 4000000 in
theorem lc_at {p : Program} {l : Launch} (hst : l.stackTraces = false) {e : Env} {s : State} {m : MethodId} {below : List Frame} {meth : Method} {c : Code} {H : Heap} {locs : List Loc} {cells slots : Nat} {Q : State → Prop} {D : va_G} {ad ad2 : Nat → Nat} {G : Nat → Nat} {σ τ : Sg} {ls : Array Slot} {b L : Nat} {xs : Nat → Int32} {sa : Nat → Nat} {i : Int} (K : LC p s m meth c b L xs D G sa) (hM : XE D ad G IL (FA s) s.heap H locs σ (WG ad2 G IM τ)) (hR : REL σ τ) (hl : lv_has ls 9 (BL b ad ad2 i)) (hi : 0 ≤ i ∧ i + 4 ≤ L) (hf : cells + 2 ≤ 601024 ∧ slots + 32 ≤ 7293034) (KK : KL p l e s m below meth c b D ad G i (cells + 2) (slots + 32) Q) : W p l e room_1 s m #[.ref b] below meth c H locs cells slots Q (F0 m 744 ls []) := by
  have C := K.1
  refine lv_aload_n C.1 C.2.1 dL_law_744 rfl (lv_at hl 1 rfl) ?_
  refine x_arg K hM.2.2.1 (lv_at hl 0 rfl) (lv_at hl 4 rfl) (k := 1) (v := iI 1) (by omega) rfl dL_law_745 dL_law_746 dL_law_748 dL_law_749 dL_law_750 ?_
  refine lv_aload_n C.1 C.2.1 dL_law_751 rfl (lv_at hl 3 rfl) ?_
  have W1 := c_L_at l D ad G σ sa (c_X11_at l hst D ad G IL IL_h σ sa (xv xs (i + 1)) hR.g (xv_IR xs _)) (fun E τ h => h.2.1)
  refine x_ciA (mc := 1) (ms := 6) (fun q h => h) (x_wr (As := [.ref (ad 0), .int (iI (xv xs (i + 1))), .ref (ad 240)]) (rest := []) C K.2.1 K.2.2.1 (tz_at K.2.2.2.1 hM) ⟨Nat.le_of_ble_eq_true rfl, Nat.le_of_ble_eq_true rfl⟩ cwl_at W1 hM.x rfl rfl (Nat.le_of_ble_eq_true rfl) hl.1 dL_law_752 ⟨by show cells + 1 ≤ 601024; omega, by show slots + 6 ≤ 7293034; omega⟩) hM (fun k1 σ1 H1 locs1 hp hM => ?_)
  refine lv_istore C.1 C.2.1 dL_law_755 hl (by decide) rfl (fun ls hl => ?_)
  have hl : lv_has ls 9 ((5, .int (iI k1)) :: BL b ad ad2 i) := hl
  have hM := hM.swap IM_vld
  refine lv_aload_n C.1 C.2.1 dL_law_757 rfl (lv_at hl 3 rfl) ?_
  refine x_arg K hM.2.2.1 (lv_at hl 1 rfl) (lv_at hl 5 rfl) (k := 1) (v := iI 1) (by omega) rfl dL_law_758 dL_law_759 dL_law_761 dL_law_762 dL_law_763 ?_
  refine x_ciA (mc := 0) (ms := 0) (fun q h => h) (x_runVA (As := [.int (iI (xv xs (i + 1)))]) (rest := []) C ⟨Nat.le_of_ble_eq_true rfl, Nat.le_of_ble_eq_true rfl⟩ cw_RL_130 (MET.toA (c_X12_at l D ad2 G IM IM_h τ (xv xs (i + 1)) hR.inv.1.1 (xv_IR xs _))) hM.x (IM_h 100 (by decide) (by decide)) (cx_100 ad2 G _) (q := vwCl[12]) rfl rfl rfl rfl (Nat.le_of_ble_eq_true rfl) hl.1 dL_law_764 ⟨by show cells + 1 + 0 ≤ 601024; omega, by show slots + 6 + 0 ≤ 7293034; omega⟩) hM (fun z2 τ1 H2 locs2 hq hM => ?_)
  have J := j_at (z1 := 0) hR hp hq
  have kb := wpost_b hp cd1_b
  refine lv_istore C.1 C.2.1 dL_law_767 hl (by decide) rfl (fun ls hl => ?_)
  have hl : lv_has ls 9 ((6, .int (iI z2)) :: (5, .int (iI k1)) :: BL b ad ad2 i) := hl
  exact x_tail K hM J kb hl ⟨by omega, by omega, by omega, by omega⟩ KK dL_law_769 dL_law_770 dL_law_773 dL_law_775 dL_law_780 dL_law_782 dL_law_785 dL_law_786 dL_law_787 dL_law_788 dL_law_790 dL_law_791 dL_law_792 dL_law_797 (by decide)
set_option maxRecDepth 100000 in
set_option maxHeartbeats 4000000 in
theorem lc_side {p : Program} {l : Launch} (hst : l.stackTraces = false) {e : Env} {s : State} {m : MethodId} {below : List Frame} {meth : Method} {c : Code} {H : Heap} {locs : List Loc} {cells slots : Nat} {Q : State → Prop} {D : va_G} {ad ad2 : Nat → Nat} {G : Nat → Nat} {σ τ : Sg} {ls : Array Slot} {b L : Nat} {xs : Nat → Int32} {sa : Nat → Nat} {i : Int} (K : LC p s m meth c b L xs D G sa) (hM : XE D ad G IL (FA s) s.heap H locs σ (WG ad2 G IM τ)) (hR : REL σ τ) (hl : lv_has ls 9 (BL b ad ad2 i)) (hi : 0 ≤ i ∧ i + 4 ≤ L) (hf : cells + 2 ≤ 601024 ∧ slots + 32 ≤ 7293034) (KK : KL p l e s m below meth c b D ad G i (cells + 2) (slots + 32) Q) : W p l e room_1 s m #[.ref b] below meth c H locs cells slots Q (F0 m 800 ls []) := by
  have C := K.1
  refine lv_aload_n C.1 C.2.1 dL_law_800 rfl (lv_at hl 1 rfl) ?_
  refine x_ciA (mc := 0) (ms := 0) (fun q h => h) (x_runVA (As := []) (rest := []) C ⟨Nat.le_of_ble_eq_true rfl, Nat.le_of_ble_eq_true rfl⟩ cw_RL_131 (MET.toA (c_X11_side l D ad G IL IL_h σ )) hM.x (IL_c (by omega)) (cx_0 ad G σ) (q := vwCl[11]) rfl rfl rfl rfl (Nat.le_of_ble_eq_true rfl) hl.1 dL_law_801 ⟨by show cells ≤ 601024; omega, by show slots ≤ 7293034; omega⟩) hM (fun k1 σ1 H1 locs1 hp hM => ?_)
  have hM := hM.swap IM_vld
  refine lv_aload_n C.1 C.2.1 dL_law_804 rfl (lv_at hl 2 rfl) ?_
  refine x_ciA (mc := 0) (ms := 0) (fun q h => h) (x_runVA (As := []) (rest := [.int (iI k1)]) C ⟨Nat.le_of_ble_eq_true rfl, Nat.le_of_ble_eq_true rfl⟩ cw_RL_134 (MET.toA (c_X12_side l D ad2 G IM IM_h τ hR.inv.1.1)) hM.x (IM_h 100 (by decide) (by decide)) (cx_100 ad2 G _) (q := vwCl[12]) rfl rfl rfl rfl (Nat.le_of_ble_eq_true rfl) hl.1 dL_law_805 ⟨by show cells + 0 ≤ 601024; omega, by show slots + 0 ≤ 7293034; omega⟩) hM (fun z2 τ1 H2 locs2 hq hM => ?_)
  obtain ⟨ez, hR2⟩ := j_side (kc := 0) hR hp hq
  subst ez
  have hM := hM.swap IL_vld
  refine x_icmp_refl C (tgt := 1801) dL_law_808 (by decide) ?_
  exact W.widen (by omega) (by omega) (KK ad2 σ1 τ1 H2 locs2 ls hM hR2 hl)
set_option maxRecDepth 100000 in
set_option maxHeartbeats 4000000 in
theorem lc_played {p : Program} {l : Launch} (hst : l.stackTraces = false) {e : Env} {s : State} {m : MethodId} {below : List Frame} {meth : Method} {c : Code} {H : Heap} {locs : List Loc} {cells slots : Nat} {Q : State → Prop} {D : va_G} {ad ad2 : Nat → Nat} {G : Nat → Nat} {σ τ : Sg} {ls : Array Slot} {b L : Nat} {xs : Nat → Int32} {sa : Nat → Nat} {i : Int} (K : LC p s m meth c b L xs D G sa) (hM : XE D ad G IL (FA s) s.heap H locs σ (WG ad2 G IM τ)) (hR : REL σ τ) (hl : lv_has ls 9 (BL b ad ad2 i)) (hi : 0 ≤ i ∧ i + 4 ≤ L) (hf : cells + 2 ≤ 601024 ∧ slots + 32 ≤ 7293034) (KK : KL p l e s m below meth c b D ad G i (cells + 2) (slots + 32) Q) : W p l e room_1 s m #[.ref b] below meth c H locs cells slots Q (F0 m 813 ls []) := by
  have C := K.1
  refine lv_aload_n C.1 C.2.1 dL_law_813 rfl (lv_at hl 1 rfl) ?_
  refine x_ciA (mc := 0) (ms := 0) (fun q h => h) (x_runVA (As := []) (rest := []) C ⟨Nat.le_of_ble_eq_true rfl, Nat.le_of_ble_eq_true rfl⟩ cw_RL_135 (MET.toA (c_X11_played l D ad G IL IL_h σ )) hM.x (IL_c (by omega)) (cx_0 ad G σ) (q := vwCl[11]) rfl rfl rfl rfl (Nat.le_of_ble_eq_true rfl) hl.1 dL_law_814 ⟨by show cells ≤ 601024; omega, by show slots ≤ 7293034; omega⟩) hM (fun k1 σ1 H1 locs1 hp hM => ?_)
  have hM := hM.swap IM_vld
  refine lv_aload_n C.1 C.2.1 dL_law_817 rfl (lv_at hl 2 rfl) ?_
  refine x_ciA (mc := 0) (ms := 0) (fun q h => h) (x_runVA (As := []) (rest := [.int (iI k1)]) C ⟨Nat.le_of_ble_eq_true rfl, Nat.le_of_ble_eq_true rfl⟩ cw_RL_138 (MET.toA (c_X12_played l D ad2 G IM IM_h τ )) hM.x (IM_h 100 (by decide) (by decide)) (cx_100 ad2 G _) (q := vwCl[12]) rfl rfl rfl rfl (Nat.le_of_ble_eq_true rfl) hl.1 dL_law_818 ⟨by show cells + 0 ≤ 601024; omega, by show slots + 0 ≤ 7293034; omega⟩) hM (fun z2 τ1 H2 locs2 hq hM => ?_)
  obtain ⟨ez, hR2⟩ := j_played (kc := 0) hR hp hq
  subst ez
  have hM := hM.swap IL_vld
  refine x_icmp_refl C (tgt := 1801) dL_law_821 (by decide) ?_
  exact W.widen (by omega) (by omega) (KK ad2 σ1 τ1 H2 locs2 ls hM hR2 hl)
set_option maxRecDepth 100000 in
set_option maxHeartbeats 4000000 in
theorem lc_moves {p : Program} {l : Launch} (hst : l.stackTraces = false) {e : Env} {s : State} {m : MethodId} {below : List Frame} {meth : Method} {c : Code} {H : Heap} {locs : List Loc} {cells slots : Nat} {Q : State → Prop} {D : va_G} {ad ad2 : Nat → Nat} {G : Nat → Nat} {σ τ : Sg} {ls : Array Slot} {b L : Nat} {xs : Nat → Int32} {sa : Nat → Nat} {i : Int} (K : LC p s m meth c b L xs D G sa) (hM : XE D ad G IL (FA s) s.heap H locs σ (WG ad2 G IM τ)) (hR : REL σ τ) (hl : lv_has ls 9 (BL b ad ad2 i)) (hi : 0 ≤ i ∧ i + 4 ≤ L) (hf : cells + 2 ≤ 601024 ∧ slots + 32 ≤ 7293034) (KK : KL p l e s m below meth c b D ad G i (cells + 2) (slots + 32) Q) : W p l e room_1 s m #[.ref b] below meth c H locs cells slots Q (F0 m 826 ls []) := by
  have C := K.1
  refine lv_aload_n C.1 C.2.1 dL_law_826 rfl (lv_at hl 1 rfl) ?_
  refine x_ciA (mc := 0) (ms := 0) (fun q h => h) (x_runVA (As := []) (rest := []) C ⟨Nat.le_of_ble_eq_true rfl, Nat.le_of_ble_eq_true rfl⟩ cw_RL_139 (MET.toA (c_X11_moves l D ad G IL IL_h σ hR.g hR.hl)) hM.x (IL_c (by omega)) (cx_0 ad G σ) (q := vwCl[11]) rfl rfl rfl rfl (Nat.le_of_ble_eq_true rfl) hl.1 dL_law_827 ⟨by show cells ≤ 601024; omega, by show slots ≤ 7293034; omega⟩) hM (fun k1 σ1 H1 locs1 hp hM => ?_)
  have hM := hM.swap IM_vld
  refine lv_aload_n C.1 C.2.1 dL_law_830 rfl (lv_at hl 2 rfl) ?_
  refine x_ciA (mc := 0) (ms := 0) (fun q h => h) (x_runVA (As := []) (rest := [.int (iI k1)]) C ⟨Nat.le_of_ble_eq_true rfl, Nat.le_of_ble_eq_true rfl⟩ cw_RL_142 (MET.toA (c_X12_moves l D ad2 G IM IM_h τ hR.inv.1)) hM.x (IM_h 100 (by decide) (by decide)) (cx_100 ad2 G _) (q := vwCl[12]) rfl rfl rfl rfl (Nat.le_of_ble_eq_true rfl) hl.1 dL_law_831 ⟨by show cells + 0 ≤ 601024; omega, by show slots + 0 ≤ 7293034; omega⟩) hM (fun z2 τ1 H2 locs2 hq hM => ?_)
  obtain ⟨ez, hR2⟩ := j_moves (kc := 0) hR hp hq
  subst ez
  have hM := hM.swap IL_vld
  refine x_icmp_refl C (tgt := 1801) dL_law_834 (by decide) ?_
  exact W.widen (by omega) (by omega) (KK ad2 σ1 τ1 H2 locs2 ls hM hR2 hl)
set_option maxRecDepth 100000 in
set_option maxHeartbeats 4000000 in
theorem lc_from {p : Program} {l : Launch} (hst : l.stackTraces = false) {e : Env} {s : State} {m : MethodId} {below : List Frame} {meth : Method} {c : Code} {H : Heap} {locs : List Loc} {cells slots : Nat} {Q : State → Prop} {D : va_G} {ad ad2 : Nat → Nat} {G : Nat → Nat} {σ τ : Sg} {ls : Array Slot} {b L : Nat} {xs : Nat → Int32} {sa : Nat → Nat} {i : Int} (K : LC p s m meth c b L xs D G sa) (hM : XE D ad G IL (FA s) s.heap H locs σ (WG ad2 G IM τ)) (hR : REL σ τ) (hl : lv_has ls 9 (BL b ad ad2 i)) (hi : 0 ≤ i ∧ i + 4 ≤ L) (hf : cells + 2 ≤ 601024 ∧ slots + 32 ≤ 7293034) (KK : KL p l e s m below meth c b D ad G i (cells + 2) (slots + 32) Q) : W p l e room_1 s m #[.ref b] below meth c H locs cells slots Q (F0 m 839 ls []) := by
  have C := K.1
  refine lv_aload_n C.1 C.2.1 dL_law_839 rfl (lv_at hl 1 rfl) ?_
  refine x_arg K hM.2.2.1 (lv_at hl 0 rfl) (lv_at hl 4 rfl) (k := 1) (v := iI 1) (by omega) rfl dL_law_840 dL_law_841 dL_law_843 dL_law_844 dL_law_845 ?_
  refine lv_aload_n C.1 C.2.1 dL_law_846 rfl (lv_at hl 3 rfl) ?_
  have W1 := c_L_from l D ad G σ sa (c_X11_from l hst D ad G IL IL_h σ sa (xv xs (i + 1)) hR.g hR.hl (xv_IR xs _)) (fun E τ h => h.2.1)
  refine x_ciA (mc := 1) (ms := 6) (fun q h => h) (x_wr (As := [.ref (ad 0), .int (iI (xv xs (i + 1))), .ref (ad 240)]) (rest := []) C K.2.1 K.2.2.1 (tz_at K.2.2.2.1 hM) ⟨Nat.le_of_ble_eq_true rfl, Nat.le_of_ble_eq_true rfl⟩ cwl_from W1 hM.x rfl rfl (Nat.le_of_ble_eq_true rfl) hl.1 dL_law_847 ⟨by show cells + 1 ≤ 601024; omega, by show slots + 6 ≤ 7293034; omega⟩) hM (fun k1 σ1 H1 locs1 hp hM => ?_)
  refine lv_istore C.1 C.2.1 dL_law_850 hl (by decide) rfl (fun ls hl => ?_)
  have hl : lv_has ls 9 ((5, .int (iI k1)) :: BL b ad ad2 i) := hl
  have hM := hM.swap IM_vld
  refine lv_aload_n C.1 C.2.1 dL_law_852 rfl (lv_at hl 3 rfl) ?_
  refine x_arg K hM.2.2.1 (lv_at hl 1 rfl) (lv_at hl 5 rfl) (k := 1) (v := iI 1) (by omega) rfl dL_law_853 dL_law_854 dL_law_856 dL_law_857 dL_law_858 ?_
  refine x_ciA (mc := 0) (ms := 0) (fun q h => h) (x_runVA (As := [.int (iI (xv xs (i + 1)))]) (rest := []) C ⟨Nat.le_of_ble_eq_true rfl, Nat.le_of_ble_eq_true rfl⟩ cw_RL_145 (MET.toA (c_X12_from l D ad2 G IM IM_h τ (xv xs (i + 1)) hR.inv.1 (xv_IR xs _))) hM.x (IM_h 100 (by decide) (by decide)) (cx_100 ad2 G _) (q := vwCl[12]) rfl rfl rfl rfl (Nat.le_of_ble_eq_true rfl) hl.1 dL_law_859 ⟨by show cells + 1 + 0 ≤ 601024; omega, by show slots + 6 + 0 ≤ 7293034; omega⟩) hM (fun z2 τ1 H2 locs2 hq hM => ?_)
  have J := j_from (z1 := 0) hR hp hq
  have kb := wpost_b hp cd1_b
  refine lv_istore C.1 C.2.1 dL_law_862 hl (by decide) rfl (fun ls hl => ?_)
  have hl : lv_has ls 9 ((6, .int (iI z2)) :: (5, .int (iI k1)) :: BL b ad ad2 i) := hl
  exact x_tail K hM J kb hl ⟨by omega, by omega, by omega, by omega⟩ KK dL_law_864 dL_law_865 dL_law_868 dL_law_870 dL_law_875 dL_law_877 dL_law_880 dL_law_881 dL_law_882 dL_law_883 dL_law_885 dL_law_886 dL_law_887 dL_law_892 (by decide)
set_option maxRecDepth 100000 in
set_option maxHeartbeats 4000000 in
theorem lc_to {p : Program} {l : Launch} (hst : l.stackTraces = false) {e : Env} {s : State} {m : MethodId} {below : List Frame} {meth : Method} {c : Code} {H : Heap} {locs : List Loc} {cells slots : Nat} {Q : State → Prop} {D : va_G} {ad ad2 : Nat → Nat} {G : Nat → Nat} {σ τ : Sg} {ls : Array Slot} {b L : Nat} {xs : Nat → Int32} {sa : Nat → Nat} {i : Int} (K : LC p s m meth c b L xs D G sa) (hM : XE D ad G IL (FA s) s.heap H locs σ (WG ad2 G IM τ)) (hR : REL σ τ) (hl : lv_has ls 9 (BL b ad ad2 i)) (hi : 0 ≤ i ∧ i + 4 ≤ L) (hf : cells + 2 ≤ 601024 ∧ slots + 32 ≤ 7293034) (KK : KL p l e s m below meth c b D ad G i (cells + 2) (slots + 32) Q) : W p l e room_1 s m #[.ref b] below meth c H locs cells slots Q (F0 m 895 ls []) := by
  have C := K.1
  refine lv_aload_n C.1 C.2.1 dL_law_895 rfl (lv_at hl 1 rfl) ?_
  refine x_arg K hM.2.2.1 (lv_at hl 0 rfl) (lv_at hl 4 rfl) (k := 1) (v := iI 1) (by omega) rfl dL_law_896 dL_law_897 dL_law_899 dL_law_900 dL_law_901 ?_
  refine lv_aload_n C.1 C.2.1 dL_law_902 rfl (lv_at hl 3 rfl) ?_
  have W1 := c_L_to l D ad G σ sa (c_X11_to l hst D ad G IL IL_h σ sa (xv xs (i + 1)) hR.g hR.hl (xv_IR xs _)) (fun E τ h => h.2.1)
  refine x_ciA (mc := 1) (ms := 6) (fun q h => h) (x_wr (As := [.ref (ad 0), .int (iI (xv xs (i + 1))), .ref (ad 240)]) (rest := []) C K.2.1 K.2.2.1 (tz_at K.2.2.2.1 hM) ⟨Nat.le_of_ble_eq_true rfl, Nat.le_of_ble_eq_true rfl⟩ cwl_to W1 hM.x rfl rfl (Nat.le_of_ble_eq_true rfl) hl.1 dL_law_903 ⟨by show cells + 1 ≤ 601024; omega, by show slots + 6 ≤ 7293034; omega⟩) hM (fun k1 σ1 H1 locs1 hp hM => ?_)
  refine lv_istore C.1 C.2.1 dL_law_906 hl (by decide) rfl (fun ls hl => ?_)
  have hl : lv_has ls 9 ((5, .int (iI k1)) :: BL b ad ad2 i) := hl
  have hM := hM.swap IM_vld
  refine lv_aload_n C.1 C.2.1 dL_law_908 rfl (lv_at hl 3 rfl) ?_
  refine x_arg K hM.2.2.1 (lv_at hl 1 rfl) (lv_at hl 5 rfl) (k := 1) (v := iI 1) (by omega) rfl dL_law_909 dL_law_910 dL_law_912 dL_law_913 dL_law_914 ?_
  refine x_ciA (mc := 0) (ms := 0) (fun q h => h) (x_runVA (As := [.int (iI (xv xs (i + 1)))]) (rest := []) C ⟨Nat.le_of_ble_eq_true rfl, Nat.le_of_ble_eq_true rfl⟩ cw_RL_148 (MET.toA (c_X12_to l D ad2 G IM IM_h τ (xv xs (i + 1)) hR.inv.1 (xv_IR xs _))) hM.x (IM_h 100 (by decide) (by decide)) (cx_100 ad2 G _) (q := vwCl[12]) rfl rfl rfl rfl (Nat.le_of_ble_eq_true rfl) hl.1 dL_law_915 ⟨by show cells + 1 + 0 ≤ 601024; omega, by show slots + 6 + 0 ≤ 7293034; omega⟩) hM (fun z2 τ1 H2 locs2 hq hM => ?_)
  have J := j_to (z1 := 0) hR hp hq
  have kb := wpost_b hp cd1_b
  refine lv_istore C.1 C.2.1 dL_law_918 hl (by decide) rfl (fun ls hl => ?_)
  have hl : lv_has ls 9 ((6, .int (iI z2)) :: (5, .int (iI k1)) :: BL b ad ad2 i) := hl
  exact x_tail K hM J kb hl ⟨by omega, by omega, by omega, by omega⟩ KK dL_law_920 dL_law_921 dL_law_924 dL_law_926 dL_law_931 dL_law_933 dL_law_936 dL_law_937 dL_law_938 dL_law_939 dL_law_941 dL_law_942 dL_law_943 dL_law_948 (by decide)
set_option maxRecDepth 100000 in
set_option maxHeartbeats 4000000 in
theorem lc_takes {p : Program} {l : Launch} (hst : l.stackTraces = false) {e : Env} {s : State} {m : MethodId} {below : List Frame} {meth : Method} {c : Code} {H : Heap} {locs : List Loc} {cells slots : Nat} {Q : State → Prop} {D : va_G} {ad ad2 : Nat → Nat} {G : Nat → Nat} {σ τ : Sg} {ls : Array Slot} {b L : Nat} {xs : Nat → Int32} {sa : Nat → Nat} {i : Int} (K : LC p s m meth c b L xs D G sa) (hM : XE D ad G IL (FA s) s.heap H locs σ (WG ad2 G IM τ)) (hR : REL σ τ) (hl : lv_has ls 9 (BL b ad ad2 i)) (hi : 0 ≤ i ∧ i + 4 ≤ L) (hf : cells + 2 ≤ 601024 ∧ slots + 32 ≤ 7293034) (KK : KL p l e s m below meth c b D ad G i (cells + 2) (slots + 32) Q) : W p l e room_1 s m #[.ref b] below meth c H locs cells slots Q (F0 m 951 ls []) := by
  have C := K.1
  refine lv_aload_n C.1 C.2.1 dL_law_951 rfl (lv_at hl 1 rfl) ?_
  refine x_arg K hM.2.2.1 (lv_at hl 0 rfl) (lv_at hl 4 rfl) (k := 1) (v := iI 1) (by omega) rfl dL_law_952 dL_law_953 dL_law_955 dL_law_956 dL_law_957 ?_
  refine lv_aload_n C.1 C.2.1 dL_law_958 rfl (lv_at hl 3 rfl) ?_
  have W1 := c_L_takes l D ad G σ sa (c_X11_takes l hst D ad G IL IL_h σ sa (xv xs (i + 1)) hR.g hR.hl (xv_IR xs _)) (fun E τ h => h.2.1) (fun z τ h => (ite01 h.2.1).1)
  refine x_ciA (mc := 1) (ms := 6) (fun q h => h) (x_wr (As := [.ref (ad 0), .int (iI (xv xs (i + 1))), .ref (ad 240)]) (rest := []) C K.2.1 K.2.2.1 (tz_at K.2.2.2.1 hM) ⟨Nat.le_of_ble_eq_true rfl, Nat.le_of_ble_eq_true rfl⟩ cwl_takes W1 hM.x rfl rfl (Nat.le_of_ble_eq_true rfl) hl.1 dL_law_959 ⟨by show cells + 1 ≤ 601024; omega, by show slots + 6 ≤ 7293034; omega⟩) hM (fun k1 σ1 H1 locs1 hp hM => ?_)
  refine lv_istore C.1 C.2.1 dL_law_962 hl (by decide) rfl (fun ls hl => ?_)
  have hl : lv_has ls 9 ((5, .int (iI k1)) :: BL b ad ad2 i) := hl
  have hM := hM.swap IM_vld
  refine lv_aload_n C.1 C.2.1 dL_law_964 rfl (lv_at hl 3 rfl) ?_
  refine x_arg K hM.2.2.1 (lv_at hl 1 rfl) (lv_at hl 5 rfl) (k := 1) (v := iI 1) (by omega) rfl dL_law_965 dL_law_966 dL_law_968 dL_law_969 dL_law_970 ?_
  refine x_ciA (mc := 0) (ms := 0) (fun q h => h) (x_runVA (As := [.int (iI (xv xs (i + 1)))]) (rest := []) C ⟨Nat.le_of_ble_eq_true rfl, Nat.le_of_ble_eq_true rfl⟩ cw_RL_151 (MET.toA (c_X12_takes l D ad2 G IM IM_h τ (xv xs (i + 1)) hR.inv.1 (xv_IR xs _))) hM.x (IM_h 100 (by decide) (by decide)) (cx_100 ad2 G _) (q := vwCl[12]) rfl rfl rfl rfl (Nat.le_of_ble_eq_true rfl) hl.1 dL_law_971 ⟨by show cells + 1 + 0 ≤ 601024; omega, by show slots + 6 + 0 ≤ 7293034; omega⟩) hM (fun z2 τ1 H2 locs2 hq hM => ?_)
  have J := j_takes (z1 := 0) hR hp hq
  have kb := wpost_b hp cd1_b
  refine lv_istore C.1 C.2.1 dL_law_974 hl (by decide) rfl (fun ls hl => ?_)
  have hl : lv_has ls 9 ((6, .int (iI z2)) :: (5, .int (iI k1)) :: BL b ad ad2 i) := hl
  refine x_thr K hM J.1 hl.1 (lv_at hl 4 rfl) (lv_at hl 1 rfl) dL_law_976 dL_law_977 dL_law_980 dL_law_982 ⟨by omega, by omega⟩ (fun H3 locs3 hM => ?_)
  have hM := hM.swap IL_vld
  have fin : W p l e room_1 s m #[.ref b] below meth c H3 locs3 (cells + 1) (slots + 6) Q (F0 m 1011 ls []) := by
    refine lv_goto C.1 C.2.1 (tgt := 1801) dL_law_1011 (by decide) ?_
    exact W.widen (by omega) (by omega) (KK ad2 σ1 τ1 H3 locs3 ls hM J.2.2 (lv_less hl (fun q hq => List.mem_cons_of_mem _ (List.mem_cons_of_mem _ hq))))
  refine lv_iload C.1 C.2.1 dL_law_987 (lv_at hl 1 rfl) ?_
  refine x_if_ne C ⟨by omega, by omega⟩ (tgt := 1011) dL_law_989 (by decide) (fun _ => fin) (fun h => ?_)
  have h0 : k1 = 0 := by omega
  have z01 : z2 = 0 ∨ z2 = 1 := (ite01 hq.1).1
  refine lv_aload_n C.1 C.2.1 dL_law_992 rfl (lv_at hl 5 rfl) ?_
  refine lv_iconst C.1 C.2.1 (v := iI 0) dL_law_993 rfl ?_
  refine x_lald C hM.x IL_240 (cx_240 ad G σ1) (z := 0) (by omega) (by omega) (by omega) (v := σ1 270 0) rfl dL_law_994 ?_
  refine lv_iload C.1 C.2.1 dL_law_995 (lv_at hl 0 rfl) ?_
  refine x_bl C z01 dL_law_997 dL_law_1000 dL_law_1001 dL_law_1004 ?_
  rw [J.2.1 h0, wI_of ⟨by omega, by omega⟩]
  refine x_lcmp0 C dL_law_1005 ?_
  exact x_if_eq C (by decide) (tgt := 1011) dL_law_1006 (by decide) (fun _ => fin) (fun h => absurd rfl h)
set_option maxRecDepth 100000 in
set_option maxHeartbeats 4000000 in
theorem lc_isLost {p : Program} {l : Launch} (hst : l.stackTraces = false) {e : Env} {s : State} {m : MethodId} {below : List Frame} {meth : Method} {c : Code} {H : Heap} {locs : List Loc} {cells slots : Nat} {Q : State → Prop} {D : va_G} {ad ad2 : Nat → Nat} {G : Nat → Nat} {σ τ : Sg} {ls : Array Slot} {b L : Nat} {xs : Nat → Int32} {sa : Nat → Nat} {i : Int} (K : LC p s m meth c b L xs D G sa) (hM : XE D ad G IL (FA s) s.heap H locs σ (WG ad2 G IM τ)) (hR : REL σ τ) (hl : lv_has ls 9 (BL b ad ad2 i)) (hi : 0 ≤ i ∧ i + 4 ≤ L) (hf : cells + 2 ≤ 601024 ∧ slots + 32 ≤ 7293034) (KK : KL p l e s m below meth c b D ad G i (cells + 2) (slots + 32) Q) : W p l e room_1 s m #[.ref b] below meth c H locs cells slots Q (F0 m 1014 ls []) := by
  have C := K.1
  refine lv_aload_n C.1 C.2.1 dL_law_1014 rfl (lv_at hl 1 rfl) ?_
  refine x_ciA (mc := 0) (ms := 0) (fun q h => h) (x_runVA (As := []) (rest := []) C ⟨Nat.le_of_ble_eq_true rfl, Nat.le_of_ble_eq_true rfl⟩ cw_RL_152 (MET.toA (c_X11_isLost l D ad G IL IL_h σ hR.g hR.hl)) hM.x (IL_c (by omega)) (cx_0 ad G σ) (q := vwCl[11]) rfl rfl rfl rfl (Nat.le_of_ble_eq_true rfl) hl.1 dL_law_1015 ⟨by show cells ≤ 601024; omega, by show slots ≤ 7293034; omega⟩) hM (fun k1 σ1 H1 locs1 hp hM => ?_)
  have hM := hM.swap IM_vld
  refine lv_aload_n C.1 C.2.1 dL_law_1018 rfl (lv_at hl 2 rfl) ?_
  refine x_ciA (mc := 0) (ms := 0) (fun q h => h) (x_runVA (As := []) (rest := [.int (iI k1)]) C ⟨Nat.le_of_ble_eq_true rfl, Nat.le_of_ble_eq_true rfl⟩ cw_RL_156 (MET.toA (c_X12_isLost l D ad2 G IM IM_h τ hR.inv.1)) hM.x (IM_h 100 (by decide) (by decide)) (cx_100 ad2 G _) (q := vwCl[12]) rfl rfl rfl rfl (Nat.le_of_ble_eq_true rfl) hl.1 dL_law_1019 ⟨by show cells + 0 ≤ 601024; omega, by show slots + 0 ≤ 7293034; omega⟩) hM (fun z2 τ1 H2 locs2 hq hM => ?_)
  obtain ⟨ez, hR2⟩ := j_isLost (kc := 0) hR hp hq
  subst ez
  have hM := hM.swap IL_vld
  refine x_icmp_refl C (tgt := 1801) dL_law_1022 (by decide) ?_
  exact W.widen (by omega) (by omega) (KK ad2 σ1 τ1 H2 locs2 ls hM hR2 hl)
set_option maxRecDepth 100000 in
set_option maxHeartbeats 4000000 in
theorem lc_key {p : Program} {l : Launch} (hst : l.stackTraces = false) {e : Env} {s : State} {m : MethodId} {below : List Frame} {meth : Method} {c : Code} {H : Heap} {locs : List Loc} {cells slots : Nat} {Q : State → Prop} {D : va_G} {ad ad2 : Nat → Nat} {G : Nat → Nat} {σ τ : Sg} {ls : Array Slot} {b L : Nat} {xs : Nat → Int32} {sa : Nat → Nat} {i : Int} (K : LC p s m meth c b L xs D G sa) (hM : XE D ad G IL (FA s) s.heap H locs σ (WG ad2 G IM τ)) (hR : REL σ τ) (hl : lv_has ls 9 (BL b ad ad2 i)) (hi : 0 ≤ i ∧ i + 4 ≤ L) (hf : cells + 2 ≤ 601024 ∧ slots + 32 ≤ 7293034) (KK : KL p l e s m below meth c b D ad G i (cells + 2) (slots + 32) Q) : W p l e room_1 s m #[.ref b] below meth c H locs cells slots Q (F0 m 1027 ls []) := by
  have C := K.1
  refine lv_aload_n C.1 C.2.1 dL_law_1027 rfl (lv_at hl 1 rfl) ?_
  refine x_clA (mc := 0) (ms := 0) (fun q h => h) (x_runVA (As := []) (rest := []) C ⟨Nat.le_of_ble_eq_true rfl, Nat.le_of_ble_eq_true rfl⟩ cw_RL_157 (MET.toA (c_X11_key l D ad G IL IL_h σ hR.g)) hM.x (IL_c (by omega)) (cx_0 ad G σ) (q := vwCl[11]) rfl rfl rfl rfl (Nat.le_of_ble_eq_true rfl) hl.1 dL_law_1028 ⟨by show cells ≤ 601024; omega, by show slots ≤ 7293034; omega⟩) hM (fun k1 σ1 H1 locs1 hp hM => ?_)
  have hM := hM.swap IM_vld
  refine lv_aload_n C.1 C.2.1 dL_law_1031 rfl (lv_at hl 2 rfl) ?_
  refine x_clA (mc := 0) (ms := 0) (fun q h => h) (x_runVA (As := []) (rest := [.long (jI k1)]) C ⟨Nat.le_of_ble_eq_true rfl, Nat.le_of_ble_eq_true rfl⟩ cw_RL_161 (MET.toA (c_X12_key l D ad2 G IM IM_h τ hR.inv.1)) hM.x (IM_h 100 (by decide) (by decide)) (cx_100 ad2 G _) (q := vwCl[12]) rfl rfl rfl rfl (Nat.le_of_ble_eq_true rfl) hl.1 dL_law_1032 ⟨by show cells + 0 ≤ 601024; omega, by show slots + 0 ≤ 7293034; omega⟩) hM (fun z2 τ1 H2 locs2 hq hM => ?_)
  obtain ⟨ez, hR2⟩ := j_key (kc := 0) hR hp hq
  subst ez
  have hM := hM.swap IL_vld
  refine x_lcmp0 C dL_law_1035 ?_
  have fin : W p l e room_1 s m #[.ref b] below meth c H2 locs2 (cells) (slots) Q (F0 m 1801 ls []) := W.widen (by omega) (by omega) (KK ad2 σ1 τ1 H2 locs2 ls hM hR2 hl)
  exact x_if_eq C (by decide) (tgt := 1801) dL_law_1036 (by decide) (fun _ => fin) (fun h => absurd rfl h)
set_option maxRecDepth 100000 in
set_option maxHeartbeats 4000000 in
theorem lc_evaluation {p : Program} {l : Launch} (hst : l.stackTraces = false) {e : Env} {s : State} {m : MethodId} {below : List Frame} {meth : Method} {c : Code} {H : Heap} {locs : List Loc} {cells slots : Nat} {Q : State → Prop} {D : va_G} {ad ad2 : Nat → Nat} {G : Nat → Nat} {σ τ : Sg} {ls : Array Slot} {b L : Nat} {xs : Nat → Int32} {sa : Nat → Nat} {i : Int} (K : LC p s m meth c b L xs D G sa) (hM : XE D ad G IL (FA s) s.heap H locs σ (WG ad2 G IM τ)) (hR : REL σ τ) (hl : lv_has ls 9 (BL b ad ad2 i)) (hi : 0 ≤ i ∧ i + 4 ≤ L) (hf : cells + 2 ≤ 601024 ∧ slots + 32 ≤ 7293034) (KK : KL p l e s m below meth c b D ad G i (cells + 2) (slots + 32) Q) : W p l e room_1 s m #[.ref b] below meth c H locs cells slots Q (F0 m 1041 ls []) := by
  have C := K.1
  refine lv_aload_n C.1 C.2.1 dL_law_1041 rfl (lv_at hl 1 rfl) ?_
  refine x_ciA (mc := 0) (ms := 0) (fun q h => h) (x_runVA (As := []) (rest := []) C ⟨Nat.le_of_ble_eq_true rfl, Nat.le_of_ble_eq_true rfl⟩ cw_RL_162 (MET.toA (c_X11_evaluation l D ad G IL IL_h σ hR.g)) hM.x (IL_c (by omega)) (cx_0 ad G σ) (q := vwCl[11]) rfl rfl rfl rfl (Nat.le_of_ble_eq_true rfl) hl.1 dL_law_1042 ⟨by show cells ≤ 601024; omega, by show slots ≤ 7293034; omega⟩) hM (fun k1 σ1 H1 locs1 hp hM => ?_)
  have hM := hM.swap IM_vld
  refine lv_aload_n C.1 C.2.1 dL_law_1045 rfl (lv_at hl 2 rfl) ?_
  refine x_ciA (mc := 0) (ms := 0) (fun q h => h) (x_runVA (As := []) (rest := [.int (iI k1)]) C ⟨Nat.le_of_ble_eq_true rfl, Nat.le_of_ble_eq_true rfl⟩ cw_RL_165 (MET.toA (c_X12_evaluation l D ad2 G IM IM_h τ hR.inv.1)) hM.x (IM_h 100 (by decide) (by decide)) (cx_100 ad2 G _) (q := vwCl[12]) rfl rfl rfl rfl (Nat.le_of_ble_eq_true rfl) hl.1 dL_law_1046 ⟨by show cells + 0 ≤ 601024; omega, by show slots + 0 ≤ 7293034; omega⟩) hM (fun z2 τ1 H2 locs2 hq hM => ?_)
  obtain ⟨ez, hR2⟩ := j_evaluation (kc := 0) hR hp hq
  subst ez
  have hM := hM.swap IL_vld
  refine x_icmp_refl C (tgt := 1801) dL_law_1049 (by decide) ?_
  exact W.widen (by omega) (by omega) (KK ad2 σ1 τ1 H2 locs2 ls hM hR2 hl)
set_option maxRecDepth 100000 in
set_option maxHeartbeats 4000000 in
theorem lc_ways {p : Program} {l : Launch} (hst : l.stackTraces = false) {e : Env} {s : State} {m : MethodId} {below : List Frame} {meth : Method} {c : Code} {H : Heap} {locs : List Loc} {cells slots : Nat} {Q : State → Prop} {D : va_G} {ad ad2 : Nat → Nat} {G : Nat → Nat} {σ τ : Sg} {ls : Array Slot} {b L : Nat} {xs : Nat → Int32} {sa : Nat → Nat} {i : Int} (K : LC p s m meth c b L xs D G sa) (hM : XE D ad G IL (FA s) s.heap H locs σ (WG ad2 G IM τ)) (hR : REL σ τ) (hl : lv_has ls 9 (BL b ad ad2 i)) (hi : 0 ≤ i ∧ i + 4 ≤ L) (hf : cells + 2 ≤ 601024 ∧ slots + 32 ≤ 7293034) (KK : KL p l e s m below meth c b D ad G i (cells + 2) (slots + 32) Q) : W p l e room_1 s m #[.ref b] below meth c H locs cells slots Q (F0 m 1054 ls []) := by
  have C := K.1
  refine lv_aload_n C.1 C.2.1 dL_law_1054 rfl (lv_at hl 1 rfl) ?_
  refine x_arg K hM.2.2.1 (lv_at hl 0 rfl) (lv_at hl 4 rfl) (k := 1) (v := iI 1) (by omega) rfl dL_law_1055 dL_law_1056 dL_law_1058 dL_law_1059 dL_law_1060 ?_
  refine lv_aload_n C.1 C.2.1 dL_law_1061 rfl (lv_at hl 3 rfl) ?_
  have W1 := c_L_ways l D ad G σ sa (c_X11_ways l hst D ad G IL IL_h σ sa (xv xs (i + 1)) hR.g (xv_IR xs _)) (fun E τ h => h.2.1)
  refine x_ciA (mc := 1) (ms := 6) (fun q h => h) (x_wr (As := [.ref (ad 0), .int (iI (xv xs (i + 1))), .ref (ad 240)]) (rest := []) C K.2.1 K.2.2.1 (tz_at K.2.2.2.1 hM) ⟨Nat.le_of_ble_eq_true rfl, Nat.le_of_ble_eq_true rfl⟩ cwl_ways W1 hM.x rfl rfl (Nat.le_of_ble_eq_true rfl) hl.1 dL_law_1062 ⟨by show cells + 1 ≤ 601024; omega, by show slots + 6 ≤ 7293034; omega⟩) hM (fun k1 σ1 H1 locs1 hp hM => ?_)
  refine lv_istore C.1 C.2.1 dL_law_1065 hl (by decide) rfl (fun ls hl => ?_)
  have hl : lv_has ls 9 ((5, .int (iI k1)) :: BL b ad ad2 i) := hl
  have hM := hM.swap IM_vld
  refine lv_aload_n C.1 C.2.1 dL_law_1067 rfl (lv_at hl 3 rfl) ?_
  refine x_arg K hM.2.2.1 (lv_at hl 1 rfl) (lv_at hl 5 rfl) (k := 1) (v := iI 1) (by omega) rfl dL_law_1068 dL_law_1069 dL_law_1071 dL_law_1072 dL_law_1073 ?_
  refine x_ciA (mc := 0) (ms := 0) (fun q h => h) (x_runVA (As := [.int (iI (xv xs (i + 1)))]) (rest := []) C ⟨Nat.le_of_ble_eq_true rfl, Nat.le_of_ble_eq_true rfl⟩ cw_RL_168 (MET.toA (c_X12_ways l D ad2 G IM IM_h τ (xv xs (i + 1)) hR.inv.1 (xv_IR xs _))) hM.x (IM_h 100 (by decide) (by decide)) (cx_100 ad2 G _) (q := vwCl[12]) rfl rfl rfl rfl (Nat.le_of_ble_eq_true rfl) hl.1 dL_law_1074 ⟨by show cells + 1 + 0 ≤ 601024; omega, by show slots + 6 + 0 ≤ 7293034; omega⟩) hM (fun z2 τ1 H2 locs2 hq hM => ?_)
  have J := j_ways (z1 := 0) hR hp hq
  have kb := wpost_b hp cd1_b
  refine lv_istore C.1 C.2.1 dL_law_1077 hl (by decide) rfl (fun ls hl => ?_)
  have hl : lv_has ls 9 ((6, .int (iI z2)) :: (5, .int (iI k1)) :: BL b ad ad2 i) := hl
  exact x_tail K hM J kb hl ⟨by omega, by omega, by omega, by omega⟩ KK dL_law_1079 dL_law_1080 dL_law_1083 dL_law_1085 dL_law_1090 dL_law_1092 dL_law_1095 dL_law_1096 dL_law_1097 dL_law_1098 dL_law_1100 dL_law_1101 dL_law_1102 dL_law_1107 (by decide)
set_option maxRecDepth 100000 in
set_option maxHeartbeats 4000000 in
theorem lc_value {p : Program} {l : Launch} (hst : l.stackTraces = false) {e : Env} {s : State} {m : MethodId} {below : List Frame} {meth : Method} {c : Code} {H : Heap} {locs : List Loc} {cells slots : Nat} {Q : State → Prop} {D : va_G} {ad ad2 : Nat → Nat} {G : Nat → Nat} {σ τ : Sg} {ls : Array Slot} {b L : Nat} {xs : Nat → Int32} {sa : Nat → Nat} {i : Int} (K : LC p s m meth c b L xs D G sa) (hM : XE D ad G IL (FA s) s.heap H locs σ (WG ad2 G IM τ)) (hR : REL σ τ) (hl : lv_has ls 9 (BL b ad ad2 i)) (hi : 0 ≤ i ∧ i + 4 ≤ L) (hf : cells + 2 ≤ 601024 ∧ slots + 32 ≤ 7293034) (KK : KL p l e s m below meth c b D ad G i (cells + 2) (slots + 32) Q) : W p l e room_1 s m #[.ref b] below meth c H locs cells slots Q (F0 m 1110 ls []) := by
  have C := K.1
  refine lv_aload_n C.1 C.2.1 dL_law_1110 rfl (lv_at hl 1 rfl) ?_
  refine x_arg K hM.2.2.1 (lv_at hl 0 rfl) (lv_at hl 4 rfl) (k := 1) (v := iI 1) (by omega) rfl dL_law_1111 dL_law_1112 dL_law_1114 dL_law_1115 dL_law_1116 ?_
  refine lv_aload_n C.1 C.2.1 dL_law_1117 rfl (lv_at hl 3 rfl) ?_
  have W1 := c_L_value l D ad G σ sa (c_X11_value l hst D ad G IL IL_h σ sa (xv xs (i + 1)) hR.g (xv_IR xs _)) (fun E τ h => h.2.1)
  refine x_ciA (mc := 1) (ms := 6) (fun q h => h) (x_wr (As := [.ref (ad 0), .int (iI (xv xs (i + 1))), .ref (ad 240)]) (rest := []) C K.2.1 K.2.2.1 (tz_at K.2.2.2.1 hM) ⟨Nat.le_of_ble_eq_true rfl, Nat.le_of_ble_eq_true rfl⟩ cwl_value W1 hM.x rfl rfl (Nat.le_of_ble_eq_true rfl) hl.1 dL_law_1118 ⟨by show cells + 1 ≤ 601024; omega, by show slots + 6 ≤ 7293034; omega⟩) hM (fun k1 σ1 H1 locs1 hp hM => ?_)
  refine lv_istore C.1 C.2.1 dL_law_1121 hl (by decide) rfl (fun ls hl => ?_)
  have hl : lv_has ls 9 ((5, .int (iI k1)) :: BL b ad ad2 i) := hl
  have hM := hM.swap IM_vld
  refine lv_aload_n C.1 C.2.1 dL_law_1123 rfl (lv_at hl 3 rfl) ?_
  refine x_arg K hM.2.2.1 (lv_at hl 1 rfl) (lv_at hl 5 rfl) (k := 1) (v := iI 1) (by omega) rfl dL_law_1124 dL_law_1125 dL_law_1127 dL_law_1128 dL_law_1129 ?_
  refine x_ciA (mc := 0) (ms := 0) (fun q h => h) (x_runVA (As := [.int (iI (xv xs (i + 1)))]) (rest := []) C ⟨Nat.le_of_ble_eq_true rfl, Nat.le_of_ble_eq_true rfl⟩ cw_RL_171 (MET.toA (c_X12_value l D ad2 G IM IM_h τ (xv xs (i + 1)) hR.inv.1 (xv_IR xs _))) hM.x (IM_h 100 (by decide) (by decide)) (cx_100 ad2 G _) (q := vwCl[12]) rfl rfl rfl rfl (Nat.le_of_ble_eq_true rfl) hl.1 dL_law_1130 ⟨by show cells + 1 + 0 ≤ 601024; omega, by show slots + 6 + 0 ≤ 7293034; omega⟩) hM (fun z2 τ1 H2 locs2 hq hM => ?_)
  have J := j_value (z1 := 0) hR hp hq
  have kb := wpost_b hp cd1_b
  refine lv_istore C.1 C.2.1 dL_law_1133 hl (by decide) rfl (fun ls hl => ?_)
  have hl : lv_has ls 9 ((6, .int (iI z2)) :: (5, .int (iI k1)) :: BL b ad ad2 i) := hl
  exact x_tail K hM J kb hl ⟨by omega, by omega, by omega, by omega⟩ KK dL_law_1135 dL_law_1136 dL_law_1139 dL_law_1141 dL_law_1146 dL_law_1148 dL_law_1151 dL_law_1152 dL_law_1153 dL_law_1154 dL_law_1156 dL_law_1157 dL_law_1158 dL_law_1163 (by decide)
set_option maxRecDepth 100000 in
set_option maxHeartbeats 4000000 in
theorem lc_valueOf {p : Program} {l : Launch} (hst : l.stackTraces = false) {e : Env} {s : State} {m : MethodId} {below : List Frame} {meth : Method} {c : Code} {H : Heap} {locs : List Loc} {cells slots : Nat} {Q : State → Prop} {D : va_G} {ad ad2 : Nat → Nat} {G : Nat → Nat} {σ τ : Sg} {ls : Array Slot} {b L : Nat} {xs : Nat → Int32} {sa : Nat → Nat} {i : Int} (K : LC p s m meth c b L xs D G sa) (hM : XE D ad G IL (FA s) s.heap H locs σ (WG ad2 G IM τ)) (hR : REL σ τ) (hl : lv_has ls 9 (BL b ad ad2 i)) (hi : 0 ≤ i ∧ i + 4 ≤ L) (hf : cells + 2 ≤ 601024 ∧ slots + 32 ≤ 7293034) (KK : KL p l e s m below meth c b D ad G i (cells + 2) (slots + 32) Q) : W p l e room_1 s m #[.ref b] below meth c H locs cells slots Q (F0 m 1166 ls []) := by
  have C := K.1
  refine lv_aload_n C.1 C.2.1 dL_law_1166 rfl (lv_at hl 1 rfl) ?_
  refine x_arg K hM.2.2.1 (lv_at hl 0 rfl) (lv_at hl 4 rfl) (k := 1) (v := iI 1) (by omega) rfl dL_law_1167 dL_law_1168 dL_law_1170 dL_law_1171 dL_law_1172 ?_
  refine x_arg K hM.2.2.1 (lv_at hl 0 rfl) (lv_at hl 4 rfl) (k := 2) (v := iI 2) (by omega) rfl dL_law_1173 dL_law_1174 dL_law_1176 dL_law_1177 dL_law_1178 ?_
  refine lv_aload_n C.1 C.2.1 dL_law_1179 rfl (lv_at hl 3 rfl) ?_
  have W1 := c_L_valueOf l D ad G σ sa (c_X11_valueOf l hst D ad G IL IL_h σ sa (xv xs (i + 1)) (xv xs (i + 2)) hR.g hR.hl (xv_IR xs _) (xv_IR xs _)) (fun E τ h => h.2.elim (fun h => Or.inl h.1) (fun h => Or.inr h.1))
  refine x_ciA (mc := 1) (ms := 6) (fun q h => h) (x_wr (As := [.ref (ad 0), .int (iI (xv xs (i + 1))), .int (iI (xv xs (i + 2))), .ref (ad 240)]) (rest := []) C K.2.1 K.2.2.1 (tz_at K.2.2.2.1 hM) ⟨Nat.le_of_ble_eq_true rfl, Nat.le_of_ble_eq_true rfl⟩ cwl_valueOf W1 hM.x rfl rfl (Nat.le_of_ble_eq_true rfl) hl.1 dL_law_1180 ⟨by show cells + 1 ≤ 601024; omega, by show slots + 6 ≤ 7293034; omega⟩) hM (fun k1 σ1 H1 locs1 hp hM => ?_)
  refine lv_istore C.1 C.2.1 dL_law_1183 hl (by decide) rfl (fun ls hl => ?_)
  have hl : lv_has ls 9 ((5, .int (iI k1)) :: BL b ad ad2 i) := hl
  have hM := hM.swap IM_vld
  refine lv_aload_n C.1 C.2.1 dL_law_1185 rfl (lv_at hl 3 rfl) ?_
  refine x_arg K hM.2.2.1 (lv_at hl 1 rfl) (lv_at hl 5 rfl) (k := 1) (v := iI 1) (by omega) rfl dL_law_1186 dL_law_1187 dL_law_1189 dL_law_1190 dL_law_1191 ?_
  refine x_arg K hM.2.2.1 (lv_at hl 1 rfl) (lv_at hl 5 rfl) (k := 2) (v := iI 2) (by omega) rfl dL_law_1192 dL_law_1193 dL_law_1195 dL_law_1196 dL_law_1197 ?_
  refine x_ciA (mc := 0) (ms := 0) (fun q h => h) (x_runVA (As := [.int (iI (xv xs (i + 1))), .int (iI (xv xs (i + 2)))]) (rest := []) C ⟨Nat.le_of_ble_eq_true rfl, Nat.le_of_ble_eq_true rfl⟩ cw_RL_174 (MET.toA (c_X12_valueOf l D ad2 G IM IM_h τ (xv xs (i + 1)) (xv xs (i + 2)) hR.inv.1 (xv_IR xs _) (xv_IR xs _))) hM.x (IM_h 100 (by decide) (by decide)) (cx_100 ad2 G _) (q := vwCl[12]) rfl rfl rfl rfl (Nat.le_of_ble_eq_true rfl) hl.1 dL_law_1198 ⟨by show cells + 1 + 0 ≤ 601024; omega, by show slots + 6 + 0 ≤ 7293034; omega⟩) hM (fun z2 τ1 H2 locs2 hq hM => ?_)
  have J := j_valueOf (z1 := 0) hR hp hq
  have kb := wpost_b hp cdP_b
  refine lv_istore C.1 C.2.1 dL_law_1201 hl (by decide) rfl (fun ls hl => ?_)
  have hl : lv_has ls 9 ((6, .int (iI z2)) :: (5, .int (iI k1)) :: BL b ad ad2 i) := hl
  exact x_tail K hM J kb hl ⟨by omega, by omega, by omega, by omega⟩ KK dL_law_1203 dL_law_1204 dL_law_1207 dL_law_1209 dL_law_1214 dL_law_1216 dL_law_1219 dL_law_1220 dL_law_1221 dL_law_1222 dL_law_1224 dL_law_1225 dL_law_1226 dL_law_1231 (by decide)
set_option maxRecDepth 100000 in
set_option maxHeartbeats 4000000 in
theorem lc_search {p : Program} {l : Launch} (hst : l.stackTraces = false) {e : Env} {s : State} {m : MethodId} {below : List Frame} {meth : Method} {c : Code} {H : Heap} {locs : List Loc} {cells slots : Nat} {Q : State → Prop} {D : va_G} {ad ad2 : Nat → Nat} {G : Nat → Nat} {σ τ : Sg} {ls : Array Slot} {b L : Nat} {xs : Nat → Int32} {sa : Nat → Nat} {i : Int} (K : LC p s m meth c b L xs D G sa) (hM : XE D ad G IL (FA s) s.heap H locs σ (WG ad2 G IM τ)) (hR : REL σ τ) (hl : lv_has ls 9 (BL b ad ad2 i)) (hi : 0 ≤ i ∧ i + 4 ≤ L) (hf : cells + 2 ≤ 601024 ∧ slots + 32 ≤ 7293034) (KK : KL p l e s m below meth c b D ad G i (cells + 2) (slots + 32) Q) : W p l e room_1 s m #[.ref b] below meth c H locs cells slots Q (F0 m 1234 ls []) := by
  have C := K.1
  refine lv_aload_n C.1 C.2.1 dL_law_1234 rfl (lv_at hl 1 rfl) ?_
  refine x_arg K hM.2.2.1 (lv_at hl 0 rfl) (lv_at hl 4 rfl) (k := 1) (v := iI 1) (by omega) rfl dL_law_1235 dL_law_1236 dL_law_1238 dL_law_1239 dL_law_1240 ?_
  refine lv_aload_n C.1 C.2.1 dL_law_1241 rfl (lv_at hl 3 rfl) ?_
  have W1 := c_L_search l D ad G σ sa (c_X11_search l hst D ad G IL IL_h σ sa (xv xs (i + 1)) hR.g hR.hl hR.n.2.1 (xv_IR xs _)) (fun E τ h => h.2.elim (fun h => Or.inl h.1) (fun h => Or.inr h.1))
  refine x_ciA (mc := 1) (ms := 6) (fun q h => h) (x_wr (As := [.ref (ad 0), .int (iI (xv xs (i + 1))), .ref (ad 240)]) (rest := []) C K.2.1 K.2.2.1 (tz_at K.2.2.2.1 hM) ⟨Nat.le_of_ble_eq_true rfl, Nat.le_of_ble_eq_true rfl⟩ cwl_search W1 hM.x rfl rfl (Nat.le_of_ble_eq_true rfl) hl.1 dL_law_1242 ⟨by show cells + 1 ≤ 601024; omega, by show slots + 6 ≤ 7293034; omega⟩) hM (fun k1 σ1 H1 locs1 hp hM => ?_)
  refine lv_istore C.1 C.2.1 dL_law_1245 hl (by decide) rfl (fun ls hl => ?_)
  have hl : lv_has ls 9 ((5, .int (iI k1)) :: BL b ad ad2 i) := hl
  have hM := hM.swap IM_vld
  refine lv_aload_n C.1 C.2.1 dL_law_1247 rfl (lv_at hl 3 rfl) ?_
  refine x_arg K hM.2.2.1 (lv_at hl 1 rfl) (lv_at hl 5 rfl) (k := 1) (v := iI 1) (by omega) rfl dL_law_1248 dL_law_1249 dL_law_1251 dL_law_1252 dL_law_1253 ?_
  refine x_ciA (mc := 0) (ms := 0) (fun q h => h) (x_runVA (As := [.int (iI (xv xs (i + 1)))]) (rest := []) C ⟨Nat.le_of_ble_eq_true rfl, Nat.le_of_ble_eq_true rfl⟩ cw_RL_177 (MET.toA (c_X12_search l D ad2 G IM IM_h τ (xv xs (i + 1)) hR.inv.1 hR.inv.2.1 hR.inv.2.2.1 (xv_IR xs _))) hM.x (IM_h 100 (by decide) (by decide)) (cx_100 ad2 G _) (q := vwCl[12]) rfl rfl rfl rfl (Nat.le_of_ble_eq_true rfl) hl.1 dL_law_1254 ⟨by show cells + 1 + 0 ≤ 601024; omega, by show slots + 6 + 0 ≤ 7293034; omega⟩) hM (fun z2 τ1 H2 locs2 hq hM => ?_)
  have J := j_search (z1 := 0) hR hp hq
  have kb := wpost_b hp cdS_b
  refine lv_istore C.1 C.2.1 dL_law_1257 hl (by decide) rfl (fun ls hl => ?_)
  have hl : lv_has ls 9 ((6, .int (iI z2)) :: (5, .int (iI k1)) :: BL b ad ad2 i) := hl
  exact x_tail K hM J kb hl ⟨by omega, by omega, by omega, by omega⟩ KK dL_law_1259 dL_law_1260 dL_law_1263 dL_law_1265 dL_law_1270 dL_law_1272 dL_law_1275 dL_law_1276 dL_law_1277 dL_law_1278 dL_law_1280 dL_law_1281 dL_law_1282 dL_law_1287 (by decide)
set_option maxRecDepth 100000 in
set_option maxHeartbeats 4000000 in
theorem lc_bestFrom {p : Program} {l : Launch} (hst : l.stackTraces = false) {e : Env} {s : State} {m : MethodId} {below : List Frame} {meth : Method} {c : Code} {H : Heap} {locs : List Loc} {cells slots : Nat} {Q : State → Prop} {D : va_G} {ad ad2 : Nat → Nat} {G : Nat → Nat} {σ τ : Sg} {ls : Array Slot} {b L : Nat} {xs : Nat → Int32} {sa : Nat → Nat} {i : Int} (K : LC p s m meth c b L xs D G sa) (hM : XE D ad G IL (FA s) s.heap H locs σ (WG ad2 G IM τ)) (hR : REL σ τ) (hl : lv_has ls 9 (BL b ad ad2 i)) (hi : 0 ≤ i ∧ i + 4 ≤ L) (hf : cells + 2 ≤ 601024 ∧ slots + 32 ≤ 7293034) (KK : KL p l e s m below meth c b D ad G i (cells + 2) (slots + 32) Q) : W p l e room_1 s m #[.ref b] below meth c H locs cells slots Q (F0 m 1290 ls []) := by
  have C := K.1
  refine lv_aload_n C.1 C.2.1 dL_law_1290 rfl (lv_at hl 1 rfl) ?_
  refine x_ciA (mc := 0) (ms := 0) (fun q h => h) (x_runVA (As := []) (rest := []) C ⟨Nat.le_of_ble_eq_true rfl, Nat.le_of_ble_eq_true rfl⟩ cw_RL_178 (MET.toA (c_X11_bestFrom l D ad G IL IL_h σ hR.be)) hM.x (IL_c (by omega)) (cx_0 ad G σ) (q := vwCl[11]) rfl rfl rfl rfl (Nat.le_of_ble_eq_true rfl) hl.1 dL_law_1291 ⟨by show cells ≤ 601024; omega, by show slots ≤ 7293034; omega⟩) hM (fun k1 σ1 H1 locs1 hp hM => ?_)
  have hM := hM.swap IM_vld
  refine lv_aload_n C.1 C.2.1 dL_law_1294 rfl (lv_at hl 2 rfl) ?_
  refine x_ciA (mc := 0) (ms := 0) (fun q h => h) (x_runVA (As := []) (rest := [.int (iI k1)]) C ⟨Nat.le_of_ble_eq_true rfl, Nat.le_of_ble_eq_true rfl⟩ cw_RL_181 (MET.toA (c_X12_bestFrom l D ad2 G IM IM_h τ hR.be2)) hM.x (IM_h 100 (by decide) (by decide)) (cx_100 ad2 G _) (q := vwCl[12]) rfl rfl rfl rfl (Nat.le_of_ble_eq_true rfl) hl.1 dL_law_1295 ⟨by show cells + 0 ≤ 601024; omega, by show slots + 0 ≤ 7293034; omega⟩) hM (fun z2 τ1 H2 locs2 hq hM => ?_)
  obtain ⟨ez, hR2⟩ := j_bestFrom (kc := 0) hR hp hq
  subst ez
  have hM := hM.swap IL_vld
  refine x_icmp_refl C (tgt := 1801) dL_law_1298 (by decide) ?_
  exact W.widen (by omega) (by omega) (KK ad2 σ1 τ1 H2 locs2 ls hM hR2 hl)
set_option maxRecDepth 100000 in
set_option maxHeartbeats 4000000 in
theorem lc_bestTo {p : Program} {l : Launch} (hst : l.stackTraces = false) {e : Env} {s : State} {m : MethodId} {below : List Frame} {meth : Method} {c : Code} {H : Heap} {locs : List Loc} {cells slots : Nat} {Q : State → Prop} {D : va_G} {ad ad2 : Nat → Nat} {G : Nat → Nat} {σ τ : Sg} {ls : Array Slot} {b L : Nat} {xs : Nat → Int32} {sa : Nat → Nat} {i : Int} (K : LC p s m meth c b L xs D G sa) (hM : XE D ad G IL (FA s) s.heap H locs σ (WG ad2 G IM τ)) (hR : REL σ τ) (hl : lv_has ls 9 (BL b ad ad2 i)) (hi : 0 ≤ i ∧ i + 4 ≤ L) (hf : cells + 2 ≤ 601024 ∧ slots + 32 ≤ 7293034) (KK : KL p l e s m below meth c b D ad G i (cells + 2) (slots + 32) Q) : W p l e room_1 s m #[.ref b] below meth c H locs cells slots Q (F0 m 1303 ls []) := by
  have C := K.1
  refine lv_aload_n C.1 C.2.1 dL_law_1303 rfl (lv_at hl 1 rfl) ?_
  refine x_ciA (mc := 0) (ms := 0) (fun q h => h) (x_runVA (As := []) (rest := []) C ⟨Nat.le_of_ble_eq_true rfl, Nat.le_of_ble_eq_true rfl⟩ cw_RL_182 (MET.toA (c_X11_bestTo l D ad G IL IL_h σ hR.be)) hM.x (IL_c (by omega)) (cx_0 ad G σ) (q := vwCl[11]) rfl rfl rfl rfl (Nat.le_of_ble_eq_true rfl) hl.1 dL_law_1304 ⟨by show cells ≤ 601024; omega, by show slots ≤ 7293034; omega⟩) hM (fun k1 σ1 H1 locs1 hp hM => ?_)
  have hM := hM.swap IM_vld
  refine lv_aload_n C.1 C.2.1 dL_law_1307 rfl (lv_at hl 2 rfl) ?_
  refine x_ciA (mc := 0) (ms := 0) (fun q h => h) (x_runVA (As := []) (rest := [.int (iI k1)]) C ⟨Nat.le_of_ble_eq_true rfl, Nat.le_of_ble_eq_true rfl⟩ cw_RL_185 (MET.toA (c_X12_bestTo l D ad2 G IM IM_h τ hR.be2)) hM.x (IM_h 100 (by decide) (by decide)) (cx_100 ad2 G _) (q := vwCl[12]) rfl rfl rfl rfl (Nat.le_of_ble_eq_true rfl) hl.1 dL_law_1308 ⟨by show cells + 0 ≤ 601024; omega, by show slots + 0 ≤ 7293034; omega⟩) hM (fun z2 τ1 H2 locs2 hq hM => ?_)
  obtain ⟨ez, hR2⟩ := j_bestTo (kc := 0) hR hp hq
  subst ez
  have hM := hM.swap IL_vld
  refine x_icmp_refl C (tgt := 1801) dL_law_1311 (by decide) ?_
  exact W.widen (by omega) (by omega) (KK ad2 σ1 τ1 H2 locs2 ls hM hR2 hl)
set_option maxRecDepth 100000 in
set_option maxHeartbeats 4000000 in
theorem lc_reached {p : Program} {l : Launch} (hst : l.stackTraces = false) {e : Env} {s : State} {m : MethodId} {below : List Frame} {meth : Method} {c : Code} {H : Heap} {locs : List Loc} {cells slots : Nat} {Q : State → Prop} {D : va_G} {ad ad2 : Nat → Nat} {G : Nat → Nat} {σ τ : Sg} {ls : Array Slot} {b L : Nat} {xs : Nat → Int32} {sa : Nat → Nat} {i : Int} (K : LC p s m meth c b L xs D G sa) (hM : XE D ad G IL (FA s) s.heap H locs σ (WG ad2 G IM τ)) (hR : REL σ τ) (hl : lv_has ls 9 (BL b ad ad2 i)) (hi : 0 ≤ i ∧ i + 4 ≤ L) (hf : cells + 2 ≤ 601024 ∧ slots + 32 ≤ 7293034) (KK : KL p l e s m below meth c b D ad G i (cells + 2) (slots + 32) Q) : W p l e room_1 s m #[.ref b] below meth c H locs cells slots Q (F0 m 1316 ls []) := by
  have C := K.1
  refine lv_aload_n C.1 C.2.1 dL_law_1316 rfl (lv_at hl 1 rfl) ?_
  refine x_ciA (mc := 0) (ms := 0) (fun q h => h) (x_runVA (As := []) (rest := []) C ⟨Nat.le_of_ble_eq_true rfl, Nat.le_of_ble_eq_true rfl⟩ cw_RL_186 (MET.toA (c_X11_reached l D ad G IL IL_h σ )) hM.x (IL_c (by omega)) (cx_0 ad G σ) (q := vwCl[11]) rfl rfl rfl rfl (Nat.le_of_ble_eq_true rfl) hl.1 dL_law_1317 ⟨by show cells ≤ 601024; omega, by show slots ≤ 7293034; omega⟩) hM (fun k1 σ1 H1 locs1 hp hM => ?_)
  have hM := hM.swap IM_vld
  refine lv_aload_n C.1 C.2.1 dL_law_1320 rfl (lv_at hl 2 rfl) ?_
  refine x_ciA (mc := 0) (ms := 0) (fun q h => h) (x_runVA (As := []) (rest := [.int (iI k1)]) C ⟨Nat.le_of_ble_eq_true rfl, Nat.le_of_ble_eq_true rfl⟩ cw_RL_189 (MET.toA (c_X12_reached l D ad2 G IM IM_h τ )) hM.x (IM_h 100 (by decide) (by decide)) (cx_100 ad2 G _) (q := vwCl[12]) rfl rfl rfl rfl (Nat.le_of_ble_eq_true rfl) hl.1 dL_law_1321 ⟨by show cells + 0 ≤ 601024; omega, by show slots + 0 ≤ 7293034; omega⟩) hM (fun z2 τ1 H2 locs2 hq hM => ?_)
  obtain ⟨ez, hR2⟩ := j_reached (kc := 0) hR hp hq
  subst ez
  have hM := hM.swap IL_vld
  refine x_icmp_refl C (tgt := 1801) dL_law_1324 (by decide) ?_
  exact W.widen (by omega) (by omega) (KK ad2 σ1 τ1 H2 locs2 ls hM hR2 hl)
set_option maxRecDepth 100000 in
set_option maxHeartbeats 4000000 in
theorem lc_nodes {p : Program} {l : Launch} (hst : l.stackTraces = false) {e : Env} {s : State} {m : MethodId} {below : List Frame} {meth : Method} {c : Code} {H : Heap} {locs : List Loc} {cells slots : Nat} {Q : State → Prop} {D : va_G} {ad ad2 : Nat → Nat} {G : Nat → Nat} {σ τ : Sg} {ls : Array Slot} {b L : Nat} {xs : Nat → Int32} {sa : Nat → Nat} {i : Int} (K : LC p s m meth c b L xs D G sa) (hM : XE D ad G IL (FA s) s.heap H locs σ (WG ad2 G IM τ)) (hR : REL σ τ) (hl : lv_has ls 9 (BL b ad ad2 i)) (hi : 0 ≤ i ∧ i + 4 ≤ L) (hf : cells + 2 ≤ 601024 ∧ slots + 32 ≤ 7293034) (KK : KL p l e s m below meth c b D ad G i (cells + 2) (slots + 32) Q) : W p l e room_1 s m #[.ref b] below meth c H locs cells slots Q (F0 m 1329 ls []) := by
  have C := K.1
  refine lv_aload_n C.1 C.2.1 dL_law_1329 rfl (lv_at hl 1 rfl) ?_
  refine x_ciA (mc := 0) (ms := 0) (fun q h => h) (x_runVA (As := []) (rest := []) C ⟨Nat.le_of_ble_eq_true rfl, Nat.le_of_ble_eq_true rfl⟩ cw_RL_190 (MET.toA (c_X11_nodes l D ad G IL IL_h σ )) hM.x (IL_c (by omega)) (cx_0 ad G σ) (q := vwCl[11]) rfl rfl rfl rfl (Nat.le_of_ble_eq_true rfl) hl.1 dL_law_1330 ⟨by show cells ≤ 601024; omega, by show slots ≤ 7293034; omega⟩) hM (fun k1 σ1 H1 locs1 hp hM => ?_)
  have hM := hM.swap IM_vld
  refine lv_aload_n C.1 C.2.1 dL_law_1333 rfl (lv_at hl 2 rfl) ?_
  refine x_ciA (mc := 0) (ms := 0) (fun q h => h) (x_runVA (As := []) (rest := [.int (iI k1)]) C ⟨Nat.le_of_ble_eq_true rfl, Nat.le_of_ble_eq_true rfl⟩ cw_RL_193 (MET.toA (c_X12_nodes l D ad2 G IM IM_h τ )) hM.x (IM_h 100 (by decide) (by decide)) (cx_100 ad2 G _) (q := vwCl[12]) rfl rfl rfl rfl (Nat.le_of_ble_eq_true rfl) hl.1 dL_law_1334 ⟨by show cells + 0 ≤ 601024; omega, by show slots + 0 ≤ 7293034; omega⟩) hM (fun z2 τ1 H2 locs2 hq hM => ?_)
  obtain ⟨ez, hR2⟩ := j_nodes (kc := 0) hR hp hq
  subst ez
  have hM := hM.swap IL_vld
  refine x_icmp_refl C (tgt := 1801) dL_law_1337 (by decide) ?_
  exact W.widen (by omega) (by omega) (KK ad2 σ1 τ1 H2 locs2 ls hM hR2 hl)
set_option maxRecDepth 100000 in
set_option maxHeartbeats 4000000 in
theorem lc_hits {p : Program} {l : Launch} (hst : l.stackTraces = false) {e : Env} {s : State} {m : MethodId} {below : List Frame} {meth : Method} {c : Code} {H : Heap} {locs : List Loc} {cells slots : Nat} {Q : State → Prop} {D : va_G} {ad ad2 : Nat → Nat} {G : Nat → Nat} {σ τ : Sg} {ls : Array Slot} {b L : Nat} {xs : Nat → Int32} {sa : Nat → Nat} {i : Int} (K : LC p s m meth c b L xs D G sa) (hM : XE D ad G IL (FA s) s.heap H locs σ (WG ad2 G IM τ)) (hR : REL σ τ) (hl : lv_has ls 9 (BL b ad ad2 i)) (hi : 0 ≤ i ∧ i + 4 ≤ L) (hf : cells + 2 ≤ 601024 ∧ slots + 32 ≤ 7293034) (KK : KL p l e s m below meth c b D ad G i (cells + 2) (slots + 32) Q) : W p l e room_1 s m #[.ref b] below meth c H locs cells slots Q (F0 m 1342 ls []) := by
  have C := K.1
  refine lv_aload_n C.1 C.2.1 dL_law_1342 rfl (lv_at hl 1 rfl) ?_
  refine x_ciA (mc := 0) (ms := 0) (fun q h => h) (x_runVA (As := []) (rest := []) C ⟨Nat.le_of_ble_eq_true rfl, Nat.le_of_ble_eq_true rfl⟩ cw_RL_194 (MET.toA (c_X11_hits l D ad G IL IL_h σ )) hM.x (IL_c (by omega)) (cx_0 ad G σ) (q := vwCl[11]) rfl rfl rfl rfl (Nat.le_of_ble_eq_true rfl) hl.1 dL_law_1343 ⟨by show cells ≤ 601024; omega, by show slots ≤ 7293034; omega⟩) hM (fun k1 σ1 H1 locs1 hp hM => ?_)
  have hM := hM.swap IM_vld
  refine lv_aload_n C.1 C.2.1 dL_law_1346 rfl (lv_at hl 2 rfl) ?_
  refine x_ciA (mc := 0) (ms := 0) (fun q h => h) (x_runVA (As := []) (rest := [.int (iI k1)]) C ⟨Nat.le_of_ble_eq_true rfl, Nat.le_of_ble_eq_true rfl⟩ cw_RL_197 (MET.toA (c_X12_hits l D ad2 G IM IM_h τ )) hM.x (IM_h 100 (by decide) (by decide)) (cx_100 ad2 G _) (q := vwCl[12]) rfl rfl rfl rfl (Nat.le_of_ble_eq_true rfl) hl.1 dL_law_1347 ⟨by show cells + 0 ≤ 601024; omega, by show slots + 0 ≤ 7293034; omega⟩) hM (fun z2 τ1 H2 locs2 hq hM => ?_)
  obtain ⟨ez, hR2⟩ := j_hits (kc := 0) hR hp hq
  subst ez
  have hM := hM.swap IL_vld
  refine x_icmp_refl C (tgt := 1801) dL_law_1350 (by decide) ?_
  exact W.widen (by omega) (by omega) (KK ad2 σ1 τ1 H2 locs2 ls hM hR2 hl)
set_option maxRecDepth 100000 in
set_option maxHeartbeats 4000000 in
theorem lc_cuts {p : Program} {l : Launch} (hst : l.stackTraces = false) {e : Env} {s : State} {m : MethodId} {below : List Frame} {meth : Method} {c : Code} {H : Heap} {locs : List Loc} {cells slots : Nat} {Q : State → Prop} {D : va_G} {ad ad2 : Nat → Nat} {G : Nat → Nat} {σ τ : Sg} {ls : Array Slot} {b L : Nat} {xs : Nat → Int32} {sa : Nat → Nat} {i : Int} (K : LC p s m meth c b L xs D G sa) (hM : XE D ad G IL (FA s) s.heap H locs σ (WG ad2 G IM τ)) (hR : REL σ τ) (hl : lv_has ls 9 (BL b ad ad2 i)) (hi : 0 ≤ i ∧ i + 4 ≤ L) (hf : cells + 2 ≤ 601024 ∧ slots + 32 ≤ 7293034) (KK : KL p l e s m below meth c b D ad G i (cells + 2) (slots + 32) Q) : W p l e room_1 s m #[.ref b] below meth c H locs cells slots Q (F0 m 1355 ls []) := by
  have C := K.1
  refine lv_aload_n C.1 C.2.1 dL_law_1355 rfl (lv_at hl 1 rfl) ?_
  refine x_ciA (mc := 0) (ms := 0) (fun q h => h) (x_runVA (As := []) (rest := []) C ⟨Nat.le_of_ble_eq_true rfl, Nat.le_of_ble_eq_true rfl⟩ cw_RL_198 (MET.toA (c_X11_cuts l D ad G IL IL_h σ )) hM.x (IL_c (by omega)) (cx_0 ad G σ) (q := vwCl[11]) rfl rfl rfl rfl (Nat.le_of_ble_eq_true rfl) hl.1 dL_law_1356 ⟨by show cells ≤ 601024; omega, by show slots ≤ 7293034; omega⟩) hM (fun k1 σ1 H1 locs1 hp hM => ?_)
  have hM := hM.swap IM_vld
  refine lv_aload_n C.1 C.2.1 dL_law_1359 rfl (lv_at hl 2 rfl) ?_
  refine x_ciA (mc := 0) (ms := 0) (fun q h => h) (x_runVA (As := []) (rest := [.int (iI k1)]) C ⟨Nat.le_of_ble_eq_true rfl, Nat.le_of_ble_eq_true rfl⟩ cw_RL_201 (MET.toA (c_X12_cuts l D ad2 G IM IM_h τ )) hM.x (IM_h 100 (by decide) (by decide)) (cx_100 ad2 G _) (q := vwCl[12]) rfl rfl rfl rfl (Nat.le_of_ble_eq_true rfl) hl.1 dL_law_1360 ⟨by show cells + 0 ≤ 601024; omega, by show slots + 0 ≤ 7293034; omega⟩) hM (fun z2 τ1 H2 locs2 hq hM => ?_)
  obtain ⟨ez, hR2⟩ := j_cuts (kc := 0) hR hp hq
  subst ez
  have hM := hM.swap IL_vld
  refine x_icmp_refl C (tgt := 1801) dL_law_1363 (by decide) ?_
  exact W.widen (by omega) (by omega) (KK ad2 σ1 τ1 H2 locs2 ls hM hR2 hl)
set_option maxRecDepth 100000 in
set_option maxHeartbeats 4000000 in
theorem lc_killer {p : Program} {l : Launch} (hst : l.stackTraces = false) {e : Env} {s : State} {m : MethodId} {below : List Frame} {meth : Method} {c : Code} {H : Heap} {locs : List Loc} {cells slots : Nat} {Q : State → Prop} {D : va_G} {ad ad2 : Nat → Nat} {G : Nat → Nat} {σ τ : Sg} {ls : Array Slot} {b L : Nat} {xs : Nat → Int32} {sa : Nat → Nat} {i : Int} (K : LC p s m meth c b L xs D G sa) (hM : XE D ad G IL (FA s) s.heap H locs σ (WG ad2 G IM τ)) (hR : REL σ τ) (hl : lv_has ls 9 (BL b ad ad2 i)) (hi : 0 ≤ i ∧ i + 4 ≤ L) (hf : cells + 2 ≤ 601024 ∧ slots + 32 ≤ 7293034) (KK : KL p l e s m below meth c b D ad G i (cells + 2) (slots + 32) Q) : W p l e room_1 s m #[.ref b] below meth c H locs cells slots Q (F0 m 1368 ls []) := by
  have C := K.1
  refine lv_aload_n C.1 C.2.1 dL_law_1368 rfl (lv_at hl 1 rfl) ?_
  refine x_arg K hM.2.2.1 (lv_at hl 0 rfl) (lv_at hl 4 rfl) (k := 1) (v := iI 1) (by omega) rfl dL_law_1369 dL_law_1370 dL_law_1372 dL_law_1373 dL_law_1374 ?_
  refine x_arg K hM.2.2.1 (lv_at hl 0 rfl) (lv_at hl 4 rfl) (k := 2) (v := iI 2) (by omega) rfl dL_law_1375 dL_law_1376 dL_law_1378 dL_law_1379 dL_law_1380 ?_
  refine x_bz C (xv_IR xs _) dL_law_1381 dL_law_1384 dL_law_1385 dL_law_1388 ?_
  refine x_ciA (mc := 0) (ms := 0) (fun q h => h) (x_runVA (As := [.int (iI (xv xs (i + 1))), .int (iI (bz (xv xs (i + 2))))]) (rest := []) C ⟨Nat.le_of_ble_eq_true rfl, Nat.le_of_ble_eq_true rfl⟩ cw_RL_202 (MET.toA (c_X11_killer l D ad G IL IL_h σ (xv xs (i + 1)) (bz (xv xs (i + 2))) (xv_IR xs _) (bz_01 _))) hM.x (IL_c (by omega)) (cx_0 ad G σ) (q := vwCl[11]) rfl rfl rfl rfl (Nat.le_of_ble_eq_true rfl) hl.1 dL_law_1389 ⟨by show cells ≤ 601024; omega, by show slots ≤ 7293034; omega⟩) hM (fun k1 σ1 H1 locs1 hp hM => ?_)
  have hM := hM.swap IM_vld
  refine lv_aload_n C.1 C.2.1 dL_law_1392 rfl (lv_at hl 2 rfl) ?_
  refine x_arg K hM.2.2.1 (lv_at hl 0 rfl) (lv_at hl 4 rfl) (k := 1) (v := iI 1) (by omega) rfl dL_law_1393 dL_law_1394 dL_law_1396 dL_law_1397 dL_law_1398 ?_
  refine x_arg K hM.2.2.1 (lv_at hl 0 rfl) (lv_at hl 4 rfl) (k := 2) (v := iI 2) (by omega) rfl dL_law_1399 dL_law_1400 dL_law_1402 dL_law_1403 dL_law_1404 ?_
  refine x_bz C (xv_IR xs _) dL_law_1405 dL_law_1408 dL_law_1409 dL_law_1412 ?_
  refine x_ciA (mc := 0) (ms := 0) (fun q h => h) (x_runVA (As := [.int (iI (xv xs (i + 1))), .int (iI (bz (xv xs (i + 2))))]) (rest := [.int (iI k1)]) C ⟨Nat.le_of_ble_eq_true rfl, Nat.le_of_ble_eq_true rfl⟩ cw_RL_206 (MET.toA (c_X12_killer l D ad2 G IM IM_h τ (xv xs (i + 1)) (bz (xv xs (i + 2))) (xv_IR xs _) (bz_01 _) hR.ir20)) hM.x (IM_h 100 (by decide) (by decide)) (cx_100 ad2 G _) (q := vwCl[12]) rfl rfl rfl rfl (Nat.le_of_ble_eq_true rfl) hl.1 dL_law_1413 ⟨by show cells + 0 ≤ 601024; omega, by show slots + 0 ≤ 7293034; omega⟩) hM (fun z2 τ1 H2 locs2 hq hM => ?_)
  obtain ⟨ez, hR2⟩ := j_killer (kc := 0) hR (bz_01 _) hp hq
  subst ez
  have hM := hM.swap IL_vld
  refine x_icmp_refl C (tgt := 1801) dL_law_1416 (by decide) ?_
  exact W.widen (by omega) (by omega) (KK ad2 σ1 τ1 H2 locs2 ls hM hR2 hl)
set_option maxRecDepth 100000 in
set_option maxHeartbeats 4000000 in
theorem lc_slots {p : Program} {l : Launch} (hst : l.stackTraces = false) {e : Env} {s : State} {m : MethodId} {below : List Frame} {meth : Method} {c : Code} {H : Heap} {locs : List Loc} {cells slots : Nat} {Q : State → Prop} {D : va_G} {ad ad2 : Nat → Nat} {G : Nat → Nat} {σ τ : Sg} {ls : Array Slot} {b L : Nat} {xs : Nat → Int32} {sa : Nat → Nat} {i : Int} (K : LC p s m meth c b L xs D G sa) (hM : XE D ad G IL (FA s) s.heap H locs σ (WG ad2 G IM τ)) (hR : REL σ τ) (hl : lv_has ls 9 (BL b ad ad2 i)) (hi : 0 ≤ i ∧ i + 4 ≤ L) (hf : cells + 2 ≤ 601024 ∧ slots + 32 ≤ 7293034) (KK : KL p l e s m below meth c b D ad G i (cells + 2) (slots + 32) Q) : W p l e room_1 s m #[.ref b] below meth c H locs cells slots Q (F0 m 1421 ls []) := by
  have C := K.1
  refine lv_aload_n C.1 C.2.1 dL_law_1421 rfl (lv_at hl 1 rfl) ?_
  refine x_ciA (mc := 0) (ms := 0) (fun q h => h) (x_runVA (As := []) (rest := []) C ⟨Nat.le_of_ble_eq_true rfl, Nat.le_of_ble_eq_true rfl⟩ cw_RL_207 (MET.toA (c_X11_slots l D ad G IL IL_h σ )) hM.x (IL_c (by omega)) (cx_0 ad G σ) (q := vwCl[11]) rfl rfl rfl rfl (Nat.le_of_ble_eq_true rfl) hl.1 dL_law_1422 ⟨by show cells ≤ 601024; omega, by show slots ≤ 7293034; omega⟩) hM (fun k1 σ1 H1 locs1 hp hM => ?_)
  have hM := hM.swap IM_vld
  refine lv_aload_n C.1 C.2.1 dL_law_1425 rfl (lv_at hl 2 rfl) ?_
  refine x_ciA (mc := 0) (ms := 0) (fun q h => h) (x_runVA (As := []) (rest := [.int (iI k1)]) C ⟨Nat.le_of_ble_eq_true rfl, Nat.le_of_ble_eq_true rfl⟩ cw_RL_210 (MET.toA (c_X12_slots l D ad2 G IM IM_h τ )) hM.x (IM_h 100 (by decide) (by decide)) (cx_100 ad2 G _) (q := vwCl[12]) rfl rfl rfl rfl (Nat.le_of_ble_eq_true rfl) hl.1 dL_law_1426 ⟨by show cells + 0 ≤ 601024; omega, by show slots + 0 ≤ 7293034; omega⟩) hM (fun z2 τ1 H2 locs2 hq hM => ?_)
  obtain ⟨ez, hR2⟩ := j_slots (kc := 0) hR hp hq
  subst ez
  have hM := hM.swap IL_vld
  refine x_icmp_refl C (tgt := 1801) dL_law_1429 (by decide) ?_
  exact W.widen (by omega) (by omega) (KK ad2 σ1 τ1 H2 locs2 ls hM hR2 hl)
set_option maxRecDepth 100000 in
set_option maxHeartbeats 4000000 in
theorem lc_entries {p : Program} {l : Launch} (hst : l.stackTraces = false) {e : Env} {s : State} {m : MethodId} {below : List Frame} {meth : Method} {c : Code} {H : Heap} {locs : List Loc} {cells slots : Nat} {Q : State → Prop} {D : va_G} {ad ad2 : Nat → Nat} {G : Nat → Nat} {σ τ : Sg} {ls : Array Slot} {b L : Nat} {xs : Nat → Int32} {sa : Nat → Nat} {i : Int} (K : LC p s m meth c b L xs D G sa) (hM : XE D ad G IL (FA s) s.heap H locs σ (WG ad2 G IM τ)) (hR : REL σ τ) (hl : lv_has ls 9 (BL b ad ad2 i)) (hi : 0 ≤ i ∧ i + 4 ≤ L) (hf : cells + 2 ≤ 601024 ∧ slots + 32 ≤ 7293034) (KK : KL p l e s m below meth c b D ad G i (cells + 2) (slots + 32) Q) : W p l e room_1 s m #[.ref b] below meth c H locs cells slots Q (F0 m 1434 ls []) := by
  have C := K.1
  refine lv_aload_n C.1 C.2.1 dL_law_1434 rfl (lv_at hl 1 rfl) ?_
  refine x_ciA (mc := 0) (ms := 0) (fun q h => h) (x_runVA (As := []) (rest := []) C ⟨Nat.le_of_ble_eq_true rfl, Nat.le_of_ble_eq_true rfl⟩ cw_RL_211 (MET.toA (c_X11_entries l D ad G IL IL_h σ hR.n.2.1)) hM.x (IL_c (by omega)) (cx_0 ad G σ) (q := vwCl[11]) rfl rfl rfl rfl (Nat.le_of_ble_eq_true rfl) hl.1 dL_law_1435 ⟨by show cells ≤ 601024; omega, by show slots ≤ 7293034; omega⟩) hM (fun k1 σ1 H1 locs1 hp hM => ?_)
  have hM := hM.swap IM_vld
  refine lv_aload_n C.1 C.2.1 dL_law_1438 rfl (lv_at hl 2 rfl) ?_
  refine x_ciA (mc := 0) (ms := 0) (fun q h => h) (x_runVA (As := []) (rest := [.int (iI k1)]) C ⟨Nat.le_of_ble_eq_true rfl, Nat.le_of_ble_eq_true rfl⟩ cw_RL_214 (MET.toA (c_X12_entries l D ad2 G IM IM_h τ hR.inv.2.1)) hM.x (IM_h 100 (by decide) (by decide)) (cx_100 ad2 G _) (q := vwCl[12]) rfl rfl rfl rfl (Nat.le_of_ble_eq_true rfl) hl.1 dL_law_1439 ⟨by show cells + 0 ≤ 601024; omega, by show slots + 0 ≤ 7293034; omega⟩) hM (fun z2 τ1 H2 locs2 hq hM => ?_)
  obtain ⟨ez, hR2⟩ := j_entries (kc := 0) hR hp hq
  subst ez
  have hM := hM.swap IL_vld
  refine x_icmp_refl C (tgt := 1801) dL_law_1442 (by decide) ?_
  exact W.widen (by omega) (by omega) (KK ad2 σ1 τ1 H2 locs2 ls hM hR2 hl)
set_option maxRecDepth 100000 in
set_option maxHeartbeats 4000000 in
theorem lc_ofSlot {p : Program} {l : Launch} (hst : l.stackTraces = false) {e : Env} {s : State} {m : MethodId} {below : List Frame} {meth : Method} {c : Code} {H : Heap} {locs : List Loc} {cells slots : Nat} {Q : State → Prop} {D : va_G} {ad ad2 : Nat → Nat} {G : Nat → Nat} {σ τ : Sg} {ls : Array Slot} {b L : Nat} {xs : Nat → Int32} {sa : Nat → Nat} {i : Int} (K : LC p s m meth c b L xs D G sa) (hM : XE D ad G IL (FA s) s.heap H locs σ (WG ad2 G IM τ)) (hR : REL σ τ) (hl : lv_has ls 9 (BL b ad ad2 i)) (hi : 0 ≤ i ∧ i + 4 ≤ L) (hf : cells + 2 ≤ 601024 ∧ slots + 32 ≤ 7293034) (KK : KL p l e s m below meth c b D ad G i (cells + 2) (slots + 32) Q) : W p l e room_1 s m #[.ref b] below meth c H locs cells slots Q (F0 m 1447 ls []) := by
  have C := K.1
  refine lv_aload_n C.1 C.2.1 dL_law_1447 rfl (lv_at hl 1 rfl) ?_
  refine x_arg K hM.2.2.1 (lv_at hl 0 rfl) (lv_at hl 4 rfl) (k := 1) (v := iI 1) (by omega) rfl dL_law_1448 dL_law_1449 dL_law_1451 dL_law_1452 dL_law_1453 ?_
  refine x_arg K hM.2.2.1 (lv_at hl 0 rfl) (lv_at hl 4 rfl) (k := 2) (v := iI 2) (by omega) rfl dL_law_1454 dL_law_1455 dL_law_1457 dL_law_1458 dL_law_1459 ?_
  refine lv_aload_n C.1 C.2.1 dL_law_1460 rfl (lv_at hl 3 rfl) ?_
  have W1 := c_L_ofSlot l D ad G σ sa (c_X11_ofSlot l hst D ad G IL IL_h σ sa (xv xs (i + 1)) (xv xs (i + 2)) hR.n.2.1 (xv_IR xs _) (xv_IR xs _)) (fun E τ h => h.2.elim (fun h => Or.inl h.1) (fun h => Or.inr h.1))
  refine x_ciA (mc := 1) (ms := 6) (fun q h => h) (x_wr (As := [.ref (ad 0), .int (iI (xv xs (i + 1))), .int (iI (xv xs (i + 2))), .ref (ad 240)]) (rest := []) C K.2.1 K.2.2.1 (tz_at K.2.2.2.1 hM) ⟨Nat.le_of_ble_eq_true rfl, Nat.le_of_ble_eq_true rfl⟩ cwl_ofSlot W1 hM.x rfl rfl (Nat.le_of_ble_eq_true rfl) hl.1 dL_law_1461 ⟨by show cells + 1 ≤ 601024; omega, by show slots + 6 ≤ 7293034; omega⟩) hM (fun k1 σ1 H1 locs1 hp hM => ?_)
  refine lv_istore C.1 C.2.1 dL_law_1464 hl (by decide) rfl (fun ls hl => ?_)
  have hl : lv_has ls 9 ((5, .int (iI k1)) :: BL b ad ad2 i) := hl
  have hM := hM.swap IM_vld
  refine lv_aload_n C.1 C.2.1 dL_law_1466 rfl (lv_at hl 3 rfl) ?_
  refine x_arg K hM.2.2.1 (lv_at hl 1 rfl) (lv_at hl 5 rfl) (k := 1) (v := iI 1) (by omega) rfl dL_law_1467 dL_law_1468 dL_law_1470 dL_law_1471 dL_law_1472 ?_
  refine x_arg K hM.2.2.1 (lv_at hl 1 rfl) (lv_at hl 5 rfl) (k := 2) (v := iI 2) (by omega) rfl dL_law_1473 dL_law_1474 dL_law_1476 dL_law_1477 dL_law_1478 ?_
  refine x_ciA (mc := 0) (ms := 0) (fun q h => h) (x_runVA (As := [.int (iI (xv xs (i + 1))), .int (iI (xv xs (i + 2)))]) (rest := []) C ⟨Nat.le_of_ble_eq_true rfl, Nat.le_of_ble_eq_true rfl⟩ cw_RL_217 (MET.toA (c_X12_ofSlot l D ad2 G IM IM_h τ (xv xs (i + 1)) (xv xs (i + 2)) hR.inv.2.1 (xv_IR xs _) (xv_IR xs _))) hM.x (IM_h 100 (by decide) (by decide)) (cx_100 ad2 G _) (q := vwCl[12]) rfl rfl rfl rfl (Nat.le_of_ble_eq_true rfl) hl.1 dL_law_1479 ⟨by show cells + 1 + 0 ≤ 601024; omega, by show slots + 6 + 0 ≤ 7293034; omega⟩) hM (fun z2 τ1 H2 locs2 hq hM => ?_)
  have J := j_ofSlot (z1 := 0) hR hp hq
  have kb := wpost_b hp cdP_b
  refine lv_istore C.1 C.2.1 dL_law_1482 hl (by decide) rfl (fun ls hl => ?_)
  have hl : lv_has ls 9 ((6, .int (iI z2)) :: (5, .int (iI k1)) :: BL b ad ad2 i) := hl
  exact x_tail K hM J kb hl ⟨by omega, by omega, by omega, by omega⟩ KK dL_law_1484 dL_law_1485 dL_law_1488 dL_law_1490 dL_law_1495 dL_law_1497 dL_law_1500 dL_law_1501 dL_law_1502 dL_law_1503 dL_law_1505 dL_law_1506 dL_law_1507 dL_law_1512 (by decide)
set_option maxRecDepth 100000 in
set_option maxHeartbeats 4000000 in
theorem lc_known {p : Program} {l : Launch} (hst : l.stackTraces = false) {e : Env} {s : State} {m : MethodId} {below : List Frame} {meth : Method} {c : Code} {H : Heap} {locs : List Loc} {cells slots : Nat} {Q : State → Prop} {D : va_G} {ad ad2 : Nat → Nat} {G : Nat → Nat} {σ τ : Sg} {ls : Array Slot} {b L : Nat} {xs : Nat → Int32} {sa : Nat → Nat} {i : Int} (K : LC p s m meth c b L xs D G sa) (hM : XE D ad G IL (FA s) s.heap H locs σ (WG ad2 G IM τ)) (hR : REL σ τ) (hl : lv_has ls 9 (BL b ad ad2 i)) (hi : 0 ≤ i ∧ i + 4 ≤ L) (hf : cells + 2 ≤ 601024 ∧ slots + 32 ≤ 7293034) (KK : KL p l e s m below meth c b D ad G i (cells + 2) (slots + 32) Q) : W p l e room_1 s m #[.ref b] below meth c H locs cells slots Q (F0 m 1515 ls []) := by
  have C := K.1
  refine lv_aload_n C.1 C.2.1 dL_law_1515 rfl (lv_at hl 1 rfl) ?_
  refine x_ciA (mc := 0) (ms := 0) (fun q h => h) (x_runVA (As := []) (rest := []) C ⟨Nat.le_of_ble_eq_true rfl, Nat.le_of_ble_eq_true rfl⟩ cw_RL_218 (MET.toA (c_X11_known l D ad G IL IL_h σ hR.g hR.n.2.1)) hM.x (IL_c (by omega)) (cx_0 ad G σ) (q := vwCl[11]) rfl rfl rfl rfl (Nat.le_of_ble_eq_true rfl) hl.1 dL_law_1516 ⟨by show cells ≤ 601024; omega, by show slots ≤ 7293034; omega⟩) hM (fun k1 σ1 H1 locs1 hp hM => ?_)
  have hM := hM.swap IM_vld
  refine lv_aload_n C.1 C.2.1 dL_law_1519 rfl (lv_at hl 2 rfl) ?_
  refine x_ciA (mc := 0) (ms := 0) (fun q h => h) (x_runVA (As := []) (rest := [.int (iI k1)]) C ⟨Nat.le_of_ble_eq_true rfl, Nat.le_of_ble_eq_true rfl⟩ cw_RL_221 (MET.toA (c_X12_known l D ad2 G IM IM_h τ hR.inv.1 hR.inv.2.1)) hM.x (IM_h 100 (by decide) (by decide)) (cx_100 ad2 G _) (q := vwCl[12]) rfl rfl rfl rfl (Nat.le_of_ble_eq_true rfl) hl.1 dL_law_1520 ⟨by show cells + 0 ≤ 601024; omega, by show slots + 0 ≤ 7293034; omega⟩) hM (fun z2 τ1 H2 locs2 hq hM => ?_)
  obtain ⟨ez, hR2⟩ := j_known (kc := 0) hR hp hq
  subst ez
  have hM := hM.swap IL_vld
  refine x_icmp_refl C (tgt := 1801) dL_law_1523 (by decide) ?_
  exact W.widen (by omega) (by omega) (KK ad2 σ1 τ1 H2 locs2 ls hM hR2 hl)
set_option maxRecDepth 100000 in
set_option maxHeartbeats 4000000 in
theorem lc_teach {p : Program} {l : Launch} (hst : l.stackTraces = false) {e : Env} {s : State} {m : MethodId} {below : List Frame} {meth : Method} {c : Code} {H : Heap} {locs : List Loc} {cells slots : Nat} {Q : State → Prop} {D : va_G} {ad ad2 : Nat → Nat} {G : Nat → Nat} {σ τ : Sg} {ls : Array Slot} {b L : Nat} {xs : Nat → Int32} {sa : Nat → Nat} {i : Int} (K : LC p s m meth c b L xs D G sa) (hM : XE D ad G IL (FA s) s.heap H locs σ (WG ad2 G IM τ)) (hR : REL σ τ) (hl : lv_has ls 9 (BL b ad ad2 i)) (hi : 0 ≤ i ∧ i + 4 ≤ L) (hf : cells + 2 ≤ 601024 ∧ slots + 32 ≤ 7293034) (KK : KL p l e s m below meth c b D ad G i (cells + 2) (slots + 32) Q) : W p l e room_1 s m #[.ref b] below meth c H locs cells slots Q (F0 m 1528 ls []) := by
  have C := K.1
  refine lv_aload_n C.1 C.2.1 dL_law_1528 rfl (lv_at hl 1 rfl) ?_
  refine x_arg K hM.2.2.1 (lv_at hl 0 rfl) (lv_at hl 4 rfl) (k := 1) (v := iI 1) (by omega) rfl dL_law_1529 dL_law_1530 dL_law_1532 dL_law_1533 dL_law_1534 ?_
  refine x_arg K hM.2.2.1 (lv_at hl 0 rfl) (lv_at hl 4 rfl) (k := 2) (v := iI 2) (by omega) rfl dL_law_1535 dL_law_1536 dL_law_1538 dL_law_1539 dL_law_1540 ?_
  refine lv_aload_n C.1 C.2.1 dL_law_1541 rfl (lv_at hl 3 rfl) ?_
  have W1 := c_L_teach l D ad G σ sa (c_X11_teach l hst D ad G IL IL_h σ sa (xv xs (i + 1)) (xv xs (i + 2)) hR.g hR.hl hR.n.2.2.2.2.1 (xv_IR xs _) (xv_IR xs _)) (fun E τ h => h.2.elim (fun h => Or.inl h.1) (fun h => Or.inr (h.elim (fun h => Or.inl h.1) (fun h => Or.inr h.1))))
  refine x_ciA (mc := 1) (ms := 6) (fun q h => h) (x_wr (As := [.ref (ad 0), .int (iI (xv xs (i + 1))), .int (iI (xv xs (i + 2))), .ref (ad 240)]) (rest := []) C K.2.1 K.2.2.1 (tz_at K.2.2.2.1 hM) ⟨Nat.le_of_ble_eq_true rfl, Nat.le_of_ble_eq_true rfl⟩ cwl_teach W1 hM.x rfl rfl (Nat.le_of_ble_eq_true rfl) hl.1 dL_law_1542 ⟨by show cells + 1 ≤ 601024; omega, by show slots + 6 ≤ 7293034; omega⟩) hM (fun k1 σ1 H1 locs1 hp hM => ?_)
  refine lv_istore C.1 C.2.1 dL_law_1545 hl (by decide) rfl (fun ls hl => ?_)
  have hl : lv_has ls 9 ((5, .int (iI k1)) :: BL b ad ad2 i) := hl
  have hM := hM.swap IM_vld
  refine lv_aload_n C.1 C.2.1 dL_law_1547 rfl (lv_at hl 3 rfl) ?_
  refine x_arg K hM.2.2.1 (lv_at hl 1 rfl) (lv_at hl 5 rfl) (k := 1) (v := iI 1) (by omega) rfl dL_law_1548 dL_law_1549 dL_law_1551 dL_law_1552 dL_law_1553 ?_
  refine x_arg K hM.2.2.1 (lv_at hl 1 rfl) (lv_at hl 5 rfl) (k := 2) (v := iI 2) (by omega) rfl dL_law_1554 dL_law_1555 dL_law_1557 dL_law_1558 dL_law_1559 ?_
  refine x_ciA (mc := 0) (ms := 0) (fun q h => h) (x_runVA (As := [.int (iI (xv xs (i + 1))), .int (iI (xv xs (i + 2)))]) (rest := []) C ⟨Nat.le_of_ble_eq_true rfl, Nat.le_of_ble_eq_true rfl⟩ cw_RL_224 (MET.toA (c_X12_teach l D ad2 G IM IM_h τ (xv xs (i + 1)) (xv xs (i + 2)) hR.inv.1 hR.inv.2.2.2.2.1 (xv_IR xs _) (xv_IR xs _))) hM.x (IM_h 100 (by decide) (by decide)) (cx_100 ad2 G _) (q := vwCl[12]) rfl rfl rfl rfl (Nat.le_of_ble_eq_true rfl) hl.1 dL_law_1560 ⟨by show cells + 1 + 0 ≤ 601024; omega, by show slots + 6 + 0 ≤ 7293034; omega⟩) hM (fun z2 τ1 H2 locs2 hq hM => ?_)
  have J := j_teach (z1 := 0) hR hp hq
  have kb := wpost_b hp cdP_b
  refine lv_istore C.1 C.2.1 dL_law_1563 hl (by decide) rfl (fun ls hl => ?_)
  have hl : lv_has ls 9 ((6, .int (iI z2)) :: (5, .int (iI k1)) :: BL b ad ad2 i) := hl
  exact x_tail K hM J kb hl ⟨by omega, by omega, by omega, by omega⟩ KK dL_law_1565 dL_law_1566 dL_law_1569 dL_law_1571 dL_law_1576 dL_law_1578 dL_law_1581 dL_law_1582 dL_law_1583 dL_law_1584 dL_law_1586 dL_law_1587 dL_law_1588 dL_law_1593 (by decide)
set_option maxRecDepth 100000 in
set_option maxHeartbeats 4000000 in
theorem lc_told {p : Program} {l : Launch} (hst : l.stackTraces = false) {e : Env} {s : State} {m : MethodId} {below : List Frame} {meth : Method} {c : Code} {H : Heap} {locs : List Loc} {cells slots : Nat} {Q : State → Prop} {D : va_G} {ad ad2 : Nat → Nat} {G : Nat → Nat} {σ τ : Sg} {ls : Array Slot} {b L : Nat} {xs : Nat → Int32} {sa : Nat → Nat} {i : Int} (K : LC p s m meth c b L xs D G sa) (hM : XE D ad G IL (FA s) s.heap H locs σ (WG ad2 G IM τ)) (hR : REL σ τ) (hl : lv_has ls 9 (BL b ad ad2 i)) (hi : 0 ≤ i ∧ i + 4 ≤ L) (hf : cells + 2 ≤ 601024 ∧ slots + 32 ≤ 7293034) (KK : KL p l e s m below meth c b D ad G i (cells + 2) (slots + 32) Q) : W p l e room_1 s m #[.ref b] below meth c H locs cells slots Q (F0 m 1596 ls []) := by
  have C := K.1
  refine lv_aload_n C.1 C.2.1 dL_law_1596 rfl (lv_at hl 1 rfl) ?_
  refine x_ciA (mc := 0) (ms := 0) (fun q h => h) (x_runVA (As := []) (rest := []) C ⟨Nat.le_of_ble_eq_true rfl, Nat.le_of_ble_eq_true rfl⟩ cw_RL_225 (MET.toA (c_X11_told l D ad G IL IL_h σ hR.g hR.hl hR.n.2.2.2.2.1)) hM.x (IL_c (by omega)) (cx_0 ad G σ) (q := vwCl[11]) rfl rfl rfl rfl (Nat.le_of_ble_eq_true rfl) hl.1 dL_law_1597 ⟨by show cells ≤ 601024; omega, by show slots ≤ 7293034; omega⟩) hM (fun k1 σ1 H1 locs1 hp hM => ?_)
  have hM := hM.swap IM_vld
  refine lv_aload_n C.1 C.2.1 dL_law_1600 rfl (lv_at hl 2 rfl) ?_
  refine x_ciA (mc := 0) (ms := 0) (fun q h => h) (x_runVA (As := []) (rest := [.int (iI k1)]) C ⟨Nat.le_of_ble_eq_true rfl, Nat.le_of_ble_eq_true rfl⟩ cw_RL_228 (MET.toA (c_X12_told l D ad2 G IM IM_h τ hR.inv.1 hR.inv.2.2.2.2.1)) hM.x (IM_h 100 (by decide) (by decide)) (cx_100 ad2 G _) (q := vwCl[12]) rfl rfl rfl rfl (Nat.le_of_ble_eq_true rfl) hl.1 dL_law_1601 ⟨by show cells + 0 ≤ 601024; omega, by show slots + 0 ≤ 7293034; omega⟩) hM (fun z2 τ1 H2 locs2 hq hM => ?_)
  obtain ⟨ez, hR2⟩ := j_told (kc := 0) hR hp hq
  subst ez
  have hM := hM.swap IL_vld
  refine x_icmp_refl C (tgt := 1801) dL_law_1604 (by decide) ?_
  exact W.widen (by omega) (by omega) (KK ad2 σ1 τ1 H2 locs2 ls hM hR2 hl)
set_option maxRecDepth 100000 in
set_option maxHeartbeats 4000000 in
theorem lc_go {p : Program} {l : Launch} (hst : l.stackTraces = false) {e : Env} {s : State} {m : MethodId} {below : List Frame} {meth : Method} {c : Code} {H : Heap} {locs : List Loc} {cells slots : Nat} {Q : State → Prop} {D : va_G} {ad ad2 : Nat → Nat} {G : Nat → Nat} {σ τ : Sg} {ls : Array Slot} {b L : Nat} {xs : Nat → Int32} {sa : Nat → Nat} {i : Int} (K : LC p s m meth c b L xs D G sa) (hM : XE D ad G IL (FA s) s.heap H locs σ (WG ad2 G IM τ)) (hR : REL σ τ) (hl : lv_has ls 9 (BL b ad ad2 i)) (hi : 0 ≤ i ∧ i + 4 ≤ L) (hf : cells + 2 ≤ 601024 ∧ slots + 32 ≤ 7293034) (KK : KL p l e s m below meth c b D ad G i (cells + 2) (slots + 32) Q) : W p l e room_1 s m #[.ref b] below meth c H locs cells slots Q (F0 m 1609 ls []) := by
  have C := K.1
  refine lv_aload_n C.1 C.2.1 dL_law_1609 rfl (lv_at hl 1 rfl) ?_
  refine x_arg K hM.2.2.1 (lv_at hl 0 rfl) (lv_at hl 4 rfl) (k := 1) (v := iI 1) (by omega) rfl dL_law_1610 dL_law_1611 dL_law_1613 dL_law_1614 dL_law_1615 ?_
  refine lv_aload_n C.1 C.2.1 dL_law_1616 rfl (lv_at hl 3 rfl) ?_
  have W1 := c_L_go l D ad G σ sa (c_X11_go l hst D ad G IL IL_h σ sa (xv xs (i + 1)) hR.n hR.hl (xv_IR xs _)) (fun E τ h => h.2.elim (fun h => Or.inl h.1) (fun h => Or.inr h.1))
  refine x_ciA (mc := 1) (ms := 6) (fun q h => h) (x_wr (As := [.ref (ad 0), .int (iI (xv xs (i + 1))), .ref (ad 240)]) (rest := []) C K.2.1 K.2.2.1 (tz_at K.2.2.2.1 hM) ⟨Nat.le_of_ble_eq_true rfl, Nat.le_of_ble_eq_true rfl⟩ cwl_go W1 hM.x rfl rfl (Nat.le_of_ble_eq_true rfl) hl.1 dL_law_1617 ⟨by show cells + 1 ≤ 601024; omega, by show slots + 6 ≤ 7293034; omega⟩) hM (fun k1 σ1 H1 locs1 hp hM => ?_)
  refine lv_istore C.1 C.2.1 dL_law_1620 hl (by decide) rfl (fun ls hl => ?_)
  have hl : lv_has ls 9 ((5, .int (iI k1)) :: BL b ad ad2 i) := hl
  have hM := hM.swap IM_vld
  refine lv_aload_n C.1 C.2.1 dL_law_1622 rfl (lv_at hl 3 rfl) ?_
  refine x_arg K hM.2.2.1 (lv_at hl 1 rfl) (lv_at hl 5 rfl) (k := 1) (v := iI 1) (by omega) rfl dL_law_1623 dL_law_1624 dL_law_1626 dL_law_1627 dL_law_1628 ?_
  refine x_ciA (mc := 0) (ms := 0) (fun q h => h) (x_runVA (As := [.int (iI (xv xs (i + 1)))]) (rest := []) C ⟨Nat.le_of_ble_eq_true rfl, Nat.le_of_ble_eq_true rfl⟩ cw_RL_231 (MET.toA (c_X12_go l D ad2 G IM IM_h τ (xv xs (i + 1)) hR.inv (xv_IR xs _))) hM.x (IM_h 100 (by decide) (by decide)) (cx_100 ad2 G _) (q := vwCl[12]) rfl rfl rfl rfl (Nat.le_of_ble_eq_true rfl) hl.1 dL_law_1629 ⟨by show cells + 1 + 0 ≤ 601024; omega, by show slots + 6 + 0 ≤ 7293034; omega⟩) hM (fun z2 τ1 H2 locs2 hq hM => ?_)
  have J := j_go (z1 := 0) hR hp hq
  have kb := wpost_b hp cdS_b
  refine lv_istore C.1 C.2.1 dL_law_1632 hl (by decide) rfl (fun ls hl => ?_)
  have hl : lv_has ls 9 ((6, .int (iI z2)) :: (5, .int (iI k1)) :: BL b ad ad2 i) := hl
  exact x_tail K hM J kb hl ⟨by omega, by omega, by omega, by omega⟩ KK dL_law_1634 dL_law_1635 dL_law_1638 dL_law_1640 dL_law_1645 dL_law_1647 dL_law_1650 dL_law_1651 dL_law_1652 dL_law_1653 dL_law_1655 dL_law_1656 dL_law_1657 dL_law_1662 (by decide)
set_option maxRecDepth 100000 in
set_option maxHeartbeats 4000000 in
theorem lc_playOut {p : Program} {l : Launch} (hst : l.stackTraces = false) {e : Env} {s : State} {m : MethodId} {below : List Frame} {meth : Method} {c : Code} {H : Heap} {locs : List Loc} {cells slots : Nat} {Q : State → Prop} {D : va_G} {ad ad2 : Nat → Nat} {G : Nat → Nat} {σ τ : Sg} {ls : Array Slot} {b L : Nat} {xs : Nat → Int32} {sa : Nat → Nat} {i : Int} (K : LC p s m meth c b L xs D G sa) (hM : XE D ad G IL (FA s) s.heap H locs σ (WG ad2 G IM τ)) (hR : REL σ τ) (hl : lv_has ls 9 (BL b ad ad2 i)) (hi : 0 ≤ i ∧ i + 4 ≤ L) (hf : cells + 2 ≤ 601024 ∧ slots + 32 ≤ 7293034) (KK : KL p l e s m below meth c b D ad G i (cells + 2) (slots + 32) Q) : W p l e room_1 s m #[.ref b] below meth c H locs cells slots Q (F0 m 1665 ls []) := by
  have C := K.1
  refine lv_aload_n C.1 C.2.1 dL_law_1665 rfl (lv_at hl 1 rfl) ?_
  refine x_arg K hM.2.2.1 (lv_at hl 0 rfl) (lv_at hl 4 rfl) (k := 1) (v := iI 1) (by omega) rfl dL_law_1666 dL_law_1667 dL_law_1669 dL_law_1670 dL_law_1671 ?_
  refine x_arg K hM.2.2.1 (lv_at hl 0 rfl) (lv_at hl 4 rfl) (k := 2) (v := iI 2) (by omega) rfl dL_law_1672 dL_law_1673 dL_law_1675 dL_law_1676 dL_law_1677 ?_
  refine lv_aload_n C.1 C.2.1 dL_law_1678 rfl (lv_at hl 3 rfl) ?_
  have W1 := c_L_playOut l D ad G σ sa (c_X11_playOut l hst D ad G IL IL_h σ sa (xv xs (i + 1)) (xv xs (i + 2)) hR.n hR.hl (xv_IR xs _) (xv_IR xs _)) (fun E τ h => h.2.1)
  refine x_ciA (mc := 1) (ms := 6) (fun q h => h) (x_wr (As := [.ref (ad 0), .int (iI (xv xs (i + 1))), .int (iI (xv xs (i + 2))), .ref (ad 240)]) (rest := []) C K.2.1 K.2.2.1 (tz_at K.2.2.2.1 hM) ⟨Nat.le_of_ble_eq_true rfl, Nat.le_of_ble_eq_true rfl⟩ cwl_playOut W1 hM.x rfl rfl (Nat.le_of_ble_eq_true rfl) hl.1 dL_law_1679 ⟨by show cells + 1 ≤ 601024; omega, by show slots + 6 ≤ 7293034; omega⟩) hM (fun k1 σ1 H1 locs1 hp hM => ?_)
  refine lv_istore C.1 C.2.1 dL_law_1682 hl (by decide) rfl (fun ls hl => ?_)
  have hl : lv_has ls 9 ((5, .int (iI k1)) :: BL b ad ad2 i) := hl
  have hM := hM.swap IM_vld
  refine lv_aload_n C.1 C.2.1 dL_law_1684 rfl (lv_at hl 3 rfl) ?_
  refine x_arg K hM.2.2.1 (lv_at hl 1 rfl) (lv_at hl 5 rfl) (k := 1) (v := iI 1) (by omega) rfl dL_law_1685 dL_law_1686 dL_law_1688 dL_law_1689 dL_law_1690 ?_
  refine x_arg K hM.2.2.1 (lv_at hl 1 rfl) (lv_at hl 5 rfl) (k := 2) (v := iI 2) (by omega) rfl dL_law_1691 dL_law_1692 dL_law_1694 dL_law_1695 dL_law_1696 ?_
  refine x_ciA (mc := 0) (ms := 0) (fun q h => h) (x_runVA (As := [.int (iI (xv xs (i + 1))), .int (iI (xv xs (i + 2)))]) (rest := []) C ⟨Nat.le_of_ble_eq_true rfl, Nat.le_of_ble_eq_true rfl⟩ cw_RL_234 (MET.toA (c_X12_playOut l D ad2 G IM IM_h τ (xv xs (i + 1)) (xv xs (i + 2)) hR.inv (xv_IR xs _) (xv_IR xs _))) hM.x (IM_h 100 (by decide) (by decide)) (cx_100 ad2 G _) (q := vwCl[12]) rfl rfl rfl rfl (Nat.le_of_ble_eq_true rfl) hl.1 dL_law_1697 ⟨by show cells + 1 + 0 ≤ 601024; omega, by show slots + 6 + 0 ≤ 7293034; omega⟩) hM (fun z2 τ1 H2 locs2 hq hM => ?_)
  have J := j_playOut (z1 := 0) hR hp hq
  have kb := wpost_b hp cd1_b
  refine lv_istore C.1 C.2.1 dL_law_1700 hl (by decide) rfl (fun ls hl => ?_)
  have hl : lv_has ls 9 ((6, .int (iI z2)) :: (5, .int (iI k1)) :: BL b ad ad2 i) := hl
  exact x_tail K hM J kb hl ⟨by omega, by omega, by omega, by omega⟩ KK dL_law_1702 dL_law_1703 dL_law_1706 dL_law_1708 dL_law_1713 dL_law_1715 dL_law_1718 dL_law_1719 dL_law_1720 dL_law_1721 dL_law_1723 dL_law_1724 dL_law_1725 dL_law_1730 (by decide)
set_option maxRecDepth 100000 in
set_option maxHeartbeats 4000000 in
theorem lc_pages {p : Program} {l : Launch} (hst : l.stackTraces = false) {e : Env} {s : State} {m : MethodId} {below : List Frame} {meth : Method} {c : Code} {H : Heap} {locs : List Loc} {cells slots : Nat} {Q : State → Prop} {D : va_G} {ad ad2 : Nat → Nat} {G : Nat → Nat} {σ τ : Sg} {ls : Array Slot} {b L : Nat} {xs : Nat → Int32} {sa : Nat → Nat} {i : Int} (K : LC p s m meth c b L xs D G sa) (hM : XE D ad G IL (FA s) s.heap H locs σ (WG ad2 G IM τ)) (hR : REL σ τ) (hl : lv_has ls 9 (BL b ad ad2 i)) (hi : 0 ≤ i ∧ i + 4 ≤ L) (hf : cells + 2 ≤ 601024 ∧ slots + 32 ≤ 7293034) (KK : KL p l e s m below meth c b D ad G i (cells + 2) (slots + 32) Q) : W p l e room_1 s m #[.ref b] below meth c H locs cells slots Q (F0 m 1733 ls []) := by
  have C := K.1
  refine lv_aload_n C.1 C.2.1 dL_law_1733 rfl (lv_at hl 1 rfl) ?_
  refine x_ciA (mc := 0) (ms := 0) (fun q h => h) (x_runVA (As := []) (rest := []) C ⟨Nat.le_of_ble_eq_true rfl, Nat.le_of_ble_eq_true rfl⟩ cw_RL_235 (MET.toA (c_X11_pages l D ad G IL IL_h σ )) hM.x (IL_c (by omega)) (cx_0 ad G σ) (q := vwCl[11]) rfl rfl rfl rfl (Nat.le_of_ble_eq_true rfl) hl.1 dL_law_1734 ⟨by show cells ≤ 601024; omega, by show slots ≤ 7293034; omega⟩) hM (fun k1 σ1 H1 locs1 hp hM => ?_)
  have hM := hM.swap IM_vld
  refine lv_aload_n C.1 C.2.1 dL_law_1737 rfl (lv_at hl 2 rfl) ?_
  refine x_ciA (mc := 0) (ms := 0) (fun q h => h) (x_runVA (As := []) (rest := [.int (iI k1)]) C ⟨Nat.le_of_ble_eq_true rfl, Nat.le_of_ble_eq_true rfl⟩ cw_RL_238 (MET.toA (c_X12_pages l D ad2 G IM IM_h τ )) hM.x (IM_h 100 (by decide) (by decide)) (cx_100 ad2 G _) (q := vwCl[12]) rfl rfl rfl rfl (Nat.le_of_ble_eq_true rfl) hl.1 dL_law_1738 ⟨by show cells + 0 ≤ 601024; omega, by show slots + 0 ≤ 7293034; omega⟩) hM (fun z2 τ1 H2 locs2 hq hM => ?_)
  obtain ⟨ez, hR2⟩ := j_pages (kc := 0) hR hp hq
  subst ez
  have hM := hM.swap IL_vld
  refine x_icmp_refl C (tgt := 1801) dL_law_1741 (by decide) ?_
  exact W.widen (by omega) (by omega) (KK ad2 σ1 τ1 H2 locs2 ls hM hR2 hl)
set_option maxRecDepth 100000 in
set_option maxHeartbeats 4000000 in
theorem lc_effort {p : Program} {l : Launch} (hst : l.stackTraces = false) {e : Env} {s : State} {m : MethodId} {below : List Frame} {meth : Method} {c : Code} {H : Heap} {locs : List Loc} {cells slots : Nat} {Q : State → Prop} {D : va_G} {ad ad2 : Nat → Nat} {G : Nat → Nat} {σ τ : Sg} {ls : Array Slot} {b L : Nat} {xs : Nat → Int32} {sa : Nat → Nat} {i : Int} (K : LC p s m meth c b L xs D G sa) (hM : XE D ad G IL (FA s) s.heap H locs σ (WG ad2 G IM τ)) (hR : REL σ τ) (hl : lv_has ls 9 (BL b ad ad2 i)) (hi : 0 ≤ i ∧ i + 4 ≤ L) (hf : cells + 2 ≤ 601024 ∧ slots + 32 ≤ 7293034) (KK : KL p l e s m below meth c b D ad G i (cells + 2) (slots + 32) Q) : W p l e room_1 s m #[.ref b] below meth c H locs cells slots Q (F0 m 1746 ls []) := by
  have C := K.1
  refine lv_aload_n C.1 C.2.1 dL_law_1746 rfl (lv_at hl 1 rfl) ?_
  refine x_cdA (mc := 0) (ms := 0) (fun q h => h) (x_runVA (As := []) (rest := []) C ⟨Nat.le_of_ble_eq_true rfl, Nat.le_of_ble_eq_true rfl⟩ cw_RL_239 (MET.toA (c_X11_effort l D ad G IL IL_h σ )) hM.x (IL_c (by omega)) (cx_0 ad G σ) (q := vwCl[11]) rfl rfl rfl rfl (Nat.le_of_ble_eq_true rfl) hl.1 dL_law_1747 ⟨by show cells ≤ 601024; omega, by show slots ≤ 7293034; omega⟩) hM (fun k1 σ1 H1 locs1 hp hM => ?_)
  have hM := hM.swap IM_vld
  refine lv_dstore C.1 C.2.1 dL_law_1750 hl (by decide) rfl (fun ls hl => ?_)
  have hl : lv_has ls 9 ((5, .double k1) :: BL b ad ad2 i) := hl
  refine lv_aload_n C.1 C.2.1 dL_law_1752 rfl (lv_at hl 3 rfl) ?_
  refine x_cdA (mc := 0) (ms := 0) (fun q h => h) (x_runVA (As := []) (rest := []) C ⟨Nat.le_of_ble_eq_true rfl, Nat.le_of_ble_eq_true rfl⟩ cw_RL_243 (MET.toA (c_X12_effort l D ad2 G IM IM_h τ )) hM.x (IM_h 100 (by decide) (by decide)) (cx_100 ad2 G _) (q := vwCl[12]) rfl rfl rfl rfl (Nat.le_of_ble_eq_true rfl) hl.1 dL_law_1753 ⟨by show cells + 0 ≤ 601024; omega, by show slots + 0 ≤ 7293034; omega⟩) hM (fun z2 τ1 H2 locs2 hq hM => ?_)
  obtain ⟨ez, hR2⟩ := j_effort hR hp hq
  subst ez
  have hM := hM.swap IL_vld
  refine lv_dstore C.1 C.2.1 dL_law_1756 hl (by decide) rfl (fun ls hl => ?_)
  have hl : lv_has ls 9 ((7, .double k1) :: (5, .double k1) :: BL b ad ad2 i) := hl
  have fin : W p l e room_1 s m #[.ref b] below meth c H2 locs2 cells slots Q (F0 m 1784 ls []) := by
    refine lv_goto C.1 C.2.1 (tgt := 1801) dL_law_1784 (by decide) ?_
    exact W.widen (by omega) (by omega) (KK ad2 σ1 τ1 H2 locs2 ls hM hR2 (lv_less hl (fun q hq => List.mem_cons_of_mem _ (List.mem_cons_of_mem _ hq))))
  refine lv_dload C.1 C.2.1 dL_law_1758 (lv_at hl 1 rfl) ?_
  refine lv_dload C.1 C.2.1 dL_law_1760 (lv_at hl 0 rfl) ?_
  refine lv_dcmp C.1 C.2.1 dL_law_1762 ?_
  rcases dcmp_self k1 with hd | hd
  · rw [hd]
    refine x_if_eq C (a := -1) (by decide) (tgt := 1784) dL_law_1763 (by decide) (fun _ => fin) (fun _ => ?_)
    refine lv_dload C.1 C.2.1 dL_law_1766 (lv_at hl 1 rfl) ?_
    refine lv_dload C.1 C.2.1 dL_law_1768 (lv_at hl 1 rfl) ?_
    refine lv_dcmp C.1 C.2.1 dL_law_1770 ?_
    rw [hd]
    refine x_if_eq C (a := -1) (by decide) (tgt := 1782) dL_law_1771 (by decide) (fun h => absurd h (by decide)) (fun _ => ?_)
    refine lv_dload C.1 C.2.1 dL_law_1774 (lv_at hl 0 rfl) ?_
    refine lv_dload C.1 C.2.1 dL_law_1776 (lv_at hl 0 rfl) ?_
    refine lv_dcmp C.1 C.2.1 dL_law_1778 ?_
    rw [hd]
    exact x_if_ne C (a := -1) (by decide) (tgt := 1784) dL_law_1779 (by decide) (fun _ => fin) (fun h => absurd (by decide) h)
  · rw [hd]
    exact x_if_eq C (a := 0) (by decide) (tgt := 1784) dL_law_1763 (by decide) (fun _ => fin) (fun h => absurd rfl h)
set_option maxRecDepth 100000 in
set_option maxHeartbeats 4000000 in
theorem lc_digest {p : Program} {l : Launch} (hst : l.stackTraces = false) {e : Env} {s : State} {m : MethodId} {below : List Frame} {meth : Method} {c : Code} {H : Heap} {locs : List Loc} {cells slots : Nat} {Q : State → Prop} {D : va_G} {ad ad2 : Nat → Nat} {G : Nat → Nat} {σ τ : Sg} {ls : Array Slot} {b L : Nat} {xs : Nat → Int32} {sa : Nat → Nat} {i : Int} (K : LC p s m meth c b L xs D G sa) (hM : XE D ad G IL (FA s) s.heap H locs σ (WG ad2 G IM τ)) (hR : REL σ τ) (hl : lv_has ls 9 (BL b ad ad2 i)) (hi : 0 ≤ i ∧ i + 4 ≤ L) (hf : cells + 2 ≤ 601024 ∧ slots + 32 ≤ 7293034) (KK : KL p l e s m below meth c b D ad G i (cells + 2) (slots + 32) Q) : W p l e room_1 s m #[.ref b] below meth c H locs cells slots Q (F0 m 1787 ls []) := by
  have C := K.1
  refine lv_aload_n C.1 C.2.1 dL_law_1787 rfl (lv_at hl 1 rfl) ?_
  refine x_clA (mc := 0) (ms := 0) (fun q h => h) (x_runVA (As := []) (rest := []) C ⟨Nat.le_of_ble_eq_true rfl, Nat.le_of_ble_eq_true rfl⟩ cw_RL_244 (MET.toA (c_X11_digest l D ad G IL IL_h σ hR.g hR.hl hR.n.2.1 hR.n.2.2.2.2.1 hR.n.2.2.2.2.2.1 hR.be hR.re4.1 hR.hk0)) hM.x (IL_c (by omega)) (cx_0 ad G σ) (q := vwCl[11]) rfl rfl rfl rfl (Nat.le_of_ble_eq_true rfl) hl.1 dL_law_1788 ⟨by show cells ≤ 601024; omega, by show slots ≤ 7293034; omega⟩) hM (fun k1 σ1 H1 locs1 hp hM => ?_)
  have hM := hM.swap IM_vld
  refine lv_aload_n C.1 C.2.1 dL_law_1791 rfl (lv_at hl 2 rfl) ?_
  refine x_clA (mc := 2) (ms := 13) (fun q h => h) (x_runVA (As := []) (rest := [.long (jI k1)]) C ⟨Nat.le_of_ble_eq_true rfl, Nat.le_of_ble_eq_true rfl⟩ cw_RL_247 (c_X12_digest l D ad2 G IM IM_h τ hR.inv.1 hR.inv.2.1 hR.inv.2.2.2.2.1 hR.be2 hR.ir20) hM.x (IM_h 100 (by decide) (by decide)) (cx_100 ad2 G _) (q := vwCl[12]) rfl rfl rfl rfl (Nat.le_of_ble_eq_true rfl) hl.1 dL_law_1792 ⟨by show cells + 2 ≤ 601024; omega, by show slots + 13 ≤ 7293034; omega⟩) hM (fun z2 τ1 H2 locs2 hq hM => ?_)
  obtain ⟨ez, hR2⟩ := j_digest (kc := 0) hR hp hq
  subst ez
  have hM := hM.swap IL_vld
  refine x_lcmp0 C dL_law_1795 ?_
  have fin : W p l e room_1 s m #[.ref b] below meth c H2 locs2 (cells + 2) (slots + 13) Q (F0 m 1801 ls []) := W.widen (by omega) (by omega) (KK ad2 σ1 τ1 H2 locs2 ls hM hR2 hl)
  exact x_if_eq C (by decide) (tgt := 1801) dL_law_1796 (by decide) (fun _ => fin) (fun h => absurd rfl h)
