/-! the law's wrappers -/
theorem wI_of {z : Int} (h : IR z) : wI z = z := iI_toInt h
def cd1 (_ : String) : Int := 1
def cdP (E : String) : Int := if E = sOOB then 1 else if E = sIAE then 2 else 3
def cdS (E : String) : Int := if E = sIAE then 1 else 2
def hL_setUp : List (Nat × Nat × Nat × Nat) := [(0, 12, 15, 13)]
theorem wc_L_setUp : Cond.codeWith yL_setUp cL_setUp 6 (some .int) hL_setUp ∈ WA := wa_t 674 (by decide +kernel) rfl
theorem c_L_setUp (l : Launch) (D : va_G) (ad : Nat → Nat) (G : Nat → Nat) (σ : Sg) (sa : Nat → Nat) {h' : Nat} {a b d : Int} {postz : Int → Sg → Prop} {px : String → Sg → Prop} (hc : VME l yX11_setUp cX11_setUp 4 (some .int) h' [.ref (ad 0), .int (iI a), .int (iI b), .int (iI d)] D ad G IL σ sa (QI D ad G IL postz) px) (hpx : ∀ (E : String) (τ : Sg), px E τ → E = sIAE) : WME l yL_setUp cL_setUp 6 hL_setUp (h' + 1) [.ref (ad 0), .int (iI a), .int (iI b), .int (iI d), .ref (ad 240)] D ad G IL σ sa (wpost postz px cd1) := by
  refine x_enterWr (by decide) (Nat.le_of_ble_eq_true rfl) ?_
  intro pp ee ss mm args below meth cq C htab hNC hTX hTZ hr ls hl hM
  have hl : lv_has ls 6 [(0, .ref (ad 0)), (1, .int (iI a)), (2, .int (iI b)), (3, .int (iI d)), (4, .ref (ad 240))] := hl
  refine lv_aload C.1 C.2.1 dL_setUp_0 (lv_at hl 4 rfl) ?_
  refine lv_iconst C.1 C.2.1 (v := iI 0) dL_setUp_2 rfl ?_
  refine lv_aload_n C.1 C.2.1 dL_setUp_3 rfl (lv_at hl 0 rfl) ?_
  refine lv_iload_n C.1 C.2.1 dL_setUp_4 rfl (lv_at hl 1 rfl) ?_
  refine lv_iload_n C.1 C.2.1 dL_setUp_5 rfl (lv_at hl 2 rfl) ?_
  refine lv_iload_n C.1 C.2.1 dL_setUp_6 rfl (lv_at hl 3 rfl) ?_
  refine x_tryV (As := [.int (iI a), .int (iI b), .int (iI d)]) (rest := [.int (iI 0), .ref (ad 240)]) C hr htab hTX hTZ hM hl cw_RL_7 hc rfl rfl rfl (Nat.le_of_ble_eq_true rfl) dL_setUp_7 (fun E τ hp => ?_) (fun z σ1 H1 locs1 hp hM => ?_)
  · have hq := hpx E τ hp
    rcases hq with rfl
    · exact ⟨1, by decide, ⟨[], ⟨0, 12, 15, 13⟩, [], rfl, fun z hz => absurd hz List.not_mem_nil, by decide, by decide, kl_13, List.mem_of_getElem? (i := 0) rfl, Or.inr ⟨5, by decide, dL_setUp_15, dL_setUp_17, dL_setUp_18⟩⟩, Or.inr ⟨sIAE, hp, by decide⟩⟩
  · refine x_i2lW C dL_setUp_10 ?_
    exact x_out (tgt := 19) C hr hM (Or.inl ⟨rfl, z, σ1, hp, rfl⟩) dL_setUp_11 dL_setUp_12 (by decide) dL_setUp_19 dL_setUp_20
def hL_put : List (Nat × Nat × Nat × Nat) := [(0, 10, 13, 19), (0, 10, 17, 13), (0, 10, 21, 21)]
theorem wc_L_put : Cond.codeWith yL_put cL_put 5 (some .int) hL_put ∈ WA := wa_t 765 (by decide +kernel) rfl
theorem c_L_put (l : Launch) (D : va_G) (ad : Nat → Nat) (G : Nat → Nat) (σ : Sg) (sa : Nat → Nat) {h' : Nat} {a b : Int} {postz : Int → Sg → Prop} {px : String → Sg → Prop} (hc : VME l yX11_put cX11_put 4 (some .int) h' [.ref (ad 0), .int (iI a), .int (iI b)] D ad G IL σ sa (QI D ad G IL postz) px) (hpx : ∀ (E : String) (τ : Sg), px E τ → E = sOOB ∨ E = sIAE ∨ E = sISE) : WME l yL_put cL_put 5 hL_put (h' + 1) [.ref (ad 0), .int (iI a), .int (iI b), .ref (ad 240)] D ad G IL σ sa (wpost postz px cdP) := by
  refine x_enterWr (by decide) (Nat.le_of_ble_eq_true rfl) ?_
  intro pp ee ss mm args below meth cq C htab hNC hTX hTZ hr ls hl hM
  have hl : lv_has ls 5 [(0, .ref (ad 0)), (1, .int (iI a)), (2, .int (iI b)), (3, .ref (ad 240))] := hl
  refine lv_aload_n C.1 C.2.1 dL_put_0 rfl (lv_at hl 3 rfl) ?_
  refine lv_iconst C.1 C.2.1 (v := iI 0) dL_put_1 rfl ?_
  refine lv_aload_n C.1 C.2.1 dL_put_2 rfl (lv_at hl 0 rfl) ?_
  refine lv_iload_n C.1 C.2.1 dL_put_3 rfl (lv_at hl 1 rfl) ?_
  refine lv_iload_n C.1 C.2.1 dL_put_4 rfl (lv_at hl 2 rfl) ?_
  refine x_tryV (As := [.int (iI a), .int (iI b)]) (rest := [.int (iI 0), .ref (ad 240)]) C hr htab hTX hTZ hM hl cw_RL_15 hc rfl rfl rfl (Nat.le_of_ble_eq_true rfl) dL_put_5 (fun E τ hp => ?_) (fun z σ1 H1 locs1 hp hM => ?_)
  · have hq := hpx E τ hp
    rcases hq with rfl | rfl | rfl
    · exact ⟨1, by decide, ⟨[], ⟨0, 10, 13, 19⟩, [⟨0, 10, 17, 13⟩, ⟨0, 10, 21, 21⟩], rfl, fun z hz => absurd hz List.not_mem_nil, by decide, by decide, kl_19, List.mem_of_getElem? (i := 1) rfl, Or.inr ⟨4, by decide, dL_put_13, dL_put_15, dL_put_16⟩⟩, Or.inr ⟨sOOB, hp, by decide⟩⟩
    · exact ⟨2, by decide, ⟨[⟨0, 10, 13, 19⟩], ⟨0, 10, 17, 13⟩, [⟨0, 10, 21, 21⟩], rfl, List.forall_mem_cons.mpr ⟨⟨by decide, sOOB, kl_19, hNC.1⟩, fun z hz => absurd hz List.not_mem_nil⟩, by decide, by decide, kl_13, List.mem_of_getElem? (i := 0) rfl, Or.inr ⟨4, by decide, dL_put_17, dL_put_19, dL_put_20⟩⟩, Or.inr ⟨sIAE, hp, by decide⟩⟩
    · exact ⟨3, by decide, ⟨[⟨0, 10, 13, 19⟩, ⟨0, 10, 17, 13⟩], ⟨0, 10, 21, 21⟩, [], rfl, List.forall_mem_cons.mpr ⟨⟨by decide, sOOB, kl_19, hNC.2.1⟩, List.forall_mem_cons.mpr ⟨⟨by decide, sIAE, kl_13, hNC.2.2⟩, fun z hz => absurd hz List.not_mem_nil⟩⟩, by decide, by decide, kl_21, List.mem_of_getElem? (i := 2) rfl, Or.inr ⟨4, by decide, dL_put_21, dL_put_23, dL_put_24⟩⟩, Or.inr ⟨sISE, hp, by decide⟩⟩
  · refine x_i2lW C dL_put_8 ?_
    exact x_out (tgt := 25) C hr hM (Or.inl ⟨rfl, z, σ1, hp, rfl⟩) dL_put_9 dL_put_10 (by decide) dL_put_25 dL_put_26
def hL_setSide : List (Nat × Nat × Nat × Nat) := [(0, 9, 12, 13)]
theorem wc_L_setSide : Cond.codeWith yL_setSide cL_setSide 4 (some .int) hL_setSide ∈ WA := wa_t 816 (by decide +kernel) rfl
theorem c_L_setSide (l : Launch) (D : va_G) (ad : Nat → Nat) (G : Nat → Nat) (σ : Sg) (sa : Nat → Nat) {h' : Nat} {a : Int} {postz : Int → Sg → Prop} {px : String → Sg → Prop} (hc : VME l yX11_setSide cX11_setSide 3 (some .int) h' [.ref (ad 0), .int (iI a)] D ad G IL σ sa (QI D ad G IL postz) px) (hpx : ∀ (E : String) (τ : Sg), px E τ → E = sIAE) : WME l yL_setSide cL_setSide 4 hL_setSide (h' + 1) [.ref (ad 0), .int (iI a), .ref (ad 240)] D ad G IL σ sa (wpost postz px cd1) := by
  refine x_enterWr (by decide) (Nat.le_of_ble_eq_true rfl) ?_
  intro pp ee ss mm args below meth cq C htab hNC hTX hTZ hr ls hl hM
  have hl : lv_has ls 4 [(0, .ref (ad 0)), (1, .int (iI a)), (2, .ref (ad 240))] := hl
  refine lv_aload_n C.1 C.2.1 dL_setSide_0 rfl (lv_at hl 2 rfl) ?_
  refine lv_iconst C.1 C.2.1 (v := iI 0) dL_setSide_1 rfl ?_
  refine lv_aload_n C.1 C.2.1 dL_setSide_2 rfl (lv_at hl 0 rfl) ?_
  refine lv_iload_n C.1 C.2.1 dL_setSide_3 rfl (lv_at hl 1 rfl) ?_
  refine x_tryV (As := [.int (iI a)]) (rest := [.int (iI 0), .ref (ad 240)]) C hr htab hTX hTZ hM hl cw_RL_23 hc rfl rfl rfl (Nat.le_of_ble_eq_true rfl) dL_setSide_4 (fun E τ hp => ?_) (fun z σ1 H1 locs1 hp hM => ?_)
  · have hq := hpx E τ hp
    rcases hq with rfl
    · exact ⟨1, by decide, ⟨[], ⟨0, 9, 12, 13⟩, [], rfl, fun z hz => absurd hz List.not_mem_nil, by decide, by decide, kl_13, List.mem_of_getElem? (i := 0) rfl, Or.inl ⟨3, by decide, dL_setSide_12, dL_setSide_13, dL_setSide_14⟩⟩, Or.inr ⟨sIAE, hp, by decide⟩⟩
  · refine x_i2lW C dL_setSide_7 ?_
    exact x_out (tgt := 15) C hr hM (Or.inl ⟨rfl, z, σ1, hp, rfl⟩) dL_setSide_8 dL_setSide_9 (by decide) dL_setSide_15 dL_setSide_16
def hL_play : List (Nat × Nat × Nat × Nat) := [(0, 9, 12, 19)]
theorem wc_L_play : Cond.codeWith yL_play cL_play 4 (some .int) hL_play ∈ WA := wa_t 828 (by decide +kernel) rfl
theorem c_L_play (l : Launch) (D : va_G) (ad : Nat → Nat) (G : Nat → Nat) (σ : Sg) (sa : Nat → Nat) {h' : Nat} {a : Int} {postz : Int → Sg → Prop} {px : String → Sg → Prop} (hc : VME l yX11_play cX11_play 2 (some .int) h' [.ref (ad 0), .int (iI a)] D ad G IL σ sa (QI D ad G IL postz) px) (hpx : ∀ (E : String) (τ : Sg), px E τ → E = sOOB) : WME l yL_play cL_play 4 hL_play (h' + 1) [.ref (ad 0), .int (iI a), .ref (ad 240)] D ad G IL σ sa (wpost postz px cd1) := by
  refine x_enterWr (by decide) (Nat.le_of_ble_eq_true rfl) ?_
  intro pp ee ss mm args below meth cq C htab hNC hTX hTZ hr ls hl hM
  have hl : lv_has ls 4 [(0, .ref (ad 0)), (1, .int (iI a)), (2, .ref (ad 240))] := hl
  refine lv_aload_n C.1 C.2.1 dL_play_0 rfl (lv_at hl 2 rfl) ?_
  refine lv_iconst C.1 C.2.1 (v := iI 0) dL_play_1 rfl ?_
  refine lv_aload_n C.1 C.2.1 dL_play_2 rfl (lv_at hl 0 rfl) ?_
  refine lv_iload_n C.1 C.2.1 dL_play_3 rfl (lv_at hl 1 rfl) ?_
  refine x_tryV (As := [.int (iI a)]) (rest := [.int (iI 0), .ref (ad 240)]) C hr htab hTX hTZ hM hl cw_RL_27 hc rfl rfl rfl (Nat.le_of_ble_eq_true rfl) dL_play_4 (fun E τ hp => ?_) (fun z σ1 H1 locs1 hp hM => ?_)
  · have hq := hpx E τ hp
    rcases hq with rfl
    · exact ⟨1, by decide, ⟨[], ⟨0, 9, 12, 19⟩, [], rfl, fun z hz => absurd hz List.not_mem_nil, by decide, by decide, kl_19, List.mem_of_getElem? (i := 1) rfl, Or.inl ⟨3, by decide, dL_play_12, dL_play_13, dL_play_14⟩⟩, Or.inr ⟨sOOB, hp, by decide⟩⟩
  · refine x_i2lW C dL_play_7 ?_
    exact x_out (tgt := 15) C hr hM (Or.inl ⟨rfl, z, σ1, hp, rfl⟩) dL_play_8 dL_play_9 (by decide) dL_play_15 dL_play_16
def hL_back : List (Nat × Nat × Nat × Nat) := [(0, 8, 11, 21)]
theorem wc_L_back : Cond.codeWith yL_back cL_back 3 (some .int) hL_back ∈ WA := wa_t 853 (by decide +kernel) rfl
theorem c_L_back (l : Launch) (D : va_G) (ad : Nat → Nat) (G : Nat → Nat) (σ : Sg) (sa : Nat → Nat) {h' : Nat} {postz : Int → Sg → Prop} {px : String → Sg → Prop} (hc : VME l yX11_back cX11_back 1 (some .int) h' [.ref (ad 0)] D ad G IL σ sa (QI D ad G IL postz) px) (hpx : ∀ (E : String) (τ : Sg), px E τ → E = sISE) : WME l yL_back cL_back 3 hL_back (h' + 1) [.ref (ad 0), .ref (ad 240)] D ad G IL σ sa (wpost postz px cd1) := by
  refine x_enterWr (by decide) (Nat.le_of_ble_eq_true rfl) ?_
  intro pp ee ss mm args below meth cq C htab hNC hTX hTZ hr ls hl hM
  have hl : lv_has ls 3 [(0, .ref (ad 0)), (1, .ref (ad 240))] := hl
  refine lv_aload_n C.1 C.2.1 dL_back_0 rfl (lv_at hl 1 rfl) ?_
  refine lv_iconst C.1 C.2.1 (v := iI 0) dL_back_1 rfl ?_
  refine lv_aload_n C.1 C.2.1 dL_back_2 rfl (lv_at hl 0 rfl) ?_
  refine x_tryV (As := []) (rest := [.int (iI 0), .ref (ad 240)]) C hr htab hTX hTZ hM hl cw_RL_30 hc rfl rfl rfl (Nat.le_of_ble_eq_true rfl) dL_back_3 (fun E τ hp => ?_) (fun z σ1 H1 locs1 hp hM => ?_)
  · have hq := hpx E τ hp
    rcases hq with rfl
    · exact ⟨1, by decide, ⟨[], ⟨0, 8, 11, 21⟩, [], rfl, fun z hz => absurd hz List.not_mem_nil, by decide, by decide, kl_21, List.mem_of_getElem? (i := 2) rfl, Or.inl ⟨2, by decide, dL_back_11, dL_back_12, dL_back_13⟩⟩, Or.inr ⟨sISE, hp, by decide⟩⟩
  · refine x_i2lW C dL_back_6 ?_
    exact x_out (tgt := 14) C hr hM (Or.inl ⟨rfl, z, σ1, hp, rfl⟩) dL_back_7 dL_back_8 (by decide) dL_back_14 dL_back_15
def hL_weigh : List (Nat × Nat × Nat × Nat) := [(0, 12, 15, 13)]
theorem wc_L_weigh : Cond.codeWith yL_weigh cL_weigh 6 (some .int) hL_weigh ∈ WA := wa_t 874 (by decide +kernel) rfl
theorem c_L_weigh (l : Launch) (D : va_G) (ad : Nat → Nat) (G : Nat → Nat) (σ : Sg) (sa : Nat → Nat) {h' : Nat} {a b d : Int} {postz : Int → Sg → Prop} {px : String → Sg → Prop} (hc : VME l yX11_weigh cX11_weigh 4 (some .int) h' [.ref (ad 0), .int (iI a), .int (iI b), .int (iI d)] D ad G IL σ sa (QI D ad G IL postz) px) (hpx : ∀ (E : String) (τ : Sg), px E τ → E = sIAE) : WME l yL_weigh cL_weigh 6 hL_weigh (h' + 1) [.ref (ad 0), .int (iI a), .int (iI b), .int (iI d), .ref (ad 240)] D ad G IL σ sa (wpost postz px cd1) := by
  refine x_enterWr (by decide) (Nat.le_of_ble_eq_true rfl) ?_
  intro pp ee ss mm args below meth cq C htab hNC hTX hTZ hr ls hl hM
  have hl : lv_has ls 6 [(0, .ref (ad 0)), (1, .int (iI a)), (2, .int (iI b)), (3, .int (iI d)), (4, .ref (ad 240))] := hl
  refine lv_aload C.1 C.2.1 dL_weigh_0 (lv_at hl 4 rfl) ?_
  refine lv_iconst C.1 C.2.1 (v := iI 0) dL_weigh_2 rfl ?_
  refine lv_aload_n C.1 C.2.1 dL_weigh_3 rfl (lv_at hl 0 rfl) ?_
  refine lv_iload_n C.1 C.2.1 dL_weigh_4 rfl (lv_at hl 1 rfl) ?_
  refine lv_iload_n C.1 C.2.1 dL_weigh_5 rfl (lv_at hl 2 rfl) ?_
  refine lv_iload_n C.1 C.2.1 dL_weigh_6 rfl (lv_at hl 3 rfl) ?_
  refine x_tryV (As := [.int (iI a), .int (iI b), .int (iI d)]) (rest := [.int (iI 0), .ref (ad 240)]) C hr htab hTX hTZ hM hl cw_RL_34 hc rfl rfl rfl (Nat.le_of_ble_eq_true rfl) dL_weigh_7 (fun E τ hp => ?_) (fun z σ1 H1 locs1 hp hM => ?_)
  · have hq := hpx E τ hp
    rcases hq with rfl
    · exact ⟨1, by decide, ⟨[], ⟨0, 12, 15, 13⟩, [], rfl, fun z hz => absurd hz List.not_mem_nil, by decide, by decide, kl_13, List.mem_of_getElem? (i := 0) rfl, Or.inr ⟨5, by decide, dL_weigh_15, dL_weigh_17, dL_weigh_18⟩⟩, Or.inr ⟨sIAE, hp, by decide⟩⟩
  · refine x_i2lW C dL_weigh_10 ?_
    exact x_out (tgt := 19) C hr hM (Or.inl ⟨rfl, z, σ1, hp, rfl⟩) dL_weigh_11 dL_weigh_12 (by decide) dL_weigh_19 dL_weigh_20
def hL_setSlots : List (Nat × Nat × Nat × Nat) := [(0, 9, 12, 13)]
theorem wc_L_setSlots : Cond.codeWith yL_setSlots cL_setSlots 4 (some .int) hL_setSlots ∈ WA := wa_t 886 (by decide +kernel) rfl
theorem c_L_setSlots (l : Launch) (D : va_G) (ad : Nat → Nat) (G : Nat → Nat) (σ : Sg) (sa : Nat → Nat) {h' : Nat} {a : Int} {postz : Int → Sg → Prop} {px : String → Sg → Prop} (hc : VME l yX11_setSlots cX11_setSlots 3 (some .int) h' [.ref (ad 0), .int (iI a)] D ad G IL σ sa (QI D ad G IL postz) px) (hpx : ∀ (E : String) (τ : Sg), px E τ → E = sIAE) : WME l yL_setSlots cL_setSlots 4 hL_setSlots (h' + 1) [.ref (ad 0), .int (iI a), .ref (ad 240)] D ad G IL σ sa (wpost postz px cd1) := by
  refine x_enterWr (by decide) (Nat.le_of_ble_eq_true rfl) ?_
  intro pp ee ss mm args below meth cq C htab hNC hTX hTZ hr ls hl hM
  have hl : lv_has ls 4 [(0, .ref (ad 0)), (1, .int (iI a)), (2, .ref (ad 240))] := hl
  refine lv_aload_n C.1 C.2.1 dL_setSlots_0 rfl (lv_at hl 2 rfl) ?_
  refine lv_iconst C.1 C.2.1 (v := iI 0) dL_setSlots_1 rfl ?_
  refine lv_aload_n C.1 C.2.1 dL_setSlots_2 rfl (lv_at hl 0 rfl) ?_
  refine lv_iload_n C.1 C.2.1 dL_setSlots_3 rfl (lv_at hl 1 rfl) ?_
  refine x_tryV (As := [.int (iI a)]) (rest := [.int (iI 0), .ref (ad 240)]) C hr htab hTX hTZ hM hl cw_RL_37 hc rfl rfl rfl (Nat.le_of_ble_eq_true rfl) dL_setSlots_4 (fun E τ hp => ?_) (fun z σ1 H1 locs1 hp hM => ?_)
  · have hq := hpx E τ hp
    rcases hq with rfl
    · exact ⟨1, by decide, ⟨[], ⟨0, 9, 12, 13⟩, [], rfl, fun z hz => absurd hz List.not_mem_nil, by decide, by decide, kl_13, List.mem_of_getElem? (i := 0) rfl, Or.inl ⟨3, by decide, dL_setSlots_12, dL_setSlots_13, dL_setSlots_14⟩⟩, Or.inr ⟨sIAE, hp, by decide⟩⟩
  · refine x_i2lW C dL_setSlots_7 ?_
    exact x_out (tgt := 15) C hr hM (Or.inl ⟨rfl, z, σ1, hp, rfl⟩) dL_setSlots_8 dL_setSlots_9 (by decide) dL_setSlots_15 dL_setSlots_16
def hL_at : List (Nat × Nat × Nat × Nat) := [(0, 9, 12, 19)]
theorem wc_L_at : Cond.codeWith yL_at cL_at 4 (some .int) hL_at ∈ WA := wa_t 899 (by decide +kernel) rfl
theorem c_L_at (l : Launch) (D : va_G) (ad : Nat → Nat) (G : Nat → Nat) (σ : Sg) (sa : Nat → Nat) {h' : Nat} {a : Int} {postz : Int → Sg → Prop} {px : String → Sg → Prop} (hc : VME l yX11_at cX11_at 2 (some .int) h' [.ref (ad 0), .int (iI a)] D ad G IL σ sa (QI D ad G IL postz) px) (hpx : ∀ (E : String) (τ : Sg), px E τ → E = sOOB) : WME l yL_at cL_at 4 hL_at (h' + 1) [.ref (ad 0), .int (iI a), .ref (ad 240)] D ad G IL σ sa (wpost postz px cd1) := by
  refine x_enterWr (by decide) (Nat.le_of_ble_eq_true rfl) ?_
  intro pp ee ss mm args below meth cq C htab hNC hTX hTZ hr ls hl hM
  have hl : lv_has ls 4 [(0, .ref (ad 0)), (1, .int (iI a)), (2, .ref (ad 240))] := hl
  refine lv_aload_n C.1 C.2.1 dL_at_0 rfl (lv_at hl 2 rfl) ?_
  refine lv_iconst C.1 C.2.1 (v := iI 0) dL_at_1 rfl ?_
  refine lv_aload_n C.1 C.2.1 dL_at_2 rfl (lv_at hl 0 rfl) ?_
  refine lv_iload_n C.1 C.2.1 dL_at_3 rfl (lv_at hl 1 rfl) ?_
  refine x_tryV (As := [.int (iI a)]) (rest := [.int (iI 0), .ref (ad 240)]) C hr htab hTX hTZ hM hl cw_RL_40 hc rfl rfl rfl (Nat.le_of_ble_eq_true rfl) dL_at_4 (fun E τ hp => ?_) (fun z σ1 H1 locs1 hp hM => ?_)
  · have hq := hpx E τ hp
    rcases hq with rfl
    · exact ⟨1, by decide, ⟨[], ⟨0, 9, 12, 19⟩, [], rfl, fun z hz => absurd hz List.not_mem_nil, by decide, by decide, kl_19, List.mem_of_getElem? (i := 1) rfl, Or.inl ⟨3, by decide, dL_at_12, dL_at_13, dL_at_14⟩⟩, Or.inr ⟨sOOB, hp, by decide⟩⟩
  · refine x_i2lW C dL_at_7 ?_
    exact x_out (tgt := 15) C hr hM (Or.inl ⟨rfl, z, σ1, hp, rfl⟩) dL_at_8 dL_at_9 (by decide) dL_at_15 dL_at_16
def hL_from : List (Nat × Nat × Nat × Nat) := [(0, 9, 12, 19)]
theorem wc_L_from : Cond.codeWith yL_from cL_from 4 (some .int) hL_from ∈ WA := wa_t 906 (by decide +kernel) rfl
theorem c_L_from (l : Launch) (D : va_G) (ad : Nat → Nat) (G : Nat → Nat) (σ : Sg) (sa : Nat → Nat) {h' : Nat} {a : Int} {postz : Int → Sg → Prop} {px : String → Sg → Prop} (hc : VME l yX11_from cX11_from 2 (some .int) h' [.ref (ad 0), .int (iI a)] D ad G IL σ sa (QI D ad G IL postz) px) (hpx : ∀ (E : String) (τ : Sg), px E τ → E = sOOB) : WME l yL_from cL_from 4 hL_from (h' + 1) [.ref (ad 0), .int (iI a), .ref (ad 240)] D ad G IL σ sa (wpost postz px cd1) := by
  refine x_enterWr (by decide) (Nat.le_of_ble_eq_true rfl) ?_
  intro pp ee ss mm args below meth cq C htab hNC hTX hTZ hr ls hl hM
  have hl : lv_has ls 4 [(0, .ref (ad 0)), (1, .int (iI a)), (2, .ref (ad 240))] := hl
  refine lv_aload_n C.1 C.2.1 dL_from_0 rfl (lv_at hl 2 rfl) ?_
  refine lv_iconst C.1 C.2.1 (v := iI 0) dL_from_1 rfl ?_
  refine lv_aload_n C.1 C.2.1 dL_from_2 rfl (lv_at hl 0 rfl) ?_
  refine lv_iload_n C.1 C.2.1 dL_from_3 rfl (lv_at hl 1 rfl) ?_
  refine x_tryV (As := [.int (iI a)]) (rest := [.int (iI 0), .ref (ad 240)]) C hr htab hTX hTZ hM hl cw_RL_43 hc rfl rfl rfl (Nat.le_of_ble_eq_true rfl) dL_from_4 (fun E τ hp => ?_) (fun z σ1 H1 locs1 hp hM => ?_)
  · have hq := hpx E τ hp
    rcases hq with rfl
    · exact ⟨1, by decide, ⟨[], ⟨0, 9, 12, 19⟩, [], rfl, fun z hz => absurd hz List.not_mem_nil, by decide, by decide, kl_19, List.mem_of_getElem? (i := 1) rfl, Or.inl ⟨3, by decide, dL_from_12, dL_from_13, dL_from_14⟩⟩, Or.inr ⟨sOOB, hp, by decide⟩⟩
  · refine x_i2lW C dL_from_7 ?_
    exact x_out (tgt := 15) C hr hM (Or.inl ⟨rfl, z, σ1, hp, rfl⟩) dL_from_8 dL_from_9 (by decide) dL_from_15 dL_from_16
def hL_to : List (Nat × Nat × Nat × Nat) := [(0, 9, 12, 19)]
theorem wc_L_to : Cond.codeWith yL_to cL_to 4 (some .int) hL_to ∈ WA := wa_t 913 (by decide +kernel) rfl
theorem c_L_to (l : Launch) (D : va_G) (ad : Nat → Nat) (G : Nat → Nat) (σ : Sg) (sa : Nat → Nat) {h' : Nat} {a : Int} {postz : Int → Sg → Prop} {px : String → Sg → Prop} (hc : VME l yX11_to cX11_to 2 (some .int) h' [.ref (ad 0), .int (iI a)] D ad G IL σ sa (QI D ad G IL postz) px) (hpx : ∀ (E : String) (τ : Sg), px E τ → E = sOOB) : WME l yL_to cL_to 4 hL_to (h' + 1) [.ref (ad 0), .int (iI a), .ref (ad 240)] D ad G IL σ sa (wpost postz px cd1) := by
  refine x_enterWr (by decide) (Nat.le_of_ble_eq_true rfl) ?_
  intro pp ee ss mm args below meth cq C htab hNC hTX hTZ hr ls hl hM
  have hl : lv_has ls 4 [(0, .ref (ad 0)), (1, .int (iI a)), (2, .ref (ad 240))] := hl
  refine lv_aload_n C.1 C.2.1 dL_to_0 rfl (lv_at hl 2 rfl) ?_
  refine lv_iconst C.1 C.2.1 (v := iI 0) dL_to_1 rfl ?_
  refine lv_aload_n C.1 C.2.1 dL_to_2 rfl (lv_at hl 0 rfl) ?_
  refine lv_iload_n C.1 C.2.1 dL_to_3 rfl (lv_at hl 1 rfl) ?_
  refine x_tryV (As := [.int (iI a)]) (rest := [.int (iI 0), .ref (ad 240)]) C hr htab hTX hTZ hM hl cw_RL_46 hc rfl rfl rfl (Nat.le_of_ble_eq_true rfl) dL_to_4 (fun E τ hp => ?_) (fun z σ1 H1 locs1 hp hM => ?_)
  · have hq := hpx E τ hp
    rcases hq with rfl
    · exact ⟨1, by decide, ⟨[], ⟨0, 9, 12, 19⟩, [], rfl, fun z hz => absurd hz List.not_mem_nil, by decide, by decide, kl_19, List.mem_of_getElem? (i := 1) rfl, Or.inl ⟨3, by decide, dL_to_12, dL_to_13, dL_to_14⟩⟩, Or.inr ⟨sOOB, hp, by decide⟩⟩
  · refine x_i2lW C dL_to_7 ?_
    exact x_out (tgt := 15) C hr hM (Or.inl ⟨rfl, z, σ1, hp, rfl⟩) dL_to_8 dL_to_9 (by decide) dL_to_15 dL_to_16
def hL_takes : List (Nat × Nat × Nat × Nat) := [(0, 16, 19, 19)]
theorem wc_L_takes : Cond.codeWith yL_takes cL_takes 4 (some .int) hL_takes ∈ WA := wa_t 920 (by decide +kernel) rfl
theorem c_L_takes (l : Launch) (D : va_G) (ad : Nat → Nat) (G : Nat → Nat) (σ : Sg) (sa : Nat → Nat) {h' : Nat} {a : Int} {postz : Int → Sg → Prop} {px : String → Sg → Prop} (hc : VME l yX11_takes cX11_takes 2 (some .boolean) h' [.ref (ad 0), .int (iI a)] D ad G IL σ sa (QI D ad G IL postz) px) (hpx : ∀ (E : String) (τ : Sg), px E τ → E = sOOB) (hz : ∀ (z : Int) (τ : Sg), postz z τ → z = 0 ∨ z = 1) : WME l yL_takes cL_takes 4 hL_takes (h' + 1) [.ref (ad 0), .int (iI a), .ref (ad 240)] D ad G IL σ sa (wpost postz px cd1) := by
  refine x_enterWr (by decide) (Nat.le_of_ble_eq_true rfl) ?_
  intro pp ee ss mm args below meth cq C htab hNC hTX hTZ hr ls hl hM
  have hl : lv_has ls 4 [(0, .ref (ad 0)), (1, .int (iI a)), (2, .ref (ad 240))] := hl
  refine lv_aload_n C.1 C.2.1 dL_takes_0 rfl (lv_at hl 2 rfl) ?_
  refine lv_iconst C.1 C.2.1 (v := iI 0) dL_takes_1 rfl ?_
  refine lv_aload_n C.1 C.2.1 dL_takes_2 rfl (lv_at hl 0 rfl) ?_
  refine lv_iload_n C.1 C.2.1 dL_takes_3 rfl (lv_at hl 1 rfl) ?_
  refine x_tryV (As := [.int (iI a)]) (rest := [.int (iI 0), .ref (ad 240)]) C hr htab hTX hTZ hM hl cw_RL_49 hc rfl rfl rfl (Nat.le_of_ble_eq_true rfl) dL_takes_4 (fun E τ hp => ?_) (fun z σ1 H1 locs1 hp hM => ?_)
  · have hq := hpx E τ hp
    rcases hq with rfl
    · exact ⟨1, by decide, ⟨[], ⟨0, 16, 19, 19⟩, [], rfl, fun z hz => absurd hz List.not_mem_nil, by decide, by decide, kl_19, List.mem_of_getElem? (i := 1) rfl, Or.inl ⟨3, by decide, dL_takes_19, dL_takes_20, dL_takes_21⟩⟩, Or.inr ⟨sOOB, hp, by decide⟩⟩
  · have hz9 := hz z σ1 hp
    have hwz : wI z = z := wI_of ⟨by omega, by omega⟩
    have fin : W pp l ee (rma (h' + 1) 1 6) ss mm args below meth cq H1 locs1 1 6 (MQ below (QI D ad G IL (wpost postz px cd1) ss.heap.size) args ss 1 6 (AN ad IL ss.heap.size)) (F0 mm 15 ls [.long (jI z), .int (iI 0), .ref (ad 240)]) := x_out (tgt := 22) C hr hM (Or.inl ⟨rfl, z, σ1, hp, by rw [hwz]⟩) dL_takes_15 dL_takes_16 (by decide) dL_takes_22 dL_takes_23
    refine x_if_eq C ⟨by omega, by omega⟩ (tgt := 14) dL_takes_7 (by decide) (fun c7 => ?_) (fun c7 => ?_)
    · refine lv_lconst (v := jI 0) C.1 C.2.1 dL_takes_14 (by decide) ?_
      have e : z = 0 := by omega
      rw [e] at fin
      exact fin
    · refine lv_lconst (v := jI 1) C.1 C.2.1 dL_takes_10 (by decide) ?_
      refine lv_goto C.1 C.2.1 (tgt := 15) dL_takes_11 (by decide) ?_
      have e : z = 1 := by omega
      rw [e] at fin
      exact fin
def hL_ways : List (Nat × Nat × Nat × Nat) := [(0, 9, 12, 13)]
theorem wc_L_ways : Cond.codeWith yL_ways cL_ways 4 (some .int) hL_ways ∈ WA := wa_t 928 (by decide +kernel) rfl
theorem c_L_ways (l : Launch) (D : va_G) (ad : Nat → Nat) (G : Nat → Nat) (σ : Sg) (sa : Nat → Nat) {h' : Nat} {a : Int} {postz : Int → Sg → Prop} {px : String → Sg → Prop} (hc : VME l yX11_ways cX11_ways 2 (some .int) h' [.ref (ad 0), .int (iI a)] D ad G IL σ sa (QI D ad G IL postz) px) (hpx : ∀ (E : String) (τ : Sg), px E τ → E = sIAE) : WME l yL_ways cL_ways 4 hL_ways (h' + 1) [.ref (ad 0), .int (iI a), .ref (ad 240)] D ad G IL σ sa (wpost postz px cd1) := by
  refine x_enterWr (by decide) (Nat.le_of_ble_eq_true rfl) ?_
  intro pp ee ss mm args below meth cq C htab hNC hTX hTZ hr ls hl hM
  have hl : lv_has ls 4 [(0, .ref (ad 0)), (1, .int (iI a)), (2, .ref (ad 240))] := hl
  refine lv_aload_n C.1 C.2.1 dL_ways_0 rfl (lv_at hl 2 rfl) ?_
  refine lv_iconst C.1 C.2.1 (v := iI 0) dL_ways_1 rfl ?_
  refine lv_aload_n C.1 C.2.1 dL_ways_2 rfl (lv_at hl 0 rfl) ?_
  refine lv_iload_n C.1 C.2.1 dL_ways_3 rfl (lv_at hl 1 rfl) ?_
  refine x_tryV (As := [.int (iI a)]) (rest := [.int (iI 0), .ref (ad 240)]) C hr htab hTX hTZ hM hl cw_RL_53 hc rfl rfl rfl (Nat.le_of_ble_eq_true rfl) dL_ways_4 (fun E τ hp => ?_) (fun z σ1 H1 locs1 hp hM => ?_)
  · have hq := hpx E τ hp
    rcases hq with rfl
    · exact ⟨1, by decide, ⟨[], ⟨0, 9, 12, 13⟩, [], rfl, fun z hz => absurd hz List.not_mem_nil, by decide, by decide, kl_13, List.mem_of_getElem? (i := 0) rfl, Or.inl ⟨3, by decide, dL_ways_12, dL_ways_13, dL_ways_14⟩⟩, Or.inr ⟨sIAE, hp, by decide⟩⟩
  · refine x_i2lW C dL_ways_7 ?_
    exact x_out (tgt := 15) C hr hM (Or.inl ⟨rfl, z, σ1, hp, rfl⟩) dL_ways_8 dL_ways_9 (by decide) dL_ways_15 dL_ways_16
def hL_value : List (Nat × Nat × Nat × Nat) := [(0, 9, 12, 13)]
theorem wc_L_value : Cond.codeWith yL_value cL_value 4 (some .int) hL_value ∈ WA := wa_t 936 (by decide +kernel) rfl
theorem c_L_value (l : Launch) (D : va_G) (ad : Nat → Nat) (G : Nat → Nat) (σ : Sg) (sa : Nat → Nat) {h' : Nat} {a : Int} {postz : Int → Sg → Prop} {px : String → Sg → Prop} (hc : VME l yX11_value cX11_value 2 (some .int) h' [.ref (ad 0), .int (iI a)] D ad G IL σ sa (QI D ad G IL postz) px) (hpx : ∀ (E : String) (τ : Sg), px E τ → E = sIAE) : WME l yL_value cL_value 4 hL_value (h' + 1) [.ref (ad 0), .int (iI a), .ref (ad 240)] D ad G IL σ sa (wpost postz px cd1) := by
  refine x_enterWr (by decide) (Nat.le_of_ble_eq_true rfl) ?_
  intro pp ee ss mm args below meth cq C htab hNC hTX hTZ hr ls hl hM
  have hl : lv_has ls 4 [(0, .ref (ad 0)), (1, .int (iI a)), (2, .ref (ad 240))] := hl
  refine lv_aload_n C.1 C.2.1 dL_value_0 rfl (lv_at hl 2 rfl) ?_
  refine lv_iconst C.1 C.2.1 (v := iI 0) dL_value_1 rfl ?_
  refine lv_aload_n C.1 C.2.1 dL_value_2 rfl (lv_at hl 0 rfl) ?_
  refine lv_iload_n C.1 C.2.1 dL_value_3 rfl (lv_at hl 1 rfl) ?_
  refine x_tryV (As := [.int (iI a)]) (rest := [.int (iI 0), .ref (ad 240)]) C hr htab hTX hTZ hM hl cw_RL_56 hc rfl rfl rfl (Nat.le_of_ble_eq_true rfl) dL_value_4 (fun E τ hp => ?_) (fun z σ1 H1 locs1 hp hM => ?_)
  · have hq := hpx E τ hp
    rcases hq with rfl
    · exact ⟨1, by decide, ⟨[], ⟨0, 9, 12, 13⟩, [], rfl, fun z hz => absurd hz List.not_mem_nil, by decide, by decide, kl_13, List.mem_of_getElem? (i := 0) rfl, Or.inl ⟨3, by decide, dL_value_12, dL_value_13, dL_value_14⟩⟩, Or.inr ⟨sIAE, hp, by decide⟩⟩
  · refine x_i2lW C dL_value_7 ?_
    exact x_out (tgt := 15) C hr hM (Or.inl ⟨rfl, z, σ1, hp, rfl⟩) dL_value_8 dL_value_9 (by decide) dL_value_15 dL_value_16
def hL_valueOf : List (Nat × Nat × Nat × Nat) := [(0, 10, 13, 19), (0, 10, 17, 13)]
theorem wc_L_valueOf : Cond.codeWith yL_valueOf cL_valueOf 5 (some .int) hL_valueOf ∈ WA := wa_t 943 (by decide +kernel) rfl
theorem c_L_valueOf (l : Launch) (D : va_G) (ad : Nat → Nat) (G : Nat → Nat) (σ : Sg) (sa : Nat → Nat) {h' : Nat} {a b : Int} {postz : Int → Sg → Prop} {px : String → Sg → Prop} (hc : VME l yX11_valueOf cX11_valueOf 3 (some .int) h' [.ref (ad 0), .int (iI a), .int (iI b)] D ad G IL σ sa (QI D ad G IL postz) px) (hpx : ∀ (E : String) (τ : Sg), px E τ → E = sOOB ∨ E = sIAE) : WME l yL_valueOf cL_valueOf 5 hL_valueOf (h' + 1) [.ref (ad 0), .int (iI a), .int (iI b), .ref (ad 240)] D ad G IL σ sa (wpost postz px cdP) := by
  refine x_enterWr (by decide) (Nat.le_of_ble_eq_true rfl) ?_
  intro pp ee ss mm args below meth cq C htab hNC hTX hTZ hr ls hl hM
  have hl : lv_has ls 5 [(0, .ref (ad 0)), (1, .int (iI a)), (2, .int (iI b)), (3, .ref (ad 240))] := hl
  refine lv_aload_n C.1 C.2.1 dL_valueOf_0 rfl (lv_at hl 3 rfl) ?_
  refine lv_iconst C.1 C.2.1 (v := iI 0) dL_valueOf_1 rfl ?_
  refine lv_aload_n C.1 C.2.1 dL_valueOf_2 rfl (lv_at hl 0 rfl) ?_
  refine lv_iload_n C.1 C.2.1 dL_valueOf_3 rfl (lv_at hl 1 rfl) ?_
  refine lv_iload_n C.1 C.2.1 dL_valueOf_4 rfl (lv_at hl 2 rfl) ?_
  refine x_tryV (As := [.int (iI a), .int (iI b)]) (rest := [.int (iI 0), .ref (ad 240)]) C hr htab hTX hTZ hM hl cw_RL_59 hc rfl rfl rfl (Nat.le_of_ble_eq_true rfl) dL_valueOf_5 (fun E τ hp => ?_) (fun z σ1 H1 locs1 hp hM => ?_)
  · have hq := hpx E τ hp
    rcases hq with rfl | rfl
    · exact ⟨1, by decide, ⟨[], ⟨0, 10, 13, 19⟩, [⟨0, 10, 17, 13⟩], rfl, fun z hz => absurd hz List.not_mem_nil, by decide, by decide, kl_19, List.mem_of_getElem? (i := 1) rfl, Or.inr ⟨4, by decide, dL_valueOf_13, dL_valueOf_15, dL_valueOf_16⟩⟩, Or.inr ⟨sOOB, hp, by decide⟩⟩
    · exact ⟨2, by decide, ⟨[⟨0, 10, 13, 19⟩], ⟨0, 10, 17, 13⟩, [], rfl, List.forall_mem_cons.mpr ⟨⟨by decide, sOOB, kl_19, hNC.1⟩, fun z hz => absurd hz List.not_mem_nil⟩, by decide, by decide, kl_13, List.mem_of_getElem? (i := 0) rfl, Or.inr ⟨4, by decide, dL_valueOf_17, dL_valueOf_19, dL_valueOf_20⟩⟩, Or.inr ⟨sIAE, hp, by decide⟩⟩
  · refine x_i2lW C dL_valueOf_8 ?_
    exact x_out (tgt := 21) C hr hM (Or.inl ⟨rfl, z, σ1, hp, rfl⟩) dL_valueOf_9 dL_valueOf_10 (by decide) dL_valueOf_21 dL_valueOf_22
def hL_search : List (Nat × Nat × Nat × Nat) := [(0, 9, 12, 13), (0, 9, 15, 21)]
theorem wc_L_search : Cond.codeWith yL_search cL_search 4 (some .int) hL_search ∈ WA := wa_t 952 (by decide +kernel) rfl
theorem c_L_search (l : Launch) (D : va_G) (ad : Nat → Nat) (G : Nat → Nat) (σ : Sg) (sa : Nat → Nat) {h' : Nat} {a : Int} {postz : Int → Sg → Prop} {px : String → Sg → Prop} (hc : VME l yX11_search cX11_search 2 (some .int) h' [.ref (ad 0), .int (iI a)] D ad G IL σ sa (QI D ad G IL postz) px) (hpx : ∀ (E : String) (τ : Sg), px E τ → E = sIAE ∨ E = sISE) : WME l yL_search cL_search 4 hL_search (h' + 1) [.ref (ad 0), .int (iI a), .ref (ad 240)] D ad G IL σ sa (wpost postz px cdS) := by
  refine x_enterWr (by decide) (Nat.le_of_ble_eq_true rfl) ?_
  intro pp ee ss mm args below meth cq C htab hNC hTX hTZ hr ls hl hM
  have hl : lv_has ls 4 [(0, .ref (ad 0)), (1, .int (iI a)), (2, .ref (ad 240))] := hl
  refine lv_aload_n C.1 C.2.1 dL_search_0 rfl (lv_at hl 2 rfl) ?_
  refine lv_iconst C.1 C.2.1 (v := iI 0) dL_search_1 rfl ?_
  refine lv_aload_n C.1 C.2.1 dL_search_2 rfl (lv_at hl 0 rfl) ?_
  refine lv_iload_n C.1 C.2.1 dL_search_3 rfl (lv_at hl 1 rfl) ?_
  refine x_tryV (As := [.int (iI a)]) (rest := [.int (iI 0), .ref (ad 240)]) C hr htab hTX hTZ hM hl cw_RL_62 hc rfl rfl rfl (Nat.le_of_ble_eq_true rfl) dL_search_4 (fun E τ hp => ?_) (fun z σ1 H1 locs1 hp hM => ?_)
  · have hq := hpx E τ hp
    rcases hq with rfl | rfl
    · exact ⟨1, by decide, ⟨[], ⟨0, 9, 12, 13⟩, [⟨0, 9, 15, 21⟩], rfl, fun z hz => absurd hz List.not_mem_nil, by decide, by decide, kl_13, List.mem_of_getElem? (i := 0) rfl, Or.inl ⟨3, by decide, dL_search_12, dL_search_13, dL_search_14⟩⟩, Or.inr ⟨sIAE, hp, by decide⟩⟩
    · exact ⟨2, by decide, ⟨[⟨0, 9, 12, 13⟩], ⟨0, 9, 15, 21⟩, [], rfl, List.forall_mem_cons.mpr ⟨⟨by decide, sIAE, kl_13, hNC.2.2⟩, fun z hz => absurd hz List.not_mem_nil⟩, by decide, by decide, kl_21, List.mem_of_getElem? (i := 2) rfl, Or.inl ⟨3, by decide, dL_search_15, dL_search_16, dL_search_17⟩⟩, Or.inr ⟨sISE, hp, by decide⟩⟩
  · refine x_i2lW C dL_search_7 ?_
    exact x_out (tgt := 18) C hr hM (Or.inl ⟨rfl, z, σ1, hp, rfl⟩) dL_search_8 dL_search_9 (by decide) dL_search_18 dL_search_19
def hL_ofSlot : List (Nat × Nat × Nat × Nat) := [(0, 10, 13, 19), (0, 10, 17, 13)]
theorem wc_L_ofSlot : Cond.codeWith yL_ofSlot cL_ofSlot 5 (some .int) hL_ofSlot ∈ WA := wa_t 1034 (by decide +kernel) rfl
theorem c_L_ofSlot (l : Launch) (D : va_G) (ad : Nat → Nat) (G : Nat → Nat) (σ : Sg) (sa : Nat → Nat) {h' : Nat} {a b : Int} {postz : Int → Sg → Prop} {px : String → Sg → Prop} (hc : VME l yX11_ofSlot cX11_ofSlot 3 (some .int) h' [.ref (ad 0), .int (iI a), .int (iI b)] D ad G IL σ sa (QI D ad G IL postz) px) (hpx : ∀ (E : String) (τ : Sg), px E τ → E = sOOB ∨ E = sIAE) : WME l yL_ofSlot cL_ofSlot 5 hL_ofSlot (h' + 1) [.ref (ad 0), .int (iI a), .int (iI b), .ref (ad 240)] D ad G IL σ sa (wpost postz px cdP) := by
  refine x_enterWr (by decide) (Nat.le_of_ble_eq_true rfl) ?_
  intro pp ee ss mm args below meth cq C htab hNC hTX hTZ hr ls hl hM
  have hl : lv_has ls 5 [(0, .ref (ad 0)), (1, .int (iI a)), (2, .int (iI b)), (3, .ref (ad 240))] := hl
  refine lv_aload_n C.1 C.2.1 dL_ofSlot_0 rfl (lv_at hl 3 rfl) ?_
  refine lv_iconst C.1 C.2.1 (v := iI 0) dL_ofSlot_1 rfl ?_
  refine lv_aload_n C.1 C.2.1 dL_ofSlot_2 rfl (lv_at hl 0 rfl) ?_
  refine lv_iload_n C.1 C.2.1 dL_ofSlot_3 rfl (lv_at hl 1 rfl) ?_
  refine lv_iload_n C.1 C.2.1 dL_ofSlot_4 rfl (lv_at hl 2 rfl) ?_
  refine x_tryV (As := [.int (iI a), .int (iI b)]) (rest := [.int (iI 0), .ref (ad 240)]) C hr htab hTX hTZ hM hl cw_RL_65 hc rfl rfl rfl (Nat.le_of_ble_eq_true rfl) dL_ofSlot_5 (fun E τ hp => ?_) (fun z σ1 H1 locs1 hp hM => ?_)
  · have hq := hpx E τ hp
    rcases hq with rfl | rfl
    · exact ⟨1, by decide, ⟨[], ⟨0, 10, 13, 19⟩, [⟨0, 10, 17, 13⟩], rfl, fun z hz => absurd hz List.not_mem_nil, by decide, by decide, kl_19, List.mem_of_getElem? (i := 1) rfl, Or.inr ⟨4, by decide, dL_ofSlot_13, dL_ofSlot_15, dL_ofSlot_16⟩⟩, Or.inr ⟨sOOB, hp, by decide⟩⟩
    · exact ⟨2, by decide, ⟨[⟨0, 10, 13, 19⟩], ⟨0, 10, 17, 13⟩, [], rfl, List.forall_mem_cons.mpr ⟨⟨by decide, sOOB, kl_19, hNC.1⟩, fun z hz => absurd hz List.not_mem_nil⟩, by decide, by decide, kl_13, List.mem_of_getElem? (i := 0) rfl, Or.inr ⟨4, by decide, dL_ofSlot_17, dL_ofSlot_19, dL_ofSlot_20⟩⟩, Or.inr ⟨sIAE, hp, by decide⟩⟩
  · refine x_i2lW C dL_ofSlot_8 ?_
    exact x_out (tgt := 21) C hr hM (Or.inl ⟨rfl, z, σ1, hp, rfl⟩) dL_ofSlot_9 dL_ofSlot_10 (by decide) dL_ofSlot_21 dL_ofSlot_22
def hL_teach : List (Nat × Nat × Nat × Nat) := [(0, 10, 13, 19), (0, 10, 17, 13), (0, 10, 21, 21)]
theorem wc_L_teach : Cond.codeWith yL_teach cL_teach 5 (some .int) hL_teach ∈ WA := wa_t 1044 (by decide +kernel) rfl
theorem c_L_teach (l : Launch) (D : va_G) (ad : Nat → Nat) (G : Nat → Nat) (σ : Sg) (sa : Nat → Nat) {h' : Nat} {a b : Int} {postz : Int → Sg → Prop} {px : String → Sg → Prop} (hc : VME l yX11_teach cX11_teach 6 (some .int) h' [.ref (ad 0), .int (iI a), .int (iI b)] D ad G IL σ sa (QI D ad G IL postz) px) (hpx : ∀ (E : String) (τ : Sg), px E τ → E = sOOB ∨ E = sIAE ∨ E = sISE) : WME l yL_teach cL_teach 5 hL_teach (h' + 1) [.ref (ad 0), .int (iI a), .int (iI b), .ref (ad 240)] D ad G IL σ sa (wpost postz px cdP) := by
  refine x_enterWr (by decide) (Nat.le_of_ble_eq_true rfl) ?_
  intro pp ee ss mm args below meth cq C htab hNC hTX hTZ hr ls hl hM
  have hl : lv_has ls 5 [(0, .ref (ad 0)), (1, .int (iI a)), (2, .int (iI b)), (3, .ref (ad 240))] := hl
  refine lv_aload_n C.1 C.2.1 dL_teach_0 rfl (lv_at hl 3 rfl) ?_
  refine lv_iconst C.1 C.2.1 (v := iI 0) dL_teach_1 rfl ?_
  refine lv_aload_n C.1 C.2.1 dL_teach_2 rfl (lv_at hl 0 rfl) ?_
  refine lv_iload_n C.1 C.2.1 dL_teach_3 rfl (lv_at hl 1 rfl) ?_
  refine lv_iload_n C.1 C.2.1 dL_teach_4 rfl (lv_at hl 2 rfl) ?_
  refine x_tryV (As := [.int (iI a), .int (iI b)]) (rest := [.int (iI 0), .ref (ad 240)]) C hr htab hTX hTZ hM hl cw_RL_68 hc rfl rfl rfl (Nat.le_of_ble_eq_true rfl) dL_teach_5 (fun E τ hp => ?_) (fun z σ1 H1 locs1 hp hM => ?_)
  · have hq := hpx E τ hp
    rcases hq with rfl | rfl | rfl
    · exact ⟨1, by decide, ⟨[], ⟨0, 10, 13, 19⟩, [⟨0, 10, 17, 13⟩, ⟨0, 10, 21, 21⟩], rfl, fun z hz => absurd hz List.not_mem_nil, by decide, by decide, kl_19, List.mem_of_getElem? (i := 1) rfl, Or.inr ⟨4, by decide, dL_teach_13, dL_teach_15, dL_teach_16⟩⟩, Or.inr ⟨sOOB, hp, by decide⟩⟩
    · exact ⟨2, by decide, ⟨[⟨0, 10, 13, 19⟩], ⟨0, 10, 17, 13⟩, [⟨0, 10, 21, 21⟩], rfl, List.forall_mem_cons.mpr ⟨⟨by decide, sOOB, kl_19, hNC.1⟩, fun z hz => absurd hz List.not_mem_nil⟩, by decide, by decide, kl_13, List.mem_of_getElem? (i := 0) rfl, Or.inr ⟨4, by decide, dL_teach_17, dL_teach_19, dL_teach_20⟩⟩, Or.inr ⟨sIAE, hp, by decide⟩⟩
    · exact ⟨3, by decide, ⟨[⟨0, 10, 13, 19⟩, ⟨0, 10, 17, 13⟩], ⟨0, 10, 21, 21⟩, [], rfl, List.forall_mem_cons.mpr ⟨⟨by decide, sOOB, kl_19, hNC.2.1⟩, List.forall_mem_cons.mpr ⟨⟨by decide, sIAE, kl_13, hNC.2.2⟩, fun z hz => absurd hz List.not_mem_nil⟩⟩, by decide, by decide, kl_21, List.mem_of_getElem? (i := 2) rfl, Or.inr ⟨4, by decide, dL_teach_21, dL_teach_23, dL_teach_24⟩⟩, Or.inr ⟨sISE, hp, by decide⟩⟩
  · refine x_i2lW C dL_teach_8 ?_
    exact x_out (tgt := 25) C hr hM (Or.inl ⟨rfl, z, σ1, hp, rfl⟩) dL_teach_9 dL_teach_10 (by decide) dL_teach_25 dL_teach_26
def hL_go : List (Nat × Nat × Nat × Nat) := [(0, 9, 12, 13), (0, 9, 15, 21)]
theorem wc_L_go : Cond.codeWith yL_go cL_go 4 (some .int) hL_go ∈ WA := wa_t 1063 (by decide +kernel) rfl
theorem c_L_go (l : Launch) (D : va_G) (ad : Nat → Nat) (G : Nat → Nat) (σ : Sg) (sa : Nat → Nat) {h' : Nat} {a : Int} {postz : Int → Sg → Prop} {px : String → Sg → Prop} (hc : VME l yX11_go cX11_go 2 (some .int) h' [.ref (ad 0), .int (iI a)] D ad G IL σ sa (QI D ad G IL postz) px) (hpx : ∀ (E : String) (τ : Sg), px E τ → E = sIAE ∨ E = sISE) : WME l yL_go cL_go 4 hL_go (h' + 1) [.ref (ad 0), .int (iI a), .ref (ad 240)] D ad G IL σ sa (wpost postz px cdS) := by
  refine x_enterWr (by decide) (Nat.le_of_ble_eq_true rfl) ?_
  intro pp ee ss mm args below meth cq C htab hNC hTX hTZ hr ls hl hM
  have hl : lv_has ls 4 [(0, .ref (ad 0)), (1, .int (iI a)), (2, .ref (ad 240))] := hl
  refine lv_aload_n C.1 C.2.1 dL_go_0 rfl (lv_at hl 2 rfl) ?_
  refine lv_iconst C.1 C.2.1 (v := iI 0) dL_go_1 rfl ?_
  refine lv_aload_n C.1 C.2.1 dL_go_2 rfl (lv_at hl 0 rfl) ?_
  refine lv_iload_n C.1 C.2.1 dL_go_3 rfl (lv_at hl 1 rfl) ?_
  refine x_tryV (As := [.int (iI a)]) (rest := [.int (iI 0), .ref (ad 240)]) C hr htab hTX hTZ hM hl cw_RL_71 hc rfl rfl rfl (Nat.le_of_ble_eq_true rfl) dL_go_4 (fun E τ hp => ?_) (fun z σ1 H1 locs1 hp hM => ?_)
  · have hq := hpx E τ hp
    rcases hq with rfl | rfl
    · exact ⟨1, by decide, ⟨[], ⟨0, 9, 12, 13⟩, [⟨0, 9, 15, 21⟩], rfl, fun z hz => absurd hz List.not_mem_nil, by decide, by decide, kl_13, List.mem_of_getElem? (i := 0) rfl, Or.inl ⟨3, by decide, dL_go_12, dL_go_13, dL_go_14⟩⟩, Or.inr ⟨sIAE, hp, by decide⟩⟩
    · exact ⟨2, by decide, ⟨[⟨0, 9, 12, 13⟩], ⟨0, 9, 15, 21⟩, [], rfl, List.forall_mem_cons.mpr ⟨⟨by decide, sIAE, kl_13, hNC.2.2⟩, fun z hz => absurd hz List.not_mem_nil⟩, by decide, by decide, kl_21, List.mem_of_getElem? (i := 2) rfl, Or.inl ⟨3, by decide, dL_go_15, dL_go_16, dL_go_17⟩⟩, Or.inr ⟨sISE, hp, by decide⟩⟩
  · refine x_i2lW C dL_go_7 ?_
    exact x_out (tgt := 18) C hr hM (Or.inl ⟨rfl, z, σ1, hp, rfl⟩) dL_go_8 dL_go_9 (by decide) dL_go_18 dL_go_19
def hL_playOut : List (Nat × Nat × Nat × Nat) := [(0, 10, 13, 13)]
theorem wc_L_playOut : Cond.codeWith yL_playOut cL_playOut 5 (some .int) hL_playOut ∈ WA := wa_t 1075 (by decide +kernel) rfl
theorem c_L_playOut (l : Launch) (D : va_G) (ad : Nat → Nat) (G : Nat → Nat) (σ : Sg) (sa : Nat → Nat) {h' : Nat} {a b : Int} {postz : Int → Sg → Prop} {px : String → Sg → Prop} (hc : VME l yX11_playOut cX11_playOut 4 (some .int) h' [.ref (ad 0), .int (iI a), .int (iI b)] D ad G IL σ sa (QI D ad G IL postz) px) (hpx : ∀ (E : String) (τ : Sg), px E τ → E = sIAE) : WME l yL_playOut cL_playOut 5 hL_playOut (h' + 1) [.ref (ad 0), .int (iI a), .int (iI b), .ref (ad 240)] D ad G IL σ sa (wpost postz px cd1) := by
  refine x_enterWr (by decide) (Nat.le_of_ble_eq_true rfl) ?_
  intro pp ee ss mm args below meth cq C htab hNC hTX hTZ hr ls hl hM
  have hl : lv_has ls 5 [(0, .ref (ad 0)), (1, .int (iI a)), (2, .int (iI b)), (3, .ref (ad 240))] := hl
  refine lv_aload_n C.1 C.2.1 dL_playOut_0 rfl (lv_at hl 3 rfl) ?_
  refine lv_iconst C.1 C.2.1 (v := iI 0) dL_playOut_1 rfl ?_
  refine lv_aload_n C.1 C.2.1 dL_playOut_2 rfl (lv_at hl 0 rfl) ?_
  refine lv_iload_n C.1 C.2.1 dL_playOut_3 rfl (lv_at hl 1 rfl) ?_
  refine lv_iload_n C.1 C.2.1 dL_playOut_4 rfl (lv_at hl 2 rfl) ?_
  refine x_tryV (As := [.int (iI a), .int (iI b)]) (rest := [.int (iI 0), .ref (ad 240)]) C hr htab hTX hTZ hM hl cw_RL_74 hc rfl rfl rfl (Nat.le_of_ble_eq_true rfl) dL_playOut_5 (fun E τ hp => ?_) (fun z σ1 H1 locs1 hp hM => ?_)
  · have hq := hpx E τ hp
    rcases hq with rfl
    · exact ⟨1, by decide, ⟨[], ⟨0, 10, 13, 13⟩, [], rfl, fun z hz => absurd hz List.not_mem_nil, by decide, by decide, kl_13, List.mem_of_getElem? (i := 0) rfl, Or.inr ⟨4, by decide, dL_playOut_13, dL_playOut_15, dL_playOut_16⟩⟩, Or.inr ⟨sIAE, hp, by decide⟩⟩
  · refine x_i2lW C dL_playOut_8 ?_
    exact x_out (tgt := 17) C hr hM (Or.inl ⟨rfl, z, σ1, hp, rfl⟩) dL_playOut_9 dL_playOut_10 (by decide) dL_playOut_17 dL_playOut_18
