section XW
variable {p : Program} {l : Launch} {e : Env} {R : Room} {s : State} {m : MethodId} {args : Array Value} {below : List Frame} {meth : Method} {c : Code} {H : Heap} {locs : List Loc} {cells slots : Nat} {Q : State → Prop}
variable {cc : ByteArray} {nL : Nat} {own : String} {D : va_G} {G : Nat → Nat} {pc : Nat} {ls : Array Slot} {rest : List Value}
/-- an int's number, as it is kept -/
def wI (n : Int) : Int := (iI n).toInt
theorem x_i2lW (C : Cx p s m meth c args cc nL own D G) {a : Int} (hdg : decode cc pc = .ok (.i2l, 1)) (kk : W p l e R s m args below meth c H locs cells slots Q (F0 m (pc + 1) ls (.long (jI (wI a)) :: rest))) : W p l e R s m args below meth c H locs cells slots Q (F0 m pc ls (.int (iI a) :: rest)) := by
  have h1 : iI (wI a) = iI a := Int32.ofInt_toInt _
  have h2 := Int32.le_toInt (iI a)
  have h3 := Int32.toInt_lt (iI a)
  rw [← h1]
  exact x_i2l C (a := wI a) ⟨by unfold wI; omega, by unfold wI; omega⟩ hdg kk
end XW
/-! the digest -/
def dgF (f : Fn) : Nat → Int → Int
  | 0, d => d
  | n + 1, d => dgF f n d * 31 + f (n : Int)
theorem dgF_s (f : Fn) {i : Int} (h : 0 ≤ i) (d : Int) : dgF f (i + 1).toNat d = dgF f i.toNat d * 31 + f i := by
  rw [toNat_s h]
  show dgF f i.toNat d * 31 + f ((i.toNat : Nat) : Int) = _
  rw [Int.toNat_of_nonneg h]
def dgM (L : List Int) : Nat → Int → Int
  | 0, d => d
  | n + 1, d => (dgM L n d * 31 + wI (L.getD n (-1) / 100)) * 31 + wI (L.getD n (-1) % 100)
theorem dgM_s (L : List Int) {i : Int} (h : 0 ≤ i) (d : Int) : dgM L (i + 1).toNat d = (dgM L i.toNat d * 31 + wI (L.getD i.toNat (-1) / 100)) * 31 + wI (L.getD i.toNat (-1) % 100) := by
  rw [toNat_s h]; rfl
def dgK (k : Int → Int → Int) : Nat → Int → Int
  | 0, d => d
  | n + 1, d => dgF (k ((n : Int) + 1)) 2 (dgK k n d)
theorem dgK_s (k : Int → Int → Int) {i : Int} (h : 1 ≤ i) (d : Int) : dgK k (i + 1 - 1).toNat d = dgF (k i) 2 (dgK k (i - 1).toNat d) := by
  rw [show (i + 1 - 1).toNat = (i - 1).toNat + 1 by omega]
  show dgF (k (((i - 1).toNat : Nat) + 1 : Int)) 2 _ = _
  rw [show (((i - 1).toNat : Nat) : Int) + 1 = i by omega]
def dgT (t : Int → Int → Int) : Nat → Int → Int
  | 0, d => d
  | n + 1, d => dgF (t (n : Int)) 4 (dgT t n d)
theorem dgT_s (t : Int → Int → Int) {i : Int} (h : 0 ≤ i) (d : Int) : dgT t (i + 1).toNat d = dgF (t i) 4 (dgT t i.toNat d) := by
  rw [toNat_s h]
  show dgF (t ((i.toNat : Nat) : Int)) 4 _ = _
  rw [Int.toNat_of_nonneg h]
theorem dgF_ext {f g : Fn} : ∀ (n : Nat) (d : Int), (∀ i : Int, 0 ≤ i → i < n → f i = g i) → dgF f n d = dgF g n d
  | 0, _, _ => rfl
  | n + 1, d, h => by
    show dgF f n d * 31 + f (n : Int) = dgF g n d * 31 + g (n : Int)
    rw [dgF_ext n d (fun i a b => h i a (by omega)), h (n : Int) (by omega) (by omega)]
abbrev MLg (S : Sg) : List Int := MLs (S 1) (S 2 0) (S 3 0) (S 4 0)
def knF (S : Sg) : Int := if fndT S (keyS (cfg S) (S 1) (S 4 0)) = -1 then 0 else S 11 (fndT S (keyS (cfg S) (S 1) (S 4 0)))
def tlF (S : Sg) : Int := chF (wtF S (keyS (cfg S) (S 1) (S 4 0))) (MLg S) 0 (-1) 0
def kiF (S : Sg) (re d o : Int) : Int := wI (if 0 < re then kilF S d o else -1)
def teF (S : Sg) (s k : Int) : Int := wI (tellF S s k)
def dg1 (S : Sg) : Int := dgF (fun i => wI (S 1 i)) (S 2 0 * S 3 0).toNat ((58036 * 31 + wI (S 2 0)) * 31 + wI (S 3 0))
def dg2 (S : Sg) (d : Int) : Int := ((((d * 31 + wI (S 4 0)) * 31 + wI (S 30 0)) * 31 + (if MLg S = [] then 1 else 0)) * 31 + keyS (cfg S) (S 1) (S 4 0)) * 31 + wI (evS (cfg S) (S 1) (S 4 0))
def dg3 (S : Sg) (d : Int) : Int := dgM (MLg S) (MLg S).length (d * 31 + wI (MLg S).length)
def dg4 (S : Sg) (d : Int) : Int := (d * 31 + wI (waysF (cfg S) 2 (S 1) (S 4 0))) * 31 + wI (vv (cfg S) 1 (S 1) (S 4 0))
def dg5 (S : Sg) (re no be d : Int) : Int := (((((d * 31 + wI (if be = -1 then -1 else be / 100)) * 31 + wI (if be = -1 then -1 else be % 100)) * 31 + wI re) * 31 + wI no) * 31 + wI (S 22 0)) * 31 + wI (S 23 0)
def dg6 (S : Sg) (re d : Int) : Int := dgK (kiF S re) 4 d
def dg7 (S : Sg) (d : Int) : Int := dgT (teF S) (S 9 0).toNat ((d * 31 + wI (S 9 0)) * 31 + wI (cntE (S 11) 64))
def dg8 (S : Sg) (d : Int) : Int := ((d * 31 + wI (knF S)) * 31 + wI (tlF S)) * 31 + wI (S 27 0)
def digF (S : Sg) (re no be : Int) : Int := dg8 S (dg7 S (dg6 S re (dg5 S re no be (dg4 S (dg3 S (dg2 S (dg1 S)))))))
/-- equal but the sum and the rows of moves -/
def EQD (a b : Sg) : Prop := ∀ r : Nat, r ≠ 233 → (r < 240 ∨ 267 ≤ r) → a r = b r
theorem EQD.mw {a b : Sg} (h : EQD a b) {r : Nat} (hr : r < 33) : mw a r = mw b r := h (200 + r) (by omega) (by omega)
theorem kiF_of {a b : Sg} (h : ∀ r : Nat, r < 32 → r ≠ 15 → a r = b r) (re : Int) : kiF a re = kiF b re := by
  funext d o
  unfold kiF kilF
  rw [h 17 (by decide) (by decide), h 18 (by decide) (by decide)]
theorem teF_of {a b : Sg} (h : ∀ r : Nat, r < 32 → r ≠ 15 → a r = b r) : teF a = teF b := by
  funext s k
  unfold teF tellF
  rw [h 11 (by decide) (by decide), h 12 (by decide) (by decide), h 13 (by decide) (by decide), h 14 (by decide) (by decide)]
theorem knF_of {a b : Sg} (h : ∀ r : Nat, r < 32 → r ≠ 15 → a r = b r) : knF a = knF b := by
  unfold knF fndT
  rw [cfg_of (a := b) (b := a) (fun r hr => h r (by omega) (by omega)), h 1 (by decide) (by decide), h 4 (by decide) (by decide), h 9 (by decide) (by decide), h 10 (by decide) (by decide), h 11 (by decide) (by decide)]
theorem tlF_of {a b : Sg} (h : ∀ r : Nat, r < 32 → r ≠ 15 → a r = b r) : tlF a = tlF b := by
  unfold tlF MLg
  rw [cfg_of (a := b) (b := a) (fun r hr => h r (by omega) (by omega)), h 1 (by decide) (by decide), h 2 (by decide) (by decide), h 3 (by decide) (by decide), h 4 (by decide) (by decide), wtF_of (h 24 (by decide) (by decide)) (h 25 (by decide) (by decide)) (h 26 (by decide) (by decide)) (h 27 (by decide) (by decide))]
theorem EQD.add {a b T : Sg} {x : Int} (h : EQD a b) (e : upr a 233 (ups (a 233) 0 x) = T) : EQD T b := fun r h1 h2 => by rw [← e, upr_ne _ _ h1]; exact h r h1 h2
theorem add_d {a T : Sg} {x y D : Int} (e : upr a 233 (ups (a 233) 0 (a 233 0 * 31 + x)) = T) (hd : a 233 0 = D) (hx : x = y) : T 233 0 = D * 31 + y := by rw [← e, upr_eq, ups_eq, hd, hx]
set_option maxRecDepth 100000 in
set_option maxHeartbeats 4000000 in
theorem c_X12_digest (l : Launch) (D : va_G) (ad : Nat → Nat) (G : Nat → Nat) (ids : List Nat) (hJ : ∀ k, 100 ≤ k → k < 233 → k ∈ ids) (σ : Sg)  (hG : GI (mw σ)) (hT : TI (mw σ)) (hBK : BKI (mw σ)) (hb : -1 ≤ σ 231 0 ∧ σ 231 0 < 2500) (hr20 : IR (σ 220 0)) : MEA l yX12_digest cX12_digest 8 (some .long) 21 2 13 [.ref (ad 100)] D ad G ids σ (QL D ad G ids (fun z σ' => digF (mw σ) (σ 220 0) (σ 221 0) (σ 231 0) = z ∧ EQD σ' (th σ 0))) := by
  have hB : BG (mw σ) := hG.1
  have w1 : 3 ≤ σ 202 0 := hB.1
  have w2 : σ 202 0 ≤ 5 := hB.2.1
  have h1 : 3 ≤ σ 203 0 := hB.2.2.1
  have h2 : σ 203 0 ≤ 5 := hB.2.2.2
  have wb := wh_bd w1 w2 h1 h2
  have hC : BC (σ 201) := hG.2.1
  have hs : σ 204 0 = 0 ∨ σ 204 0 = 1 := hG.2.2.1
  have h18 : (MLs (σ 201) (σ 202 0) (σ 203 0) (σ 204 0)).length ≤ 18 := MLs18 hG
  have hMB : ∀ v, v ∈ (MLs (σ 201) (σ 202 0) (σ 203 0) (σ 204 0)) → 0 ≤ v ∧ v < 2500 := MLsMB hG
  have hsl9 : 0 ≤ σ 209 0 ∧ σ 209 0 ≤ 64 := hT.1
  refine x_enterA (by decide) (Nat.le_of_ble_eq_true rfl) ?_
  intro pp ee ss mm args below meth cq C hr ls hl hM
  have hM := hM.e
  have hl : lv_has ls 8 [(0, .ref (ad 100))] := hl
  refine lv_aload_n C.1 C.2.1 dX12_digest_0 rfl (lv_at hl 0 rfl) ?_
  refine lv_iconst (v := iI 0) C.1 C.2.1 dX12_digest_1 (by decide) ?_
  refine p_X12_0 C hM.x (hJ 100 (by decide) (by decide)) wf_X12_64 dX12_digest_2 (fun H1 lc1 hM => ?_)
  have hM := hM.e
  refine lv_aload_n C.1 C.2.1 dX12_digest_5 rfl (lv_at hl 0 rfl) ?_
  refine lv_ldc2 C.1 C.2.1 C.2.2.2.1 (C.2.2.2.2.1 _ wk_X12_262) dX12_digest_6 ?_
  refine p_X12_25 C hM.x (hJ 100 (by decide) (by decide)) wf_X12_256 dX12_digest_9 (fun H1 lc1 hM => ?_)
  have hM := hM.e
  obtain ⟨s12, hs12⟩ : ∃ sx_ : Sg, sx_ = upr (upr σ 232 (ups (σ 232) 0 0)) 233 (ups ((upr σ 232 (ups (σ 232) 0 0)) 233) 0 58036) := ⟨_, rfl⟩
  rw [← hs12] at hM
  have fs12 : EQD s12 (th σ 0) := fun r h1 _ => by rw [hs12, upr_ne _ _ h1]; rfl
  have ds12 : s12 233 0 = 58036 := by rw [hs12, upr_eq, ups_eq]
  refine lv_aload_n C.1 C.2.1 dX12_digest_12 rfl (lv_at hl 0 rfl) ?_
  refine lv_aload_n C.1 C.2.1 dX12_digest_13 rfl (lv_at hl 0 rfl) ?_
  refine g_X12_1 C hM.x (hJ 100 (by decide) (by decide)) wf_X12_67 dX12_digest_14 ?_
  refine x_i2lW C dX12_digest_17 ?_
  refine x_cvA (fun q h => Or.inr h) (x_runVA (As := [.long (jI (wI (s12 202 0)))]) (rest := []) C (⟨by show _ ≤ (21 : Nat); omega, by show _ ≤ (40 * 21 : Nat); omega⟩) cw_X12_264 (MET.toA (c_X12_add l D ad G ids hJ s12 (wI (s12 202 0)))) hM.x (hJ 100 (by decide) (by decide)) (cx_100 ad G _) rfl rfl rfl rfl (Nat.le_of_ble_eq_true rfl) hl.1 dX12_digest_18 ⟨Nat.le_of_ble_eq_true rfl, Nat.le_of_ble_eq_true rfl⟩) hM (fun s18 H1 lc1 hp hM => ?_)
  obtain _ := hp
  have fs18 : EQD s18 (th σ 0) := fs12.add hp
  have ds18 : s18 233 0 = 58036 * 31 + (wI (σ 202 0)) := add_d hp ds12 (congrArg wI (congrFun (fs12 202 (by decide) (by decide)) 0))
  have gs18 : s18 240 = s12 240 := by rw [← hp]; exact upr_ne _ _ (by decide)
  refine lv_aload_n C.1 C.2.1 dX12_digest_21 rfl (lv_at hl 0 rfl) ?_
  refine lv_aload_n C.1 C.2.1 dX12_digest_22 rfl (lv_at hl 0 rfl) ?_
  refine g_X12_2 C hM.x (hJ 100 (by decide) (by decide)) wf_X12_70 dX12_digest_23 ?_
  refine x_i2lW C dX12_digest_26 ?_
  refine x_cvA (fun q h => Or.inr h) (x_runVA (As := [.long (jI (wI (s18 203 0)))]) (rest := []) C (⟨by show _ ≤ (21 : Nat); omega, by show _ ≤ (40 * 21 : Nat); omega⟩) cw_X12_264 (MET.toA (c_X12_add l D ad G ids hJ s18 (wI (s18 203 0)))) hM.x (hJ 100 (by decide) (by decide)) (cx_100 ad G _) rfl rfl rfl rfl (Nat.le_of_ble_eq_true rfl) hl.1 dX12_digest_27 ⟨Nat.le_of_ble_eq_true rfl, Nat.le_of_ble_eq_true rfl⟩) hM (fun s27 H1 lc1 hp hM => ?_)
  obtain _ := hp
  have fs27 : EQD s27 (th σ 0) := fs18.add hp
  have ds27 : s27 233 0 = (58036 * 31 + (wI (σ 202 0))) * 31 + (wI (σ 203 0)) := add_d hp ds18 (congrArg wI (congrFun (fs18 203 (by decide) (by decide)) 0))
  have gs27 : s27 240 = s18 240 := by rw [← hp]; exact upr_ne _ _ (by decide)
  refine lv_iconst (v := iI 0) C.1 C.2.1 dX12_digest_30 (by decide) ?_
  refine lv_istore_n (lv' := [(1, .int (iI 0)), (0, .ref (ad 100))]) C.1 C.2.1 dX12_digest_31 rfl hl (by decide) rfl (fun ls hl => ?_)
  have L32 : ∀ (fu : Nat) (i : Int) (s1 : Sg) (H1 : Heap) (lc1 : List Loc) (ls1 : Array Slot), (0 ≤ i ∧ i ≤ (σ 202 0 * σ 203 0)) → (EQD s1 (th σ 0)) → (s1 233 0 = dgF (fun i => wI (σ 201 i)) i.toNat ((58036 * 31 + wI (σ 202 0)) * 31 + wI (σ 203 0))) → (40 - i).toNat < fu → XE D ad G ids (AN ad ids ss.heap.size) ss.heap H1 lc1 s1 [] → lv_has ls1 8 [(1, .int (iI i)), (0, .ref (ad 100))] → W pp l ee (rma 21 2 13) ss mm args below meth cq H1 lc1 0 0 (MQ below (QL D ad G ids (fun z σ' => digF (mw σ) (σ 220 0) (σ 221 0) (σ 231 0) = z ∧ EQD σ' (th σ 0)) ss.heap.size) args ss 2 13 (AN ad ids ss.heap.size)) (F0 mm 32 ls1 []) := by
    intro fu
    induction fu with
    | zero => intro i s1 H1 lc1 ls1 i0 fs1 ds1 hfu; exact absurd hfu (Nat.not_lt_zero _)
    | succ fu ih32 =>
      intro i s1 H1 lc1 ls1 i0 fs1 ds1 hfu hM hl
      refine lv_iload_n C.1 C.2.1 dX12_digest_32 rfl (lv_at hl 0 rfl) ?_
      have hGs : GI (mw s1) := GIm_of hG (fun r _ _ => (fs1 r (by omega) (by omega)).trans (th_o (by omega)))
      have hTs : TI (mw s1) := hT.of (fun r hr => (fs1 (200 + r) (by omega) (by omega)).trans (th_o (by omega)))
      have hcs : cfg (mw s1) = cfg (mw σ) := cfg_of (fun r hr => (fs1 (200 + r) (by omega) (by omega)).trans (th_o (by omega)))
      have k1 : s1 201 = σ 201 := fs1 201 (by decide) (by decide)
      have k2 : s1 202 = σ 202 := fs1 202 (by decide) (by decide)
      have k3 : s1 203 = σ 203 := fs1 203 (by decide) (by decide)
      have k4 : s1 204 = σ 204 := fs1 204 (by decide) (by decide)
      have hwh : s1 202 0 * s1 203 0 = σ 202 0 * σ 203 0 := by rw [k2, k3]
      have hal : ∀ r : Nat, r < 32 → mw s1 r = mw σ r := fun r hr => (fs1.mw (by omega)).trans (th_o (by omega))
      refine lv_iconst (v := iI 1) C.1 C.2.1 dX12_digest_33 (by decide) ?_
      refine x_iadd C dX12_digest_34 ?_
      refine lv_aload_n C.1 C.2.1 dX12_digest_35 rfl (lv_at hl 1 rfl) ?_
      refine g_X12_3 C hM.x (hJ 100 (by decide) (by decide)) wf_X12_73 dX12_digest_36 ?_
      refine ln_now C hM.x (hJ 101 (by decide) (by decide)) (wh := (σ 202 0 * σ 203 0)) hwh (by omega) dX12_digest_39 ?_
      refine x_icmp_ge C ⟨by omega, by omega⟩ ⟨by omega, by omega⟩ (tgt := 60) dX12_digest_40 (by decide) (fun c40 => ?_) (fun c40 => ?_)
      · have hix : i = (σ 202 0 * σ 203 0) := by omega
        have ds1 : s1 233 0 = dg1 (mw σ) := by rw [ds1, hix]; rfl
        refine lv_iconst (v := iI 5) C.1 C.2.1 dX12_digest_60 (by decide) ?_
        have hGs : GI (mw s1) := GIm_of hG (fun r _ _ => (fs1 r (by omega) (by omega)).trans (th_o (by omega)))
        have hTs : TI (mw s1) := hT.of (fun r hr => (fs1 (200 + r) (by omega) (by omega)).trans (th_o (by omega)))
        have hcs : cfg (mw s1) = cfg (mw σ) := cfg_of (fun r hr => (fs1 (200 + r) (by omega) (by omega)).trans (th_o (by omega)))
        have k1 : s1 201 = σ 201 := fs1 201 (by decide) (by decide)
        have k2 : s1 202 = σ 202 := fs1 202 (by decide) (by decide)
        have k3 : s1 203 = σ 203 := fs1 203 (by decide) (by decide)
        have k4 : s1 204 = σ 204 := fs1 204 (by decide) (by decide)
        have hwh : s1 202 0 * s1 203 0 = σ 202 0 * σ 203 0 := by rw [k2, k3]
        have hal : ∀ r : Nat, r < 32 → mw s1 r = mw σ r := fun r hr => (fs1.mw (by omega)).trans (th_o (by omega))
        have k30 : s1 230 0 = σ 230 0 := congrFun (fs1 230 (by decide) (by decide)) 0
        refine x_newJ C (fun q h => Or.inr h) hM 5 rfl (by decide) (Nat.le_of_ble_eq_true rfl) (Nat.le_of_ble_eq_true rfl) dX12_digest_61 (fun q61 H1 hM => ?_)
        refine lv_dup C.1 C.2.1 dX12_digest_63 rfl ?_
        refine lv_iconst (v := iI 0) C.1 C.2.1 dX12_digest_64 (by decide) ?_
        refine lv_aload_n C.1 C.2.1 dX12_digest_65 rfl (lv_at hl 1 rfl) ?_
        refine x_ciA (fun q h => Or.inr h) (x_runVA (As := []) (rest := [.int (iI 0), .ref q61, .ref q61]) C (⟨by show _ ≤ (21 : Nat); omega, by show _ ≤ (40 * 21 : Nat); omega⟩) cw_X12_94 (MET.toA (c_X12_sideNow l D ad G ids hJ s1 hGs.1)) hM.x (hJ 100 (by decide) (by decide)) (cx_100 ad G _) rfl rfl rfl rfl (Nat.le_of_ble_eq_true rfl) hl.1 dX12_digest_66 ⟨Nat.le_of_ble_eq_true rfl, Nat.le_of_ble_eq_true rfl⟩) hM (fun r66 s66 H1 lc1 hp hM => ?_)
        obtain ⟨rfl, rfl⟩ := hp
        refine x_i2lW C dX12_digest_69 ?_
        refine e_last C hM (by omega) (by omega) (by omega) dX12_digest_70 (fun H1 lc1 hM => ?_)
        refine lv_dup C.1 C.2.1 dX12_digest_71 rfl ?_
        refine lv_iconst (v := iI 1) C.1 C.2.1 dX12_digest_72 (by decide) ?_
        refine lv_aload_n C.1 C.2.1 dX12_digest_73 rfl (lv_at hl 1 rfl) ?_
        refine g_X12_5 C hM.x (hJ 100 (by decide) (by decide)) wf_X12_76 dX12_digest_74 ?_
        refine x_i2lW C dX12_digest_77 ?_
        refine e_last C hM (by omega) (by omega) (by omega) dX12_digest_78 (fun H1 lc1 hM => ?_)
        refine lv_dup C.1 C.2.1 dX12_digest_79 rfl ?_
        refine lv_iconst (v := iI 2) C.1 C.2.1 dX12_digest_80 (by decide) ?_
        refine lv_aload_n C.1 C.2.1 dX12_digest_81 rfl (lv_at hl 1 rfl) ?_
        refine x_ciA (fun q h => Or.inr h) (x_runVA (As := []) (rest := [.int (iI 2), .ref q61, .ref q61]) C (⟨by show _ ≤ (21 : Nat); omega, by show _ ≤ (40 * 21 : Nat); omega⟩) cw_X12_104 (MET.toA (c_X12_isLostNow l D ad G ids hJ s1 hGs)) hM.x (hJ 100 (by decide) (by decide)) (cx_100 ad G _) rfl rfl rfl rfl (Nat.le_of_ble_eq_true rfl) hl.1 dX12_digest_82 ⟨Nat.le_of_ble_eq_true rfl, Nat.le_of_ble_eq_true rfl⟩) hM (fun r82 s82 H1 lc1 hp hM => ?_)
        obtain ⟨hbs82, rfl⟩ := hp
        have hbs82 : (if (MLs (σ 201) (σ 202 0) (σ 203 0) (σ 204 0)) = [] then (1 : Int) else 0) = r82 := by
          rw [k1, k2, k3, k4] at hbs82; exact hbs82
        obtain ⟨ts82, ks82⟩ := ite01 hbs82
        have J93 : ∀ (b : Int) (H1 : Heap) (lc1 : List Loc) (ls1 : Array Slot), (b = if (MLs (σ 201) (σ 202 0) (σ 203 0) (σ 204 0)) = [] then 1 else 0) → XE D ad G ids (AN ad ids ss.heap.size) ss.heap H1 lc1 s1 [(q61, .inl (G 1, 5, .inr (.inl (fJ (ups (ups (fun _ => 0) 0 (wI (s1 204 0))) 1 (wI (s1 230 0)))))))] → lv_has ls1 8 [(1, .int (iI i)), (0, .ref (ad 100))] → W pp l ee (rma 21 2 13) ss mm args below meth cq H1 lc1 1 5 (MQ below (QL D ad G ids (fun z σ' => digF (mw σ) (σ 220 0) (σ 221 0) (σ 231 0) = z ∧ EQD σ' (th σ 0)) ss.heap.size) args ss 2 13 (AN ad ids ss.heap.size)) (F0 mm 93 ls1 [.long (jI b), .int (iI 2), .ref q61, .ref q61]) := by
          intro b H1 lc1 ls1 hb hM hl
          refine e_last C hM (by omega) (by omega) (by omega) dX12_digest_93 (fun H1 lc1 hM => ?_)
          refine lv_dup C.1 C.2.1 dX12_digest_94 rfl ?_
          refine lv_iconst (v := iI 3) C.1 C.2.1 dX12_digest_95 (by decide) ?_
          refine lv_aload_n C.1 C.2.1 dX12_digest_96 rfl (lv_at hl 1 rfl) ?_
          refine x_clA (fun q h => Or.inr h) (x_runVA (As := []) (rest := [.int (iI 3), .ref q61, .ref q61]) C (⟨by show _ ≤ (21 : Nat); omega, by show _ ≤ (40 * 21 : Nat); omega⟩) cw_X12_157 (MET.toA (c_X12_keyNow l D ad G ids hJ s1 hGs.1 hGs.2.1 (by rw [k4]; unfold IR; omega))) hM.x (hJ 100 (by decide) (by decide)) (cx_100 ad G _) rfl rfl rfl rfl (Nat.le_of_ble_eq_true rfl) hl.1 dX12_digest_97 ⟨Nat.le_of_ble_eq_true rfl, Nat.le_of_ble_eq_true rfl⟩) hM (fun r97 s97 H1 lc1 hp hM => ?_)
          obtain ⟨rfl, rfl⟩ := hp
          have hke : keyF (s1 201) (s1 202 0 * s1 203 0).toNat * 2 + s1 204 0 = (keyS (cfg (mw σ)) (σ 201) (σ 204 0)) := by rw [k1, k2, k3, k4]; rfl
          rw [hke]
          refine e_last C hM (by omega) (by omega) (by omega) dX12_digest_100 (fun H1 lc1 hM => ?_)
          refine lv_dup C.1 C.2.1 dX12_digest_101 rfl ?_
          refine lv_iconst (v := iI 4) C.1 C.2.1 dX12_digest_102 (by decide) ?_
          refine lv_aload_n C.1 C.2.1 dX12_digest_103 rfl (lv_at hl 1 rfl) ?_
          refine x_ciA (fun q h => Or.inr h) (x_runVA (As := []) (rest := [.int (iI 4), .ref q61, .ref q61]) C (⟨by show _ ≤ (21 : Nat); omega, by show _ ≤ (40 * 21 : Nat); omega⟩) cw_X12_120 (MET.toA (c_X12_evaluated l D ad G ids hJ s1 hGs)) hM.x (hJ 100 (by decide) (by decide)) (cx_100 ad G _) rfl rfl rfl rfl (Nat.le_of_ble_eq_true rfl) hl.1 dX12_digest_104 ⟨Nat.le_of_ble_eq_true rfl, Nat.le_of_ble_eq_true rfl⟩) hM (fun r104 s104 H1 lc1 hp hM => ?_)
          obtain ⟨rfl, rfl⟩ := hp
          rw [hcs, k1, k4]
          refine x_i2lW C dX12_digest_107 ?_
          refine e_last C hM (by omega) (by omega) (by omega) dX12_digest_108 (fun H1 lc1 hM => ?_)
          obtain ⟨t1, ht1⟩ : ∃ t : Fn, t = ups (ups (ups (ups (ups (fun _ => 0) 0 (wI (s1 204 0))) 1 (wI (s1 230 0))) 2 b) 3 (keyS (cfg (mw σ)) (σ 201) (σ 204 0))) 4 (wI (evS (cfg (mw σ)) (σ 201) (σ 204 0))) := ⟨_, rfl⟩
          rw [← ht1] at hM
          refine lv_astore_n (lv' := [(1, .ref q61), (0, .ref (ad 100))]) C.1 C.2.1 dX12_digest_109 rfl hl (by decide) rfl (fun ls hl => ?_)
          refine lv_aload_n C.1 C.2.1 dX12_digest_110 rfl (lv_at hl 0 rfl) ?_
          refine lv_astore_n (lv' := [(2, .ref q61), (1, .ref q61), (0, .ref (ad 100))]) C.1 C.2.1 dX12_digest_111 rfl hl (by decide) rfl (fun ls hl => ?_)
          refine lv_aload_n C.1 C.2.1 dX12_digest_112 rfl (lv_at hl 0 rfl) ?_
          refine e_len C (Or.inr rfl) hM (n := 5) rfl dX12_digest_113 ?_
          refine lv_istore_n (lv' := [(3, .int (iI 5)), (2, .ref q61), (1, .ref q61), (0, .ref (ad 100))]) C.1 C.2.1 dX12_digest_114 rfl hl (by decide) rfl (fun ls hl => ?_)
          refine lv_iconst (v := iI 0) C.1 C.2.1 dX12_digest_115 (by decide) ?_
          refine lv_istore (lv' := [(4, .int (iI 0)), (3, .int (iI 5)), (2, .ref q61), (1, .ref q61), (0, .ref (ad 100))]) C.1 C.2.1 dX12_digest_116 hl (by decide) rfl (fun ls hl => ?_)
          have L118 : ∀ (fu : Nat) (j : Int) (s2 : Sg) (H1 : Heap) (lc1 : List Loc) (ls1 : Array Slot), (0 ≤ j ∧ j ≤ 5) → (EQD s2 (th σ 0)) → (s2 233 0 = dgF t1 j.toNat (dg1 (mw σ))) → (40 - j).toNat < fu → XE D ad G ids (AN ad ids ss.heap.size) ss.heap H1 lc1 s2 [(q61, .inl (G 1, 5, .inr (.inl (fJ t1))))] → lv_has ls1 8 [(4, .int (iI j)), (3, .int (iI 5)), (2, .ref q61), (1, .ref q61), (0, .ref (ad 100))] → W pp l ee (rma 21 2 13) ss mm args below meth cq H1 lc1 1 5 (MQ below (QL D ad G ids (fun z σ' => digF (mw σ) (σ 220 0) (σ 221 0) (σ 231 0) = z ∧ EQD σ' (th σ 0)) ss.heap.size) args ss 2 13 (AN ad ids ss.heap.size)) (F0 mm 118 ls1 []) := by
            intro fu
            induction fu with
            | zero => intro j s2 H1 lc1 ls1 j0 fs2 ds2 hfu; exact absurd hfu (Nat.not_lt_zero _)
            | succ fu ih118 =>
              intro j s2 H1 lc1 ls1 j0 fs2 ds2 hfu hM hl
              refine lv_iload C.1 C.2.1 dX12_digest_118 (lv_at hl 0 rfl) ?_
              refine lv_iload_n C.1 C.2.1 dX12_digest_120 rfl (lv_at hl 1 rfl) ?_
              refine x_icmp_ge C ⟨by omega, by omega⟩ ⟨by omega, by omega⟩ (tgt := 142) dX12_digest_121 (by decide) (fun c121 => ?_) (fun c121 => ?_)
              · have hj5 : j = 5 := by omega
                have ds2 : s2 233 0 = dg2 (mw σ) (dg1 (mw σ)) := by
                  rw [ds2, hj5, ht1, hb, k4, k30]
                  rfl
                have hGs : GI (mw s2) := GIm_of hG (fun r _ _ => (fs2 r (by omega) (by omega)).trans (th_o (by omega)))
                have hTs : TI (mw s2) := hT.of (fun r hr => (fs2 (200 + r) (by omega) (by omega)).trans (th_o (by omega)))
                have hcs : cfg (mw s2) = cfg (mw σ) := cfg_of (fun r hr => (fs2 (200 + r) (by omega) (by omega)).trans (th_o (by omega)))
                have k1 : s2 201 = σ 201 := fs2 201 (by decide) (by decide)
                have k2 : s2 202 = σ 202 := fs2 202 (by decide) (by decide)
                have k3 : s2 203 = σ 203 := fs2 203 (by decide) (by decide)
                have k4 : s2 204 = σ 204 := fs2 204 (by decide) (by decide)
                have hwh : s2 202 0 * s2 203 0 = σ 202 0 * σ 203 0 := by rw [k2, k3]
                have hal : ∀ r : Nat, r < 32 → mw s2 r = mw σ r := fun r hr => (fs2.mw (by omega)).trans (th_o (by omega))
                refine lv_aload_n C.1 C.2.1 dX12_digest_142 rfl (lv_at hl 4 rfl) ?_
                refine lv_iconst (v := iI 0) C.1 C.2.1 dX12_digest_143 (by decide) ?_
                refine x_ciA (fun q h => Or.inr h) (x_runVA (As := [.int (iI 0)]) (rest := []) C (⟨by show _ ≤ (21 : Nat); omega, by show _ ≤ (40 * 21 : Nat); omega⟩) cw_X12_123 (MET.toA (c_X12_list l D ad G ids hJ s2 0 0 rfl (by decide) hGs)) hM.x (hJ 100 (by decide) (by decide)) (cx_100 ad G _) rfl rfl rfl rfl (Nat.le_of_ble_eq_true rfl) hl.1 dX12_digest_144 ⟨Nat.le_of_ble_eq_true rfl, Nat.le_of_ble_eq_true rfl⟩) hM (fun r144 s144 H1 lc1 hp hM => ?_)
                obtain ⟨rfl, hLs144, hfs144⟩ := hp
                have hL144 : RWL s144 240 (MLs (σ 201) (σ 202 0) (σ 203 0) (σ 204 0)) := by rw [k1, k2, k3, k4] at hLs144; exact hLs144
                rw [k1, k2, k3, k4]
                have fs144 : EQD s144 (th σ 0) := fun r h1 h2 => (hfs144 r (by omega)).trans (fs2 r h1 h2)
                have ds144 : s144 233 0 = dg2 (mw σ) (dg1 (mw σ)) := (congrFun (hfs144 233 (by decide)) 0).trans ds2
                refine lv_istore_n (lv' := [(2, .int (iI ((MLs (σ 201) (σ 202 0) (σ 203 0) (σ 204 0)).length : Int))), (4, .int (iI j)), (3, .int (iI 5)), (1, .ref q61), (0, .ref (ad 100))]) C.1 C.2.1 dX12_digest_147 rfl hl (by decide) rfl (fun ls hl => ?_)
                refine lv_aload_n C.1 C.2.1 dX12_digest_148 rfl (lv_at hl 4 rfl) ?_
                refine lv_iload_n C.1 C.2.1 dX12_digest_149 rfl (lv_at hl 0 rfl) ?_
                refine x_i2lW C dX12_digest_150 ?_
                refine x_cvA (fun q h => Or.inr h) (x_runVA (As := [.long (jI (wI ((MLs (σ 201) (σ 202 0) (σ 203 0) (σ 204 0)).length : Int)))]) (rest := []) C (⟨by show _ ≤ (21 : Nat); omega, by show _ ≤ (40 * 21 : Nat); omega⟩) cw_X12_264 (MET.toA (c_X12_add l D ad G ids hJ s144 (wI ((MLs (σ 201) (σ 202 0) (σ 203 0) (σ 204 0)).length : Int)))) hM.x (hJ 100 (by decide) (by decide)) (cx_100 ad G _) rfl rfl rfl rfl (Nat.le_of_ble_eq_true rfl) hl.1 dX12_digest_151 ⟨Nat.le_of_ble_eq_true rfl, Nat.le_of_ble_eq_true rfl⟩) hM (fun s151 H1 lc1 hp hM => ?_)
                obtain _ := hp
                have fs151 : EQD s151 (th σ 0) := fs144.add hp
                have ds151 : s151 233 0 = (dg2 (mw σ) (dg1 (mw σ))) * 31 + (wI ((MLs (σ 201) (σ 202 0) (σ 203 0) (σ 204 0)).length : Int)) := add_d hp ds144 rfl
                have gs151 : s151 240 = s144 240 := by rw [← hp]; exact upr_ne _ _ (by decide)
                refine lv_iconst (v := iI 0) C.1 C.2.1 dX12_digest_154 (by decide) ?_
                refine lv_istore_n (lv' := [(3, .int (iI 0)), (2, .int (iI ((MLs (σ 201) (σ 202 0) (σ 203 0) (σ 204 0)).length : Int))), (4, .int (iI j)), (1, .ref q61), (0, .ref (ad 100))]) C.1 C.2.1 dX12_digest_155 rfl hl (by decide) rfl (fun ls hl => ?_)
                have L156 : ∀ (fu : Nat) (m : Int) (s3 : Sg) (H1 : Heap) (lc1 : List Loc) (ls1 : Array Slot), (0 ≤ m ∧ m ≤ (MLs (σ 201) (σ 202 0) (σ 203 0) (σ 204 0)).length) → (EQD s3 (th σ 0)) → (s3 233 0 = dgM (MLs (σ 201) (σ 202 0) (σ 203 0) (σ 204 0)) m.toNat ((dg2 (mw σ) (dg1 (mw σ))) * 31 + wI (MLs (σ 201) (σ 202 0) (σ 203 0) (σ 204 0)).length)) → (RWL s3 240 (MLs (σ 201) (σ 202 0) (σ 203 0) (σ 204 0))) → (40 - m).toNat < fu → XE D ad G ids (AN ad ids ss.heap.size) ss.heap H1 lc1 s3 [(q61, .inl (G 1, 5, .inr (.inl (fJ t1))))] → lv_has ls1 8 [(3, .int (iI m)), (2, .int (iI ((MLs (σ 201) (σ 202 0) (σ 203 0) (σ 204 0)).length : Int))), (4, .int (iI j)), (1, .ref q61), (0, .ref (ad 100))] → W pp l ee (rma 21 2 13) ss mm args below meth cq H1 lc1 1 5 (MQ below (QL D ad G ids (fun z σ' => digF (mw σ) (σ 220 0) (σ 221 0) (σ 231 0) = z ∧ EQD σ' (th σ 0)) ss.heap.size) args ss 2 13 (AN ad ids ss.heap.size)) (F0 mm 156 ls1 []) := by
                  intro fu
                  induction fu with
                  | zero => intro m s3 H1 lc1 ls1 m0 fs3 ds3 hL3 hfu; exact absurd hfu (Nat.not_lt_zero _)
                  | succ fu ih156 =>
                    intro m s3 H1 lc1 ls1 m0 fs3 ds3 hL3 hfu hM hl
                    refine lv_iload_n C.1 C.2.1 dX12_digest_156 rfl (lv_at hl 0 rfl) ?_
                    refine lv_iload_n C.1 C.2.1 dX12_digest_157 rfl (lv_at hl 1 rfl) ?_
                    refine x_icmp_ge C ⟨by omega, by omega⟩ ⟨by omega, by omega⟩ (tgt := 199) dX12_digest_158 (by decide) (fun c158 => ?_) (fun c158 => ?_)
                    · have hml : m = (MLs (σ 201) (σ 202 0) (σ 203 0) (σ 204 0)).length := by omega
                      have ds3 : s3 233 0 = dg3 (mw σ) (dg2 (mw σ) (dg1 (mw σ))) := by rw [ds3, hml]; rfl
                      have hGs : GI (mw s3) := GIm_of hG (fun r _ _ => (fs3 r (by omega) (by omega)).trans (th_o (by omega)))
                      have hTs : TI (mw s3) := hT.of (fun r hr => (fs3 (200 + r) (by omega) (by omega)).trans (th_o (by omega)))
                      have hcs : cfg (mw s3) = cfg (mw σ) := cfg_of (fun r hr => (fs3 (200 + r) (by omega) (by omega)).trans (th_o (by omega)))
                      have k1 : s3 201 = σ 201 := fs3 201 (by decide) (by decide)
                      have k2 : s3 202 = σ 202 := fs3 202 (by decide) (by decide)
                      have k3 : s3 203 = σ 203 := fs3 203 (by decide) (by decide)
                      have k4 : s3 204 = σ 204 := fs3 204 (by decide) (by decide)
                      have hwh : s3 202 0 * s3 203 0 = σ 202 0 * σ 203 0 := by rw [k2, k3]
                      have hal : ∀ r : Nat, r < 32 → mw s3 r = mw σ r := fun r hr => (fs3.mw (by omega)).trans (th_o (by omega))
                      refine lv_bipush (v := iI 8) C.1 C.2.1 dX12_digest_199 (by decide) ?_
                      have hM := hM.x.e
                      refine x_newI C (fun q h => Or.inr h) hM 8 rfl (by decide) (Nat.le_of_ble_eq_true rfl) (Nat.le_of_ble_eq_true rfl) dX12_digest_201 (fun q201 H1 hM => ?_)
                      refine lv_dup C.1 C.2.1 dX12_digest_203 rfl ?_
                      refine lv_iconst (v := iI 0) C.1 C.2.1 dX12_digest_204 (by decide) ?_
                      refine lv_aload_n C.1 C.2.1 dX12_digest_205 rfl (lv_at hl 4 rfl) ?_
                      refine lv_iconst (v := iI 0) C.1 C.2.1 dX12_digest_206 (by decide) ?_
                      refine lv_iconst (v := iI 2) C.1 C.2.1 dX12_digest_207 (by decide) ?_
                      refine x_ciA (fun q h => Or.inr h) (x_runVA (As := [.int (iI 0), .int (iI 2)]) (rest := [.int (iI 0), .ref q201, .ref q201]) C (⟨by show _ ≤ (21 : Nat); omega, by show _ ≤ (40 * 21 : Nat); omega⟩) cw_X12_151 (MET.toA (ways_all l D ad G ids hJ 2 (by omega) s3 0 0 2 rfl (by omega) (by omega) hGs)) hM.x (hJ 100 (by decide) (by decide)) (cx_100 ad G _) rfl rfl rfl rfl (Nat.le_of_ble_eq_true rfl) hl.1 dX12_digest_208 ⟨Nat.le_of_ble_eq_true rfl, Nat.le_of_ble_eq_true rfl⟩) hM (fun r208 s208 H1 lc1 hp hM => ?_)
                      obtain ⟨hzs208, hfs208⟩ := hp
                      rw [hcs, k1, k4] at hzs208
                      have fs208 : EQD s208 (th σ 0) := fun r h1 h2 => (hfs208 r (by omega)).trans (fs3 r h1 h2)
                      have ds208 : s208 233 0 = dg3 (mw σ) (dg2 (mw σ) (dg1 (mw σ))) := (congrFun (hfs208 233 (by omega)) 0).trans ds3
                      have hGs : GI (mw s208) := GIm_of hG (fun r _ _ => (fs208 r (by omega) (by omega)).trans (th_o (by omega)))
                      have hTs : TI (mw s208) := hT.of (fun r hr => (fs208 (200 + r) (by omega) (by omega)).trans (th_o (by omega)))
                      have hcs : cfg (mw s208) = cfg (mw σ) := cfg_of (fun r hr => (fs208 (200 + r) (by omega) (by omega)).trans (th_o (by omega)))
                      have k1 : s208 201 = σ 201 := fs208 201 (by decide) (by decide)
                      have k2 : s208 202 = σ 202 := fs208 202 (by decide) (by decide)
                      have k3 : s208 203 = σ 203 := fs208 203 (by decide) (by decide)
                      have k4 : s208 204 = σ 204 := fs208 204 (by decide) (by decide)
                      have hwh : s208 202 0 * s208 203 0 = σ 202 0 * σ 203 0 := by rw [k2, k3]
                      have hal : ∀ r : Nat, r < 32 → mw s208 r = mw σ r := fun r hr => (fs208.mw (by omega)).trans (th_o (by omega))
                      refine e_ast C hM (by omega) (by omega) (by omega) dX12_digest_211 (fun H1 lc1 hM => ?_)
                      refine lv_dup C.1 C.2.1 dX12_digest_212 rfl ?_
                      refine lv_iconst (v := iI 1) C.1 C.2.1 dX12_digest_213 (by decide) ?_
                      refine lv_aload_n C.1 C.2.1 dX12_digest_214 rfl (lv_at hl 4 rfl) ?_
                      refine lv_iconst (v := iI 0) C.1 C.2.1 dX12_digest_215 (by decide) ?_
                      refine lv_iconst (v := iI 1) C.1 C.2.1 dX12_digest_216 (by decide) ?_
                      refine x_ciA (fun q h => Or.inr h) (x_runVA (As := [.int (iI 0), .int (iI 1)]) (rest := [.int (iI 1), .ref q201, .ref q201]) C (⟨by show _ ≤ (21 : Nat); omega, by show _ ≤ (40 * 21 : Nat); omega⟩) cw_X12_148 (MET.toA (value_all l D ad G ids hJ 1 s208 0 0 1 rfl (by omega) (by omega) hGs)) hM.x (hJ 100 (by decide) (by decide)) (cx_100 ad G _) rfl rfl rfl rfl (Nat.le_of_ble_eq_true rfl) hl.1 dX12_digest_217 ⟨Nat.le_of_ble_eq_true rfl, Nat.le_of_ble_eq_true rfl⟩) hM (fun r217 s217 H1 lc1 hp hM => ?_)
                      obtain ⟨hzs217, hfs217⟩ := hp
                      rw [hcs, k1, k4] at hzs217
                      have fs217 : EQD s217 (th σ 0) := fun r h1 h2 => (hfs217 r (by omega)).trans (fs208 r h1 h2)
                      have ds217 : s217 233 0 = dg3 (mw σ) (dg2 (mw σ) (dg1 (mw σ))) := (congrFun (hfs217 233 (by omega)) 0).trans ds208
                      have kbe : s217 231 0 = σ 231 0 := congrFun (fs217 231 (by decide) (by decide)) 0
                      have kre : s217 220 0 = σ 220 0 := congrFun (fs217 220 (by decide) (by decide)) 0
                      have kno : s217 221 0 = σ 221 0 := congrFun (fs217 221 (by decide) (by decide)) 0
                      have kh : s217 222 0 = σ 222 0 := congrFun (fs217 222 (by decide) (by decide)) 0
                      have kc : s217 223 0 = σ 223 0 := congrFun (fs217 223 (by decide) (by decide)) 0
                      refine e_ast C hM (by omega) (by omega) (by omega) dX12_digest_220 (fun H1 lc1 hM => ?_)
                      refine lv_dup C.1 C.2.1 dX12_digest_221 rfl ?_
                      refine lv_iconst (v := iI 2) C.1 C.2.1 dX12_digest_222 (by decide) ?_
                      refine lv_aload_n C.1 C.2.1 dX12_digest_223 rfl (lv_at hl 4 rfl) ?_
                      refine g_X12_21 C hM.x (hJ 100 (by decide) (by decide)) wf_X12_51 dX12_digest_224 ?_
                      refine lv_iconst (v := iI (-1)) C.1 C.2.1 dX12_digest_227 (by decide) ?_
                      have J242 : ∀ (vb : Int) (H1 : Heap) (lc1 : List Loc) (ls1 : Array Slot), (vb = if σ 231 0 = -1 then -1 else σ 231 0 / 100) → XE D ad G ids (AN ad ids ss.heap.size) ss.heap H1 lc1 s217 [(q201, .inl (G 0, 8, .inl (fI (ups (ups (fun _ => 0) 0 r208) 1 r217))))] → lv_has ls1 8 [(3, .int (iI m)), (2, .int (iI ((MLs (σ 201) (σ 202 0) (σ 203 0) (σ 204 0)).length : Int))), (4, .int (iI j)), (1, .ref q61), (0, .ref (ad 100))] → W pp l ee (rma 21 2 13) ss mm args below meth cq H1 lc1 2 13 (MQ below (QL D ad G ids (fun z σ' => digF (mw σ) (σ 220 0) (σ 221 0) (σ 231 0) = z ∧ EQD σ' (th σ 0)) ss.heap.size) args ss 2 13 (AN ad ids ss.heap.size)) (F0 mm 242 ls1 [.int (iI vb), .int (iI 2), .ref q201, .ref q201]) := by
                        intro vb H1 lc1 ls1 hvb hM hl
                        refine e_ast C hM (by omega) (by omega) (by omega) dX12_digest_242 (fun H1 lc1 hM => ?_)
                        refine lv_dup C.1 C.2.1 dX12_digest_243 rfl ?_
                        refine lv_iconst (v := iI 3) C.1 C.2.1 dX12_digest_244 (by decide) ?_
                        refine lv_aload_n C.1 C.2.1 dX12_digest_245 rfl (lv_at hl 4 rfl) ?_
                        refine g_X12_21 C hM.x (hJ 100 (by decide) (by decide)) wf_X12_51 dX12_digest_246 ?_
                        refine lv_iconst (v := iI (-1)) C.1 C.2.1 dX12_digest_249 (by decide) ?_
                        have J264 : ∀ (vc : Int) (H1 : Heap) (lc1 : List Loc) (ls1 : Array Slot), (vc = if σ 231 0 = -1 then -1 else σ 231 0 % 100) → XE D ad G ids (AN ad ids ss.heap.size) ss.heap H1 lc1 s217 [(q201, .inl (G 0, 8, .inl (fI (ups (ups (ups (fun _ => 0) 0 r208) 1 r217) 2 vb))))] → lv_has ls1 8 [(3, .int (iI m)), (2, .int (iI ((MLs (σ 201) (σ 202 0) (σ 203 0) (σ 204 0)).length : Int))), (4, .int (iI j)), (1, .ref q61), (0, .ref (ad 100))] → W pp l ee (rma 21 2 13) ss mm args below meth cq H1 lc1 2 13 (MQ below (QL D ad G ids (fun z σ' => digF (mw σ) (σ 220 0) (σ 221 0) (σ 231 0) = z ∧ EQD σ' (th σ 0)) ss.heap.size) args ss 2 13 (AN ad ids ss.heap.size)) (F0 mm 264 ls1 [.int (iI vc), .int (iI 3), .ref q201, .ref q201]) := by
                          intro vc H1 lc1 ls1 hvc hM hl
                          refine e_ast C hM (by omega) (by omega) (by omega) dX12_digest_264 (fun H1 lc1 hM => ?_)
                          refine lv_dup C.1 C.2.1 dX12_digest_265 rfl ?_
                          refine lv_iconst (v := iI 4) C.1 C.2.1 dX12_digest_266 (by decide) ?_
                          refine lv_aload_n C.1 C.2.1 dX12_digest_267 rfl (lv_at hl 4 rfl) ?_
                          refine g_X12_19 C hM.x (hJ 100 (by decide) (by decide)) wf_X12_207 dX12_digest_268 ?_
                          refine e_ast C hM (by omega) (by omega) (by omega) dX12_digest_271 (fun H1 lc1 hM => ?_)
                          refine lv_dup C.1 C.2.1 dX12_digest_272 rfl ?_
                          refine lv_iconst (v := iI 5) C.1 C.2.1 dX12_digest_273 (by decide) ?_
                          refine lv_aload_n C.1 C.2.1 dX12_digest_274 rfl (lv_at hl 4 rfl) ?_
                          refine g_X12_16 C hM.x (hJ 100 (by decide) (by decide)) wf_X12_169 dX12_digest_275 ?_
                          refine e_ast C hM (by omega) (by omega) (by omega) dX12_digest_278 (fun H1 lc1 hM => ?_)
                          refine lv_dup C.1 C.2.1 dX12_digest_279 rfl ?_
                          refine lv_bipush (v := iI 6) C.1 C.2.1 dX12_digest_280 (by decide) ?_
                          refine lv_aload_n C.1 C.2.1 dX12_digest_282 rfl (lv_at hl 4 rfl) ?_
                          refine g_X12_17 C hM.x (hJ 100 (by decide) (by decide)) wf_X12_182 dX12_digest_283 ?_
                          refine e_ast C hM (by omega) (by omega) (by omega) dX12_digest_286 (fun H1 lc1 hM => ?_)
                          refine lv_dup C.1 C.2.1 dX12_digest_287 rfl ?_
                          refine lv_bipush (v := iI 7) C.1 C.2.1 dX12_digest_288 (by decide) ?_
                          refine lv_aload_n C.1 C.2.1 dX12_digest_290 rfl (lv_at hl 4 rfl) ?_
                          refine g_X12_18 C hM.x (hJ 100 (by decide) (by decide)) wf_X12_198 dX12_digest_291 ?_
                          refine e_ast C hM (by omega) (by omega) (by omega) dX12_digest_294 (fun H1 lc1 hM => ?_)
                          obtain ⟨t2, ht2⟩ : ∃ t : Fn, t = ups (ups (ups (ups (ups (ups (ups (ups (fun _ => 0) 0 r208) 1 r217) 2 vb) 3 vc) 4 (s217 220 0)) 5 (s217 221 0)) 6 (s217 222 0)) 7 (s217 223 0) := ⟨_, rfl⟩
                          rw [← ht2] at hM
                          refine lv_astore_n (lv' := [(3, .ref q201), (2, .int (iI ((MLs (σ 201) (σ 202 0) (σ 203 0) (σ 204 0)).length : Int))), (4, .int (iI j)), (1, .ref q61), (0, .ref (ad 100))]) C.1 C.2.1 dX12_digest_295 rfl hl (by decide) rfl (fun ls hl => ?_)
                          refine lv_aload_n C.1 C.2.1 dX12_digest_296 rfl (lv_at hl 0 rfl) ?_
                          refine lv_astore (lv' := [(4, .ref q201), (3, .ref q201), (2, .int (iI ((MLs (σ 201) (σ 202 0) (σ 203 0) (σ 204 0)).length : Int))), (1, .ref q61), (0, .ref (ad 100))]) C.1 C.2.1 dX12_digest_297 hl (by decide) rfl (fun ls hl => ?_)
                          refine lv_aload C.1 C.2.1 dX12_digest_299 (lv_at hl 0 rfl) ?_
                          refine e_len C (Or.inl rfl) hM (n := 8) rfl dX12_digest_301 ?_
                          refine lv_istore (lv' := [(5, .int (iI 8)), (4, .ref q201), (3, .ref q201), (2, .int (iI ((MLs (σ 201) (σ 202 0) (σ 203 0) (σ 204 0)).length : Int))), (1, .ref q61), (0, .ref (ad 100))]) C.1 C.2.1 dX12_digest_302 hl (by decide) rfl (fun ls hl => ?_)
                          refine lv_iconst (v := iI 0) C.1 C.2.1 dX12_digest_304 (by decide) ?_
                          refine lv_istore (lv' := [(6, .int (iI 0)), (5, .int (iI 8)), (4, .ref q201), (3, .ref q201), (2, .int (iI ((MLs (σ 201) (σ 202 0) (σ 203 0) (σ 204 0)).length : Int))), (1, .ref q61), (0, .ref (ad 100))]) C.1 C.2.1 dX12_digest_305 hl (by decide) rfl (fun ls hl => ?_)
                          have L307 : ∀ (fu : Nat) (j : Int) (s4 : Sg) (H1 : Heap) (lc1 : List Loc) (ls1 : Array Slot), (0 ≤ j ∧ j ≤ 8) → (EQD s4 (th σ 0)) → (s4 233 0 = dgF (fun i => wI (t2 i)) j.toNat (dg3 (mw σ) (dg2 (mw σ) (dg1 (mw σ))))) → (40 - j).toNat < fu → XE D ad G ids (AN ad ids ss.heap.size) ss.heap H1 lc1 s4 [(q201, .inl (G 0, 8, .inl (fI t2)))] → lv_has ls1 8 [(6, .int (iI j)), (5, .int (iI 8)), (4, .ref q201), (3, .ref q201), (2, .int (iI ((MLs (σ 201) (σ 202 0) (σ 203 0) (σ 204 0)).length : Int))), (1, .ref q61), (0, .ref (ad 100))] → W pp l ee (rma 21 2 13) ss mm args below meth cq H1 lc1 2 13 (MQ below (QL D ad G ids (fun z σ' => digF (mw σ) (σ 220 0) (σ 221 0) (σ 231 0) = z ∧ EQD σ' (th σ 0)) ss.heap.size) args ss 2 13 (AN ad ids ss.heap.size)) (F0 mm 307 ls1 []) := by
                            intro fu
                            induction fu with
                            | zero => intro j s4 H1 lc1 ls1 j0 fs4 ds4 hfu; exact absurd hfu (Nat.not_lt_zero _)
                            | succ fu ih307 =>
                              intro j s4 H1 lc1 ls1 j0 fs4 ds4 hfu hM hl
                              refine lv_iload C.1 C.2.1 dX12_digest_307 (lv_at hl 0 rfl) ?_
                              refine lv_iload C.1 C.2.1 dX12_digest_309 (lv_at hl 1 rfl) ?_
                              refine x_icmp_ge C ⟨by omega, by omega⟩ ⟨by omega, by omega⟩ (tgt := 334) dX12_digest_311 (by decide) (fun c311 => ?_) (fun c311 => ?_)
                              · have hj8 : j = 8 := by omega
                                have ds4 : s4 233 0 = dg5 (mw σ) (σ 220 0) (σ 221 0) (σ 231 0) (dg4 (mw σ) (dg3 (mw σ) (dg2 (mw σ) (dg1 (mw σ))))) := by
                                  rw [ds4, hj8, ht2, ← hzs208, ← hzs217, hvb, hvc, kre, kno, kh, kc]
                                  rfl
                                refine lv_iconst (v := iI 1) C.1 C.2.1 dX12_digest_334 (by decide) ?_
                                refine lv_istore (lv' := [(4, .int (iI 1)), (6, .int (iI j)), (5, .int (iI 8)), (3, .ref q201), (2, .int (iI ((MLs (σ 201) (σ 202 0) (σ 203 0) (σ 204 0)).length : Int))), (1, .ref q61), (0, .ref (ad 100))]) C.1 C.2.1 dX12_digest_335 hl (by decide) rfl (fun ls hl => ?_)
                                have L337 : ∀ (fu : Nat) (dd : Int) (s5 : Sg) (H1 : Heap) (lc1 : List Loc) (ls1 : Array Slot), (1 ≤ dd ∧ dd ≤ 5) → (EQD s5 (th σ 0)) → (s5 233 0 = dgK (kiF (mw σ) (σ 220 0)) (dd - 1).toNat (dg5 (mw σ) (σ 220 0) (σ 221 0) (σ 231 0) (dg4 (mw σ) (dg3 (mw σ) (dg2 (mw σ) (dg1 (mw σ))))))) → (40 - dd).toNat < fu → XE D ad G ids (AN ad ids ss.heap.size) ss.heap H1 lc1 s5 [(q201, .inl (G 0, 8, .inl (fI t2)))] → lv_has ls1 8 [(4, .int (iI dd)), (6, .int (iI j)), (3, .ref q201), (2, .int (iI ((MLs (σ 201) (σ 202 0) (σ 203 0) (σ 204 0)).length : Int))), (1, .ref q61), (0, .ref (ad 100))] → W pp l ee (rma 21 2 13) ss mm args below meth cq H1 lc1 2 13 (MQ below (QL D ad G ids (fun z σ' => digF (mw σ) (σ 220 0) (σ 221 0) (σ 231 0) = z ∧ EQD σ' (th σ 0)) ss.heap.size) args ss 2 13 (AN ad ids ss.heap.size)) (F0 mm 337 ls1 []) := by
                                  intro fu
                                  induction fu with
                                  | zero => intro dd s5 H1 lc1 ls1 d0 fs5 ds5 hfu; exact absurd hfu (Nat.not_lt_zero _)
                                  | succ fu ih337 =>
                                    intro dd s5 H1 lc1 ls1 d0 fs5 ds5 hfu hM hl
                                    refine lv_iload C.1 C.2.1 dX12_digest_337 (lv_at hl 0 rfl) ?_
                                    refine lv_iconst (v := iI 4) C.1 C.2.1 dX12_digest_339 (by decide) ?_
                                    refine x_icmp_gt C ⟨by omega, by omega⟩ ⟨by omega, by omega⟩ (tgt := 377) dX12_digest_340 (by decide) (fun c340 => ?_) (fun c340 => ?_)
                                    · have hd5 : dd = 5 := by omega
                                      have ds5 : s5 233 0 = dg6 (mw σ) (σ 220 0) (dg5 (mw σ) (σ 220 0) (σ 221 0) (σ 231 0) (dg4 (mw σ) (dg3 (mw σ) (dg2 (mw σ) (dg1 (mw σ)))))) := by rw [ds5, hd5]; rfl
                                      refine lv_aload_n C.1 C.2.1 dX12_digest_377 rfl (lv_at hl 5 rfl) ?_
                                      refine lv_aload_n C.1 C.2.1 dX12_digest_378 rfl (lv_at hl 5 rfl) ?_
                                      refine g_X12_11 C hM.x (hJ 100 (by decide) (by decide)) wf_X12_32 dX12_digest_379 ?_
                                      refine x_i2lW C dX12_digest_382 ?_
                                      refine x_cvA (fun q h => Or.inr h) (x_runVA (As := [.long (jI (wI (s5 209 0)))]) (rest := []) C (⟨by show _ ≤ (21 : Nat); omega, by show _ ≤ (40 * 21 : Nat); omega⟩) cw_X12_264 (MET.toA (c_X12_add l D ad G ids hJ s5 (wI (s5 209 0)))) hM.x (hJ 100 (by decide) (by decide)) (cx_100 ad G _) rfl rfl rfl rfl (Nat.le_of_ble_eq_true rfl) hl.1 dX12_digest_383 ⟨Nat.le_of_ble_eq_true rfl, Nat.le_of_ble_eq_true rfl⟩) hM (fun s383 H1 lc1 hp hM => ?_)
                                      obtain _ := hp
                                      have fs383 : EQD s383 (th σ 0) := fs5.add hp
                                      have ds383 : s383 233 0 = (dg6 (mw σ) (σ 220 0) (dg5 (mw σ) (σ 220 0) (σ 221 0) (σ 231 0) (dg4 (mw σ) (dg3 (mw σ) (dg2 (mw σ) (dg1 (mw σ))))))) * 31 + (wI (σ 209 0)) := add_d hp ds5 (congrArg wI (congrFun (fs5 209 (by decide) (by decide)) 0))
                                      have gs383 : s383 240 = s5 240 := by rw [← hp]; exact upr_ne _ _ (by decide)
                                      refine lv_aload_n C.1 C.2.1 dX12_digest_386 rfl (lv_at hl 5 rfl) ?_
                                      refine lv_aload_n C.1 C.2.1 dX12_digest_387 rfl (lv_at hl 5 rfl) ?_
                                      refine x_ciA (fun q h => Or.inr h) (x_runVA (As := []) (rest := [.ref (ad 100)]) C (⟨by show _ ≤ (21 : Nat); omega, by show _ ≤ (40 * 21 : Nat); omega⟩) cw_X12_154 (MET.toA (c_X12_entriesNow l D ad G ids hJ s383 (hT.of (fun r hr => (fs383 (200 + r) (by omega) (by omega)).trans (th_o (by omega)))))) hM.x (hJ 100 (by decide) (by decide)) (cx_100 ad G _) rfl rfl rfl rfl (Nat.le_of_ble_eq_true rfl) hl.1 dX12_digest_388 ⟨Nat.le_of_ble_eq_true rfl, Nat.le_of_ble_eq_true rfl⟩) hM (fun r388 s388 H1 lc1 hp hM => ?_)
                                      obtain ⟨rfl, rfl⟩ := hp
                                      refine x_i2lW C dX12_digest_391 ?_
                                      refine x_cvA (fun q h => Or.inr h) (x_runVA (As := [.long (jI (wI (cntE (s383 211) 64)))]) (rest := []) C (⟨by show _ ≤ (21 : Nat); omega, by show _ ≤ (40 * 21 : Nat); omega⟩) cw_X12_264 (MET.toA (c_X12_add l D ad G ids hJ s383 (wI (cntE (s383 211) 64)))) hM.x (hJ 100 (by decide) (by decide)) (cx_100 ad G _) rfl rfl rfl rfl (Nat.le_of_ble_eq_true rfl) hl.1 dX12_digest_392 ⟨Nat.le_of_ble_eq_true rfl, Nat.le_of_ble_eq_true rfl⟩) hM (fun s392 H1 lc1 hp hM => ?_)
                                      obtain _ := hp
                                      have fs392 : EQD s392 (th σ 0) := fs383.add hp
                                      have ds392 : s392 233 0 = ((dg6 (mw σ) (σ 220 0) (dg5 (mw σ) (σ 220 0) (σ 221 0) (σ 231 0) (dg4 (mw σ) (dg3 (mw σ) (dg2 (mw σ) (dg1 (mw σ))))))) * 31 + (wI (σ 209 0))) * 31 + (wI (cntE (σ 211) 64)) := add_d hp ds383 (by rw [fs383 211 (by decide) (by decide)]; rfl)
                                      have gs392 : s392 240 = s383 240 := by rw [← hp]; exact upr_ne _ _ (by decide)
                                      refine lv_iconst (v := iI 0) C.1 C.2.1 dX12_digest_395 (by decide) ?_
                                      refine lv_istore (lv' := [(4, .int (iI 0)), (6, .int (iI j)), (3, .ref q201), (2, .int (iI ((MLs (σ 201) (σ 202 0) (σ 203 0) (σ 204 0)).length : Int))), (1, .ref q61), (0, .ref (ad 100))]) C.1 C.2.1 dX12_digest_396 hl (by decide) rfl (fun ls hl => ?_)
                                      have L398 : ∀ (fu : Nat) (sl : Int) (s7 : Sg) (H1 : Heap) (lc1 : List Loc) (ls1 : Array Slot), (0 ≤ sl ∧ sl ≤ σ 209 0) → (EQD s7 (th σ 0)) → (s7 233 0 = dgT (teF (mw σ)) sl.toNat (((dg6 (mw σ) (σ 220 0) (dg5 (mw σ) (σ 220 0) (σ 221 0) (σ 231 0) (dg4 (mw σ) (dg3 (mw σ) (dg2 (mw σ) (dg1 (mw σ))))))) * 31 + wI (σ 209 0)) * 31 + wI (cntE (σ 211) 64))) → (70 - sl).toNat < fu → XE D ad G ids (AN ad ids ss.heap.size) ss.heap H1 lc1 s7 [(q201, .inl (G 0, 8, .inl (fI t2)))] → lv_has ls1 8 [(4, .int (iI sl)), (6, .int (iI j)), (3, .ref q201), (2, .int (iI ((MLs (σ 201) (σ 202 0) (σ 203 0) (σ 204 0)).length : Int))), (1, .ref q61), (0, .ref (ad 100))] → W pp l ee (rma 21 2 13) ss mm args below meth cq H1 lc1 2 13 (MQ below (QL D ad G ids (fun z σ' => digF (mw σ) (σ 220 0) (σ 221 0) (σ 231 0) = z ∧ EQD σ' (th σ 0)) ss.heap.size) args ss 2 13 (AN ad ids ss.heap.size)) (F0 mm 398 ls1 []) := by
                                        intro fu
                                        induction fu with
                                        | zero => intro sl s7 H1 lc1 ls1 l0 fs7 ds7 hfu; exact absurd hfu (Nat.not_lt_zero _)
                                        | succ fu ih398 =>
                                          intro sl s7 H1 lc1 ls1 l0 fs7 ds7 hfu hM hl
                                          refine lv_iload C.1 C.2.1 dX12_digest_398 (lv_at hl 0 rfl) ?_
                                          refine lv_aload_n C.1 C.2.1 dX12_digest_400 rfl (lv_at hl 5 rfl) ?_
                                          have k9 : s7 209 0 = σ 209 0 := congrFun (fs7 209 (by decide) (by decide)) 0
                                          refine g_X12_11 C hM.x (hJ 100 (by decide) (by decide)) wf_X12_32 dX12_digest_401 ?_
                                          refine x_icmp_ge C ⟨by omega, by omega⟩ ⟨by omega, by omega⟩ (tgt := 441) dX12_digest_404 (by decide) (fun c404 => ?_) (fun c404 => ?_)
                                          · have hsl : sl = σ 209 0 := by omega
                                            have ds7 : s7 233 0 = dg7 (mw σ) (dg6 (mw σ) (σ 220 0) (dg5 (mw σ) (σ 220 0) (σ 221 0) (σ 231 0) (dg4 (mw σ) (dg3 (mw σ) (dg2 (mw σ) (dg1 (mw σ))))))) := by rw [ds7, hsl]; rfl
                                            have hGs : GI (mw s7) := GIm_of hG (fun r _ _ => (fs7 r (by omega) (by omega)).trans (th_o (by omega)))
                                            have hTs : TI (mw s7) := hT.of (fun r hr => (fs7 (200 + r) (by omega) (by omega)).trans (th_o (by omega)))
                                            have hcs : cfg (mw s7) = cfg (mw σ) := cfg_of (fun r hr => (fs7 (200 + r) (by omega) (by omega)).trans (th_o (by omega)))
                                            have k1 : s7 201 = σ 201 := fs7 201 (by decide) (by decide)
                                            have k2 : s7 202 = σ 202 := fs7 202 (by decide) (by decide)
                                            have k3 : s7 203 = σ 203 := fs7 203 (by decide) (by decide)
                                            have k4 : s7 204 = σ 204 := fs7 204 (by decide) (by decide)
                                            have hwh : s7 202 0 * s7 203 0 = σ 202 0 * σ 203 0 := by rw [k2, k3]
                                            have hal : ∀ r : Nat, r < 32 → mw s7 r = mw σ r := fun r hr => (fs7.mw (by omega)).trans (th_o (by omega))
                                            refine lv_aload_n C.1 C.2.1 dX12_digest_441 rfl (lv_at hl 5 rfl) ?_
                                            refine lv_aload_n C.1 C.2.1 dX12_digest_442 rfl (lv_at hl 5 rfl) ?_
                                            refine x_ciA (fun q h => Or.inr h) (x_runVA (As := []) (rest := [.ref (ad 100)]) C (⟨by show _ ≤ (21 : Nat); omega, by show _ ≤ (40 * 21 : Nat); omega⟩) cw_X12_247 (MET.toA (c_X12_knownNow l D ad G ids hJ s7 hGs hTs)) hM.x (hJ 100 (by decide) (by decide)) (cx_100 ad G _) rfl rfl rfl rfl (Nat.le_of_ble_eq_true rfl) hl.1 dX12_digest_443 ⟨Nat.le_of_ble_eq_true rfl, Nat.le_of_ble_eq_true rfl⟩) hM (fun r443 s443 H1 lc1 hp hM => ?_)
                                            obtain ⟨rfl, rfl⟩ := hp
                                            refine x_i2lW C dX12_digest_446 ?_
                                            refine x_cvA (fun q h => Or.inr h) (x_runVA (As := [.long (jI (wI (if fndT (mw s7) (keyS (cfg (mw s7)) (s7 201) (s7 204 0)) = -1 then 0 else s7 211 (fndT (mw s7) (keyS (cfg (mw s7)) (s7 201) (s7 204 0))))))]) (rest := []) C (⟨by show _ ≤ (21 : Nat); omega, by show _ ≤ (40 * 21 : Nat); omega⟩) cw_X12_264 (MET.toA (c_X12_add l D ad G ids hJ s7 (wI (if fndT (mw s7) (keyS (cfg (mw s7)) (s7 201) (s7 204 0)) = -1 then 0 else s7 211 (fndT (mw s7) (keyS (cfg (mw s7)) (s7 201) (s7 204 0))))))) hM.x (hJ 100 (by decide) (by decide)) (cx_100 ad G _) rfl rfl rfl rfl (Nat.le_of_ble_eq_true rfl) hl.1 dX12_digest_447 ⟨Nat.le_of_ble_eq_true rfl, Nat.le_of_ble_eq_true rfl⟩) hM (fun s447 H1 lc1 hp hM => ?_)
                                            obtain _ := hp
                                            have fs447 : EQD s447 (th σ 0) := fs7.add hp
                                            have ds447 : s447 233 0 = (dg7 (mw σ) (dg6 (mw σ) (σ 220 0) (dg5 (mw σ) (σ 220 0) (σ 221 0) (σ 231 0) (dg4 (mw σ) (dg3 (mw σ) (dg2 (mw σ) (dg1 (mw σ)))))))) * 31 + (wI (knF (mw σ))) := add_d hp ds7 (congrArg wI (knF_of (fun r h _ => hal r h)))
                                            have gs447 : s447 240 = s7 240 := by rw [← hp]; exact upr_ne _ _ (by decide)
                                            refine lv_aload_n C.1 C.2.1 dX12_digest_450 rfl (lv_at hl 5 rfl) ?_
                                            refine lv_aload_n C.1 C.2.1 dX12_digest_451 rfl (lv_at hl 5 rfl) ?_
                                            refine x_ciA (fun q h => Or.inr h) (x_runVA (As := []) (rest := [.ref (ad 100)]) C (⟨by show _ ≤ (21 : Nat); omega, by show _ ≤ (40 * 21 : Nat); omega⟩) cw_X12_250 (MET.toA (c_X12_toldNow l D ad G ids hJ s447 (GIm_of hG (fun r _ _ => (fs447 r (by omega) (by omega)).trans (th_o (by omega)))) (by
                                              have q1 : mw s447 24 = mw σ 24 := fs447 224 (by decide) (by decide)
                                              have q2 : mw s447 25 = mw σ 25 := fs447 225 (by decide) (by decide)
                                              have q3 : mw s447 26 = mw σ 26 := fs447 226 (by decide) (by decide)
                                              have q4 : mw s447 27 = mw σ 27 := fs447 227 (by decide) (by decide)
                                              unfold BKI at *
                                              rw [q1, q2, q3, q4]; exact hBK))) hM.x (hJ 100 (by decide) (by decide)) (cx_100 ad G _) rfl rfl rfl rfl (Nat.le_of_ble_eq_true rfl) hl.1 dX12_digest_452 ⟨Nat.le_of_ble_eq_true rfl, Nat.le_of_ble_eq_true rfl⟩) hM (fun r452 s452 H1 lc1 hp hM => ?_)
                                            obtain ⟨hzs452, hLs452, hfs452⟩ := hp
                                            have fs452 : EQD s452 (th σ 0) := fun r h1 h2 => (hfs452 r (by omega)).trans (fs447 r h1 h2)
                                            have ds452 : s452 233 0 = s447 233 0 := congrFun (hfs452 233 (by decide)) 0
                                            have ds452 := ds452.trans ds447
                                            refine x_i2lW C dX12_digest_455 ?_
                                            refine x_cvA (fun q h => Or.inr h) (x_runVA (As := [.long (jI (wI r452))]) (rest := []) C (⟨by show _ ≤ (21 : Nat); omega, by show _ ≤ (40 * 21 : Nat); omega⟩) cw_X12_264 (MET.toA (c_X12_add l D ad G ids hJ s452 (wI r452))) hM.x (hJ 100 (by decide) (by decide)) (cx_100 ad G _) rfl rfl rfl rfl (Nat.le_of_ble_eq_true rfl) hl.1 dX12_digest_456 ⟨Nat.le_of_ble_eq_true rfl, Nat.le_of_ble_eq_true rfl⟩) hM (fun s456 H1 lc1 hp hM => ?_)
                                            obtain _ := hp
                                            have fs456 : EQD s456 (th σ 0) := fs452.add hp
                                            have ds456 : s456 233 0 = ((dg7 (mw σ) (dg6 (mw σ) (σ 220 0) (dg5 (mw σ) (σ 220 0) (σ 221 0) (σ 231 0) (dg4 (mw σ) (dg3 (mw σ) (dg2 (mw σ) (dg1 (mw σ)))))))) * 31 + (wI (knF (mw σ)))) * 31 + (wI (tlF (mw σ))) := add_d hp ds452 (by rw [← hzs452]; exact congrArg wI (tlF_of (fun r hr _ => (fs447.mw (by omega)).trans (th_o (by omega)))))
                                            have gs456 : s456 240 = s452 240 := by rw [← hp]; exact upr_ne _ _ (by decide)
                                            refine lv_aload_n C.1 C.2.1 dX12_digest_459 rfl (lv_at hl 5 rfl) ?_
                                            refine lv_aload_n C.1 C.2.1 dX12_digest_460 rfl (lv_at hl 5 rfl) ?_
                                            refine g_X12_22 C hM.x (hJ 100 (by decide) (by decide)) wf_X12_210 dX12_digest_461 ?_
                                            refine x_i2lW C dX12_digest_464 ?_
                                            refine x_cvA (fun q h => Or.inr h) (x_runVA (As := [.long (jI (wI (s456 227 0)))]) (rest := []) C (⟨by show _ ≤ (21 : Nat); omega, by show _ ≤ (40 * 21 : Nat); omega⟩) cw_X12_264 (MET.toA (c_X12_add l D ad G ids hJ s456 (wI (s456 227 0)))) hM.x (hJ 100 (by decide) (by decide)) (cx_100 ad G _) rfl rfl rfl rfl (Nat.le_of_ble_eq_true rfl) hl.1 dX12_digest_465 ⟨Nat.le_of_ble_eq_true rfl, Nat.le_of_ble_eq_true rfl⟩) hM (fun s465 H1 lc1 hp hM => ?_)
                                            obtain _ := hp
                                            have fs465 : EQD s465 (th σ 0) := fs456.add hp
                                            have ds465 : s465 233 0 = (((dg7 (mw σ) (dg6 (mw σ) (σ 220 0) (dg5 (mw σ) (σ 220 0) (σ 221 0) (σ 231 0) (dg4 (mw σ) (dg3 (mw σ) (dg2 (mw σ) (dg1 (mw σ)))))))) * 31 + (wI (knF (mw σ)))) * 31 + (wI (tlF (mw σ)))) * 31 + (wI (σ 227 0)) := add_d hp ds456 (congrArg wI (congrFun (fs456 227 (by decide) (by decide)) 0))
                                            have gs465 : s465 240 = s456 240 := by rw [← hp]; exact upr_ne _ _ (by decide)
                                            refine lv_aload_n C.1 C.2.1 dX12_digest_468 rfl (lv_at hl 5 rfl) ?_
                                            refine g_X12_25 C hM.x (hJ 100 (by decide) (by decide)) wf_X12_256 dX12_digest_469 ?_
                                            exact x_lret C hr hM.x ⟨by rw [ds465]; rfl, fs465⟩ dX12_digest_472
                                          · refine lv_iconst (v := iI 0) C.1 C.2.1 dX12_digest_407 (by decide) ?_
                                            refine lv_istore (lv' := [(5, .int (iI 0)), (4, .int (iI sl)), (6, .int (iI j)), (3, .ref q201), (2, .int (iI ((MLs (σ 201) (σ 202 0) (σ 203 0) (σ 204 0)).length : Int))), (1, .ref q61), (0, .ref (ad 100))]) C.1 C.2.1 dX12_digest_408 hl (by decide) rfl (fun ls hl => ?_)
                                            have L410 : ∀ (fu : Nat) (kk : Int) (s8 : Sg) (H1 : Heap) (lc1 : List Loc) (ls1 : Array Slot), (0 ≤ kk ∧ kk ≤ 4) → (EQD s8 (th σ 0)) → (s8 233 0 = dgF ((teF (mw σ)) sl) kk.toNat (dgT (teF (mw σ)) sl.toNat (((dg6 (mw σ) (σ 220 0) (dg5 (mw σ) (σ 220 0) (σ 221 0) (σ 231 0) (dg4 (mw σ) (dg3 (mw σ) (dg2 (mw σ) (dg1 (mw σ))))))) * 31 + wI (σ 209 0)) * 31 + wI (cntE (σ 211) 64)))) → (40 - kk).toNat < fu → XE D ad G ids (AN ad ids ss.heap.size) ss.heap H1 lc1 s8 [(q201, .inl (G 0, 8, .inl (fI t2)))] → lv_has ls1 8 [(5, .int (iI kk)), (4, .int (iI sl)), (6, .int (iI j)), (3, .ref q201), (2, .int (iI ((MLs (σ 201) (σ 202 0) (σ 203 0) (σ 204 0)).length : Int))), (1, .ref q61), (0, .ref (ad 100))] → W pp l ee (rma 21 2 13) ss mm args below meth cq H1 lc1 2 13 (MQ below (QL D ad G ids (fun z σ' => digF (mw σ) (σ 220 0) (σ 221 0) (σ 231 0) = z ∧ EQD σ' (th σ 0)) ss.heap.size) args ss 2 13 (AN ad ids ss.heap.size)) (F0 mm 410 ls1 []) := by
                                              intro fu
                                              induction fu with
                                              | zero => intro kk s8 H1 lc1 ls1 kk0 fs8 ds8 hfu; exact absurd hfu (Nat.not_lt_zero _)
                                              | succ fu ih410 =>
                                                intro kk s8 H1 lc1 ls1 kk0 fs8 ds8 hfu hM hl
                                                refine lv_iload C.1 C.2.1 dX12_digest_410 (lv_at hl 0 rfl) ?_
                                                refine lv_iconst (v := iI 4) C.1 C.2.1 dX12_digest_412 (by decide) ?_
                                                refine x_icmp_ge C ⟨by omega, by omega⟩ ⟨by omega, by omega⟩ (tgt := 435) dX12_digest_413 (by decide) (fun c413 => ?_) (fun c413 => ?_)
                                                · have hk4 : kk = 4 := by omega
                                                  rw [hk4] at ds8
                                                  refine x_iinc (lv1 := [(4, .int (iI (sl + 1))), (5, .int (iI kk)), (6, .int (iI j)), (3, .ref q201), (2, .int (iI ((MLs (σ 201) (σ 202 0) (σ 203 0) (σ 204 0)).length : Int))), (1, .ref q61), (0, .ref (ad 100))]) C dX12_digest_435 hl (k := 1) rfl (by decide) rfl (fun ls hl => ?_)
                                                  refine lv_goto (tgt := 398) C.1 C.2.1 dX12_digest_438 (by decide) ?_
                                                  exact ih398 (sl + 1) s8 _ _ _ (by omega) fs8 (by rw [dgT_s (teF (mw σ)) l0.1]; exact ds8) (by omega) hM (lv_sub hl [0, 2, 3, 4, 5, 6] rfl)
                                                · have hGs : GI (mw s8) := GIm_of hG (fun r _ _ => (fs8 r (by omega) (by omega)).trans (th_o (by omega)))
                                                  have hTs : TI (mw s8) := hT.of (fun r hr => (fs8 (200 + r) (by omega) (by omega)).trans (th_o (by omega)))
                                                  have hcs : cfg (mw s8) = cfg (mw σ) := cfg_of (fun r hr => (fs8 (200 + r) (by omega) (by omega)).trans (th_o (by omega)))
                                                  have k1 : s8 201 = σ 201 := fs8 201 (by decide) (by decide)
                                                  have k2 : s8 202 = σ 202 := fs8 202 (by decide) (by decide)
                                                  have k3 : s8 203 = σ 203 := fs8 203 (by decide) (by decide)
                                                  have k4 : s8 204 = σ 204 := fs8 204 (by decide) (by decide)
                                                  have hwh : s8 202 0 * s8 203 0 = σ 202 0 * σ 203 0 := by rw [k2, k3]
                                                  have hal : ∀ r : Nat, r < 32 → mw s8 r = mw σ r := fun r hr => (fs8.mw (by omega)).trans (th_o (by omega))
                                                  refine lv_aload_n C.1 C.2.1 dX12_digest_416 rfl (lv_at hl 6 rfl) ?_
                                                  refine lv_aload_n C.1 C.2.1 dX12_digest_417 rfl (lv_at hl 6 rfl) ?_
                                                  refine lv_iload C.1 C.2.1 dX12_digest_418 (lv_at hl 1 rfl) ?_
                                                  refine lv_iload C.1 C.2.1 dX12_digest_420 (lv_at hl 0 rfl) ?_
                                                  refine x_ciA (fun q h => Or.inr h) (x_runVA (As := [.int (iI sl), .int (iI kk)]) (rest := [.ref (ad 100)]) C (⟨by show _ ≤ (21 : Nat); omega, by show _ ≤ (40 * 21 : Nat); omega⟩) cw_X12_244 (MET.toA (c_X12_toldOf l D ad G ids hJ s8 sl kk hTs (by omega) (by omega))) hM.x (hJ 100 (by decide) (by decide)) (cx_100 ad G _) rfl rfl rfl rfl (Nat.le_of_ble_eq_true rfl) hl.1 dX12_digest_422 ⟨Nat.le_of_ble_eq_true rfl, Nat.le_of_ble_eq_true rfl⟩) hM (fun r422 s422 H1 lc1 hp hM => ?_)
                                                  obtain ⟨rfl, rfl⟩ := hp
                                                  refine x_i2lW C dX12_digest_425 ?_
                                                  refine x_cvA (fun q h => Or.inr h) (x_runVA (As := [.long (jI (wI (tellF (mw s8) sl kk)))]) (rest := []) C (⟨by show _ ≤ (21 : Nat); omega, by show _ ≤ (40 * 21 : Nat); omega⟩) cw_X12_264 (MET.toA (c_X12_add l D ad G ids hJ s8 (wI (tellF (mw s8) sl kk)))) hM.x (hJ 100 (by decide) (by decide)) (cx_100 ad G _) rfl rfl rfl rfl (Nat.le_of_ble_eq_true rfl) hl.1 dX12_digest_426 ⟨Nat.le_of_ble_eq_true rfl, Nat.le_of_ble_eq_true rfl⟩) hM (fun s426 H1 lc1 hp hM => ?_)
                                                  obtain _ := hp
                                                  have fs426 : EQD s426 (th σ 0) := fs8.add hp
                                                  have ds426 : s426 233 0 = (dgF ((teF (mw σ)) sl) kk.toNat (dgT (teF (mw σ)) sl.toNat (((dg6 (mw σ) (σ 220 0) (dg5 (mw σ) (σ 220 0) (σ 221 0) (σ 231 0) (dg4 (mw σ) (dg3 (mw σ) (dg2 (mw σ) (dg1 (mw σ))))))) * 31 + wI (σ 209 0)) * 31 + wI (cntE (σ 211) 64)))) * 31 + ((teF (mw σ)) sl kk) := add_d hp ds8 (congrFun (congrFun (teF_of (fun r h _ => hal r h)) sl) kk)
                                                  have gs426 : s426 240 = s8 240 := by rw [← hp]; exact upr_ne _ _ (by decide)
                                                  refine x_iinc (lv1 := [(5, .int (iI (kk + 1))), (4, .int (iI sl)), (6, .int (iI j)), (3, .ref q201), (2, .int (iI ((MLs (σ 201) (σ 202 0) (σ 203 0) (σ 204 0)).length : Int))), (1, .ref q61), (0, .ref (ad 100))]) C dX12_digest_429 hl (k := 0) rfl (by decide) rfl (fun ls hl => ?_)
                                                  refine lv_goto (tgt := 410) C.1 C.2.1 dX12_digest_432 (by decide) ?_
                                                  exact ih410 (kk + 1) s426 _ _ _ (by omega) fs426 (by rw [dgF_s ((teF (mw σ)) sl) kk0.1]; exact ds426) (by omega) hM (lv_sub hl [0, 1, 2, 3, 4, 5, 6] rfl)
                                            exact L410 _ 0 s7 _ _ _ (by omega) fs7 ds7 (Nat.lt_succ_self _) hM (lv_sub hl [0, 1, 2, 3, 4, 5, 6] rfl)
                                      exact L398 _ 0 s392 _ _ _ (by omega) fs392 ds392 (Nat.lt_succ_self _) hM (lv_sub hl [0, 1, 2, 3, 4, 5] rfl)
                                    · refine lv_iconst (v := iI 0) C.1 C.2.1 dX12_digest_343 (by decide) ?_
                                      refine lv_istore (lv' := [(5, .int (iI 0)), (4, .int (iI dd)), (6, .int (iI j)), (3, .ref q201), (2, .int (iI ((MLs (σ 201) (σ 202 0) (σ 203 0) (σ 204 0)).length : Int))), (1, .ref q61), (0, .ref (ad 100))]) C.1 C.2.1 dX12_digest_344 hl (by decide) rfl (fun ls hl => ?_)
                                      have L346 : ∀ (fu : Nat) (o : Int) (s6 : Sg) (H1 : Heap) (lc1 : List Loc) (ls1 : Array Slot), (0 ≤ o ∧ o ≤ 2) → (EQD s6 (th σ 0)) → (s6 233 0 = dgF ((kiF (mw σ) (σ 220 0)) dd) o.toNat (dgK (kiF (mw σ) (σ 220 0)) (dd - 1).toNat (dg5 (mw σ) (σ 220 0) (σ 221 0) (σ 231 0) (dg4 (mw σ) (dg3 (mw σ) (dg2 (mw σ) (dg1 (mw σ)))))))) → (40 - o).toNat < fu → XE D ad G ids (AN ad ids ss.heap.size) ss.heap H1 lc1 s6 [(q201, .inl (G 0, 8, .inl (fI t2)))] → lv_has ls1 8 [(5, .int (iI o)), (4, .int (iI dd)), (6, .int (iI j)), (3, .ref q201), (2, .int (iI ((MLs (σ 201) (σ 202 0) (σ 203 0) (σ 204 0)).length : Int))), (1, .ref q61), (0, .ref (ad 100))] → W pp l ee (rma 21 2 13) ss mm args below meth cq H1 lc1 2 13 (MQ below (QL D ad G ids (fun z σ' => digF (mw σ) (σ 220 0) (σ 221 0) (σ 231 0) = z ∧ EQD σ' (th σ 0)) ss.heap.size) args ss 2 13 (AN ad ids ss.heap.size)) (F0 mm 346 ls1 []) := by
                                        intro fu
                                        induction fu with
                                        | zero => intro o s6 H1 lc1 ls1 o0 fs6 ds6 hfu; exact absurd hfu (Nat.not_lt_zero _)
                                        | succ fu ih346 =>
                                          intro o s6 H1 lc1 ls1 o0 fs6 ds6 hfu hM hl
                                          refine lv_iload C.1 C.2.1 dX12_digest_346 (lv_at hl 0 rfl) ?_
                                          refine lv_iconst (v := iI 2) C.1 C.2.1 dX12_digest_348 (by decide) ?_
                                          refine x_icmp_ge C ⟨by omega, by omega⟩ ⟨by omega, by omega⟩ (tgt := 371) dX12_digest_349 (by decide) (fun c349 => ?_) (fun c349 => ?_)
                                          · have ho2 : o = 2 := by omega
                                            rw [ho2] at ds6
                                            refine x_iinc (lv1 := [(4, .int (iI (dd + 1))), (5, .int (iI o)), (6, .int (iI j)), (3, .ref q201), (2, .int (iI ((MLs (σ 201) (σ 202 0) (σ 203 0) (σ 204 0)).length : Int))), (1, .ref q61), (0, .ref (ad 100))]) C dX12_digest_371 hl (k := 1) rfl (by decide) rfl (fun ls hl => ?_)
                                            refine lv_goto (tgt := 337) C.1 C.2.1 dX12_digest_374 (by decide) ?_
                                            exact ih337 (dd + 1) s6 _ _ _ (by omega) fs6 (by rw [dgK_s (kiF (mw σ) (σ 220 0)) d0.1]; exact ds6) (by omega) hM (lv_sub hl [0, 2, 3, 4, 5, 6] rfl)
                                          · have hGs : GI (mw s6) := GIm_of hG (fun r _ _ => (fs6 r (by omega) (by omega)).trans (th_o (by omega)))
                                            have hTs : TI (mw s6) := hT.of (fun r hr => (fs6 (200 + r) (by omega) (by omega)).trans (th_o (by omega)))
                                            have hcs : cfg (mw s6) = cfg (mw σ) := cfg_of (fun r hr => (fs6 (200 + r) (by omega) (by omega)).trans (th_o (by omega)))
                                            have k1 : s6 201 = σ 201 := fs6 201 (by decide) (by decide)
                                            have k2 : s6 202 = σ 202 := fs6 202 (by decide) (by decide)
                                            have k3 : s6 203 = σ 203 := fs6 203 (by decide) (by decide)
                                            have k4 : s6 204 = σ 204 := fs6 204 (by decide) (by decide)
                                            have hwh : s6 202 0 * s6 203 0 = σ 202 0 * σ 203 0 := by rw [k2, k3]
                                            have hal : ∀ r : Nat, r < 32 → mw s6 r = mw σ r := fun r hr => (fs6.mw (by omega)).trans (th_o (by omega))
                                            have k20 : s6 220 0 = σ 220 0 := congrFun (fs6 220 (by decide) (by decide)) 0
                                            refine lv_aload_n C.1 C.2.1 dX12_digest_352 rfl (lv_at hl 6 rfl) ?_
                                            refine lv_aload_n C.1 C.2.1 dX12_digest_353 rfl (lv_at hl 6 rfl) ?_
                                            refine lv_iload C.1 C.2.1 dX12_digest_354 (lv_at hl 1 rfl) ?_
                                            refine lv_iload C.1 C.2.1 dX12_digest_356 (lv_at hl 0 rfl) ?_
                                            refine x_ciA (fun q h => Or.inr h) (x_runVA (As := [.int (iI dd), .int (iI o)]) (rest := [.ref (ad 100)]) C (⟨by show _ ≤ (21 : Nat); omega, by show _ ≤ (40 * 21 : Nat); omega⟩) cw_X12_241 (MET.toA (c_X12_killerAt l D ad G ids hJ s6 dd o (by unfold IR; omega) (by omega) (by rw [k20]; exact hr20))) hM.x (hJ 100 (by decide) (by decide)) (cx_100 ad G _) rfl rfl rfl rfl (Nat.le_of_ble_eq_true rfl) hl.1 dX12_digest_358 ⟨Nat.le_of_ble_eq_true rfl, Nat.le_of_ble_eq_true rfl⟩) hM (fun r358 s358 H1 lc1 hp hM => ?_)
                                            obtain ⟨hbs358, rfl⟩ := hp
                                            refine x_i2lW C dX12_digest_361 ?_
                                            refine x_cvA (fun q h => Or.inr h) (x_runVA (As := [.long (jI (wI r358))]) (rest := []) C (⟨by show _ ≤ (21 : Nat); omega, by show _ ≤ (40 * 21 : Nat); omega⟩) cw_X12_264 (MET.toA (c_X12_add l D ad G ids hJ s6 (wI r358))) hM.x (hJ 100 (by decide) (by decide)) (cx_100 ad G _) rfl rfl rfl rfl (Nat.le_of_ble_eq_true rfl) hl.1 dX12_digest_362 ⟨Nat.le_of_ble_eq_true rfl, Nat.le_of_ble_eq_true rfl⟩) hM (fun s362 H1 lc1 hp hM => ?_)
                                            obtain _ := hp
                                            have fs362 : EQD s362 (th σ 0) := fs6.add hp
                                            have ds362 : s362 233 0 = (dgF ((kiF (mw σ) (σ 220 0)) dd) o.toNat (dgK (kiF (mw σ) (σ 220 0)) (dd - 1).toNat (dg5 (mw σ) (σ 220 0) (σ 221 0) (σ 231 0) (dg4 (mw σ) (dg3 (mw σ) (dg2 (mw σ) (dg1 (mw σ)))))))) * 31 + ((kiF (mw σ) (σ 220 0)) dd o) := add_d hp ds6 (by
                                              unfold kiF
                                              rw [← hbs358, k20]
                                              have e := kiF_of (fun r h _ => hal r h) (σ 220 0)
                                              have e2 := congrFun (congrFun e dd) o
                                              unfold kiF at e2
                                              by_cases q : 0 < σ 220 0
                                              · rw [if_pos q, if_pos q] at e2
                                                rw [if_pos q, if_pos ⟨by omega, q⟩]; exact e2
                                              · rw [if_neg q, if_neg (fun w => q w.2)])
                                            have gs362 : s362 240 = s6 240 := by rw [← hp]; exact upr_ne _ _ (by decide)
                                            refine x_iinc (lv1 := [(5, .int (iI (o + 1))), (4, .int (iI dd)), (6, .int (iI j)), (3, .ref q201), (2, .int (iI ((MLs (σ 201) (σ 202 0) (σ 203 0) (σ 204 0)).length : Int))), (1, .ref q61), (0, .ref (ad 100))]) C dX12_digest_365 hl (k := 0) rfl (by decide) rfl (fun ls hl => ?_)
                                            refine lv_goto (tgt := 346) C.1 C.2.1 dX12_digest_368 (by decide) ?_
                                            exact ih346 (o + 1) s362 _ _ _ (by omega) fs362 (by rw [dgF_s ((kiF (mw σ) (σ 220 0)) dd) o0.1]; exact ds362) (by omega) hM (lv_sub hl [0, 1, 2, 3, 4, 5, 6] rfl)
                                      exact L346 _ 0 s5 _ _ _ (by omega) fs5 ds5 (Nat.lt_succ_self _) hM (lv_sub hl [0, 1, 2, 3, 4, 5, 6] rfl)
                                exact L337 _ 1 s4 _ _ _ (by omega) fs4 ds4 (Nat.lt_succ_self _) hM (lv_sub hl [0, 1, 3, 4, 5, 6] rfl)
                              · refine lv_aload C.1 C.2.1 dX12_digest_314 (lv_at hl 2 rfl) ?_
                                refine lv_iload C.1 C.2.1 dX12_digest_316 (lv_at hl 0 rfl) ?_
                                refine e_ald C hM (by omega) (by omega) (by omega) dX12_digest_318 ?_
                                refine lv_istore (lv' := [(7, .int (iI (t2 j))), (6, .int (iI j)), (5, .int (iI 8)), (4, .ref q201), (3, .ref q201), (2, .int (iI ((MLs (σ 201) (σ 202 0) (σ 203 0) (σ 204 0)).length : Int))), (1, .ref q61), (0, .ref (ad 100))]) C.1 C.2.1 dX12_digest_319 hl (by decide) rfl (fun ls hl => ?_)
                                refine lv_aload_n C.1 C.2.1 dX12_digest_321 rfl (lv_at hl 7 rfl) ?_
                                refine lv_iload C.1 C.2.1 dX12_digest_322 (lv_at hl 0 rfl) ?_
                                refine x_i2lW C dX12_digest_324 ?_
                                refine x_cvA (fun q h => Or.inr h) (x_runVA (As := [.long (jI (wI (t2 j)))]) (rest := []) C (⟨by show _ ≤ (21 : Nat); omega, by show _ ≤ (40 * 21 : Nat); omega⟩) cw_X12_264 (MET.toA (c_X12_add l D ad G ids hJ s4 (wI (t2 j)))) hM.x (hJ 100 (by decide) (by decide)) (cx_100 ad G _) rfl rfl rfl rfl (Nat.le_of_ble_eq_true rfl) hl.1 dX12_digest_325 ⟨Nat.le_of_ble_eq_true rfl, Nat.le_of_ble_eq_true rfl⟩) hM (fun s325 H1 lc1 hp hM => ?_)
                                obtain _ := hp
                                have fs325 : EQD s325 (th σ 0) := fs4.add hp
                                have ds325 : s325 233 0 = (dgF (fun i => wI (t2 i)) j.toNat (dg3 (mw σ) (dg2 (mw σ) (dg1 (mw σ))))) * 31 + (wI (t2 j)) := add_d hp ds4 rfl
                                have gs325 : s325 240 = s4 240 := by rw [← hp]; exact upr_ne _ _ (by decide)
                                refine x_iinc (lv1 := [(6, .int (iI (j + 1))), (7, .int (iI (t2 j))), (5, .int (iI 8)), (4, .ref q201), (3, .ref q201), (2, .int (iI ((MLs (σ 201) (σ 202 0) (σ 203 0) (σ 204 0)).length : Int))), (1, .ref q61), (0, .ref (ad 100))]) C dX12_digest_328 hl (k := 1) rfl (by decide) rfl (fun ls hl => ?_)
                                refine lv_goto (tgt := 307) C.1 C.2.1 dX12_digest_331 (by decide) ?_
                                exact ih307 (j + 1) s325 _ _ _ (by omega) fs325 (by rw [dgF_s (fun i => wI (t2 i)) j0.1]; exact ds325) (by omega) hM (lv_sub hl [0, 2, 3, 4, 5, 6, 7] rfl)
                          exact L307 _ 0 s217 _ _ _ (by omega) fs217 ds217 (Nat.lt_succ_self _) hM (lv_sub hl [0, 1, 2, 3, 4, 5, 6] rfl)
                        refine x_icmp_ne C ⟨by omega, by omega⟩ ⟨by omega, by omega⟩ (tgt := 257) dX12_digest_250 (by decide) (fun c250 => ?_) (fun c250 => ?_)
                        · refine lv_aload_n C.1 C.2.1 dX12_digest_257 rfl (lv_at hl 4 rfl) ?_
                          refine g_X12_21 C hM.x (hJ 100 (by decide) (by decide)) wf_X12_51 dX12_digest_258 ?_
                          refine lv_bipush (v := iI 100) C.1 C.2.1 dX12_digest_261 (by decide) ?_
                          refine x_irem2 C ⟨by omega, by omega, by omega⟩ ⟨by omega, by omega, by omega⟩ dX12_digest_263 ?_
                          exact J264 ((s217 231 0) % 100) _ _ _ (by rw [kbe]; exact (if_neg (by omega)).symm) hM (lv_sub hl [0, 1, 2, 3, 4] rfl)
                        · refine lv_iconst (v := iI (-1)) C.1 C.2.1 dX12_digest_253 (by decide) ?_
                          refine lv_goto (tgt := 264) C.1 C.2.1 dX12_digest_254 (by decide) ?_
                          exact J264 (-1) _ _ _ ((if_pos (by omega)).symm) hM (lv_sub hl [0, 1, 2, 3, 4] rfl)
                      refine x_icmp_ne C ⟨by omega, by omega⟩ ⟨by omega, by omega⟩ (tgt := 235) dX12_digest_228 (by decide) (fun c228 => ?_) (fun c228 => ?_)
                      · refine lv_aload_n C.1 C.2.1 dX12_digest_235 rfl (lv_at hl 4 rfl) ?_
                        refine g_X12_21 C hM.x (hJ 100 (by decide) (by decide)) wf_X12_51 dX12_digest_236 ?_
                        refine lv_bipush (v := iI 100) C.1 C.2.1 dX12_digest_239 (by decide) ?_
                        refine x_idiv2 C ⟨by omega, by omega, by omega⟩ ⟨by omega, by omega, by omega⟩ dX12_digest_241 ?_
                        exact J242 ((s217 231 0) / 100) _ _ _ (by rw [kbe]; exact (if_neg (by omega)).symm) hM (lv_sub hl [0, 1, 2, 3, 4] rfl)
                      · refine lv_iconst (v := iI (-1)) C.1 C.2.1 dX12_digest_231 (by decide) ?_
                        refine lv_goto (tgt := 242) C.1 C.2.1 dX12_digest_232 (by decide) ?_
                        exact J242 (-1) _ _ _ ((if_pos (by omega)).symm) hM (lv_sub hl [0, 1, 2, 3, 4] rfl)
                    · have hmm : 0 ≤ ((MLs (σ 201) (σ 202 0) (σ 203 0) (σ 204 0)).getD m.toNat (-1)) ∧ ((MLs (σ 201) (σ 202 0) (σ 203 0) (σ 204 0)).getD m.toNat (-1)) < 2500 := hMB _ (getD_mem (L := (MLs (σ 201) (σ 202 0) (σ 203 0) (σ 204 0))) m0.1 (by omega))
                      refine lv_aload_n C.1 C.2.1 dX12_digest_161 rfl (lv_at hl 4 rfl) ?_
                      refine lv_aload_n C.1 C.2.1 dX12_digest_162 rfl (lv_at hl 4 rfl) ?_
                      refine g_X12_10 C hM.x (hJ 100 (by decide) (by decide)) wf_X12_29 dX12_digest_163 ?_
                      refine lv_iconst (v := iI 0) C.1 C.2.1 dX12_digest_166 (by decide) ?_
                      refine aa_listed C hM.x (hJ 103 (by decide) (by decide)) (i := 0) (by omega) dX12_digest_167 ?_
                      refine lv_iload_n C.1 C.2.1 dX12_digest_168 rfl (lv_at hl 0 rfl) ?_
                      refine al_li C hM.x (by omega) (hJ _ (by omega) (by omega)) (by omega) (by omega) dX12_digest_169 ?_
                      rw [hL3.at m0.1 (by omega)]
                      refine lv_bipush (v := iI 100) C.1 C.2.1 dX12_digest_170 (by decide) ?_
                      refine x_idiv2 C ⟨by omega, by omega, by omega⟩ ⟨by omega, by omega, by omega⟩ dX12_digest_172 ?_
                      refine x_i2lW C dX12_digest_173 ?_
                      refine x_cvA (fun q h => Or.inr h) (x_runVA (As := [.long (jI (wI (((MLs (σ 201) (σ 202 0) (σ 203 0) (σ 204 0)).getD m.toNat (-1)) / 100)))]) (rest := []) C (⟨by show _ ≤ (21 : Nat); omega, by show _ ≤ (40 * 21 : Nat); omega⟩) cw_X12_264 (MET.toA (c_X12_add l D ad G ids hJ s3 (wI (((MLs (σ 201) (σ 202 0) (σ 203 0) (σ 204 0)).getD m.toNat (-1)) / 100)))) hM.x (hJ 100 (by decide) (by decide)) (cx_100 ad G _) rfl rfl rfl rfl (Nat.le_of_ble_eq_true rfl) hl.1 dX12_digest_174 ⟨Nat.le_of_ble_eq_true rfl, Nat.le_of_ble_eq_true rfl⟩) hM (fun s174 H1 lc1 hp hM => ?_)
                      obtain _ := hp
                      have fs174 : EQD s174 (th σ 0) := fs3.add hp
                      have ds174 : s174 233 0 = (dgM (MLs (σ 201) (σ 202 0) (σ 203 0) (σ 204 0)) m.toNat ((dg2 (mw σ) (dg1 (mw σ))) * 31 + wI (MLs (σ 201) (σ 202 0) (σ 203 0) (σ 204 0)).length)) * 31 + (wI (((MLs (σ 201) (σ 202 0) (σ 203 0) (σ 204 0)).getD m.toNat (-1)) / 100)) := add_d hp ds3 rfl
                      have gs174 : s174 240 = s3 240 := by rw [← hp]; exact upr_ne _ _ (by decide)
                      refine lv_aload_n C.1 C.2.1 dX12_digest_177 rfl (lv_at hl 4 rfl) ?_
                      refine lv_aload_n C.1 C.2.1 dX12_digest_178 rfl (lv_at hl 4 rfl) ?_
                      refine g_X12_10 C hM.x (hJ 100 (by decide) (by decide)) wf_X12_29 dX12_digest_179 ?_
                      refine lv_iconst (v := iI 0) C.1 C.2.1 dX12_digest_182 (by decide) ?_
                      refine aa_listed C hM.x (hJ 103 (by decide) (by decide)) (i := 0) (by omega) dX12_digest_183 ?_
                      refine lv_iload_n C.1 C.2.1 dX12_digest_184 rfl (lv_at hl 0 rfl) ?_
                      refine al_li C hM.x (by omega) (hJ _ (by omega) (by omega)) (by omega) (by omega) dX12_digest_185 ?_
                      rw [gs174, hL3.at m0.1 (by omega)]
                      refine lv_bipush (v := iI 100) C.1 C.2.1 dX12_digest_186 (by decide) ?_
                      refine x_irem2 C ⟨by omega, by omega, by omega⟩ ⟨by omega, by omega, by omega⟩ dX12_digest_188 ?_
                      refine x_i2lW C dX12_digest_189 ?_
                      refine x_cvA (fun q h => Or.inr h) (x_runVA (As := [.long (jI (wI (((MLs (σ 201) (σ 202 0) (σ 203 0) (σ 204 0)).getD m.toNat (-1)) % 100)))]) (rest := []) C (⟨by show _ ≤ (21 : Nat); omega, by show _ ≤ (40 * 21 : Nat); omega⟩) cw_X12_264 (MET.toA (c_X12_add l D ad G ids hJ s174 (wI (((MLs (σ 201) (σ 202 0) (σ 203 0) (σ 204 0)).getD m.toNat (-1)) % 100)))) hM.x (hJ 100 (by decide) (by decide)) (cx_100 ad G _) rfl rfl rfl rfl (Nat.le_of_ble_eq_true rfl) hl.1 dX12_digest_190 ⟨Nat.le_of_ble_eq_true rfl, Nat.le_of_ble_eq_true rfl⟩) hM (fun s190 H1 lc1 hp hM => ?_)
                      obtain _ := hp
                      have fs190 : EQD s190 (th σ 0) := fs174.add hp
                      have ds190 : s190 233 0 = ((dgM (MLs (σ 201) (σ 202 0) (σ 203 0) (σ 204 0)) m.toNat ((dg2 (mw σ) (dg1 (mw σ))) * 31 + wI (MLs (σ 201) (σ 202 0) (σ 203 0) (σ 204 0)).length)) * 31 + (wI (((MLs (σ 201) (σ 202 0) (σ 203 0) (σ 204 0)).getD m.toNat (-1)) / 100))) * 31 + (wI (((MLs (σ 201) (σ 202 0) (σ 203 0) (σ 204 0)).getD m.toNat (-1)) % 100)) := add_d hp ds174 rfl
                      have gs190 : s190 240 = s174 240 := by rw [← hp]; exact upr_ne _ _ (by decide)
                      refine x_iinc (lv1 := [(3, .int (iI (m + 1))), (2, .int (iI ((MLs (σ 201) (σ 202 0) (σ 203 0) (σ 204 0)).length : Int))), (4, .int (iI j)), (1, .ref q61), (0, .ref (ad 100))]) C dX12_digest_193 hl (k := 0) rfl (by decide) rfl (fun ls hl => ?_)
                      refine lv_goto (tgt := 156) C.1 C.2.1 dX12_digest_196 (by decide) ?_
                      exact ih156 (m + 1) s190 _ _ _ (by omega) fs190 (by rw [dgM_s (MLs (σ 201) (σ 202 0) (σ 203 0) (σ 204 0)) m0.1]; exact ds190) (hL3.of (gs190.trans gs174)) (by omega) hM (lv_sub hl [0, 1, 2, 3, 4] rfl)
                exact L156 _ 0 s151 _ _ _ (by omega) fs151 ds151 (hL144.of gs151) (Nat.lt_succ_self _) hM (lv_sub hl [0, 1, 2, 3, 4] rfl)
              · refine lv_aload_n C.1 C.2.1 dX12_digest_124 rfl (lv_at hl 2 rfl) ?_
                refine lv_iload C.1 C.2.1 dX12_digest_125 (lv_at hl 0 rfl) ?_
                refine e_lald C hM (by omega) (by omega) (by omega) dX12_digest_127 ?_
                refine lv_lstore (lv' := [(5, .long (jI (t1 j))), (4, .int (iI j)), (3, .int (iI 5)), (2, .ref q61), (1, .ref q61), (0, .ref (ad 100))]) C.1 C.2.1 dX12_digest_128 hl (by decide) rfl (fun ls hl => ?_)
                refine lv_aload_n C.1 C.2.1 dX12_digest_130 rfl (lv_at hl 5 rfl) ?_
                refine lv_lload C.1 C.2.1 dX12_digest_131 (lv_at hl 0 rfl) ?_
                refine x_cvA (fun q h => Or.inr h) (x_runVA (As := [.long (jI (t1 j))]) (rest := []) C (⟨by show _ ≤ (21 : Nat); omega, by show _ ≤ (40 * 21 : Nat); omega⟩) cw_X12_264 (MET.toA (c_X12_add l D ad G ids hJ s2 (t1 j))) hM.x (hJ 100 (by decide) (by decide)) (cx_100 ad G _) rfl rfl rfl rfl (Nat.le_of_ble_eq_true rfl) hl.1 dX12_digest_133 ⟨Nat.le_of_ble_eq_true rfl, Nat.le_of_ble_eq_true rfl⟩) hM (fun s133 H1 lc1 hp hM => ?_)
                obtain _ := hp
                have fs133 : EQD s133 (th σ 0) := fs2.add hp
                have ds133 : s133 233 0 = (dgF t1 j.toNat (dg1 (mw σ))) * 31 + (t1 j) := add_d hp ds2 rfl
                have gs133 : s133 240 = s2 240 := by rw [← hp]; exact upr_ne _ _ (by decide)
                refine x_iinc (lv1 := [(4, .int (iI (j + 1))), (5, .long (jI (t1 j))), (3, .int (iI 5)), (2, .ref q61), (1, .ref q61), (0, .ref (ad 100))]) C dX12_digest_136 hl (k := 1) rfl (by decide) rfl (fun ls hl => ?_)
                refine lv_goto (tgt := 118) C.1 C.2.1 dX12_digest_139 (by decide) ?_
                exact ih118 (j + 1) s133 _ _ _ (by omega) fs133 (by rw [dgF_s t1 j0.1]; exact ds133) (by omega) hM (lv_sub hl [0, 2, 3, 4, 5] rfl)
          exact L118 _ 0 s1 _ _ _ (by omega) fs1 ds1 (Nat.lt_succ_self _) hM (lv_sub hl [0, 1, 2, 3, 4] rfl)
        refine x_if_eq C ⟨by omega, by omega⟩ (tgt := 92) dX12_digest_85 (by decide) (fun c85 => ?_) (fun c85 => ?_)
        · refine lv_lconst (v := jI 0) C.1 C.2.1 dX12_digest_92 (by decide) ?_
          exact J93 0 _ _ _ ((if_neg (fun h => absurd (ks82.mpr h) (by omega))).symm) hM (lv_sub hl [0, 1] rfl)
        · refine lv_lconst (v := jI 1) C.1 C.2.1 dX12_digest_88 (by decide) ?_
          refine lv_goto (tgt := 93) C.1 C.2.1 dX12_digest_89 (by decide) ?_
          exact J93 1 _ _ _ ((if_pos (ks82.mp (by omega))).symm) hM (lv_sub hl [0, 1] rfl)
      · refine lv_aload_n C.1 C.2.1 dX12_digest_43 rfl (lv_at hl 1 rfl) ?_
        refine lv_aload_n C.1 C.2.1 dX12_digest_44 rfl (lv_at hl 1 rfl) ?_
        refine g_X12_3 C hM.x (hJ 100 (by decide) (by decide)) wf_X12_73 dX12_digest_45 ?_
        refine lv_iload_n C.1 C.2.1 dX12_digest_48 rfl (lv_at hl 0 rfl) ?_
        refine al_now C hM.x (hJ 101 (by decide) (by decide)) (wh := (σ 202 0 * σ 203 0)) hwh (by omega) (by omega) (by omega) dX12_digest_49 ?_
        rw [k1]
        refine x_i2lW C dX12_digest_50 ?_
        refine x_cvA (fun q h => Or.inr h) (x_runVA (As := [.long (jI (wI (σ 201 i)))]) (rest := []) C (⟨by show _ ≤ (21 : Nat); omega, by show _ ≤ (40 * 21 : Nat); omega⟩) cw_X12_264 (MET.toA (c_X12_add l D ad G ids hJ s1 (wI (σ 201 i)))) hM.x (hJ 100 (by decide) (by decide)) (cx_100 ad G _) rfl rfl rfl rfl (Nat.le_of_ble_eq_true rfl) hl.1 dX12_digest_51 ⟨Nat.le_of_ble_eq_true rfl, Nat.le_of_ble_eq_true rfl⟩) hM (fun s51 H1 lc1 hp hM => ?_)
        obtain _ := hp
        have fs51 : EQD s51 (th σ 0) := fs1.add hp
        have ds51 : s51 233 0 = (dgF (fun i => wI (σ 201 i)) i.toNat ((58036 * 31 + wI (σ 202 0)) * 31 + wI (σ 203 0))) * 31 + (wI (σ 201 i)) := add_d hp ds1 rfl
        have gs51 : s51 240 = s1 240 := by rw [← hp]; exact upr_ne _ _ (by decide)
        refine x_iinc (lv1 := [(1, .int (iI (i + 1))), (0, .ref (ad 100))]) C dX12_digest_54 hl (k := 0) rfl (by decide) rfl (fun ls hl => ?_)
        refine lv_goto (tgt := 32) C.1 C.2.1 dX12_digest_57 (by decide) ?_
        exact ih32 (i + 1) s51 _ _ _ (by omega) fs51 (by rw [dgF_s (fun i => wI (σ 201 i)) i0.1]; exact ds51) (by omega) hM (lv_sub hl [0, 1] rfl)
  exact L32 _ 0 s27 _ _ _ (by omega) fs27 ds27 (Nat.lt_succ_self _) hM (lv_sub hl [0, 1] rfl)
