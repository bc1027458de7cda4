/-! what isSound asks, of the pure words -/
/-- a move goes a row on; aside just if it takes -/
def GEO (c : Fn) (w sd v : Int) : Prop := c (v / 100) = sd + 1 ∧ (v % 100) / w = (v / 100) / w + (if sd = 0 then 1 else -1) ∧ (-1 ≤ (v % 100) % w - (v / 100) % w ∧ (v % 100) % w - (v / 100) % w ≤ 1) ∧ (((v % 100) % w ≠ (v / 100) % w ∧ c (v % 100) = 2 - sd) ∨ ((v % 100) % w = (v / 100) % w ∧ c (v % 100) = 0))
theorem mv1_geo {c : Fn} {w h sd r k d : Int} (hs : sd = 0 ∨ sd = 1) (hw : c (r * w + k) = sd + 1) (r0 : 0 ≤ r) (rh : r < h) (k0 : 0 ≤ k) (kw : k < w) (w1 : 3 ≤ w) (w2 : w ≤ 5) (h2 : h ≤ 5) (hd : -1 ≤ d ∧ d ≤ 1) : ∀ v, v ∈ mv1 c w h sd r k d → GEO c w sd v := by
  intro v hv
  unfold mv1 at hv
  split at hv
  · rename_i hc
    rw [List.mem_singleton] at hv
    have g := canS_at hs hw hc r0 rh w1 w2 h2 hd
    have g2 := geo r0 rh w1 w2 h2
    unfold canS at hc
    obtain ⟨a1, a2, a3, a4, a5, a6⟩ := of_decide_eq_true hc
    have ht : trow (c (r * w + k)) r = r + (if sd = 0 then 1 else -1) := by
      rw [hw]
      unfold trow
      rcases hs with rfl | rfl
      · rw [if_pos (by omega), if_pos rfl]
      · rw [if_neg (by omega), if_neg (by decide)]; omega
    have e : r * w + k + (if sd = 0 then w else -w) + d = (r + (if sd = 0 then 1 else -1)) * w + (k + d) := by
      rcases hs with rfl | rfl
      · rw [if_pos rfl, if_pos rfl, g2.2.2.2.1]; omega
      · rw [if_neg (by decide), if_neg (by decide), show r + -1 = r - 1 by omega, g2.2.2.2.2]; omega
    rw [show (r * w + k) * 100 + (r * w + k + (if sd = 0 then w else -w)) + d = (r * w + k) * 100 + (r * w + k + (if sd = 0 then w else -w) + d) by omega] at hv
    have q := mv_parts (f := r * w + k) g.1 (by omega)
    rw [← hv] at q
    have f1 := fld (r := r) k0 kw
    have f2 := fld (r := r + (if sd = 0 then 1 else -1)) a1 a2
    have e9 := g.2.2
    unfold GEO
    rw [q.1, q.2]
    rw [e] at e9 ⊢
    rw [f1.1, f1.2, f2.1, f2.2]
    refine ⟨hw, rfl, by omega, ?_⟩
    by_cases hd0 : d = 0
    · rw [if_pos hd0] at e9; exact Or.inr ⟨by omega, e9⟩
    · rw [if_neg hd0] at e9; exact Or.inl ⟨by omega, e9⟩
  · cases hv
theorem mvs_geo {c : Fn} {w h sd : Int} (hs : sd = 0 ∨ sd = 1) (w1 : 3 ≤ w) (w2 : w ≤ 5) (h1 : 3 ≤ h) (h2 : h ≤ 5) (n : Nat) (hn : (n : Int) ≤ w * h) : ∀ v, v ∈ mvs c w h sd n → GEO c w sd v := by
  induction n with
  | zero => exact fun v hv => absurd hv List.not_mem_nil
  | succ n ih =>
    intro v hv
    rcases List.mem_append.mp hv with hv | hv
    · exact ih (by omega) v hv
    · have g := fld2 (n := (n : Int)) (by omega) (by omega) w1 w2 h1 h2
      split at hv
      · rename_i e
        have e2 : c ((n : Int) / w * w + (n : Int) % w) = sd + 1 := by rw [g.2.2.2.2]; exact e
        unfold mf at hv
        rcases List.mem_append.mp hv with hv | hv
        · rcases List.mem_append.mp hv with hv | hv
          · exact mv1_geo hs e2 g.1 g.2.1 g.2.2.1 g.2.2.2.1 w1 w2 h2 (by omega) v hv
          · exact mv1_geo hs e2 g.1 g.2.1 g.2.2.1 g.2.2.2.1 w1 w2 h2 (by omega) v hv
        · exact mv1_geo hs e2 g.1 g.2.1 g.2.2.1 g.2.2.2.1 w1 w2 h2 (by omega) v hv
      · cases hv
theorem MLs_geo {c : Fn} {w h sd : Int} (hs : sd = 0 ∨ sd = 1) (w1 : 3 ≤ w) (w2 : w ≤ 5) (h1 : 3 ≤ h) (h2 : h ≤ 5) : ∀ v, v ∈ MLs c w h sd → GEO c w sd v := by
  unfold MLs
  split
  · exact fun v hv => absurd hv List.not_mem_nil
  · have := wh_bd w1 w2 h1 h2
    exact mvs_geo hs w1 w2 h1 h2 _ (by omega)
theorem MLs_pw {c : Fn} {w h sd : Int} (hs : sd = 0 ∨ sd = 1) (w1 : 3 ≤ w) (w2 : w ≤ 5) (h1 : 3 ≤ h) (h2 : h ≤ 5) : (MLs c w h sd).Pairwise (· < ·) := by
  unfold MLs
  split
  · exact List.Pairwise.nil
  · have := wh_bd w1 w2 h1 h2
    exact (mvs_pw hs w1 w2 h1 h2 _ (by omega)).1
theorem getD_pw {L : List Int} (h : L.Pairwise (· < ·)) {a b : Int} (a0 : 0 ≤ a) (ab : a < b) (b1 : b < L.length) : L.getD a.toNat (-1) < L.getD b.toNat (-1) := by
  rw [getD_lt (by omega), getD_lt (by omega)]
  exact List.pairwise_iff_getElem.mp h a.toNat b.toNat (by omega) (by omega) (by omega)
theorem foldl_cnt : ∀ (L : List Int) (a : Int), L.foldl (fun (a : Int) (_ : Int) => a + 1) a = a + L.length
  | [], a => by simp
  | v :: vs, a => by
    show vs.foldl (fun (a : Int) (_ : Int) => a + 1) (a + 1) = a + ((vs.length + 1 : Nat) : Int)
    rw [foldl_cnt vs (a + 1)]; omega
theorem waysF_1 (S : Nat → Int) (c : Fn) (sd : Int) : waysF S 1 c sd = ((MLs c (S 2) (S 3) sd).length : Int) := by
  show (MLs c (S 2) (S 3) sd).foldl (fun a _ => a + 1) 0 = _
  rw [foldl_cnt]; omega
theorem vv1_ge (S : Nat → Int) {c : Fn} {sd v : Int} (hv : v ∈ MLs c (S 2) (S 3) sd) : -(vv S 0 (mvF c v) (1 - sd)) ≤ vv S 1 c sd := by
  have hne : MLs c (S 2) (S 3) sd ≠ [] := List.ne_nil_of_mem hv
  have e : vv S 1 c sd = vvl (vv S 0) c sd (MLs c (S 2) (S 3) sd) (-100000) := by rw [vv, if_neg hne]
  rw [e]
  exact ((vvl_le _ _).mp (Int.le_refl _)).2 v hv
theorem cntE_le (f : Fn) (n : Nat) : 0 ≤ cntE f n ∧ cntE f n ≤ n := by
  induction n with
  | zero => exact ⟨Int.le_refl _, Int.le_refl _⟩
  | succ n ih =>
    show 0 ≤ cntE f n + _ ∧ cntE f n + _ ≤ _
    split <;> omega
theorem cntE_cut {f : Fn} {m : Nat} (hf : ∀ i : Int, (m : Int) ≤ i → f i = 0) : ∀ n : Nat, m ≤ n → cntE f n = cntE f m
  | 0, h => by rw [show m = 0 by omega]
  | n + 1, h => by
    by_cases e : m = n + 1
    · rw [e]
    · show cntE f n + (if 0 < f (n : Int) then 1 else 0) = _
      rw [if_neg (by rw [hf n (by omega)]; omega), cntE_cut hf n (by omega)]
      omega
theorem cntE_0 {f : Fn} (hf : ∀ i : Int, f i = 0) : ∀ n : Nat, cntE f n = 0
  | 0 => rfl
  | n + 1 => by
    show cntE f n + (if 0 < f (n : Int) then 1 else 0) = _
    rw [if_neg (by rw [hf n]; omega), cntE_0 hf n]; rfl
section JF
variable {σ : Sg}
theorem JI.geo (h : JI σ) {v : Int} (hv : v ∈ MLg0 σ) : GEO (σ 1) (σ 2 0) (σ 4 0) v := MLs_geo h.sd h.g.1.1 h.g.1.2.1 h.g.1.2.2.1 h.g.1.2.2.2 v hv
theorem JI.ok (h : JI σ) {v : Int} (hv : v ∈ MLg0 σ) : (0 ≤ v ∧ v / 100 < σ 2 0 * σ 3 0 ∧ v % 100 < σ 2 0 * σ 3 0) ∧ v / 100 ≠ v % 100 ∧ v < 2500 := MV.ok hv h.g
theorem JI.pw (h : JI σ) : (MLg0 σ).Pairwise (· < ·) := MLs_pw h.sd h.g.1.1 h.g.1.2.1 h.g.1.2.2.1 h.g.1.2.2.2
theorem JI.l18 (h : JI σ) : ((MLg0 σ).length : Int) ≤ 18 := by
  have q : (MLg0 σ).length ≤ 18 := MLs18 h.g
  omega
theorem JI.told (h : JI σ) : (tlF σ = -1 ∨ (0 ≤ tlF σ ∧ tlF σ < ((MLg0 σ).length : Int))) ∧ (MLg0 σ = [] → tlF σ = -1) := by
  have hci : tlF σ = -1 ∨ (0 ≤ tlF σ ∧ tlF σ < 0 + ((MLg0 σ).length : Int)) := chF_in _ _ 0 (-1) 0 (Or.inl rfl) (by decide)
  refine ⟨by omega, fun e => ?_⟩
  rw [e] at hci
  have e0 : ((([] : List Int).length : Nat) : Int) = 0 := rfl
  omega
theorem JI.ent (h : JI σ) : cntE (σ 11) 64 = cntE (σ 11) (σ 9 0).toNat ∧ 0 ≤ cntE (σ 11) 64 ∧ cntE (σ 11) 64 ≤ σ 9 0 := by
  have t9 := h.ti.1
  have e : cntE (σ 11) 64 = cntE (σ 11) (σ 9 0).toNat := cntE_cut (fun i hi => by
    have a := (h.ti.2.1 i).1
    by_cases q : 0 < σ 11 i
    · have := (h.ts i q).1; omega
    · omega) 64 (by omega)
  have b := cntE_le (σ 11) (σ 9 0).toNat
  rw [e]
  exact ⟨rfl, b.1, by omega⟩
theorem JI.tell (h : JI σ) (s : Int) : (tellF σ s 0 = -1 ∧ σ 11 s = 0) ∨ (0 < σ 11 s ∧ σ 11 s ≤ 4 ∧ tellF σ s 0 = σ 11 s ∧ tellF σ s 1 = σ 12 s ∧ tellF σ s 2 = σ 13 s ∧ tellF σ s 3 = σ 14 s ∧ (0 ≤ σ 13 s ∧ σ 13 s ≤ 2) ∧ (0 ≤ σ 14 s ∧ σ 14 s < 2500) ∧ (-10000 ≤ σ 12 s ∧ σ 12 s ≤ 10000)) := by
  obtain ⟨t1, t2, t3, t4, -⟩ := h.ti.2.1 s
  by_cases e : σ 11 s = 0
  · exact Or.inl ⟨if_pos e, e⟩
  · obtain ⟨c, sd, -, hs, -, hm⟩ := h.tl s (by omega)
    have ok := MLs_ok (c := c) hs h.g.1.1 h.g.1.2.1 h.g.1.2.2.1 h.g.1.2.2.2 _ hm
    refine Or.inr ⟨by omega, by omega, ?_, ?_, ?_, ?_, t3, ⟨ok.1, t4.2⟩, t2⟩
    · unfold tellF; rw [if_neg e, if_pos rfl]
    · unfold tellF; rw [if_neg e, if_neg (by decide), if_pos rfl]
    · unfold tellF; rw [if_neg e, if_neg (by decide), if_neg (by decide), if_pos rfl]
    · unfold tellF; rw [if_neg e, if_neg (by decide), if_neg (by decide), if_neg (by decide)]
theorem JI.key (h : JI σ) : 0 ≤ keyS (cfg σ) (σ 1) (σ 4 0) ∧ keyS (cfg σ) (σ 1) (σ 4 0) < 4000000000000000000 := SB_key h.g
theorem JI.kn (h : JI σ) : knF σ = 0 ∨ (0 < σ 9 0 ∧ 0 < σ 11 (keyS (cfg σ) (σ 1) (σ 4 0) % σ 9 0) ∧ knF σ = σ 11 (keyS (cfg σ) (σ 1) (σ 4 0) % σ 9 0) ∧ knF σ ≤ 4 ∧ (σ 13 (keyS (cfg σ) (σ 1) (σ 4 0) % σ 9 0) ≠ 2 → σ 12 (keyS (cfg σ) (σ 1) (σ 4 0) % σ 9 0) ≤ vv (cfg σ) (knF σ).toNat (σ 1) (σ 4 0)) ∧ (σ 13 (keyS (cfg σ) (σ 1) (σ 4 0) % σ 9 0) ≠ 1 → vv (cfg σ) (knF σ).toNat (σ 1) (σ 4 0) ≤ σ 12 (keyS (cfg σ) (σ 1) (σ 4 0) % σ 9 0))) := by
  by_cases z : 0 < σ 9 0 ∧ 0 < σ 11 (keyS (cfg σ) (σ 1) (σ 4 0) % σ 9 0) ∧ σ 10 (keyS (cfg σ) (σ 1) (σ 4 0) % σ 9 0) = keyS (cfg σ) (σ 1) (σ 4 0)
  · have ef := fnd_y z
    have b1 := Int.emod_nonneg (keyS (cfg σ) (σ 1) (σ 4 0)) (show σ 9 0 ≠ 0 by omega)
    have ek : knF σ = σ 11 (keyS (cfg σ) (σ 1) (σ 4 0) % σ 9 0) := by
      unfold knF
      rw [ef, if_neg (by omega)]
    obtain ⟨-, c2, s2, b2, t2, k2, m1, m2⟩ := h.ts _ z.2.1
    obtain ⟨rfl, rfl⟩ := BDG.eq h.sb b2 h.bd t2 h.sd (k2.trans z.2.2)
    have t4 := (h.ti.2.1 (keyS (cfg σ) (σ 1) (σ 4 0) % σ 9 0)).1
    rw [ek]
    exact Or.inr ⟨z.1, z.2.1, rfl, t4.2, m1, m2⟩
  · left
    unfold knF
    rw [fnd_n z, if_pos rfl]
theorem JI.pawns (h : JI σ) : cntF (σ 1) 1 (σ 2 0 * σ 3 0).toNat ≤ 6 ∧ cntF (σ 1) 2 (σ 2 0 * σ 3 0).toNat ≤ 6 := by
  have w := h.wh
  have p := h.bd.2.1
  have a := cntF_le (c := σ 1) (v := 1) (n := (σ 2 0 * σ 3 0).toNat) (m := 25) (by omega)
  have b := cntF_le (c := σ 1) (v := 2) (n := (σ 2 0 * σ 3 0).toNat) (m := 25) (by omega)
  exact ⟨Int.le_trans a p.1, Int.le_trans b p.2⟩
theorem JI.vvb (h : JI σ) {d : Nat} (hd : d ≤ 10) : -9000 ≤ vv (cfg σ) d (σ 1) (σ 4 0) ∧ vv (cfg σ) d (σ 1) (σ 4 0) ≤ 9000 := vv_9 h.sb d _ _ hd
theorem JI.vb (h : JI σ) (v : Int) : -9000 ≤ vv (cfg σ) 0 (mvF (σ 1) v) (1 - σ 4 0) ∧ vv (cfg σ) 0 (mvF (σ 1) v) (1 - σ 4 0) ≤ 9000 := vv_9 h.sb 0 _ _ (by decide)
end JF
