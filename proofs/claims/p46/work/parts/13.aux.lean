theorem ite01 {P : Prop} [Decidable P] {z : Int} (h : (if P then (1 : Int) else 0) = z) : (z = 0 ∨ z = 1) ∧ (z ≠ 0 ↔ P) := by
  by_cases hp : P
  · rw [if_pos hp] at h; subst h; exact ⟨Or.inr rfl, fun _ => hp, fun _ => by decide⟩
  · rw [if_neg hp] at h; subst h; exact ⟨Or.inl rfl, fun q => absurd rfl q, fun q => absurd q hp⟩
theorem bI01 {b : Bool} {z : Int} (h : bI b = z) : (z = 0 ∨ z = 1) ∧ (z ≠ 0 ↔ b = true) := ite01 h
/-- the steps of a pawn up to a place aside -/
def mfp (c : Fn) (w h sd r k a : Int) : List Int := (if -1 < a then mv1 c w h sd r k (-1) else []) ++ (if 0 < a then mv1 c w h sd r k 0 else []) ++ (if 1 < a then mv1 c w h sd r k 1 else [])
theorem mfp_0 (c : Fn) (w h sd r k : Int) : mfp c w h sd r k (-1) = [] := rfl
theorem mfp_3 (c : Fn) (w h sd r k : Int) {a : Int} (ha : 2 ≤ a) : mfp c w h sd r k a = mf c w h sd r k := by
  unfold mfp mf
  rw [if_pos (by omega), if_pos (by omega), if_pos (by omega)]
theorem mfp_s (c : Fn) (w h sd r k : Int) {a : Int} (h0 : -1 ≤ a) (h1 : a ≤ 1) : mfp c w h sd r k (a + 1) = mfp c w h sd r k a ++ mv1 c w h sd r k a := by
  obtain rfl | rfl | rfl : a = -1 ∨ a = 0 ∨ a = 1 := by omega
  all_goals simp [mfp]
theorem mfp_len (c : Fn) (w h sd r k : Int) {a : Int} (h0 : -1 ≤ a) (h1 : a ≤ 1) : (mfp c w h sd r k a).length ≤ 2 := by
  have x := mv1_len c w h sd r k (-1)
  have y := mv1_len c w h sd r k 0
  obtain rfl | rfl | rfl : a = -1 ∨ a = 0 ∨ a = 1 := by omega
  · simp [mfp]
  · simp [mfp]; omega
  · simp [mfp]; omega
theorem BG_of {a b : Sg} (h2 : b 2 = a 2) (h3 : b 3 = a 3) : BG b = BG a := by unfold BG; rw [h2, h3]
theorem mv_flag {c : Fn} {w h sd r k d v : Int} (hs : sd = 0 ∨ sd = 1) (hw : c (r * w + k) = sd + 1) (hc : canS c w h r k d = true) (r0 : 0 ≤ r) (rh : r < h) (w1 : 3 ≤ w) (w2 : w ≤ 5) (h2 : h ≤ 5) (hd : -1 ≤ d ∧ d ≤ 1) (hv : v = (r * w + k) * 100 + (r * w + k + (if sd = 0 then w else -w)) + d) : (if c (v % 100) ≠ 0 then (1 : Int) else 0) = if d = 0 then 0 else 1 := by
  have g := canS_at hs hw hc r0 rh w1 w2 h2 hd
  have g2 := geo r0 rh w1 w2 h2
  have e : v % 100 = r * w + k + (if sd = 0 then w else -w) + d := by
    rw [hv, show (r * w + k) * 100 + (r * w + k + (if sd = 0 then w else -w)) + d = (r * w + k) * 100 + (r * w + k + (if sd = 0 then w else -w) + d) by omega]
    exact (mv_parts (f := r * w + k) g.1 (by omega)).2
  rw [e, g.2.2]
  by_cases hd0 : d = 0
  · rw [if_pos hd0, if_pos hd0]; rfl
  · rw [if_neg hd0, if_neg hd0, if_pos (by omega)]
