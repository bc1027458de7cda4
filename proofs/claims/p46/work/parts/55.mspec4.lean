/-! a key tells the board; what the game says depends on the board's fields alone -/
theorem keyF_inj {a b : Fn} (ha : BC a) (hb : BC b) : ∀ n : Nat, keyF a n = keyF b n → ∀ i : Int, 0 ≤ i → i < n → a i = b i
  | 0, _, i, h0, h1 => by omega
  | n + 1, h, i, h0, h1 => by
    have q : keyF a n * 3 + a (n : Int) = keyF b n * 3 + b (n : Int) := h
    have a1 := ha (n : Int)
    have b1 := hb (n : Int)
    by_cases e : i = (n : Int)
    · rw [e]; omega
    · exact keyF_inj ha hb n (by omega) i h0 (by omega)
theorem keyS_inj {S : Nat → Int} {a b : Fn} {s t : Int} (ha : BC a) (hb : BC b) (hs : s = 0 ∨ s = 1) (ht : t = 0 ∨ t = 1) (h : keyS S a s = keyS S b t) : s = t ∧ ∀ i : Int, 0 ≤ i → i < ((S 2 * S 3).toNat : Int) → a i = b i := by
  unfold keyS at h
  have e : s = t := by omega
  exact ⟨e, keyF_inj ha hb _ (by omega)⟩
theorem thruF_ext {a b : Fn} {st v : Int} : ∀ n : Nat, (∀ i : Int, st ≤ i → i < st + n → a i = b i) → thruF a st v n = thruF b st v n
  | 0, _ => rfl
  | n + 1, h => by
    show (thruF a st v n || decide (a (st + (n : Int)) = v)) = (thruF b st v n || decide (b (st + (n : Int)) = v))
    rw [thruF_ext n (fun i h0 h1 => h i h0 (by omega)), h (st + (n : Int)) (by omega) (by omega)]
theorem canS_ext {a b : Fn} {w h r k d : Int} (hw : 3 ≤ w) (hw2 : w ≤ 5) (hh : 3 ≤ h) (hh2 : h ≤ 5) (r0 : 0 ≤ r) (rh : r < h) (k0 : 0 ≤ k) (kw : k < w) (e : ∀ i : Int, 0 ≤ i → i < w * h → a i = b i) : canS a w h r k d = canS b w h r k d := by
  have g := geo (r := r) r0 rh hw hw2 hh2
  have e1 : a (r * w + k) = b (r * w + k) := e _ (by omega) (by omega)
  unfold canS
  rw [e1]
  by_cases q : 0 ≤ trow (b (r * w + k)) r ∧ trow (b (r * w + k)) r < h ∧ 0 ≤ k + d ∧ k + d < w
  · have g2 := geo (r := trow (b (r * w + k)) r) q.1 q.2.1 hw hw2 hh2
    rw [e (trow (b (r * w + k)) r * w + (k + d)) (by omega) (by omega)]
  · rw [decide_eq_false (fun z => q ⟨z.2.2.2.1, z.2.2.2.2.1, z.1, z.2.1⟩), decide_eq_false (fun z => q ⟨z.2.2.2.1, z.2.2.2.2.1, z.1, z.2.1⟩)]
theorem mvs_ext {a b : Fn} {w h sd : Int} (hw : 3 ≤ w) (hw2 : w ≤ 5) (hh : 3 ≤ h) (hh2 : h ≤ 5) (e : ∀ i : Int, 0 ≤ i → i < w * h → a i = b i) : ∀ n : Nat, (n : Int) ≤ w * h → mvs a w h sd n = mvs b w h sd n
  | 0, _ => rfl
  | n + 1, hn => by
    have g := fld2 (n := (n : Int)) (by omega) (by omega) hw hw2 hh hh2
    show mvs a w h sd n ++ (if a (n : Int) = sd + 1 then mf a w h sd ((n : Int) / w) ((n : Int) % w) else []) = mvs b w h sd n ++ (if b (n : Int) = sd + 1 then mf b w h sd ((n : Int) / w) ((n : Int) % w) else [])
    have c := fun d => canS_ext (a := a) (b := b) (d := d) hw hw2 hh hh2 g.1 g.2.1 g.2.2.1 g.2.2.2.1 e
    rw [mvs_ext hw hw2 hh hh2 e n (by omega), e (n : Int) (by omega) (by omega)]
    unfold mf mv1
    rw [c, c, c]
theorem MLs_ext {a b : Fn} {w h sd : Int} (hw : 3 ≤ w) (hw2 : w ≤ 5) (hh : 3 ≤ h) (hh2 : h ≤ 5) (e : ∀ i : Int, 0 ≤ i → i < w * h → a i = b i) : MLs a w h sd = MLs b w h sd := by
  have wb := wh_bd hw hw2 hh hh2
  unfold MLs
  rw [mvs_ext hw hw2 hh hh2 e _ (by omega)]
  have t : thru a w h sd = thru b w h sd := by
    unfold thru
    exact thruF_ext _ (fun i h0 h1 => by
      refine e i ?_ ?_
      · split at h0 <;> omega
      · split at h1 <;> omega)
  rw [t]
