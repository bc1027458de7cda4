/-! the game, as both classes have it: c the fields, w columns, h rows, sd the side to move -/
def bI (b : Bool) : Int := if b = true then 1 else 0
theorem bI_01 (b : Bool) : bI b = 0 ∨ bI b = 1 := by cases b <;> simp [bI]
def trow (what r : Int) : Int := if what = 1 then r + 1 else r - 1
def canS (c : Fn) (w h r k d : Int) : Bool := decide (0 ≤ k + d ∧ k + d < w ∧ c (r * w + k) ≠ 0 ∧ 0 ≤ trow (c (r * w + k)) r ∧ trow (c (r * w + k)) r < h ∧ c (trow (c (r * w + k)) r * w + (k + d)) = if d = 0 then 0 else 3 - c (r * w + k))
theorem canS_t {c : Fn} {w h r k d t : Int} (ht : trow (c (r * w + k)) r = t) (hn : 0 ≤ k + d ∧ k + d < w ∧ c (r * w + k) ≠ 0 ∧ 0 ≤ t ∧ t < h ∧ c (t * w + (k + d)) = if d = 0 then 0 else 3 - c (r * w + k)) : bI (canS c w h r k d) = 1 := by
  subst ht
  unfold canS
  rw [decide_eq_true hn]
  rfl
theorem canS_f {c : Fn} {w h r k d t : Int} (ht : trow (c (r * w + k)) r = t) (hn : ¬ (0 ≤ k + d ∧ k + d < w ∧ c (r * w + k) ≠ 0 ∧ 0 ≤ t ∧ t < h ∧ c (t * w + (k + d)) = if d = 0 then 0 else 3 - c (r * w + k))) : bI (canS c w h r k d) = 0 := by
  subst ht
  unfold canS
  rw [decide_eq_false hn]
  rfl
def mv1 (c : Fn) (w h sd r k d : Int) : List Int := if canS c w h r k d = true then [(r * w + k) * 100 + (r * w + k + (if sd = 0 then w else -w)) + d] else []
def mf (c : Fn) (w h sd r k : Int) : List Int := mv1 c w h sd r k (-1) ++ mv1 c w h sd r k 0 ++ mv1 c w h sd r k 1
def mvs (c : Fn) (w h sd : Int) : Nat → List Int
  | 0 => []
  | n + 1 => mvs c w h sd n ++ (if c (n : Int) = sd + 1 then mf c w h sd ((n : Int) / w) ((n : Int) % w) else [])
def thruF (c : Fn) (st v : Int) : Nat → Bool
  | 0 => false
  | n + 1 => thruF c st v n || decide (c (st + (n : Int)) = v)
def thru (c : Fn) (w h sd : Int) : Bool := thruF c (if sd = 0 then 0 else (h - 1) * w) (2 - sd) w.toNat
def MLs (c : Fn) (w h sd : Int) : List Int := if thru c w h sd = true then [] else mvs c w h sd (w * h).toNat
def keyF (c : Fn) : Nat → Int
  | 0 => 0
  | n + 1 => keyF c n * 3 + c (n : Int)
def cntF (c : Fn) (v : Int) : Nat → Int
  | 0 => 0
  | n + 1 => cntF c v n + (if c (n : Int) = v then 1 else 0)
/-- the board's bounds -/
def BG (σ : Sg) : Prop := 3 ≤ σ 2 0 ∧ σ 2 0 ≤ 5 ∧ 3 ≤ σ 3 0 ∧ σ 3 0 ≤ 5
def BC (c : Fn) : Prop := ∀ f : Int, 0 ≤ c f ∧ c f ≤ 2
theorem geo {r w h : Int} (h0 : 0 ≤ r) (h1 : r < h) (w1 : 3 ≤ w) (w2 : w ≤ 5) (h2 : h ≤ 5) : 0 ≤ r * w ∧ r * w + w ≤ w * h ∧ w * h ≤ 25 ∧ (r + 1) * w = r * w + w ∧ (r - 1) * w = r * w - w := by
  obtain rfl | rfl | rfl : w = 3 ∨ w = 4 ∨ w = 5 := by omega
  all_goals omega
theorem wh_bd {w h : Int} (w1 : 3 ≤ w) (w2 : w ≤ 5) (h1 : 3 ≤ h) (h2 : h ≤ 5) : 9 ≤ w * h ∧ w * h ≤ 25 ∧ h * w = w * h ∧ (h - 1) * w = w * h - w := by
  obtain rfl | rfl | rfl : w = 3 ∨ w = 4 ∨ w = 5 := by omega
  all_goals omega
theorem fld {r k w : Int} (h0 : 0 ≤ k) (h1 : k < w) : (r * w + k) / w = r ∧ (r * w + k) % w = k := by
  have hw : w ≠ 0 := by omega
  constructor
  · rw [Int.add_comm, Int.add_mul_ediv_right _ _ hw, Int.ediv_eq_zero_of_lt h0 h1, Int.zero_add]
  · rw [Int.add_comm, Int.add_mul_emod_self_right, Int.emod_eq_of_lt h0 h1]
/-- list j of the class holds L, of a board c -/
def LM (σ : Sg) (j : Nat) (L : List Int) (c : Fn) : Prop := σ (40 + 6 * j + 4) 0 = L.length ∧ ∀ (i : Nat) (v : Int), L[i]? = some v → σ (40 + 6 * j) (i : Int) = v ∧ σ (40 + 6 * j + 1) (i : Int) = if c (v % 100) ≠ 0 then 1 else 0
/-- nothing but list j is other -/
def OL (j : Nat) (σ σ' : Sg) : Prop := ∀ r : Nat, ¬ (40 + 6 * j ≤ r ∧ r < 46 + 6 * j) → σ' r = σ r
theorem OL.rf {j : Nat} {σ : Sg} : OL j σ σ := fun _ _ => rfl
theorem OL.tr {j : Nat} {a b d : Sg} (h1 : OL j a b) (h2 : OL j b d) : OL j a d := fun r h => (h2 r h).trans (h1 r h)
theorem OL.lo {j : Nat} {σ σ' : Sg} (h : OL j σ σ') {r : Nat} (hr : r < 40) : σ' r = σ r := h r (by omega)
theorem LM.ol {i j : Nat} {σ σ' : Sg} {L : List Int} {c : Fn} (h : OL j σ σ') (hij : i ≠ j) (hL : LM σ i L c) : LM σ' i L c := by
  unfold LM at *
  rw [h _ (by omega), h (40 + 6 * i) (by omega), h (40 + 6 * i + 1) (by omega)]
  exact hL
