/-! table, killers, trail, book: what their methods do -/
def wpF (f : Fn) (n : Int) : Fn := fun x => if 0 ≤ x ∧ x < n then 0 else f x
def fiF (f : Fn) (n : Int) : Fn := fun x => if 0 ≤ x ∧ x < n then -1 else f x
theorem wpF_0 (f : Fn) : wpF f 0 = f := by funext x; unfold wpF; rw [if_neg (by omega)]
theorem fiF_0 (f : Fn) : fiF f 0 = f := by funext x; unfold fiF; rw [if_neg (by omega)]
theorem wpF_s (f : Fn) {i : Int} (h : 0 ≤ i) : ups (wpF f i) i 0 = wpF f (i + 1) := by
  funext x
  unfold ups wpF
  by_cases e : x = i
  · rw [if_pos e, if_pos (by omega)]
  · rw [if_neg e]
    by_cases q : 0 ≤ x ∧ x < i
    · rw [if_pos q, if_pos (by omega)]
    · rw [if_neg q, if_neg (by omega)]
theorem fiF_s (f : Fn) {i : Int} (h : 0 ≤ i) : ups (fiF f i) i (-1) = fiF f (i + 1) := by
  funext x
  unfold ups fiF
  by_cases e : x = i
  · rw [if_pos e, if_pos (by omega)]
  · rw [if_neg e]
    by_cases q : 0 ≤ x ∧ x < i
    · rw [if_pos q, if_pos (by omega)]
    · rw [if_neg q, if_neg (by omega)]
def cntE (f : Fn) : Nat → Int
  | 0 => 0
  | n + 1 => cntE f n + (if 0 < f (n : Int) then 1 else 0)
theorem cntE_s (f : Fn) {i : Int} (h : 0 ≤ i) : cntE f (i + 1).toNat = cntE f i.toNat + (if 0 < f i then 1 else 0) := by
  rw [toNat_s h]
  show cntE f i.toNat + (if 0 < f ((i.toNat : Nat) : Int) then 1 else 0) = _
  rw [Int.toNat_of_nonneg h]
def tellF (σ : Sg) (s k : Int) : Int := if σ 11 s = 0 then -1 else if k = 0 then σ 11 s else if k = 1 then σ 12 s else if k = 2 then σ 13 s else σ 14 s
theorem ans_t {τ : Sg} {s d lo up : Int} (h : 0 ≤ s ∧ τ 11 s = d ∧ (τ 13 s = 0 ∨ (τ 13 s = 1 ∧ up ≤ τ 12 s) ∨ (τ 13 s = 2 ∧ τ 12 s ≤ lo))) : bI (ansB τ s d lo up) = 1 := by
  unfold ansB; rw [decide_eq_true h]; rfl
theorem ans_f {τ : Sg} {s d lo up : Int} (h : ¬ (0 ≤ s ∧ τ 11 s = d ∧ (τ 13 s = 0 ∨ (τ 13 s = 1 ∧ up ≤ τ 12 s) ∨ (τ 13 s = 2 ∧ τ 12 s ≤ lo)))) : bI (ansB τ s d lo up) = 0 := by
  unfold ansB; rw [decide_eq_false h]; rfl
theorem slotT_cs {τ : Sg} (hT : TI τ) {key z : Int} (h : slotT τ key = z) : (0 < τ 9 0 ∧ z = key % τ 9 0 ∧ 0 ≤ z ∧ z < τ 9 0) ∨ (τ 9 0 = 0 ∧ z = -1) := by
  unfold slotT at h
  have q := hT.1
  by_cases e : 0 < τ 9 0
  · rw [if_pos e] at h
    subst h
    exact Or.inl ⟨e, rfl, Int.emod_nonneg _ (by omega), Int.emod_lt_of_pos _ e⟩
  · rw [if_neg e] at h
    exact Or.inr ⟨by omega, h.symm⟩
theorem dep_cs {τ : Sg} (hT : TI τ) {key z r : Int} (h : slotT τ key = z) (hb : (if 0 ≤ z ∧ z < 64 then τ 11 z else 0) = r) : (0 ≤ r ∧ r ≤ 4) ∧ (0 < r → 0 < τ 9 0 ∧ z = key % τ 9 0 ∧ 0 ≤ z ∧ z < 64 ∧ r = τ 11 z) ∧ (¬ 0 < r → ¬ (0 < τ 9 0 ∧ 0 < τ 11 (key % τ 9 0))) := by
  have q := hT.1
  rcases slotT_cs hT h with ⟨a, b, c, d⟩ | ⟨a, b⟩
  · rw [if_pos (by omega)] at hb
    have q2 := (hT.2.1 z).1
    refine ⟨by omega, fun _ => ⟨a, b, c, by omega, hb.symm⟩, fun h9 ⟨_, h8⟩ => ?_⟩
    rw [← b] at h8; omega
  · rw [if_neg (by omega)] at hb
    exact ⟨by omega, fun h9 => by omega, fun _ h9 => by omega⟩
theorem fnd_y {τ : Sg} {key : Int} (h : 0 < τ 9 0 ∧ 0 < τ 11 (key % τ 9 0) ∧ τ 10 (key % τ 9 0) = key) : fndT τ key = key % τ 9 0 := if_pos h
theorem fnd_n {τ : Sg} {key : Int} (h : ¬ (0 < τ 9 0 ∧ 0 < τ 11 (key % τ 9 0) ∧ τ 10 (key % τ 9 0) = key)) : fndT τ key = -1 := if_neg h
theorem fnd_cs {τ : Sg} (hT : TI τ) {key z : Int} (h : fndT τ key = z) : (0 ≤ z ∧ z < 64 ∧ 0 < τ 11 z ∧ τ 10 z = key) ∨ z = -1 := by
  unfold fndT at h
  have q := hT.1
  split at h
  · rename_i e
    subst h
    have a := Int.emod_nonneg key (show τ 9 0 ≠ 0 by omega)
    have b := Int.emod_lt_of_pos key e.1
    exact Or.inl ⟨a, by omega, e.2⟩
  · exact Or.inr h.symm
def TRI (σ : Sg) : Prop := 0 ≤ σ 30 0 ∧ σ 30 0 ≤ 40
def shF (f : Fn) (n : Int) : Fn := fun x => if 0 ≤ x ∧ x < n then f (x + 1) else f x
theorem shF_0 (f : Fn) : shF f 0 = f := by funext x; unfold shF; rw [if_neg (by omega)]
theorem shF_s (f : Fn) {i : Int} (h : 0 ≤ i) : ups (shF f i) i (f (i + 1)) = shF f (i + 1) := by
  funext x
  unfold ups shF
  by_cases e : x = i
  · subst e; rw [if_pos rfl, if_pos (by omega)]
  · rw [if_neg e]
    by_cases q : 0 ≤ x ∧ x < i
    · rw [if_pos q, if_pos (by omega)]
    · rw [if_neg q, if_neg (by omega)]
theorem shF_at (f : Fn) {i : Int} (h : 0 ≤ i) : shF f i (i + 1) = f (i + 1) := by unfold shF; rw [if_neg (by omega)]
def shT (σ : Sg) : Sg := upr (upr (upr σ 28 (shF (σ 28) 39)) 29 (shF (σ 29) 39)) 30 (ups (σ 30) 0 (σ 30 0 - 1))
def putT (σ : Sg) (v t : Int) : Sg := upr (upr (upr σ 28 (ups (σ 28) (σ 30 0) v)) 29 (ups (σ 29) (σ 30 0) t)) 30 (ups (σ 30) 0 (σ 30 0 + 1))
def addT (σ : Sg) (v t : Int) : Sg := if 40 ≤ σ 30 0 then putT (shT σ) v t else putT σ v t
/-- the book -/
def BKI (σ : Sg) : Prop := (0 ≤ σ 27 0 ∧ σ 27 0 ≤ 30) ∧ (∀ k : Int, (0 ≤ σ 24 k ∧ σ 24 k < 4000000000000000000) ∧ (-1 ≤ σ 25 k ∧ σ 25 k < 2500) ∧ (0 ≤ σ 26 k ∧ σ 26 k ≤ 99)) ∧ ∀ i k : Int, 0 ≤ i → i < σ 27 0 → 0 ≤ k → k < σ 27 0 → σ 24 i = σ 24 k → σ 25 i = σ 25 k → i = k
/-- z is the page of a key and a move, or -1 -/
def FB (σ : Sg) (key v z : Int) : Prop := (0 ≤ z ∧ z < σ 27 0 ∧ σ 24 z = key ∧ σ 25 z = v) ∨ (z = -1 ∧ ∀ k : Int, 0 ≤ k → k < σ 27 0 → ¬ (σ 24 k = key ∧ σ 25 k = v))
def wtN (σ : Sg) (key v : Int) : Nat → Int
  | 0 => 0
  | n + 1 => if σ 24 (n : Int) = key ∧ σ 25 (n : Int) = v then σ 26 (n : Int) else wtN σ key v n
def wtF (σ : Sg) (key v : Int) : Int := wtN σ key v (σ 27 0).toNat
theorem wtN_no {σ : Sg} {key v : Int} : ∀ n : Nat, (∀ k : Int, 0 ≤ k → k < n → ¬ (σ 24 k = key ∧ σ 25 k = v)) → wtN σ key v n = 0
  | 0, _ => rfl
  | n + 1, h => by
    unfold wtN
    rw [if_neg (h (n : Int) (by omega) (by omega))]
    exact wtN_no n (fun k a b => h k a (by omega))
theorem wtN_at {σ : Sg} {key v z : Int} (h1 : σ 24 z = key) (h2 : σ 25 z = v) (h0 : 0 ≤ z) : ∀ n : Nat, z < n → (∀ k : Int, 0 ≤ k → k < n → σ 24 k = key → σ 25 k = v → k = z) → wtN σ key v n = σ 26 z
  | 0, h, _ => by omega
  | n + 1, h, hu => by
    unfold wtN
    by_cases e : σ 24 (n : Int) = key ∧ σ 25 (n : Int) = v
    · rw [if_pos e, hu (n : Int) (by omega) (by omega) e.1 e.2]
    · rw [if_neg e]
      have hne : z ≠ (n : Int) := fun q => e (by rw [← q]; exact ⟨h1, h2⟩)
      exact wtN_at h1 h2 h0 n (by omega) (fun k a b => hu k a (by omega))
theorem FB_wt {σ : Sg} (hB : BKI σ) {key v z : Int} (h : FB σ key v z) : (if 0 ≤ z ∧ z < 30 then σ 26 z else 0) = wtF σ key v := by
  unfold wtF
  rcases h with ⟨a, b, c, d⟩ | ⟨a, b⟩
  · have := hB.1
    rw [if_pos (by omega), wtN_at c d a _ (by omega) (fun k k0 k1 e1 e2 => hB.2.2 k z k0 (by omega) a b (by rw [e1, c]) (by rw [e2, d]))]
  · rw [if_neg (by omega), wtN_no _ (fun k k0 k1 => b k k0 (by omega))]
theorem wt_bd {σ : Sg} (hB : BKI σ) (key v : Int) : 0 ≤ wtF σ key v ∧ wtF σ key v ≤ 99 := by
  unfold wtF
  generalize (σ 27 0).toNat = n
  induction n with
  | zero => simp [wtN]
  | succ n ih =>
    unfold wtN
    split
    · exact (hB.2.1 _).2.2
    · exact ih
def chF (w : Int → Int) : List Int → Int → Int → Int → Int
  | [], _, ch, _ => ch
  | v :: vs, n, ch, g => if g < w v then chF w vs (n + 1) n (w v) else chF w vs (n + 1) ch g
def wrB (σ : Sg) (pg key v wt : Int) : Sg := upr (upr (upr (upr σ 24 (ups (σ 24) pg key)) 25 (ups (σ 25) pg v)) 26 (ups (σ 26) pg wt)) 27 (ups (σ 27) 0 (max (σ 27 0) (pg + 1)))
