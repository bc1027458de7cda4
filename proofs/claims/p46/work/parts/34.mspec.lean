/-! the reference's view of the same game: its registers, 200 less -/
def mw (σ : Sg) : Sg := fun r => σ (200 + r)
def mvM (σ : Sg) (v : Int) : Sg := upr (upr σ 201 (mvF (σ 201) v)) 204 (ups (σ 204) 0 (1 - σ 204 0))
def unM (σ : Sg) (v t : Int) : Sg := upr (upr σ 201 (unF (σ 201) v t)) 204 (ups (σ 204) 0 (1 - σ 204 0))
theorem mw_upr (σ : Sg) (r : Nat) (f : Fn) : mw (upr σ (200 + r) f) = upr (mw σ) r f := by
  funext q
  unfold mw upr
  by_cases e : q = r
  · subst e; rw [if_pos rfl, if_pos rfl]
  · rw [if_neg e, if_neg (by omega)]
theorem mw_mv (σ : Sg) (v : Int) : mw (mvM σ v) = mvG (mw σ) v := by
  unfold mvM mvG
  rw [mw_upr (r := 4), mw_upr (r := 1)]
  rfl
theorem mw_un (σ : Sg) (v t : Int) : mw (unM σ v t) = unG (mw σ) v t := by
  unfold unM unG
  rw [mw_upr (r := 4), mw_upr (r := 1)]
  rfl
theorem unM_mv {σ b : Sg} {v : Int} (hne : v / 100 ≠ v % 100) (h1 : b 201 = mvF (σ 201) v) (h4 : b 204 = ups (σ 204) 0 (1 - σ 204 0)) : unM b v (σ 201 (v % 100)) 201 = σ 201 ∧ unM b v (σ 201 (v % 100)) 204 = σ 204 ∧ ∀ r, r ≠ 201 → r ≠ 204 → unM b v (σ 201 (v % 100)) r = b r := by
  refine ⟨?_, ?_, fun r a d => ?_⟩
  · unfold unM
    rw [upr_ne _ _ (by decide), upr_eq, h1, un_mv _ hne]
  · unfold unM
    rw [upr_eq, h4, ups_ups, ups_eq, show 1 - (1 - σ 204 0) = σ 204 0 by omega, ups_self]
  · unfold unM
    rw [upr_ne _ _ d, upr_ne _ _ a]
def tgM (w h s f d : Int) : Int := if (0 ≤ f / w + (if s = 0 then 1 else -1) ∧ f / w + (if s = 0 then 1 else -1) ≤ h - 1) ∧ (0 ≤ f % w + d ∧ f % w + d ≤ w - 1) then (f / w + (if s = 0 then 1 else -1)) * w + (f % w + d) else -1
def isM (c : Fn) (w h s f d : Int) : Bool := decide (c f = s + 1) && canS c w h (f / w) (f % w) d
/-- a step, by its field -/
theorem step_of {c : Fn} {w h s f d : Int} (hs : s = 0 ∨ s = 1) (w1 : 3 ≤ w) (w2 : w ≤ 5) (h1 : 3 ≤ h) (h2 : h ≤ 5) (f0 : 0 ≤ f) (f1 : f < w * h) (hc : c f = s + 1) :
    (canS c w h (f / w) (f % w) d = true ↔ tgM w h s f d ≠ -1 ∧ c (tgM w h s f d) = if d = 0 then 0 else 2 - s) ∧ (tgM w h s f d ≠ -1 → 0 ≤ tgM w h s f d ∧ tgM w h s f d < w * h ∧ tgM w h s f d = f + (if s = 0 then w else -w) + d) := by
  have g := fld2 f0 f1 w1 w2 h1 h2
  have ht : trow (c (f / w * w + f % w)) (f / w) = f / w + (if s = 0 then 1 else -1) := by
    rw [g.2.2.2.2, hc]
    unfold trow
    rcases hs with rfl | rfl
    · rw [if_pos (by omega), if_pos rfl]
    · rw [if_neg (by omega), if_neg (by decide)]; omega
  by_cases e : (0 ≤ f / w + (if s = 0 then 1 else -1) ∧ f / w + (if s = 0 then 1 else -1) ≤ h - 1) ∧ (0 ≤ f % w + d ∧ f % w + d ≤ w - 1)
  · have hg := geo (r := f / w + (if s = 0 then 1 else -1)) e.1.1 (by omega) w1 w2 h2
    have hg2 := geo g.1 g.2.1 w1 w2 h2
    have hp : (f / w + (if s = 0 then 1 else -1)) * w = f / w * w + (if s = 0 then w else -w) := by
      rcases hs with rfl | rfl
      · rw [if_pos rfl, if_pos rfl]; exact hg2.2.2.2.1
      · rw [if_neg (by decide), if_neg (by decide), show f / w + -1 = f / w - 1 by omega]; omega
    have et : tgM w h s f d = (f / w + (if s = 0 then 1 else -1)) * w + (f % w + d) := if_pos e
    rw [et]
    refine ⟨?_, fun _ => ⟨by omega, by omega, by rw [hp]; omega⟩⟩
    unfold canS
    rw [decide_eq_true_iff, ht, g.2.2.2.2, hc]
    constructor
    · rintro ⟨a1, a2, a3, a4, a5, a6⟩
      exact ⟨by omega, by rw [a6]; split <;> omega⟩
    · rintro ⟨a1, a2⟩
      exact ⟨by omega, by omega, by omega, by omega, by omega, by rw [a2]; split <;> omega⟩
  · have et : tgM w h s f d = -1 := if_neg e
    rw [et]
    refine ⟨?_, fun q => absurd rfl q⟩
    unfold canS
    rw [decide_eq_true_iff, ht, g.2.2.2.2, hc]
    exact ⟨fun ⟨a1, a2, a3, a4, a5, a6⟩ => absurd ⟨⟨a4, by omega⟩, ⟨a1, by omega⟩⟩ e, fun q => absurd rfl q.1⟩
theorem isM_t {c : Fn} {w h s f d : Int} (h1 : c f = s + 1) (h2 : canS c w h (f / w) (f % w) d = true) : bI (isM c w h s f d) = 1 := by
  unfold isM; rw [decide_eq_true h1, h2]; rfl
theorem isM_f {c : Fn} {w h s f d : Int} (hn : ¬ (c f = s + 1 ∧ canS c w h (f / w) (f % w) d = true)) : bI (isM c w h s f d) = 0 := by
  unfold isM
  by_cases e : c f = s + 1
  · have : canS c w h (f / w) (f % w) d = false := by
      cases q : canS c w h (f / w) (f % w) d
      · rfl
      · exact absurd ⟨e, q⟩ hn
    rw [this, Bool.and_false]; rfl
  · rw [decide_eq_false e, Bool.false_and]; rfl
theorem isM_iff {c : Fn} {w h s f d : Int} : isM c w h s f d = true ↔ c f = s + 1 ∧ canS c w h (f / w) (f % w) d = true := by
  unfold isM
  rw [Bool.and_eq_true, decide_eq_true_iff]
/-- steps of a field up to a place aside -/
def stM (c : Fn) (w h s f a : Int) : Int := (if -1 < a then bI (isM c w h s f (-1)) else 0) + (if 0 < a then bI (isM c w h s f 0) else 0) + (if 1 < a then bI (isM c w h s f 1) else 0)
theorem stM_0 (c : Fn) (w h s f : Int) : stM c w h s f (-1) = 0 := rfl
theorem stM_s (c : Fn) (w h s f : Int) {a : Int} (h0 : -1 ≤ a) (h1 : a ≤ 1) : stM c w h s f (a + 1) = stM c w h s f a + bI (isM c w h s f a) := by
  obtain rfl | rfl | rfl : a = -1 ∨ a = 0 ∨ a = 1 := by omega
  all_goals simp [stM]
def cstM (c : Fn) (w h s : Int) : Nat → Int
  | 0 => 0
  | n + 1 => cstM c w h s n + (if c (n : Int) = s + 1 then stepsF c w h ((n : Int) / w) ((n : Int) % w) else 0)
theorem stM_3 (c : Fn) (w h s f : Int) {a : Int} (ha : 2 ≤ a) : stM c w h s f a = if c f = s + 1 then stepsF c w h (f / w) (f % w) else 0 := by
  unfold stM stepsF isM
  rw [if_pos (by omega), if_pos (by omega), if_pos (by omega)]
  by_cases e : c f = s + 1
  · simp only [decide_eq_true e, Bool.true_and, if_pos e]
  · simp only [decide_eq_false e, Bool.false_and, if_neg e]
    rfl
theorem cstM_s (c : Fn) (w h s : Int) {i : Int} (hi : 0 ≤ i) : cstM c w h s (i + 1).toNat = cstM c w h s i.toNat + (if c i = s + 1 then stepsF c w h (i / w) (i % w) else 0) := by
  rw [toNat_s hi]
  show cstM c w h s i.toNat + (if c ((i.toNat : Nat) : Int) = s + 1 then stepsF c w h (((i.toNat : Nat) : Int) / w) (((i.toNat : Nat) : Int) % w) else 0) = _
  rw [Int.toNat_of_nonneg hi]
theorem mv1_l (c : Fn) (w h sd r k d : Int) : ((mv1 c w h sd r k d).length : Int) = bI (canS c w h r k d) := by
  unfold mv1 bI
  by_cases e : canS c w h r k d = true
  · rw [if_pos e, if_pos e]; rfl
  · rw [if_neg e, if_neg e]; rfl
theorem mf_l (c : Fn) (w h sd r k : Int) : ((mf c w h sd r k).length : Int) = stepsF c w h r k := by
  unfold mf stepsF
  simp only [List.length_append, Int.natCast_add, mv1_l]
theorem mvs_l (c : Fn) (w h sd : Int) (n : Nat) : ((mvs c w h sd n).length : Int) = cstM c w h sd n := by
  induction n with
  | zero => rfl
  | succ n ih =>
    show ((mvs c w h sd n ++ _).length : Int) = cstM c w h sd n + _
    rw [List.length_append, Int.natCast_add, ih]
    congr 1
    split
    · exact mf_l _ _ _ _ _ _
    · rfl
theorem cstM_bd (c : Fn) (w h s : Int) (n : Nat) : 0 ≤ cstM c w h s n ∧ cstM c w h s n ≤ 3 * n := by
  induction n with
  | zero => simp [cstM]
  | succ n ih =>
    have := stepsF_bd c w h ((n : Int) / w) ((n : Int) % w)
    show 0 ≤ cstM c w h s n + _ ∧ cstM c w h s n + _ ≤ _
    split <;> omega
def wbs (c : Fn) (w h pm pa s : Int) : Nat → Int
  | 0 => 0
  | n + 1 => wbs c w h pm pa s n + (if c (n : Int) = s + 1 then pm + pa * (if s = 0 then (n : Int) / w else h - 1 - (n : Int) / w) else 0)
theorem wbs_s (c : Fn) (w h pm pa s : Int) {i : Int} (hi : 0 ≤ i) : wbs c w h pm pa s (i + 1).toNat = wbs c w h pm pa s i.toNat + (if c i = s + 1 then pm + pa * (if s = 0 then i / w else h - 1 - i / w) else 0) := by
  rw [toNat_s hi]
  show wbs c w h pm pa s i.toNat + (if c ((i.toNat : Nat) : Int) = s + 1 then pm + pa * (if s = 0 then ((i.toNat : Nat) : Int) / w else h - 1 - ((i.toNat : Nat) : Int) / w) else 0) = _
  rw [Int.toNat_of_nonneg hi]
theorem wsum_split {c : Fn} {w h pm pa pf s : Int} (hs : s = 0 ∨ s = 1) (n : Nat) : wsum c w h pm pa pf s n = pf * cstM c w h s n + wbs c w h pm pa s n := by
  induction n with
  | zero => simp [wsum, cstM, wbs]
  | succ n ih =>
    show wsum c w h pm pa pf s n + _ = pf * (cstM c w h s n + _) + (wbs c w h pm pa s n + _)
    rw [ih, Int.mul_add]
    by_cases e : c (n : Int) = s + 1
    · rw [if_pos e, if_pos e, if_pos e]
      unfold pawnV
      have : (if s + 1 = 1 then (n : Int) / w else h - 1 - (n : Int) / w) = (if s = 0 then (n : Int) / w else h - 1 - (n : Int) / w) := by
        rcases hs with rfl | rfl <;> rfl
      rw [this]
      omega
    · rw [if_neg e, if_neg e, if_neg e, Int.mul_zero]
      omega
theorem MLs_l (c : Fn) (w h sd : Int) : ((MLs c w h sd).length : Int) = if thru c w h sd = true then 0 else cstM c w h sd (w * h).toNat := by
  unfold MLs
  split
  · rfl
  · exact mvs_l _ _ _ _ _
theorem MLs_nil {c : Fn} {w h sd : Int} : MLs c w h sd = [] ↔ (thru c w h sd = true ∨ cstM c w h sd (w * h).toNat = 0) := by
  have q := MLs_l c w h sd
  constructor
  · intro e
    rw [e] at q
    by_cases t : thru c w h sd = true
    · exact Or.inl t
    · rw [if_neg t] at q; exact Or.inr q.symm
  · intro e
    apply List.eq_nil_of_length_eq_zero
    by_cases t : thru c w h sd = true
    · rw [if_pos t] at q; omega
    · rw [if_neg t] at q; have := e.resolve_left t; omega
