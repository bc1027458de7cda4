/-! facts of the game's lists -/
theorem toNat_s {i : Int} (h : 0 ≤ i) : (i + 1).toNat = i.toNat + 1 := by omega
theorem keyF_s (c : Fn) {i : Int} (h : 0 ≤ i) : keyF c (i + 1).toNat = keyF c i.toNat * 3 + c i := by
  rw [toNat_s h]
  show keyF c i.toNat * 3 + c ((i.toNat : Nat) : Int) = _
  rw [Int.toNat_of_nonneg h]
theorem cntF_s (c : Fn) (v : Int) {i : Int} (h : 0 ≤ i) : cntF c v (i + 1).toNat = cntF c v i.toNat + (if c i = v then 1 else 0) := by
  rw [toNat_s h]
  show cntF c v i.toNat + (if c ((i.toNat : Nat) : Int) = v then 1 else 0) = _
  rw [Int.toNat_of_nonneg h]
theorem thruF_s (c : Fn) (st v : Int) {i : Int} (h : 0 ≤ i) : thruF c st v (i + 1).toNat = (thruF c st v i.toNat || decide (c (st + i) = v)) := by
  rw [toNat_s h]
  show (thruF c st v i.toNat || decide (c (st + ((i.toNat : Nat) : Int)) = v)) = _
  rw [Int.toNat_of_nonneg h]
theorem thruF_mono {c : Fn} {st v : Int} {n m : Nat} (h : n ≤ m) (ht : thruF c st v n = true) : thruF c st v m = true := by
  induction m with
  | zero => have : n = 0 := by omega
            subst this; exact ht
  | succ m ih =>
    by_cases e : n = m + 1
    · subst e; exact ht
    · show (thruF c st v m || _) = true
      rw [ih (by omega)]; rfl
theorem mvs_s (c : Fn) {w h sd r k : Int} (h0 : 0 ≤ r * w) (hk0 : 0 ≤ k) (hk : k < w) : mvs c w h sd (r * w + k + 1).toNat = mvs c w h sd (r * w + k).toNat ++ (if c (r * w + k) = sd + 1 then mf c w h sd r k else []) := by
  rw [toNat_s (by omega)]
  show mvs c w h sd (r * w + k).toNat ++ (if c (((r * w + k).toNat : Nat) : Int) = sd + 1 then mf c w h sd ((((r * w + k).toNat : Nat) : Int) / w) ((((r * w + k).toNat : Nat) : Int) % w) else []) = _
  rw [Int.toNat_of_nonneg (by omega), (fld hk0 hk).1, (fld hk0 hk).2]
theorem cntF_le {c : Fn} {v : Int} {n m : Nat} (h : n ≤ m) : cntF c v n ≤ cntF c v m := by
  induction m with
  | zero => have : n = 0 := by omega
            subst this; exact Int.le_refl _
  | succ m ih =>
    by_cases e : n = m + 1
    · subst e; exact Int.le_refl _
    · have := ih (by omega)
      show _ ≤ cntF c v m + (if c (m : Int) = v then 1 else 0)
      split <;> omega
theorem mv1_len (c : Fn) (w h sd r k d : Int) : (mv1 c w h sd r k d).length ≤ 1 := by
  unfold mv1; split <;> simp
theorem mf_len (c : Fn) (w h sd r k : Int) : (mf c w h sd r k).length ≤ 3 := by
  unfold mf
  have a := mv1_len c w h sd r k (-1)
  have b := mv1_len c w h sd r k 0
  have d := mv1_len c w h sd r k 1
  simp only [List.length_append]
  omega
theorem mvs_len (c : Fn) (w h sd : Int) (n : Nat) : ((mvs c w h sd n).length : Int) ≤ 3 * cntF c (sd + 1) n := by
  induction n with
  | zero => simp [mvs, cntF]
  | succ n ih =>
    have := mf_len c w h sd ((n : Int) / w) ((n : Int) % w)
    simp only [mvs, cntF, List.length_append]
    split
    · simp only [Int.natCast_add]; omega
    · simp only [List.length_nil]; omega
/-- where a step goes -/
theorem canS_at {c : Fn} {w h sd r k d : Int} (hs : sd = 0 ∨ sd = 1) (hw : c (r * w + k) = sd + 1) (hc : canS c w h r k d = true) (r0 : 0 ≤ r) (rh : r < h) (w1 : 3 ≤ w) (w2 : w ≤ 5) (h2 : h ≤ 5) (hd : -1 ≤ d ∧ d ≤ 1) :
    0 ≤ r * w + k + (if sd = 0 then w else -w) + d ∧ r * w + k + (if sd = 0 then w else -w) + d < w * h ∧ c (r * w + k + (if sd = 0 then w else -w) + d) = if d = 0 then 0 else 2 - sd := by
  unfold canS at hc
  obtain ⟨a1, a2, a3, a4, a5, a6⟩ := of_decide_eq_true hc
  rcases hs with rfl | rfl
  · have ht : trow (c (r * w + k)) r = r + 1 := by unfold trow; rw [if_pos (by omega)]
    rw [ht] at a4 a5 a6
    have g := geo a4 a5 w1 w2 h2
    have g2 := geo r0 rh w1 w2 h2
    rw [g2.2.2.2.1] at a6 g
    rw [if_pos rfl]
    refine ⟨by omega, by omega, ?_⟩
    rw [show r * w + k + w + d = r * w + w + (k + d) by omega, a6]
    split <;> omega
  · have ht : trow (c (r * w + k)) r = r - 1 := by unfold trow; rw [if_neg (by omega)]
    rw [ht] at a4 a5 a6
    have g := geo a4 a5 w1 w2 h2
    have g2 := geo r0 rh w1 w2 h2
    rw [g2.2.2.2.2] at a6 g
    rw [if_neg (by decide)]
    refine ⟨by omega, by omega, ?_⟩
    rw [show r * w + k + -w + d = r * w - w + (k + d) by omega, a6]
    split <;> omega
theorem mv_parts {f t : Int} (h0 : 0 ≤ t) (h1 : t < 100) : (f * 100 + t) / 100 = f ∧ (f * 100 + t) % 100 = t := by omega
/-- what a list of moves is good for -/
def ML_ok (c : Fn) (w h sd : Int) (L : List Int) : Prop := ∀ v, v ∈ L → 0 ≤ v ∧ 0 ≤ v / 100 ∧ v / 100 < w * h ∧ v % 100 < w * h ∧ v / 100 ≠ v % 100 ∧ c (v / 100) = sd + 1 ∧ (c (v % 100) = 0 ∨ c (v % 100) = 2 - sd)
theorem mv1_ok {c : Fn} {w h sd r k d : Int} (hs : sd = 0 ∨ sd = 1) (hw : c (r * w + k) = sd + 1) (r0 : 0 ≤ r) (rh : r < h) (k0 : 0 ≤ k) (kw : k < w) (w1 : 3 ≤ w) (w2 : w ≤ 5) (h2 : h ≤ 5) (hd : -1 ≤ d ∧ d ≤ 1) : ML_ok c w h sd (mv1 c w h sd r k d) := by
  intro v hv
  unfold mv1 at hv
  split at hv
  · rename_i hc
    rw [List.mem_singleton] at hv
    have g := canS_at hs hw hc r0 rh w1 w2 h2 hd
    have g2 := geo r0 rh w1 w2 h2
    rw [show (r * w + k) * 100 + (r * w + k + (if sd = 0 then w else -w)) + d = (r * w + k) * 100 + (r * w + k + (if sd = 0 then w else -w) + d) by omega] at hv
    have q := mv_parts (f := r * w + k) g.1 (by omega)
    rw [← hv] at q
    rw [q.1, q.2]
    refine ⟨by omega, by omega, by omega, by omega, ?_, hw, ?_⟩
    · intro e
      rw [← e, hw] at g
      have := g.2.2
      rcases hs with rfl | rfl
      · rw [if_pos rfl] at e; split at this <;> omega
      · rw [if_neg (by decide)] at e; split at this <;> omega
    · have e9 := g.2.2
      by_cases hd0 : d = 0
      · rw [if_pos hd0] at e9; exact Or.inl e9
      · rw [if_neg hd0] at e9; exact Or.inr e9
  · cases hv
theorem ML_app {c : Fn} {w h sd : Int} {a b : List Int} (ha : ML_ok c w h sd a) (hb : ML_ok c w h sd b) : ML_ok c w h sd (a ++ b) := fun v hv => (List.mem_append.mp hv).elim (ha v) (hb v)
theorem ML_nil {c : Fn} {w h sd : Int} : ML_ok c w h sd [] := fun v hv => absurd hv List.not_mem_nil
theorem mf_ok {c : Fn} {w h sd r k : Int} (hs : sd = 0 ∨ sd = 1) (hw : c (r * w + k) = sd + 1) (r0 : 0 ≤ r) (rh : r < h) (k0 : 0 ≤ k) (kw : k < w) (w1 : 3 ≤ w) (w2 : w ≤ 5) (h2 : h ≤ 5) : ML_ok c w h sd (mf c w h sd r k) :=
  ML_app (ML_app (mv1_ok hs hw r0 rh k0 kw w1 w2 h2 (by omega)) (mv1_ok hs hw r0 rh k0 kw w1 w2 h2 (by omega))) (mv1_ok hs hw r0 rh k0 kw w1 w2 h2 (by omega))
theorem fld2 {n w h : Int} (h0 : 0 ≤ n) (h1 : n < w * h) (w1 : 3 ≤ w) (w2 : w ≤ 5) (hh1 : 3 ≤ h) (h2 : h ≤ 5) : 0 ≤ n / w ∧ n / w < h ∧ 0 ≤ n % w ∧ n % w < w ∧ n / w * w + n % w = n := by
  obtain rfl | rfl | rfl : w = 3 ∨ w = 4 ∨ w = 5 := by omega
  all_goals omega
theorem mvs_ok {c : Fn} {w h sd : Int} (hs : sd = 0 ∨ sd = 1) (w1 : 3 ≤ w) (w2 : w ≤ 5) (h1 : 3 ≤ h) (h2 : h ≤ 5) (n : Nat) (hn : (n : Int) ≤ w * h) : ML_ok c w h sd (mvs c w h sd n) := by
  induction n with
  | zero => exact ML_nil
  | succ n ih =>
    refine ML_app (ih (by omega)) ?_
    have g := fld2 (n := (n : Int)) (by omega) (by omega) w1 w2 h1 h2
    split
    · rename_i e
      exact mf_ok hs (by rw [g.2.2.2.2]; exact e) g.1 g.2.1 g.2.2.1 g.2.2.2.1 w1 w2 h2
    · exact ML_nil
theorem MLs_ok {c : Fn} {w h sd : Int} (hs : sd = 0 ∨ sd = 1) (w1 : 3 ≤ w) (w2 : w ≤ 5) (h1 : 3 ≤ h) (h2 : h ≤ 5) : ML_ok c w h sd (MLs c w h sd) := by
  unfold MLs
  split
  · exact ML_nil
  · have := wh_bd w1 w2 h1 h2
    exact mvs_ok hs w1 w2 h1 h2 _ (by omega)
/-- at most six pawns a side -/
def PW (c : Fn) : Prop := cntF c 1 25 ≤ 6 ∧ cntF c 2 25 ≤ 6
theorem mvs_18 {c : Fn} {w h sd : Int} (hs : sd = 0 ∨ sd = 1) (hp : PW c) {n : Nat} (hn : n ≤ 25) : (mvs c w h sd n).length ≤ 18 := by
  have a := mvs_len c w h sd n
  have b := cntF_le (c := c) (v := sd + 1) hn
  obtain ⟨p1, p2⟩ := hp
  rcases hs with rfl | rfl
  · change _ ≤ cntF c 1 25 at b; omega
  · change _ ≤ cntF c 2 25 at b; omega
theorem mvs_15 {c : Fn} {w h sd : Int} (hs : sd = 0 ∨ sd = 1) (hp : PW c) {f : Int} (f0 : 0 ≤ f) (hn : f < 25) (hf : c f = sd + 1) : (mvs c w h sd f.toNat).length ≤ 15 := by
  have a := mvs_len c w h sd f.toNat
  have b := cntF_le (c := c) (v := sd + 1) (n := (f + 1).toNat) (m := 25) (by omega)
  rw [cntF_s c _ f0, if_pos hf] at b
  obtain ⟨p1, p2⟩ := hp
  rcases hs with rfl | rfl
  · change _ ≤ cntF c 1 25 at b; omega
  · change _ ≤ cntF c 2 25 at b; omega
theorem MLs_18 {c : Fn} {w h sd : Int} (hs : sd = 0 ∨ sd = 1) (hp : PW c) (hw : w * h ≤ 25) : (MLs c w h sd).length ≤ 18 := by
  unfold MLs
  split
  · simp
  · exact mvs_18 hs hp (by omega)
theorem getD_lt {L : List Int} {n : Nat} (h : n < L.length) : L.getD n (-1) = L[n] := by
  rw [List.getD_eq_getElem?_getD, List.getElem?_eq_getElem h]
  rfl
/-- lists as both hold them -/
theorem LM.at {σ : Sg} {j : Nat} {L : List Int} {c : Fn} (h : LM σ j L c) {z : Int} (h0 : 0 ≤ z) (h1 : z < L.length) : σ (40 + 6 * j) z = L.getD z.toNat (-1) ∧ σ (40 + 6 * j + 1) z = if c (L.getD z.toNat (-1) % 100) ≠ 0 then 1 else 0 := by
  have hz : z.toNat < L.length := by omega
  have := h.2 z.toNat (L.getD z.toNat (-1)) (by rw [List.getElem?_eq_getElem hz, getD_lt hz])
  rw [Int.toNat_of_nonneg h0] at this
  exact this
theorem LM.add {σ : Sg} {j : Nat} {L : List Int} {c : Fn} (h : LM σ j L c) {v t : Int} (ht : t = if c (v % 100) ≠ 0 then 1 else 0) {σ' : Sg} (e1 : σ' (40 + 6 * j + 4) 0 = L.length + 1) (e2 : σ' (40 + 6 * j) = ups (σ (40 + 6 * j)) L.length v) (e3 : σ' (40 + 6 * j + 1) = ups (σ (40 + 6 * j + 1)) L.length t) : LM σ' j (L ++ [v]) c := by
  refine ⟨by rw [e1]; simp, fun i x hi => ?_⟩
  rw [e2, e3]
  by_cases e : i < L.length
  · rw [List.getElem?_append_left e] at hi
    rw [ups_ne _ _ (by omega), ups_ne _ _ (by omega)]
    exact h.2 i x hi
  · rw [List.getElem?_append_right (by omega)] at hi
    have e2 : i - L.length < 1 := (List.getElem?_eq_some_iff.mp hi).1
    have e3 : i = L.length := by omega
    subst e3
    rw [Nat.sub_self] at hi
    cases hi
    rw [ups_eq, ups_eq]
    exact ⟨rfl, ht⟩
def ixN : List Int → Int → Int → Int
  | [], _, _ => -1
  | x :: xs, v, n => if x = v then n else ixN xs v (n + 1)
theorem drop_s {L : List Int} {i : Int} (h0 : 0 ≤ i) (h1 : i < L.length) : L.drop i.toNat = L.getD i.toNat (-1) :: L.drop (i + 1).toNat := by
  have hz : i.toNat < L.length := by omega
  rw [toNat_s h0, List.drop_eq_getElem_cons hz, getD_lt hz]
theorem drop_e {L : List Int} {i : Int} (h0 : 0 ≤ i) (h1 : ¬ i < L.length) : L.drop i.toNat = [] := List.drop_eq_nil_of_le (by omega)
theorem getD_mem {L : List Int} {i : Int} (h0 : 0 ≤ i) (h1 : i < L.length) : L.getD i.toNat (-1) ∈ L := by
  have hz : i.toNat < L.length := by omega
  rw [getD_lt hz]
  exact List.getElem_mem hz
theorem getD_out {L : List Int} {i : Int} (h1 : ¬ i < L.length) : L.getD i.toNat (-1) = -1 := by
  rw [List.getD_eq_getElem?_getD, List.getElem?_eq_none (by omega)]
  rfl
def mvF (c : Fn) (v : Int) : Fn := ups (ups c (v % 100) (c (v / 100))) (v / 100) 0
def unF (c : Fn) (v t : Int) : Fn := ups (ups c (v / 100) (c (v % 100))) (v % 100) t
theorem un_mv (c : Fn) {v : Int} (h : v / 100 ≠ v % 100) : unF (mvF c v) v (c (v % 100)) = c := by
  funext x
  unfold unF mvF
  by_cases e1 : x = v % 100
  · subst e1; rw [ups_eq]
  · rw [ups_ne _ _ e1]
    by_cases e2 : x = v / 100
    · subst e2
      rw [ups_eq, ups_ne _ _ (Ne.symm h), ups_eq]
    · rw [ups_ne _ _ e2, ups_ne _ _ e2, ups_ne _ _ e1]
