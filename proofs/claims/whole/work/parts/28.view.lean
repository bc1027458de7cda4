/-! the search's registers as a state of their own -/
def tv (σ : Sg) : Sg := fun r => if (9 ≤ r ∧ r ≤ 14) ∨ r = 17 ∨ r = 18 ∨ r = 19 ∨ r = 22 ∨ r = 23 then σ r else fun _ => 0
theorem tv_in (σ : Sg) {r : Nat} (h : (9 ≤ r ∧ r ≤ 14) ∨ r = 17 ∨ r = 18 ∨ r = 19 ∨ r = 22 ∨ r = 23) : tv σ r = σ r := if_pos h
theorem tv_ext {a b : Sg} (h : ∀ r : Nat, ((9 ≤ r ∧ r ≤ 14) ∨ r = 17 ∨ r = 18 ∨ r = 19 ∨ r = 22 ∨ r = 23) → b r = a r) : tv b = tv a := by
  funext r
  unfold tv
  by_cases e : (9 ≤ r ∧ r ≤ 14) ∨ r = 17 ∨ r = 18 ∨ r = 19 ∨ r = 22 ∨ r = 23
  · rw [if_pos e, if_pos e, h r e]
  · rw [if_neg e, if_neg e]
theorem tv_upr (σ : Sg) {r : Nat} (f : Fn) (h : (9 ≤ r ∧ r ≤ 14) ∨ r = 17 ∨ r = 18 ∨ r = 19 ∨ r = 22 ∨ r = 23) : tv (upr σ r f) = upr (tv σ) r f := by
  funext q
  by_cases e : q = r
  · subst e; rw [tv_in _ h, upr_eq, upr_eq]
  · rw [upr_ne _ _ e]
    unfold tv
    rw [upr_ne _ _ e]
theorem tv_out (σ : Sg) {r : Nat} (f : Fn) (h : ¬ ((9 ≤ r ∧ r ≤ 14) ∨ r = 17 ∨ r = 18 ∨ r = 19 ∨ r = 22 ∨ r = 23)) : tv (upr σ r f) = tv σ := tv_ext (fun q hq => upr_ne _ _ (by intro e; subst e; exact h hq))
theorem TI_tv {σ : Sg} : TI (tv σ) ↔ TI σ := ⟨fun h => h.of (fun r hr => (tv_in σ (by omega)).symm), fun h => h.of (fun r hr => tv_in σ (by omega))⟩
theorem tv_inc (σ : Sg) {r : Nat} (h : (9 ≤ r ∧ r ≤ 14) ∨ r = 17 ∨ r = 18 ∨ r = 19 ∨ r = 22 ∨ r = 23) : tv (incT σ r) = incT (tv σ) r := by
  unfold incT
  rw [tv_upr _ _ h, tv_in σ h]
theorem tv_set (σ : Sg) {r : Nat} (v : Int) (h : (9 ≤ r ∧ r ≤ 14) ∨ r = 17 ∨ r = 18 ∨ r = 19 ∨ r = 22 ∨ r = 23) : tv (setT σ r v) = setT (tv σ) r v := by
  unfold setT
  rw [tv_upr _ _ h, tv_in σ h]
theorem tv_note (σ : Sg) (d v : Int) : tv (noteT σ d v) = noteT (tv σ) d v := by
  unfold noteT
  rw [tv_in σ (r := 17) (by omega), tv_in σ (r := 18) (by omega)]
  split
  · rfl
  · rw [tv_upr _ _ (by omega), tv_upr _ _ (by omega)]
theorem tv_cut (σ : Sg) (c : Fn) (d v : Int) : tv (cutT σ c d v) = cutT (tv σ) c d v := by
  unfold cutT
  split
  · exact tv_inc σ (by omega)
  · rw [tv_note, tv_inc σ (by omega)]
theorem tv_sto (σ : Sg) (key d b k v : Int) : tv (stoT σ key d b k v) = stoT (tv σ) key d b k v := by
  unfold stoT
  simp only [tv_in σ (r := 9) (by omega), tv_in σ (r := 10) (by omega), tv_in σ (r := 11) (by omega), tv_in σ (r := 12) (by omega), tv_in σ (r := 13) (by omega), tv_in σ (r := 14) (by omega)]
  split
  · rw [tv_upr _ _ (by omega), tv_upr _ _ (by omega), tv_upr _ _ (by omega), tv_upr _ _ (by omega), tv_upr _ _ (by omega)]
  · rfl
theorem tv_fnd (σ : Sg) (key : Int) : fndT (tv σ) key = fndT σ key := by
  unfold fndT
  rw [tv_in σ (r := 9) (by omega), tv_in σ (r := 10) (by omega), tv_in σ (r := 11) (by omega)]
theorem tv_ans (σ : Sg) (s d lo up : Int) : ansB (tv σ) s d lo up = ansB σ s d lo up := by
  unfold ansB
  rw [tv_in σ (r := 11) (by omega), tv_in σ (r := 12) (by omega), tv_in σ (r := 13) (by omega)]
theorem cut_o (σ : Sg) (c : Fn) (d v : Int) {r : Nat} (h : r ≠ 17 ∧ r ≠ 18 ∧ r ≠ 23) : cutT σ c d v r = σ r := by
  unfold cutT noteT incT
  split
  · exact upr_ne _ _ h.2.2
  · split
    · exact upr_ne _ _ h.2.2
    · rw [upr_ne _ _ h.1, upr_ne _ _ h.2.1, upr_ne _ _ h.2.2]
theorem sto_o (σ : Sg) (key d b k v : Int) {r : Nat} (h : ¬ (10 ≤ r ∧ r ≤ 14)) : stoT σ key d b k v r = σ r := by
  by_cases e : 0 < σ 9 0
  · exact (stoT_in e).2.2.2.2.2 r h
  · rw [stoT_no e]
/-- the plain values -/
def waysF (S : Nat → Int) : Nat → Fn → Int → Int
  | 0, _, _ => 1
  | d + 1, c, sd => (MLs c (S 2) (S 3) sd).foldl (fun a v => a + waysF S d (mvF c v) (1 - sd)) 0
def wlp (rec : Fn → Int → Int → Int → Int) (c : Fn) (sd lo hi : Int) : List Int → Int → Int
  | [], b => b
  | v :: vs, b => if b < hi then wlp rec c sd lo hi vs (max b (-(rec (mvF c v) (1 - sd) (-hi) (-(max lo b))))) else b
def wb (S : Nat → Int) : Nat → Fn → Int → Int → Int → Int
  | 0, c, sd, lo, hi => (qb S 4 c sd lo hi).1
  | d + 1, c, sd, lo, hi => if MLs c (S 2) (S 3) sd = [] then -1000 - ((d : Int) + 1) else wlp (wb S d) c sd lo hi (MLs c (S 2) (S 3) sd) (-10000)
theorem wlp_bd {rec : Fn → Int → Int → Int → Int} (hrec : ∀ c sd lo hi, -10000 ≤ rec c sd lo hi ∧ rec c sd lo hi ≤ 10000) (c : Fn) (sd lo hi : Int) : ∀ (L : List Int) (b : Int), -10000 ≤ b → b ≤ 10000 → -10000 ≤ wlp rec c sd lo hi L b ∧ wlp rec c sd lo hi L b ≤ 10000
  | [], b, h0, h1 => ⟨h0, h1⟩
  | v :: vs, b, h0, h1 => by
    have := hrec (mvF c v) (1 - sd) (-hi) (-(max lo b))
    unfold wlp
    split
    · exact wlp_bd hrec c sd lo hi vs _ (by omega) (by omega)
    · exact ⟨h0, h1⟩
theorem wb_bd {S : Nat → Int} (hS : SB S) : ∀ (d : Nat), d ≤ 4 → ∀ (c : Fn) (sd lo hi : Int), -10000 ≤ wb S d c sd lo hi ∧ wb S d c sd lo hi ≤ 10000
  | 0, _, c, sd, lo, hi => by
    have := qb_bd hS 4 c sd lo hi
    unfold wb
    omega
  | d + 1, hd, c, sd, lo, hi => by
    unfold wb
    split
    · omega
    · exact wlp_bd (fun c sd lo hi => wb_bd hS d (by omega) c sd lo hi) c sd lo hi _ _ (by omega) (by omega)
def kilF (σ : Sg) (d o : Int) : Int := if 0 ≤ d ∧ d < 5 then (if o ≠ 0 then σ 18 d else σ 17 d) else -1
/-- a search to a depth: k more depths, from d on -/
def skp (S : Nat → Int) (c : Fn) (sd : Int) : Nat → Nat → Int → Int → Int → Sg → Int × Int × Int × Sg
  | 0, _, num, n, re, τ => (num, n, re, τ)
  | k + 1, d, num, n, re, τ => if iI 1000 < iI n then (num, n, re, τ) else skp S c sd k (d + 1) (sb S d c sd (-9999) 9999 τ).1 (n + (sb S d c sd (-9999) 9999 τ).2.1) (d : Int) (sb S d c sd (-9999) 9999 τ).2.2
def clrT (τ : Sg) : Sg := setT (setT (upr (upr τ 17 (fiF (τ 17) 5)) 18 (fiF (τ 18) 5)) 22 0) 23 0
def NSR (r : Nat) : Prop := ¬ ((9 ≤ r ∧ r ≤ 14) ∨ r = 16 ∨ r = 17 ∨ r = 18 ∨ r = 19 ∨ r = 21 ∨ r = 22 ∨ r = 23)
theorem kil_n {σ : Sg} {d o : Int} (h : o = 0) : (if 0 ≤ d ∧ d < 5 then σ 17 d else -1) = kilF σ d o := by unfold kilF; rw [if_neg (show ¬ o ≠ 0 by omega)]
theorem kil_o {σ : Sg} {d o : Int} (h : o ≠ 0) : (if 0 ≤ d ∧ d < 5 then σ 18 d else -1) = kilF σ d o := by unfold kilF; rw [if_pos h]
