/-! the search's registers as a state of their own -/
def tv (σ : Sg) : Sg := fun r => if (9 ≤ r ∧ r ≤ 14) ∨ r = 17 ∨ r = 18 ∨ r = 19 ∨ r = 22 ∨ r = 23 then σ r else fun _ => 0
theorem tv_in (σ : Sg) {r : Nat} (h : (9 ≤ r ∧ r ≤ 14) ∨ r = 17 ∨ r = 18 ∨ r = 19 ∨ r = 22 ∨ r = 23) : tv σ r = σ r := if_pos h
theorem tv_ext {a b : Sg} (h : ∀ r : Nat, ((9 ≤ r ∧ r ≤ 14) ∨ r = 17 ∨ r = 18 ∨ r = 19 ∨ r = 22 ∨ r = 23) → b r = a r) : tv b = tv a := by
  funext r
  unfold tv
  by_cases e : (9 ≤ r ∧ r ≤ 14) ∨ r = 17 ∨ r = 18 ∨ r = 19 ∨ r = 22 ∨ r = 23
  · rw [if_pos e, if_pos e, h r e]
  · rw [if_neg e, if_neg e]
theorem tv_upr (σ : Sg) {r : Nat} (f : Fn) (h : (9 ≤ r ∧ r ≤ 14) ∨ r = 17 ∨ r = 18 ∨ r = 19 ∨ r = 22 ∨ r = 23) : tv (upr σ r f) = upr (tv σ) r f := by
  funext q
  by_cases e : q = r
  · subst e; rw [tv_in _ h, upr_eq, upr_eq]
  · rw [upr_ne _ _ e]
    unfold tv
    rw [upr_ne _ _ e]
theorem tv_out (σ : Sg) {r : Nat} (f : Fn) (h : ¬ ((9 ≤ r ∧ r ≤ 14) ∨ r = 17 ∨ r = 18 ∨ r = 19 ∨ r = 22 ∨ r = 23)) : tv (upr σ r f) = tv σ := tv_ext (fun q hq => upr_ne _ _ (by intro e; subst e; exact h hq))
theorem TI_tv {σ : Sg} : TI (tv σ) ↔ TI σ := ⟨fun h => h.of (fun r hr => (tv_in σ (by omega)).symm), fun h => h.of (fun r hr => tv_in σ (by omega))⟩
theorem tv_inc (σ : Sg) {r : Nat} (h : (9 ≤ r ∧ r ≤ 14) ∨ r = 17 ∨ r = 18 ∨ r = 19 ∨ r = 22 ∨ r = 23) : tv (incT σ r) = incT (tv σ) r := by
  unfold incT
  rw [tv_upr _ _ h, tv_in σ h]
theorem tv_set (σ : Sg) {r : Nat} (v : Int) (h : (9 ≤ r ∧ r ≤ 14) ∨ r = 17 ∨ r = 18 ∨ r = 19 ∨ r = 22 ∨ r = 23) : tv (setT σ r v) = setT (tv σ) r v := by
  unfold setT
  rw [tv_upr _ _ h, tv_in σ h]
theorem tv_note (σ : Sg) (d v : Int) : tv (noteT σ d v) = noteT (tv σ) d v := by
  unfold noteT
  rw [tv_in σ (r := 17) (by omega), tv_in σ (r := 18) (by omega)]
  split
  · rfl
  · rw [tv_upr _ _ (by omega), tv_upr _ _ (by omega)]
theorem tv_cut (σ : Sg) (c : Fn) (d v : Int) : tv (cutT σ c d v) = cutT (tv σ) c d v := by
  unfold cutT
  split
  · exact tv_inc σ (by omega)
  · rw [tv_note, tv_inc σ (by omega)]
theorem tv_sto (σ : Sg) (key d b k v : Int) : tv (stoT σ key d b k v) = stoT (tv σ) key d b k v := by
  unfold stoT
  simp only [tv_in σ (r := 9) (by omega), tv_in σ (r := 10) (by omega), tv_in σ (r := 11) (by omega), tv_in σ (r := 12) (by omega), tv_in σ (r := 13) (by omega), tv_in σ (r := 14) (by omega)]
  split
  · rw [tv_upr _ _ (by omega), tv_upr _ _ (by omega), tv_upr _ _ (by omega), tv_upr _ _ (by omega), tv_upr _ _ (by omega)]
  · rfl
theorem tv_fnd (σ : Sg) (key : Int) : fndT (tv σ) key = fndT σ key := by
  unfold fndT
  rw [tv_in σ (r := 9) (by omega), tv_in σ (r := 10) (by omega), tv_in σ (r := 11) (by omega)]
theorem tv_ans (σ : Sg) (s d lo up : Int) : ansB (tv σ) s d lo up = ansB σ s d lo up := by
  unfold ansB
  rw [tv_in σ (r := 11) (by omega), tv_in σ (r := 12) (by omega), tv_in σ (r := 13) (by omega)]
theorem cut_o (σ : Sg) (c : Fn) (d v : Int) {r : Nat} (h : r ≠ 17 ∧ r ≠ 18 ∧ r ≠ 23) : cutT σ c d v r = σ r := by
  unfold cutT noteT incT
  split
  · exact upr_ne _ _ h.2.2
  · split
    · exact upr_ne _ _ h.2.2
    · rw [upr_ne _ _ h.1, upr_ne _ _ h.2.1, upr_ne _ _ h.2.2]
theorem sto_o (σ : Sg) (key d b k v : Int) {r : Nat} (h : ¬ (10 ≤ r ∧ r ≤ 14)) : stoT σ key d b k v r = σ r := by
  by_cases e : 0 < σ 9 0
  · exact (stoT_in e).2.2.2.2.2 r h
  · rw [stoT_no e]
/-- the plain values -/
def waysF (S : Nat → Int) : Nat → Fn → Int → Int
  | 0, _, _ => 1
  | d + 1, c, sd => (MLs c (S 2) (S 3) sd).foldl (fun a v => a + waysF S d (mvF c v) (1 - sd)) 0
def wlp (rec : Fn → Int → Int → Int → Int) (c : Fn) (sd lo hi : Int) : List Int → Int → Int
  | [], b => b
  | v :: vs, b => if b < hi then wlp rec c sd lo hi vs (max b (-(rec (mvF c v) (1 - sd) (-hi) (-(max lo b))))) else b
def wb (S : Nat → Int) : Nat → Fn → Int → Int → Int → Int
  | 0, c, sd, lo, hi => (qb S 4 c sd lo hi).1
  | d + 1, c, sd, lo, hi => if MLs c (S 2) (S 3) sd = [] then -1000 - ((d : Int) + 1) else wlp (wb S d) c sd lo hi (MLs c (S 2) (S 3) sd) (-10000)
theorem wlp_bd {rec : Fn → Int → Int → Int → Int} (hrec : ∀ c sd lo hi, -10000 ≤ rec c sd lo hi ∧ rec c sd lo hi ≤ 10000) (c : Fn) (sd lo hi : Int) : ∀ (L : List Int) (b : Int), -10000 ≤ b → b ≤ 10000 → -10000 ≤ wlp rec c sd lo hi L b ∧ wlp rec c sd lo hi L b ≤ 10000
  | [], b, h0, h1 => ⟨h0, h1⟩
  | v :: vs, b, h0, h1 => by
    have := hrec (mvF c v) (1 - sd) (-hi) (-(max lo b))
    unfold wlp
    split
    · exact wlp_bd hrec c sd lo hi vs _ (by omega) (by omega)
    · exact ⟨h0, h1⟩
theorem wb_bd {S : Nat → Int} (hS : SB S) : ∀ (d : Nat), d ≤ 4 → ∀ (c : Fn) (sd lo hi : Int), -10000 ≤ wb S d c sd lo hi ∧ wb S d c sd lo hi ≤ 10000
  | 0, _, c, sd, lo, hi => by
    have := qb_bd hS 4 c sd lo hi
    unfold wb
    omega
  | d + 1, hd, c, sd, lo, hi => by
    unfold wb
    split
    · omega
    · exact wlp_bd (fun c sd lo hi => wb_bd hS d (by omega) c sd lo hi) c sd lo hi _ _ (by omega) (by omega)
def kilF (σ : Sg) (d o : Int) : Int := if 0 ≤ d ∧ d < 5 then (if o ≠ 0 then σ 18 d else σ 17 d) else -1
/-- a search to a depth: k more depths, from d on -/
def skp (S : Nat → Int) (c : Fn) (sd : Int) : Nat → Nat → Int → Int → Int → Sg → Int × Int × Int × Sg
  | 0, _, num, n, re, τ => (num, n, re, τ)
  | k + 1, d, num, n, re, τ => if iI 1000 < iI n then (num, n, re, τ) else skp S c sd k (d + 1) (sb S d c sd (-9999) 9999 τ).1 (n + (sb S d c sd (-9999) 9999 τ).2.1) (d : Int) (sb S d c sd (-9999) 9999 τ).2.2
def clrT (τ : Sg) : Sg := setT (setT (upr (upr τ 17 (fiF (τ 17) 5)) 18 (fiF (τ 18) 5)) 22 0) 23 0
def NSR (r : Nat) : Prop := ¬ ((9 ≤ r ∧ r ≤ 14) ∨ r = 16 ∨ r = 17 ∨ r = 18 ∨ r = 19 ∨ r = 21 ∨ r = 22 ∨ r = 23)
theorem kil_n {σ : Sg} {d o : Int} (h : o = 0) : (if 0 ≤ d ∧ d < 5 then σ 17 d else -1) = kilF σ d o := by unfold kilF; rw [if_neg (show ¬ o ≠ 0 by omega)]
theorem kil_o {σ : Sg} {d o : Int} (h : o ≠ 0) : (if 0 ≤ d ∧ d < 5 then σ 18 d else -1) = kilF σ d o := by unfold kilF; rw [if_pos h]
theorem wnt_keep {L acc : List Int} {v x : Int} (h : x ∈ acc) : x ∈ wnt L acc v := by
  unfold wnt
  split
  · exact List.mem_append_left _ h
  · exact h
theorem fold_keep {L : List Int} {x : Int} : ∀ (M acc : List Int), x ∈ acc → x ∈ M.foldl (wnt L) acc
  | [], _, h => h
  | v :: M, acc, h => fold_keep M (wnt L acc v) (wnt_keep h)
theorem fold_all {L : List Int} {x : Int} (hx : x ∈ L) : ∀ (M acc : List Int), x ∈ M → x ∈ M.foldl (wnt L) acc
  | v :: M, acc, h => by
    rcases List.mem_cons.mp h with e | h
    · subst e
      refine fold_keep M _ ?_
      by_cases q : x ∈ acc
      · exact wnt_keep q
      · rw [wnt_in hx q]; exact List.mem_append_right _ List.mem_cons_self
    · exact fold_all hx M _ h
theorem ord_all (c : Fn) (L : List Int) (e k1 k2 : Int) : ∀ x, x ∈ L → x ∈ ord c L e k1 k2 := fun x hx => fold_all hx L _ hx
theorem OR_len {σ : Sg} {j : Nat} {c : Fn} {L : List Int} {e k1 k2 : Int} (hN : L.Nodup) (h : OR σ j L (ord c L e k1 k2)) : (ord c L e k1 k2).length = L.length :=
  Nat.le_antisymm (nodup_len _ _ h.2.1 h.2.2.1) (nodup_len _ _ hN (ord_all c L e k1 k2))
theorem MLsN {σ : Sg} (g : GI σ) : (MLs (σ 1) (σ 2 0) (σ 3 0) (σ 4 0)).Nodup := MLs_nodup g.2.2.1 g.1.1 g.1.2.1 g.1.2.2.1 g.1.2.2.2
theorem keyS_eq (σ : Sg) : keyF (σ 1) (σ 2 0 * σ 3 0).toNat * 2 + σ 4 0 = keyS (cfg σ) (σ 1) (σ 4 0) := rfl
theorem SB_key {σ : Sg} (g : GI σ) : 0 ≤ keyS (cfg σ) (σ 1) (σ 4 0) ∧ keyS (cfg σ) (σ 1) (σ 4 0) < 4000000000000000000 := keyS_bd g.2.2.2.2 g.2.1 g.2.2.1
theorem clrT_tv (σ : Sg) : tv (clrT σ) = clrT (tv σ) := by
  unfold clrT
  rw [tv_set _ _ (by omega), tv_set _ _ (by omega), tv_upr _ _ (by omega), tv_upr _ _ (by omega), tv_in σ (r := 17) (by omega), tv_in σ (r := 18) (by omega)]
theorem TI.clr {σ : Sg} (h : TI σ) : TI (clrT σ) := by
  unfold clrT
  refine TI.set (TI.set (r := 22) ?_ (by omega) _) (by omega) _
  obtain ⟨a, b, k⟩ := h
  refine ⟨a, b, fun d => ?_⟩
  have q := k d
  show (-1 ≤ fiF (σ 17) 5 d ∧ fiF (σ 17) 5 d < 2500) ∧ (-1 ≤ fiF (σ 18) 5 d ∧ fiF (σ 18) 5 d < 2500)
  unfold fiF
  constructor <;> (split <;> omega)
theorem sb_nil {S : Nat → Int} {c : Fn} {sd lo up : Int} {τ : Sg} {d1 : Nat} {L : List Int} (hL : MLs c (S 2) (S 3) sd = L) (h : L = []) : sb S (d1 + 1) c sd lo up τ = (-1000 - ((d1 : Int) + 1), 1, τ) := by
  rw [sb, if_pos (by rw [hL, h])]
theorem sb_hit {S : Nat → Int} {c : Fn} {sd lo up ky s : Int} {τ : Sg} {d1 : Nat} {L : List Int} (hL : MLs c (S 2) (S 3) sd = L) (h : L ≠ []) (hk : keyS S c sd = ky) (hs : fndT τ ky = s) (ha : ansB τ s ((d1 : Int) + 1) lo up = true) : sb S (d1 + 1) c sd lo up τ = (τ 12 s, 1, setT (incT τ 22) 19 (τ 14 s)) := by
  rw [sb, if_neg (by rw [hL]; exact h), hk, hs, if_pos ha]
theorem sb_go {S : Nat → Int} {c : Fn} {sd lo up ky s : Int} {τ : Sg} {d1 : Nat} {L : List Int} (hL : MLs c (S 2) (S 3) sd = L) (h : L ≠ []) (hk : keyS S c sd = ky) (hs : fndT τ ky = s) (ha : ¬ ansB τ s ((d1 : Int) + 1) lo up = true) {R : Int × Int × Int × Sg} (hR : slp (sb S d1) c sd lo up (ordS τ c L ky ((d1 : Int) + 1)) (-10000) (-1) 1 τ = R) : sb S (d1 + 1) c sd lo up τ = (R.1, R.2.2.1, setT (endT c ((d1 : Int) + 1) lo up ky R) 19 R.2.1) := by
  rw [sb, if_neg (by rw [hL]; exact h), hk, hs, if_neg ha, hL, hR]
