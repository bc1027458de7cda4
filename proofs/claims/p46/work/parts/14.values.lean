/-! values -/
def cfg (σ : Sg) : Nat → Int := fun r => if r = 2 ∨ r = 3 ∨ r = 5 ∨ r = 6 ∨ r = 7 ∨ r = 8 then σ r 0 else 0
theorem cfg_of {a b : Sg} (h : ∀ r, (r = 2 ∨ r = 3 ∨ r = 5 ∨ r = 6 ∨ r = 7 ∨ r = 8) → b r = a r) : cfg b = cfg a := by
  funext r
  unfold cfg
  by_cases e : r = 2 ∨ r = 3 ∨ r = 5 ∨ r = 6 ∨ r = 7 ∨ r = 8
  · rw [if_pos e, if_pos e, h r e]
  · rw [if_neg e, if_neg e]
def stF (c : Fn) (w h r k a : Int) : Int := (if -1 < a then bI (canS c w h r k (-1)) else 0) + (if 0 < a then bI (canS c w h r k 0) else 0) + (if 1 < a then bI (canS c w h r k 1) else 0)
def stepsF (c : Fn) (w h r k : Int) : Int := bI (canS c w h r k (-1)) + bI (canS c w h r k 0) + bI (canS c w h r k 1)
theorem stF_0 (c : Fn) (w h r k : Int) : stF c w h r k (-1) = 0 := rfl
theorem stF_3 (c : Fn) (w h r k : Int) {a : Int} (ha : 2 ≤ a) : stF c w h r k a = stepsF c w h r k := by
  unfold stF stepsF
  rw [if_pos (by omega), if_pos (by omega), if_pos (by omega)]
theorem stF_s (c : Fn) (w h r k : Int) {a : Int} (h0 : -1 ≤ a) (h1 : a ≤ 1) : stF c w h r k (a + 1) = stF c w h r k a + bI (canS c w h r k a) := by
  obtain rfl | rfl | rfl : a = -1 ∨ a = 0 ∨ a = 1 := by omega
  all_goals simp [stF]
theorem stepsF_bd (c : Fn) (w h r k : Int) : 0 ≤ stepsF c w h r k ∧ stepsF c w h r k ≤ 3 := by
  have a := bI_01 (canS c w h r k (-1))
  have b := bI_01 (canS c w h r k 0)
  have d := bI_01 (canS c w h r k 1)
  unfold stepsF
  omega
/-- what one pawn is worth -/
def pawnV (c : Fn) (w h pm pa pf what r k : Int) : Int := pm + pa * (if what = 1 then r else h - 1 - r) + pf * stepsF c w h r k
def wsum (c : Fn) (w h pm pa pf s : Int) : Nat → Int
  | 0 => 0
  | n + 1 => wsum c w h pm pa pf s n + (if c (n : Int) = s + 1 then pawnV c w h pm pa pf (s + 1) ((n : Int) / w) ((n : Int) % w) else 0)
theorem wsum_s (c : Fn) {w h pm pa pf s r k : Int} (h0 : 0 ≤ r * w) (hk0 : 0 ≤ k) (hk : k < w) : wsum c w h pm pa pf s (r * w + k + 1).toNat = wsum c w h pm pa pf s (r * w + k).toNat + (if c (r * w + k) = s + 1 then pawnV c w h pm pa pf (s + 1) r k else 0) := by
  rw [toNat_s (by omega)]
  show wsum c w h pm pa pf s (r * w + k).toNat + (if c (((r * w + k).toNat : Nat) : Int) = s + 1 then pawnV c w h pm pa pf (s + 1) ((((r * w + k).toNat : Nat) : Int) / w) ((((r * w + k).toNat : Nat) : Int) % w) else 0) = _
  rw [Int.toNat_of_nonneg (by omega), (fld hk0 hk).1, (fld hk0 hk).2]
def evS (S : Nat → Int) (c : Fn) (sd : Int) : Int := wsum c (S 2) (S 3) (S 5) (S 6) (S 7) sd (S 2 * S 3).toNat - wsum c (S 2) (S 3) (S 5) (S 6) (S 7) (1 - sd) (S 2 * S 3).toNat
/-- the settings' bounds -/
def SB (S : Nat → Int) : Prop := (3 ≤ S 2 ∧ S 2 ≤ 5 ∧ 3 ≤ S 3 ∧ S 3 ≤ 5) ∧ (0 ≤ S 5 ∧ S 5 ≤ 50) ∧ (0 ≤ S 6 ∧ S 6 ≤ 20) ∧ (0 ≤ S 7 ∧ S 7 ≤ 10) ∧ (S 8 = 0 ∨ S 8 = 1)
theorem mul_bd {a b x y : Int} (h0 : 0 ≤ a) (h1 : a ≤ x) (g0 : 0 ≤ b) (g1 : b ≤ y) : 0 ≤ a * b ∧ a * b ≤ x * y :=
  ⟨Int.mul_nonneg h0 g0, Int.le_trans (Int.mul_le_mul_of_nonneg_right h1 g0) (Int.mul_le_mul_of_nonneg_left g1 (by omega))⟩
theorem pawnV_bd {S : Nat → Int} (hS : SB S) (c : Fn) {what r k : Int} (hr : 0 ≤ r) (hr2 : r < S 3) : 0 ≤ pawnV c (S 2) (S 3) (S 5) (S 6) (S 7) what r k ∧ pawnV c (S 2) (S 3) (S 5) (S 6) (S 7) what r k ≤ 160 := by
  obtain ⟨⟨w1, w2, h1, h2⟩, hm, ha, hf, -⟩ := hS
  have q := stepsF_bd c (S 2) (S 3) r k
  have e1 := mul_bd hf.1 hf.2 q.1 q.2
  have e2 : 0 ≤ (if what = 1 then r else S 3 - 1 - r) ∧ (if what = 1 then r else S 3 - 1 - r) ≤ 4 := by split <;> omega
  have e3 := mul_bd ha.1 ha.2 e2.1 e2.2
  unfold pawnV
  omega
theorem wsum_bd {S : Nat → Int} (hS : SB S) (c : Fn) (s : Int) (n : Nat) (hn : (n : Int) ≤ S 2 * S 3) : 0 ≤ wsum c (S 2) (S 3) (S 5) (S 6) (S 7) s n ∧ wsum c (S 2) (S 3) (S 5) (S 6) (S 7) s n ≤ 160 * n := by
  obtain ⟨w1, w2, h1, h2⟩ := hS.1
  induction n with
  | zero => simp [wsum]
  | succ n ih =>
    have ih := ih (by omega)
    have g := fld2 (n := (n : Int)) (by omega) (by omega) w1 w2 h1 h2
    have q := pawnV_bd hS c (what := s + 1) (k := (n : Int) % S 2) g.1 g.2.1
    show 0 ≤ wsum c _ _ _ _ _ s n + _ ∧ wsum c _ _ _ _ _ s n + _ ≤ _
    split <;> omega
theorem evS_bd {S : Nat → Int} (hS : SB S) (c : Fn) (sd : Int) : -4000 ≤ evS S c sd ∧ evS S c sd ≤ 4000 := by
  obtain ⟨w1, w2, h1, h2⟩ := hS.1
  have hb := wh_bd w1 w2 h1 h2
  have a := wsum_bd hS c sd (S 2 * S 3).toNat (by omega)
  have b := wsum_bd hS c (1 - sd) (S 2 * S 3).toNat (by omega)
  unfold evS
  omega
/-- QUIET: the moves that take, till the bound; n counts nodes -/
def qlp (rec : Fn → Int → Int → Int → Int × Int) (c : Fn) (sd lo hi : Int) : List Int → Int → Int → Int × Int
  | [], b, n => (b, n)
  | v :: vs, b, n => if b < hi then (if c (v % 100) ≠ 0 then qlp rec c sd lo hi vs (max b (-(rec (mvF c v) (1 - sd) (-hi) (-(max lo b))).1)) (n + (rec (mvF c v) (1 - sd) (-hi) (-(max lo b))).2) else qlp rec c sd lo hi vs b n) else (b, n)
def qb (S : Nat → Int) : Nat → Fn → Int → Int → Int → Int × Int
  | 0, c, sd, _, _ => if MLs c (S 2) (S 3) sd = [] then (-1000, 1) else (evS S c sd, 1)
  | t + 1, c, sd, lo, hi => if MLs c (S 2) (S 3) sd = [] then (-1000, 1) else if S 8 = 0 then (evS S c sd, 1) else qlp (qb S t) c sd lo hi (MLs c (S 2) (S 3) sd) (evS S c sd) 1
theorem qlp_bd {rec : Fn → Int → Int → Int → Int × Int} (hrec : ∀ c sd lo hi, -4000 ≤ (rec c sd lo hi).1 ∧ (rec c sd lo hi).1 ≤ 4000) (c : Fn) (sd lo hi : Int) : ∀ (L : List Int) (b n : Int), -4000 ≤ b → b ≤ 4000 → -4000 ≤ (qlp rec c sd lo hi L b n).1 ∧ (qlp rec c sd lo hi L b n).1 ≤ 4000
  | [], b, n, h0, h1 => ⟨h0, h1⟩
  | v :: vs, b, n, h0, h1 => by
    unfold qlp
    split
    · split
      · have := hrec (mvF c v) (1 - sd) (-hi) (-(max lo b))
        exact qlp_bd hrec c sd lo hi vs _ _ (by omega) (by omega)
      · exact qlp_bd hrec c sd lo hi vs b n h0 h1
    · exact ⟨h0, h1⟩
theorem qb_bd {S : Nat → Int} (hS : SB S) : ∀ (t : Nat) (c : Fn) (sd lo hi : Int), -4000 ≤ (qb S t c sd lo hi).1 ∧ (qb S t c sd lo hi).1 ≤ 4000
  | 0, c, sd, lo, hi => by
    have := evS_bd hS c sd
    unfold qb
    split
    · decide
    · exact this
  | t + 1, c, sd, lo, hi => by
    have := evS_bd hS c sd
    unfold qb
    split
    · decide
    · split
      · exact this
      · exact qlp_bd (fun c sd lo hi => qb_bd hS t c sd lo hi) c sd lo hi _ _ _ this.1 this.2
/-- the class's state, as every walk over its board wants it -/
def GI (σ : Sg) : Prop := BG σ ∧ BC (σ 1) ∧ (σ 4 0 = 0 ∨ σ 4 0 = 1) ∧ PW (σ 1) ∧ SB (cfg σ)
theorem GI.of {a b : Sg} (h : GI a) (e : ∀ r, (r = 1 ∨ r = 2 ∨ r = 3 ∨ r = 4 ∨ r = 5 ∨ r = 6 ∨ r = 7 ∨ r = 8) → b r = a r) : GI b := by
  unfold GI at *
  rw [BG_of (e 2 (by omega)) (e 3 (by omega)), e 1 (by omega), e 4 (by omega), cfg_of (fun r hr => e r (by omega))]
  exact h
theorem cntF_ups (c : Fn) (v i x : Int) (n : Nat) (h0 : 0 ≤ i) (h1 : i < n) : cntF (ups c i x) v n = cntF c v n - (if c i = v then 1 else 0) + (if x = v then 1 else 0) := by
  induction n with
  | zero => omega
  | succ n ih =>
    show cntF (ups c i x) v n + (if ups c i x (n : Int) = v then 1 else 0) = cntF c v n + (if c (n : Int) = v then 1 else 0) - _ + _
    by_cases e : i = (n : Int)
    · have key : ∀ m : Nat, m ≤ n → cntF (ups c i x) v m = cntF c v m := by
        intro m
        induction m with
        | zero => intro _; rfl
        | succ m ihm =>
          intro hm
          show cntF (ups c i x) v m + (if ups c i x (m : Int) = v then 1 else 0) = cntF c v m + (if c (m : Int) = v then 1 else 0)
          rw [ihm (by omega), ups_ne _ _ (by omega)]
      rw [key n (Nat.le_refl _), ← e, ups_eq]
      omega
    · rw [ih (by omega), ups_ne _ _ (Ne.symm e)]
      omega
theorem mvF_BC {c : Fn} (h : BC c) (v : Int) : BC (mvF c v) := by
  intro f
  unfold mvF ups
  split
  · decide
  · split
    · exact h _
    · exact h _
theorem mvF_PW {c : Fn} (h : PW c) {v : Int} (hv : 0 ≤ v) (h1 : v / 100 < 25) (h2 : v % 100 < 25) (hne : v / 100 ≠ v % 100) : PW (mvF c v) := by
  have key : ∀ x : Int, x ≠ 0 → cntF (mvF c v) x 25 ≤ cntF c x 25 := by
    intro x hx
    unfold mvF
    rw [cntF_ups _ _ _ _ _ (by omega) (by omega), ups_ne _ _ hne, cntF_ups _ _ _ _ _ (by omega) (by omega)]
    rw [if_neg (show ¬ (0 : Int) = x from fun q => hx q.symm)]
    split <;> split <;> omega
  exact ⟨Int.le_trans (key 1 (by decide)) h.1, Int.le_trans (key 2 (by decide)) h.2⟩
/-- a move made -/
def mvG (σ : Sg) (v : Int) : Sg := upr (upr σ 1 (mvF (σ 1) v)) 4 (ups (σ 4) 0 (1 - σ 4 0))
theorem mvG_1 (σ : Sg) (v : Int) : mvG σ v 1 = mvF (σ 1) v := by unfold mvG; rw [upr_ne _ _ (by decide), upr_eq]
theorem mvG_4 (σ : Sg) (v : Int) : mvG σ v 4 = ups (σ 4) 0 (1 - σ 4 0) := upr_eq _ _ _
theorem mvG_o (σ : Sg) (v : Int) {r : Nat} (h : r ≠ 1) (h4 : r ≠ 4) : mvG σ v r = σ r := by unfold mvG; rw [upr_ne _ _ h4, upr_ne _ _ h]
theorem mvG_cfg (σ : Sg) (v : Int) : cfg (mvG σ v) = cfg σ := cfg_of (fun r hr => mvG_o σ v (by omega) (by omega))
/-- v is a move here -/
def MV (σ : Sg) (v : Int) : Prop := v ∈ MLs (σ 1) (σ 2 0) (σ 3 0) (σ 4 0)
theorem MV.ok {σ : Sg} {v : Int} (h : MV σ v) (g : GI σ) : (0 ≤ v ∧ v / 100 < σ 2 0 * σ 3 0 ∧ v % 100 < σ 2 0 * σ 3 0) ∧ v / 100 ≠ v % 100 ∧ v < 2500 := by
  obtain ⟨⟨w1, w2, h1, h2⟩, -, hs, -, -⟩ := g
  have hb := wh_bd w1 w2 h1 h2
  obtain ⟨a, b, d, e, f, -⟩ := MLs_ok (c := σ 1) hs w1 w2 h1 h2 v h
  exact ⟨⟨a, d, e⟩, f, by omega⟩
theorem GI.mv {σ : Sg} {v : Int} (h : MV σ v) (g : GI σ) : GI (mvG σ v) := by
  have q := h.ok g
  obtain ⟨hB, hC, hs, hp, hS⟩ := g
  have hb := wh_bd hB.1 hB.2.1 hB.2.2.1 hB.2.2.2
  refine ⟨?_, ?_, ?_, ?_, ?_⟩
  · rw [BG_of (mvG_o σ v (by decide) (by decide)) (mvG_o σ v (by decide) (by decide))]; exact hB
  · rw [mvG_1]; exact mvF_BC hC v
  · rw [mvG_4, ups_eq]; omega
  · rw [mvG_1]; exact mvF_PW hp q.1.1 (by omega) (by omega) q.2.1
  · rw [mvG_cfg]; exact hS
/-- and taken back -/
def unG (σ : Sg) (v t : Int) : Sg := upr (upr σ 1 (unF (σ 1) v t)) 4 (ups (σ 4) 0 (1 - σ 4 0))
theorem unG_mv {σ b : Sg} {v : Int} (hne : v / 100 ≠ v % 100) (h1 : b 1 = mvG σ v 1) (h4 : b 4 = mvG σ v 4) : unG b v (σ 1 (v % 100)) 1 = σ 1 ∧ unG b v (σ 1 (v % 100)) 4 = σ 4 ∧ ∀ r, r ≠ 1 → r ≠ 4 → unG b v (σ 1 (v % 100)) r = b r := by
  refine ⟨?_, ?_, fun r a d => ?_⟩
  · unfold unG
    rw [upr_ne _ _ (by decide), upr_eq, h1, mvG_1, un_mv _ hne]
  · unfold unG
    rw [upr_eq, h4, mvG_4, ups_ups, ups_eq, show 1 - (1 - σ 4 0) = σ 4 0 by omega, ups_self]
  · unfold unG
    rw [upr_ne _ _ d, upr_ne _ _ a]
theorem MLs18 {σ : Sg} (g : GI σ) : (MLs (σ 1) (σ 2 0) (σ 3 0) (σ 4 0)).length ≤ 18 := by
  obtain ⟨hB, hC, hs, hp, hS⟩ := g
  have hb := wh_bd hB.1 hB.2.1 hB.2.2.1 hB.2.2.2
  exact MLs_18 hs hp (by omega)
theorem MLsMB {σ : Sg} (g : GI σ) : ∀ v, v ∈ MLs (σ 1) (σ 2 0) (σ 3 0) (σ 4 0) → 0 ≤ v ∧ v < 2500 := fun v h => ⟨(MV.ok h g).1.1, (MV.ok h g).2.2⟩
