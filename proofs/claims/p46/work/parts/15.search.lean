/-! the search: its table, killers and counts are registers 9 .. 14, 17, 18, 19, 22, 23 of a state τ -/
def SR (r : Nat) : Prop := (9 ≤ r ∧ r ≤ 14) ∨ r = 17 ∨ r = 18 ∨ r = 19 ∨ r = 22 ∨ r = 23
def slotT (τ : Sg) (key : Int) : Int := if 0 < τ 9 0 then key % τ 9 0 else -1
def fndT (τ : Sg) (key : Int) : Int := if 0 < τ 9 0 ∧ 0 < τ 11 (key % τ 9 0) ∧ τ 10 (key % τ 9 0) = key then key % τ 9 0 else -1
def mvT (τ : Sg) (s : Int) : Int := if 0 ≤ s then τ 14 s else -1
def ansT (τ : Sg) (s d lo up : Int) : Prop := 0 ≤ s ∧ τ 11 s = d ∧ (τ 13 s = 0 ∨ (τ 13 s = 1 ∧ up ≤ τ 12 s) ∨ (τ 13 s = 2 ∧ τ 12 s ≤ lo))
def ansB (τ : Sg) (s d lo up : Int) : Bool := decide (0 ≤ s ∧ τ 11 s = d ∧ (τ 13 s = 0 ∨ (τ 13 s = 1 ∧ up ≤ τ 12 s) ∨ (τ 13 s = 2 ∧ τ 12 s ≤ lo)))
def stoT (τ : Sg) (key d b k v : Int) : Sg := if 0 < τ 9 0 then upr (upr (upr (upr (upr τ 10 (ups (τ 10) (key % τ 9 0) key)) 11 (ups (τ 11) (key % τ 9 0) d)) 12 (ups (τ 12) (key % τ 9 0) b)) 13 (ups (τ 13) (key % τ 9 0) k)) 14 (ups (τ 14) (key % τ 9 0) v) else τ
def noteT (τ : Sg) (d v : Int) : Sg := if τ 17 d = v then τ else upr (upr τ 18 (ups (τ 18) d (τ 17 d))) 17 (ups (τ 17) d v)
def incT (τ : Sg) (r : Nat) : Sg := upr τ r (ups (τ r) 0 (τ r 0 + 1))
def setT (τ : Sg) (r : Nat) (v : Int) : Sg := upr τ r (ups (τ r) 0 v)
def cutT (τ : Sg) (c : Fn) (d v : Int) : Sg := if c (v % 100) ≠ 0 then incT τ 23 else noteT (incT τ 23) d v
def slp (rec : Fn → Int → Int → Int → Sg → Int × Int × Sg) (c : Fn) (sd lo up : Int) : List Int → Int → Int → Int → Sg → Int × Int × Int × Sg
  | [], b, f, n, τ => (b, f, n, τ)
  | v :: vs, b, f, n, τ => if b < up then (if b < -(rec (mvF c v) (1 - sd) (-up) (-(max lo b)) τ).1 then slp rec c sd lo up vs (-(rec (mvF c v) (1 - sd) (-up) (-(max lo b)) τ).1) v (n + (rec (mvF c v) (1 - sd) (-up) (-(max lo b)) τ).2.1) (rec (mvF c v) (1 - sd) (-up) (-(max lo b)) τ).2.2 else slp rec c sd lo up vs b f (n + (rec (mvF c v) (1 - sd) (-up) (-(max lo b)) τ).2.1) (rec (mvF c v) (1 - sd) (-up) (-(max lo b)) τ).2.2) else (b, f, n, τ)
/-- what is kept behind the moves -/
def endT (c : Fn) (d lo up key : Int) (r : Int × Int × Int × Sg) : Sg := stoT (if up ≤ r.1 then cutT r.2.2.2 c d r.2.1 else r.2.2.2) key d r.1 (if up ≤ r.1 then 1 else if r.1 ≤ lo then 2 else 0) r.2.1
def keyS (S : Nat → Int) (c : Fn) (sd : Int) : Int := keyF c (S 2 * S 3).toNat * 2 + sd
def ordS (τ : Sg) (c : Fn) (L : List Int) (key d : Int) : List Int := ord c L (mvT τ (fndT τ key)) (τ 17 d) (τ 18 d)
def sb (S : Nat → Int) : Nat → Fn → Int → Int → Int → Sg → Int × Int × Sg
  | 0, c, sd, lo, up, τ => ((qb S 4 c sd lo up).1, (qb S 4 c sd lo up).2, τ)
  | d + 1, c, sd, lo, up, τ =>
    if MLs c (S 2) (S 3) sd = [] then (-1000 - ((d : Int) + 1), 1, τ)
    else if ansB τ (fndT τ (keyS S c sd)) ((d : Int) + 1) lo up = true then (τ 12 (fndT τ (keyS S c sd)), 1, setT (incT τ 22) 19 (τ 14 (fndT τ (keyS S c sd))))
    else ((slp (sb S d) c sd lo up (ordS τ c (MLs c (S 2) (S 3) sd) (keyS S c sd) ((d : Int) + 1)) (-10000) (-1) 1 τ).1, (slp (sb S d) c sd lo up (ordS τ c (MLs c (S 2) (S 3) sd) (keyS S c sd) ((d : Int) + 1)) (-10000) (-1) 1 τ).2.2.1,
      setT (endT c ((d : Int) + 1) lo up (keyS S c sd) (slp (sb S d) c sd lo up (ordS τ c (MLs c (S 2) (S 3) sd) (keyS S c sd) ((d : Int) + 1)) (-10000) (-1) 1 τ)) 19 (slp (sb S d) c sd lo up (ordS τ c (MLs c (S 2) (S 3) sd) (keyS S c sd) ((d : Int) + 1)) (-10000) (-1) 1 τ).2.1)
/-- the bounds of what the table and the killers hold -/
def TI (τ : Sg) : Prop := (0 ≤ τ 9 0 ∧ τ 9 0 ≤ 64) ∧ (∀ s : Int, (0 ≤ τ 11 s ∧ τ 11 s ≤ 4) ∧ (-10000 ≤ τ 12 s ∧ τ 12 s ≤ 10000) ∧ (0 ≤ τ 13 s ∧ τ 13 s ≤ 2) ∧ (-1 ≤ τ 14 s ∧ τ 14 s < 2500) ∧ (0 ≤ τ 10 s ∧ τ 10 s < 4000000000000000000)) ∧ (∀ d : Int, (-1 ≤ τ 17 d ∧ τ 17 d < 2500) ∧ (-1 ≤ τ 18 d ∧ τ 18 d < 2500))
theorem TI.of {a b : Sg} (h : TI a) (e : ∀ r, ((9 ≤ r ∧ r ≤ 14) ∨ r = 17 ∨ r = 18) → b r = a r) : TI b := by
  unfold TI at *
  rw [e 9 (by omega), e 10 (by omega), e 11 (by omega), e 12 (by omega), e 13 (by omega), e 14 (by omega), e 17 (by omega), e 18 (by omega)]
  exact h
theorem TI.set {τ : Sg} (h : TI τ) {r : Nat} (hr : ¬ ((9 ≤ r ∧ r ≤ 14) ∨ r = 17 ∨ r = 18)) (f : Fn) : TI (upr τ r f) := h.of (fun q hq => upr_ne _ _ (by intro e; subst e; exact hr hq))
theorem TI.note {τ : Sg} (h : TI τ) (d : Int) {v : Int} (hv : -1 ≤ v ∧ v < 2500) : TI (noteT τ d v) := by
  unfold noteT
  split
  · exact h
  · obtain ⟨a, b, k⟩ := h
    unfold TI
    simp only [upr_ne _ _ (show (9 : Nat) ≠ 17 by decide), upr_ne _ _ (show (9 : Nat) ≠ 18 by decide), upr_ne _ _ (show (10 : Nat) ≠ 17 by decide), upr_ne _ _ (show (10 : Nat) ≠ 18 by decide), upr_ne _ _ (show (11 : Nat) ≠ 17 by decide), upr_ne _ _ (show (11 : Nat) ≠ 18 by decide), upr_ne _ _ (show (12 : Nat) ≠ 17 by decide), upr_ne _ _ (show (12 : Nat) ≠ 18 by decide), upr_ne _ _ (show (13 : Nat) ≠ 17 by decide), upr_ne _ _ (show (13 : Nat) ≠ 18 by decide), upr_ne _ _ (show (14 : Nat) ≠ 17 by decide), upr_ne _ _ (show (14 : Nat) ≠ 18 by decide), upr_ne _ _ (show (18 : Nat) ≠ 17 by decide), upr_eq]
    refine ⟨a, b, fun x => ?_⟩
    have q := k x
    have q2 := k d
    unfold ups
    constructor
    · split
      · exact hv
      · exact q.1
    · split
      · exact q2.1
      · exact q.2
theorem TI.cut {τ : Sg} (h : TI τ) (c : Fn) (d : Int) {v : Int} (hv : -1 ≤ v ∧ v < 2500) : TI (cutT τ c d v) := by
  unfold cutT
  split
  · exact h.set (by omega) _
  · exact TI.note (h.set (by omega) _) d hv
theorem stoT_no {τ : Sg} {key d b k v : Int} (h : ¬ 0 < τ 9 0) : stoT τ key d b k v = τ := if_neg h
theorem stoT_in {τ : Sg} {key d b k v : Int} (h : 0 < τ 9 0) : stoT τ key d b k v 10 = ups (τ 10) (key % τ 9 0) key ∧ stoT τ key d b k v 11 = ups (τ 11) (key % τ 9 0) d ∧ stoT τ key d b k v 12 = ups (τ 12) (key % τ 9 0) b ∧ stoT τ key d b k v 13 = ups (τ 13) (key % τ 9 0) k ∧ stoT τ key d b k v 14 = ups (τ 14) (key % τ 9 0) v ∧ ∀ r : Nat, ¬ (10 ≤ r ∧ r ≤ 14) → stoT τ key d b k v r = τ r := by
  unfold stoT
  rw [if_pos h]
  refine ⟨rfl, rfl, rfl, rfl, rfl, fun r hr => ?_⟩
  rw [upr_ne _ _ (by omega), upr_ne _ _ (by omega), upr_ne _ _ (by omega), upr_ne _ _ (by omega), upr_ne _ _ (by omega)]
theorem ups_all {f : Fn} {P : Int → Prop} (h : ∀ x, P (f x)) {i v : Int} (hv : P v) : ∀ x, P (ups f i v x) := by
  intro x
  unfold ups
  split
  · exact hv
  · exact h x
theorem TI.sto {τ : Sg} (h : TI τ) {key d b k v : Int} (hk0 : 0 ≤ key ∧ key < 4000000000000000000) (hd : 0 ≤ d ∧ d ≤ 4) (hb : -10000 ≤ b ∧ b ≤ 10000) (hk : 0 ≤ k ∧ k ≤ 2) (hv : -1 ≤ v ∧ v < 2500) : TI (stoT τ key d b k v) := by
  by_cases h9 : 0 < τ 9 0
  · obtain ⟨e10, e11, e12, e13, e14, e0⟩ := stoT_in (key := key) (d := d) (b := b) (k := k) (v := v) h9
    obtain ⟨a, q, k2⟩ := h
    unfold TI
    rw [e10, e11, e12, e13, e14, e0 9 (by omega), e0 17 (by omega), e0 18 (by omega)]
    exact ⟨a, fun x => ⟨ups_all (P := fun y => 0 ≤ y ∧ y ≤ 4) (fun x => (q x).1) hd x, ups_all (P := fun y => -10000 ≤ y ∧ y ≤ 10000) (fun x => (q x).2.1) hb x, ups_all (P := fun y => 0 ≤ y ∧ y ≤ 2) (fun x => (q x).2.2.1) hk x, ups_all (P := fun y => -1 ≤ y ∧ y < 2500) (fun x => (q x).2.2.2.1) hv x, ups_all (P := fun y => 0 ≤ y ∧ y < 4000000000000000000) (fun x => (q x).2.2.2.2) hk0 x⟩, k2⟩
  · rw [stoT_no h9]; exact h
theorem keyF_bd {c : Fn} (hC : BC c) : ∀ n : Nat, 0 ≤ keyF c n ∧ keyF c n ≤ 3 ^ n - 1
  | 0 => by simp [keyF]
  | n + 1 => by
    have := keyF_bd hC n
    have h := hC (n : Int)
    rw [Int.pow_succ]
    show 0 ≤ keyF c n * 3 + c n ∧ keyF c n * 3 + c n ≤ _
    omega
theorem keyF_25 {c : Fn} (hC : BC c) {n : Nat} (hn : n ≤ 25) : 0 ≤ keyF c n ∧ keyF c n < 1000000000000 := by
  have a := keyF_bd hC n
  have b : (3 : Int) ^ n ≤ 3 ^ 25 := by
    exact_mod_cast Nat.pow_le_pow_right (by decide) hn
  have d : (3 : Int) ^ 25 = 847288609443 := by decide
  omega
theorem keyS_bd {S : Nat → Int} (hS : SB S) {c : Fn} (hC : BC c) {sd : Int} (hs : sd = 0 ∨ sd = 1) : 0 ≤ keyS S c sd ∧ keyS S c sd < 4000000000000000000 := by
  obtain ⟨w1, w2, h1, h2⟩ := hS.1
  have hb := wh_bd w1 w2 h1 h2
  have := keyF_25 hC (n := (S 2 * S 3).toNat) (by omega)
  unfold keyS
  omega
theorem wnt_mem {L acc : List Int} {v : Int} (h : ∀ x, x ∈ acc → x ∈ L) : ∀ x, x ∈ wnt L acc v → x ∈ L := by
  intro x hx
  unfold wnt at hx
  split at hx
  · rename_i q
    rcases List.mem_append.mp hx with g | g
    · exact h x g
    · rw [List.mem_singleton] at g; subst g; exact q.1
  · exact h x hx
theorem fold_mem {f : List Int → Int → List Int} {L : List Int} (hf : ∀ acc v, (∀ x, x ∈ acc → x ∈ L) → ∀ x, x ∈ f acc v → x ∈ L) : ∀ (M acc : List Int), (∀ x, x ∈ acc → x ∈ L) → ∀ x, x ∈ M.foldl f acc → x ∈ L
  | [], _, h => h
  | v :: M, acc, h => fold_mem hf M (f acc v) (hf acc v h)
theorem ord_mem (c : Fn) (L : List Int) (e k1 k2 : Int) : ∀ x, x ∈ ord c L e k1 k2 → x ∈ L := by
  unfold ord
  refine fold_mem (fun acc v h => wnt_mem h) _ _ (wnt_mem (wnt_mem (fold_mem (fun acc v h => ?_) _ _ (wnt_mem (fun x h => absurd h List.not_mem_nil)))))
  unfold tkF
  split
  · exact wnt_mem h
  · exact h
theorem ML_bd {c : Fn} {w h sd : Int} {L : List Int} (hL : ML_ok c w h sd L) (hw : w * h ≤ 25) {v : Int} (hv : v ∈ L) : -1 ≤ v ∧ v < 2500 := by
  obtain ⟨a, b, d, e, -⟩ := hL v hv
  omega
theorem mvF_side {sd : Int} (h : sd = 0 ∨ sd = 1) : 1 - sd = 0 ∨ 1 - sd = 1 := by omega
/-- what the loop over the moves keeps -/
theorem slp_ok {rec : Fn → Int → Int → Int → Sg → Int × Int × Sg} {c : Fn} {sd lo up : Int} (hrec : ∀ v lo up τ, TI τ → -1 ≤ v ∧ v < 2500 → TI (rec (mvF c v) (1 - sd) lo up τ).2.2 ∧ -10000 ≤ (rec (mvF c v) (1 - sd) lo up τ).1 ∧ (rec (mvF c v) (1 - sd) lo up τ).1 ≤ 10000) :
    ∀ (L : List Int) (b f n : Int) (τ : Sg), (∀ v, v ∈ L → -1 ≤ v ∧ v < 2500) → TI τ → (-10000 ≤ b ∧ b ≤ 10000) → (-1 ≤ f ∧ f < 2500) → TI (slp rec c sd lo up L b f n τ).2.2.2 ∧ (-10000 ≤ (slp rec c sd lo up L b f n τ).1 ∧ (slp rec c sd lo up L b f n τ).1 ≤ 10000) ∧ (-1 ≤ (slp rec c sd lo up L b f n τ).2.1 ∧ (slp rec c sd lo up L b f n τ).2.1 < 2500)
  | [], b, f, n, τ, _, hT, hb, hf => ⟨hT, hb, hf⟩
  | v :: vs, b, f, n, τ, hL, hT, hb, hf => by
    have hv := hL v List.mem_cons_self
    have hr := hrec v (-up) (-(max lo b)) τ hT hv
    have hL2 : ∀ v, v ∈ vs → -1 ≤ v ∧ v < 2500 := fun v h => hL v (List.mem_cons_of_mem _ h)
    unfold slp
    split
    · split
      · exact slp_ok hrec vs _ _ _ _ hL2 hr.1 (by omega) hv
      · exact slp_ok hrec vs _ _ _ _ hL2 hr.1 hb hf
    · exact ⟨hT, hb, hf⟩
theorem sb_ok {S : Nat → Int} (hS : SB S) : ∀ (d : Nat) (c : Fn) (sd lo up : Int) (τ : Sg), d ≤ 4 → BC c → (sd = 0 ∨ sd = 1) → TI τ → TI (sb S d c sd lo up τ).2.2 ∧ -10000 ≤ (sb S d c sd lo up τ).1 ∧ (sb S d c sd lo up τ).1 ≤ 10000
  | 0, c, sd, lo, up, τ, _, _, _, hT => by
    have := qb_bd hS 4 c sd lo up
    exact ⟨hT, by show -10000 ≤ (qb S 4 c sd lo up).1; omega, by show (qb S 4 c sd lo up).1 ≤ 10000; omega⟩
  | d + 1, c, sd, lo, up, τ, hd, hC, hs, hT => by
    obtain ⟨w1, w2, h1, h2⟩ := hS.1
    have hb := wh_bd w1 w2 h1 h2
    have hkey := keyS_bd hS hC hs
    rw [sb]
    split
    · exact ⟨hT, by show -10000 ≤ -1000 - ((d : Int) + 1); omega, by show -1000 - ((d : Int) + 1) ≤ 10000; omega⟩
    · split
      · have q := hT.2.1 (fndT τ (keyS S c sd))
        exact ⟨(hT.set (by omega) _).set (by omega) _, q.2.1.1, q.2.1.2⟩
      · have key := slp_ok (rec := sb S d) (c := c) (sd := sd) (lo := lo) (up := up) (fun v lo up τ h _ => sb_ok hS d (mvF c v) (1 - sd) lo up τ (by omega) (mvF_BC hC v) (mvF_side hs) h) (ordS τ c (MLs c (S 2) (S 3) sd) (keyS S c sd) ((d : Int) + 1)) (-10000) (-1) 1 τ (fun v hv => ML_bd (MLs_ok hs w1 w2 h1 h2) hb.2.1 (ord_mem _ _ _ _ _ v hv)) hT (by omega) (by omega)
        refine ⟨TI.set (r := 19) (TI.sto ?_ hkey (by omega) key.2.1 (by split <;> (try split) <;> omega) key.2.2) (by omega) _, key.2.1.1, key.2.1.2⟩
        split
        · exact key.1.cut c _ key.2.2
        · exact key.1
