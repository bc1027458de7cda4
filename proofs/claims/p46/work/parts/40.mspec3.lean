/-! the numbers kept are small, so the reference's lower start is the same -/
def T9 (τ : Sg) : Prop := ∀ s : Int, -9000 ≤ τ 12 s ∧ τ 12 s ≤ 9000
theorem T9.of {a b : Sg} (h : T9 a) (e : b 12 = a 12) : T9 b := fun s => by rw [e]; exact h s
theorem T9_tv {σ : Sg} : T9 (tv σ) ↔ T9 σ := ⟨fun h => h.of (tv_in σ (by omega)).symm, fun h => h.of (tv_in σ (by omega))⟩
theorem T9.cut {τ : Sg} (h : T9 τ) (c : Fn) (d v : Int) : T9 (cutT τ c d v) := h.of (cut_o _ _ _ _ (by omega))
theorem T9.set {τ : Sg} (h : T9 τ) {r : Nat} (hr : r ≠ 12) (v : Int) : T9 (setT τ r v) := h.of (upr_ne _ _ (by omega))
theorem T9.sto {τ : Sg} (h : T9 τ) (key d : Int) {b : Int} (k v : Int) (hb : -9000 ≤ b ∧ b ≤ 9000) : T9 (stoT τ key d b k v) := by
  by_cases e : 0 < τ 9 0
  · intro s
    rw [(stoT_in e).2.2.1]
    exact ups_all (P := fun y => -9000 ≤ y ∧ y ≤ 9000) (f := τ 12) h hb s
  · rw [stoT_no e]; exact h
theorem slp_9 {rec : Fn → Int → Int → Int → Sg → Int × Int × Sg} {c : Fn} {sd lo up : Int} (hlo : -9999 ≤ lo ∧ lo ≤ 9999) (hup : -9999 ≤ up ∧ up ≤ 9999) (hrec : ∀ v lo up τ, T9 τ → (-9999 ≤ lo ∧ lo ≤ 9999) → (-9999 ≤ up ∧ up ≤ 9999) → T9 (rec (mvF c v) (1 - sd) lo up τ).2.2 ∧ -9000 ≤ (rec (mvF c v) (1 - sd) lo up τ).1 ∧ (rec (mvF c v) (1 - sd) lo up τ).1 ≤ 9000) :
    ∀ (L : List Int) (b f n : Int) (τ : Sg), T9 τ → (b < -9999 ∨ -9000 ≤ b) → b ≤ 9000 → T9 (slp rec c sd lo up L b f n τ).2.2.2 ∧ (slp rec c sd lo up L b f n τ).1 ≤ 9000 ∧ (-9000 ≤ b ∨ L ≠ [] → -9000 ≤ (slp rec c sd lo up L b f n τ).1)
  | [], b, f, n, τ, hT, _, hb => ⟨hT, hb, fun h => h.elim id (fun q => absurd rfl q)⟩
  | v :: vs, b, f, n, τ, hT, h0, hb => by
    have hr := hrec v (-up) (-(max lo b)) τ hT (by omega) (by omega)
    unfold slp
    by_cases e : b < up
    · rw [if_pos e]
      by_cases e2 : b < -(rec (mvF c v) (1 - sd) (-up) (-(max lo b)) τ).1
      · rw [if_pos e2]
        have q := slp_9 hlo hup hrec vs (-(rec (mvF c v) (1 - sd) (-up) (-(max lo b)) τ).1) v (n + (rec (mvF c v) (1 - sd) (-up) (-(max lo b)) τ).2.1) _ hr.1 (by omega) (by omega)
        exact ⟨q.1, q.2.1, fun _ => q.2.2 (Or.inl (by omega))⟩
      · rw [if_neg e2]
        have q := slp_9 hlo hup hrec vs b f (n + (rec (mvF c v) (1 - sd) (-up) (-(max lo b)) τ).2.1) _ hr.1 (by omega) (by omega)
        exact ⟨q.1, q.2.1, fun _ => q.2.2 (Or.inl (by omega))⟩
    · rw [if_neg e]
      exact ⟨hT, hb, fun _ => by omega⟩
theorem ord_nil {c : Fn} {L : List Int} {e k1 k2 : Int} (h : L ≠ []) : ord c L e k1 k2 ≠ [] := by
  intro q
  obtain ⟨x, hx⟩ := List.exists_mem_of_ne_nil L h
  have := ord_all c L e k1 k2 x hx
  rw [q] at this
  exact absurd this List.not_mem_nil
theorem sb_9 {S : Nat → Int} (hS : SB S) : ∀ (d : Nat) (c : Fn) (sd lo up : Int) (τ : Sg), d ≤ 4 → T9 τ → (-9999 ≤ lo ∧ lo ≤ 9999) → (-9999 ≤ up ∧ up ≤ 9999) → T9 (sb S d c sd lo up τ).2.2 ∧ -9000 ≤ (sb S d c sd lo up τ).1 ∧ (sb S d c sd lo up τ).1 ≤ 9000
  | 0, c, sd, lo, up, τ, _, hT, _, _ => by
    have := qb_bd hS 4 c sd lo up
    exact ⟨hT, by show -9000 ≤ (qb S 4 c sd lo up).1; omega, by show (qb S 4 c sd lo up).1 ≤ 9000; omega⟩
  | d + 1, c, sd, lo, up, τ, hd, hT, hlo, hup => by
    rw [sb]
    split
    · exact ⟨hT, by show -9000 ≤ -1000 - ((d : Int) + 1); omega, by show -1000 - ((d : Int) + 1) ≤ 9000; omega⟩
    · next hne =>
      split
      · have q := hT (fndT τ (keyS S c sd))
        exact ⟨(hT.of (upr_ne _ _ (by decide)) : T9 (incT τ 22)).set (by decide) _, q.1, q.2⟩
      · have key := slp_9 (rec := sb S d) (c := c) (sd := sd) hlo hup (fun v lo up τ h a b => sb_9 hS d (mvF c v) (1 - sd) lo up τ (by omega) h a b) (ordS τ c (MLs c (S 2) (S 3) sd) (keyS S c sd) ((d : Int) + 1)) (-10000) (-1) 1 τ hT (by omega) (by omega)
        have k2 := key.2.2 (Or.inr (ord_nil hne))
        refine ⟨T9.set (T9.sto ?_ _ _ _ _ ⟨k2, key.2.1⟩) (by decide) _, k2, key.2.1⟩
        split
        · exact key.1.cut c _ _
        · exact key.1
theorem slp_first {rec : Fn → Int → Int → Int → Sg → Int × Int × Sg} {c : Fn} {sd lo up f n : Int} {τ : Sg} {L : List Int} (hL : L ≠ []) (hlo : -9999 ≤ lo) (hup : -9999 ≤ up) (hr : ∀ v, (rec (mvF c v) (1 - sd) (-up) (-lo) τ).1 ≤ 9000) : slp rec c sd lo up L (-100000) f n τ = slp rec c sd lo up L (-10000) f n τ := by
  cases L with
  | nil => exact absurd rfl hL
  | cons v vs =>
    have h := hr v
    have e1 : max lo (-100000) = lo := by omega
    have e2 : max lo (-10000) = lo := by omega
    have c1 : (-100000 : Int) < up := by omega
    have c2 : (-10000 : Int) < up := by omega
    have c3 : -100000 < -(rec (mvF c v) (1 - sd) (-up) (-lo) τ).1 := by omega
    have c4 : -10000 < -(rec (mvF c v) (1 - sd) (-up) (-lo) τ).1 := by omega
    rw [slp, slp, e1, e2, if_pos c1, if_pos c2, if_pos c3, if_pos c4]
theorem slp_drop {rec : Fn → Int → Int → Int → Sg → Int × Int × Sg} {c : Fn} {sd lo hi b f n x : Int} {τ : Sg} {O : List Int} (h0 : 0 ≤ x) (h1 : x < O.length) (hb : b < hi) {r : Int × Int × Sg} (hr : rec (mvF c (O.getD x.toNat (-1))) (1 - sd) (-hi) (-(max lo b)) τ = r) : slp rec c sd lo hi (O.drop x.toNat) b f n τ = if b < -r.1 then slp rec c sd lo hi (O.drop (x + 1).toNat) (-r.1) (O.getD x.toNat (-1)) (n + r.2.1) r.2.2 else slp rec c sd lo hi (O.drop (x + 1).toNat) b f (n + r.2.1) r.2.2 := by
  subst hr
  rw [drop_s h0 h1, slp, if_pos hb]
