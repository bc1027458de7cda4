/-! the bounds of the class's VALUE spare only what can't change it -/
def FSB (v lo hi x : Int) : Prop := (x ≤ lo → v ≤ x) ∧ (hi ≤ x → x ≤ v) ∧ (lo < x → x < hi → x = v)
theorem FSB.step {B b lo hi val x : Int} (hw : lo < hi) (h : FSB B lo hi b) (hb : b < hi) (hx : FSB val (-hi) (-(max lo b)) x) : FSB (max B (-val)) lo hi (max b (-x)) := by
  obtain ⟨a1, a2, a3⟩ := h
  obtain ⟨x1, x2, x3⟩ := hx
  refine ⟨fun h => ?_, fun h => ?_, fun h h2 => ?_⟩ <;> omega
theorem FSB.eq {v x lo hi : Int} (h : FSB v lo hi x) (h0 : lo < v) (h1 : v < hi) : x = v := by
  obtain ⟨a1, a2, a3⟩ := h
  omega
theorem qvl_ge {rec : Fn → Int → Int} {c : Fn} {sd : Int} : ∀ (L : List Int) (b : Int), b ≤ qvl rec c sd L b
  | [], b => Int.le_refl _
  | v :: vs, b => by
    unfold qvl
    split
    · have := qvl_ge (rec := rec) (c := c) (sd := sd) vs (max b (-(rec (mvF c v) (1 - sd)))); omega
    · exact qvl_ge vs b
theorem qlp_fs {rec : Fn → Int → Int → Int → Int × Int} {rv : Fn → Int → Int} {c : Fn} {sd lo hi : Int} (hw : lo < hi) (hrec : ∀ v lo hi, lo < hi → FSB (rv (mvF c v) (1 - sd)) lo hi (rec (mvF c v) (1 - sd) lo hi).1) : ∀ (L : List Int) (b B n : Int), FSB B lo hi b → FSB (qvl rv c sd L B) lo hi (qlp rec c sd lo hi L b n).1
  | [], b, B, n, h => h
  | v :: vs, b, B, n, h => by
    by_cases e : b < hi
    · rw [qlp, if_pos e, qvl]
      by_cases t : c (v % 100) ≠ 0
      · rw [if_pos t, if_pos t]
        exact qlp_fs hw hrec vs _ _ _ (h.step hw e (hrec v _ _ (by omega)))
      · rw [if_neg t, if_neg t]
        exact qlp_fs hw hrec vs _ _ _ h
    · rw [qlp, if_neg e]
      have q := qvl_ge (rec := rv) (c := c) (sd := sd) (v :: vs) B
      obtain ⟨a1, a2, a3⟩ := h
      exact ⟨fun h => by omega, fun h => by omega, fun h h2 => by omega⟩
theorem qb_fs (S : Nat → Int) : ∀ (t : Nat) (c : Fn) (sd lo hi : Int), lo < hi → FSB (qv S t c sd) lo hi (qb S t c sd lo hi).1
  | 0, c, sd, lo, hi, hw => by
    unfold qv qb
    split
    · exact ⟨fun _ => Int.le_refl _, fun _ => Int.le_refl _, fun _ _ => rfl⟩
    · exact ⟨fun _ => Int.le_refl _, fun _ => Int.le_refl _, fun _ _ => rfl⟩
  | t + 1, c, sd, lo, hi, hw => by
    unfold qv qb
    split
    · exact ⟨fun _ => Int.le_refl _, fun _ => Int.le_refl _, fun _ _ => rfl⟩
    · split
      · exact ⟨fun _ => Int.le_refl _, fun _ => Int.le_refl _, fun _ _ => rfl⟩
      · exact qlp_fs hw (fun v lo hi h => qb_fs S t _ _ lo hi h) _ _ _ _ ⟨fun _ => Int.le_refl _, fun _ => Int.le_refl _, fun _ _ => rfl⟩
theorem vvl_ge {rec : Fn → Int → Int} {c : Fn} {sd : Int} : ∀ (L : List Int) (b : Int), b ≤ vvl rec c sd L b
  | [], b => Int.le_refl _
  | v :: vs, b => by
    unfold vvl
    have := vvl_ge (rec := rec) (c := c) (sd := sd) vs (max b (-(rec (mvF c v) (1 - sd)))); omega
theorem wlp_fs {rec : Fn → Int → Int → Int → Int} {rv : Fn → Int → Int} {c : Fn} {sd lo hi : Int} (hw : lo < hi) (h0 : -9999 ≤ lo) (h1 : hi ≤ 9999) (hrec : ∀ v lo hi, lo < hi → -9999 ≤ lo → hi ≤ 9999 → FSB (rv (mvF c v) (1 - sd)) lo hi (rec (mvF c v) (1 - sd) lo hi)) : ∀ (L : List Int) (b B : Int), FSB B lo hi b → FSB (vvl rv c sd L B) lo hi (wlp rec c sd lo hi L b)
  | [], b, B, h => h
  | v :: vs, b, B, h => by
    by_cases e : b < hi
    · rw [wlp, if_pos e, vvl]
      exact wlp_fs hw h0 h1 hrec vs _ _ (h.step hw e (hrec v _ _ (by omega) (by omega) (by omega)))
    · rw [wlp, if_neg e]
      have q := vvl_ge (rec := rv) (c := c) (sd := sd) (v :: vs) B
      obtain ⟨a1, a2, a3⟩ := h
      exact ⟨fun h => by omega, fun h => by omega, fun h h2 => by omega⟩
theorem wb_fs (S : Nat → Int) : ∀ (d : Nat) (c : Fn) (sd lo hi : Int), lo < hi → -9999 ≤ lo → hi ≤ 9999 → FSB (vv S d c sd) lo hi (wb S d c sd lo hi)
  | 0, c, sd, lo, hi, hw, _, _ => qb_fs S 4 c sd lo hi hw
  | d + 1, c, sd, lo, hi, hw, h0, h1 => by
    unfold vv wb
    split
    · exact ⟨fun _ => Int.le_refl _, fun _ => Int.le_refl _, fun _ _ => rfl⟩
    · exact wlp_fs hw h0 h1 (fun v lo hi h a b => wb_fs S d _ _ lo hi h a b) _ _ _ ⟨fun h => by omega, fun h => by omega, fun h h2 => by omega⟩
theorem vvl_9 {rec : Fn → Int → Int} (hrec : ∀ c sd, -9000 ≤ rec c sd ∧ rec c sd ≤ 9000) (c : Fn) (sd : Int) : ∀ (L : List Int) (b : Int), b ≤ 9000 → vvl rec c sd L b ≤ 9000 ∧ (L ≠ [] ∨ -9000 ≤ b → -9000 ≤ vvl rec c sd L b)
  | [], b, h1 => ⟨h1, fun h => h.elim (fun q => absurd rfl q) id⟩
  | v :: vs, b, h1 => by
    have := hrec (mvF c v) (1 - sd)
    have q := vvl_9 hrec c sd vs (max b (-(rec (mvF c v) (1 - sd)))) (by omega)
    unfold vvl
    exact ⟨q.1, fun _ => q.2 (Or.inr (by omega))⟩
theorem vv_9 {S : Nat → Int} (hS : SB S) : ∀ (d : Nat) (c : Fn) (sd : Int), d ≤ 10 → -9000 ≤ vv S d c sd ∧ vv S d c sd ≤ 9000
  | 0, c, sd, _ => by
    have := qv_bd hS 4 c sd
    unfold vv
    omega
  | d + 1, c, sd, h => by
    unfold vv
    split
    · omega
    · next hne =>
      have q := vvl_9 (rec := vv S d) (fun c sd => vv_9 hS d c sd (by omega)) c sd (MLs c (S 2) (S 3) sd) (-100000) (by omega)
      exact ⟨q.2 (Or.inl hne), q.1⟩
theorem wb_vv {S : Nat → Int} (hS : SB S) {d : Nat} (hd : d ≤ 10) (c : Fn) (sd : Int) : wb S d c sd (-9999) 9999 = vv S d c sd := by
  have q := vv_9 hS d c sd hd
  exact (wb_fs S d c sd (-9999) 9999 (by decide) (by decide) (by decide)).eq (by omega) (by omega)
