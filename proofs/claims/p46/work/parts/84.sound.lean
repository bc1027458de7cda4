/-! the table tells the truth: SEARCH finds VALUE -/
theorem vvl_le {rec : Fn → Int → Int} {c : Fn} {sd x : Int} : ∀ (L : List Int) (b : Int), vvl rec c sd L b ≤ x ↔ (b ≤ x ∧ ∀ v, v ∈ L → -(rec (mvF c v) (1 - sd)) ≤ x)
  | [], b => ⟨fun h => ⟨h, fun v hv => absurd hv List.not_mem_nil⟩, fun h => h.1⟩
  | v :: vs, b => by
    unfold vvl
    rw [vvl_le vs]
    constructor
    · rintro ⟨h1, h2⟩
      refine ⟨by omega, fun u hu => ?_⟩
      rcases List.mem_cons.mp hu with rfl | hu
      · omega
      · exact h2 u hu
    · rintro ⟨h1, h2⟩
      have := h2 v List.mem_cons_self
      exact ⟨by omega, fun u hu => h2 u (List.mem_cons_of_mem _ hu)⟩
theorem vvl_perm {rec : Fn → Int → Int} {c : Fn} {sd : Int} {L M : List Int} (h : ∀ v, v ∈ L ↔ v ∈ M) (b : Int) : vvl rec c sd L b = vvl rec c sd M b := by
  have a1 := (vvl_le (rec := rec) (c := c) (sd := sd) L b).mp (Int.le_refl _)
  have a2 := (vvl_le (rec := rec) (c := c) (sd := sd) M b).mp (Int.le_refl _)
  have b1 := (vvl_le (rec := rec) (c := c) (sd := sd) M b).mpr ⟨a1.1, fun v hv => a1.2 v ((h v).mpr hv)⟩
  have b2 := (vvl_le (rec := rec) (c := c) (sd := sd) L b).mpr ⟨a2.1, fun v hv => a2.2 v ((h v).mp hv)⟩
  omega
/-- what the slot s says is true of its board -/
def ENT (S : Nat → Int) (τ : Sg) (s : Int) : Prop := ∃ (c : Fn) (sd : Int), BDG (S 2 * S 3) c ∧ (sd = 0 ∨ sd = 1) ∧ keyS S c sd = τ 10 s ∧ (τ 13 s ≠ 2 → τ 12 s ≤ vv S (τ 11 s).toNat c sd) ∧ (τ 13 s ≠ 1 → vv S (τ 11 s).toNat c sd ≤ τ 12 s)
def TSo (S : Nat → Int) (τ : Sg) : Prop := ∀ s : Int, 0 < τ 11 s → (0 ≤ s ∧ s < τ 9 0) ∧ ENT S τ s
theorem TSo.of {S : Nat → Int} {a b : Sg} (h : TSo S a) (e : ∀ r : Nat, 9 ≤ r → r ≤ 13 → b r = a r) : TSo S b := by
  unfold TSo ENT at *
  rw [e 9 (by omega) (by omega), e 10 (by omega) (by omega), e 11 (by omega) (by omega), e 12 (by omega) (by omega), e 13 (by omega) (by omega)]
  exact h
theorem TSo.nil {S : Nat → Int} {τ : Sg} (h : ∀ s : Int, τ 11 s = 0) : TSo S τ := fun s hs => by rw [h s] at hs; omega
theorem TSo.cut {S : Nat → Int} {τ : Sg} (h : TSo S τ) (c : Fn) (d v : Int) : TSo S (cutT τ c d v) := h.of (fun r h1 h2 => cut_o _ _ _ _ (by omega))
theorem TSo.up {S : Nat → Int} {τ : Sg} (h : TSo S τ) {q : Nat} (f : Fn) (hq : 13 < q) : TSo S (upr τ q f) := h.of (fun r h1 h2 => upr_ne _ _ (by omega))
theorem TSo.sto {S : Nat → Int} {τ : Sg} (h : TSo S τ) {c : Fn} {sd d b k : Int} (f : Int) (hc : BDG (S 2 * S 3) c) (hs : sd = 0 ∨ sd = 1) (h1 : k ≠ 2 → b ≤ vv S d.toNat c sd) (h2 : k ≠ 1 → vv S d.toNat c sd ≤ b) : TSo S (stoT τ (keyS S c sd) d b k f) := by
  by_cases e : 0 < τ 9 0
  · obtain ⟨q0, q1, q2, q3, q4, q5⟩ := stoT_in (key := keyS S c sd) (d := d) (b := b) (k := k) (v := f) e
    have q9 := q5 9 (by omega)
    have b1 := Int.emod_nonneg (keyS S c sd) (show τ 9 0 ≠ 0 by omega)
    have b2 := Int.emod_lt_of_pos (keyS S c sd) e
    intro s h0
    unfold ENT
    rw [q1] at h0
    rw [q0, q1, q2, q3, q9]
    by_cases e2 : s = keyS S c sd % τ 9 0
    · rw [e2, ups_eq, ups_eq, ups_eq, ups_eq]
      exact ⟨⟨b1, b2⟩, c, sd, hc, hs, rfl, h1, h2⟩
    · rw [ups_ne _ _ e2] at h0
      rw [ups_ne _ _ e2, ups_ne _ _ e2, ups_ne _ _ e2, ups_ne _ _ e2]
      exact h s h0
  · rw [stoT_no e]; exact h
theorem BDG.eq {S : Nat → Int} (hS : SB S) {a b : Fn} {s t : Int} (ha : BDG (S 2 * S 3) a) (hb : BDG (S 2 * S 3) b) (hs : s = 0 ∨ s = 1) (ht : t = 0 ∨ t = 1) (h : keyS S a s = keyS S b t) : a = b ∧ s = t := by
  obtain ⟨w1, w2, h1, h2⟩ := hS.1
  have wb := wh_bd w1 w2 h1 h2
  have q := keyS_inj ha.1 hb.1 hs ht h
  refine ⟨?_, q.1⟩
  funext i
  by_cases e : 0 ≤ i ∧ i < S 2 * S 3
  · exact q.2 i e.1 (by omega)
  · rw [ha.2.2 i (by omega), hb.2.2 i (by omega)]
theorem slp_so {S : Nat → Int} {rec : Fn → Int → Int → Int → Sg → Int × Int × Sg} {rv : Fn → Int → Int} {c : Fn} {sd lo up : Int} {M : List Int} (hw : lo < up) (h0 : -9999 ≤ lo) (h1 : up ≤ 9999) (hrec : ∀ v lo up τ, v ∈ M → TSo S τ → lo < up → -9999 ≤ lo → up ≤ 9999 → TSo S (rec (mvF c v) (1 - sd) lo up τ).2.2 ∧ FSB (rv (mvF c v) (1 - sd)) lo up (rec (mvF c v) (1 - sd) lo up τ).1) :
    ∀ (L : List Int) (b B f n : Int) (τ : Sg), (∀ v, v ∈ L → v ∈ M) → TSo S τ → FSB B lo up b → TSo S (slp rec c sd lo up L b f n τ).2.2.2 ∧ FSB (vvl rv c sd L B) lo up (slp rec c sd lo up L b f n τ).1
  | [], b, B, f, n, τ, _, hT, h => ⟨hT, h⟩
  | v :: vs, b, B, f, n, τ, hL, hT, h => by
    have hL2 : ∀ x, x ∈ vs → x ∈ M := fun x hx => hL x (List.mem_cons_of_mem _ hx)
    by_cases e : b < up
    · have hr := hrec v (-up) (-(max lo b)) τ (hL v List.mem_cons_self) hT (by omega) (by omega) (by omega)
      have st := h.step hw e hr.2
      rw [slp, if_pos e, vvl]
      by_cases e2 : b < -(rec (mvF c v) (1 - sd) (-up) (-(max lo b)) τ).1
      · rw [if_pos e2]
        rw [Int.max_eq_right (Int.le_of_lt e2)] at st
        exact slp_so hw h0 h1 hrec vs _ _ _ _ _ hL2 hr.1 st
      · rw [if_neg e2]
        rw [Int.max_eq_left (Int.not_lt.mp e2)] at st
        exact slp_so hw h0 h1 hrec vs _ _ _ _ _ hL2 hr.1 st
    · rw [slp, if_neg e]
      have q := vvl_ge (rec := rv) (c := c) (sd := sd) (v :: vs) B
      obtain ⟨a1, a2, a3⟩ := h
      exact ⟨hT, fun h => by omega, fun h => by omega, fun h h2 => by omega⟩
theorem FSB.rf {v lo hi : Int} : FSB v lo hi v := ⟨fun _ => Int.le_refl _, fun _ => Int.le_refl _, fun _ _ => rfl⟩
theorem BDG.play {S : Nat → Int} (hS : SB S) {c : Fn} {sd v : Int} (hc : BDG (S 2 * S 3) c) (hs : sd = 0 ∨ sd = 1) (hv : v ∈ MLs c (S 2) (S 3) sd) : BDG (S 2 * S 3) (mvF c v) := by
  obtain ⟨w1, w2, h1, h2⟩ := hS.1
  have wb := wh_bd w1 w2 h1 h2
  obtain ⟨a, b, d, e, f, -⟩ := MLs_ok hs w1 w2 h1 h2 v hv
  exact hc.mv a wb.2.1 d e f
theorem sb_so {S : Nat → Int} (hS : SB S) : ∀ (d : Nat) (c : Fn) (sd lo up : Int) (τ : Sg), BDG (S 2 * S 3) c → (sd = 0 ∨ sd = 1) → TSo S τ → lo < up → -9999 ≤ lo → up ≤ 9999 → TSo S (sb S d c sd lo up τ).2.2 ∧ FSB (vv S d c sd) lo up (sb S d c sd lo up τ).1
  | 0, c, sd, lo, up, τ, _, _, hT, hw, _, _ => ⟨hT, qb_fs S 4 c sd lo up hw⟩
  | d + 1, c, sd, lo, up, τ, hc, hs, hT, hw, h0, h1 => by
    by_cases hne : MLs c (S 2) (S 3) sd = []
    · rw [sb, if_pos hne, vv, if_pos hne]
      exact ⟨hT, FSB.rf⟩
    rw [sb, if_neg hne]
    by_cases ha : ansB τ (fndT τ (keyS S c sd)) ((d : Int) + 1) lo up = true
    · rw [if_pos ha]
      refine ⟨TSo.up (TSo.up hT (q := 22) _ (by decide)) (q := 19) _ (by decide), ?_⟩
      have q : 0 ≤ fndT τ (keyS S c sd) ∧ τ 11 (fndT τ (keyS S c sd)) = (d : Int) + 1 ∧ _ := of_decide_eq_true ha
      have hz : 0 < τ 9 0 ∧ 0 < τ 11 (keyS S c sd % τ 9 0) ∧ τ 10 (keyS S c sd % τ 9 0) = keyS S c sd := by
        by_cases z : 0 < τ 9 0 ∧ 0 < τ 11 (keyS S c sd % τ 9 0) ∧ τ 10 (keyS S c sd % τ 9 0) = keyS S c sd
        · exact z
        · have := fnd_n z; omega
      rw [fnd_y hz] at q ⊢
      obtain ⟨-, c2, s2, b2, t2, k2, m1, m2⟩ := hT _ hz.2.1
      obtain ⟨rfl, rfl⟩ := BDG.eq hS b2 hc t2 hs (k2.trans hz.2.2)
      rw [q.2.1, show ((d : Int) + 1).toNat = d + 1 by omega] at m1 m2
      show FSB _ _ _ (τ 12 (keyS S c2 s2 % τ 9 0))
      rcases q.2.2 with e | ⟨e, e2⟩ | ⟨e, e2⟩
      · have x1 := m1 (by omega)
        have x2 := m2 (by omega)
        exact ⟨fun _ => by omega, fun _ => by omega, fun _ _ => by omega⟩
      · have x1 := m1 (by omega)
        exact ⟨fun _ => by omega, fun _ => by omega, fun _ _ => by omega⟩
      · have x2 := m2 (by omega)
        exact ⟨fun _ => by omega, fun _ => by omega, fun _ _ => by omega⟩
    · rw [if_neg ha]
      have hO : ∀ v, v ∈ ordS τ c (MLs c (S 2) (S 3) sd) (keyS S c sd) ((d : Int) + 1) ↔ v ∈ MLs c (S 2) (S 3) sd := fun v => ⟨ord_mem _ _ _ _ _ v, ord_all _ _ _ _ _ v⟩
      have key := slp_so (S := S) (rec := sb S d) (rv := vv S d) (c := c) (sd := sd) (M := MLs c (S 2) (S 3) sd) hw h0 h1 (fun v lo up τ hv hT a b e => sb_so hS d (mvF c v) (1 - sd) lo up τ (BDG.play hS hc hs hv) (mvF_side hs) hT a b e) (ordS τ c (MLs c (S 2) (S 3) sd) (keyS S c sd) ((d : Int) + 1)) (-10000) (-100000) (-1) 1 τ (fun v hv => (hO v).mp hv) hT ⟨fun h => by omega, fun h => by omega, fun h h2 => by omega⟩
      have ev : vv S (d + 1) c sd = vvl (vv S d) c sd (MLs c (S 2) (S 3) sd) (-100000) := by rw [vv, if_neg hne]
      rw [vvl_perm hO, ← ev] at key
      obtain ⟨k1, k2⟩ := key
      refine ⟨TSo.up (q := 19) ?_ _ (by decide), k2⟩
      unfold endT
      have hd : ((d : Int) + 1).toNat = d + 1 := by omega
      refine TSo.sto ?_ _ hc hs (fun hk => ?_) (fun hk => ?_)
      · split
        · exact k1.cut c _ _
        · exact k1
      · rw [hd]
        obtain ⟨x1, x2, x3⟩ := k2
        split at hk
        · exact x2 (by assumption)
        · split at hk
          · omega
          · exact Int.le_of_eq (x3 (by omega) (by omega))
      · rw [hd]
        obtain ⟨x1, x2, x3⟩ := k2
        split at hk
        · omega
        · split at hk
          · exact x1 (by assumption)
          · exact Int.le_of_eq (x3 (by omega) (by omega)).symm
theorem skp_so {S : Nat → Int} (hS : SB S) {c : Fn} {sd : Int} (hc : BDG (S 2 * S 3) c) (hs : sd = 0 ∨ sd = 1) : ∀ (k d : Nat) (num n re : Int) (τ : Sg), d + k ≤ 5 → TSo S τ → re = (d : Int) - 1 → (num = vv S re.toNat c sd ∨ (1 ≤ k ∧ n = 0)) → TSo S (skp S c sd k d num n re τ).2.2.2 ∧ (skp S c sd k d num n re τ).1 = vv S (skp S c sd k d num n re τ).2.2.1.toNat c sd
  | 0, d, num, n, re, τ, _, hT, _, h => ⟨hT, h.resolve_right (fun q => absurd q.1 (by omega))⟩
  | k + 1, d, num, n, re, τ, hk, hT, hre, h => by
    rw [skp]
    by_cases e : iI 1000 < iI n
    · rw [if_pos e]
      refine ⟨hT, h.resolve_right (fun q => ?_)⟩
      rw [q.2] at e
      exact absurd e (by decide)
    · rw [if_neg e]
      have q := sb_so hS d c sd (-9999) 9999 τ hc hs hT (by decide) (by decide) (by decide)
      have b := vv_9 hS d c sd (by omega)
      have ev := q.2.eq (by omega) (by omega)
      exact skp_so hS hc hs k (d + 1) _ _ _ _ (by omega) q.1 (by omega) (Or.inl (by rw [ev, Int.toNat_natCast]))
/-! how many positions are looked at -/
def QN : Nat → Int
  | 0 => 1
  | t + 1 => 1 + 18 * QN t
def DN : Nat → Int
  | 0 => QN 4
  | d + 1 => 1 + 18 * DN d
theorem QN_pos : ∀ t : Nat, 1 ≤ QN t
  | 0 => by decide
  | t + 1 => by have := QN_pos t; unfold QN; omega
theorem DN_pos : ∀ d : Nat, 1 ≤ DN d
  | 0 => QN_pos 4
  | d + 1 => by have := DN_pos d; unfold DN; omega
theorem wnt_nd {L acc : List Int} {v : Int} (h : acc.Nodup) : (wnt L acc v).Nodup := by
  unfold wnt
  split
  · rename_i q
    rw [List.nodup_append]
    exact ⟨h, by simp, fun a ha b hb => by rw [List.mem_singleton] at hb; subst hb; exact fun e => q.2 (by rw [← e]; exact ha)⟩
  · exact h
theorem fold_nd {f : List Int → Int → List Int} (hf : ∀ acc v, acc.Nodup → (f acc v).Nodup) : ∀ (M acc : List Int), acc.Nodup → (M.foldl f acc).Nodup
  | [], _, h => h
  | v :: M, acc, h => fold_nd hf M (f acc v) (hf acc v h)
theorem ord_nd (c : Fn) (L : List Int) (e k1 k2 : Int) : (ord c L e k1 k2).Nodup := by
  unfold ord
  refine fold_nd (fun acc v h => wnt_nd h) _ _ (wnt_nd (wnt_nd (fold_nd (fun acc v h => ?_) _ _ (wnt_nd List.nodup_nil))))
  unfold tkF
  split
  · exact wnt_nd h
  · exact h
theorem ord_len (c : Fn) (L : List Int) (e k1 k2 : Int) : (ord c L e k1 k2).length ≤ L.length := nodup_len _ _ (ord_nd c L e k1 k2) (ord_mem c L e k1 k2)
theorem ML_le {S : Nat → Int} (hS : SB S) {c : Fn} {sd : Int} (hc : BDG (S 2 * S 3) c) (hs : sd = 0 ∨ sd = 1) : ((MLs c (S 2) (S 3) sd).length : Int) ≤ 18 := by
  obtain ⟨w1, w2, h1, h2⟩ := hS.1
  have wb := wh_bd w1 w2 h1 h2
  have := MLs_18 (w := S 2) (h := S 3) hs hc.2.1 wb.2.1
  omega
theorem qlp_n {rec : Fn → Int → Int → Int → Int × Int} {c : Fn} {sd lo hi X : Int} {M : List Int} (h1 : 1 ≤ X) (hrec : ∀ v lo hi, v ∈ M → 1 ≤ (rec (mvF c v) (1 - sd) lo hi).2 ∧ (rec (mvF c v) (1 - sd) lo hi).2 ≤ X) : ∀ (L : List Int) (b n : Int), (∀ v, v ∈ L → v ∈ M) → n ≤ (qlp rec c sd lo hi L b n).2 ∧ (qlp rec c sd lo hi L b n).2 ≤ n + (L.length : Int) * X
  | [], b, n, _ => by
    show n ≤ n ∧ n ≤ n + ((0 : Nat) : Int) * X
    omega
  | v :: vs, b, n, hL => by
    have hL2 : ∀ x, x ∈ vs → x ∈ M := fun x hx => hL x (List.mem_cons_of_mem _ hx)
    have e : (((v :: vs).length : Nat) : Int) * X = (vs.length : Int) * X + X := by
      show ((vs.length + 1 : Nat) : Int) * X = _
      rw [Int.natCast_add, Int.add_mul]; omega
    have p : 0 ≤ (vs.length : Int) * X := Int.mul_nonneg (by omega) (by omega)
    rw [e]
    unfold qlp
    split
    · split
      · have hr := hrec v (-hi) (-(max lo b)) (hL v List.mem_cons_self)
        have q := qlp_n (lo := lo) (hi := hi) h1 hrec vs (max b (-(rec (mvF c v) (1 - sd) (-hi) (-(max lo b))).1)) (n + (rec (mvF c v) (1 - sd) (-hi) (-(max lo b))).2) hL2
        omega
      · have q := qlp_n (lo := lo) (hi := hi) h1 hrec vs b n hL2
        omega
    · show n ≤ n ∧ n ≤ _
      omega
theorem qb_n {S : Nat → Int} (hS : SB S) : ∀ (t : Nat) (c : Fn) (sd lo hi : Int), BDG (S 2 * S 3) c → (sd = 0 ∨ sd = 1) → 1 ≤ (qb S t c sd lo hi).2 ∧ (qb S t c sd lo hi).2 ≤ QN t
  | 0, c, sd, lo, hi, _, _ => by
    unfold qb
    split <;> exact ⟨Int.le_refl _, Int.le_refl _⟩
  | t + 1, c, sd, lo, hi, hc, hs => by
    have p := QN_pos t
    have e : QN (t + 1) = 1 + 18 * QN t := rfl
    rw [e]
    unfold qb
    split
    · show (1 : Int) ≤ 1 ∧ (1 : Int) ≤ _; omega
    · split
      · show (1 : Int) ≤ 1 ∧ (1 : Int) ≤ _; omega
      · have q := qlp_n (rec := qb S t) (c := c) (sd := sd) (lo := lo) (hi := hi) p (fun v lo hi hv => qb_n hS t (mvF c v) (1 - sd) lo hi (BDG.play hS hc hs hv) (mvF_side hs)) (MLs c (S 2) (S 3) sd) (evS S c sd) 1 (fun _ h => h)
        have l := ML_le hS hc hs
        have m : ((MLs c (S 2) (S 3) sd).length : Int) * QN t ≤ 18 * QN t := Int.mul_le_mul_of_nonneg_right l (by omega)
        omega
/-- hits and cuts beside the positions looked at -/
def CN (a b : Sg) (n : Int) : Prop := (a 22 0 ≤ b 22 0 ∧ b 22 0 ≤ a 22 0 + n) ∧ (a 23 0 ≤ b 23 0 ∧ b 23 0 ≤ a 23 0 + n)
theorem slp_n {rec : Fn → Int → Int → Int → Sg → Int × Int × Sg} {c : Fn} {sd lo up X : Int} {M : List Int} (h1 : 1 ≤ X) (hrec : ∀ v lo up τ, v ∈ M → (1 ≤ (rec (mvF c v) (1 - sd) lo up τ).2.1 ∧ (rec (mvF c v) (1 - sd) lo up τ).2.1 ≤ X) ∧ CN τ (rec (mvF c v) (1 - sd) lo up τ).2.2 (rec (mvF c v) (1 - sd) lo up τ).2.1) :
    ∀ (L : List Int) (b f n : Int) (τ : Sg), (∀ v, v ∈ L → v ∈ M) → (n ≤ (slp rec c sd lo up L b f n τ).2.2.1 ∧ (slp rec c sd lo up L b f n τ).2.2.1 ≤ n + (L.length : Int) * X) ∧ CN τ (slp rec c sd lo up L b f n τ).2.2.2 ((slp rec c sd lo up L b f n τ).2.2.1 - n)
  | [], b, f, n, τ, _ => by
    show (n ≤ n ∧ n ≤ n + ((0 : Nat) : Int) * X) ∧ CN τ τ (n - n)
    unfold CN
    omega
  | v :: vs, b, f, n, τ, hL => by
    have hL2 : ∀ x, x ∈ vs → x ∈ M := fun x hx => hL x (List.mem_cons_of_mem _ hx)
    have e : (((v :: vs).length : Nat) : Int) * X = (vs.length : Int) * X + X := by
      show ((vs.length + 1 : Nat) : Int) * X = _
      rw [Int.natCast_add, Int.add_mul]; omega
    have p : 0 ≤ (vs.length : Int) * X := Int.mul_nonneg (by omega) (by omega)
    have hr := hrec v (-up) (-(max lo b)) τ (hL v List.mem_cons_self)
    rw [e]
    unfold slp
    unfold CN at *
    split
    · split
      · have q := slp_n (lo := lo) (up := up) h1 hrec vs (-(rec (mvF c v) (1 - sd) (-up) (-(max lo b)) τ).1) v (n + (rec (mvF c v) (1 - sd) (-up) (-(max lo b)) τ).2.1) (rec (mvF c v) (1 - sd) (-up) (-(max lo b)) τ).2.2 hL2
        unfold CN at q
        omega
      · have q := slp_n (lo := lo) (up := up) h1 hrec vs b f (n + (rec (mvF c v) (1 - sd) (-up) (-(max lo b)) τ).2.1) (rec (mvF c v) (1 - sd) (-up) (-(max lo b)) τ).2.2 hL2
        unfold CN at q
        omega
    · show (n ≤ n ∧ n ≤ _) ∧ (τ 22 0 ≤ τ 22 0 ∧ τ 22 0 ≤ τ 22 0 + (n - n)) ∧ (τ 23 0 ≤ τ 23 0 ∧ τ 23 0 ≤ τ 23 0 + (n - n))
      omega
theorem cut_cn (τ : Sg) (c : Fn) (d v : Int) : cutT τ c d v 22 = τ 22 ∧ cutT τ c d v 23 0 = τ 23 0 + 1 := by
  refine ⟨cut_o _ _ _ _ (by omega), ?_⟩
  unfold cutT
  split
  · unfold incT; rw [upr_eq, ups_eq]
  · unfold noteT
    split
    · unfold incT; rw [upr_eq, ups_eq]
    · rw [upr_ne _ _ (by decide), upr_ne _ _ (by decide)]; unfold incT; rw [upr_eq, ups_eq]
theorem sb_n {S : Nat → Int} (hS : SB S) : ∀ (d : Nat) (c : Fn) (sd lo up : Int) (τ : Sg), BDG (S 2 * S 3) c → (sd = 0 ∨ sd = 1) → (1 ≤ (sb S d c sd lo up τ).2.1 ∧ (sb S d c sd lo up τ).2.1 ≤ DN d) ∧ CN τ (sb S d c sd lo up τ).2.2 (sb S d c sd lo up τ).2.1
  | 0, c, sd, lo, up, τ, hc, hs => by
    have q := qb_n hS 4 c sd lo up hc hs
    refine ⟨q, ?_⟩
    show (τ 22 0 ≤ τ 22 0 ∧ τ 22 0 ≤ τ 22 0 + (qb S 4 c sd lo up).2) ∧ (τ 23 0 ≤ τ 23 0 ∧ τ 23 0 ≤ τ 23 0 + (qb S 4 c sd lo up).2)
    omega
  | d + 1, c, sd, lo, up, τ, hc, hs => by
    have p := DN_pos d
    have e : DN (d + 1) = 1 + 18 * DN d := rfl
    rw [e, sb]
    split
    · show ((1 : Int) ≤ 1 ∧ (1 : Int) ≤ _) ∧ (τ 22 0 ≤ τ 22 0 ∧ τ 22 0 ≤ τ 22 0 + 1) ∧ (τ 23 0 ≤ τ 23 0 ∧ τ 23 0 ≤ τ 23 0 + 1)
      omega
    · split
      · show ((1 : Int) ≤ 1 ∧ (1 : Int) ≤ _) ∧ (τ 22 0 ≤ τ 22 0 + 1 ∧ τ 22 0 + 1 ≤ τ 22 0 + 1) ∧ (τ 23 0 ≤ τ 23 0 ∧ τ 23 0 ≤ τ 23 0 + 1)
        omega
      · have q := slp_n (rec := sb S d) (c := c) (sd := sd) (lo := lo) (up := up) p (fun v lo up τ hv => sb_n hS d (mvF c v) (1 - sd) lo up τ (BDG.play hS hc hs hv) (mvF_side hs)) (ordS τ c (MLs c (S 2) (S 3) sd) (keyS S c sd) ((d : Int) + 1)) (-10000) (-1) 1 τ (fun v hv => ord_mem _ _ _ _ _ v hv)
        generalize slp (sb S d) c sd lo up (ordS τ c (MLs c (S 2) (S 3) sd) (keyS S c sd) ((d : Int) + 1)) (-10000) (-1) 1 τ = R at q ⊢
        have l := ML_le hS hc hs
        have l2 : ((ordS τ c (MLs c (S 2) (S 3) sd) (keyS S c sd) ((d : Int) + 1)).length : Int) ≤ 18 := Int.le_trans (Int.ofNat_le.mpr (ord_len _ _ _ _ _)) l
        have m : ((ordS τ c (MLs c (S 2) (S 3) sd) (keyS S c sd) ((d : Int) + 1)).length : Int) * DN d ≤ 18 * DN d := Int.mul_le_mul_of_nonneg_right l2 (by omega)
        have f22 : setT (endT c ((d : Int) + 1) lo up (keyS S c sd) R) 19 R.2.1 22 = R.2.2.2 22 := by
          unfold setT endT
          rw [upr_ne _ _ (by decide), sto_o _ _ _ _ _ _ (by omega)]
          split
          · exact (cut_cn _ _ _ _).1
          · rfl
        have f23 : R.2.2.2 23 0 ≤ setT (endT c ((d : Int) + 1) lo up (keyS S c sd) R) 19 R.2.1 23 0 ∧ setT (endT c ((d : Int) + 1) lo up (keyS S c sd) R) 19 R.2.1 23 0 ≤ R.2.2.2 23 0 + 1 := by
          unfold setT endT
          rw [upr_ne _ _ (by decide), sto_o _ _ _ _ _ _ (by omega)]
          split
          · rw [(cut_cn _ _ _ _).2]; omega
          · omega
        unfold CN at *
        dsimp only
        rw [f22]
        omega
def SN : Nat → Nat → Int
  | _, 0 => 0
  | d, k + 1 => DN d + SN (d + 1) k
theorem SN_nn : ∀ (k d : Nat), 0 ≤ SN d k
  | 0, _ => Int.le_refl _
  | k + 1, d => by have := SN_nn k (d + 1); have := DN_pos d; unfold SN; omega
theorem skp_n {S : Nat → Int} (hS : SB S) {c : Fn} {sd : Int} (hc : BDG (S 2 * S 3) c) (hs : sd = 0 ∨ sd = 1) : ∀ (k d : Nat) (num n re : Int) (τ : Sg), (n ≤ (skp S c sd k d num n re τ).2.1 ∧ (skp S c sd k d num n re τ).2.1 ≤ n + SN d k) ∧ CN τ (skp S c sd k d num n re τ).2.2.2 ((skp S c sd k d num n re τ).2.1 - n)
  | 0, d, num, n, re, τ => by
    show (n ≤ n ∧ n ≤ n + 0) ∧ (τ 22 0 ≤ τ 22 0 ∧ τ 22 0 ≤ τ 22 0 + (n - n)) ∧ (τ 23 0 ≤ τ 23 0 ∧ τ 23 0 ≤ τ 23 0 + (n - n))
    omega
  | k + 1, d, num, n, re, τ => by
    have p := SN_nn k (d + 1)
    have p2 := DN_pos d
    have e : SN d (k + 1) = DN d + SN (d + 1) k := rfl
    rw [e, skp]
    split
    · show (n ≤ n ∧ n ≤ n + _) ∧ (τ 22 0 ≤ τ 22 0 ∧ τ 22 0 ≤ τ 22 0 + (n - n)) ∧ (τ 23 0 ≤ τ 23 0 ∧ τ 23 0 ≤ τ 23 0 + (n - n))
      omega
    · have a := sb_n hS d c sd (-9999) 9999 τ hc hs
      have q := skp_n hS hc hs k (d + 1) (sb S d c sd (-9999) 9999 τ).1 (n + (sb S d c sd (-9999) 9999 τ).2.1) (d : Int) (sb S d c sd (-9999) 9999 τ).2.2
      unfold CN at *
      omega
theorem SN_3 {k : Nat} (h : k ≤ 3) : SN 1 k ≤ 700000000 := by
  match k, h with
  | 0, _ => decide
  | 1, _ => decide
  | 2, _ => decide
  | 3, _ => decide
