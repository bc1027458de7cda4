/-! what the table keeps are moves of the board of its key -/
def TL (S : Nat → Int) (τ : Sg) : Prop := ∀ s : Int, 0 < τ 11 s → ∃ (c : Fn) (sd : Int), BC c ∧ (sd = 0 ∨ sd = 1) ∧ keyS S c sd = τ 10 s ∧ τ 14 s ∈ MLs c (S 2) (S 3) sd
theorem TL.of {S : Nat → Int} {a b : Sg} (h : TL S a) (e : ∀ r : Nat, (r = 10 ∨ r = 11 ∨ r = 14) → b r = a r) : TL S b := by
  intro s hs
  rw [e 11 (by omega)] at hs
  rw [e 10 (by omega), e 14 (by omega)]
  exact h s hs
theorem TL.cut {S : Nat → Int} {τ : Sg} (h : TL S τ) (c : Fn) (d v : Int) : TL S (cutT τ c d v) := h.of (fun r hr => cut_o _ _ _ _ (by omega))
theorem TL.set {S : Nat → Int} {τ : Sg} (h : TL S τ) {r : Nat} (hr : ¬ (r = 10 ∨ r = 11 ∨ r = 14)) (v : Int) : TL S (setT τ r v) := h.of (fun q hq => upr_ne _ _ (by intro e; subst e; exact hr hq))
theorem setT_at (τ : Sg) (r : Nat) (v : Int) : setT τ r v r 0 = v := by unfold setT; rw [upr_eq, ups_eq]
theorem TL.sto {S : Nat → Int} {τ : Sg} (h : TL S τ) {c : Fn} {sd f : Int} (d b k : Int) (hc : BC c) (hs : sd = 0 ∨ sd = 1) (hf : f ∈ MLs c (S 2) (S 3) sd) : TL S (stoT τ (keyS S c sd) d b k f) := by
  by_cases e : 0 < τ 9 0
  · intro s h0
    obtain ⟨q0, q1, q2, q3, q4, q5⟩ := stoT_in (key := keyS S c sd) (d := d) (b := b) (k := k) (v := f) e
    rw [q1] at h0
    rw [q0, q4]
    by_cases e2 : s = keyS S c sd % τ 9 0
    · rw [e2, ups_eq, ups_eq]
      exact ⟨c, sd, hc, hs, rfl, hf⟩
    · rw [ups_ne _ _ e2] at h0
      rw [ups_ne _ _ e2, ups_ne _ _ e2]
      exact h s h0
  · rw [stoT_no e]; exact h
theorem slp_TL {S : Nat → Int} {rec : Fn → Int → Int → Int → Sg → Int × Int × Sg} {c : Fn} {sd lo up : Int} {M : List Int} (hlo : -9999 ≤ lo ∧ lo ≤ 9999) (hup : -9999 ≤ up ∧ up ≤ 9999) (hrec : ∀ v lo up τ, T9 τ → TL S τ → (-9999 ≤ lo ∧ lo ≤ 9999) → (-9999 ≤ up ∧ up ≤ 9999) → T9 (rec (mvF c v) (1 - sd) lo up τ).2.2 ∧ TL S (rec (mvF c v) (1 - sd) lo up τ).2.2 ∧ -9000 ≤ (rec (mvF c v) (1 - sd) lo up τ).1 ∧ (rec (mvF c v) (1 - sd) lo up τ).1 ≤ 9000) :
    ∀ (L : List Int) (b f n : Int) (τ : Sg), (∀ v, v ∈ L → v ∈ M) → T9 τ → TL S τ → (b < -9999 ∨ -9000 ≤ b) → b ≤ 9000 → TL S (slp rec c sd lo up L b f n τ).2.2.2 ∧ (f ∈ M ∨ (b < -9999 ∧ L ≠ []) → (slp rec c sd lo up L b f n τ).2.1 ∈ M)
  | [], b, f, n, τ, _, _, hT, _, _ => ⟨hT, fun h => h.elim id (fun q => absurd rfl q.2)⟩
  | v :: vs, b, f, n, τ, hL, h9, hT, h0, hb => by
    have hr := hrec v (-up) (-(max lo b)) τ h9 hT (by omega) (by omega)
    have hL2 : ∀ x, x ∈ vs → x ∈ M := fun x hx => hL x (List.mem_cons_of_mem _ hx)
    unfold slp
    by_cases e : b < up
    · rw [if_pos e]
      by_cases e2 : b < -(rec (mvF c v) (1 - sd) (-up) (-(max lo b)) τ).1
      · rw [if_pos e2]
        have q := slp_TL hlo hup hrec vs (-(rec (mvF c v) (1 - sd) (-up) (-(max lo b)) τ).1) v (n + (rec (mvF c v) (1 - sd) (-up) (-(max lo b)) τ).2.1) _ hL2 hr.1 hr.2.1 (by omega) (by omega)
        exact ⟨q.1, fun _ => q.2 (Or.inl (hL v List.mem_cons_self))⟩
      · rw [if_neg e2]
        have q := slp_TL hlo hup hrec vs b f (n + (rec (mvF c v) (1 - sd) (-up) (-(max lo b)) τ).2.1) _ hL2 hr.1 hr.2.1 (by omega) (by omega)
        exact ⟨q.1, fun h => q.2 (Or.inl (h.resolve_right (fun z => by omega)))⟩
    · rw [if_neg e]
      exact ⟨hT, fun h => h.resolve_right (fun z => by omega)⟩
theorem sb_TL {S : Nat → Int} (hS : SB S) : ∀ (d : Nat) (c : Fn) (sd lo up : Int) (τ : Sg), d ≤ 4 → BC c → (sd = 0 ∨ sd = 1) → T9 τ → TL S τ → (-9999 ≤ lo ∧ lo ≤ 9999) → (-9999 ≤ up ∧ up ≤ 9999) → TL S (sb S d c sd lo up τ).2.2 ∧ (1 ≤ d → MLs c (S 2) (S 3) sd ≠ [] → (sb S d c sd lo up τ).2.2 19 0 ∈ MLs c (S 2) (S 3) sd)
  | 0, c, sd, lo, up, τ, _, _, _, _, hT, _, _ => ⟨hT, fun h => absurd h (by omega)⟩
  | d + 1, c, sd, lo, up, τ, hd, hC, hs, h9, hT, hlo, hup => by
    obtain ⟨w1, w2, h1, h2⟩ := hS.1
    have wb := wh_bd w1 w2 h1 h2
    rw [sb]
    split
    · next h => exact ⟨hT, fun _ q => absurd h q⟩
    · next hne =>
      split
      · next ha =>
        refine ⟨(hT.of (fun r hr => upr_ne _ _ (by omega)) : TL S (incT τ 22)).set (by omega) _, fun _ _ => ?_⟩
        have q : 0 ≤ fndT τ (keyS S c sd) ∧ _ := of_decide_eq_true ha
        have hz : 0 < τ 9 0 ∧ 0 < τ 11 (keyS S c sd % τ 9 0) ∧ τ 10 (keyS S c sd % τ 9 0) = keyS S c sd := by
          by_cases z : 0 < τ 9 0 ∧ 0 < τ 11 (keyS S c sd % τ 9 0) ∧ τ 10 (keyS S c sd % τ 9 0) = keyS S c sd
          · exact z
          · have := fnd_n z; omega
        rw [fnd_y hz]
        obtain ⟨c2, s2, b2, t2, k2, m2⟩ := hT _ hz.2.1
        have inj := keyS_inj b2 hC t2 hs (k2.trans hz.2.2)
        show ups (incT τ 22 19) 0 (τ 14 (keyS S c sd % τ 9 0)) 0 ∈ _
        have eM : MLs c2 (S 2) (S 3) s2 = MLs c (S 2) (S 3) sd := by
          rw [inj.1]
          exact MLs_ext w1 w2 h1 h2 (fun i h0 h3 => inj.2 i h0 (by omega))
        rw [ups_eq, ← eM]
        exact m2
      · have key := slp_TL (S := S) (rec := sb S d) (c := c) (sd := sd) (M := MLs c (S 2) (S 3) sd) hlo hup (fun v lo up τ h9 h a b => ⟨(sb_9 hS d (mvF c v) (1 - sd) lo up τ (by omega) h9 a b).1, (sb_TL hS d (mvF c v) (1 - sd) lo up τ (by omega) (mvF_BC hC v) (mvF_side hs) h9 h a b).1, (sb_9 hS d (mvF c v) (1 - sd) lo up τ (by omega) h9 a b).2⟩) (ordS τ c (MLs c (S 2) (S 3) sd) (keyS S c sd) ((d : Int) + 1)) (-10000) (-1) 1 τ (ord_mem _ _ _ _ _) h9 hT (by omega) (by omega)
        have hf := key.2 (Or.inr ⟨by omega, ord_nil hne⟩)
        refine ⟨TL.set (TL.sto ?_ _ _ _ hC hs hf) (by omega) _, fun _ _ => ?_⟩
        · split
          · exact key.1.cut c _ _
          · exact key.1
        · dsimp only
          rw [setT_at]
          exact hf
theorem skp_TL {S : Nat → Int} (hS : SB S) {c : Fn} {sd : Int} (hC : BC c) (hs : sd = 0 ∨ sd = 1) (hne : MLs c (S 2) (S 3) sd ≠ []) : ∀ (k d : Nat) (num n re : Int) (τ : Sg), d + k ≤ 5 → 1 ≤ d → T9 τ → TL S τ → T9 (skp S c sd k d num n re τ).2.2.2 ∧ TL S (skp S c sd k d num n re τ).2.2.2 ∧ (τ 19 0 ∈ MLs c (S 2) (S 3) sd ∨ (1 ≤ k ∧ ¬ iI 1000 < iI n) → (skp S c sd k d num n re τ).2.2.2 19 0 ∈ MLs c (S 2) (S 3) sd)
  | 0, d, num, n, re, τ, _, _, h9, hT => ⟨h9, hT, fun h => h.resolve_right (fun q => absurd q.1 (by omega))⟩
  | k + 1, d, num, n, re, τ, hk, hd, h9, hT => by
    rw [skp]
    by_cases e : iI 1000 < iI n
    · rw [if_pos e]
      exact ⟨h9, hT, fun h => h.resolve_right (fun q => q.2 e)⟩
    · rw [if_neg e]
      have a := sb_9 hS d c sd (-9999) 9999 τ (by omega) h9 (by omega) (by omega)
      have b := sb_TL hS d c sd (-9999) 9999 τ (by omega) hC hs h9 hT (by omega) (by omega)
      have q := skp_TL hS hC hs hne k (d + 1) (sb S d c sd (-9999) 9999 τ).1 (n + (sb S d c sd (-9999) 9999 τ).2.1) (d : Int) _ (by omega) (by omega) a.1 b.1
      exact ⟨q.1, q.2.1, fun _ => q.2.2 (Or.inl (b.2 hd hne))⟩
