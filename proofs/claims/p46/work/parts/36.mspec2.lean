/-! the reference's rows of moves, and its plain values -/
def OF (k : Nat) (σ σ' : Sg) : Prop := ∀ r : Nat, r ≠ k → σ' r = σ r
theorem OF.rf {k : Nat} {σ : Sg} : OF k σ σ := fun _ _ => rfl
theorem OF.tr {k : Nat} {a b d : Sg} (h1 : OF k a b) (h2 : OF k b d) : OF k a d := fun r h => (h2 r h).trans (h1 r h)
theorem OF.up {k : Nat} {a b : Sg} (h : OF k a b) (f : Fn) : OF k a (upr b k f) := fun r e => (upr_ne _ _ e).trans (h r e)
def RWL (σ : Sg) (k : Nat) (L : List Int) : Prop := ∀ (i : Nat) (v : Int), L[i]? = some v → σ k (i : Int) = v
theorem RWL.nl {σ : Sg} {k : Nat} : RWL σ k [] := fun i v h => by simp at h
theorem RWL.at {σ : Sg} {k : Nat} {L : List Int} (h : RWL σ k L) {z : Int} (h0 : 0 ≤ z) (h1 : z < L.length) : σ k z = L.getD z.toNat (-1) := by
  have q := h z.toNat (L.getD z.toNat (-1)) (by rw [List.getElem?_eq_getElem (by omega), ← getD_lt (by omega)])
  rw [Int.toNat_of_nonneg h0] at q
  exact q
theorem RWL.of {a b : Sg} {k : Nat} {L : List Int} (h : RWL a k L) (e : b k = a k) : RWL b k L := fun i v q => by rw [e]; exact h i v q
theorem RWL.add {σ : Sg} {k : Nat} {L : List Int} (h : RWL σ k L) {z v : Int} (hz : z = L.length) : RWL (upr σ k (ups (σ k) z v)) k (L ++ [v]) := by
  intro i x hx
  rw [upr_eq]
  rw [List.getElem?_append] at hx
  by_cases e : i < L.length
  · rw [if_pos e] at hx
    rw [ups_ne _ _ (by omega)]
    exact h i x hx
  · rw [if_neg e] at hx
    have e2 : i = L.length := by
      have := (List.getElem?_eq_some_iff.mp hx).1
      simp at this
      omega
    rw [e2, Nat.sub_self] at hx
    have hx : some v = some x := hx
    rw [e2, hz, ups_eq]
    exact Option.some.inj hx
def mf1M (c : Fn) (w h s f d : Int) : List Int := if isM c w h s f d = true then [f * 100 + tgM w h s f d] else []
def mfM (c : Fn) (w h s f a : Int) : List Int := (if -1 < a then mf1M c w h s f (-1) else []) ++ (if 0 < a then mf1M c w h s f 0 else []) ++ (if 1 < a then mf1M c w h s f 1 else [])
theorem mfM_0 (c : Fn) (w h s f : Int) : mfM c w h s f (-1) = [] := rfl
theorem mfM_s (c : Fn) (w h s f : Int) {a : Int} (h0 : -1 ≤ a) (h1 : a ≤ 1) : mfM c w h s f (a + 1) = mfM c w h s f a ++ mf1M c w h s f a := by
  obtain rfl | rfl | rfl : a = -1 ∨ a = 0 ∨ a = 1 := by omega
  all_goals simp [mfM]
theorem mf1M_l (c : Fn) (w h s f d : Int) : (mf1M c w h s f d).length ≤ 1 := by
  unfold mf1M; split <;> simp
theorem mfM_l (c : Fn) (w h s f : Int) {a : Int} (h1 : a ≤ 1) : (mfM c w h s f a).length ≤ 2 := by
  have q1 := mf1M_l c w h s f (-1)
  have q2 := mf1M_l c w h s f 0
  unfold mfM
  rw [if_neg (show ¬ 1 < a by omega), List.append_nil, List.length_append]
  by_cases e1 : -1 < a
  · rw [if_pos e1]
    by_cases e2 : 0 < a
    · rw [if_pos e2]; omega
    · rw [if_neg e2]; simp; omega
  · rw [if_neg e1, if_neg (by omega)]; simp
theorem mfM_3 {c : Fn} {w h s f a : Int} (hs : s = 0 ∨ s = 1) (w1 : 3 ≤ w) (w2 : w ≤ 5) (h1 : 3 ≤ h) (h2 : h ≤ 5) (f0 : 0 ≤ f) (f1 : f < w * h) (ha : 2 ≤ a) : mfM c w h s f a = if c f = s + 1 then mf c w h s (f / w) (f % w) else [] := by
  have g := fld2 f0 f1 w1 w2 h1 h2
  have one : ∀ d : Int, mf1M c w h s f d = if c f = s + 1 then mv1 c w h s (f / w) (f % w) d else [] := by
    intro d
    unfold mf1M mv1
    by_cases e : c f = s + 1
    · rw [if_pos e]
      have st := step_of (d := d) hs w1 w2 h1 h2 f0 f1 e
      by_cases q : canS c w h (f / w) (f % w) d = true
      · rw [if_pos q, if_pos (isM_iff.mpr ⟨e, q⟩), (st.2 (st.1.mp q).1).2.2, g.2.2.2.2]
        congr 1
        omega
      · rw [if_neg q, if_neg (fun z => q (isM_iff.mp z).2)]
    · rw [if_neg e, if_neg (fun z => e (isM_iff.mp z).1)]
  unfold mfM mf
  rw [if_pos (by omega), if_pos (by omega), if_pos (by omega), one, one, one]
  by_cases e : c f = s + 1
  · simp only [if_pos e]
  · simp only [if_neg e]
    rfl
theorem mvs_n (c : Fn) (w h s : Int) {f : Int} (h0 : 0 ≤ f) : mvs c w h s (f + 1).toNat = mvs c w h s f.toNat ++ (if c f = s + 1 then mf c w h s (f / w) (f % w) else []) := by
  rw [toNat_s h0]
  show mvs c w h s f.toNat ++ (if c ((f.toNat : Nat) : Int) = s + 1 then mf c w h s (((f.toNat : Nat) : Int) / w) (((f.toNat : Nat) : Int) % w) else []) = _
  rw [Int.toNat_of_nonneg h0]
theorem mvs_72 (c : Fn) (w h s : Int) {f : Int} (h0 : 0 ≤ f) (h1 : f < 25) : (mvs c w h s f.toNat).length ≤ 72 := by
  have a := mvs_l c w h s f.toNat
  have b := cstM_bd c w h s f.toNat
  omega
/-- plain values -/
def qvl (rec : Fn → Int → Int) (c : Fn) (sd : Int) : List Int → Int → Int
  | [], b => b
  | v :: vs, b => if c (v % 100) ≠ 0 then qvl rec c sd vs (max b (-(rec (mvF c v) (1 - sd)))) else qvl rec c sd vs b
def qv (S : Nat → Int) : Nat → Fn → Int → Int
  | 0, c, sd => if MLs c (S 2) (S 3) sd = [] then -1000 else evS S c sd
  | t + 1, c, sd => if MLs c (S 2) (S 3) sd = [] then -1000 else if S 8 = 0 then evS S c sd else qvl (qv S t) c sd (MLs c (S 2) (S 3) sd) (evS S c sd)
theorem qvl_bd {rec : Fn → Int → Int} (hrec : ∀ c sd, -4000 ≤ rec c sd ∧ rec c sd ≤ 4000) (c : Fn) (sd : Int) : ∀ (L : List Int) (b : Int), -4000 ≤ b → b ≤ 4000 → -4000 ≤ qvl rec c sd L b ∧ qvl rec c sd L b ≤ 4000
  | [], b, h0, h1 => ⟨h0, h1⟩
  | v :: vs, b, h0, h1 => by
    have := hrec (mvF c v) (1 - sd)
    unfold qvl
    split
    · exact qvl_bd hrec c sd vs _ (by omega) (by omega)
    · exact qvl_bd hrec c sd vs _ h0 h1
theorem qv_bd {S : Nat → Int} (hS : SB S) : ∀ (t : Nat) (c : Fn) (sd : Int), -4000 ≤ qv S t c sd ∧ qv S t c sd ≤ 4000
  | 0, c, sd => by
    have := evS_bd hS c sd
    unfold qv; split <;> omega
  | t + 1, c, sd => by
    have := evS_bd hS c sd
    unfold qv
    split
    · omega
    · split
      · exact this
      · exact qvl_bd (fun c sd => qv_bd hS t c sd) c sd _ _ this.1 this.2
def vvl (rec : Fn → Int → Int) (c : Fn) (sd : Int) : List Int → Int → Int
  | [], b => b
  | v :: vs, b => vvl rec c sd vs (max b (-(rec (mvF c v) (1 - sd))))
def vv (S : Nat → Int) : Nat → Fn → Int → Int
  | 0, c, sd => qv S 4 c sd
  | d + 1, c, sd => if MLs c (S 2) (S 3) sd = [] then -1000 - ((d : Int) + 1) else vvl (vv S d) c sd (MLs c (S 2) (S 3) sd) (-100000)
theorem vvl_bd {rec : Fn → Int → Int} (hrec : ∀ c sd, -10000 ≤ rec c sd ∧ rec c sd ≤ 10000) (c : Fn) (sd : Int) : ∀ (L : List Int) (b : Int), -100000 ≤ b → b ≤ 10000 → (-100000 ≤ vvl rec c sd L b ∧ vvl rec c sd L b ≤ 10000) ∧ (L ≠ [] ∨ -10000 ≤ b → -10000 ≤ vvl rec c sd L b)
  | [], b, h0, h1 => ⟨⟨h0, h1⟩, fun h => h.elim (fun q => absurd rfl q) id⟩
  | v :: vs, b, h0, h1 => by
    have := hrec (mvF c v) (1 - sd)
    have q := vvl_bd hrec c sd vs (max b (-(rec (mvF c v) (1 - sd)))) (by omega) (by omega)
    unfold vvl
    exact ⟨q.1, fun _ => q.2 (Or.inr (by omega))⟩
theorem vv_bd {S : Nat → Int} (hS : SB S) : ∀ (d : Nat) (c : Fn) (sd : Int), d ≤ 10 → -10000 ≤ vv S d c sd ∧ vv S d c sd ≤ 10000
  | 0, c, sd, _ => by
    have := qv_bd hS 4 c sd
    unfold vv; omega
  | d + 1, c, sd, hd => by
    unfold vv
    by_cases e : MLs c (S 2) (S 3) sd = []
    · rw [if_pos e]; omega
    · rw [if_neg e]
      have q := vvl_bd (fun c sd => vv_bd hS d c sd (by omega)) c sd (MLs c (S 2) (S 3) sd) (-100000) (by omega) (by omega)
      exact ⟨q.2 (Or.inl e), q.1.2⟩
theorem mw_cfg {a b : Sg} (h : ∀ r, r < 9 → b (200 + r) = a (200 + r)) : cfg (mw b) = cfg (mw a) := cfg_of (fun r hr => h r (by omega))
theorem GIm_of {a b : Sg} (g : GI (mw a)) (h : ∀ r : Nat, 200 < r → r < 209 → b r = a r) : GI (mw b) := g.of (fun r hr => h (200 + r) (by omega) (by omega))
theorem mvM_1 (σ : Sg) (v : Int) : mvM σ v 201 = mvF (σ 201) v := by unfold mvM; rw [upr_ne _ _ (by decide), upr_eq]
theorem mvM_4 (σ : Sg) (v : Int) : mvM σ v 204 = ups (σ 204) 0 (1 - σ 204 0) := upr_eq _ _ _
theorem mvM_o (σ : Sg) (v : Int) {r : Nat} (h : r ≠ 201) (h4 : r ≠ 204) : mvM σ v r = σ r := by unfold mvM; rw [upr_ne _ _ h4, upr_ne _ _ h]
