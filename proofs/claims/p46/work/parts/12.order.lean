/-! the order in which moves are tried -/
def wnt (L acc : List Int) (v : Int) : List Int := if v ∈ L ∧ v ∉ acc then acc ++ [v] else acc
def tkF (c : Fn) (L : List Int) : List Int → Int → List Int := fun a v => if c (v % 100) ≠ 0 then wnt L a v else a
def ord (c : Fn) (L : List Int) (e k1 k2 : Int) : List Int := L.foldl (wnt L) (wnt L (wnt L (L.foldl (tkF c L) (wnt L [] e)) k1) k2)
/-- an index of v in L, or -1 -/
def IX (L : List Int) (v z : Int) : Prop := (z = -1 ∧ v ∉ L) ∨ ∃ i : Nat, L[i]? = some v ∧ z = (i : Int)
def OP (j : Nat) (σ σ' : Sg) : Prop := ∀ r : Nat, ¬ (r = 40 + 6 * j + 2 ∨ r = 40 + 6 * j + 3 ∨ r = 40 + 6 * j + 5) → σ' r = σ r
theorem OP.rf {j : Nat} {σ : Sg} : OP j σ σ := fun _ _ => rfl
theorem OP.tr {j : Nat} {a b d : Sg} (h1 : OP j a b) (h2 : OP j b d) : OP j a d := fun r h => (h2 r h).trans (h1 r h)
theorem OP.ol {j : Nat} {a b : Sg} (h1 : OP j a b) : OL j a b := fun r h => h1 r (by omega)
theorem LM.op {j : Nat} {σ σ' : Sg} {L : List Int} {c : Fn} (h : OP j σ σ') (hL : LM σ j L c) : LM σ' j L c := by
  unfold LM at *
  rw [h _ (by omega), h (40 + 6 * j) (by omega), h (40 + 6 * j + 1) (by omega)]
  exact hL
def OR (σ : Sg) (j : Nat) (L acc : List Int) : Prop := σ (40 + 6 * j + 5) 0 = acc.length ∧ acc.Nodup ∧ (∀ v, v ∈ acc → v ∈ L) ∧ (∀ (k : Nat) (v : Int), acc[k]? = some v → ∃ i : Nat, L[i]? = some v ∧ σ (40 + 6 * j + 2) (k : Int) = (i : Int)) ∧ (∀ (i : Nat) (v : Int), L[i]? = some v → σ (40 + 6 * j + 3) (i : Int) = if v ∈ acc then 1 else 0)
theorem nodup_len : ∀ (a b : List Int), a.Nodup → (∀ v, v ∈ a → v ∈ b) → a.length ≤ b.length
  | [], _, _, _ => Nat.zero_le _
  | x :: a, b, hn, hs => by
    rw [List.nodup_cons] at hn
    have hx := hs x List.mem_cons_self
    have h1 := nodup_len a (b.erase x) hn.2 (fun v hv => by
      have hne : v ≠ x := fun e => hn.1 (by rw [← e]; exact hv)
      exact (List.mem_erase_of_ne hne).mpr (hs v (List.mem_cons_of_mem _ hv)))
    rw [List.length_erase_of_mem hx] at h1
    have : 0 < b.length := List.length_pos_of_mem hx
    show a.length + 1 ≤ b.length
    omega
theorem nodup_lt {a b : List Int} {v : Int} (hn : a.Nodup) (hs : ∀ v, v ∈ a → v ∈ b) (hv : v ∈ b) (hva : v ∉ a) : a.length < b.length := by
  have := nodup_len (v :: a) b (List.nodup_cons.mpr ⟨hva, hn⟩) (fun x hx => (List.mem_cons.mp hx).elim (fun e => by rw [e]; exact hv) (hs x))
  exact this
theorem nodup_idx {L : List Int} (hn : L.Nodup) {i k : Nat} {v : Int} (h1 : L[i]? = some v) (h2 : L[k]? = some v) : i = k := by
  obtain ⟨g1, e1⟩ := List.getElem?_eq_some_iff.mp h1
  obtain ⟨g2, e2⟩ := List.getElem?_eq_some_iff.mp h2
  rcases Nat.lt_trichotomy i k with h | h | h
  · exact absurd (e1.trans e2.symm) (List.pairwise_iff_getElem.mp hn i k g1 g2 h)
  · exact h
  · exact absurd (e2.trans e1.symm) (List.pairwise_iff_getElem.mp hn k i g2 g1 h)
theorem OR.put {σ σ' : Sg} {j : Nat} {L acc : List Int} (hO : OR σ j L acc) (hN : L.Nodup) {i : Nat} {v : Int} (hi : L[i]? = some v) (hv : v ∉ acc) (e3 : σ' (40 + 6 * j + 3) = ups (σ (40 + 6 * j + 3)) (i : Int) 1) (e2 : σ' (40 + 6 * j + 2) = ups (σ (40 + 6 * j + 2)) acc.length (i : Int)) (e5 : σ' (40 + 6 * j + 5) 0 = acc.length + 1) : OR σ' j L (acc ++ [v]) := by
  obtain ⟨h1, h2, h3, h4, h5⟩ := hO
  refine ⟨by rw [e5]; simp, ?_, ?_, ?_, ?_⟩
  · rw [List.nodup_append]
    exact ⟨h2, by simp, fun a ha b hb => by rw [List.mem_singleton] at hb; subst hb; exact fun e => hv (by rw [← e]; exact ha)⟩
  · intro x hx
    rcases List.mem_append.mp hx with h | h
    · exact h3 x h
    · rw [List.mem_singleton] at h; subst h; exact List.mem_of_getElem? hi
  · intro k x hk
    rw [e2]
    by_cases e : k < acc.length
    · rw [List.getElem?_append_left e] at hk
      obtain ⟨q, q1, q2⟩ := h4 k x hk
      exact ⟨q, q1, by rw [ups_ne _ _ (by omega)]; exact q2⟩
    · rw [List.getElem?_append_right (by omega)] at hk
      have e6 : k - acc.length < 1 := (List.getElem?_eq_some_iff.mp hk).1
      have e7 : k = acc.length := by omega
      subst e7
      rw [Nat.sub_self] at hk
      cases hk
      exact ⟨i, hi, by rw [ups_eq]⟩
  · intro q x hq
    rw [e3]
    by_cases e : q = i
    · subst e
      rw [ups_eq, Option.some.inj (hq.symm.trans hi), if_pos (List.mem_append_right _ List.mem_cons_self)]
    · rw [ups_ne _ _ (by omega), h5 q x hq]
      have hne : x ≠ v := fun z => e (nodup_idx hN hq (by rw [z]; exact hi))
      by_cases hx : x ∈ acc
      · rw [if_pos hx, if_pos (List.mem_append_left _ hx)]
      · rw [if_neg hx, if_neg (fun z => (List.mem_append.mp z).elim hx (fun z => hne (List.mem_singleton.mp z)))]
theorem wnt_in {L acc : List Int} {v : Int} (h : v ∈ L) (h2 : v ∉ acc) : wnt L acc v = acc ++ [v] := if_pos ⟨h, h2⟩
theorem wnt_no {L acc : List Int} {v : Int} (h : v ∉ L ∨ v ∈ acc) : wnt L acc v = acc := if_neg (fun q => h.elim (fun z => z q.1) (fun z => q.2 z))
/-- moves come in order, so each once -/
theorem mv1_sort (c : Fn) (w h sd r k d : Int) : ∀ v, v ∈ mv1 c w h sd r k d → v = (r * w + k) * 100 + (r * w + k + (if sd = 0 then w else -w)) + d := by
  intro v hv
  unfold mv1 at hv
  split at hv
  · exact List.mem_singleton.mp hv
  · cases hv
theorem mf_pw (c : Fn) (w h sd r k : Int) : (mf c w h sd r k).Pairwise (· < ·) := by
  have p1 : ∀ d, (mv1 c w h sd r k d).Pairwise (· < ·) := fun d => by unfold mv1; split <;> simp
  unfold mf
  rw [List.pairwise_append, List.pairwise_append]
  refine ⟨⟨p1 _, p1 _, ?_⟩, p1 _, ?_⟩
  · intro a ha b hb
    rw [mv1_sort _ _ _ _ _ _ _ a ha, mv1_sort _ _ _ _ _ _ _ b hb]; omega
  · intro a ha b hb
    rw [mv1_sort _ _ _ _ _ _ _ b hb]
    rcases List.mem_append.mp ha with h | h <;> rw [mv1_sort _ _ _ _ _ _ _ a h] <;> omega
theorem mvs_pw {c : Fn} {w h sd : Int} (hs : sd = 0 ∨ sd = 1) (w1 : 3 ≤ w) (w2 : w ≤ 5) (h1 : 3 ≤ h) (h2 : h ≤ 5) (n : Nat) (hn : (n : Int) ≤ w * h) : (mvs c w h sd n).Pairwise (· < ·) ∧ ∀ v, v ∈ mvs c w h sd n → v / 100 < n := by
  have hb := wh_bd w1 w2 h1 h2
  induction n with
  | zero => exact ⟨List.Pairwise.nil, fun v hv => absurd hv List.not_mem_nil⟩
  | succ n ih =>
    obtain ⟨ih1, ih2⟩ := ih (by omega)
    have g := fld2 (n := (n : Int)) (by omega) (by omega) w1 w2 h1 h2
    have hall : ∀ v, v ∈ (if c (n : Int) = sd + 1 then mf c w h sd ((n : Int) / w) ((n : Int) % w) else []) → v / 100 = n := by
      intro v hv
      split at hv
      · rename_i e
        have key : ∀ d, -1 ≤ d ∧ d ≤ 1 → v ∈ mv1 c w h sd ((n : Int) / w) ((n : Int) % w) d → v / 100 = n := by
          intro d hd hm
          have hc : canS c w h ((n : Int) / w) ((n : Int) % w) d = true := by
            unfold mv1 at hm
            split at hm
            · assumption
            · cases hm
          have hv2 := mv1_sort _ _ _ _ _ _ _ v hm
          have ca := canS_at hs (by rw [g.2.2.2.2]; exact e) hc g.1 g.2.1 w1 w2 h2 hd
          rw [g.2.2.2.2] at hv2 ca
          omega
        unfold mf at hv
        rcases List.mem_append.mp hv with hv | hv
        · rcases List.mem_append.mp hv with hv | hv
          · exact key _ (by omega) hv
          · exact key _ (by omega) hv
        · exact key _ (by omega) hv
      · cases hv
    refine ⟨?_, fun v hv => ?_⟩
    · show (mvs c w h sd n ++ _).Pairwise _
      rw [List.pairwise_append]
      refine ⟨ih1, ?_, fun a ha b hb => ?_⟩
      · split
        · exact mf_pw _ _ _ _ _ _
        · exact List.Pairwise.nil
      · have := ih2 a ha
        have := hall b hb
        omega
    · rcases List.mem_append.mp hv with h | h
      · have := ih2 v h; omega
      · have := hall v h; omega
theorem MLs_nodup {c : Fn} {w h sd : Int} (hs : sd = 0 ∨ sd = 1) (w1 : 3 ≤ w) (w2 : w ≤ 5) (h1 : 3 ≤ h) (h2 : h ≤ 5) : (MLs c w h sd).Nodup := by
  unfold MLs
  split
  · exact List.nodup_nil
  · have := wh_bd w1 w2 h1 h2
    exact (mvs_pw hs w1 w2 h1 h2 _ (by omega)).1.imp (fun h => Int.ne_of_lt h)
