/-! going on: what is chosen is in the list; what a search keeps; what holds of a whole state -/
theorem chF_in (w : Int → Int) : ∀ (L : List Int) (n ch g : Int), (ch = -1 ∨ (0 ≤ ch ∧ ch < n)) → 0 ≤ n → (chF w L n ch g = -1 ∨ (0 ≤ chF w L n ch g ∧ chF w L n ch g < n + L.length))
  | [], n, ch, g, h, _ => by
    rw [chF]
    have e : (([] : List Int).length : Int) = 0 := rfl
    omega
  | v :: vs, n, ch, g, h, h0 => by
    have e : ((v :: vs).length : Int) = (vs.length : Int) + 1 := rfl
    rw [chF]
    split
    · have := chF_in w vs (n + 1) n (w v) (by omega) (by omega); omega
    · have := chF_in w vs (n + 1) ch g (by omega) (by omega); omega
theorem clr_9 {τ : Sg} (h : T9 τ) : T9 (clrT τ) := h.of rfl
theorem clr_TL {S : Nat → Int} {τ : Sg} (h : TL S τ) : TL S (clrT τ) := h.of (fun r hr => by rcases hr with rfl | rfl | rfl <;> rfl)
theorem mem_ix {L : List Int} {v : Int} (h : v ∈ L) : ∃ ix : Int, 0 ≤ ix ∧ ix < L.length ∧ L.getD ix.toNat (-1) = v := by
  obtain ⟨i, hi, e⟩ := List.getElem_of_mem h
  refine ⟨i, by omega, by omega, ?_⟩
  rw [Int.toNat_natCast, getD_lt hi]
  exact e
theorem skp_TI {S : Nat → Int} (hS : SB S) {c : Fn} {sd : Int} (hC : BC c) (hs : sd = 0 ∨ sd = 1) : ∀ (k d : Nat) (num n re : Int) (τ : Sg), d + k ≤ 5 → TI τ → TI (skp S c sd k d num n re τ).2.2.2
  | 0, d, num, n, re, τ, _, hT => hT
  | k + 1, d, num, n, re, τ, hk, hT => by
    rw [skp]
    split
    · exact hT
    · exact skp_TI hS hC hs k (d + 1) _ _ _ _ (by omega) (sb_ok hS d c sd (-9999) 9999 τ (by omega) hC hs hT).1
theorem skp_best {S : Nat → Int} (hS : SB S) {c : Fn} {sd : Int} (hC : BC c) (hs : sd = 0 ∨ sd = 1) (hne : MLs c (S 2) (S 3) sd ≠ []) {d : Nat} (hd : 1 ≤ d ∧ d ≤ 4) {τ : Sg} (h9 : T9 τ) (hT : TL S τ) : T9 (skp S c sd d 1 0 0 0 (clrT τ)).2.2.2 ∧ TL S (skp S c sd d 1 0 0 0 (clrT τ)).2.2.2 ∧ (skp S c sd d 1 0 0 0 (clrT τ)).2.2.2 19 0 ∈ MLs c (S 2) (S 3) sd := by
  have q := skp_TL hS hC hs hne d 1 0 0 0 (clrT τ) (by omega) (by decide) (clr_9 h9) (clr_TL hT)
  exact ⟨q.1, q.2.1, q.2.2 (Or.inr ⟨hd.1, by decide⟩)⟩
theorem TL_tv {S : Nat → Int} {σ : Sg} : TL S (tv σ) ↔ TL S σ := ⟨fun h => h.of (fun r hr => (tv_in σ (by omega)).symm), fun h => h.of (fun r hr => tv_in σ (by omega))⟩
/-- a chain of boards under the moves played: what is taken back is a board again -/
def OKM (wh v : Int) : Prop := (0 ≤ v ∧ v < 2500) ∧ v / 100 < wh ∧ v % 100 < wh
def BDG (wh : Int) (c : Fn) : Prop := BC c ∧ PW c ∧ ∀ i : Int, (i < 0 ∨ wh ≤ i) → c i = 0
def TRG (wh : Int) (f g : Fn) : Nat → Fn → Prop
  | 0, c => BDG wh c
  | n + 1, c => BDG wh c ∧ OKM wh (f (n : Int)) ∧ TRG wh f g n (unF c (f (n : Int)) (g (n : Int)))
theorem TRG.bd {wh : Int} {f g : Fn} : ∀ {n : Nat} {c : Fn}, TRG wh f g n c → BDG wh c
  | 0, _, h => h
  | _ + 1, _, h => h.1
theorem TRG.ext {wh : Int} {f g f2 g2 : Fn} : ∀ {n : Nat} {c : Fn}, TRG wh f g n c → (∀ i : Int, 0 ≤ i → i < n → f2 i = f i ∧ g2 i = g i) → TRG wh f2 g2 n c
  | 0, _, h, _ => h
  | n + 1, c, h, e => by
    have q := e (n : Int) (by omega) (by omega)
    refine ⟨h.1, ?_, ?_⟩
    · rw [q.1]; exact h.2.1
    · rw [q.1, q.2]; exact h.2.2.ext (fun i a b => e i a (by omega))
theorem TRG.sh {wh : Int} {f g f2 g2 : Fn} : ∀ {n : Nat} {c : Fn}, TRG wh f g (n + 1) c → (∀ i : Int, 0 ≤ i → i < n → f2 i = f (i + 1) ∧ g2 i = g (i + 1)) → TRG wh f2 g2 n c
  | 0, _, h, _ => h.1
  | n + 1, c, h, e => by
    have q := e (n : Int) (by omega) (by omega)
    refine ⟨h.1, ?_, ?_⟩
    · rw [q.1]; exact h.2.1
    · rw [q.1, q.2]; exact h.2.2.sh (fun i a b => e i a (by omega))
theorem TRG.put {wh : Int} {f g : Fn} {n : Nat} {c : Fn} {v : Int} (h : TRG wh f g n c) (hv : OKM wh v) (hne : v / 100 ≠ v % 100) (hb : BDG wh (mvF c v)) : TRG wh (ups f (n : Int) v) (ups g (n : Int) (c (v % 100))) (n + 1) (mvF c v) := by
  refine ⟨hb, by rw [ups_eq]; exact hv, ?_⟩
  rw [ups_eq, ups_eq, un_mv c hne]
  exact h.ext (fun i a b => ⟨ups_ne _ _ (by omega), ups_ne _ _ (by omega)⟩)
theorem BDG.mv {wh : Int} {c : Fn} {v : Int} (h : BDG wh c) (h0 : 0 ≤ v) (h25 : wh ≤ 25) (h1 : v / 100 < wh) (h2 : v % 100 < wh) (hne : v / 100 ≠ v % 100) : BDG wh (mvF c v) := by
  refine ⟨mvF_BC h.1 v, mvF_PW h.2.1 h0 (by omega) (by omega) hne, fun i hi => ?_⟩
  unfold mvF
  rw [ups_ne _ _ (by omega), ups_ne _ _ (by omega)]
  exact h.2.2 i hi
def INV (σ : Sg) : Prop := GI σ ∧ TI σ ∧ T9 σ ∧ TL (cfg σ) σ ∧ BKI σ ∧ TRI σ ∧ TRG (σ 2 0 * σ 3 0) (σ 28) (σ 29) (σ 30 0).toNat (σ 1)
theorem INV.of {a b : Sg} (h : INV a) (e : ∀ r : Nat, ((1 ≤ r ∧ r ≤ 14) ∨ r = 17 ∨ r = 18 ∨ (22 ≤ r ∧ r ≤ 30)) → b r = a r) : INV b := by
  obtain ⟨h1, h2, h3, h4, h5, h6, h7⟩ := h
  refine ⟨h1.of (fun r hr => e r (by omega)), h2.of (fun r hr => e r (by omega)), h3.of (e 12 (by omega)), ?_, ?_, ?_, ?_⟩
  · rw [cfg_of (fun r hr => e r (by omega))]; exact h4.of (fun r hr => e r (by omega))
  · unfold BKI at *; rw [e 24 (by omega), e 25 (by omega), e 26 (by omega), e 27 (by omega)]; exact h5
  · unfold TRI at *; rw [e 30 (by omega)]; exact h6
  · rw [e 2 (by omega), e 3 (by omega), e 28 (by omega), e 29 (by omega), e 30 (by omega), e 1 (by omega)]; exact h7
/-- a state that a search of the reference leaves -/
theorem INV.play {μ : Sg} {v : Int} (h : INV μ) (hv : MV μ v) : INV (addT (mvG μ v) v (μ 1 (v % 100))) := by
  obtain ⟨h1, h2, h3, h4, h5, h6, h7⟩ := h
  have ok := hv.ok h1
  have wb := wh_bd h1.1.1 h1.1.2.1 h1.1.2.2.1 h1.1.2.2.2
  have g2 := h1.mv hv
  have z : ∀ r : Nat, ¬ (r = 28 ∨ r = 29 ∨ r = 30) → addT (mvG μ v) v (μ 1 (v % 100)) r = mvG μ v r := fun r hr => by
    unfold addT putT shT
    split
    · rw [upr_ne _ _ (by omega), upr_ne _ _ (by omega), upr_ne _ _ (by omega), upr_ne _ _ (by omega), upr_ne _ _ (by omega), upr_ne _ _ (by omega)]
    · rw [upr_ne _ _ (by omega), upr_ne _ _ (by omega), upr_ne _ _ (by omega)]
  have z2 : ∀ r : Nat, ¬ (r = 1 ∨ r = 4 ∨ r = 28 ∨ r = 29 ∨ r = 30) → addT (mvG μ v) v (μ 1 (v % 100)) r = μ r := fun r hr => (z r (by omega)).trans (mvG_o μ v (by omega) (by omega))
  have hb : BDG (μ 2 0 * μ 3 0) (mvF (μ 1) v) := h7.bd.mv ok.1.1 (by omega) ok.1.2.1 ok.1.2.2 ok.2.1
  refine ⟨g2.of (fun r hr => z r (by omega)), h2.of (fun r hr => z2 r (by omega)), h3.of (z2 12 (by decide)), ?_, ?_, ?_, ?_⟩
  · rw [cfg_of (fun r hr => z2 r (by omega))]; exact h4.of (fun r hr => z2 r (by omega))
  · unfold BKI at *; rw [z2 24 (by omega), z2 25 (by omega), z2 26 (by omega), z2 27 (by omega)]; exact h5
  · have q : mvG μ v 30 0 = μ 30 0 := congrFun (mvG_o μ v (by decide) (by decide)) 0
    unfold TRI at *
    unfold addT putT shT
    split
    · rw [upr_eq, ups_eq, upr_eq, ups_eq]; omega
    · rw [upr_eq, ups_eq]; omega
  · have q : ∀ r : Nat, r = 28 ∨ r = 29 ∨ r = 30 → mvG μ v r = μ r := fun r hr => mvG_o μ v (by omega) (by omega)
    rw [z2 2 (by decide), z2 3 (by decide), z 1 (by decide), mvG_1]
    have okm : OKM (μ 2 0 * μ 3 0) v := ⟨⟨ok.1.1, ok.2.2⟩, ok.1.2.1, ok.1.2.2⟩
    unfold addT
    rw [q 30 (by omega)]
    by_cases e : 40 ≤ μ 30 0
    · rw [if_pos e]
      have e40 : μ 30 0 = 40 := by have := h6.2; omega
      have e39 : shT (mvG μ v) 30 0 = 39 := by unfold shT; rw [upr_eq, ups_eq, q 30 (by omega)]; omega
      unfold putT
      rw [upr_eq, ups_eq, upr_ne _ _ (show (28 : Nat) ≠ 30 by decide), upr_ne _ _ (show (28 : Nat) ≠ 29 by decide), upr_eq, upr_ne _ _ (show (29 : Nat) ≠ 30 by decide), upr_eq, e39]
      have h8 : TRG (μ 2 0 * μ 3 0) (shT (mvG μ v) 28) (shT (mvG μ v) 29) 39 (μ 1) := by
        rw [e40] at h7
        refine TRG.sh h7 (fun i a b => ?_)
        unfold shT
        rw [upr_ne _ _ (show (28 : Nat) ≠ 30 by decide), upr_ne _ _ (show (28 : Nat) ≠ 29 by decide), upr_eq, upr_ne _ _ (show (29 : Nat) ≠ 30 by decide), upr_eq, q 28 (by omega), q 29 (by omega)]
        unfold shF
        rw [if_pos (by omega), if_pos (by omega)]
        exact ⟨rfl, rfl⟩
      exact h8.put okm ok.2.1 hb
    · rw [if_neg e]
      have e3 : 0 ≤ μ 30 0 := h6.1
      unfold putT
      rw [upr_eq, ups_eq, upr_ne _ _ (show (28 : Nat) ≠ 30 by decide), upr_ne _ _ (show (28 : Nat) ≠ 29 by decide), upr_eq, upr_ne _ _ (show (29 : Nat) ≠ 30 by decide), upr_eq, q 28 (by omega), q 29 (by omega), q 30 (by omega)]
      have h8 := TRG.put (v := v) h7 okm ok.2.1 hb
      rw [show (((μ 30 0).toNat : Nat) : Int) = μ 30 0 by omega] at h8
      rw [show (μ 30 0 + 1).toNat = (μ 30 0).toNat + 1 by omega]
      exact h8
