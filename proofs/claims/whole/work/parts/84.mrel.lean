/-! the two sides' registers, side by side -/
def CR (r : Nat) : Prop := (1 ≤ r ∧ r ≤ 14) ∨ r = 19 ∨ (22 ≤ r ∧ r ≤ 30)
def Z11 (σ : Sg) : Prop := ∀ s : Int, (s < 0 ∨ 64 ≤ s) → σ 11 s = 0
def REL (σ τ : Sg) : Prop := (∀ r : Nat, CR r → τ (200 + r) = σ r) ∧ (INV σ ∧ HLM σ ∧ Z11 σ) ∧
  ((σ 20 0 = 0 ∧ fiF (τ 217) 5 = fiF (σ 17) 5 ∧ fiF (τ 218) 5 = fiF (σ 18) 5 ∧ ∀ d : Int, 1 ≤ d → d ≤ 4 → σ 17 d = -1 ∧ σ 18 d = -1) ∨ (1 ≤ σ 20 0 ∧ σ 20 0 ≤ 4 ∧ τ 217 = σ 17 ∧ τ 218 = σ 18)) ∧
  (σ 17 0 = -1 ∧ σ 18 0 = -1) ∧ (∀ d : Int, (-1 ≤ τ 217 d ∧ τ 217 d < 2500) ∧ (-1 ≤ τ 218 d ∧ τ 218 d < 2500)) ∧ (τ 220 0 = σ 20 0 ∧ τ 221 0 = σ 21 0 + σ 16 0 ∧ τ 231 0 = τ 219 0) ∧ (-1 ≤ σ 19 0 ∧ σ 19 0 < 2500)
section RELS
variable {σ τ : Sg}
theorem REL.c (h : REL σ τ) {r : Nat} (hr : CR r) : mw τ r = σ r := h.1 r hr
theorem REL.e1 (h : REL σ τ) : τ 201 = σ 1 := h.1 1 (by unfold CR; omega)
theorem REL.e2 (h : REL σ τ) : τ 202 = σ 2 := h.1 2 (by unfold CR; omega)
theorem REL.e3 (h : REL σ τ) : τ 203 = σ 3 := h.1 3 (by unfold CR; omega)
theorem REL.e4 (h : REL σ τ) : τ 204 = σ 4 := h.1 4 (by unfold CR; omega)
theorem REL.e5 (h : REL σ τ) : τ 205 = σ 5 := h.1 5 (by unfold CR; omega)
theorem REL.e6 (h : REL σ τ) : τ 206 = σ 6 := h.1 6 (by unfold CR; omega)
theorem REL.e7 (h : REL σ τ) : τ 207 = σ 7 := h.1 7 (by unfold CR; omega)
theorem REL.e8 (h : REL σ τ) : τ 208 = σ 8 := h.1 8 (by unfold CR; omega)
theorem REL.e9 (h : REL σ τ) : τ 209 = σ 9 := h.1 9 (by unfold CR; omega)
theorem REL.e10 (h : REL σ τ) : τ 210 = σ 10 := h.1 10 (by unfold CR; omega)
theorem REL.e11 (h : REL σ τ) : τ 211 = σ 11 := h.1 11 (by unfold CR; omega)
theorem REL.e12 (h : REL σ τ) : τ 212 = σ 12 := h.1 12 (by unfold CR; omega)
theorem REL.e13 (h : REL σ τ) : τ 213 = σ 13 := h.1 13 (by unfold CR; omega)
theorem REL.e14 (h : REL σ τ) : τ 214 = σ 14 := h.1 14 (by unfold CR; omega)
theorem REL.e19 (h : REL σ τ) : τ 219 = σ 19 := h.1 19 (by unfold CR; omega)
theorem REL.e22 (h : REL σ τ) : τ 222 = σ 22 := h.1 22 (by unfold CR; omega)
theorem REL.e23 (h : REL σ τ) : τ 223 = σ 23 := h.1 23 (by unfold CR; omega)
theorem REL.e24 (h : REL σ τ) : τ 224 = σ 24 := h.1 24 (by unfold CR; omega)
theorem REL.e25 (h : REL σ τ) : τ 225 = σ 25 := h.1 25 (by unfold CR; omega)
theorem REL.e26 (h : REL σ τ) : τ 226 = σ 26 := h.1 26 (by unfold CR; omega)
theorem REL.e27 (h : REL σ τ) : τ 227 = σ 27 := h.1 27 (by unfold CR; omega)
theorem REL.e28 (h : REL σ τ) : τ 228 = σ 28 := h.1 28 (by unfold CR; omega)
theorem REL.e29 (h : REL σ τ) : τ 229 = σ 29 := h.1 29 (by unfold CR; omega)
theorem REL.e30 (h : REL σ τ) : τ 230 = σ 30 := h.1 30 (by unfold CR; omega)
theorem REL.cf (h : REL σ τ) : cfg (mw τ) = cfg σ := cfg_of (fun r hr => h.c (by unfold CR; omega))
theorem REL.te (h : REL σ τ) : tellF (mw τ) = tellF σ := by
  funext s k
  unfold tellF
  rw [h.c (r := 11) (by unfold CR; omega), h.c (r := 12) (by unfold CR; omega), h.c (r := 13) (by unfold CR; omega), h.c (r := 14) (by unfold CR; omega)]
theorem REL.fn (h : REL σ τ) : fndT (mw τ) = fndT σ := by
  funext k
  unfold fndT
  rw [h.c (r := 9) (by unfold CR; omega), h.c (r := 10) (by unfold CR; omega), h.c (r := 11) (by unfold CR; omega)]
theorem REL.wt (h : REL σ τ) {k : Int} : wtF (mw τ) k = wtF σ k := wtF_of (h.c (by unfold CR; omega)) (h.c (by unfold CR; omega)) (h.c (by unfold CR; omega)) (h.c (by unfold CR; omega))
theorem REL.fb (h : REL σ τ) : FB (mw τ) = FB σ := by
  funext k v z
  unfold FB
  rw [h.c (r := 24) (by unfold CR; omega), h.c (r := 25) (by unfold CR; omega), h.c (r := 27) (by unfold CR; omega)]
theorem REL.kn (h : REL σ τ) : knF (mw τ) = knF σ := by
  unfold knF
  rw [h.cf, h.fn, h.c (r := 1) (by unfold CR; omega), h.c (r := 4) (by unfold CR; omega), h.c (r := 11) (by unfold CR; omega)]
theorem REL.mg (h : REL σ τ) : MLg (mw τ) = MLg σ := by
  unfold MLg
  rw [h.c (r := 1) (by unfold CR; omega), h.c (r := 2) (by unfold CR; omega), h.c (r := 3) (by unfold CR; omega), h.c (r := 4) (by unfold CR; omega)]
theorem REL.tl (h : REL σ τ) : tlF (mw τ) = tlF σ := by
  unfold tlF
  rw [h.mg, h.cf, h.c (r := 1) (by unfold CR; omega), h.c (r := 4) (by unfold CR; omega), h.wt]
theorem REL.inv (h : REL σ τ) : INV (mw τ) := by
  obtain ⟨e, ⟨⟨h1, h2, h3, h4, h5, h6, h7⟩, -, -⟩, -, -, hk, -⟩ := h
  have e : ∀ r : Nat, CR r → mw τ r = σ r := e
  unfold CR at e
  refine ⟨h1.of (fun r hr => e r (by omega)), ?_, h3.of (e 12 (by omega)), ?_, ?_, ?_, ?_⟩
  · obtain ⟨a, b, c⟩ := h2
    unfold TI
    rw [e 9 (by omega), e 10 (by omega), e 11 (by omega), e 12 (by omega), e 13 (by omega), e 14 (by omega)]
    exact ⟨a, b, hk⟩
  · rw [cfg_of (fun r hr => e r (by omega))]; exact h4.of (fun r hr => e r (by omega))
  · unfold BKI at *; rw [e 24 (by omega), e 25 (by omega), e 26 (by omega), e 27 (by omega)]; exact h5
  · unfold TRI at *; rw [e 30 (by omega)]; exact h6
  · rw [e 2 (by omega), e 3 (by omega), e 28 (by omega), e 29 (by omega), e 30 (by omega), e 1 (by omega)]; exact h7
theorem REL.n (h : REL σ τ) : INV σ := h.2.1.1
theorem REL.hl (h : REL σ τ) : HLM σ := h.2.1.2.1
theorem REL.z (h : REL σ τ) : Z11 σ := h.2.1.2.2
theorem REL.g (h : REL σ τ) : GI σ := h.n.1
theorem REL.gm (h : REL σ τ) : GI (mw τ) := h.inv.1
theorem REL.bd (h : REL σ τ) : BDG (σ 2 0 * σ 3 0) (σ 1) := h.n.2.2.2.2.2.2.bd
theorem REL.be (h : REL σ τ) : -1 ≤ σ 19 0 ∧ σ 19 0 < 2500 := h.2.2.2.2.2.2
theorem REL.re (h : REL σ τ) : τ 220 0 = σ 20 0 := h.2.2.2.2.2.1.1
theorem REL.no (h : REL σ τ) : τ 221 0 = σ 21 0 + σ 16 0 := h.2.2.2.2.2.1.2.1
theorem REL.b2 (h : REL σ τ) : τ 231 0 = σ 19 0 := by rw [h.2.2.2.2.2.1.2.2, h.e19]
theorem REL.re4 (h : REL σ τ) : 0 ≤ σ 20 0 ∧ σ 20 0 ≤ 4 := by
  rcases h.2.2.1 with q | q
  · have := q.1; omega
  · have := q.1; have := q.2.1; omega
theorem REL.wh (h : REL σ τ) : 9 ≤ σ 2 0 * σ 3 0 ∧ σ 2 0 * σ 3 0 ≤ 25 := by
  have hB := h.g.1
  have wb := wh_bd hB.1 hB.2.1 hB.2.2.1 hB.2.2.2
  omega
theorem REL.hcz (h : REL σ τ) : ∀ i : Int, (i < 0 ∨ 25 ≤ i) → σ 1 i = 0 := fun i hi => h.bd.2.2 i (by have := h.wh; omega)
theorem REL.hk0 (h : REL σ τ) : σ 20 0 = 0 → ∀ d o : Int, 1 ≤ d → d ≤ 4 → kilF σ d o = -1 := by
  intro h0 d o h1 h4
  rcases h.2.2.1 with q | q
  · unfold kilF
    rw [if_pos (by omega), (q.2.2.2 d h1 h4).1, (q.2.2.2 d h1 h4).2]
    split <;> rfl
  · omega
theorem REL.hu (h : REL σ τ) : σ 30 0 ≠ 0 → OKM (σ 2 0 * σ 3 0) (σ 28 (σ 30 0 - 1)) ∧ BDG (σ 2 0 * σ 3 0) (unF (σ 1) (σ 28 (σ 30 0 - 1)) (σ 29 (σ 30 0 - 1))) := by
  intro h0
  have ht := h.n.2.2.2.2.2.1
  have hT := h.n.2.2.2.2.2.2
  obtain ⟨n, hn⟩ : ∃ n : Nat, (σ 30 0).toNat = n + 1 := ⟨(σ 30 0).toNat - 1, by have := ht.1; omega⟩
  rw [hn] at hT
  have e : σ 30 0 - 1 = (n : Int) := by have := ht.1; omega
  rw [e]
  exact ⟨hT.2.1, hT.2.2.bd⟩
theorem kil_eq (h : REL σ τ) {d o : Int} (ho : o = 0 ∨ o = 1) : (if (1 ≤ d ∧ d ≤ 4) ∧ 0 < τ 220 0 then kilF (mw τ) d (if o = 0 then 0 else 1) else -1) = kilF σ d o := by
  have eo : (if o = 0 then (0 : Int) else 1) = o := by rcases ho with rfl | rfl <;> rfl
  rw [eo, h.re]
  have h0 := h.2.2.2.1
  by_cases hd : 1 ≤ d ∧ d ≤ 4
  · rcases h.2.2.1 with q | q
    · rw [if_neg (by omega), h.hk0 q.1 d o hd.1 hd.2]
    · rw [if_pos (by omega)]
      have a : mw τ 17 = σ 17 := q.2.2.1
      have b : mw τ 18 = σ 18 := q.2.2.2
      unfold kilF
      rw [a, b]
  · rw [if_neg (by omega)]
    unfold kilF
    by_cases z : d = 0
    · rw [if_pos (by omega), z, h0.1, h0.2]
      split <;> rfl
    · rw [if_neg (by omega)]
theorem kiF_eq (h : REL σ τ) {d : Int} (hd : 1 ≤ d ∧ d ≤ 4) {o : Int} : kiF (mw τ) (σ 20 0) d o = kiF σ (σ 20 0) d o := by
  unfold kiF
  rcases h.2.2.1 with q | q
  · rw [if_neg (by omega), if_neg (by omega)]
  · have a : mw τ 17 = σ 17 := q.2.2.1
    have b : mw τ 18 = σ 18 := q.2.2.2
    unfold kilF
    rw [a, b]
theorem dgK_ext {k l : Int → Int → Int} : ∀ (n : Nat) (d : Int), (∀ i o : Int, 1 ≤ i → i ≤ n → k i o = l i o) → dgK k n d = dgK l n d
  | 0, _, _ => rfl
  | n + 1, d, e => by
    show dgF (k ((n : Int) + 1)) 2 (dgK k n d) = dgF (l ((n : Int) + 1)) 2 (dgK l n d)
    rw [dgK_ext n d (fun i o a b => e i o a (by omega))]
    exact dgF_ext 2 _ (fun i _ _ => e _ i (by omega) (by omega))
theorem REL.dg (h : REL σ τ) : digF (mw τ) (τ 220 0) (τ 221 0) (τ 231 0) = digF σ (σ 20 0) (σ 21 0 + σ 16 0) (σ 19 0) := by
  have e : ∀ r : Nat, CR r → mw τ r = σ r := h.1
  unfold CR at e
  have k6 : ∀ x, dg6 (mw τ) (σ 20 0) x = dg6 σ (σ 20 0) x := fun x => dgK_ext 4 x (fun i o a b => kiF_eq h ⟨a, by omega⟩)
  unfold digF
  rw [h.re, h.no, h.b2, k6]
  have k1 : dg1 (mw τ) = dg1 σ := by unfold dg1; rw [e 1 (by omega), e 2 (by omega), e 3 (by omega)]
  have k2 : ∀ x, dg2 (mw τ) x = dg2 σ x := fun x => by unfold dg2; rw [h.mg, h.cf, e 1 (by omega), e 4 (by omega), e 30 (by omega)]
  have k3 : ∀ x, dg3 (mw τ) x = dg3 σ x := fun x => by unfold dg3; rw [h.mg]
  have k4 : ∀ x, dg4 (mw τ) x = dg4 σ x := fun x => by unfold dg4; rw [h.cf, e 1 (by omega), e 4 (by omega)]
  have k5 : ∀ a b c x, dg5 (mw τ) a b c x = dg5 σ a b c x := fun a b c x => by unfold dg5; rw [e 22 (by omega), e 23 (by omega)]
  have kt : teF (mw τ) = teF σ := by funext s k; unfold teF; rw [h.te]
  have k7 : ∀ x, dg7 (mw τ) x = dg7 σ x := fun x => by unfold dg7; rw [kt, e 9 (by omega), e 11 (by omega)]
  have k8 : ∀ x, dg8 (mw τ) x = dg8 σ x := fun x => by unfold dg8; rw [h.kn, h.tl, e 27 (by omega)]
  rw [k1, k2, k3, k4, k5, k7, k8]
/-- what only reads -/
theorem REL.ro (h : REL σ τ) {σ' τ' : Sg} (hs : ∀ r : Nat, r < 46 → r ≠ 15 → σ' r = σ r) (ht : ∀ r : Nat, r < 232 → τ' r = τ r) : REL σ' τ' := by
  obtain ⟨e, ⟨h1, h2, h3⟩, h4, h5, h6, h7, h8⟩ := h
  refine ⟨fun r hr => ?_, ⟨h1.of (fun r hr => hs r (by omega) (by omega)), ?_, ?_⟩, ?_, ?_, ?_, ?_, ?_⟩
  · have hr9 := hr
    unfold CR at hr9
    rw [ht _ (by omega), hs _ (by omega) (by omega)]
    exact e r hr
  · unfold HLM LM at *
    rw [hs 1 (by omega) (by omega), hs 2 (by omega) (by omega), hs 3 (by omega) (by omega), hs 4 (by omega) (by omega), hs (40 + 6 * 0 + 4) (by omega) (by omega), hs (40 + 6 * 0) (by omega) (by omega), hs (40 + 6 * 0 + 1) (by omega) (by omega)]
    exact h2
  · unfold Z11 at *; rw [hs 11 (by omega) (by omega)]; exact h3
  · rw [hs 20 (by omega) (by omega), hs 17 (by omega) (by omega), hs 18 (by omega) (by omega), ht 217 (by omega), ht 218 (by omega)]; exact h4
  · rw [hs 17 (by omega) (by omega), hs 18 (by omega) (by omega)]; exact h5
  · rw [ht 217 (by omega), ht 218 (by omega)]; exact h6
  · rw [hs 20 (by omega) (by omega), hs 21 (by omega) (by omega), hs 16 (by omega) (by omega), ht 220 (by omega), ht 221 (by omega), ht 231 (by omega), ht 219 (by omega)]; exact h7
  · rw [hs 19 (by omega) (by omega)]; exact h8
/-- what leaves the search's words alone -/
theorem REL.upd (h : REL σ τ) {σ' τ' : Sg} (e : ∀ r : Nat, CR r → τ' (200 + r) = σ' r) (hN : INV σ') (hH : HLM σ') (hZ : Z11 σ') (hs : ∀ r : Nat, 16 ≤ r → r ≤ 21 → σ' r = σ r) (ht : ∀ r : Nat, (r = 217 ∨ r = 218 ∨ r = 219 ∨ r = 220 ∨ r = 221 ∨ r = 231) → τ' r = τ r) : REL σ' τ' := by
  obtain ⟨-, -, h4, h5, h6, h7, h8⟩ := h
  refine ⟨e, ⟨hN, hH, hZ⟩, ?_, ?_, ?_, ?_, ?_⟩
  · rw [hs 20 (by omega) (by omega), hs 17 (by omega) (by omega), hs 18 (by omega) (by omega), ht 217 (by omega), ht 218 (by omega)]; exact h4
  · rw [hs 17 (by omega) (by omega), hs 18 (by omega) (by omega)]; exact h5
  · rw [ht 217 (by omega), ht 218 (by omega)]; exact h6
  · rw [hs 20 (by omega) (by omega), hs 21 (by omega) (by omega), hs 16 (by omega) (by omega), ht 220 (by omega), ht 221 (by omega), ht 231 (by omega), ht 219 (by omega)]; exact h7
  · rw [hs 19 (by omega) (by omega)]; exact h8
theorem REL.ths (h : REL σ τ) {n : Int} {τ' : Sg} (hE : ∀ r : Nat, r < 233 → τ' r = th τ n r) : τ' 232 0 = n ∧ REL σ τ' :=
  ⟨by rw [hE 232 (by omega)]; unfold th; rw [upr_eq, ups_eq], h.ro (fun _ _ _ => rfl) (fun r hr => by rw [hE r (by omega)]; exact th_o (by omega))⟩
/-- a wrapper's answer and the reference's -/
theorem JT {post : Int → Sg → Prop} {px : String → Sg → Prop} {cd : String → Int} {k z2 : Int} {σ1 τ1 : Sg} (hc : wpost post px cd k σ1) (hcd : ∀ E, cd E ≠ 0) (hn : ∀ (z : Int) (σ2 : Sg), post z σ2 → z = z2 ∧ τ1 232 0 = 0 ∧ REL σ2 τ1) (hx : ∀ (E : String) (σ2 : Sg), px E σ2 → τ1 232 0 = cd E ∧ REL σ2 τ1) : τ1 232 0 = k ∧ (k = 0 → σ1 270 0 = wI z2) ∧ REL σ1 τ1 := by
  rcases hc with ⟨rfl, z, σ2, hp, rfl⟩ | ⟨E, hp, rfl⟩
  · obtain ⟨a, b, c⟩ := hn z σ2 hp
    exact ⟨b, fun _ => by rw [upr_eq, ups_eq, a], c.ro (fun r hr _ => upr_ne _ _ (by omega)) (fun _ _ => rfl)⟩
  · obtain ⟨a, c⟩ := hx E σ1 hp
    exact ⟨a, fun q => absurd q (hcd E), c⟩
theorem cd1_ne : ∀ E, cd1 E ≠ 0 := fun _ => show (1 : Int) ≠ 0 by decide
theorem cdP_ne : ∀ E, cdP E ≠ 0 := by
  intro E
  unfold cdP
  split
  · decide
  · split <;> decide
theorem cdS_ne : ∀ E, cdS E ≠ 0 := by
  intro E
  unfold cdS
  split <;> decide
end RELS
