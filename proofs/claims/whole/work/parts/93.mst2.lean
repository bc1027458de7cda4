/-! the two sides at the start -/
theorem fiF_fiF (f : Fn) (n : Int) : fiF (fiF f n) n = fiF f n := by
  funext x
  unfold fiF
  split <;> simp_all
theorem I_INV : INV σI := by
  have hB := I_BG
  have hS : SB (cfg σI) := by unfold SB; decide
  refine ⟨⟨hB, I_BC, Or.inl rfl, I_PW, hS⟩, ?_, fun s => by show -9000 ≤ (0 : Int) ∧ (0 : Int) ≤ 9000; decide, fun s hs => absurd hs (by show ¬ (0 : Int) < 0; decide), ?_, ?_, ?_⟩
  · refine ⟨by show 0 ≤ (32 : Int) ∧ (32 : Int) ≤ 64; decide, fun s => ⟨by show 0 ≤ (0 : Int) ∧ (0 : Int) ≤ 4; decide, by show -10000 ≤ (0 : Int) ∧ (0 : Int) ≤ 10000; decide, by show 0 ≤ (0 : Int) ∧ (0 : Int) ≤ 2; decide, by show -1 ≤ (0 : Int) ∧ (0 : Int) < 2500; decide, by show 0 ≤ (0 : Int) ∧ (0 : Int) < 4000000000000000000; decide⟩, fun d => ?_⟩
    have e : -1 ≤ fiF (fun _ => 0) 5 d ∧ fiF (fun _ => 0) 5 d < 2500 := by
      unfold fiF
      by_cases q : 0 ≤ d ∧ d < 5
      · rw [if_pos q]; decide
      · rw [if_neg q]; show -1 ≤ (0 : Int) ∧ (0 : Int) < 2500; decide
    exact ⟨e, e⟩
  · refine ⟨by show 0 ≤ (0 : Int) ∧ (0 : Int) ≤ 30; decide, fun k => ⟨by show 0 ≤ (0 : Int) ∧ (0 : Int) < 4000000000000000000; decide, by show -1 ≤ (0 : Int) ∧ (0 : Int) < 2500; decide, by show 0 ≤ (0 : Int) ∧ (0 : Int) ≤ 99; decide⟩, fun i k i0 i1 => ?_⟩
    have i1 : i < 0 := i1
    omega
  · show 0 ≤ (0 : Int) ∧ (0 : Int) ≤ 40; decide
  · show BDG 9 (layN 9 3 (fun _ => 0) 25)
    rw [lay_same (fun _ _ => rfl) (by decide) (by decide)]
    exact ⟨layG_BC (fun _ => by decide), by have := I_PW; rw [show σI 1 = layN 9 3 (fun _ => 0) 25 from rfl, lay_same (fun _ _ => rfl) (by decide) (by decide)] at this; exact this, fun i hi => layG_0o (by decide) hi⟩
theorem REL_init {σ' : Sg} (ho : OL 0 σI σ') (hL : LM σ' 0 (MLs (σI 1) (σI 2 0) (σI 3 0) (σI 4 0)) (σI 1)) : REL σ' (laR (lay0 σM 3 3) (3 * 3) (1 * 3)) := by
  have hs : ∀ r : Nat, r < 40 → σ' r = σI r := fun r hr => ho r (by omega)
  have key : REL (fun r => if r < 40 then σI r else σ' r) (laR (lay0 σM 3 3) (3 * 3) (1 * 3)) := by
    have e : ∀ r : Nat, r < 40 → (fun r => if r < 40 then σI r else σ' r) r = σI r := fun r hr => if_pos hr
    have e2 : ∀ r : Nat, 40 ≤ r → (fun r => if r < 40 then σI r else σ' r) r = σ' r := fun r hr => if_neg (by omega)
    refine ⟨fun r hr => ?_, ⟨I_INV.of (fun r hr => e r (by omega)), ?_, fun s _ => rfl⟩, Or.inl ⟨rfl, ?_, ?_, fun d d1 d4 => ?_⟩, ⟨rfl, rfl⟩, fun d => ?_, ⟨rfl, rfl, rfl⟩, by show -1 ≤ (-1 : Int) ∧ (-1 : Int) < 2500; decide⟩
    · have h9 := hr
      unfold CR at h9
      rw [e r (by omega)]
      have hcs : r = 1 ∨ r = 2 ∨ r = 3 ∨ r = 4 ∨ r = 5 ∨ r = 6 ∨ r = 7 ∨ r = 8 ∨ r = 9 ∨ r = 10 ∨ r = 11 ∨ r = 12 ∨ r = 13 ∨ r = 14 ∨ r = 19 ∨ r = 22 ∨ r = 23 ∨ r = 24 ∨ r = 25 ∨ r = 26 ∨ r = 27 ∨ r = 28 ∨ r = 29 ∨ r = 30 := by omega
      rcases hcs with rfl | rfl | rfl | rfl | rfl | rfl | rfl | rfl | rfl | rfl | rfl | rfl | rfl | rfl | rfl | rfl | rfl | rfl | rfl | rfl | rfl | rfl | rfl | rfl
      · show layG 9 (fun _ => 0) 3 = layN 9 3 (fun _ => 0) 25
        exact (lay_same (fun _ _ => rfl) (by decide) (by decide)).symm
      · show ups (fun i => if i = 0 then 0 else 3) 0 3 = fun _ => 3
        funext x; unfold ups; split <;> simp_all
      · show ups (fun i => if i = 0 then 0 else 3) 0 3 = fun _ => 3
        funext x; unfold ups; split <;> simp_all
      · show ups (fun _ => 0) 0 0 = fun _ => 0
        exact ups_self (fun _ => 0) 0
      · rfl
      · rfl
      · rfl
      · rfl
      · show ups (fun _ => 32) 0 32 = fun _ => 32
        exact ups_self (fun _ => 32) 0
      · rfl
      · show wpF (fun _ => 0) 64 = fun _ => 0
        funext x; unfold wpF; split <;> rfl
      · rfl
      · rfl
      · rfl
      · rfl
      · rfl
      · rfl
      · rfl
      · rfl
      · rfl
      · rfl
      · rfl
      · rfl
      · show ups (fun _ => 0) 0 0 = fun _ => 0
        exact ups_self (fun _ => 0) 0
    · unfold HLM
      rw [e 1 (by omega), e 2 (by omega), e 3 (by omega), e 4 (by omega)]
      unfold LM at *
      rw [e2 (40 + 6 * 0 + 4) (by omega), e2 (40 + 6 * 0) (by omega), e2 (40 + 6 * 0 + 1) (by omega)]
      exact hL
    · show fiF (fun _ => 0) 5 = fiF (fiF (fun _ => 0) 5) 5
      exact (fiF_fiF _ _).symm
    · show fiF (fun _ => 0) 5 = fiF (fiF (fun _ => 0) 5) 5
      exact (fiF_fiF _ _).symm
    · have q : fiF (fun _ => 0) 5 d = -1 := by unfold fiF; rw [if_pos (by omega)]
      exact ⟨q, q⟩
    · exact ⟨by show -1 ≤ (0 : Int) ∧ (0 : Int) < 2500; decide, by show -1 ≤ (0 : Int) ∧ (0 : Int) < 2500; decide⟩
  exact key.ro (fun r hr _ => by
    by_cases c : r < 40
    · rw [hs r c]; exact (if_pos c).symm
    · exact (if_neg c).symm) (fun _ _ => rfl)
