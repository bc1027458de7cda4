/-! what the two sides answer: the methods that only read -/
theorem j_columns {σ τ : Sg} (h : REL σ τ) {kc z1 z2 : Int} {σ1 τ1 : Sg} (hc : (fun z σ' => σ 2 0 = z ∧ σ = σ') z1 σ1) (hr : (fun z σ' => τ 202 0 = z ∧ th τ 0 = σ') z2 τ1) : z1 = z2 ∧ REL σ1 τ1 := by
  obtain ⟨rfl, rfl⟩ := hc
  obtain ⟨hz, hE⟩ := hr
  simp only [h.e1, h.e2, h.e3, h.e4, h.e5, h.e6, h.e7, h.e8, h.e9, h.e11, h.e22, h.e23, h.e27, h.e30, h.cf, h.te, h.fn, h.wt, h.fb, h.re, h.no, h.b2] at hz
  subst hz
  exact ⟨rfl, ((h.ths (τ' := τ1) (n := 0) (fun r hr => by rw [← hE])).2).ro (fun _ _ _ => rfl) (fun _ _ => rfl)⟩
theorem j_rows {σ τ : Sg} (h : REL σ τ) {kc z1 z2 : Int} {σ1 τ1 : Sg} (hc : (fun z σ' => σ 3 0 = z ∧ σ = σ') z1 σ1) (hr : (fun z σ' => τ 203 0 = z ∧ th τ 0 = σ') z2 τ1) : z1 = z2 ∧ REL σ1 τ1 := by
  obtain ⟨rfl, rfl⟩ := hc
  obtain ⟨hz, hE⟩ := hr
  simp only [h.e1, h.e2, h.e3, h.e4, h.e5, h.e6, h.e7, h.e8, h.e9, h.e11, h.e22, h.e23, h.e27, h.e30, h.cf, h.te, h.fn, h.wt, h.fb, h.re, h.no, h.b2] at hz
  subst hz
  exact ⟨rfl, ((h.ths (τ' := τ1) (n := 0) (fun r hr => by rw [← hE])).2).ro (fun _ _ _ => rfl) (fun _ _ => rfl)⟩
theorem j_side {σ τ : Sg} (h : REL σ τ) {kc z1 z2 : Int} {σ1 τ1 : Sg} (hc : (fun z σ' => σ 4 0 = z ∧ σ = σ') z1 σ1) (hr : (fun z σ' => τ 204 0 = z ∧ th τ 0 = σ') z2 τ1) : z1 = z2 ∧ REL σ1 τ1 := by
  obtain ⟨rfl, rfl⟩ := hc
  obtain ⟨hz, hE⟩ := hr
  simp only [h.e1, h.e2, h.e3, h.e4, h.e5, h.e6, h.e7, h.e8, h.e9, h.e11, h.e22, h.e23, h.e27, h.e30, h.cf, h.te, h.fn, h.wt, h.fb, h.re, h.no, h.b2] at hz
  subst hz
  exact ⟨rfl, ((h.ths (τ' := τ1) (n := 0) (fun r hr => by rw [← hE])).2).ro (fun _ _ _ => rfl) (fun _ _ => rfl)⟩
theorem j_played {σ τ : Sg} (h : REL σ τ) {kc z1 z2 : Int} {σ1 τ1 : Sg} (hc : (fun z σ' => σ 30 0 = z ∧ σ = σ') z1 σ1) (hr : (fun z σ' => τ 230 0 = z ∧ th τ 0 = σ') z2 τ1) : z1 = z2 ∧ REL σ1 τ1 := by
  obtain ⟨rfl, rfl⟩ := hc
  obtain ⟨hz, hE⟩ := hr
  simp only [h.e1, h.e2, h.e3, h.e4, h.e5, h.e6, h.e7, h.e8, h.e9, h.e11, h.e22, h.e23, h.e27, h.e30, h.cf, h.te, h.fn, h.wt, h.fb, h.re, h.no, h.b2] at hz
  subst hz
  exact ⟨rfl, ((h.ths (τ' := τ1) (n := 0) (fun r hr => by rw [← hE])).2).ro (fun _ _ _ => rfl) (fun _ _ => rfl)⟩
theorem j_reached {σ τ : Sg} (h : REL σ τ) {kc z1 z2 : Int} {σ1 τ1 : Sg} (hc : (fun z σ' => σ 20 0 = z ∧ σ = σ') z1 σ1) (hr : (fun z σ' => τ 220 0 = z ∧ th τ 0 = σ') z2 τ1) : z1 = z2 ∧ REL σ1 τ1 := by
  obtain ⟨rfl, rfl⟩ := hc
  obtain ⟨hz, hE⟩ := hr
  simp only [h.e1, h.e2, h.e3, h.e4, h.e5, h.e6, h.e7, h.e8, h.e9, h.e11, h.e22, h.e23, h.e27, h.e30, h.cf, h.te, h.fn, h.wt, h.fb, h.re, h.no, h.b2] at hz
  subst hz
  exact ⟨rfl, ((h.ths (τ' := τ1) (n := 0) (fun r hr => by rw [← hE])).2).ro (fun _ _ _ => rfl) (fun _ _ => rfl)⟩
theorem j_nodes {σ τ : Sg} (h : REL σ τ) {kc z1 z2 : Int} {σ1 τ1 : Sg} (hc : (fun z σ' => σ 21 0 + σ 16 0 = z ∧ σ = σ') z1 σ1) (hr : (fun z σ' => τ 221 0 = z ∧ th τ 0 = σ') z2 τ1) : z1 = z2 ∧ REL σ1 τ1 := by
  obtain ⟨rfl, rfl⟩ := hc
  obtain ⟨hz, hE⟩ := hr
  simp only [h.e1, h.e2, h.e3, h.e4, h.e5, h.e6, h.e7, h.e8, h.e9, h.e11, h.e22, h.e23, h.e27, h.e30, h.cf, h.te, h.fn, h.wt, h.fb, h.re, h.no, h.b2] at hz
  subst hz
  exact ⟨rfl, ((h.ths (τ' := τ1) (n := 0) (fun r hr => by rw [← hE])).2).ro (fun _ _ _ => rfl) (fun _ _ => rfl)⟩
theorem j_hits {σ τ : Sg} (h : REL σ τ) {kc z1 z2 : Int} {σ1 τ1 : Sg} (hc : (fun z σ' => σ 22 0 = z ∧ σ = σ') z1 σ1) (hr : (fun z σ' => τ 222 0 = z ∧ th τ 0 = σ') z2 τ1) : z1 = z2 ∧ REL σ1 τ1 := by
  obtain ⟨rfl, rfl⟩ := hc
  obtain ⟨hz, hE⟩ := hr
  simp only [h.e1, h.e2, h.e3, h.e4, h.e5, h.e6, h.e7, h.e8, h.e9, h.e11, h.e22, h.e23, h.e27, h.e30, h.cf, h.te, h.fn, h.wt, h.fb, h.re, h.no, h.b2] at hz
  subst hz
  exact ⟨rfl, ((h.ths (τ' := τ1) (n := 0) (fun r hr => by rw [← hE])).2).ro (fun _ _ _ => rfl) (fun _ _ => rfl)⟩
theorem j_cuts {σ τ : Sg} (h : REL σ τ) {kc z1 z2 : Int} {σ1 τ1 : Sg} (hc : (fun z σ' => σ 23 0 = z ∧ σ = σ') z1 σ1) (hr : (fun z σ' => τ 223 0 = z ∧ th τ 0 = σ') z2 τ1) : z1 = z2 ∧ REL σ1 τ1 := by
  obtain ⟨rfl, rfl⟩ := hc
  obtain ⟨hz, hE⟩ := hr
  simp only [h.e1, h.e2, h.e3, h.e4, h.e5, h.e6, h.e7, h.e8, h.e9, h.e11, h.e22, h.e23, h.e27, h.e30, h.cf, h.te, h.fn, h.wt, h.fb, h.re, h.no, h.b2] at hz
  subst hz
  exact ⟨rfl, ((h.ths (τ' := τ1) (n := 0) (fun r hr => by rw [← hE])).2).ro (fun _ _ _ => rfl) (fun _ _ => rfl)⟩
theorem j_slots {σ τ : Sg} (h : REL σ τ) {kc z1 z2 : Int} {σ1 τ1 : Sg} (hc : (fun z σ' => σ 9 0 = z ∧ σ = σ') z1 σ1) (hr : (fun z σ' => τ 209 0 = z ∧ th τ 0 = σ') z2 τ1) : z1 = z2 ∧ REL σ1 τ1 := by
  obtain ⟨rfl, rfl⟩ := hc
  obtain ⟨hz, hE⟩ := hr
  simp only [h.e1, h.e2, h.e3, h.e4, h.e5, h.e6, h.e7, h.e8, h.e9, h.e11, h.e22, h.e23, h.e27, h.e30, h.cf, h.te, h.fn, h.wt, h.fb, h.re, h.no, h.b2] at hz
  subst hz
  exact ⟨rfl, ((h.ths (τ' := τ1) (n := 0) (fun r hr => by rw [← hE])).2).ro (fun _ _ _ => rfl) (fun _ _ => rfl)⟩
theorem j_pages {σ τ : Sg} (h : REL σ τ) {kc z1 z2 : Int} {σ1 τ1 : Sg} (hc : (fun z σ' => σ 27 0 = z ∧ σ = σ') z1 σ1) (hr : (fun z σ' => τ 227 0 = z ∧ th τ 0 = σ') z2 τ1) : z1 = z2 ∧ REL σ1 τ1 := by
  obtain ⟨rfl, rfl⟩ := hc
  obtain ⟨hz, hE⟩ := hr
  simp only [h.e1, h.e2, h.e3, h.e4, h.e5, h.e6, h.e7, h.e8, h.e9, h.e11, h.e22, h.e23, h.e27, h.e30, h.cf, h.te, h.fn, h.wt, h.fb, h.re, h.no, h.b2] at hz
  subst hz
  exact ⟨rfl, ((h.ths (τ' := τ1) (n := 0) (fun r hr => by rw [← hE])).2).ro (fun _ _ _ => rfl) (fun _ _ => rfl)⟩
theorem j_moves {σ τ : Sg} (h : REL σ τ) {kc z1 z2 : Int} {σ1 τ1 : Sg} (hc : (fun z σ' => ((MLs (σ 1) (σ 2 0) (σ 3 0) (σ 4 0)).length : Int) = z ∧ σ = σ') z1 σ1) (hr : (fun z σ' => ((MLs (τ 201) (τ 202 0) (τ 203 0) (τ 204 0)).length : Int) = z ∧ EQT σ' (th τ 0)) z2 τ1) : z1 = z2 ∧ REL σ1 τ1 := by
  obtain ⟨rfl, rfl⟩ := hc
  obtain ⟨hz, hE⟩ := hr
  simp only [h.e1, h.e2, h.e3, h.e4, h.e5, h.e6, h.e7, h.e8, h.e9, h.e11, h.e22, h.e23, h.e27, h.e30, h.cf, h.te, h.fn, h.wt, h.fb, h.re, h.no, h.b2] at hz
  subst hz
  exact ⟨rfl, ((h.ths (τ' := τ1) (n := 0) (fun r hr => hE r (by omega))).2).ro (fun _ _ _ => rfl) (fun _ _ => rfl)⟩
theorem j_isLost {σ τ : Sg} (h : REL σ τ) {kc z1 z2 : Int} {σ1 τ1 : Sg} (hc : (fun z σ' => (if (MLs (σ 1) (σ 2 0) (σ 3 0) (σ 4 0)) = [] then 1 else 0) = z ∧ σ = σ') z1 σ1) (hr : (fun z σ' => (if MLs (τ 201) (τ 202 0) (τ 203 0) (τ 204 0) = [] then 1 else 0) = z ∧ th τ 0 = σ') z2 τ1) : z1 = z2 ∧ REL σ1 τ1 := by
  obtain ⟨rfl, rfl⟩ := hc
  obtain ⟨hz, hE⟩ := hr
  simp only [h.e1, h.e2, h.e3, h.e4, h.e5, h.e6, h.e7, h.e8, h.e9, h.e11, h.e22, h.e23, h.e27, h.e30, h.cf, h.te, h.fn, h.wt, h.fb, h.re, h.no, h.b2] at hz
  subst hz
  exact ⟨rfl, ((h.ths (τ' := τ1) (n := 0) (fun r hr => by rw [← hE])).2).ro (fun _ _ _ => rfl) (fun _ _ => rfl)⟩
theorem j_key {σ τ : Sg} (h : REL σ τ) {kc z1 z2 : Int} {σ1 τ1 : Sg} (hc : (fun z σ' => (keyS (cfg σ) (σ 1) (σ 4 0)) = z ∧ σ = σ') z1 σ1) (hr : (fun z σ' => (keyS (cfg (mw τ)) (τ 201) (τ 204 0)) = z ∧ th τ 0 = σ') z2 τ1) : z1 = z2 ∧ REL σ1 τ1 := by
  obtain ⟨rfl, rfl⟩ := hc
  obtain ⟨hz, hE⟩ := hr
  simp only [h.e1, h.e2, h.e3, h.e4, h.e5, h.e6, h.e7, h.e8, h.e9, h.e11, h.e22, h.e23, h.e27, h.e30, h.cf, h.te, h.fn, h.wt, h.fb, h.re, h.no, h.b2] at hz
  subst hz
  exact ⟨rfl, ((h.ths (τ' := τ1) (n := 0) (fun r hr => by rw [← hE])).2).ro (fun _ _ _ => rfl) (fun _ _ => rfl)⟩
theorem j_evaluation {σ τ : Sg} (h : REL σ τ) {kc z1 z2 : Int} {σ1 τ1 : Sg} (hc : (fun z σ' => evS (cfg σ) (σ 1) (σ 4 0) = z ∧ σ = σ') z1 σ1) (hr : (fun z σ' => evS (cfg (mw τ)) (τ 201) (τ 204 0) = z ∧ th τ 0 = σ') z2 τ1) : z1 = z2 ∧ REL σ1 τ1 := by
  obtain ⟨rfl, rfl⟩ := hc
  obtain ⟨hz, hE⟩ := hr
  simp only [h.e1, h.e2, h.e3, h.e4, h.e5, h.e6, h.e7, h.e8, h.e9, h.e11, h.e22, h.e23, h.e27, h.e30, h.cf, h.te, h.fn, h.wt, h.fb, h.re, h.no, h.b2] at hz
  subst hz
  exact ⟨rfl, ((h.ths (τ' := τ1) (n := 0) (fun r hr => by rw [← hE])).2).ro (fun _ _ _ => rfl) (fun _ _ => rfl)⟩
theorem j_entries {σ τ : Sg} (h : REL σ τ) {kc z1 z2 : Int} {σ1 τ1 : Sg} (hc : (fun z σ' => cntE (σ 11) 64 = z ∧ σ = σ') z1 σ1) (hr : (fun z σ' => cntE (τ 211) 64 = z ∧ th τ 0 = σ') z2 τ1) : z1 = z2 ∧ REL σ1 τ1 := by
  obtain ⟨rfl, rfl⟩ := hc
  obtain ⟨hz, hE⟩ := hr
  simp only [h.e1, h.e2, h.e3, h.e4, h.e5, h.e6, h.e7, h.e8, h.e9, h.e11, h.e22, h.e23, h.e27, h.e30, h.cf, h.te, h.fn, h.wt, h.fb, h.re, h.no, h.b2] at hz
  subst hz
  exact ⟨rfl, ((h.ths (τ' := τ1) (n := 0) (fun r hr => by rw [← hE])).2).ro (fun _ _ _ => rfl) (fun _ _ => rfl)⟩
theorem j_bestFrom {σ τ : Sg} (h : REL σ τ) {kc z1 z2 : Int} {σ1 τ1 : Sg} (hc : (fun z σ' => (if σ 19 0 = -1 then -1 else σ 19 0 / 100) = z ∧ σ = σ') z1 σ1) (hr : (fun z σ' => (if τ 231 0 = -1 then -1 else τ 231 0 / 100) = z ∧ th τ 0 = σ') z2 τ1) : z1 = z2 ∧ REL σ1 τ1 := by
  obtain ⟨rfl, rfl⟩ := hc
  obtain ⟨hz, hE⟩ := hr
  simp only [h.e1, h.e2, h.e3, h.e4, h.e5, h.e6, h.e7, h.e8, h.e9, h.e11, h.e22, h.e23, h.e27, h.e30, h.cf, h.te, h.fn, h.wt, h.fb, h.re, h.no, h.b2] at hz
  subst hz
  exact ⟨rfl, ((h.ths (τ' := τ1) (n := 0) (fun r hr => by rw [← hE])).2).ro (fun _ _ _ => rfl) (fun _ _ => rfl)⟩
theorem j_bestTo {σ τ : Sg} (h : REL σ τ) {kc z1 z2 : Int} {σ1 τ1 : Sg} (hc : (fun z σ' => (if σ 19 0 = -1 then -1 else σ 19 0 % 100) = z ∧ σ = σ') z1 σ1) (hr : (fun z σ' => (if τ 231 0 = -1 then -1 else τ 231 0 % 100) = z ∧ th τ 0 = σ') z2 τ1) : z1 = z2 ∧ REL σ1 τ1 := by
  obtain ⟨rfl, rfl⟩ := hc
  obtain ⟨hz, hE⟩ := hr
  simp only [h.e1, h.e2, h.e3, h.e4, h.e5, h.e6, h.e7, h.e8, h.e9, h.e11, h.e22, h.e23, h.e27, h.e30, h.cf, h.te, h.fn, h.wt, h.fb, h.re, h.no, h.b2] at hz
  subst hz
  exact ⟨rfl, ((h.ths (τ' := τ1) (n := 0) (fun r hr => by rw [← hE])).2).ro (fun _ _ _ => rfl) (fun _ _ => rfl)⟩
theorem j_killer {σ τ : Sg} (h : REL σ τ) {d o : Int} {kc z1 z2 : Int} {σ1 τ1 : Sg} (ho : o = 0 ∨ o = 1) (hc : (fun z σ' => kilF σ d o = z ∧ σ = σ') z1 σ1) (hr : (fun z σ' => (if (1 ≤ d ∧ d ≤ 4) ∧ 0 < τ 220 0 then kilF (mw τ) d (if o = 0 then 0 else 1) else -1) = z ∧ th τ 0 = σ') z2 τ1) : z1 = z2 ∧ REL σ1 τ1 := by
  obtain ⟨rfl, rfl⟩ := hc
  obtain ⟨hz, hE⟩ := hr
  rw [kil_eq h ho] at hz
  subst hz
  exact ⟨rfl, ((h.ths (τ' := τ1) (n := 0) (fun r hr => by rw [← hE])).2).ro (fun _ _ _ => rfl) (fun _ _ => rfl)⟩
theorem j_known {σ τ : Sg} (h : REL σ τ) {kc z1 z2 : Int} {σ1 τ1 : Sg} (hc : (fun z σ' => knF σ = z ∧ σ = σ') z1 σ1) (hr : (fun z σ' => (if fndT (mw τ) (keyS (cfg (mw τ)) (τ 201) (τ 204 0)) = -1 then 0 else τ 211 (fndT (mw τ) (keyS (cfg (mw τ)) (τ 201) (τ 204 0)))) = z ∧ th τ 0 = σ') z2 τ1) : z1 = z2 ∧ REL σ1 τ1 := by
  obtain ⟨rfl, rfl⟩ := hc
  obtain ⟨hz, hE⟩ := hr
  simp only [h.e1, h.e2, h.e3, h.e4, h.e5, h.e6, h.e7, h.e8, h.e9, h.e11, h.e22, h.e23, h.e27, h.e30, h.cf, h.te, h.fn, h.wt, h.fb, h.re, h.no, h.b2] at hz
  subst hz
  exact ⟨rfl, ((h.ths (τ' := τ1) (n := 0) (fun r hr => by rw [← hE])).2).ro (fun _ _ _ => rfl) (fun _ _ => rfl)⟩
theorem j_told {σ τ : Sg} (h : REL σ τ) {kc z1 z2 : Int} {σ1 τ1 : Sg} (hc : (fun z σ' => tlF σ = z ∧ σ = σ') z1 σ1) (hr : (fun z σ' => chF (wtF (mw τ) (keyS (cfg (mw τ)) (τ 201) (τ 204 0))) (MLs (τ 201) (τ 202 0) (τ 203 0) (τ 204 0)) 0 (-1) 0 = z ∧ EQT σ' (th τ 0)) z2 τ1) : z1 = z2 ∧ REL σ1 τ1 := by
  obtain ⟨rfl, rfl⟩ := hc
  obtain ⟨hz, hE⟩ := hr
  simp only [h.e1, h.e2, h.e3, h.e4, h.e5, h.e6, h.e7, h.e8, h.e9, h.e11, h.e22, h.e23, h.e27, h.e30, h.cf, h.te, h.fn, h.wt, h.fb, h.re, h.no, h.b2] at hz
  subst hz
  exact ⟨rfl, ((h.ths (τ' := τ1) (n := 0) (fun r hr => hE r (by omega))).2).ro (fun _ _ _ => rfl) (fun _ _ => rfl)⟩
theorem j_effort {σ τ : Sg} (h : REL σ τ) {z1 z2 : UInt64} {σ1 τ1 : Sg} (hc : (fun z σ' => effD (σ 21 0 + σ 16 0) (σ 23 0) = z ∧ σ = σ') z1 σ1) (hr : (fun z σ' => effD (τ 221 0) (τ 223 0) = z ∧ th τ 0 = σ') z2 τ1) : z1 = z2 ∧ REL σ1 τ1 := by
  obtain ⟨rfl, rfl⟩ := hc
  obtain ⟨hz, hE⟩ := hr
  simp only [h.e1, h.e2, h.e3, h.e4, h.e5, h.e6, h.e7, h.e8, h.e9, h.e11, h.e22, h.e23, h.e27, h.e30, h.cf, h.te, h.fn, h.wt, h.fb, h.re, h.no, h.b2] at hz
  subst hz
  exact ⟨rfl, ((h.ths (τ' := τ1) (n := 0) (fun r hr => by rw [← hE])).2).ro (fun _ _ _ => rfl) (fun _ _ => rfl)⟩
theorem j_digest {σ τ : Sg} (h : REL σ τ) {kc z1 z2 : Int} {σ1 τ1 : Sg} (hc : (fun z σ' => digF σ (σ 20 0) (σ 21 0 + σ 16 0) (σ 19 0) = z ∧ ∀ r : Nat, r < 46 → r ≠ 15 → σ' r = σ r) z1 σ1) (hr : (fun z σ' => digF (mw τ) (τ 220 0) (τ 221 0) (τ 231 0) = z ∧ EQD σ' (th τ 0)) z2 τ1) : z1 = z2 ∧ REL σ1 τ1 := by
  obtain ⟨rfl, hf⟩ := hc
  obtain ⟨hz, hE⟩ := hr
  rw [h.dg] at hz
  subst hz
  exact ⟨rfl, h.ro (fun r h1 h2 => hf r h1 h2) (fun r hr => (hE r (by omega) (by omega)).trans (th_o (by omega)))⟩
theorem j_at {σ τ : Sg} (h : REL σ τ) {n : Int} {kc z1 z2 : Int} {σ1 τ1 : Sg} (hc : wpost (fun z σ' => (0 ≤ n ∧ n < σ 2 0 * σ 3 0) ∧ σ 1 n = z ∧ σ = σ') (fun E τ => σ = τ ∧ (E = "java/lang/IndexOutOfBoundsException" ∧ ¬ (0 ≤ n ∧ n < σ 2 0 * σ 3 0))) cd1 kc σ1) (hr : (fun z σ' => (if 0 ≤ n ∧ n < τ 202 0 * τ 203 0 then τ 201 n else 0) = z ∧ (if 0 ≤ n ∧ n < τ 202 0 * τ 203 0 then th τ 0 else th τ 1) = σ') z2 τ1) : τ1 232 0 = kc ∧ (kc = 0 → σ1 270 0 = wI z2) ∧ REL σ1 τ1 := by
  refine JT hc cd1_ne (fun z σ2 hp => ?_) (fun E σ2 hp => ?_)
  · obtain ⟨hd, rfl, rfl⟩ := hp
    simp only [h.e1, h.e2, h.e3, h.e4, h.e5, h.e6, h.e7, h.e8, h.e9, h.e11, h.e22, h.e23, h.e27, h.e30, h.cf, h.te, h.fn, h.wt, h.fb, h.re, h.no, h.b2, if_pos hd] at hr
    obtain ⟨rfl, hE⟩ := hr
    have q := h.ths (τ' := τ1) (n := 0) (fun r hr => by rw [← hE])
    exact ⟨rfl, q.1, q.2.ro (fun _ _ _ => rfl) (fun _ _ => rfl)⟩
  · obtain ⟨rfl, rfl, hd⟩ := hp
    simp only [h.e1, h.e2, h.e3, h.e4, h.e5, h.e6, h.e7, h.e8, h.e9, h.e11, h.e22, h.e23, h.e27, h.e30, h.cf, h.te, h.fn, h.wt, h.fb, h.re, h.no, h.b2, if_neg hd] at hr
    obtain ⟨rfl, hE⟩ := hr
    exact h.ths (τ' := τ1) (n := 1) (fun r hr => by rw [← hE])
theorem j_from {σ τ : Sg} (h : REL σ τ) {i : Int} {kc z1 z2 : Int} {σ1 τ1 : Sg} (hc : wpost (fun z σ' => (0 ≤ i ∧ i < ((MLs (σ 1) (σ 2 0) (σ 3 0) (σ 4 0)).length : Int)) ∧ ((MLs (σ 1) (σ 2 0) (σ 3 0) (σ 4 0)).getD i.toNat (-1)) / 100 = z ∧ σ = σ') (fun E τ => σ = τ ∧ (E = "java/lang/IndexOutOfBoundsException" ∧ ¬ (0 ≤ i ∧ i < ((MLs (σ 1) (σ 2 0) (σ 3 0) (σ 4 0)).length : Int)))) cd1 kc σ1) (hr : (fun z σ' => (if 0 ≤ i ∧ i < ((MLs (τ 201) (τ 202 0) (τ 203 0) (τ 204 0)).length : Int) then ((MLs (τ 201) (τ 202 0) (τ 203 0) (τ 204 0)).getD i.toNat (-1)) / 100 else 0) = z ∧ EQT σ' (if 0 ≤ i ∧ i < ((MLs (τ 201) (τ 202 0) (τ 203 0) (τ 204 0)).length : Int) then th τ 0 else th τ 1)) z2 τ1) : τ1 232 0 = kc ∧ (kc = 0 → σ1 270 0 = wI z2) ∧ REL σ1 τ1 := by
  refine JT hc cd1_ne (fun z σ2 hp => ?_) (fun E σ2 hp => ?_)
  · obtain ⟨hd, rfl, rfl⟩ := hp
    simp only [h.e1, h.e2, h.e3, h.e4, h.e5, h.e6, h.e7, h.e8, h.e9, h.e11, h.e22, h.e23, h.e27, h.e30, h.cf, h.te, h.fn, h.wt, h.fb, h.re, h.no, h.b2, if_pos hd] at hr
    obtain ⟨rfl, hE⟩ := hr
    have q := h.ths (τ' := τ1) (n := 0) (fun r hr => hE r (by omega))
    exact ⟨rfl, q.1, q.2.ro (fun _ _ _ => rfl) (fun _ _ => rfl)⟩
  · obtain ⟨rfl, rfl, hd⟩ := hp
    simp only [h.e1, h.e2, h.e3, h.e4, h.e5, h.e6, h.e7, h.e8, h.e9, h.e11, h.e22, h.e23, h.e27, h.e30, h.cf, h.te, h.fn, h.wt, h.fb, h.re, h.no, h.b2, if_neg hd] at hr
    obtain ⟨rfl, hE⟩ := hr
    exact h.ths (τ' := τ1) (n := 1) (fun r hr => hE r (by omega))
theorem j_to {σ τ : Sg} (h : REL σ τ) {i : Int} {kc z1 z2 : Int} {σ1 τ1 : Sg} (hc : wpost (fun z σ' => (0 ≤ i ∧ i < ((MLs (σ 1) (σ 2 0) (σ 3 0) (σ 4 0)).length : Int)) ∧ ((MLs (σ 1) (σ 2 0) (σ 3 0) (σ 4 0)).getD i.toNat (-1)) % 100 = z ∧ σ = σ') (fun E τ => σ = τ ∧ (E = "java/lang/IndexOutOfBoundsException" ∧ ¬ (0 ≤ i ∧ i < ((MLs (σ 1) (σ 2 0) (σ 3 0) (σ 4 0)).length : Int)))) cd1 kc σ1) (hr : (fun z σ' => (if 0 ≤ i ∧ i < ((MLs (τ 201) (τ 202 0) (τ 203 0) (τ 204 0)).length : Int) then ((MLs (τ 201) (τ 202 0) (τ 203 0) (τ 204 0)).getD i.toNat (-1)) % 100 else 0) = z ∧ EQT σ' (if 0 ≤ i ∧ i < ((MLs (τ 201) (τ 202 0) (τ 203 0) (τ 204 0)).length : Int) then th τ 0 else th τ 1)) z2 τ1) : τ1 232 0 = kc ∧ (kc = 0 → σ1 270 0 = wI z2) ∧ REL σ1 τ1 := by
  refine JT hc cd1_ne (fun z σ2 hp => ?_) (fun E σ2 hp => ?_)
  · obtain ⟨hd, rfl, rfl⟩ := hp
    simp only [h.e1, h.e2, h.e3, h.e4, h.e5, h.e6, h.e7, h.e8, h.e9, h.e11, h.e22, h.e23, h.e27, h.e30, h.cf, h.te, h.fn, h.wt, h.fb, h.re, h.no, h.b2, if_pos hd] at hr
    obtain ⟨rfl, hE⟩ := hr
    have q := h.ths (τ' := τ1) (n := 0) (fun r hr => hE r (by omega))
    exact ⟨rfl, q.1, q.2.ro (fun _ _ _ => rfl) (fun _ _ => rfl)⟩
  · obtain ⟨rfl, rfl, hd⟩ := hp
    simp only [h.e1, h.e2, h.e3, h.e4, h.e5, h.e6, h.e7, h.e8, h.e9, h.e11, h.e22, h.e23, h.e27, h.e30, h.cf, h.te, h.fn, h.wt, h.fb, h.re, h.no, h.b2, if_neg hd] at hr
    obtain ⟨rfl, hE⟩ := hr
    exact h.ths (τ' := τ1) (n := 1) (fun r hr => hE r (by omega))
theorem j_ways {σ τ : Sg} (h : REL σ τ) {d : Int} {kc z1 z2 : Int} {σ1 τ1 : Sg} (hc : wpost (fun z σ' => (0 ≤ d ∧ d ≤ 3) ∧ waysF (cfg σ) d.toNat (σ 1) (σ 4 0) = z ∧ (∀ r : Nat, r < 46 → r ≠ 15 → σ' r = σ r)) (fun E τ => σ = τ ∧ (E = "java/lang/IllegalArgumentException" ∧ ¬ (0 ≤ d ∧ d ≤ 3))) cd1 kc σ1) (hr : (fun z σ' => (if 0 ≤ d ∧ d ≤ 3 then waysF (cfg (mw τ)) d.toNat (τ 201) (τ 204 0) else 0) = z ∧ EQT σ' (if 0 ≤ d ∧ d ≤ 3 then th τ 0 else th τ 1)) z2 τ1) : τ1 232 0 = kc ∧ (kc = 0 → σ1 270 0 = wI z2) ∧ REL σ1 τ1 := by
  refine JT hc cd1_ne (fun z σ2 hp => ?_) (fun E σ2 hp => ?_)
  · obtain ⟨hd, rfl, hf⟩ := hp
    simp only [h.e1, h.e2, h.e3, h.e4, h.e5, h.e6, h.e7, h.e8, h.e9, h.e11, h.e22, h.e23, h.e27, h.e30, h.cf, h.te, h.fn, h.wt, h.fb, h.re, h.no, h.b2, if_pos hd] at hr
    obtain ⟨rfl, hE⟩ := hr
    have q := h.ths (τ' := τ1) (n := 0) (fun r hr => hE r (by omega))
    exact ⟨rfl, q.1, q.2.ro (fun r h1 h2 => hf r h1 h2) (fun _ _ => rfl)⟩
  · obtain ⟨rfl, rfl, hd⟩ := hp
    simp only [h.e1, h.e2, h.e3, h.e4, h.e5, h.e6, h.e7, h.e8, h.e9, h.e11, h.e22, h.e23, h.e27, h.e30, h.cf, h.te, h.fn, h.wt, h.fb, h.re, h.no, h.b2, if_neg hd] at hr
    obtain ⟨rfl, hE⟩ := hr
    exact h.ths (τ' := τ1) (n := 1) (fun r hr => hE r (by omega))
theorem j_value {σ τ : Sg} (h : REL σ τ) {d : Int} {kc z1 z2 : Int} {σ1 τ1 : Sg} (hc : wpost (fun z σ' => (0 ≤ d ∧ d ≤ 3) ∧ vv (cfg σ) d.toNat (σ 1) (σ 4 0) = z ∧ (∀ r : Nat, r < 46 → r ≠ 15 → σ' r = σ r)) (fun E τ => σ = τ ∧ (E = "java/lang/IllegalArgumentException" ∧ ¬ (0 ≤ d ∧ d ≤ 3))) cd1 kc σ1) (hr : (fun z σ' => (if 0 ≤ d ∧ d ≤ 3 then vv (cfg (mw τ)) d.toNat (τ 201) (τ 204 0) else 0) = z ∧ EQT σ' (if 0 ≤ d ∧ d ≤ 3 then th τ 0 else th τ 1)) z2 τ1) : τ1 232 0 = kc ∧ (kc = 0 → σ1 270 0 = wI z2) ∧ REL σ1 τ1 := by
  refine JT hc cd1_ne (fun z σ2 hp => ?_) (fun E σ2 hp => ?_)
  · obtain ⟨hd, rfl, hf⟩ := hp
    simp only [h.e1, h.e2, h.e3, h.e4, h.e5, h.e6, h.e7, h.e8, h.e9, h.e11, h.e22, h.e23, h.e27, h.e30, h.cf, h.te, h.fn, h.wt, h.fb, h.re, h.no, h.b2, if_pos hd] at hr
    obtain ⟨rfl, hE⟩ := hr
    have q := h.ths (τ' := τ1) (n := 0) (fun r hr => hE r (by omega))
    exact ⟨rfl, q.1, q.2.ro (fun r h1 h2 => hf r h1 h2) (fun _ _ => rfl)⟩
  · obtain ⟨rfl, rfl, hd⟩ := hp
    simp only [h.e1, h.e2, h.e3, h.e4, h.e5, h.e6, h.e7, h.e8, h.e9, h.e11, h.e22, h.e23, h.e27, h.e30, h.cf, h.te, h.fn, h.wt, h.fb, h.re, h.no, h.b2, if_neg hd] at hr
    obtain ⟨rfl, hE⟩ := hr
    exact h.ths (τ' := τ1) (n := 1) (fun r hr => hE r (by omega))
theorem j_takes {σ τ : Sg} (h : REL σ τ) {i : Int} {kc z1 z2 : Int} {σ1 τ1 : Sg} (hc : wpost (fun z σ' => (0 ≤ i ∧ i < ((MLs (σ 1) (σ 2 0) (σ 3 0) (σ 4 0)).length : Int)) ∧ (if σ 1 (((MLs (σ 1) (σ 2 0) (σ 3 0) (σ 4 0)).getD i.toNat (-1)) % 100) ≠ 0 then 1 else 0) = z ∧ σ = σ') (fun E τ => σ = τ ∧ (E = "java/lang/IndexOutOfBoundsException" ∧ ¬ (0 ≤ i ∧ i < ((MLs (σ 1) (σ 2 0) (σ 3 0) (σ 4 0)).length : Int)))) cd1 kc σ1) (hr : (fun z σ' => (if (0 ≤ i ∧ i < ((MLs (τ 201) (τ 202 0) (τ 203 0) (τ 204 0)).length : Int)) ∧ τ 201 (((MLs (τ 201) (τ 202 0) (τ 203 0) (τ 204 0)).getD i.toNat (-1)) % 100) ≠ 0 then 1 else 0) = z ∧ EQT σ' (if 0 ≤ i ∧ i < ((MLs (τ 201) (τ 202 0) (τ 203 0) (τ 204 0)).length : Int) then th τ 0 else th τ 1)) z2 τ1) : τ1 232 0 = kc ∧ (kc = 0 → σ1 270 0 = wI z2) ∧ REL σ1 τ1 := by
  refine JT hc cd1_ne (fun z σ2 hp => ?_) (fun E σ2 hp => ?_)
  · obtain ⟨hd, rfl, rfl⟩ := hp
    simp only [h.e1, h.e2, h.e3, h.e4, h.e5, h.e6, h.e7, h.e8, h.e9, h.e11, h.e22, h.e23, h.e27, h.e30, h.cf, h.te, h.fn, h.wt, h.fb, h.re, h.no, h.b2, hd.1, hd.2, and_self, true_and, if_true] at hr
    obtain ⟨rfl, hE⟩ := hr
    have q := h.ths (τ' := τ1) (n := 0) (fun r hr => hE r (by omega))
    exact ⟨rfl, q.1, q.2.ro (fun _ _ _ => rfl) (fun _ _ => rfl)⟩
  · obtain ⟨rfl, rfl, hd⟩ := hp
    simp only [h.e1, h.e2, h.e3, h.e4, h.e5, h.e6, h.e7, h.e8, h.e9, h.e11, h.e22, h.e23, h.e27, h.e30, h.cf, h.te, h.fn, h.wt, h.fb, h.re, h.no, h.b2, if_neg hd, if_neg (fun q : _ ∧ _ => hd q.1)] at hr
    obtain ⟨rfl, hE⟩ := hr
    exact h.ths (τ' := τ1) (n := 1) (fun r hr => hE r (by omega))
theorem j_valueOf {σ τ : Sg} (h : REL σ τ) {i d : Int} {kc z1 z2 : Int} {σ1 τ1 : Sg} (hc : wpost (fun z σ' => ((0 ≤ i ∧ i < ((MLs (σ 1) (σ 2 0) (σ 3 0) (σ 4 0)).length : Int)) ∧ (1 ≤ d ∧ d ≤ 3)) ∧ -(vv (cfg σ) (d - 1).toNat (mvF (σ 1) ((MLs (σ 1) (σ 2 0) (σ 3 0) (σ 4 0)).getD i.toNat (-1))) (1 - σ 4 0)) = z ∧ (∀ r : Nat, r < 46 → r ≠ 15 → σ' r = σ r)) (fun E τ => σ = τ ∧ ((E = "java/lang/IndexOutOfBoundsException" ∧ ¬ (0 ≤ i ∧ i < ((MLs (σ 1) (σ 2 0) (σ 3 0) (σ 4 0)).length : Int))) ∨ (E = "java/lang/IllegalArgumentException" ∧ (0 ≤ i ∧ i < ((MLs (σ 1) (σ 2 0) (σ 3 0) (σ 4 0)).length : Int)) ∧ ¬ (1 ≤ d ∧ d ≤ 3)))) cdP kc σ1) (hr : (fun z σ' => (if (0 ≤ i ∧ i < ((MLs (τ 201) (τ 202 0) (τ 203 0) (τ 204 0)).length : Int)) ∧ (1 ≤ d ∧ d ≤ 3) then -(vv (cfg (mw τ)) (d - 1).toNat (mvF (τ 201) ((MLs (τ 201) (τ 202 0) (τ 203 0) (τ 204 0)).getD i.toNat (-1))) (1 - τ 204 0)) else 0) = z ∧ EQT σ' (if 0 ≤ i ∧ i < ((MLs (τ 201) (τ 202 0) (τ 203 0) (τ 204 0)).length : Int) then (if 1 ≤ d ∧ d ≤ 3 then th τ 0 else th τ 2) else th τ 1)) z2 τ1) : τ1 232 0 = kc ∧ (kc = 0 → σ1 270 0 = wI z2) ∧ REL σ1 τ1 := by
  refine JT hc cdP_ne (fun z σ2 hp => ?_) (fun E σ2 hp => ?_)
  · obtain ⟨⟨hd, he⟩, rfl, hf⟩ := hp
    simp only [h.e1, h.e2, h.e3, h.e4, h.e5, h.e6, h.e7, h.e8, h.e9, h.e11, h.e22, h.e23, h.e27, h.e30, h.cf, h.te, h.fn, h.wt, h.fb, h.re, h.no, h.b2, if_pos hd, if_pos he, if_pos (And.intro hd he)] at hr
    obtain ⟨rfl, hE⟩ := hr
    have q := h.ths (τ' := τ1) (n := 0) (fun r hr => hE r (by omega))
    exact ⟨rfl, q.1, q.2.ro (fun r h1 h2 => hf r h1 h2) (fun _ _ => rfl)⟩
  · obtain ⟨rfl, hp⟩ := hp
    rcases hp with ⟨rfl, hd⟩ | ⟨rfl, hd, he⟩
    · simp only [h.e1, h.e2, h.e3, h.e4, h.e5, h.e6, h.e7, h.e8, h.e9, h.e11, h.e22, h.e23, h.e27, h.e30, h.cf, h.te, h.fn, h.wt, h.fb, h.re, h.no, h.b2, if_neg hd, if_neg (fun q : _ ∧ _ => hd q.1)] at hr
      obtain ⟨rfl, hE⟩ := hr
      exact h.ths (τ' := τ1) (n := 1) (fun r hr => hE r (by omega))
    · simp only [h.e1, h.e2, h.e3, h.e4, h.e5, h.e6, h.e7, h.e8, h.e9, h.e11, h.e22, h.e23, h.e27, h.e30, h.cf, h.te, h.fn, h.wt, h.fb, h.re, h.no, h.b2, if_pos hd, if_neg he, if_neg (fun q : _ ∧ _ => he q.2)] at hr
      obtain ⟨rfl, hE⟩ := hr
      exact h.ths (τ' := τ1) (n := 2) (fun r hr => hE r (by omega))
theorem j_ofSlot {σ τ : Sg} (h : REL σ τ) {s k : Int} {kc z1 z2 : Int} {σ1 τ1 : Sg} (hc : wpost (fun z σ' => ((0 ≤ s ∧ s < σ 9 0) ∧ (0 ≤ k ∧ k ≤ 3)) ∧ tellF σ s k = z ∧ σ = σ') (fun E τ => σ = τ ∧ ((E = "java/lang/IndexOutOfBoundsException" ∧ ¬ (0 ≤ s ∧ s < σ 9 0)) ∨ (E = "java/lang/IllegalArgumentException" ∧ (0 ≤ s ∧ s < σ 9 0) ∧ ¬ (0 ≤ k ∧ k ≤ 3)))) cdP kc σ1) (hr : (fun z σ' => (if (0 ≤ s ∧ s ≤ τ 209 0 - 1) ∧ (0 ≤ k ∧ k ≤ 3) then tellF (mw τ) s k else 0) = z ∧ (if 0 ≤ s ∧ s ≤ τ 209 0 - 1 then (if 0 ≤ k ∧ k ≤ 3 then th τ 0 else th τ 2) else th τ 1) = σ') z2 τ1) : τ1 232 0 = kc ∧ (kc = 0 → σ1 270 0 = wI z2) ∧ REL σ1 τ1 := by
  refine JT hc cdP_ne (fun z σ2 hp => ?_) (fun E σ2 hp => ?_)
  · obtain ⟨⟨hd, he⟩, rfl, rfl⟩ := hp
    have hd2 : 0 ≤ s ∧ s ≤ σ 9 0 - 1 := by omega
    simp only [h.e1, h.e2, h.e3, h.e4, h.e5, h.e6, h.e7, h.e8, h.e9, h.e11, h.e22, h.e23, h.e27, h.e30, h.cf, h.te, h.fn, h.wt, h.fb, h.re, h.no, h.b2, if_pos hd2, if_pos he, if_pos (And.intro hd2 he)] at hr
    obtain ⟨rfl, hE⟩ := hr
    have q := h.ths (τ' := τ1) (n := 0) (fun r hr => by rw [← hE])
    exact ⟨rfl, q.1, q.2.ro (fun _ _ _ => rfl) (fun _ _ => rfl)⟩
  · obtain ⟨rfl, hp⟩ := hp
    rcases hp with ⟨rfl, hd⟩ | ⟨rfl, hd, he⟩
    · have hd2 : ¬ (0 ≤ s ∧ s ≤ σ 9 0 - 1) := by omega
      simp only [h.e1, h.e2, h.e3, h.e4, h.e5, h.e6, h.e7, h.e8, h.e9, h.e11, h.e22, h.e23, h.e27, h.e30, h.cf, h.te, h.fn, h.wt, h.fb, h.re, h.no, h.b2, if_neg hd2, if_neg (fun q : _ ∧ _ => hd2 q.1)] at hr
      obtain ⟨rfl, hE⟩ := hr
      exact h.ths (τ' := τ1) (n := 1) (fun r hr => by rw [← hE])
    · have hd2 : 0 ≤ s ∧ s ≤ σ 9 0 - 1 := by omega
      simp only [h.e1, h.e2, h.e3, h.e4, h.e5, h.e6, h.e7, h.e8, h.e9, h.e11, h.e22, h.e23, h.e27, h.e30, h.cf, h.te, h.fn, h.wt, h.fb, h.re, h.no, h.b2, if_pos hd2, if_neg he, if_neg (fun q : _ ∧ _ => he q.2)] at hr
      obtain ⟨rfl, hE⟩ := hr
      exact h.ths (τ' := τ1) (n := 2) (fun r hr => by rw [← hE])
