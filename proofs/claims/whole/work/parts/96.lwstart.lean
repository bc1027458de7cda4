/-! the law from its entry -/
theorem st_ad (ad : Nat → Nat) (G : Nat → Nat) (σ : Sg) (q : Nat) : ∀ k : Nat, k < 81 → cell (va_up ad 240 q) G σ k = cell ad G σ k
  | 0, _ => rfl
  | 1, _ => rfl
  | 2, _ => rfl
  | 3, _ => rfl
  | 4, _ => rfl
  | 5, _ => rfl
  | 6, _ => rfl
  | 7, _ => rfl
  | 8, _ => rfl
  | 9, _ => rfl
  | 10, _ => rfl
  | 11, _ => rfl
  | 12, _ => rfl
  | 13, _ => rfl
  | 14, _ => rfl
  | 15, _ => rfl
  | 16, _ => rfl
  | 17, _ => rfl
  | 18, _ => rfl
  | 19, _ => rfl
  | 20, _ => rfl
  | 21, _ => rfl
  | 22, _ => rfl
  | 23, _ => rfl
  | 24, _ => rfl
  | 25, _ => by
    rw [cx_25, cx_25]
    refine congrArg (fun f : Nat → Option Nat => (Sum.inl (G 3, _, .inr (.inr (.inr (.inr f)))) : va_E)) (funext fun i => ?_)
    unfold va_up
    split
    · omega
    · rfl
  | 26, _ => rfl
  | 27, _ => rfl
  | 28, _ => rfl
  | 29, _ => rfl
  | 30, _ => rfl
  | 31, _ => rfl
  | 32, _ => rfl
  | 33, _ => rfl
  | 34, _ => rfl
  | 35, _ => rfl
  | 36, _ => rfl
  | 37, _ => rfl
  | 38, _ => rfl
  | 39, _ => rfl
  | 40, _ => rfl
  | 41, _ => rfl
  | 42, _ => rfl
  | 43, _ => rfl
  | 44, _ => rfl
  | 45, _ => rfl
  | 46, _ => rfl
  | 47, _ => rfl
  | 48, _ => rfl
  | 49, _ => rfl
  | 50, _ => rfl
  | 51, _ => rfl
  | 52, _ => rfl
  | 53, _ => rfl
  | 54, _ => rfl
  | 55, _ => rfl
  | 56, _ => rfl
  | 57, _ => rfl
  | 58, _ => rfl
  | 59, _ => rfl
  | 60, _ => rfl
  | 61, _ => rfl
  | 62, _ => rfl
  | 63, _ => rfl
  | 64, _ => rfl
  | 65, _ => rfl
  | 66, _ => rfl
  | 67, _ => rfl
  | 68, _ => rfl
  | 69, _ => rfl
  | 70, _ => rfl
  | 71, _ => rfl
  | 72, _ => rfl
  | 73, _ => rfl
  | 74, _ => rfl
  | 75, _ => rfl
  | 76, _ => rfl
  | 77, _ => rfl
  | 78, _ => rfl
  | 79, _ => rfl
  | 80, _ => rfl
  | k + 81, h => absurd h (by omega)
theorem st_world {D : va_G} {A : Nat → Prop} {H0 H : Heap} {locs : List Loc} {G : Nat → Nat} {ad ad2 : Nat → Nat} {σ τ : Sg} {q : Nat} (h : XR D A H0 H locs (WG ad G IC σ ++ WG ad2 G IM τ ++ [zJ G q 1])) : XE D (va_up ad 240 q) G IL A H0 H locs (upr σ 270 (fun _ => 0)) (WG ad2 G IM τ) := by
  obtain ⟨hP, hD, hS⟩ := h
  have e1 : WG (va_up ad 240 q) G IC (upr σ 270 (fun _ => 0)) = WG ad G IC σ := by
    unfold WG
    refine List.map_congr_left (fun k hk => ?_)
    have h81 := IC_mem.mp hk
    have a1 : va_up ad 240 q k = ad k := if_neg (by omega)
    rw [a1, cell_dep (va_up ad 240 q) G (σ := σ) (σ1 := upr σ 270 (fun _ => 0)) k (fun r hr => upr_ne _ _ (fun e => ?_)) (fun r i hr => upr_ne _ _ (fun e => ?_) ▸ rfl) (Or.inl h81), st_ad ad G σ q k h81]
    · subst e
      rcases hr with hr | hr
      · rw [own_270] at hr; omega
      · omega
    · subst e
      unfold dq at hr
      omega
  have e2 : WG (va_up ad 240 q) G IL (upr σ 270 (fun _ => 0)) = WG ad G IC σ ++ [zJ G q 1] := by
    have e3 : WG (va_up ad 240 q) G IL (upr σ 270 (fun _ => 0)) = WG (va_up ad 240 q) G IC (upr σ 270 (fun _ => 0)) ++ [zJ G q 1] := by
      unfold IL WG
      rw [List.map_append]
      rfl
    rw [e3, e1]
  unfold XE
  rw [e2]
  rw [List.append_assoc] at hP hD
  refine ⟨?_, ?_, hS, IL_vld⟩
  · rw [List.append_assoc]
    exact hP.left.app (hP.right.right.app hP.right.left)
  · rw [List.append_assoc]
    exact hD.sw
