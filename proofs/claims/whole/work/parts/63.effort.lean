/-! doubles: a Jvm.FP.Core.quotient of two ints, the second not 0, is a number -/
theorem n64_of (N : Nat) (h : N % 9223372036854775808 ≤ 9218868437227405312) : vf_n64 (UInt64.ofNat N) := by
  unfold vf_n64
  rw [UInt64.le_iff_toNat_le, UInt64.toNat_and]
  show (N % 18446744073709551616) &&& 9223372036854775807 ≤ 9218868437227405312
  have e : (N % 18446744073709551616) &&& 9223372036854775807 = (N % 18446744073709551616) % 2 ^ 63 := Nat.and_two_pow_sub_one_eq_mod (N % 18446744073709551616) 63
  rw [e]
  omega
theorem asm_eq (s : Bool) (E T : Nat) : Jvm.FP.Core.assemble Jvm.FP.Core.b64 s E T = (s.toNat * 2048 + E) * 4503599627370496 + T := rfl
theorem enc_n (s : Bool) {c : Nat} {q : Int} (hc : c < 9007199254740992) (hq : q ≤ 971) : vf_n64 (UInt64.ofNat (Jvm.FP.Core.encode Jvm.FP.Core.b64 (.fin s c q))) := by
  unfold Jvm.FP.Core.encode
  have e1 : Jvm.FP.Core.b64.tails = 4503599627370496 := rfl
  have e2 : Jvm.FP.Core.b64.qmin = -1074 := rfl
  have hb : s.toNat ≤ 1 := by cases s <;> decide
  dsimp only
  rw [e1, e2]
  split
  · refine n64_of _ ?_
    rw [asm_eq]
    omega
  · refine n64_of _ ?_
    rw [asm_eq]
    omega
theorem enc_i (s : Bool) : vf_n64 (UInt64.ofNat (Jvm.FP.Core.encode Jvm.FP.Core.b64 (.inf s))) := by
  refine n64_of _ ?_
  cases s <;> decide
theorem rr_n (s : Bool) (num den : Nat) (e : Int) : vf_n64 (UInt64.ofNat (Jvm.FP.Core.encode Jvm.FP.Core.b64 (Jvm.FP.Core.roundRatio Jvm.FP.Core.b64 s num den e))) := by
  have key : ∀ (c : Nat) (q : Int), c < 9007199254740992 → vf_n64 (UInt64.ofNat (Jvm.FP.Core.encode Jvm.FP.Core.b64 (Jvm.FP.Core.bound Jvm.FP.Core.b64 s c q))) := by
    intro c q hc
    unfold Jvm.FP.Core.bound
    have e1 : Jvm.FP.Core.b64.qmax = 971 := rfl
    rw [e1]
    split
    · exact enc_n s hc (by assumption)
    · exact enc_i s
  unfold Jvm.FP.Core.roundRatio
  split
  · exact enc_n s (by decide) (by decide)
  · unfold Jvm.FP.Core.roundAt Jvm.FP.Core.settle
    have e1 : 2 ^ Jvm.FP.Core.b64.p = 9007199254740992 := rfl
    rw [e1]
    split
    · exact key _ _ (by assumption)
    · exact key _ _ (by decide)
theorem tails_eq : Jvm.FP.Core.b64.tails = 4503599627370496 := rfl
theorem exps_eq : Jvm.FP.Core.b64.exps = 2048 := rfl
theorem dec_ok (s : Bool) (E T : Nat) (hE : E < 2047) (hT : T < 4503599627370496) : ∃ (s2 : Bool) (c : Nat) (q : Int), Jvm.FP.Core.decode Jvm.FP.Core.b64 (UInt64.ofNat (Jvm.FP.Core.assemble Jvm.FP.Core.b64 s E T)).toNat = .fin s2 c q ∧ (0 < E → c ≠ 0) := by
  have hb : s.toNat ≤ 1 := by cases s <;> decide
  obtain ⟨N, hN⟩ : ∃ N, N = (UInt64.ofNat (Jvm.FP.Core.assemble Jvm.FP.Core.b64 s E T)).toNat := ⟨_, rfl⟩
  rw [← hN]
  rw [UInt64.toNat_ofNat', asm_eq] at hN
  have hN2 : N = (s.toNat * 2048 + E) * 4503599627370496 + T := by omega
  have fE : Jvm.FP.Core.fieldE Jvm.FP.Core.b64 N = E := by
    unfold Jvm.FP.Core.fieldE
    rw [tails_eq, exps_eq]
    omega
  unfold Jvm.FP.Core.decode
  rw [fE, exps_eq, tails_eq, if_neg (by omega)]
  split
  · exact ⟨_, _, _, rfl, fun h => absurd h (by omega)⟩
  · exact ⟨_, _, _, rfl, fun _ => by omega⟩
theorem lead_1 {n : Nat} (h : n ≠ 0) : Jvm.FP.Core.leading n 1 = (n.log2 : Int) := by
  have hlo : 2 ^ n.log2 ≤ n := Nat.log2_self_le h
  unfold Jvm.FP.Core.leading
  have e1 : (1 : Nat).log2 = 0 := by decide
  rw [e1]
  generalize n.log2 = L at *
  dsimp only
  have t1 : ((L : Int) - ((0 : Nat) : Int)).toNat = L := by omega
  have t2 : (-((L : Int) - ((0 : Nat) : Int))).toNat = 0 := by omega
  rw [t1, t2, if_pos (by omega)]
  omega
theorem quan_1 {n : Nat} (h : n ≠ 0) (h2 : n.log2 < 32) : Jvm.FP.Core.quantum Jvm.FP.Core.b64 n 1 0 = (n.log2 : Int) - 52 := by
  unfold Jvm.FP.Core.quantum
  rw [lead_1 h]
  have e2 : Jvm.FP.Core.b64.qmin = -1074 := rfl
  have e3 : (Jvm.FP.Core.b64.p : Int) = 53 := rfl
  rw [e2, e3]
  omega
theorem near_1 (n L : Nat) (h : L < 32) : Jvm.FP.Core.nearest (Jvm.FP.Core.unitsNum n 0 ((L : Int) - 52)) (Jvm.FP.Core.unitsDen 1 0 ((L : Int) - 52)) = n * 2 ^ (52 - L) := by
  have t1 : (0 - ((L : Int) - 52)).toNat = 52 - L := by omega
  have t2 : (((L : Int) - 52) - 0).toNat = 0 := by omega
  have u1 : Jvm.FP.Core.unitsNum n 0 ((L : Int) - 52) = n * 2 ^ (52 - L) := by unfold Jvm.FP.Core.unitsNum; rw [t1]
  have u2 : Jvm.FP.Core.unitsDen 1 0 ((L : Int) - 52) = 1 := by unfold Jvm.FP.Core.unitsDen; rw [t2]
  rw [u1, u2]
  generalize n * 2 ^ (52 - L) = X
  unfold Jvm.FP.Core.nearest
  rw [Nat.mod_one, Nat.div_one, if_pos (by decide)]
theorem i2d_fin (a : Int32) : ∃ (s : Bool) (c : Nat) (q : Int), Jvm.FP.Core.decode Jvm.FP.Core.b64 (FP.i2d a).toNat = .fin s c q ∧ (a ≠ 0 → c ≠ 0) := by
  have h2 := Int32.le_toInt a
  have h3 := Int32.toInt_lt a
  unfold FP.i2d Jvm.FP.Core.i2d Jvm.FP.Core.fromInt Jvm.FP.Core.ofInt Jvm.FP.Core.round
  generalize Decidable.decide (a.toInt < 0) = s
  obtain ⟨n, hn⟩ : ∃ n, n = a.toInt.natAbs := ⟨_, rfl⟩
  dsimp only
  rw [← hn]
  unfold Jvm.FP.Core.roundRatio
  by_cases hz : n = 0
  · rw [if_pos hz]
    obtain ⟨s2, c, q, h, -⟩ := dec_ok s 0 0 (by decide) (by decide)
    have he : Jvm.FP.Core.encode Jvm.FP.Core.b64 (.fin s 0 Jvm.FP.Core.b64.qmin) = Jvm.FP.Core.assemble Jvm.FP.Core.b64 s 0 0 := by
      unfold Jvm.FP.Core.encode
      dsimp only
      rw [tails_eq, if_pos (by decide)]
    rw [he]
    refine ⟨s2, c, q, h, fun hne => absurd ?_ hne⟩
    have : a.toInt = 0 := by omega
    exact Int32.toInt_inj.mp this
  · rw [if_neg hz]
    have hn1 : n ≤ 2147483648 := by omega
    have hL31 : n.log2 < 32 := (Nat.log2_lt hz).mpr (by omega)
    have hlo : 2 ^ n.log2 ≤ n := Nat.log2_self_le hz
    have hhi : n < 2 ^ (n.log2 + 1) := (Nat.log2_lt hz).mp (by omega)
    unfold Jvm.FP.Core.roundAt
    rw [quan_1 hz hL31, near_1 _ _ hL31]
    obtain ⟨L, hL⟩ : ∃ L, L = n.log2 := ⟨_, rfl⟩
    rw [← hL] at hlo hhi hL31 ⊢
    have hp : 2 ^ L * 2 ^ (52 - L) = 4503599627370496 := by
      rw [← Nat.pow_add, show L + (52 - L) = 52 by omega]
    have hp2 : 2 ^ (L + 1) * 2 ^ (52 - L) = 9007199254740992 := by
      rw [← Nat.pow_add, show L + 1 + (52 - L) = 53 by omega]
    have hpos : 0 < 2 ^ (52 - L) := Nat.two_pow_pos _
    obtain ⟨X, hX⟩ : ∃ X, X = n * 2 ^ (52 - L) := ⟨_, rfl⟩
    have hX1 : 4503599627370496 ≤ X := by rw [hX, ← hp]; exact Nat.mul_le_mul_right _ hlo
    have hX2 : X < 9007199254740992 := by rw [hX, ← hp2]; exact Nat.mul_lt_mul_of_pos_right hhi hpos
    rw [← hX]
    have e1 : 2 ^ Jvm.FP.Core.b64.p = 9007199254740992 := rfl
    have e2 : Jvm.FP.Core.b64.qmax = 971 := rfl
    have e5 : Jvm.FP.Core.b64.qmin = -1074 := rfl
    have hs : Jvm.FP.Core.settle Jvm.FP.Core.b64 s X ((L : Int) - 52) = .fin s X ((L : Int) - 52) := by
      unfold Jvm.FP.Core.settle Jvm.FP.Core.bound
      rw [e1, e2, if_pos hX2, if_pos (by omega)]
    have he : Jvm.FP.Core.encode Jvm.FP.Core.b64 (.fin s X ((L : Int) - 52)) = Jvm.FP.Core.assemble Jvm.FP.Core.b64 s (((L : Int) - 52 - -1074).toNat + 1) (X - 4503599627370496) := by
      unfold Jvm.FP.Core.encode
      dsimp only
      rw [tails_eq, e5, if_neg (by omega)]
    rw [hs, he]
    obtain ⟨s2, c, q, h, h0⟩ := dec_ok s (((L : Int) - 52 - -1074).toNat + 1) (X - 4503599627370496) (by omega) (by omega)
    exact ⟨s2, c, q, h, fun _ => h0 (by omega)⟩
theorem ddiv_n (a b : Int32) (h : b ≠ 0) : vf_n64 (FP.ddiv (FP.i2d a) (FP.i2d b)) := by
  obtain ⟨s, c, q, h1, -⟩ := i2d_fin a
  obtain ⟨t, d, r, h2, h3⟩ := i2d_fin b
  unfold FP.ddiv Jvm.FP.Core.ddiv Jvm.FP.Core.div
  unfold FP.i2d at h1 h2
  rw [h1, h2]
  unfold Jvm.FP.Core.quotient
  dsimp only
  rw [if_neg (h3 h)]
  exact rr_n _ _ _ _
theorem dcmp_self (x : UInt64) : FP.dcmp x x = none ∨ FP.dcmp x x = some .eq := by
  unfold FP.dcmp Jvm.FP.Core.dcmp Jvm.FP.Core.cmp
  generalize Jvm.FP.Core.decode Jvm.FP.Core.b64 x.toNat = d
  cases d with
  | nan => exact Or.inl rfl
  | inf s => exact Or.inr (by cases s <;> rfl)
  | fin s c q => exact Or.inr (congrArg some (Std.ReflCmp.compare_self))
