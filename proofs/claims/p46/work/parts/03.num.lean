/-! numbers: an int, a long by its whole number -/
abbrev Fn : Type := Int → Int
abbrev Sg : Type := Nat → Int → Int
def iI (z : Int) : Int32 := Int32.ofInt z
def jI (z : Int) : Int64 := Int64.ofInt z
abbrev IR (z : Int) : Prop := -2147483648 ≤ z ∧ z ≤ 2147483647
abbrev JR (z : Int) : Prop := -9223372036854775808 ≤ z ∧ z ≤ 9223372036854775807
theorem iI_toInt {z : Int} (h : IR z) : (iI z).toInt = z := by
  obtain ⟨h1, h2⟩ := h
  unfold iI
  rw [Int32.toInt_ofInt]
  apply Int.bmod_eq_of_le <;> (first | omega | (simp [Int32.size]; omega))
theorem jI_toInt {z : Int} (h : JR z) : (jI z).toInt = z := by
  obtain ⟨h1, h2⟩ := h
  unfold jI
  rw [Int64.toInt_ofInt]
  apply Int.bmod_eq_of_le <;> (first | omega | (simp [Int64.size]; omega))
theorem iI_lt {a b : Int} (ha : IR a) (hb : IR b) : iI a < iI b ↔ a < b := by rw [Int32.lt_iff_toInt_lt, iI_toInt ha, iI_toInt hb]
theorem iI_le {a b : Int} (ha : IR a) (hb : IR b) : iI a ≤ iI b ↔ a ≤ b := by rw [Int32.le_iff_toInt_le, iI_toInt ha, iI_toInt hb]
theorem iI_eq {a b : Int} (ha : IR a) (hb : IR b) : iI a = iI b ↔ a = b := ⟨fun h => by rw [← iI_toInt ha, ← iI_toInt hb, h], fun h => by rw [h]⟩
theorem jI_lt {a b : Int} (ha : JR a) (hb : JR b) : jI a < jI b ↔ a < b := by rw [Int64.lt_iff_toInt_lt, jI_toInt ha, jI_toInt hb]
theorem jI_le {a b : Int} (ha : JR a) (hb : JR b) : jI a ≤ jI b ↔ a ≤ b := by rw [Int64.le_iff_toInt_le, jI_toInt ha, jI_toInt hb]
theorem jI_eq {a b : Int} (ha : JR a) (hb : JR b) : jI a = jI b ↔ a = b := ⟨fun h => by rw [← jI_toInt ha, ← jI_toInt hb, h], fun h => by rw [h]⟩
theorem iI_add (a b : Int) : iI a + iI b = iI (a + b) := (Int32.ofInt_add a b).symm
theorem iI_sub (a b : Int) : iI a - iI b = iI (a - b) := (Int32.ofInt_sub a b).symm
theorem iI_mul (a b : Int) : iI a * iI b = iI (a * b) := (Int32.ofInt_mul a b).symm
theorem iI_neg (a : Int) : - iI a = iI (- a) := (Int32.ofInt_neg a).symm
theorem jI_add (a b : Int) : jI a + jI b = jI (a + b) := (Int64.ofInt_add a b).symm
theorem jI_mul (a b : Int) : jI a * jI b = jI (a * b) := (Int64.ofInt_mul a b).symm
theorem iI_div {a b : Int} (ha : IR a) (hb : IR b) (h0 : 0 ≤ a) : iI a / iI b = iI (a.tdiv b) := by
  apply Int32.toInt_inj.mp
  rw [Int32.toInt_div, iI_toInt ha, iI_toInt hb]
  have h : IR (a.tdiv b) := by
    obtain ⟨h1, h2⟩ := ha
    have e := Int.natAbs_tdiv a b
    have e2 := Nat.div_le_self a.natAbs b.natAbs
    have e3 : (a.tdiv b).natAbs ≤ a.natAbs := by rw [Int.natAbs_tdiv]; exact e2
    constructor <;> omega
  rw [iI_toInt h]
  obtain ⟨h1, h2⟩ := h
  apply Int.bmod_eq_of_le <;> (first | omega | (simp [Int32.size]; omega))
theorem iI_rem {a b : Int} (ha : IR a) (hb : IR b) (h0 : 0 ≤ a) : iI a - iI a / iI b * iI b = iI (a.tmod b) := by
  rw [iI_div ha hb h0, iI_mul, iI_sub]
  congr 1
  have := Int.tmod_add_mul_tdiv a b
  have h2 : a.tdiv b * b = b * a.tdiv b := Int.mul_comm _ _
  omega
theorem iI_clamp {z : Int} (h : IR z) : (iI z).toNatClampNeg = z.toNat := by
  show (iI z).toInt.toNat = z.toNat
  rw [iI_toInt h]
theorem iI_in {z : Int} {n : Nat} (h0 : 0 ≤ z) (h1 : z < n) (hn : (n : Int) ≤ 2147483647) : vp_in (iI z) n := by
  rw [vp_in_iff, iI_toInt ⟨by omega, by omega⟩]
  exact ⟨h0, h1⟩
theorem iI_j {z : Int} (h : IR z) : (iI z).toInt64 = jI z := by
  apply Int64.toInt_inj.mp
  rw [Int32.toInt_toInt64, iI_toInt h]
  obtain ⟨h1, h2⟩ := h
  rw [jI_toInt ⟨by omega, by omega⟩]
theorem jI_i (z : Int) : (jI z).toInt32 = iI z := by
  apply Int32.toBitVec_inj.mp
  show (BitVec.signExtend 32 (BitVec.ofInt 64 z)) = BitVec.ofInt 32 z
  rw [BitVec.signExtend_eq_setWidth_of_le _ (by decide)]
  apply BitVec.eq_of_toNat_eq
  simp [BitVec.toNat_ofInt]
  omega
theorem lg_cmp_j {a b : Int} (ha : JR a) (hb : JR b) : lg_cmp (jI a) (jI b) = iI (if b < a then 1 else if a = b then 0 else -1) := by
  unfold lg_cmp
  simp only [gt_iff_lt, jI_lt hb ha, jI_eq ha hb]
  by_cases h : b < a
  · simp only [h, if_true]; rfl
  · by_cases h2 : a = b
    · simp only [h, h2, if_true, if_false]; first | rfl | (split <;> first | rfl | omega)
    · simp only [h, h2, if_false]; rfl
def fI (f : Fn) : Nat → Int32 := fun j => iI (f (j : Int))
def fJ (f : Fn) : Nat → Int64 := fun j => jI (f (j : Int))
def ups (f : Fn) (i v : Int) : Fn := fun j => if j = i then v else f j
def upr (σ : Sg) (r : Nat) (f : Fn) : Sg := fun q => if q = r then f else σ q
theorem ups_eq (f : Fn) (i v : Int) : ups f i v i = v := if_pos rfl
theorem ups_ne (f : Fn) {i j : Int} (v : Int) (h : j ≠ i) : ups f i v j = f j := if_neg h
theorem upr_eq (σ : Sg) (r : Nat) (f : Fn) : upr σ r f r = f := if_pos rfl
theorem upr_ne (σ : Sg) {r q : Nat} (f : Fn) (h : q ≠ r) : upr σ r f q = σ q := if_neg h
theorem upr_upr (σ : Sg) (r : Nat) (f g : Fn) : upr (upr σ r f) r g = upr σ r g := by
  funext q
  unfold upr
  by_cases h : q = r <;> simp [h]
theorem ups_ups (f : Fn) (i v w : Int) : ups (ups f i v) i w = ups f i w := by
  funext q
  unfold ups
  by_cases h : q = i <;> simp [h]
theorem ups_self (f : Fn) (i : Int) : ups f i (f i) = f := by
  funext q
  unfold ups
  by_cases h : q = i <;> simp [h]
theorem upr_self (σ : Sg) (r : Nat) : upr σ r (σ r) = σ := by
  funext q
  unfold upr
  by_cases h : q = r <;> simp [h]
theorem fI_ups (f : Fn) {z : Int} (v : Int) (h : IR z) (h0 : 0 ≤ z) : upd (fI f) (iI z).toNatClampNeg (iI v) = fI (ups f z v) := by
  rw [iI_clamp h]
  funext j
  unfold upd fI ups
  by_cases e : j = z.toNat
  · rw [if_pos e, if_pos (by omega)]
  · rw [if_neg e, if_neg (by omega)]
theorem fJ_ups (f : Fn) {z : Int} (v : Int) (h : IR z) (h0 : 0 ≤ z) : vp_updL (fJ f) (iI z).toNatClampNeg (jI v) = fJ (ups f z v) := by
  rw [iI_clamp h]
  funext j
  unfold vp_updL fJ ups
  by_cases e : j = z.toNat
  · rw [if_pos e, if_pos (by omega)]
  · rw [if_neg e, if_neg (by omega)]
theorem fI_at (f : Fn) {z : Int} (h : IR z) (h0 : 0 ≤ z) : fI f (iI z).toNatClampNeg = iI (f z) := by
  rw [iI_clamp h]
  show iI (f ((z.toNat : Nat) : Int)) = _
  rw [Int.toNat_of_nonneg h0]
theorem fJ_at (f : Fn) {z : Int} (h : IR z) (h0 : 0 ≤ z) : fJ f (iI z).toNatClampNeg = jI (f z) := by
  rw [iI_clamp h]
  show jI (f ((z.toNat : Nat) : Int)) = _
  rw [Int.toNat_of_nonneg h0]
theorem nar_b {v : Int} (h : v = 0 ∨ v = 1) : vp_nar .boolean (iI v) = iI v := by
  rcases h with rfl | rfl <;> rfl
theorem nar_z {v : Int} (h : v = 0 ∨ v = 1) : narrow .boolean (.int (iI v)) = .int (iI v) := by
  rcases h with rfl | rfl <;> rfl
