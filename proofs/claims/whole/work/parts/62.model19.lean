section XW
variable {p : Program} {l : Launch} {e : Env} {R : Room} {s : State} {m : MethodId} {args : Array Value} {below : List Frame} {meth : Method} {c : Code} {H : Heap} {locs : List Loc} {cells slots : Nat} {Q : State → Prop}
variable {cc : ByteArray} {nL : Nat} {own : String} {D : va_G} {G : Nat → Nat} {pc : Nat} {ls : Array Slot} {rest : List Value}
/-- an int's number, as it is kept -/
def wI (n : Int) : Int := (iI n).toInt
theorem x_i2lW (C : Cx p s m meth c args cc nL own D G) {a : Int} (hdg : decode cc pc = .ok (.i2l, 1)) (kk : W p l e R s m args below meth c H locs cells slots Q (F0 m (pc + 1) ls (.long (jI (wI a)) :: rest))) : W p l e R s m args below meth c H locs cells slots Q (F0 m pc ls (.int (iI a) :: rest)) := by
  have h1 : iI (wI a) = iI a := Int32.ofInt_toInt _
  have h2 := Int32.le_toInt (iI a)
  have h3 := Int32.toInt_lt (iI a)
  rw [← h1]
  exact x_i2l C (a := wI a) ⟨by unfold wI; omega, by unfold wI; omega⟩ hdg kk
end XW
/-! the digest -/
def dgF (f : Fn) : Nat → Int → Int
  | 0, d => d
  | n + 1, d => dgF f n d * 31 + f (n : Int)
theorem dgF_s (f : Fn) {i : Int} (h : 0 ≤ i) (d : Int) : dgF f (i + 1).toNat d = dgF f i.toNat d * 31 + f i := by
  rw [toNat_s h]
  show dgF f i.toNat d * 31 + f ((i.toNat : Nat) : Int) = _
  rw [Int.toNat_of_nonneg h]
def dgM (L : List Int) : Nat → Int → Int
  | 0, d => d
  | n + 1, d => (dgM L n d * 31 + L.getD n (-1) / 100) * 31 + L.getD n (-1) % 100
theorem dgM_s (L : List Int) {i : Int} (h : 0 ≤ i) (d : Int) : dgM L (i + 1).toNat d = (dgM L i.toNat d * 31 + L.getD i.toNat (-1) / 100) * 31 + L.getD i.toNat (-1) % 100 := by
  rw [toNat_s h]; rfl
def dgK (k : Int → Int → Int) : Nat → Int → Int
  | 0, d => d
  | n + 1, d => dgF (k ((n : Int) + 1)) 2 (dgK k n d)
theorem dgK_s (k : Int → Int → Int) {i : Int} (h : 0 ≤ i) (d : Int) : dgK k (i + 1).toNat d = dgF (k (i + 1)) 2 (dgK k i.toNat d) := by
  rw [toNat_s h]
  show dgF (k (((i.toNat : Nat) : Int) + 1)) 2 _ = _
  rw [Int.toNat_of_nonneg h]
def dgT (t : Int → Int → Int) : Nat → Int → Int
  | 0, d => d
  | n + 1, d => dgF (t (n : Int)) 4 (dgT t n d)
theorem dgT_s (t : Int → Int → Int) {i : Int} (h : 0 ≤ i) (d : Int) : dgT t (i + 1).toNat d = dgF (t i) 4 (dgT t i.toNat d) := by
  rw [toNat_s h]
  show dgF (t ((i.toNat : Nat) : Int)) 4 _ = _
  rw [Int.toNat_of_nonneg h]
theorem dgF_ext {f g : Fn} : ∀ (n : Nat) (d : Int), (∀ i : Int, 0 ≤ i → i < n → f i = g i) → dgF f n d = dgF g n d
  | 0, _, _ => rfl
  | n + 1, d, h => by
    show dgF f n d * 31 + f (n : Int) = dgF g n d * 31 + g (n : Int)
    rw [dgF_ext n d (fun i a b => h i a (by omega)), h (n : Int) (by omega) (by omega)]
abbrev MLg (S : Sg) : List Int := MLs (S 1) (S 2 0) (S 3 0) (S 4 0)
def dg1 (S : Sg) : Int := dgF (S 1) (S 2 0 * S 3 0).toNat ((58036 * 31 + S 2 0) * 31 + S 3 0)
def dg2 (S : Sg) (d : Int) : Int := ((((d * 31 + S 4 0) * 31 + S 30 0) * 31 + (if MLg S = [] then 1 else 0)) * 31 + keyS (cfg S) (S 1) (S 4 0)) * 31 + evS (cfg S) (S 1) (S 4 0)
def dg3 (S : Sg) (d : Int) : Int := dgM (MLg S) (MLg S).length (d * 31 + (MLg S).length)
def dg4 (S : Sg) (d : Int) : Int := (d * 31 + waysF (cfg S) 2 (S 1) (S 4 0)) * 31 + vv (cfg S) 1 (S 1) (S 4 0)
def dg5 (S : Sg) (re no be d : Int) : Int := (((((d * 31 + (if be = -1 then -1 else be / 100)) * 31 + (if be = -1 then -1 else be % 100)) * 31 + re) * 31 + wI no) * 31 + wI (S 22 0)) * 31 + wI (S 23 0)
def dg6 (S : Sg) (re d : Int) : Int := dgK (fun d o => if 0 < re then kilF S d o else -1) 4 d
def dg7 (S : Sg) (d : Int) : Int := dgT (tellF S) (S 9 0).toNat ((d * 31 + S 9 0) * 31 + cntE (S 11) 64)
def dg8 (S : Sg) (d : Int) : Int := ((d * 31 + (if fndT S (keyS (cfg S) (S 1) (S 4 0)) = -1 then 0 else S 11 (fndT S (keyS (cfg S) (S 1) (S 4 0))))) * 31 + chF (wtF S (keyS (cfg S) (S 1) (S 4 0))) (MLg S) 0 (-1) 0) * 31 + S 27 0
def digF (S : Sg) (re no be : Int) : Int := dg8 S (dg7 S (dg6 S re (dg5 S re no be (dg4 S (dg3 S (dg2 S (dg1 S)))))))
/-- equal but the sum and the rows of moves -/
def EQD (a b : Sg) : Prop := ∀ r : Nat, r ≠ 233 → (r < 240 ∨ 267 ≤ r) → a r = b r
theorem EQD.add {a b T : Sg} {x : Int} (h : EQD a b) (e : upr a 233 (ups (a 233) 0 x) = T) : EQD T b := fun r h1 h2 => by rw [← e, upr_ne _ _ h1]; exact h r h1 h2
theorem add_d {a T : Sg} {x y D : Int} (e : upr a 233 (ups (a 233) 0 (a 233 0 * 31 + x)) = T) (hd : a 233 0 = D) (hx : x = y) : T 233 0 = D * 31 + y := by rw [← e, upr_eq, ups_eq, hd, hx]

