theorem wtN_of {a b : Sg} (h4 : a 24 = b 24) (h5 : a 25 = b 25) (h6 : a 26 = b 26) (key v : Int) : ∀ n : Nat, wtN a key v n = wtN b key v n
  | 0 => rfl
  | n + 1 => by
    unfold wtN
    rw [h4, h5, h6, wtN_of h4 h5 h6 key v n]
theorem wtF_of {a b : Sg} (h4 : a 24 = b 24) (h5 : a 25 = b 25) (h6 : a 26 = b 26) (h7 : a 27 = b 27) {key : Int} : wtF a key = wtF b key := by
  funext v
  unfold wtF
  rw [h7, wtN_of h4 h5 h6]
section XW
variable {p : Program} {l : Launch} {e : Env} {R : Room} {s : State} {m : MethodId} {args : Array Value} {below : List Frame} {meth : Method} {c : Code} {H : Heap} {locs : List Loc} {cells slots : Nat} {Q : State → Prop}
variable {cc : ByteArray} {nL : Nat} {own : String} {D : va_G} {G : Nat → Nat} {pc : Nat} {ls : Array Slot} {rest : List Value}
/-- an int's number, as it is kept -/
def wI (n : Int) : Int := (iI n).toInt
theorem x_i2lW (C : Cx p s m meth c args cc nL own D G) {a : Int} (hdg : decode cc pc = .ok (.i2l, 1)) (kk : W p l e R s m args below meth c H locs cells slots Q (F0 m (pc + 1) ls (.long (jI (wI a)) :: rest))) : W p l e R s m args below meth c H locs cells slots Q (F0 m pc ls (.int (iI a) :: rest)) := by
  have h1 : iI (wI a) = iI a := Int32.ofInt_toInt _
  have h2 := Int32.le_toInt (iI a)
  have h3 := Int32.toInt_lt (iI a)
  rw [← h1]
  exact x_i2l C (a := wI a) ⟨by unfold wI; omega, by unfold wI; omega⟩ hdg kk
end XW
/-! the digest -/
def dgF (f : Fn) : Nat → Int → Int
  | 0, d => d
  | n + 1, d => dgF f n d * 31 + f (n : Int)
theorem dgF_s (f : Fn) {i : Int} (h : 0 ≤ i) (d : Int) : dgF f (i + 1).toNat d = dgF f i.toNat d * 31 + f i := by
  rw [toNat_s h]
  show dgF f i.toNat d * 31 + f ((i.toNat : Nat) : Int) = _
  rw [Int.toNat_of_nonneg h]
def dgM (L : List Int) : Nat → Int → Int
  | 0, d => d
  | n + 1, d => (dgM L n d * 31 + wI (L.getD n (-1) / 100)) * 31 + wI (L.getD n (-1) % 100)
theorem dgM_s (L : List Int) {i : Int} (h : 0 ≤ i) (d : Int) : dgM L (i + 1).toNat d = (dgM L i.toNat d * 31 + wI (L.getD i.toNat (-1) / 100)) * 31 + wI (L.getD i.toNat (-1) % 100) := by
  rw [toNat_s h]; rfl
def dgK (k : Int → Int → Int) : Nat → Int → Int
  | 0, d => d
  | n + 1, d => dgF (k ((n : Int) + 1)) 2 (dgK k n d)
theorem dgK_s (k : Int → Int → Int) {i : Int} (h : 1 ≤ i) (d : Int) : dgK k (i + 1 - 1).toNat d = dgF (k i) 2 (dgK k (i - 1).toNat d) := by
  rw [show (i + 1 - 1).toNat = (i - 1).toNat + 1 by omega]
  show dgF (k (((i - 1).toNat : Nat) + 1 : Int)) 2 _ = _
  rw [show (((i - 1).toNat : Nat) : Int) + 1 = i by omega]
def dgT (t : Int → Int → Int) : Nat → Int → Int
  | 0, d => d
  | n + 1, d => dgF (t (n : Int)) 4 (dgT t n d)
theorem dgT_s (t : Int → Int → Int) {i : Int} (h : 0 ≤ i) (d : Int) : dgT t (i + 1).toNat d = dgF (t i) 4 (dgT t i.toNat d) := by
  rw [toNat_s h]
  show dgF (t ((i.toNat : Nat) : Int)) 4 _ = _
  rw [Int.toNat_of_nonneg h]
theorem dgF_ext {f g : Fn} : ∀ (n : Nat) (d : Int), (∀ i : Int, 0 ≤ i → i < n → f i = g i) → dgF f n d = dgF g n d
  | 0, _, _ => rfl
  | n + 1, d, h => by
    show dgF f n d * 31 + f (n : Int) = dgF g n d * 31 + g (n : Int)
    rw [dgF_ext n d (fun i a b => h i a (by omega)), h (n : Int) (by omega) (by omega)]
abbrev MLg (S : Sg) : List Int := MLs (S 1) (S 2 0) (S 3 0) (S 4 0)
def knF (S : Sg) : Int := if fndT S (keyS (cfg S) (S 1) (S 4 0)) = -1 then 0 else S 11 (fndT S (keyS (cfg S) (S 1) (S 4 0)))
def tlF (S : Sg) : Int := chF (wtF S (keyS (cfg S) (S 1) (S 4 0))) (MLg S) 0 (-1) 0
def kiF (S : Sg) (re d o : Int) : Int := wI (if 0 < re then kilF S d o else -1)
def teF (S : Sg) (s k : Int) : Int := wI (tellF S s k)
def dg1 (S : Sg) : Int := dgF (fun i => wI (S 1 i)) (S 2 0 * S 3 0).toNat ((58036 * 31 + wI (S 2 0)) * 31 + wI (S 3 0))
def dg2 (S : Sg) (d : Int) : Int := ((((d * 31 + wI (S 4 0)) * 31 + wI (S 30 0)) * 31 + (if MLg S = [] then 1 else 0)) * 31 + keyS (cfg S) (S 1) (S 4 0)) * 31 + wI (evS (cfg S) (S 1) (S 4 0))
def dg3 (S : Sg) (d : Int) : Int := dgM (MLg S) (MLg S).length (d * 31 + wI (MLg S).length)
def dg4 (S : Sg) (d : Int) : Int := (d * 31 + wI (waysF (cfg S) 2 (S 1) (S 4 0))) * 31 + wI (vv (cfg S) 1 (S 1) (S 4 0))
def dg5 (S : Sg) (re no be d : Int) : Int := (((((d * 31 + wI (if be = -1 then -1 else be / 100)) * 31 + wI (if be = -1 then -1 else be % 100)) * 31 + wI re) * 31 + wI no) * 31 + wI (S 22 0)) * 31 + wI (S 23 0)
def dg6 (S : Sg) (re d : Int) : Int := dgK (kiF S re) 4 d
def dg7 (S : Sg) (d : Int) : Int := dgT (teF S) (S 9 0).toNat ((d * 31 + wI (S 9 0)) * 31 + wI (cntE (S 11) 64))
def dg8 (S : Sg) (d : Int) : Int := ((d * 31 + wI (knF S)) * 31 + wI (tlF S)) * 31 + wI (S 27 0)
def digF (S : Sg) (re no be : Int) : Int := dg8 S (dg7 S (dg6 S re (dg5 S re no be (dg4 S (dg3 S (dg2 S (dg1 S)))))))
/-- equal but the sum and the rows of moves -/
theorem kiF_of {a b : Sg} (h : ∀ r : Nat, r < 32 → r ≠ 15 → a r = b r) (re : Int) : kiF a re = kiF b re := by
  funext d o
  unfold kiF kilF
  rw [h 17 (by decide) (by decide), h 18 (by decide) (by decide)]
theorem teF_of {a b : Sg} (h : ∀ r : Nat, r < 32 → r ≠ 15 → a r = b r) : teF a = teF b := by
  funext s k
  unfold teF tellF
  rw [h 11 (by decide) (by decide), h 12 (by decide) (by decide), h 13 (by decide) (by decide), h 14 (by decide) (by decide)]
theorem knF_of {a b : Sg} (h : ∀ r : Nat, r < 32 → r ≠ 15 → a r = b r) : knF a = knF b := by
  unfold knF fndT
  rw [cfg_of (a := b) (b := a) (fun r hr => h r (by omega) (by omega)), h 1 (by decide) (by decide), h 4 (by decide) (by decide), h 9 (by decide) (by decide), h 10 (by decide) (by decide), h 11 (by decide) (by decide)]
theorem tlF_of {a b : Sg} (h : ∀ r : Nat, r < 32 → r ≠ 15 → a r = b r) : tlF a = tlF b := by
  unfold tlF MLg
  rw [cfg_of (a := b) (b := a) (fun r hr => h r (by omega) (by omega)), h 1 (by decide) (by decide), h 2 (by decide) (by decide), h 3 (by decide) (by decide), h 4 (by decide) (by decide), wtF_of (h 24 (by decide) (by decide)) (h 25 (by decide) (by decide)) (h 26 (by decide) (by decide)) (h 27 (by decide) (by decide))]
theorem cntF_bd (c : Fn) (v : Int) (n : Nat) : 0 ≤ cntF c v n ∧ cntF c v n ≤ n := by
  induction n with
  | zero => exact ⟨Int.le_refl _, Int.le_refl _⟩
  | succ n ih =>
    show 0 ≤ cntF c v n + _ ∧ cntF c v n + _ ≤ _
    split <;> omega
def layG (wh : Int) (c : Fn) (k : Int) : Fn := fun x => if 0 ≤ x ∧ x < k then 1 else if wh - k ≤ x ∧ x < wh then 2 else c x
theorem layG_0 (wh : Int) (c : Fn) : layG wh c 0 = c := by
  funext x
  unfold layG
  rw [if_neg (by omega), if_neg (by omega)]
theorem layG_s (wh : Int) (c : Fn) {i : Int} (h0 : 0 ≤ i) (h1 : 2 * (i + 1) ≤ wh) : ups (ups (layG wh c i) i 1) (wh - 1 - i) 2 = layG wh c (i + 1) := by
  funext x
  unfold ups layG
  by_cases e1 : x = wh - 1 - i
  · rw [if_pos e1, if_neg (by omega), if_pos (by omega)]
  · rw [if_neg e1]
    by_cases e2 : x = i
    · rw [if_pos e2, if_pos (by omega)]
    · rw [if_neg e2]
      by_cases e3 : 0 ≤ x ∧ x < i
      · rw [if_pos e3, if_pos (by omega)]
      · rw [if_neg e3]
        by_cases e4 : wh - i ≤ x ∧ x < wh
        · rw [if_pos e4, if_neg (by omega), if_pos (by omega)]
        · rw [if_neg e4, if_neg (by omega), if_neg (by omega)]
