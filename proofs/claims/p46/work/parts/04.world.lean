/-! the world: cells by number (0..80 the class, 100..232 the reference, 240 the law's row), registers by number (σ r i: element i of row r) -/
def fxX (ad : Nat → Nat) (G : Nat → Nat) (σ : Sg) : List va_E := [
  .inr (11, [.ref (ad 1), .ref (ad 26), .ref (ad 21), .ref (ad 3), .ref (ad 4), .ref (ad 10), .ref (ad 13), .ref (ad 17)]),
  .inr (0, [.ref (ad 2), .int (iI (σ 2 0)), .int (iI (σ 3 0)), .int (iI (σ 4 0))]),
  .inl (G 0, 25, .inl (fI (σ 1))),
  .inr (2, [.int (iI (σ 5 0)), .int (iI (σ 6 0)), .int (iI (σ 7 0)), .int (iI (σ 8 0))]),
  .inr (8, [.ref (ad 5), .ref (ad 6), .ref (ad 7), .ref (ad 8), .ref (ad 9), .int (iI (σ 9 0))]),
  .inl (G 1, 64, .inr (.inl (fJ (σ 10)))),
  .inl (G 0, 64, .inl (fI (σ 11))),
  .inl (G 0, 64, .inl (fI (σ 12))),
  .inl (G 0, 64, .inl (fI (σ 13))),
  .inl (G 0, 64, .inl (fI (σ 14))),
  .inr (10, [.ref (ad 1), .ref (ad 24), .ref (ad 11)]),
  .inr (6, [.ref (ad 1), .ref (ad 3), .ref (ad 24), .int (iI (σ 15 0))]),
  .inr (6, [.ref (ad 1), .ref (ad 3), .ref (ad 24), .int (iI (σ 16 0))]),
  .inr (7, [.ref (ad 1), .ref (ad 24), .ref (ad 4), .ref (ad 12), .ref (ad 14), .int (iI (σ 19 0)), .int (iI (σ 20 0)), .int (iI (σ 21 0)), .int (iI (σ 22 0)), .int (iI (σ 23 0))]),
  .inr (3, [.ref (ad 15), .ref (ad 16)]),
  .inl (G 0, 5, .inl (fI (σ 17))),
  .inl (G 0, 5, .inl (fI (σ 18))),
  .inr (1, [.ref (ad 18), .ref (ad 19), .ref (ad 20), .int (iI (σ 27 0))]),
  .inl (G 1, 30, .inr (.inl (fJ (σ 24)))),
  .inl (G 0, 30, .inl (fI (σ 25))),
  .inl (G 0, 30, .inl (fI (σ 26))),
  .inr (9, [.ref (ad 22), .ref (ad 23), .int (iI (σ 30 0))]),
  .inl (G 0, 40, .inl (fI (σ 28))),
  .inl (G 0, 40, .inl (fI (σ 29))),
  .inr (4, [.ref (ad 25), .ref (ad 76)]),
  .inl (G 3, 9, .inr (.inr (.inr (.inr (fun j => some (ad (26 + 5 * (j + 1))))))))]
def fxM (ad : Nat → Nat) (G : Nat → Nat) (σ : Sg) : List va_E := [
  .inr (12, [.int (iI (σ 232 0)), .int (iI (σ 202 0)), .int (iI (σ 203 0)), .ref (ad 101), .ref (ad 102), .int (iI (σ 230 0)), .int (iI (σ 205 0)), .int (iI (σ 206 0)), .int (iI (σ 207 0)), .int (iI (σ 208 0)), .ref (ad 103), .int (iI (σ 209 0)), .ref (ad 116), .ref (ad 117), .ref (ad 182), .ref (ad 195), .int (iI (σ 221 0)), .int (iI (σ 222 0)), .int (iI (σ 223 0)), .int (iI (σ 220 0)), .int (iI (σ 219 0)), .int (iI (σ 231 0)), .int (iI (σ 227 0)), .ref (ad 201), .ref (ad 202), .long (jI (σ 233 0))]),
  .inl (G 0, (σ 202 0 * σ 203 0 + 1).toNat, .inl (fun j => iI (if (j : Int) = σ 202 0 * σ 203 0 then σ 204 0 else σ 201 j))),
  .inl (G 0, 80, .inl (fun j => iI (if j % 2 = 0 then σ 228 ((j / 2 : Nat) : Int) else σ 229 ((j / 2 : Nat) : Int)))),
  .inl (G 4, 12, .inr (.inr (.inr (.inr (fun j => some (ad (104 + j)))))))]
def cxl (ad : Nat → Nat) (G : Nat → Nat) (σ : Sg) (j i : Nat) : va_E := match i with
  | 0 => .inr (5, [.ref (ad (26 + 5 * j + 1)), .ref (ad (26 + 5 * j + 2)), .ref (ad (26 + 5 * j + 3)), .ref (ad (26 + 5 * j + 4)), .int (iI (σ (40 + 6 * j + 4) 0)), .int (iI (σ (40 + 6 * j + 5) 0))])
  | 1 => .inl (G 0, 18, .inl (fI (σ (40 + 6 * j))))
  | 2 => .inl (G 2, 18, .inl (fI (σ (40 + 6 * j + 1))))
  | 3 => .inl (G 0, 18, .inl (fI (σ (40 + 6 * j + 2))))
  | _ => .inl (G 2, 18, .inl (fI (σ (40 + 6 * j + 3))))
def rowF (σ : Sg) (b n : Nat) (i : Int) : Nat → Int32 := fun j => iI (if j < n then σ (b + j) i else 0)
theorem rowF_dep {σ σ1 : Sg} {b n : Nat} {i : Int} (h : ∀ j, j < n → σ1 (b + j) i = σ (b + j) i) : rowF σ1 b n i = rowF σ b n i := by
  funext j
  unfold rowF
  by_cases e : j < n
  · rw [if_pos e, if_pos e, h j e]
  · rw [if_neg e, if_neg e]
def cell (ad : Nat → Nat) (G : Nat → Nat) (σ : Sg) (k : Nat) : va_E :=
  if k < 26 then (fxX ad G σ).getD k (.inl (G 0, 0, .inl (fun _ => 0)))
  else if k < 81 then cxl ad G σ ((k - 26) / 5) ((k - 26) % 5)
  else if k < 104 then (fxM ad G σ).getD (k - 100) (.inl (G 0, 0, .inl (fun _ => 0)))
  else if k < 116 then .inl (G 0, 75, .inl (fI (σ (240 + (k - 104)))))
  else if k = 116 then .inl (G 1, 64, .inr (.inl (fJ (σ 210))))
  else if k = 117 then .inl (G 4, 64, .inr (.inr (.inr (.inr (fun j => some (ad (118 + j)))))))
  else if k < 182 then .inl (G 0, 4, .inl (rowF σ 211 4 ((k - 118 : Nat) : Int)))
  else if k = 182 then .inl (G 4, 12, .inr (.inr (.inr (.inr (fun j => some (ad (183 + j)))))))
  else if k < 195 then .inl (G 0, 75, .inl (fI (σ (255 + (k - 183)))))
  else if k = 195 then .inl (G 4, 5, .inr (.inr (.inr (.inr (fun j => some (ad (196 + j)))))))
  else if k < 201 then .inl (G 0, 2, .inl (rowF σ 217 2 ((k - 196 : Nat) : Int)))
  else if k = 201 then .inl (G 1, 30, .inr (.inl (fJ (σ 224))))
  else if k = 202 then .inl (G 4, 30, .inr (.inr (.inr (.inr (fun j => some (ad (203 + j)))))))
  else if k < 233 then .inl (G 0, 2, .inl (rowF σ 225 2 ((k - 203 : Nat) : Int)))
  else .inl (G 1, 1, .inr (.inl (fJ (σ 270))))
theorem cx_0 (ad : Nat → Nat) (G : Nat → Nat) (σ : Sg) : cell ad G σ 0 = .inr (11, [.ref (ad 1), .ref (ad 26), .ref (ad 21), .ref (ad 3), .ref (ad 4), .ref (ad 10), .ref (ad 13), .ref (ad 17)]) := rfl
theorem cx_1 (ad : Nat → Nat) (G : Nat → Nat) (σ : Sg) : cell ad G σ 1 = .inr (0, [.ref (ad 2), .int (iI (σ 2 0)), .int (iI (σ 3 0)), .int (iI (σ 4 0))]) := rfl
theorem cx_2 (ad : Nat → Nat) (G : Nat → Nat) (σ : Sg) : cell ad G σ 2 = .inl (G 0, 25, .inl (fI (σ 1))) := rfl
theorem cx_3 (ad : Nat → Nat) (G : Nat → Nat) (σ : Sg) : cell ad G σ 3 = .inr (2, [.int (iI (σ 5 0)), .int (iI (σ 6 0)), .int (iI (σ 7 0)), .int (iI (σ 8 0))]) := rfl
theorem cx_4 (ad : Nat → Nat) (G : Nat → Nat) (σ : Sg) : cell ad G σ 4 = .inr (8, [.ref (ad 5), .ref (ad 6), .ref (ad 7), .ref (ad 8), .ref (ad 9), .int (iI (σ 9 0))]) := rfl
theorem cx_5 (ad : Nat → Nat) (G : Nat → Nat) (σ : Sg) : cell ad G σ 5 = .inl (G 1, 64, .inr (.inl (fJ (σ 10)))) := rfl
theorem cx_6 (ad : Nat → Nat) (G : Nat → Nat) (σ : Sg) : cell ad G σ 6 = .inl (G 0, 64, .inl (fI (σ 11))) := rfl
theorem cx_7 (ad : Nat → Nat) (G : Nat → Nat) (σ : Sg) : cell ad G σ 7 = .inl (G 0, 64, .inl (fI (σ 12))) := rfl
theorem cx_8 (ad : Nat → Nat) (G : Nat → Nat) (σ : Sg) : cell ad G σ 8 = .inl (G 0, 64, .inl (fI (σ 13))) := rfl
theorem cx_9 (ad : Nat → Nat) (G : Nat → Nat) (σ : Sg) : cell ad G σ 9 = .inl (G 0, 64, .inl (fI (σ 14))) := rfl
theorem cx_10 (ad : Nat → Nat) (G : Nat → Nat) (σ : Sg) : cell ad G σ 10 = .inr (10, [.ref (ad 1), .ref (ad 24), .ref (ad 11)]) := rfl
theorem cx_11 (ad : Nat → Nat) (G : Nat → Nat) (σ : Sg) : cell ad G σ 11 = .inr (6, [.ref (ad 1), .ref (ad 3), .ref (ad 24), .int (iI (σ 15 0))]) := rfl
theorem cx_12 (ad : Nat → Nat) (G : Nat → Nat) (σ : Sg) : cell ad G σ 12 = .inr (6, [.ref (ad 1), .ref (ad 3), .ref (ad 24), .int (iI (σ 16 0))]) := rfl
theorem cx_13 (ad : Nat → Nat) (G : Nat → Nat) (σ : Sg) : cell ad G σ 13 = .inr (7, [.ref (ad 1), .ref (ad 24), .ref (ad 4), .ref (ad 12), .ref (ad 14), .int (iI (σ 19 0)), .int (iI (σ 20 0)), .int (iI (σ 21 0)), .int (iI (σ 22 0)), .int (iI (σ 23 0))]) := rfl
theorem cx_14 (ad : Nat → Nat) (G : Nat → Nat) (σ : Sg) : cell ad G σ 14 = .inr (3, [.ref (ad 15), .ref (ad 16)]) := rfl
theorem cx_15 (ad : Nat → Nat) (G : Nat → Nat) (σ : Sg) : cell ad G σ 15 = .inl (G 0, 5, .inl (fI (σ 17))) := rfl
theorem cx_16 (ad : Nat → Nat) (G : Nat → Nat) (σ : Sg) : cell ad G σ 16 = .inl (G 0, 5, .inl (fI (σ 18))) := rfl
theorem cx_17 (ad : Nat → Nat) (G : Nat → Nat) (σ : Sg) : cell ad G σ 17 = .inr (1, [.ref (ad 18), .ref (ad 19), .ref (ad 20), .int (iI (σ 27 0))]) := rfl
theorem cx_18 (ad : Nat → Nat) (G : Nat → Nat) (σ : Sg) : cell ad G σ 18 = .inl (G 1, 30, .inr (.inl (fJ (σ 24)))) := rfl
theorem cx_19 (ad : Nat → Nat) (G : Nat → Nat) (σ : Sg) : cell ad G σ 19 = .inl (G 0, 30, .inl (fI (σ 25))) := rfl
theorem cx_20 (ad : Nat → Nat) (G : Nat → Nat) (σ : Sg) : cell ad G σ 20 = .inl (G 0, 30, .inl (fI (σ 26))) := rfl
theorem cx_21 (ad : Nat → Nat) (G : Nat → Nat) (σ : Sg) : cell ad G σ 21 = .inr (9, [.ref (ad 22), .ref (ad 23), .int (iI (σ 30 0))]) := rfl
theorem cx_22 (ad : Nat → Nat) (G : Nat → Nat) (σ : Sg) : cell ad G σ 22 = .inl (G 0, 40, .inl (fI (σ 28))) := rfl
theorem cx_23 (ad : Nat → Nat) (G : Nat → Nat) (σ : Sg) : cell ad G σ 23 = .inl (G 0, 40, .inl (fI (σ 29))) := rfl
theorem cx_24 (ad : Nat → Nat) (G : Nat → Nat) (σ : Sg) : cell ad G σ 24 = .inr (4, [.ref (ad 25), .ref (ad 76)]) := rfl
theorem cx_25 (ad : Nat → Nat) (G : Nat → Nat) (σ : Sg) : cell ad G σ 25 = .inl (G 3, 9, .inr (.inr (.inr (.inr (fun j => some (ad (26 + 5 * (j + 1)))))))) := rfl
theorem cx_100 (ad : Nat → Nat) (G : Nat → Nat) (σ : Sg) : cell ad G σ 100 = .inr (12, [.int (iI (σ 232 0)), .int (iI (σ 202 0)), .int (iI (σ 203 0)), .ref (ad 101), .ref (ad 102), .int (iI (σ 230 0)), .int (iI (σ 205 0)), .int (iI (σ 206 0)), .int (iI (σ 207 0)), .int (iI (σ 208 0)), .ref (ad 103), .int (iI (σ 209 0)), .ref (ad 116), .ref (ad 117), .ref (ad 182), .ref (ad 195), .int (iI (σ 221 0)), .int (iI (σ 222 0)), .int (iI (σ 223 0)), .int (iI (σ 220 0)), .int (iI (σ 219 0)), .int (iI (σ 231 0)), .int (iI (σ 227 0)), .ref (ad 201), .ref (ad 202), .long (jI (σ 233 0))]) := rfl
theorem cx_101 (ad : Nat → Nat) (G : Nat → Nat) (σ : Sg) : cell ad G σ 101 = .inl (G 0, (σ 202 0 * σ 203 0 + 1).toNat, .inl (fun j => iI (if (j : Int) = σ 202 0 * σ 203 0 then σ 204 0 else σ 201 j))) := rfl
theorem cx_102 (ad : Nat → Nat) (G : Nat → Nat) (σ : Sg) : cell ad G σ 102 = .inl (G 0, 80, .inl (fun j => iI (if j % 2 = 0 then σ 228 ((j / 2 : Nat) : Int) else σ 229 ((j / 2 : Nat) : Int)))) := rfl
theorem cx_103 (ad : Nat → Nat) (G : Nat → Nat) (σ : Sg) : cell ad G σ 103 = .inl (G 4, 12, .inr (.inr (.inr (.inr (fun j => some (ad (104 + j))))))) := rfl
theorem cx_116 (ad : Nat → Nat) (G : Nat → Nat) (σ : Sg) : cell ad G σ 116 = .inl (G 1, 64, .inr (.inl (fJ (σ 210)))) := rfl
theorem cx_117 (ad : Nat → Nat) (G : Nat → Nat) (σ : Sg) : cell ad G σ 117 = .inl (G 4, 64, .inr (.inr (.inr (.inr (fun j => some (ad (118 + j))))))) := rfl
theorem cx_182 (ad : Nat → Nat) (G : Nat → Nat) (σ : Sg) : cell ad G σ 182 = .inl (G 4, 12, .inr (.inr (.inr (.inr (fun j => some (ad (183 + j))))))) := rfl
theorem cx_195 (ad : Nat → Nat) (G : Nat → Nat) (σ : Sg) : cell ad G σ 195 = .inl (G 4, 5, .inr (.inr (.inr (.inr (fun j => some (ad (196 + j))))))) := rfl
theorem cx_201 (ad : Nat → Nat) (G : Nat → Nat) (σ : Sg) : cell ad G σ 201 = .inl (G 1, 30, .inr (.inl (fJ (σ 224)))) := rfl
theorem cx_202 (ad : Nat → Nat) (G : Nat → Nat) (σ : Sg) : cell ad G σ 202 = .inl (G 4, 30, .inr (.inr (.inr (.inr (fun j => some (ad (203 + j))))))) := rfl
theorem cx_240 (ad : Nat → Nat) (G : Nat → Nat) (σ : Sg) : cell ad G σ 240 = .inl (G 1, 1, .inr (.inl (fJ (σ 270)))) := rfl
theorem cx_lo (ad : Nat → Nat) (G : Nat → Nat) (σ : Sg) {j : Nat} (hj : j < 11) : cell ad G σ (26 + 5 * j) = .inr (5, [.ref (ad (26 + 5 * j + 1)), .ref (ad (26 + 5 * j + 2)), .ref (ad (26 + 5 * j + 3)), .ref (ad (26 + 5 * j + 4)), .int (iI (σ (40 + 6 * j + 4) 0)), .int (iI (σ (40 + 6 * j + 5) 0))]) := by
  unfold cell
  rw [if_neg (by omega), if_pos (by omega), show (26 + 5 * j - 26) / 5 = j by omega, show (26 + 5 * j - 26) % 5 = 0 by omega]
  rfl
theorem cx_lm (ad : Nat → Nat) (G : Nat → Nat) (σ : Sg) {j : Nat} (hj : j < 11) : cell ad G σ (26 + 5 * j + 1) = .inl (G 0, 18, .inl (fI (σ (40 + 6 * j)))) := by
  unfold cell
  rw [if_neg (by omega), if_pos (by omega), show (26 + 5 * j + 1 - 26) / 5 = j by omega, show (26 + 5 * j + 1 - 26) % 5 = 1 by omega]
  rfl
theorem cx_lt (ad : Nat → Nat) (G : Nat → Nat) (σ : Sg) {j : Nat} (hj : j < 11) : cell ad G σ (26 + 5 * j + 2) = .inl (G 2, 18, .inl (fI (σ (40 + 6 * j + 1)))) := by
  unfold cell
  rw [if_neg (by omega), if_pos (by omega), show (26 + 5 * j + 2 - 26) / 5 = j by omega, show (26 + 5 * j + 2 - 26) % 5 = 2 by omega]
  rfl
theorem cx_lr (ad : Nat → Nat) (G : Nat → Nat) (σ : Sg) {j : Nat} (hj : j < 11) : cell ad G σ (26 + 5 * j + 3) = .inl (G 0, 18, .inl (fI (σ (40 + 6 * j + 2)))) := by
  unfold cell
  rw [if_neg (by omega), if_pos (by omega), show (26 + 5 * j + 3 - 26) / 5 = j by omega, show (26 + 5 * j + 3 - 26) % 5 = 3 by omega]
  rfl
theorem cx_lp (ad : Nat → Nat) (G : Nat → Nat) (σ : Sg) {j : Nat} (hj : j < 11) : cell ad G σ (26 + 5 * j + 4) = .inl (G 2, 18, .inl (fI (σ (40 + 6 * j + 3)))) := by
  unfold cell
  rw [if_neg (by omega), if_pos (by omega), show (26 + 5 * j + 4 - 26) / 5 = j by omega, show (26 + 5 * j + 4 - 26) % 5 = 4 by omega]
  rfl
theorem cx_li (ad : Nat → Nat) (G : Nat → Nat) (σ : Sg) {i : Nat} (hi : i < 12) : cell ad G σ (104 + i) = .inl (G 0, 75, .inl (fI (σ (240 + i)))) := by
  unfold cell
  rw [if_neg (by omega), if_neg (by omega), if_neg (by omega), if_pos (by omega), show 104 + i - 104 = i by omega]
theorem cx_ts (ad : Nat → Nat) (G : Nat → Nat) (σ : Sg) {i : Nat} (hi : i < 64) : cell ad G σ (118 + i) = .inl (G 0, 4, .inl (rowF σ 211 4 (i : Int))) := by
  unfold cell
  rw [if_neg (by omega), if_neg (by omega), if_neg (by omega), if_neg (by omega), if_neg (by omega), if_neg (by omega), if_pos (by omega), show 118 + i - 118 = i by omega]
theorem cx_tr (ad : Nat → Nat) (G : Nat → Nat) (σ : Sg) {i : Nat} (hi : i < 12) : cell ad G σ (183 + i) = .inl (G 0, 75, .inl (fI (σ (255 + i)))) := by
  unfold cell
  rw [if_neg (by omega), if_neg (by omega), if_neg (by omega), if_neg (by omega), if_neg (by omega), if_neg (by omega), if_neg (by omega), if_neg (by omega), if_pos (by omega), show 183 + i - 183 = i by omega]
theorem cx_ki (ad : Nat → Nat) (G : Nat → Nat) (σ : Sg) {i : Nat} (hi : i < 5) : cell ad G σ (196 + i) = .inl (G 0, 2, .inl (rowF σ 217 2 (i : Int))) := by
  unfold cell
  rw [if_neg (by omega), if_neg (by omega), if_neg (by omega), if_neg (by omega), if_neg (by omega), if_neg (by omega), if_neg (by omega), if_neg (by omega), if_neg (by omega), if_neg (by omega), if_pos (by omega), show 196 + i - 196 = i by omega]
theorem cx_pg (ad : Nat → Nat) (G : Nat → Nat) (σ : Sg) {i : Nat} (hi : i < 30) : cell ad G σ (203 + i) = .inl (G 0, 2, .inl (rowF σ 225 2 (i : Int))) := by
  unfold cell
  rw [if_neg (by omega), if_neg (by omega), if_neg (by omega), if_neg (by omega), if_neg (by omega), if_neg (by omega), if_neg (by omega), if_neg (by omega), if_neg (by omega), if_neg (by omega), if_neg (by omega), if_neg (by omega), if_neg (by omega), if_pos (by omega), show 203 + i - 203 = i by omega]
/-- which cell a register lies in -/
def own (r : Nat) : Nat := if r < 40 then ([999, 2, 1, 1, 1, 3, 3, 3, 3, 4, 5, 6, 7, 8, 9, 11, 12, 15, 16, 13, 13, 13, 13, 13, 18, 19, 20, 17, 22, 23, 21, 999, 999, 999, 999, 999, 999, 999, 999, 999] : List Nat).getD r 999 else if r < 106 then 26 + 5 * ((r - 40) / 6) + ([1, 2, 3, 4, 0, 0] : List Nat).getD ((r - 40) % 6) 0 else if r < 200 then 999 else if r < 240 then ([999, 101, 100, 100, 101, 100, 100, 100, 100, 100, 116, 999, 999, 999, 999, 999, 999, 999, 999, 100, 100, 100, 100, 100, 201, 999, 999, 100, 102, 102, 100, 100, 100, 100, 999, 999, 999, 999, 999, 999] : List Nat).getD (r - 200) 999 else if r < 252 then 104 + (r - 240) else if r < 255 then 999 else if r < 267 then 183 + (r - 255) else if r = 270 then 240 else 999
/-- cell k speaks of the whole register r -/
def dp (k r : Nat) : Prop := own r = k ∨ (k = 101 ∧ (r = 202 ∨ r = 203))
/-- cell k speaks of the place i of register r -/
def dq (k r i : Nat) : Prop := (k = 118 + i ∧ 211 ≤ r ∧ r < 215) ∨ (k = 196 + i ∧ 217 ≤ r ∧ r < 219) ∨ (k = 203 + i ∧ 225 ≤ r ∧ r < 227)
theorem own_list {j i : Nat} (hj : j < 11) (hi : i < 6) : own (40 + 6 * j + i) = 26 + 5 * j + ([1, 2, 3, 4, 0, 0] : List Nat).getD i 0 := by
  unfold own
  rw [if_neg (by omega), if_pos (by omega), show (40 + 6 * j + i - 40) / 6 = j by omega, show (40 + 6 * j + i - 40) % 6 = i by omega]
theorem own_li {i : Nat} (hi : i < 12) : own (240 + i) = 104 + i := by
  unfold own
  rw [if_neg (by omega), if_neg (by omega), if_neg (by omega), if_neg (by omega), if_pos (by omega), show 240 + i - 240 = i by omega]
theorem own_tr {i : Nat} (hi : i < 12) : own (255 + i) = 183 + i := by
  unfold own
  rw [if_neg (by omega), if_neg (by omega), if_neg (by omega), if_neg (by omega), if_neg (by omega), if_neg (by omega), if_pos (by omega), show 255 + i - 255 = i by omega]
theorem cd_0 (ad : Nat → Nat) (G : Nat → Nat) {σ σ1 : Sg} (h : ∀ r, dp 0 r → σ1 r = σ r) : cell ad G σ1 0 = cell ad G σ 0 := by
  rw [cx_0, cx_0]
theorem cd_1 (ad : Nat → Nat) (G : Nat → Nat) {σ σ1 : Sg} (h : ∀ r, dp 1 r → σ1 r = σ r) : cell ad G σ1 1 = cell ad G σ 1 := by
  rw [cx_1, cx_1]
  rw [h 2 (Or.inl rfl), h 3 (Or.inl rfl), h 4 (Or.inl rfl)]
theorem cd_2 (ad : Nat → Nat) (G : Nat → Nat) {σ σ1 : Sg} (h : ∀ r, dp 2 r → σ1 r = σ r) : cell ad G σ1 2 = cell ad G σ 2 := by
  rw [cx_2, cx_2]
  rw [h 1 (Or.inl rfl)]
theorem cd_3 (ad : Nat → Nat) (G : Nat → Nat) {σ σ1 : Sg} (h : ∀ r, dp 3 r → σ1 r = σ r) : cell ad G σ1 3 = cell ad G σ 3 := by
  rw [cx_3, cx_3]
  rw [h 5 (Or.inl rfl), h 6 (Or.inl rfl), h 7 (Or.inl rfl), h 8 (Or.inl rfl)]
theorem cd_4 (ad : Nat → Nat) (G : Nat → Nat) {σ σ1 : Sg} (h : ∀ r, dp 4 r → σ1 r = σ r) : cell ad G σ1 4 = cell ad G σ 4 := by
  rw [cx_4, cx_4]
  rw [h 9 (Or.inl rfl)]
theorem cd_5 (ad : Nat → Nat) (G : Nat → Nat) {σ σ1 : Sg} (h : ∀ r, dp 5 r → σ1 r = σ r) : cell ad G σ1 5 = cell ad G σ 5 := by
  rw [cx_5, cx_5]
  rw [h 10 (Or.inl rfl)]
theorem cd_6 (ad : Nat → Nat) (G : Nat → Nat) {σ σ1 : Sg} (h : ∀ r, dp 6 r → σ1 r = σ r) : cell ad G σ1 6 = cell ad G σ 6 := by
  rw [cx_6, cx_6]
  rw [h 11 (Or.inl rfl)]
theorem cd_7 (ad : Nat → Nat) (G : Nat → Nat) {σ σ1 : Sg} (h : ∀ r, dp 7 r → σ1 r = σ r) : cell ad G σ1 7 = cell ad G σ 7 := by
  rw [cx_7, cx_7]
  rw [h 12 (Or.inl rfl)]
theorem cd_8 (ad : Nat → Nat) (G : Nat → Nat) {σ σ1 : Sg} (h : ∀ r, dp 8 r → σ1 r = σ r) : cell ad G σ1 8 = cell ad G σ 8 := by
  rw [cx_8, cx_8]
  rw [h 13 (Or.inl rfl)]
theorem cd_9 (ad : Nat → Nat) (G : Nat → Nat) {σ σ1 : Sg} (h : ∀ r, dp 9 r → σ1 r = σ r) : cell ad G σ1 9 = cell ad G σ 9 := by
  rw [cx_9, cx_9]
  rw [h 14 (Or.inl rfl)]
theorem cd_10 (ad : Nat → Nat) (G : Nat → Nat) {σ σ1 : Sg} (h : ∀ r, dp 10 r → σ1 r = σ r) : cell ad G σ1 10 = cell ad G σ 10 := by
  rw [cx_10, cx_10]
theorem cd_11 (ad : Nat → Nat) (G : Nat → Nat) {σ σ1 : Sg} (h : ∀ r, dp 11 r → σ1 r = σ r) : cell ad G σ1 11 = cell ad G σ 11 := by
  rw [cx_11, cx_11]
  rw [h 15 (Or.inl rfl)]
theorem cd_12 (ad : Nat → Nat) (G : Nat → Nat) {σ σ1 : Sg} (h : ∀ r, dp 12 r → σ1 r = σ r) : cell ad G σ1 12 = cell ad G σ 12 := by
  rw [cx_12, cx_12]
  rw [h 16 (Or.inl rfl)]
theorem cd_13 (ad : Nat → Nat) (G : Nat → Nat) {σ σ1 : Sg} (h : ∀ r, dp 13 r → σ1 r = σ r) : cell ad G σ1 13 = cell ad G σ 13 := by
  rw [cx_13, cx_13]
  rw [h 19 (Or.inl rfl), h 20 (Or.inl rfl), h 21 (Or.inl rfl), h 22 (Or.inl rfl), h 23 (Or.inl rfl)]
theorem cd_14 (ad : Nat → Nat) (G : Nat → Nat) {σ σ1 : Sg} (h : ∀ r, dp 14 r → σ1 r = σ r) : cell ad G σ1 14 = cell ad G σ 14 := by
  rw [cx_14, cx_14]
theorem cd_15 (ad : Nat → Nat) (G : Nat → Nat) {σ σ1 : Sg} (h : ∀ r, dp 15 r → σ1 r = σ r) : cell ad G σ1 15 = cell ad G σ 15 := by
  rw [cx_15, cx_15]
  rw [h 17 (Or.inl rfl)]
theorem cd_16 (ad : Nat → Nat) (G : Nat → Nat) {σ σ1 : Sg} (h : ∀ r, dp 16 r → σ1 r = σ r) : cell ad G σ1 16 = cell ad G σ 16 := by
  rw [cx_16, cx_16]
  rw [h 18 (Or.inl rfl)]
theorem cd_17 (ad : Nat → Nat) (G : Nat → Nat) {σ σ1 : Sg} (h : ∀ r, dp 17 r → σ1 r = σ r) : cell ad G σ1 17 = cell ad G σ 17 := by
  rw [cx_17, cx_17]
  rw [h 27 (Or.inl rfl)]
theorem cd_18 (ad : Nat → Nat) (G : Nat → Nat) {σ σ1 : Sg} (h : ∀ r, dp 18 r → σ1 r = σ r) : cell ad G σ1 18 = cell ad G σ 18 := by
  rw [cx_18, cx_18]
  rw [h 24 (Or.inl rfl)]
theorem cd_19 (ad : Nat → Nat) (G : Nat → Nat) {σ σ1 : Sg} (h : ∀ r, dp 19 r → σ1 r = σ r) : cell ad G σ1 19 = cell ad G σ 19 := by
  rw [cx_19, cx_19]
  rw [h 25 (Or.inl rfl)]
theorem cd_20 (ad : Nat → Nat) (G : Nat → Nat) {σ σ1 : Sg} (h : ∀ r, dp 20 r → σ1 r = σ r) : cell ad G σ1 20 = cell ad G σ 20 := by
  rw [cx_20, cx_20]
  rw [h 26 (Or.inl rfl)]
theorem cd_21 (ad : Nat → Nat) (G : Nat → Nat) {σ σ1 : Sg} (h : ∀ r, dp 21 r → σ1 r = σ r) : cell ad G σ1 21 = cell ad G σ 21 := by
  rw [cx_21, cx_21]
  rw [h 30 (Or.inl rfl)]
theorem cd_22 (ad : Nat → Nat) (G : Nat → Nat) {σ σ1 : Sg} (h : ∀ r, dp 22 r → σ1 r = σ r) : cell ad G σ1 22 = cell ad G σ 22 := by
  rw [cx_22, cx_22]
  rw [h 28 (Or.inl rfl)]
theorem cd_23 (ad : Nat → Nat) (G : Nat → Nat) {σ σ1 : Sg} (h : ∀ r, dp 23 r → σ1 r = σ r) : cell ad G σ1 23 = cell ad G σ 23 := by
  rw [cx_23, cx_23]
  rw [h 29 (Or.inl rfl)]
theorem cd_24 (ad : Nat → Nat) (G : Nat → Nat) {σ σ1 : Sg} (h : ∀ r, dp 24 r → σ1 r = σ r) : cell ad G σ1 24 = cell ad G σ 24 := by
  rw [cx_24, cx_24]
theorem cd_25 (ad : Nat → Nat) (G : Nat → Nat) {σ σ1 : Sg} (h : ∀ r, dp 25 r → σ1 r = σ r) : cell ad G σ1 25 = cell ad G σ 25 := by
  rw [cx_25, cx_25]
theorem cd_100 (ad : Nat → Nat) (G : Nat → Nat) {σ σ1 : Sg} (h : ∀ r, dp 100 r → σ1 r = σ r) : cell ad G σ1 100 = cell ad G σ 100 := by
  rw [cx_100, cx_100]
  simp only [h 202 (Or.inl rfl), h 203 (Or.inl rfl), h 205 (Or.inl rfl), h 206 (Or.inl rfl), h 207 (Or.inl rfl), h 208 (Or.inl rfl), h 209 (Or.inl rfl), h 219 (Or.inl rfl), h 220 (Or.inl rfl), h 221 (Or.inl rfl), h 222 (Or.inl rfl), h 223 (Or.inl rfl), h 227 (Or.inl rfl), h 230 (Or.inl rfl), h 231 (Or.inl rfl), h 232 (Or.inl rfl), h 233 (Or.inl rfl)]
theorem cd_101 (ad : Nat → Nat) (G : Nat → Nat) {σ σ1 : Sg} (h : ∀ r, dp 101 r → σ1 r = σ r) : cell ad G σ1 101 = cell ad G σ 101 := by
  rw [cx_101, cx_101]
  simp only [h 201 (Or.inl rfl), h 202 (Or.inr ⟨rfl, by decide⟩), h 203 (Or.inr ⟨rfl, by decide⟩), h 204 (Or.inl rfl)]
theorem cd_102 (ad : Nat → Nat) (G : Nat → Nat) {σ σ1 : Sg} (h : ∀ r, dp 102 r → σ1 r = σ r) : cell ad G σ1 102 = cell ad G σ 102 := by
  rw [cx_102, cx_102]
  simp only [h 228 (Or.inl rfl), h 229 (Or.inl rfl)]
theorem cd_103 (ad : Nat → Nat) (G : Nat → Nat) {σ σ1 : Sg} (h : ∀ r, dp 103 r → σ1 r = σ r) : cell ad G σ1 103 = cell ad G σ 103 := by
  rw [cx_103, cx_103]
theorem cd_116 (ad : Nat → Nat) (G : Nat → Nat) {σ σ1 : Sg} (h : ∀ r, dp 116 r → σ1 r = σ r) : cell ad G σ1 116 = cell ad G σ 116 := by
  rw [cx_116, cx_116]
  rw [h 210 (Or.inl rfl)]
theorem cd_117 (ad : Nat → Nat) (G : Nat → Nat) {σ σ1 : Sg} (h : ∀ r, dp 117 r → σ1 r = σ r) : cell ad G σ1 117 = cell ad G σ 117 := by
  rw [cx_117, cx_117]
theorem cd_182 (ad : Nat → Nat) (G : Nat → Nat) {σ σ1 : Sg} (h : ∀ r, dp 182 r → σ1 r = σ r) : cell ad G σ1 182 = cell ad G σ 182 := by
  rw [cx_182, cx_182]
theorem cd_195 (ad : Nat → Nat) (G : Nat → Nat) {σ σ1 : Sg} (h : ∀ r, dp 195 r → σ1 r = σ r) : cell ad G σ1 195 = cell ad G σ 195 := by
  rw [cx_195, cx_195]
theorem cd_201 (ad : Nat → Nat) (G : Nat → Nat) {σ σ1 : Sg} (h : ∀ r, dp 201 r → σ1 r = σ r) : cell ad G σ1 201 = cell ad G σ 201 := by
  rw [cx_201, cx_201]
  rw [h 224 (Or.inl rfl)]
theorem cd_202 (ad : Nat → Nat) (G : Nat → Nat) {σ σ1 : Sg} (h : ∀ r, dp 202 r → σ1 r = σ r) : cell ad G σ1 202 = cell ad G σ 202 := by
  rw [cx_202, cx_202]
theorem cell_dep (ad : Nat → Nat) (G : Nat → Nat) {σ σ1 : Sg} (k : Nat) (h : ∀ r, dp k r → σ1 r = σ r) (h2 : ∀ r i : Nat, dq k r i → σ1 r (i : Int) = σ r (i : Int)) (hk : k < 81 ∨ (100 ≤ k ∧ k < 233) ∨ k = 240) : cell ad G σ1 k = cell ad G σ k := by
  by_cases g1 : k < 26
  · match k, g1 with
    | 0, _ => exact cd_0 ad G h
    | 1, _ => exact cd_1 ad G h
    | 2, _ => exact cd_2 ad G h
    | 3, _ => exact cd_3 ad G h
    | 4, _ => exact cd_4 ad G h
    | 5, _ => exact cd_5 ad G h
    | 6, _ => exact cd_6 ad G h
    | 7, _ => exact cd_7 ad G h
    | 8, _ => exact cd_8 ad G h
    | 9, _ => exact cd_9 ad G h
    | 10, _ => exact cd_10 ad G h
    | 11, _ => exact cd_11 ad G h
    | 12, _ => exact cd_12 ad G h
    | 13, _ => exact cd_13 ad G h
    | 14, _ => exact cd_14 ad G h
    | 15, _ => exact cd_15 ad G h
    | 16, _ => exact cd_16 ad G h
    | 17, _ => exact cd_17 ad G h
    | 18, _ => exact cd_18 ad G h
    | 19, _ => exact cd_19 ad G h
    | 20, _ => exact cd_20 ad G h
    | 21, _ => exact cd_21 ad G h
    | 22, _ => exact cd_22 ad G h
    | 23, _ => exact cd_23 ad G h
    | 24, _ => exact cd_24 ad G h
    | 25, _ => exact cd_25 ad G h
    | n + 26, q => exact absurd q (by omega)
  by_cases g2 : k < 81
  · obtain ⟨j, i, hj, hi, rfl⟩ : ∃ j i, j < 11 ∧ i < 5 ∧ k = 26 + 5 * j + i := ⟨(k - 26) / 5, (k - 26) % 5, by omega, by omega, by omega⟩
    have ho := fun i hi => @own_list j i hj hi
    match i, hi with
    | 0, _ => rw [Nat.add_zero, cx_lo _ _ _ hj, cx_lo _ _ _ hj, h (40 + 6 * j + 4) (Or.inl (ho 4 (by decide))), h (40 + 6 * j + 5) (Or.inl (ho 5 (by decide)))]
    | 1, _ => rw [cx_lm _ _ _ hj, cx_lm _ _ _ hj, h (40 + 6 * j) (Or.inl (ho 0 (by decide)))]
    | 2, _ => rw [cx_lt _ _ _ hj, cx_lt _ _ _ hj, h (40 + 6 * j + 1) (Or.inl (ho 1 (by decide)))]
    | 3, _ => rw [cx_lr _ _ _ hj, cx_lr _ _ _ hj, h (40 + 6 * j + 2) (Or.inl (ho 2 (by decide)))]
    | 4, _ => rw [cx_lp _ _ _ hj, cx_lp _ _ _ hj, h (40 + 6 * j + 3) (Or.inl (ho 3 (by decide)))]
  have g3 : 100 ≤ k := by omega
  by_cases g4 : k < 104
  · obtain ⟨i, rfl⟩ : ∃ i, k = 100 + i := ⟨k - 100, by omega⟩
    match i, g4 with
    | 0, _ => exact cd_100 ad G h
    | 1, _ => exact cd_101 ad G h
    | 2, _ => exact cd_102 ad G h
    | 3, _ => exact cd_103 ad G h
    | n + 4, q => exact absurd q (by omega)
  by_cases g5 : k < 116
  · obtain ⟨i, hi, rfl⟩ : ∃ i, i < 12 ∧ k = 104 + i := ⟨k - 104, by omega, by omega⟩
    rw [cx_li _ _ _ hi, cx_li _ _ _ hi, h _ (Or.inl (own_li hi))]
  by_cases g6 : k = 116
  · subst g6; exact cd_116 ad G h
  by_cases g7 : k = 117
  · subst g7; exact cd_117 ad G h
  by_cases g8 : k < 182
  · obtain ⟨i, hi, rfl⟩ : ∃ i, i < 64 ∧ k = 118 + i := ⟨k - 118, by omega, by omega⟩
    rw [cx_ts _ _ _ hi, cx_ts _ _ _ hi, rowF_dep (fun j hj => h2 (211 + j) i (Or.inl ⟨rfl, by omega, by omega⟩))]
  by_cases g9 : k = 182
  · subst g9; exact cd_182 ad G h
  by_cases g10 : k < 195
  · obtain ⟨i, hi, rfl⟩ : ∃ i, i < 12 ∧ k = 183 + i := ⟨k - 183, by omega, by omega⟩
    rw [cx_tr _ _ _ hi, cx_tr _ _ _ hi, h _ (Or.inl (own_tr hi))]
  by_cases g11 : k = 195
  · subst g11; exact cd_195 ad G h
  by_cases g12 : k < 201
  · obtain ⟨i, hi, rfl⟩ : ∃ i, i < 5 ∧ k = 196 + i := ⟨k - 196, by omega, by omega⟩
    rw [cx_ki _ _ _ hi, cx_ki _ _ _ hi, rowF_dep (fun j hj => h2 (217 + j) i (Or.inr (Or.inl ⟨rfl, by omega, by omega⟩)))]
  by_cases g13 : k = 201
  · subst g13; exact cd_201 ad G h
  by_cases g14 : k = 202
  · subst g14; exact cd_202 ad G h
  by_cases g15 : k < 233
  · obtain ⟨i, hi, rfl⟩ : ∃ i, i < 30 ∧ k = 203 + i := ⟨k - 203, by omega, by omega⟩
    rw [cx_pg _ _ _ hi, cx_pg _ _ _ hi, rowF_dep (fun j hj => h2 (225 + j) i (Or.inr (Or.inr ⟨rfl, by omega, by omega⟩)))]
  have g16 : k = 240 := by omega
  subst g16
  rw [cx_240, cx_240, h 270 (Or.inl rfl)]
theorem oth_1 (ad : Nat → Nat) (G : Nat → Nat) (σ : Sg) {r k : Nat} (f : Fn) (ho : own r = k) (h : r ≠ 202 ∧ r ≠ 203 ∧ ¬ (211 ≤ r ∧ r < 215) ∧ ¬ (217 ≤ r ∧ r < 219) ∧ ¬ (225 ≤ r ∧ r < 227)) : ∀ j, (j < 81 ∨ (100 ≤ j ∧ j < 233) ∨ j = 240) → j ≠ k → cell ad G (upr σ r f) j = cell ad G σ j := by
  intro j hj hne
  refine cell_dep ad G j (fun q hq => upr_ne σ f ?_) (fun q i hq => ?_) hj
  · intro e
    subst e
    rcases hq with hq | ⟨-, hq⟩
    · exact hne (hq.symm.trans ho)
    · omega
  · rw [upr_ne]
    intro e
    subst e
    rcases hq with ⟨-, a, b⟩ | ⟨-, a, b⟩ | ⟨-, a, b⟩ <;> omega
theorem oth_2 (ad : Nat → Nat) (G : Nat → Nat) (σ : Sg) {r i b : Nat} (v : Int) (hb : (b = 118 ∧ 211 ≤ r ∧ r < 215 ∧ i < 64) ∨ (b = 196 ∧ 217 ≤ r ∧ r < 219 ∧ i < 5) ∨ (b = 203 ∧ 225 ≤ r ∧ r < 227 ∧ i < 30)) : ∀ j, (j < 81 ∨ (100 ≤ j ∧ j < 233) ∨ j = 240) → j ≠ b + i → cell ad G (upr σ r (ups (σ r) i v)) j = cell ad G σ j := by
  intro j hj hne
  have ho : own r = 999 := by
    rcases hb with ⟨-, h1, h2, -⟩ | ⟨-, h1, h2, -⟩ | ⟨-, h1, h2, -⟩
    · obtain rfl | rfl | rfl | rfl : r = 211 ∨ r = 212 ∨ r = 213 ∨ r = 214 := by omega
      all_goals rfl
    · obtain rfl | rfl : r = 217 ∨ r = 218 := by omega
      all_goals rfl
    · obtain rfl | rfl : r = 225 ∨ r = 226 := by omega
      all_goals rfl
  refine cell_dep ad G j (fun q hq => upr_ne σ _ ?_) (fun q n hq => ?_) hj
  · intro e
    subst e
    rcases hq with hq | ⟨-, hq⟩
    · omega
    · omega
  · by_cases e : q = r
    · subst e
      rw [upr_eq, ups_ne]
      intro e2
      have e3 : n = i := by omega
      subst e3
      unfold dq at hq
      omega
    · rw [upr_ne _ _ e]
