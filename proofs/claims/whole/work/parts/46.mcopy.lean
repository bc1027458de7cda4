theorem wm_copy : Cond.methodLink RX12 226 arraycopyName ∈ WA := wa_t 1251 (by decide +kernel) rfl
theorem wt_copy : Cond.static arraycopyName ∈ WA := wa_t 1252 (by decide +kernel) rfl
theorem wv_copy : Cond.native arraycopyName ∈ WA := wa_t 1253 (by decide +kernel) rfl
theorem wn_copy : Cond.initialized "java/lang/System" ∈ WA := wa_t 20 (by decide +kernel) rfl
theorem nfw : nativeFrameWords "java/lang/System" "arraycopy" 5 + 11 ≤ 40 := by decide
section XC
variable {p : Program} {l : Launch} {e : Env} {s : State} {m : MethodId} {args : Array Value} {below : List Frame} {meth : Method} {c : Code} {H : Heap} {locs : List Loc} {cells slots : Nat} {Q : State → Prop}
variable {cc : ByteArray} {nL : Nat} {D : va_G} {ad : Nat → Nat} {G : Nat → Nat} {ids : List Nat} {σ : Sg} {pc : Nat} {ls : Array Slot} {A : Nat → Prop} {H0 : Heap}
theorem x_cpy {h : Nat} (C : Cx p s m meth c args cc nL RX12 D G) (hM : XI D ad G ids A H0 H locs σ) (hls : ls.size = nL) (hk : 102 ∈ ids) (hh : 1 ≤ h) (hdg : decode cc pc = .ok (.invokestatic 226, 3))
    (kk : ∀ (H1 : Heap) (locs1 : List Loc), XI D ad G ids A H0 H1 locs1 (upr (upr σ 228 (shF (σ 228) 39)) 229 (shF (σ 229) 39)) → W p l e (rmh h) s m args below meth c H1 locs1 cells slots Q (F0 m (pc + 3) ls [])) : W p l e (rmh h) s m args below meth c H locs cells slots Q (F0 m pc ls [.int (iI 78), .int (iI 0), .ref (ad 102), .int (iI 2), .ref (ad 102)]) := by
  obtain ⟨hx, hb, hml, hown, hts, hK, hN, hlk⟩ := C
  obtain ⟨q, hq⟩ := List.getElem?_of_mem hk
  have h2 := wg_get ad G σ hq
  have hc := cx_102 ad G σ
  rw [hc] at h2
  have hnew : cell ad G (upr (upr σ 228 (shF (σ 228) 39)) 229 (shF (σ 229) 39)) 102 = .inl (G 0, 80, .inl (va_cpy (fun j => iI (if j % 2 = 0 then σ 228 ((j / 2 : Nat) : Int) else σ 229 ((j / 2 : Nat) : Int))) (fun j => iI (if j % 2 = 0 then σ 228 ((j / 2 : Nat) : Int) else σ 229 ((j / 2 : Nat) : Int))) 2 0 78)) := by
    rw [cx_102]
    congr 4
    funext j
    unfold va_cpy
    dsimp only
    rw [upr_eq, upr_ne (upr σ 228 (shF (σ 228) 39)) (r := 229) (q := 228) _ (by decide), upr_eq]
    unfold shF
    by_cases e2 : j % 2 = 0
    · by_cases e : j < 78
      · rw [if_pos e2, if_pos (show 0 ≤ ((j / 2 : Nat) : Int) ∧ ((j / 2 : Nat) : Int) < 39 by omega), if_pos (show 0 ≤ j ∧ j < 0 + 78 by omega), if_pos (show (2 + (j - 0)) % 2 = 0 by omega), show (((2 + (j - 0)) / 2 : Nat) : Int) = ((j / 2 : Nat) : Int) + 1 by omega]
      · rw [if_pos e2, if_neg (show ¬ (0 ≤ ((j / 2 : Nat) : Int) ∧ ((j / 2 : Nat) : Int) < 39) by omega), if_neg (show ¬ (0 ≤ j ∧ j < 0 + 78) by omega), if_pos e2]
    · by_cases e : j < 78
      · rw [if_neg e2, if_pos (show 0 ≤ ((j / 2 : Nat) : Int) ∧ ((j / 2 : Nat) : Int) < 39 by omega), if_pos (show 0 ≤ j ∧ j < 0 + 78 by omega), if_neg (show ¬ (2 + (j - 0)) % 2 = 0 by omega), show (((2 + (j - 0)) / 2 : Nat) : Int) = ((j / 2 : Nat) : Int) + 1 by omega]
      · rw [if_neg e2, if_neg (show ¬ (0 ≤ ((j / 2 : Nat) : Int) ∧ ((j / 2 : Nat) : Int) < 39) by omega), if_neg (show ¬ (0 ≤ j ∧ j < 0 + 78) by omega), if_neg e2]
  refine va_copyi (rest := []) hx hb (hml.trans hls.symm) hown (hts _ wm_copy) (hts _ wv_copy) (hts _ wt_copy) (hts _ wn_copy) hK hM.1 hM.2.1 hM.2.2.1 q q 0 0 h2 h2 (ty := .int) rfl rfl rfl (by decide) (by decide) (by decide) (by decide) (by decide) (fun i _ => rfl) hh (by have := nfw; show 0 + (nativeFrameWords "java/lang/System" "arraycopy" 5 + 11) ≤ 40 * h; omega) hdg (fun H1 locs1 hP hD hS => ?_)
  rw [show (iI 2).toNatClampNeg = 2 by decide, show (iI 0).toNatClampNeg = 0 by decide, show (iI 78).toNatClampNeg = 78 by decide, ← hnew, wg_set hq hM.2.1 (fun j hj hne => (oth_1 ad G _ (r := 229) (k := 102) _ rfl (by decide) j (hM.2.2.2 j hj) hne).trans (oth_1 ad G _ (r := 228) (k := 102) _ rfl (by decide) j (hM.2.2.2 j hj) hne))] at hP hD
  exact kk H1 locs1 ⟨hP, hD, hS, hM.2.2.2⟩
end XC
