/-! rows of rows -/
theorem cl_X12_27 : Cond.classLink RX12 27 ("[" ++ (FieldType.array FieldType.int).toString) ∈ WA := wa_t 1087 (by decide +kernel) rfl
theorem vp_zero (c : ClassId) (K : Nat) : Jvm.Free.Multi.innerC c K (defaultValue .int) = vp_cell c (K, .inl (fI (fun _ => 0))) := arrV_new c K (.int 0)
abbrev rws (G : Nat → Nat) (n k : Nat) (r : Nat → Nat) : va_W := (List.range n).map (fun i => (r i, .inl (G 0, k, .inl (fI (fun _ => 0)))))
section XMN
variable {p : Program} {l : Launch} {e : Env} {R : Room} {s : State} {m : MethodId} {args : Array Value} {below : List Frame} {meth : Method} {c : Code} {H : Heap} {locs : List Loc} {cells slots mc ms : Nat} {Q : State → Prop}
variable {cc : ByteArray} {nL : Nat} {own : String} {D : va_G} {G : Nat → Nat} {A : Nat → Prop} {H0 : Heap} {ws : va_W} {pc : Nat} {ls : Array Slot} {rest : List Value}
theorem r_mna (C : Cx p s m meth c args cc nL own D G) (hAV : AV s) (hA : ∀ q, H0.size ≤ q → A q) (hM : XR D A H0 H locs ws) {idx : Nat} (hcw : Cond.classLink own idx ("[" ++ (FieldType.array FieldType.int).toString) ∈ WA) {z y : Int} (n k : Nat) (hz : z = (n : Int)) (hy : y = (k : Int)) (hn : n ≤ 1000) (hk : k ≤ 1000) (hc : cells + (1 + n) ≤ R.cells) (hs : slots + (n + n * k) ≤ R.slots) (hdg : decode cc pc = .ok (.multianewarray idx 2, 4))
    (kk : ∀ (q : Nat) (r : Nat → Nat) (H1 : Heap), XR D A H0 H1 locs (ws ++ [(q, .inl (G 4, n, .inr (.inr (.inr (.inr (fun i => if i < n then some (r i) else none))))))] ++ rws G n k r) → W p l e R s m args below meth c H1 locs (cells + 1 + n) (slots + n + n * k) Q (F0 m (pc + 4) ls (.ref q :: rest))) : W p l e R s m args below meth c H locs cells slots Q (F0 m pc ls (.int (iI y) :: .int (iI z) :: rest)) := by
  obtain ⟨hx, hb, hml, hown, hts, hK, hN, hlk⟩ := C
  subst hz
  subst hy
  have q1 := iI_n n hn
  have q2 := iI_n k hk
  have hcy : s.vm.findClass (FieldType.array FieldType.int).toString = some (G 0) := (hK.2 0 (G 0, .int) rfl).2
  refine va_mna (X := ws) (L := []) (f := fun _ => .inl (G 0, 0, .inl (fun _ => 0))) hx hb hown (hts _ hcw) hAV.2 (hts _ ac_int) hcy hK (by show va_P D vwCl (ws ++ []) H; rw [List.append_nil]; exact hM.1) (by show va_D A (ws ++ []); rw [List.append_nil]; exact hM.2.1) hM.2.2 hA q1.1 q2.1 q1.2 q2.2 (by omega) (by show k * 4 ≤ _; omega) (by omega) rfl rfl hc hs (fun c => vp_zero c k) hdg (fun q r cA H1 _ _ hK2 hP hD hS => ?_)
  have e1 := (hK2.2 (tysX G).length (cA, .array .int) (by rw [List.getElem?_append_right (Nat.le_refl _), Nat.sub_self]; rfl)).2
  have e2 := (hK.2 4 (G 4, .array .int) rfl).2
  have e3 : cA = G 4 := Option.some.inj (Eq.trans (Eq.symm e1) e2)
  subst e3
  have e4 : va_pl ([] ++ (List.range n).map r) (vr_up (fun _ => .inl (G 0, 0, .inl (fun _ => 0))) ((List.range n).map r) (.inl (G 0, (k, .inl (fI (fun _ => 0)))))) = rws G n k r := by
    unfold va_pl rws
    rw [List.nil_append, List.map_map]
    refine List.map_congr_left (fun i hi => ?_)
    show (r i, vr_up _ _ _ (r i)) = _
    rw [vr_up_in (List.mem_map.mpr ⟨i, hi, rfl⟩)]
  rw [e4] at hP hD
  exact kk q r H1 ⟨hP, hD, hS⟩
end XMN
