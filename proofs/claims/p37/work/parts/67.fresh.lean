/-! the fresh object's cells, in the order of the whole world -/
abbrev nU : Type := ((Nat → Nat) × (Nat → Nat)) × ((Nat → Nat → Nat) × (Nat → Nat)) × (Nat × Nat) × (Nat × Nat)
def W6 (b : Nat) (ca : Nat → ClassId) (u : nU) : va_W := (((([(b, .inr (6, [.ref u.2.2.1.1, .ref u.2.2.1.2, .ref u.2.2.2.1, .ref u.2.2.2.2]))] ++ zMW (nA u.2.2.1.1 u.1.1) ca zM0) ++ zMW (nA u.2.2.1.2 u.1.2) ca zM0) ++ zHW u.2.2.2.1 ca u.2.1.1) ++ zTB u.2.2.2.2 ca u.2.1.2)
def nAll (b : Nat) (u : nU) : Nat → Nat := fun i => if i < 19 then nA u.2.2.1.1 u.1.1 i else if i < 38 then nA u.2.2.1.2 u.1.2 (i - 19) else if i < 57 then u.2.1.1 0 (i - 38) else if i < 76 then u.2.1.1 1 (i - 57) else if i < 95 then u.2.1.1 2 (i - 76) else if i < 114 then u.2.1.1 3 (i - 95) else if i = 114 then b else if i = 115 then u.2.2.2.1 else if i = 116 then u.2.1.1 4 0 else if i = 117 then u.2.2.2.2 else u.2.1.2 (i - 118)
def nPos (i : Nat) : Nat := if i < 38 then i + 1 else if i < 114 then i + 3 else if i = 114 then 0 else if i = 115 then 39 else if i = 116 then 40 else i
def nInv (p : Nat) : Nat := if p = 0 then 114 else if p < 39 then p - 1 else if p = 39 then 115 else if p = 40 then 116 else if p < 117 then p - 3 else p
def zX0 : zM := fun c => if c = 3 then (fun _ => nI 11) else if c = 4 then (fun _ => (-100005)) else (fun _ => 0)
def zZ0 : Nat → zM := fun k => if k < 6 then zM0 else zX0
theorem nInv_pos {i : Nat} (hi : i < 122) : nPos i < 122 ∧ nInv (nPos i) = i := by
  unfold nPos
  by_cases h1 : i < 38
  · rw [if_pos h1]
    refine ⟨by omega, ?_⟩
    unfold nInv
    rw [if_neg (by omega), if_pos (by omega)]
    omega
  · rw [if_neg h1]
    by_cases h2 : i < 114
    · rw [if_pos h2]
      refine ⟨by omega, ?_⟩
      unfold nInv
      rw [if_neg (by omega), if_neg (by omega), if_neg (by omega), if_neg (by omega), if_pos (by omega)]
      omega
    · rw [if_neg h2]
      by_cases h3 : i = 114
      · subst h3
        decide
      · rw [if_neg h3]
        by_cases h4 : i = 115
        · subst h4
          decide
        · rw [if_neg h4]
          by_cases h5 : i = 116
          · subst h5
            decide
          · rw [if_neg h5]
            refine ⟨hi, ?_⟩
            unfold nInv
            rw [if_neg (by omega), if_neg (by omega), if_neg (by omega), if_neg (by omega), if_neg (by omega)]
set_option maxRecDepth 100000 in
set_option maxHeartbeats 4000000 in
theorem n_fst (b : Nat) (ca : Nat → ClassId) (u : nU) : (W6 b ca u).map Prod.fst = (List.range 122).map (fun p => nAll b u (nInv p)) := rfl
theorem n_at (b : Nat) (ca : Nat → ClassId) (u : nU) {i : Nat} (hi : i < 122) : ∃ e, (W6 b ca u)[nPos i]? = some (nAll b u i, e) := by
  obtain ⟨h1, h2⟩ := nInv_pos hi
  have h := congrArg (fun l => l[nPos i]?) (n_fst b ca u)
  simp only [List.getElem?_map, List.getElem?_range h1, Option.map_some, h2] at h
  cases hq : (W6 b ca u)[nPos i]? with
  | none =>
    rw [hq] at h
    cases h
  | some x =>
    rw [hq] at h
    exact ⟨x.2, by rw [← Option.some.inj h]⟩
theorem n_J {A : Nat → Prop} {b : Nat} {ca : Nat → ClassId} {u : nU} (hD : va_D A (W6 b ca u)) : zJ (nAll b u) := by
  intro i j hi hj e
  obtain ⟨e1, h1⟩ := n_at b ca u hi
  obtain ⟨e2, h2⟩ := n_at b ca u hj
  have h := hD.1 _ _ _ _ h1 h2 e
  have k1 := (nInv_pos hi).2
  rw [h, (nInv_pos hj).2] at k1
  exact k1.symm
theorem n_in {A : Nat → Prop} {b : Nat} {ca : Nat → ClassId} {u : nU} (hD : va_D A (W6 b ca u)) {q : Nat} (hq : zA (nAll b u) q) : A q := by
  obtain ⟨i, hi, rfl⟩ := hq
  obtain ⟨e1, h1⟩ := n_at b ca u hi
  exact hD.2 _ _ h1
set_option maxRecDepth 100000 in
set_option maxHeartbeats 8000000 in
theorem n_P {D : va_G} {b : Nat} {ca : Nat → ClassId} {u : nU} {H : Heap} (hP : va_P D vwCl (W6 b ca u) H) : va_P D vwCl (zW (nAll b u) ca zZ0) H := by
  have hP := nb_row (g := zRT (nAll b u) (19 * 0)) 2 (q := (nA u.2.2.1.1 u.1.1) 1) (n := 4) (c := ca 1) (f := zRT (nA u.2.2.1.1 u.1.1) 0) rfl (fun j hj => z4 (P := fun j => zRT (nA u.2.2.1.1 u.1.1) 0 j = zRT (nAll b u) (19 * 0) j) rfl rfl rfl rfl hj) hP
  have hP := nb_row (g := zRT (nAll b u) (19 * 1)) 21 (q := (nA u.2.2.1.2 u.1.2) 1) (n := 4) (c := ca 1) (f := zRT (nA u.2.2.1.2 u.1.2) 0) rfl (fun j hj => z4 (P := fun j => zRT (nA u.2.2.1.2 u.1.2) 0 j = zRT (nAll b u) (19 * 1) j) rfl rfl rfl rfl hj) hP
  have hP := nb_row (g := zRT (nAll b u) (19 * 2)) 42 (q := (u.2.1.1 0) 1) (n := 4) (c := ca 1) (f := zRT (u.2.1.1 0) 0) rfl (fun j hj => z4 (P := fun j => zRT (u.2.1.1 0) 0 j = zRT (nAll b u) (19 * 2) j) rfl rfl rfl rfl hj) hP
  have hP := nb_row (g := zRT (nAll b u) (19 * 3)) 61 (q := (u.2.1.1 1) 1) (n := 4) (c := ca 1) (f := zRT (u.2.1.1 1) 0) rfl (fun j hj => z4 (P := fun j => zRT (u.2.1.1 1) 0 j = zRT (nAll b u) (19 * 3) j) rfl rfl rfl rfl hj) hP
  have hP := nb_row (g := zRT (nAll b u) (19 * 4)) 80 (q := (u.2.1.1 2) 1) (n := 4) (c := ca 1) (f := zRT (u.2.1.1 2) 0) rfl (fun j hj => z4 (P := fun j => zRT (u.2.1.1 2) 0 j = zRT (nAll b u) (19 * 4) j) rfl rfl rfl rfl hj) hP
  have hP := nb_row (g := zRT (nAll b u) (19 * 5)) 99 (q := (u.2.1.1 3) 1) (n := 4) (c := ca 1) (f := zRT (u.2.1.1 3) 0) rfl (fun j hj => z4 (P := fun j => zRT (u.2.1.1 3) 0 j = zRT (nAll b u) (19 * 5) j) rfl rfl rfl rfl hj) hP
  have hP := nb_row (g := zRM (nAll b u)) 40 (q := u.2.1.1 4 0) (n := 4) (c := ca 2) (f := fun k => some (u.2.1.1 k 0)) rfl (fun j hj => z4 (P := fun j => (fun k => some (u.2.1.1 k 0)) j = zRM (nAll b u) j) rfl rfl rfl rfl hj) hP
  have e : ((((((((((((((W6 b ca u).set 2 ((nA u.2.2.1.1 u.1.1) 1, .inl (ca 1, 4, .inr (.inr (.inr (.inr (zRT (nAll b u) (19 * 0))))))))).set 21 ((nA u.2.2.1.2 u.1.2) 1, .inl (ca 1, 4, .inr (.inr (.inr (.inr (zRT (nAll b u) (19 * 1))))))))).set 42 ((u.2.1.1 0) 1, .inl (ca 1, 4, .inr (.inr (.inr (.inr (zRT (nAll b u) (19 * 2))))))))).set 61 ((u.2.1.1 1) 1, .inl (ca 1, 4, .inr (.inr (.inr (.inr (zRT (nAll b u) (19 * 3))))))))).set 80 ((u.2.1.1 2) 1, .inl (ca 1, 4, .inr (.inr (.inr (.inr (zRT (nAll b u) (19 * 4))))))))).set 99 ((u.2.1.1 3) 1, .inl (ca 1, 4, .inr (.inr (.inr (.inr (zRT (nAll b u) (19 * 5))))))))).set 40 (u.2.1.1 4 0, .inl (ca 2, 4, .inr (.inr (.inr (.inr (zRM (nAll b u)))))))) = (List.range 122).map (fun p => (nAll b u (nInv p), zE (nAll b u) ca zZ0 (nInv p))) := rfl
  rw [e] at hP
  refine nb_P hP fun q hq => ?_
  obtain ⟨i, hi⟩ := List.getElem?_of_mem hq
  obtain ⟨h1, rfl⟩ := zW_key i q hi
  obtain ⟨h2, h3⟩ := nInv_pos h1
  refine List.mem_map.mpr ⟨nPos i, List.mem_range.mpr h2, ?_⟩
  rw [h3]
