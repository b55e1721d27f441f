/-! cells that hold the same numbers are the same cells -/
def zlen (c : Nat) : Nat := if c < 10 then 4 else if c = 10 then 50 else if c = 11 then 100 else if c = 12 then 48 else if c = 13 then 32 else if c = 14 then 8 else if c = 15 then 2 else if c < 18 then 1 else if c = 18 then 2 else if c = 19 then 48 else if c < 24 then 4 else 0
def xlen (c : Nat) : Nat := if c = 0 then 2 else if c = 1 then 4 else if c = 2 then 100 else if c = 3 then 50 else 100
theorem zkey {c : ClassId} {n : Nat} {f g : Nat → Int32} (e : ∀ j, j < n → f j = g j) : arrV c n (fun j => .int (f j)) = arrV c n (fun j => .int (g j)) := by
  unfold arrV
  congr 2
  funext j
  exact congrArg Value.int (e j.val j.isLt)
theorem zME_congr {D : va_G} {a : Nat → Nat} {ca : Nat → ClassId} {b q : Nat} {M M' : zM} {H : Heap} (h : ∀ c i, i < zlen c → M c i = M' c i) : ∀ j, j < 19 → va_at D vwCl (q, zME a ca b M j) H → va_at D vwCl (q, zME a ca b M' j) H := by
  have e0 : zMF a b M = zMF a b M' := by
    unfold zMF
    rw [h 16 0 (by decide), h 17 0 (by decide)]
  have et : ∀ t, t < 4 → zTF a b M t = zTF a b M' t := by
    intro t ht
    unfold zTF
    rw [h 0 t ht, h 1 t ht, h 2 t ht, h 3 t ht, h 4 t ht, h 5 t ht, h 6 t ht, h 7 t ht, h 8 t ht, h 9 t ht]
  have e17 : zCF a b M = zCF a b M' := by
    unfold zCF
    rw [h 18 0 (by decide), h 18 1 (by decide)]
  refine z19 ?_ ?_ ?_ ?_ ?_ ?_ ?_ ?_ ?_ ?_ ?_ ?_ ?_ ?_ ?_ ?_ ?_ ?_ ?_
  · intro h0
    show va_at D vwCl (q, .inr (3, zMF a b M')) H
    rw [← e0]
    exact h0
  · exact fun h0 => h0
  · intro h0
    show va_at D vwCl (q, .inr (0, zTF a b M' 0)) H
    rw [← et 0 (by decide)]
    exact h0
  · intro h0
    show va_at D vwCl (q, .inr (0, zTF a b M' 1)) H
    rw [← et 1 (by decide)]
    exact h0
  · intro h0
    show va_at D vwCl (q, .inr (0, zTF a b M' 2)) H
    rw [← et 2 (by decide)]
    exact h0
  · intro h0
    show va_at D vwCl (q, .inr (0, zTF a b M' 3)) H
    rw [← et 3 (by decide)]
    exact h0
  · intro h0
    show H[q]? = some (arrV (ca 0) 4 (fun j => .int (M' 20 j)))
    rw [← zkey (n := 4) (f := M 20) (g := M' 20) (fun j hj => h 20 j hj)]
    exact h0
  · intro h0
    show H[q]? = some (arrV (ca 0) 4 (fun j => .int (M' 21 j)))
    rw [← zkey (n := 4) (f := M 21) (g := M' 21) (fun j hj => h 21 j hj)]
    exact h0
  · intro h0
    show H[q]? = some (arrV (ca 0) 4 (fun j => .int (M' 22 j)))
    rw [← zkey (n := 4) (f := M 22) (g := M' 22) (fun j hj => h 22 j hj)]
    exact h0
  · intro h0
    show H[q]? = some (arrV (ca 0) 4 (fun j => .int (M' 23 j)))
    rw [← zkey (n := 4) (f := M 23) (g := M' 23) (fun j hj => h 23 j hj)]
    exact h0
  · exact fun h0 => h0
  · intro h0
    show H[q]? = some (arrV (ca 0) 50 (fun j => .int (M' 10 j)))
    rw [← zkey (n := 50) (f := M 10) (g := M' 10) (fun j hj => h 10 j hj)]
    exact h0
  · intro h0
    show H[q]? = some (arrV (ca 0) 100 (fun j => .int (M' 11 j)))
    rw [← zkey (n := 100) (f := M 11) (g := M' 11) (fun j hj => h 11 j hj)]
    exact h0
  · intro h0
    show H[q]? = some (arrV (ca 0) 48 (fun j => .int (M' 12 j)))
    rw [← zkey (n := 48) (f := M 12) (g := M' 12) (fun j hj => h 12 j hj)]
    exact h0
  · intro h0
    show H[q]? = some (arrV (ca 0) 32 (fun j => .int (M' 13 j)))
    rw [← zkey (n := 32) (f := M 13) (g := M' 13) (fun j hj => h 13 j hj)]
    exact h0
  · intro h0
    show H[q]? = some (arrV (ca 0) 8 (fun j => .int (M' 14 j)))
    rw [← zkey (n := 8) (f := M 14) (g := M' 14) (fun j hj => h 14 j hj)]
    exact h0
  · intro h0
    show H[q]? = some (arrV (ca 0) 2 (fun j => .int (M' 15 j)))
    rw [← zkey (n := 2) (f := M 15) (g := M' 15) (fun j hj => h 15 j hj)]
    exact h0
  · intro h0
    show va_at D vwCl (q, .inr (5, zCF a b M')) H
    rw [← e17]
    exact h0
  · intro h0
    show H[q]? = some (arrV (ca 0) 48 (fun j => .int (M' 19 j)))
    rw [← zkey (n := 48) (f := M 19) (g := M' 19) (fun j hj => h 19 j hj)]
    exact h0
theorem zTE_congr {D : va_G} {a : Nat → Nat} {ca : Nat → ClassId} {q : Nat} {X X' : zM} {H : Heap} (h : ∀ c i, i < xlen c → X c i = X' c i) : ∀ j, 114 ≤ j → j < 122 → va_at D vwCl (q, zTE a ca X j) H → va_at D vwCl (q, zTE a ca X' j) H := by
  have e1 : zHF a X = zHF a X' := by
    unfold zHF
    rw [h 0 0 (by decide), h 0 1 (by decide)]
  have e2 : zXF a X = zXF a X' := by
    unfold zXF
    rw [h 1 0 (by decide), h 1 1 (by decide), h 1 2 (by decide), h 1 3 (by decide)]
  refine z8 ?_ ?_ ?_ ?_ ?_ ?_ ?_ ?_
  · exact fun h0 => h0
  · intro h0
    show va_at D vwCl (q, .inr (1, zHF a X')) H
    rw [← e1]
    exact h0
  · exact fun h0 => h0
  · intro h0
    show va_at D vwCl (q, .inr (4, zXF a X')) H
    rw [← e2]
    exact h0
  · intro h0
    show H[q]? = some (arrV (ca 3) 100 (fun j => .int (X' 2 j)))
    rw [← zkey (n := 100) (f := X 2) (g := X' 2) (fun j hj => h 2 j hj)]
    exact h0
  · exact fun h0 => h0
  · intro h0
    show H[q]? = some (arrV (ca 0) 50 (fun j => .int (X' 3 j)))
    rw [← zkey (n := 50) (f := X 3) (g := X' 3) (fun j hj => h 3 j hj)]
    exact h0
  · intro h0
    show H[q]? = some (arrV (ca 0) 100 (fun j => .int (X' 4 j)))
    rw [← zkey (n := 100) (f := X 4) (g := X' 4) (fun j hj => h 4 j hj)]
    exact h0
theorem zP_congr {D : va_G} {a : Nat → Nat} {ca : Nat → ClassId} {Z Z' : Nat → zM} {H : Heap} (h : ∀ k, k < 6 → ∀ c i, i < zlen c → Z k c i = Z' k c i) (hX : ∀ c i, i < xlen c → Z 6 c i = Z' 6 c i) (hP : va_P D vwCl (zW a ca Z) H) : va_P D vwCl (zW a ca Z') H := by
  intro i q hq
  obtain ⟨hi, rfl⟩ := zW_key i q hq
  have h0 := hP i _ (zW_get hi)
  unfold zE at h0 ⊢
  by_cases h1 : i < 114
  · rw [if_pos h1] at h0 ⊢
    exact zME_congr (h (i / 19) (by omega)) (i % 19) (by omega) h0
  · rw [if_neg h1] at h0 ⊢
    exact zTE_congr hX i (by omega) hi h0
