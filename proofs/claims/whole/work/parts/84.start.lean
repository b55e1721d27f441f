/-! the fresh object and the fresh reference -/
def zN0 : zM := fun c => if c = 3 ∨ c = 11 ∨ c = 18 ∨ c = 19 then (fun _ => 0) else zM0 c
set_option maxRecDepth 100000 in
theorem zN0_zen : ∀ j, j < 341 → zen zNI j = zen zN0 j := by decide +kernel
theorem zI0 {n : Nat} (h : 0 < n) (hn : n ≤ 2 ^ 31) : zIn 0 n := zIn_nI h hn
theorem z8b {P : Nat → Prop} (h0 : P 0) (h1 : P 1) (h2 : P 2) (h3 : P 3) (h4 : P 4) (h5 : P 5) (h6 : P 6) (h7 : P 7) : ∀ k, k < 8 → P k := by
  intro k hk
  match k, hk with
  | 0, _ => exact h0
  | 1, _ => exact h1
  | 2, _ => exact h2
  | 3, _ => exact h3
  | 4, _ => exact h4
  | 5, _ => exact h5
  | 6, _ => exact h6
  | 7, _ => exact h7
  | n + 8, h => exact absurd h (by omega)
theorem zN0_e {c : Nat} (h : ¬ (c = 3 ∨ c = 11 ∨ c = 18 ∨ c = 19)) : zN0 c = zM0 c := if_neg h
theorem sB_start : sB 0 zM0 zN0 := by
  refine ⟨⟨fun c h3 h11 h18 h19 => (zN0_e (by omega)).symm, ?_, ?_, rfl, ?_⟩, ⟨?_, ?_, ?_, ?_⟩, ⟨?_, ?_⟩, ?_, ?_, ?_, ?_, ⟨?_, by decide⟩, ?_, ?_⟩
  · intro t ht h
    exact absurd (show (0 : Int32) = nI 2 from h) (by decide)
  · intro p hp
    have e : nI 9 < zN0 10 p := (show nI 9 < nI 11 by decide)
    refine ⟨?_, ?_⟩
    · rw [if_pos e]
      rfl
    · rw [if_pos e]
      rfl
  · intro ago part h
    exact absurd (show ago < 0 from h) (Nat.not_lt_zero _)
  · exact fun t ht => zI0 (by decide) (by decide)
  · exact fun t ht => zI0 (by decide) (by decide)
  · exact zI0 (by decide) (by decide)
  · exact zI0 (by decide) (by decide)
  · intro t r ht hr
    have k : sh 0 := by unfold sh; decide
    exact z4 (P := fun t => sh (zN0 (t + 20) r)) k k k k ht
  · intro w hw
    show sh 0
    unfold sh
    decide
  · exact fun t ht => zI0 (by decide) (by decide)
  · intro t ht h
    exact absurd (show (0 : Int32) = nI 2 from h) (by decide)
  · exact fun t ht => zI0 (by decide) (by decide)
  · exact z8b (P := fun k => zIn (zN0 14 k) 4) (zIn_nI (j := 0) (by decide) (by decide)) (zIn_nI (j := 1) (by decide) (by decide)) (zIn_nI (j := 2) (by decide) (by decide)) (zIn_nI (j := 3) (by decide) (by decide)) (zIn_nI (j := 0) (by decide) (by decide)) (zIn_nI (j := 1) (by decide) (by decide)) (zIn_nI (j := 2) (by decide) (by decide)) (zIn_nI (j := 3) (by decide) (by decide))
  · exact zI0 (by decide) (by decide)
  · intro p hp
    show pOK (nI 11) 0 0
    refine ⟨fun _ => zI0 (by decide) (by decide), fun _ => zI0 (by decide) (by decide), fun _ => zI0 (by decide) (by decide), fun _ => zI0 (by decide) (by decide), fun _ => by decide, zIn_nI (by decide) (by decide)⟩
  · exact zI0 (by decide) (by decide)
