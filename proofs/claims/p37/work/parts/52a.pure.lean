theorem z_ite {α : Type} {P : α → Prop} {c : Prop} [Decidable c] {x y : α} (h1 : c → P x) (h2 : ¬ c → P y) : P (if c then x else y) := by
  by_cases h : c
  · rw [if_pos h]
    exact h1 h
  · rw [if_neg h]
    exact h2 h
theorem zIn_up {x : Int32} {m n : Nat} (h : zIn x m) (hm : m ≤ n) : zIn x n := ⟨Nat.lt_of_lt_of_le h.1 hm, h.2⟩

