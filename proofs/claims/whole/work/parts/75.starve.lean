/-! the counting of starving threads -/
def q_cs1 (i : Nat) (b : Bool) (N : zM) : zM := if ((zu N 8 i (if b then (N 8 i) + (nI 1) else nI 0)) 8 i) ≤ ((zu N 8 i (if b then (N 8 i) + (nI 1) else nI 0)) 9 i) then zu (zu N 8 i (if b then (N 8 i) + (nI 1) else nI 0)) 9 i ((zu N 8 i (if b then (N 8 i) + (nI 1) else nI 0)) 9 i) else zu (zu N 8 i (if b then (N 8 i) + (nI 1) else nI 0)) 9 i ((zu N 8 i (if b then (N 8 i) + (nI 1) else nI 0)) 8 i)
def q_cs (iss : Int32) : Nat → Nat → zM → zM
  | 0, i, N => N
  | n + 1, i, N => q_cs iss n (i + 1) (if N 0 i = nI 1 then (if nI i = iss then q_cs1 i false N else q_cs1 i true N) else q_cs1 i false N)
def q_tail (own iss : Int32) (N : zM) : zM := hN_X7_cycles_lp 0 own iss 0 N
theorem q_cs_eq (own iss : Int32) : ∀ (n i : Nat) (N : zM), hN_X7_cycles_lp n own iss i N = q_tail own iss (q_cs iss n i N) := by
  intro n
  induction n with
  | zero => exact fun _ _ => rfl
  | succ n ih =>
    intro i N
    simp only [hN_X7_cycles_lp, q_cs]
    by_cases c : N 0 i = nI 1
    · rw [if_neg (fun q => q_rI.mp q c), if_pos c]
      by_cases c2 : nI i = iss
      · rw [if_pos c2, if_pos c2]
        unfold q_cs1
        by_cases c3 : ((zu N 8 i (nI 0)) 8 i) ≤ ((zu N 8 i (nI 0)) 9 i)
        · rw [if_pos c3, if_pos (show ((zu N 8 i (if false then (N 8 i) + (nI 1) else nI 0)) 8 i) ≤ ((zu N 8 i (if false then (N 8 i) + (nI 1) else nI 0)) 9 i) from c3)]
          exact ih _ _
        · rw [if_neg c3, if_neg (show ¬ ((zu N 8 i (if false then (N 8 i) + (nI 1) else nI 0)) 8 i) ≤ ((zu N 8 i (if false then (N 8 i) + (nI 1) else nI 0)) 9 i) from c3)]
          exact ih _ _
      · rw [if_neg c2, if_neg c2]
        unfold q_cs1
        by_cases c3 : ((zu N 8 i ((N 8 i) + (nI 1))) 8 i) ≤ ((zu N 8 i ((N 8 i) + (nI 1))) 9 i)
        · rw [if_pos c3, if_pos (show ((zu N 8 i (if true then (N 8 i) + (nI 1) else nI 0)) 8 i) ≤ ((zu N 8 i (if true then (N 8 i) + (nI 1) else nI 0)) 9 i) from c3)]
          exact ih _ _
        · rw [if_neg c3, if_neg (show ¬ ((zu N 8 i (if true then (N 8 i) + (nI 1) else nI 0)) 8 i) ≤ ((zu N 8 i (if true then (N 8 i) + (nI 1) else nI 0)) 9 i) from c3)]
          exact ih _ _
    · rw [if_pos (q_rI.mpr c), if_neg c]
      unfold q_cs1
      by_cases c3 : ((zu N 8 i (nI 0)) 8 i) ≤ ((zu N 8 i (nI 0)) 9 i)
      · rw [if_pos c3, if_pos (show ((zu N 8 i (if false then (N 8 i) + (nI 1) else nI 0)) 8 i) ≤ ((zu N 8 i (if false then (N 8 i) + (nI 1) else nI 0)) 9 i) from c3)]
        exact ih _ _
      · rw [if_neg c3, if_neg (show ¬ ((zu N 8 i (if false then (N 8 i) + (nI 1) else nI 0)) 8 i) ≤ ((zu N 8 i (if false then (N 8 i) + (nI 1) else nI 0)) 9 i) from c3)]
        exact ih _ _
theorem q_max {a b : Int32} : (if b < a then a else b) = (if a ≤ b then b else a) := by
  by_cases c : a ≤ b
  · rw [if_pos c, if_neg (Int32.not_lt.mpr c)]
  · rw [if_neg c, if_pos (Int32.not_le.mp c)]
theorem sim_cc {M N : zM} {i : Nat} (h : sim M N) (b : Bool) : sim (h_X0_countCycle i (if b then nI 1 else nI 0) M) (q_cs1 i b N) := by
  have e8 := h.e (c := 8) (by decide) (by decide) (by decide) (by decide) i
  have step : ∀ x, sim (zu (zu M 8 i x) 9 i (if ((zu M 8 i x) 9 i) < ((zu M 8 i x) 8 i) then ((zu M 8 i x) 8 i) else ((zu M 8 i x) 9 i))) (if ((zu N 8 i x) 8 i) ≤ ((zu N 8 i x) 9 i) then zu (zu N 8 i x) 9 i ((zu N 8 i x) 9 i) else zu (zu N 8 i x) 9 i ((zu N 8 i x) 8 i)) := by
    intro x
    have h8 : sim (zu M 8 i x) (zu N 8 i x) := sim_zu h (by decide) (by decide) (by decide) (by decide) (by decide) (by decide)
    rw [h8.e (c := 9) (by decide) (by decide) (by decide) (by decide) i, h8.e (c := 8) (by decide) (by decide) (by decide) (by decide) i, q_max]
    by_cases c : ((zu N 8 i x) 8 i) ≤ ((zu N 8 i x) 9 i)
    · rw [if_pos c, if_pos c]
      exact sim_zu h8 (by decide) (by decide) (by decide) (by decide) (by decide) (by decide)
    · rw [if_neg c, if_neg c]
      exact sim_zu h8 (by decide) (by decide) (by decide) (by decide) (by decide) (by decide)
  unfold h_X0_countCycle q_cs1
  cases b with
  | false =>
    rw [if_pos (show (if false then nI 1 else nI 0 : Int32) = 0 by decide)]
    exact step (nI 0)
  | true =>
    rw [if_neg (show ¬ (if true then nI 1 else nI 0 : Int32) = 0 by decide), e8]
    exact step ((N 8 i) + (nI 1))
theorem iR_eq {x y : Int32} (h : iR x y) {i : Nat} (hi : i < 4) : nI i = x ↔ nI i = y := by
  rcases h with ⟨h1, h2⟩ | ⟨t, ht, h1, h2⟩
  · subst h1
    subst h2
    exact ⟨fun q => absurd q (q_t5 hi), fun q => absurd q (q_t1 hi)⟩
  · rw [h1, h2]
theorem sh_cs1 {N : zM} {i : Nat} {b : Bool} (h : shOK N) : shOK (q_cs1 i b N) := by
  unfold q_cs1
  exact z_ite (P := shOK) (fun _ => sh_zu (sh_zu h (by omega) (by decide)) (by omega) (by decide)) (fun _ => sh_zu (sh_zu h (by omega) (by decide)) (by omega) (by decide))
theorem sim_cs {x y : Int32} (hx : iR x y) : ∀ (n i : Nat) (M N : zM), i + n = 4 → sim M N → shOK N → sim (h_X3_countStarving_lp x n i M) (q_cs y n i N) ∧ shOK (q_cs y n i N) := by
  intro n
  induction n with
  | zero => exact fun _ _ _ _ h hs => ⟨h, hs⟩
  | succ n ih =>
    intro i M N hn h hs
    have e0 := h.e (c := 0) (by decide) (by decide) (by decide) (by decide) i
    simp only [h_X3_countStarving_lp, q_cs]
    rw [e0]
    by_cases c : N 0 i = nI 1
    · rw [if_pos c, if_pos c]
      by_cases c2 : nI i = y
      · rw [if_pos ((iR_eq hx (by omega)).mpr c2), if_pos c2]
        exact ih _ _ _ (by omega) (sim_cc h false) (sh_cs1 hs)
      · rw [if_neg (fun q => c2 ((iR_eq hx (by omega)).mp q)), if_neg c2]
        exact ih _ _ _ (by omega) (sim_cc h true) (sh_cs1 hs)
    · rw [if_neg c, if_neg c]
      exact ih _ _ _ (by omega) (sim_cc h false) (sh_cs1 hs)
