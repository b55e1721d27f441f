/-! the barrier -/
theorem db_lp : ∀ (n : Nat) (one : Int32) (i : Nat) (M : zM), (¬ g_X3_doesBarrierOpen_lp n one i M = 0) ↔ (∀ k, k < n → M 0 (i + k) ≠ nI 1 ∧ M 0 (i + k) ≠ nI 2) ∧ (¬ one = 0 ∨ ∃ k, k < n ∧ M 0 (i + k) = nI 3) := by
  intro n
  induction n with
  | zero =>
    intro one i M
    simp only [g_X3_doesBarrierOpen_lp]
    constructor
    · exact fun h => ⟨fun k hk => absurd hk (Nat.not_lt_zero _), Or.inl h⟩
    · rintro ⟨_, h | ⟨k, hk, _⟩⟩
      · exact h
      · exact absurd hk (Nat.not_lt_zero _)
  | succ n ih =>
    intro one i M
    have sft : ∀ k, i + (k + 1) = i + 1 + k := fun k => by omega
    simp only [g_X3_doesBarrierOpen_lp]
    by_cases c1 : M 0 i = nI 1
    · rw [if_pos c1]
      constructor
      · exact fun h => absurd (by decide) h
      · exact fun h => absurd c1 (h.1 0 (by omega)).1
    · rw [if_neg c1]
      by_cases c2 : M 0 i = nI 2
      · rw [if_pos c2]
        constructor
        · exact fun h => absurd (by decide) h
        · exact fun h => absurd c2 (h.1 0 (by omega)).2
      · rw [if_neg c2]
        have key : ∀ P : Prop, ((∀ k, k < n → M 0 (i + 1 + k) ≠ nI 1 ∧ M 0 (i + 1 + k) ≠ nI 2) ∧ P) ↔ ((∀ k, k < n + 1 → M 0 (i + k) ≠ nI 1 ∧ M 0 (i + k) ≠ nI 2) ∧ P) := by
          intro P
          constructor
          · rintro ⟨h, p⟩
            refine ⟨fun k hk => ?_, p⟩
            cases k with
            | zero => exact ⟨c1, c2⟩
            | succ k =>
              rw [sft]
              exact h k (by omega)
          · rintro ⟨h, p⟩
            refine ⟨fun k hk => ?_, p⟩
            have := h (k + 1) (by omega)
            rw [sft] at this
            exact this
        by_cases c3 : one = 0
        · rw [if_pos c3]
          by_cases c4 : M 0 i = nI 3
          · rw [if_pos c4, ih, key]
            constructor
            · exact fun h => ⟨h.1, Or.inr ⟨0, by omega, c4⟩⟩
            · exact fun h => ⟨h.1, Or.inl (by decide)⟩
          · rw [if_neg c4, ih, key]
            constructor
            · rintro ⟨h, h2 | ⟨k, hk, h2⟩⟩
              · exact absurd (by decide) h2
              · exact ⟨h, Or.inr ⟨k + 1, by omega, by rw [sft]; exact h2⟩⟩
            · rintro ⟨h, h2 | ⟨k, hk, h2⟩⟩
              · exact absurd c3 h2
              · cases k with
                | zero => exact absurd h2 c4
                | succ k =>
                  rw [sft] at h2
                  exact ⟨h, Or.inr ⟨k, by omega, h2⟩⟩
        · rw [if_neg c3, ih, key]
          constructor
          · exact fun h => ⟨h.1, Or.inl c3⟩
          · exact fun h => ⟨h.1, Or.inl (by decide)⟩
def q_cnt (st : Int32) : Nat → Nat → zM → Nat
  | 0, i, N => 0
  | n + 1, i, N => (if N 0 i = st then 1 else 0) + q_cnt st n (i + 1) N
theorem q_cnt_le (st : Int32) : ∀ (n i : Nat) (N : zM), q_cnt st n i N ≤ n := by
  intro n
  induction n with
  | zero => exact fun _ _ => Nat.le_refl _
  | succ n ih =>
    intro i N
    have h := ih (i + 1) N
    simp only [q_cnt]
    split <;> omega
theorem q_many (st : Int32) : ∀ (n c i : Nat) (N : zM), g_X7_many_lp st n (nI c) i N = nI (c + q_cnt st n i N) := by
  intro n
  induction n with
  | zero => exact fun _ _ _ => rfl
  | succ n ih =>
    intro c i N
    simp only [g_X7_many_lp, q_cnt, nI_add]
    by_cases h : N 0 i = st
    · rw [if_pos h, if_pos h, ih, Nat.add_assoc]
    · rw [if_neg h, if_neg h, ih, Nat.zero_add, Nat.add_zero]
theorem q_cnt0 (st : Int32) : ∀ (n i : Nat) (N : zM), q_cnt st n i N = 0 ↔ ∀ k, k < n → N 0 (i + k) ≠ st := by
  intro n
  induction n with
  | zero => exact fun i N => ⟨fun _ k hk => absurd hk (Nat.not_lt_zero _), fun _ => rfl⟩
  | succ n ih =>
    intro i N
    simp only [q_cnt]
    constructor
    · intro h k hk
      by_cases h1 : N 0 i = st
      · rw [if_pos h1] at h
        omega
      · rw [if_neg h1] at h
        cases k with
        | zero => exact h1
        | succ k =>
          rw [show i + (k + 1) = i + 1 + k by omega]
          exact (ih (i + 1) N).mp (by omega) k (by omega)
    · intro h
      have h1 : ¬ N 0 i = st := h 0 (by omega)
      rw [if_neg h1, (ih (i + 1) N).mpr (fun k hk => by rw [show i + 1 + k = i + (k + 1) by omega]; exact h (k + 1) (by omega))]
theorem q_cntn (st : Int32) : ∀ (n i : Nat) (N : zM), q_cnt st n i N = n ↔ ∀ k, k < n → N 0 (i + k) = st := by
  intro n
  induction n with
  | zero => exact fun i N => ⟨fun _ k hk => absurd hk (Nat.not_lt_zero _), fun _ => rfl⟩
  | succ n ih =>
    intro i N
    have hle := q_cnt_le st n (i + 1) N
    simp only [q_cnt]
    constructor
    · intro h k hk
      by_cases h1 : N 0 i = st
      · rw [if_pos h1] at h
        cases k with
        | zero => exact h1
        | succ k =>
          rw [show i + (k + 1) = i + 1 + k by omega]
          exact (ih (i + 1) N).mp (by omega) k (by omega)
      · rw [if_neg h1] at h
        omega
    · intro h
      rw [if_pos (show N 0 i = st from h 0 (by omega)), (ih (i + 1) N).mpr (fun k hk => by rw [show i + 1 + k = i + (k + 1) by omega]; exact h (k + 1) (by omega))]
      omega
theorem q_none : ∀ (n i : Nat) (N : zM), hN_X7_prepares_lq n (nI 0) i N = N := by
  intro n
  induction n with
  | zero => exact fun _ _ => rfl
  | succ n ih =>
    intro i N
    simp only [hN_X7_prepares_lq]
    rw [if_pos (by decide), zu_self]
    exact ih _ _
theorem q_no3 : ∀ (n i : Nat) (N : zM), (∀ k, k < n → N 0 (i + k) ≠ nI 3) → hN_X7_prepares_lq n (nI 1) i N = N := by
  intro n
  induction n with
  | zero => exact fun _ _ _ => rfl
  | succ n ih =>
    intro i N h
    simp only [hN_X7_prepares_lq]
    rw [if_neg (show ¬ nI 1 = 0 by decide), if_neg (show ¬ N 0 i = nI 3 from h 0 (by omega)), zu_self]
    exact ih _ _ (fun k hk => by rw [show i + 1 + k = i + (k + 1) by omega]; exact h (k + 1) (by omega))
theorem sim_opn : ∀ (n i : Nat) (M N : zM), sim M N → shOK N → sim (h_X3_openBarrier_lp n i M) (hN_X7_prepares_lq n (nI 1) i N) ∧ shOK (hN_X7_prepares_lq n (nI 1) i N) := by
  intro n
  induction n with
  | zero => exact fun _ _ _ h hs => ⟨h, hs⟩
  | succ n ih =>
    intro i M N h hs
    have e0 := h.e (c := 0) (by decide) (by decide) (by decide) (by decide) i
    simp only [hN_X7_prepares_lq, h_X3_openBarrier_lp, e0]
    rw [if_neg (show ¬ nI 1 = 0 by decide)]
    by_cases c : N 0 i = nI 3
    · rw [if_pos c, if_pos c]
      exact ih _ _ _ (sim_0 h (by decide)) (sh_zu hs (by omega) (by decide))
    · rw [if_neg c, if_neg c, zu_self]
      exact ih _ _ _ h hs
theorem q_zero {a b : Nat} (ha : a ≤ 4) (hb : b ≤ 4) : nI a + nI b = 0 ↔ a = 0 ∧ b = 0 := by
  rw [nI_add]
  constructor
  · intro h
    by_cases e : a + b = 0
    · omega
    · exact absurd h (nI_ne0 (by omega) (by omega))
  · rintro ⟨rfl, rfl⟩
    rfl
theorem sim_open {M N : zM} (h : sim M N) (hs : shOK N) : sim (h_X3_openBarrier M) (q_open N) ∧ shOK (q_open N) := by
  have e0 : M 0 = N 0 := h.1 0 (by decide) (by decide) (by decide) (by decide)
  have hdb := db_lp 4 (nI 0) 0 M
  rw [e0] at hdb
  have hm1 : g_X7_many (nI 1) N = nI (q_cnt (nI 1) 4 0 N) := by
    unfold g_X7_many
    rw [q_many, Nat.zero_add]
  have hm2 : g_X7_many (nI 2) N = nI (q_cnt (nI 2) 4 0 N) := by
    unfold g_X7_many
    rw [q_many, Nat.zero_add]
  have hz := q_zero (q_cnt_le (nI 1) 4 0 N) (q_cnt_le (nI 2) 4 0 N)
  rw [q_cnt0, q_cnt0] at hz
  unfold h_X3_openBarrier q_open
  rw [hm1, hm2]
  by_cases c : g_X3_doesBarrierOpen M = 0
  · rw [if_pos c]
    by_cases c2 : nI (q_cnt (nI 1) 4 0 N) + nI (q_cnt (nI 2) 4 0 N) = 0
    · rw [if_pos c2, q_no3]
      · exact ⟨h, hs⟩
      · intro k hk e
        have c3 := hz.mp c2
        exact absurd c (hdb.mpr ⟨fun k hk => ⟨c3.1 k hk, c3.2 k hk⟩, Or.inr ⟨k, hk, e⟩⟩)
    · rw [if_neg c2, q_none]
      exact ⟨h, hs⟩
  · rw [if_neg c]
    have c3 := (hdb.mp c).1
    rw [if_pos (hz.mpr ⟨fun k hk => (c3 k hk).1, fun k hk => (c3 k hk).2⟩)]
    exact sim_opn 4 0 M N h hs
theorem sim_prep {M N : zM} (h : sim M N) (hM : zOK M) (hs : shOK N) : sim (h_X3_openBarrier (h_X3_finishLoads M)) (hN_X7_prepares N) ∧ shOK (hN_X7_prepares N) := by
  have h1 := sim_fin 4 0 M N (by omega) h hM hs
  unfold hN_X7_prepares
  rw [q_prep]
  exact sim_open h1.1 h1.2
theorem sim_over {M N : zM} (h : sim M N) : g_X3_areAllHalted M = 0 ↔ g_X7_isOver N = 0 := by
  have e0 : M 0 = N 0 := h.1 0 (by decide) (by decide) (by decide) (by decide)
  have hc : ∀ (n i : Nat), g_X3_areAllHalted_lp n i M = 0 ↔ ¬ ∀ k, k < n → N 0 (i + k) = nI 0 := by
    intro n
    induction n with
    | zero =>
      intro i
      exact ⟨fun q => absurd q (by simp only [g_X3_areAllHalted_lp]; decide), fun q => absurd (fun k hk => absurd hk (Nat.not_lt_zero _)) q⟩
    | succ n ih =>
      intro i
      simp only [g_X3_areAllHalted_lp, e0]
      by_cases c : N 0 i = 0
      · rw [if_pos c, ih]
        refine not_congr ⟨fun q k hk => ?_, fun q k hk => ?_⟩
        · cases k with
          | zero => exact c
          | succ k =>
            rw [show i + (k + 1) = i + 1 + k by omega]
            exact q k (by omega)
        · rw [show i + 1 + k = i + (k + 1) by omega]
          exact q (k + 1) (by omega)
      · rw [if_neg c]
        exact ⟨fun _ q => c (q 0 (by omega)), fun _ => rfl⟩
  unfold g_X3_areAllHalted g_X7_isOver
  rw [hc]
  have hm : g_X7_many (nI 0) N = nI (q_cnt (nI 0) 4 0 N) := by
    unfold g_X7_many
    rw [q_many, Nat.zero_add]
  have hle := q_cnt_le (nI 0) 4 0 N
  rw [hm]
  have hq := q_cntn (nI 0) 4 0 N
  by_cases c : q_cnt (nI 0) 4 0 N = 4
  · rw [if_pos (by rw [c])]
    exact ⟨fun q => absurd (hq.mp c) q, fun q => absurd q (by decide)⟩
  · rw [if_neg (fun q => c ((nI_eq (by omega) (by omega)).mp q))]
    exact ⟨fun _ => by decide, fun _ q => c (hq.mpr q)⟩
