theorem db_lp : ∀ (n : Nat) (one : Int32) (i : Nat) (M : zM), (¬ g_X3_doesBarrierOpen_lp n one i M = 0) ↔ (∀ k, k < n → M 0 (i + k) ≠ nI 1 ∧ M 0 (i + k) ≠ nI 2) ∧ (¬ one = 0 ∨ ∃ k, k < n ∧ M 0 (i + k) = nI 3) := by
  intro n
  induction n with
  | zero =>
    intro one i M
    simp only [g_X3_doesBarrierOpen_lp]
    constructor
    · exact fun h => ⟨fun k hk => absurd hk (Nat.not_lt_zero _), Or.inl h⟩
    · rintro ⟨_, h | ⟨k, hk, _⟩⟩
      · exact h
      · exact absurd hk (Nat.not_lt_zero _)
  | succ n ih =>
    intro one i M
    have sft : ∀ k, i + (k + 1) = i + 1 + k := fun k => by omega
    simp only [g_X3_doesBarrierOpen_lp]
    by_cases c1 : M 0 i = nI 1
    · rw [if_pos c1]
      constructor
      · exact fun h => absurd (by decide) h
      · exact fun h => absurd c1 (h.1 0 (by omega)).1
    · rw [if_neg c1]
      by_cases c2 : M 0 i = nI 2
      · rw [if_pos c2]
        constructor
        · exact fun h => absurd (by decide) h
        · exact fun h => absurd c2 (h.1 0 (by omega)).2
      · rw [if_neg c2]
        have key : ∀ P : Prop, ((∀ k, k < n → M 0 (i + 1 + k) ≠ nI 1 ∧ M 0 (i + 1 + k) ≠ nI 2) ∧ P) ↔ ((∀ k, k < n + 1 → M 0 (i + k) ≠ nI 1 ∧ M 0 (i + k) ≠ nI 2) ∧ P) := by
          intro P
          constructor
          · rintro ⟨h, p⟩
            refine ⟨fun k hk => ?_, p⟩
            cases k with
            | zero => exact ⟨c1, c2⟩
            | succ k =>
              rw [sft]
              exact h k (by omega)
          · rintro ⟨h, p⟩
            refine ⟨fun k hk => ?_, p⟩
            have := h (k + 1) (by omega)
            rw [sft] at this
            exact this
        by_cases c3 : one = 0
        · rw [if_pos c3]
          by_cases c4 : M 0 i = nI 3
          · rw [if_pos c4, ih, key]
            constructor
            · exact fun h => ⟨h.1, Or.inr ⟨0, by omega, c4⟩⟩
            · exact fun h => ⟨h.1, Or.inl (by decide)⟩
          · rw [if_neg c4, ih, key]
            constructor
            · rintro ⟨h, h2 | ⟨k, hk, h2⟩⟩
              · exact absurd (by decide) h2
              · exact ⟨h, Or.inr ⟨k + 1, by omega, by rw [sft]; exact h2⟩⟩
            · rintro ⟨h, h2 | ⟨k, hk, h2⟩⟩
              · exact absurd c3 h2
              · cases k with
                | zero => exact absurd h2 c4
                | succ k =>
                  rw [sft] at h2
                  exact ⟨h, Or.inr ⟨k, by omega, h2⟩⟩
        · rw [if_neg c3, ih, key]
          constructor
          · exact fun h => ⟨h.1, Or.inl c3⟩
          · exact fun h => ⟨h.1, Or.inl (by decide)⟩
/-! which threads are ready once the first two steps are done -/
def q_due (M : zM) (t : Nat) : Prop := M 0 t = nI 2 ∧ ¬ M 16 0 < M 4 t
def q_opn (M : zM) : Prop := (∀ k, k < 4 → M 0 k ≠ nI 1 ∧ M 0 k ≠ nI 2) ∧ ∃ k, k < 4 ∧ M 0 k = nI 3
def q_rdy (M : zM) (t : Nat) : Prop := M 0 t = nI 1 ∨ (M 0 t = nI 3 ∧ q_opn M) ∨ q_due M t
theorem q_dueI {M : zM} {t : Nat} : g_X0_hasLoadDue t (M 16 0) M = 0 ↔ ¬ q_due M t := by
  unfold g_X0_hasLoadDue q_due
  by_cases c1 : M 0 t = nI 2
  · rw [if_pos c1]
    by_cases c2 : M 16 0 < M 4 t
    · rw [if_pos c2]
      exact ⟨fun _ q => q.2 c2, fun _ => by decide⟩
    · rw [if_neg c2]
      exact ⟨fun q => absurd q (by decide), fun q => absurd ⟨c1, c2⟩ q⟩
  · rw [if_neg c1]
    exact ⟨fun _ q => c1 q.1, fun _ => by decide⟩
theorem q_opnI {M : zM} : (¬ g_X3_doesBarrierOpen M = 0) ↔ q_opn M := by
  unfold g_X3_doesBarrierOpen q_opn
  rw [db_lp]
  simp only [Nat.zero_add]
  constructor
  · rintro ⟨h, h2 | h2⟩
    · exact absurd (by decide) h2
    · exact ⟨h, h2⟩
  · exact fun h => ⟨h.1, Or.inr h.2⟩
theorem q_step (n : Nat) (r : Int32) (i : Nat) (M : zM) : (q_rdy M i → g_X3_findReady_lp (n + 1) r i M = g_X3_findReady_lp n (r ||| ((nI 1) <<< ((nI i) &&& 31))) (i + 1) M) ∧ (¬ q_rdy M i → g_X3_findReady_lp (n + 1) r i M = g_X3_findReady_lp n r (i + 1) M) := by
  simp only [g_X3_findReady_lp]
  have ho := @q_opnI M
  by_cases c1 : M 0 i = nI 1
  · rw [if_pos c1]
    exact ⟨fun _ => rfl, fun q => absurd (Or.inl c1) q⟩
  · rw [if_neg c1]
    by_cases c2 : M 0 i = nI 3
    · rw [if_pos c2]
      have nd : ¬ q_due M i := fun q => absurd (c2.symm.trans q.1) (by decide)
      by_cases c3 : g_X3_doesBarrierOpen M = 0
      · rw [if_pos c3, if_pos (q_dueI.mpr nd)]
        refine ⟨fun q => ?_, fun _ => rfl⟩
        rcases q with q | q | q
        · exact absurd q c1
        · exact absurd c3 (ho.mpr q.2)
        · exact absurd q nd
      · rw [if_neg c3]
        exact ⟨fun _ => rfl, fun q => absurd (Or.inr (Or.inl ⟨c2, ho.mp c3⟩)) q⟩
    · rw [if_neg c2]
      by_cases c4 : q_due M i
      · rw [if_neg (fun q => q_dueI.mp q c4)]
        exact ⟨fun _ => rfl, fun q => absurd (Or.inr (Or.inr c4)) q⟩
      · rw [if_pos (q_dueI.mpr c4)]
        refine ⟨fun q => ?_, fun _ => rfl⟩
        rcases q with q | q | q
        · exact absurd q c1
        · exact absurd q.1 c2
        · exact absurd q c4
theorem q_bit {M : zM} {t : Nat} (ht : t < 4) : (¬ g_X3_isIn (g_X3_findReady M) (nI t) = 0) ↔ q_rdy M t := by
  unfold g_X3_findReady
  have s0 := q_step 3 (nI 0) 0 M
  by_cases r0 : q_rdy M 0
  · rw [s0.1 r0]
    have s1 := q_step 2 (nI 0 ||| ((nI 1) <<< ((nI 0) &&& 31))) (0 + 1) M
    by_cases r1 : q_rdy M 1
    · rw [s1.1 r1]
      have s2 := q_step 1 (nI 0 ||| ((nI 1) <<< ((nI 0) &&& 31)) ||| ((nI 1) <<< ((nI (0 + 1)) &&& 31))) (0 + 1 + 1) M
      by_cases r2 : q_rdy M 2
      · rw [s2.1 r2]
        have s3 := q_step 0 (nI 0 ||| ((nI 1) <<< ((nI 0) &&& 31)) ||| ((nI 1) <<< ((nI (0 + 1)) &&& 31)) ||| ((nI 1) <<< ((nI (0 + 1 + 1)) &&& 31))) (0 + 1 + 1 + 1) M
        by_cases r3 : q_rdy M 3
        · rw [s3.1 r3]
          exact z4 (P := fun t => (¬ g_X3_isIn (nI 0 ||| ((nI 1) <<< ((nI 0) &&& 31)) ||| ((nI 1) <<< ((nI (0 + 1)) &&& 31)) ||| ((nI 1) <<< ((nI (0 + 1 + 1)) &&& 31)) ||| ((nI 1) <<< ((nI (0 + 1 + 1 + 1)) &&& 31))) (nI t) = 0) ↔ q_rdy M t) ⟨fun _ => r0, fun _ => by decide⟩ ⟨fun _ => r1, fun _ => by decide⟩ ⟨fun _ => r2, fun _ => by decide⟩ ⟨fun _ => r3, fun _ => by decide⟩ ht
        · rw [s3.2 r3]
          exact z4 (P := fun t => (¬ g_X3_isIn (nI 0 ||| ((nI 1) <<< ((nI 0) &&& 31)) ||| ((nI 1) <<< ((nI (0 + 1)) &&& 31)) ||| ((nI 1) <<< ((nI (0 + 1 + 1)) &&& 31))) (nI t) = 0) ↔ q_rdy M t) ⟨fun _ => r0, fun _ => by decide⟩ ⟨fun _ => r1, fun _ => by decide⟩ ⟨fun _ => r2, fun _ => by decide⟩ ⟨fun q => absurd (by decide) q, fun q => absurd q r3⟩ ht
      · rw [s2.2 r2]
        have s3 := q_step 0 (nI 0 ||| ((nI 1) <<< ((nI 0) &&& 31)) ||| ((nI 1) <<< ((nI (0 + 1)) &&& 31))) (0 + 1 + 1 + 1) M
        by_cases r3 : q_rdy M 3
        · rw [s3.1 r3]
          exact z4 (P := fun t => (¬ g_X3_isIn (nI 0 ||| ((nI 1) <<< ((nI 0) &&& 31)) ||| ((nI 1) <<< ((nI (0 + 1)) &&& 31)) ||| ((nI 1) <<< ((nI (0 + 1 + 1 + 1)) &&& 31))) (nI t) = 0) ↔ q_rdy M t) ⟨fun _ => r0, fun _ => by decide⟩ ⟨fun _ => r1, fun _ => by decide⟩ ⟨fun q => absurd (by decide) q, fun q => absurd q r2⟩ ⟨fun _ => r3, fun _ => by decide⟩ ht
        · rw [s3.2 r3]
          exact z4 (P := fun t => (¬ g_X3_isIn (nI 0 ||| ((nI 1) <<< ((nI 0) &&& 31)) ||| ((nI 1) <<< ((nI (0 + 1)) &&& 31))) (nI t) = 0) ↔ q_rdy M t) ⟨fun _ => r0, fun _ => by decide⟩ ⟨fun _ => r1, fun _ => by decide⟩ ⟨fun q => absurd (by decide) q, fun q => absurd q r2⟩ ⟨fun q => absurd (by decide) q, fun q => absurd q r3⟩ ht
    · rw [s1.2 r1]
      have s2 := q_step 1 (nI 0 ||| ((nI 1) <<< ((nI 0) &&& 31))) (0 + 1 + 1) M
      by_cases r2 : q_rdy M 2
      · rw [s2.1 r2]
        have s3 := q_step 0 (nI 0 ||| ((nI 1) <<< ((nI 0) &&& 31)) ||| ((nI 1) <<< ((nI (0 + 1 + 1)) &&& 31))) (0 + 1 + 1 + 1) M
        by_cases r3 : q_rdy M 3
        · rw [s3.1 r3]
          exact z4 (P := fun t => (¬ g_X3_isIn (nI 0 ||| ((nI 1) <<< ((nI 0) &&& 31)) ||| ((nI 1) <<< ((nI (0 + 1 + 1)) &&& 31)) ||| ((nI 1) <<< ((nI (0 + 1 + 1 + 1)) &&& 31))) (nI t) = 0) ↔ q_rdy M t) ⟨fun _ => r0, fun _ => by decide⟩ ⟨fun q => absurd (by decide) q, fun q => absurd q r1⟩ ⟨fun _ => r2, fun _ => by decide⟩ ⟨fun _ => r3, fun _ => by decide⟩ ht
        · rw [s3.2 r3]
          exact z4 (P := fun t => (¬ g_X3_isIn (nI 0 ||| ((nI 1) <<< ((nI 0) &&& 31)) ||| ((nI 1) <<< ((nI (0 + 1 + 1)) &&& 31))) (nI t) = 0) ↔ q_rdy M t) ⟨fun _ => r0, fun _ => by decide⟩ ⟨fun q => absurd (by decide) q, fun q => absurd q r1⟩ ⟨fun _ => r2, fun _ => by decide⟩ ⟨fun q => absurd (by decide) q, fun q => absurd q r3⟩ ht
      · rw [s2.2 r2]
        have s3 := q_step 0 (nI 0 ||| ((nI 1) <<< ((nI 0) &&& 31))) (0 + 1 + 1 + 1) M
        by_cases r3 : q_rdy M 3
        · rw [s3.1 r3]
          exact z4 (P := fun t => (¬ g_X3_isIn (nI 0 ||| ((nI 1) <<< ((nI 0) &&& 31)) ||| ((nI 1) <<< ((nI (0 + 1 + 1 + 1)) &&& 31))) (nI t) = 0) ↔ q_rdy M t) ⟨fun _ => r0, fun _ => by decide⟩ ⟨fun q => absurd (by decide) q, fun q => absurd q r1⟩ ⟨fun q => absurd (by decide) q, fun q => absurd q r2⟩ ⟨fun _ => r3, fun _ => by decide⟩ ht
        · rw [s3.2 r3]
          exact z4 (P := fun t => (¬ g_X3_isIn (nI 0 ||| ((nI 1) <<< ((nI 0) &&& 31))) (nI t) = 0) ↔ q_rdy M t) ⟨fun _ => r0, fun _ => by decide⟩ ⟨fun q => absurd (by decide) q, fun q => absurd q r1⟩ ⟨fun q => absurd (by decide) q, fun q => absurd q r2⟩ ⟨fun q => absurd (by decide) q, fun q => absurd q r3⟩ ht
  · rw [s0.2 r0]
    have s1 := q_step 2 (nI 0) (0 + 1) M
    by_cases r1 : q_rdy M 1
    · rw [s1.1 r1]
      have s2 := q_step 1 (nI 0 ||| ((nI 1) <<< ((nI (0 + 1)) &&& 31))) (0 + 1 + 1) M
      by_cases r2 : q_rdy M 2
      · rw [s2.1 r2]
        have s3 := q_step 0 (nI 0 ||| ((nI 1) <<< ((nI (0 + 1)) &&& 31)) ||| ((nI 1) <<< ((nI (0 + 1 + 1)) &&& 31))) (0 + 1 + 1 + 1) M
        by_cases r3 : q_rdy M 3
        · rw [s3.1 r3]
          exact z4 (P := fun t => (¬ g_X3_isIn (nI 0 ||| ((nI 1) <<< ((nI (0 + 1)) &&& 31)) ||| ((nI 1) <<< ((nI (0 + 1 + 1)) &&& 31)) ||| ((nI 1) <<< ((nI (0 + 1 + 1 + 1)) &&& 31))) (nI t) = 0) ↔ q_rdy M t) ⟨fun q => absurd (by decide) q, fun q => absurd q r0⟩ ⟨fun _ => r1, fun _ => by decide⟩ ⟨fun _ => r2, fun _ => by decide⟩ ⟨fun _ => r3, fun _ => by decide⟩ ht
        · rw [s3.2 r3]
          exact z4 (P := fun t => (¬ g_X3_isIn (nI 0 ||| ((nI 1) <<< ((nI (0 + 1)) &&& 31)) ||| ((nI 1) <<< ((nI (0 + 1 + 1)) &&& 31))) (nI t) = 0) ↔ q_rdy M t) ⟨fun q => absurd (by decide) q, fun q => absurd q r0⟩ ⟨fun _ => r1, fun _ => by decide⟩ ⟨fun _ => r2, fun _ => by decide⟩ ⟨fun q => absurd (by decide) q, fun q => absurd q r3⟩ ht
      · rw [s2.2 r2]
        have s3 := q_step 0 (nI 0 ||| ((nI 1) <<< ((nI (0 + 1)) &&& 31))) (0 + 1 + 1 + 1) M
        by_cases r3 : q_rdy M 3
        · rw [s3.1 r3]
          exact z4 (P := fun t => (¬ g_X3_isIn (nI 0 ||| ((nI 1) <<< ((nI (0 + 1)) &&& 31)) ||| ((nI 1) <<< ((nI (0 + 1 + 1 + 1)) &&& 31))) (nI t) = 0) ↔ q_rdy M t) ⟨fun q => absurd (by decide) q, fun q => absurd q r0⟩ ⟨fun _ => r1, fun _ => by decide⟩ ⟨fun q => absurd (by decide) q, fun q => absurd q r2⟩ ⟨fun _ => r3, fun _ => by decide⟩ ht
        · rw [s3.2 r3]
          exact z4 (P := fun t => (¬ g_X3_isIn (nI 0 ||| ((nI 1) <<< ((nI (0 + 1)) &&& 31))) (nI t) = 0) ↔ q_rdy M t) ⟨fun q => absurd (by decide) q, fun q => absurd q r0⟩ ⟨fun _ => r1, fun _ => by decide⟩ ⟨fun q => absurd (by decide) q, fun q => absurd q r2⟩ ⟨fun q => absurd (by decide) q, fun q => absurd q r3⟩ ht
    · rw [s1.2 r1]
      have s2 := q_step 1 (nI 0) (0 + 1 + 1) M
      by_cases r2 : q_rdy M 2
      · rw [s2.1 r2]
        have s3 := q_step 0 (nI 0 ||| ((nI 1) <<< ((nI (0 + 1 + 1)) &&& 31))) (0 + 1 + 1 + 1) M
        by_cases r3 : q_rdy M 3
        · rw [s3.1 r3]
          exact z4 (P := fun t => (¬ g_X3_isIn (nI 0 ||| ((nI 1) <<< ((nI (0 + 1 + 1)) &&& 31)) ||| ((nI 1) <<< ((nI (0 + 1 + 1 + 1)) &&& 31))) (nI t) = 0) ↔ q_rdy M t) ⟨fun q => absurd (by decide) q, fun q => absurd q r0⟩ ⟨fun q => absurd (by decide) q, fun q => absurd q r1⟩ ⟨fun _ => r2, fun _ => by decide⟩ ⟨fun _ => r3, fun _ => by decide⟩ ht
        · rw [s3.2 r3]
          exact z4 (P := fun t => (¬ g_X3_isIn (nI 0 ||| ((nI 1) <<< ((nI (0 + 1 + 1)) &&& 31))) (nI t) = 0) ↔ q_rdy M t) ⟨fun q => absurd (by decide) q, fun q => absurd q r0⟩ ⟨fun q => absurd (by decide) q, fun q => absurd q r1⟩ ⟨fun _ => r2, fun _ => by decide⟩ ⟨fun q => absurd (by decide) q, fun q => absurd q r3⟩ ht
      · rw [s2.2 r2]
        have s3 := q_step 0 (nI 0) (0 + 1 + 1 + 1) M
        by_cases r3 : q_rdy M 3
        · rw [s3.1 r3]
          exact z4 (P := fun t => (¬ g_X3_isIn (nI 0 ||| ((nI 1) <<< ((nI (0 + 1 + 1 + 1)) &&& 31))) (nI t) = 0) ↔ q_rdy M t) ⟨fun q => absurd (by decide) q, fun q => absurd q r0⟩ ⟨fun q => absurd (by decide) q, fun q => absurd q r1⟩ ⟨fun q => absurd (by decide) q, fun q => absurd q r2⟩ ⟨fun _ => r3, fun _ => by decide⟩ ht
        · rw [s3.2 r3]
          exact z4 (P := fun t => (¬ g_X3_isIn (nI 0) (nI t) = 0) ↔ q_rdy M t) ⟨fun q => absurd (by decide) q, fun q => absurd q r0⟩ ⟨fun q => absurd (by decide) q, fun q => absurd q r1⟩ ⟨fun q => absurd (by decide) q, fun q => absurd q r2⟩ ⟨fun q => absurd (by decide) q, fun q => absurd q r3⟩ ht
theorem q_tn {x : Int32} {n : Nat} (h : zIn x n) (hn : n ≤ 2 ^ 31) : x.toBitVec.toNat = zc x := by
  have h1 := h.1
  have h2 := h.2
  generalize zc x = j at h1 h2
  subst h2
  show (BitVec.ofNat 32 j).toNat = j
  rw [BitVec.toNat_ofNat, Nat.mod_eq_of_lt (by omega)]
theorem q_t1 {t : Nat} (ht : t < 4) : ¬ nI t = (-1) := z4 (P := fun t => ¬ nI t = (-1)) (by decide) (by decide) (by decide) (by decide) ht
theorem q_t5 {t : Nat} (ht : t < 4) : ¬ nI t = (-100005) := z4 (P := fun t => ¬ nI t = (-100005)) (by decide) (by decide) (by decide) (by decide) ht
theorem q_thr {t : Nat} (ht : t < 4) : ¬ g_X6_isThread (nI t) = 0 := z4 (P := fun t => ¬ g_X6_isThread (nI t) = 0) (by decide) (by decide) (by decide) (by decide) ht
theorem zu_self (M : zM) (c i : Nat) : zu M c i (M c i) = M := by
  funext d
  by_cases h : d = c
  · subst h
    funext j
    by_cases e : j = i
    · subst e
      rw [zu_s]
    · rw [zu_i _ _ _ e]
  · rw [zu_c _ _ _ h]
