/-! which threads are ready once the first two steps are done -/
def q_due (M : zM) (t : Nat) : Prop := M 0 t = nI 2 ∧ ¬ M 16 0 < M 4 t
def q_opn (M : zM) : Prop := (∀ k, k < 4 → M 0 k ≠ nI 1 ∧ M 0 k ≠ nI 2) ∧ ∃ k, k < 4 ∧ M 0 k = nI 3
def q_rdy (M : zM) (t : Nat) : Prop := M 0 t = nI 1 ∨ (M 0 t = nI 3 ∧ q_opn M) ∨ q_due M t
theorem q_dueI {M : zM} {t : Nat} : g_X0_hasLoadDue t (M 16 0) M = 0 ↔ ¬ q_due M t := by
  unfold g_X0_hasLoadDue q_due
  by_cases c1 : M 0 t = nI 2
  · rw [if_pos c1]
    by_cases c2 : M 16 0 < M 4 t
    · rw [if_pos c2]
      exact ⟨fun _ q => q.2 c2, fun _ => by decide⟩
    · rw [if_neg c2]
      exact ⟨fun q => absurd q (by decide), fun q => absurd ⟨c1, c2⟩ q⟩
  · rw [if_neg c1]
    exact ⟨fun _ q => c1 q.1, fun _ => by decide⟩
theorem q_opnI {M : zM} : (¬ g_X3_doesBarrierOpen M = 0) ↔ q_opn M := by
  unfold g_X3_doesBarrierOpen q_opn
  rw [db_lp]
  simp only [Nat.zero_add]
  constructor
  · rintro ⟨h, h2 | h2⟩
    · exact absurd (by decide) h2
    · exact ⟨h, h2⟩
  · exact fun h => ⟨h.1, Or.inr h.2⟩
theorem q_step (n : Nat) (r : Int32) (i : Nat) (M : zM) : (q_rdy M i → g_X3_findReady_lp (n + 1) r i M = g_X3_findReady_lp n (r ||| ((nI 1) <<< ((nI i) &&& 31))) (i + 1) M) ∧ (¬ q_rdy M i → g_X3_findReady_lp (n + 1) r i M = g_X3_findReady_lp n r (i + 1) M) := by
  simp only [g_X3_findReady_lp]
  have ho := @q_opnI M
  by_cases c1 : M 0 i = nI 1
  · rw [if_pos c1]
    exact ⟨fun _ => rfl, fun q => absurd (Or.inl c1) q⟩
  · rw [if_neg c1]
    by_cases c2 : M 0 i = nI 3
    · rw [if_pos c2]
      have nd : ¬ q_due M i := fun q => absurd (c2.symm.trans q.1) (by decide)
      by_cases c3 : g_X3_doesBarrierOpen M = 0
      · rw [if_pos c3, if_pos (q_dueI.mpr nd)]
        refine ⟨fun q => ?_, fun _ => rfl⟩
        rcases q with q | q | q
        · exact absurd q c1
        · exact absurd c3 (ho.mpr q.2)
        · exact absurd q nd
      · rw [if_neg c3]
        exact ⟨fun _ => rfl, fun q => absurd (Or.inr (Or.inl ⟨c2, ho.mp c3⟩)) q⟩
    · rw [if_neg c2]
      by_cases c4 : q_due M i
      · rw [if_neg (fun q => q_dueI.mp q c4)]
        exact ⟨fun _ => rfl, fun q => absurd (Or.inr (Or.inr c4)) q⟩
      · rw [if_pos (q_dueI.mpr c4)]
        refine ⟨fun q => ?_, fun _ => rfl⟩
        rcases q with q | q | q
        · exact absurd q c1
        · exact absurd q.1 c2
        · exact absurd q c4
theorem q_bit {M : zM} {t : Nat} (ht : t < 4) : (¬ g_X3_isIn (g_X3_findReady M) (nI t) = 0) ↔ q_rdy M t := by
  unfold g_X3_findReady
  have s0 := q_step 3 (nI 0) 0 M
  by_cases r0 : q_rdy M 0
  · rw [s0.1 r0]
    have s1 := q_step 2 (nI 0 ||| ((nI 1) <<< ((nI 0) &&& 31))) (0 + 1) M
    by_cases r1 : q_rdy M 1
    · rw [s1.1 r1]
      have s2 := q_step 1 (nI 0 ||| ((nI 1) <<< ((nI 0) &&& 31)) ||| ((nI 1) <<< ((nI (0 + 1)) &&& 31))) (0 + 1 + 1) M
      by_cases r2 : q_rdy M 2
      · rw [s2.1 r2]
        have s3 := q_step 0 (nI 0 ||| ((nI 1) <<< ((nI 0) &&& 31)) ||| ((nI 1) <<< ((nI (0 + 1)) &&& 31)) ||| ((nI 1) <<< ((nI (0 + 1 + 1)) &&& 31))) (0 + 1 + 1 + 1) M
        by_cases r3 : q_rdy M 3
        · rw [s3.1 r3]
          exact z4 (P := fun t => (¬ g_X3_isIn (nI 0 ||| ((nI 1) <<< ((nI 0) &&& 31)) ||| ((nI 1) <<< ((nI (0 + 1)) &&& 31)) ||| ((nI 1) <<< ((nI (0 + 1 + 1)) &&& 31)) ||| ((nI 1) <<< ((nI (0 + 1 + 1 + 1)) &&& 31))) (nI t) = 0) ↔ q_rdy M t) ⟨fun _ => r0, fun _ => by decide⟩ ⟨fun _ => r1, fun _ => by decide⟩ ⟨fun _ => r2, fun _ => by decide⟩ ⟨fun _ => r3, fun _ => by decide⟩ ht
        · rw [s3.2 r3]
          exact z4 (P := fun t => (¬ g_X3_isIn (nI 0 ||| ((nI 1) <<< ((nI 0) &&& 31)) ||| ((nI 1) <<< ((nI (0 + 1)) &&& 31)) ||| ((nI 1) <<< ((nI (0 + 1 + 1)) &&& 31))) (nI t) = 0) ↔ q_rdy M t) ⟨fun _ => r0, fun _ => by decide⟩ ⟨fun _ => r1, fun _ => by decide⟩ ⟨fun _ => r2, fun _ => by decide⟩ ⟨fun q => absurd (by decide) q, fun q => absurd q r3⟩ ht
      · rw [s2.2 r2]
        have s3 := q_step 0 (nI 0 ||| ((nI 1) <<< ((nI 0) &&& 31)) ||| ((nI 1) <<< ((nI (0 + 1)) &&& 31))) (0 + 1 + 1 + 1) M
        by_cases r3 : q_rdy M 3
        · rw [s3.1 r3]
          exact z4 (P := fun t => (¬ g_X3_isIn (nI 0 ||| ((nI 1) <<< ((nI 0) &&& 31)) ||| ((nI 1) <<< ((nI (0 + 1)) &&& 31)) ||| ((nI 1) <<< ((nI (0 + 1 + 1 + 1)) &&& 31))) (nI t) = 0) ↔ q_rdy M t) ⟨fun _ => r0, fun _ => by decide⟩ ⟨fun _ => r1, fun _ => by decide⟩ ⟨fun q => absurd (by decide) q, fun q => absurd q r2⟩ ⟨fun _ => r3, fun _ => by decide⟩ ht
        · rw [s3.2 r3]
          exact z4 (P := fun t => (¬ g_X3_isIn (nI 0 ||| ((nI 1) <<< ((nI 0) &&& 31)) ||| ((nI 1) <<< ((nI (0 + 1)) &&& 31))) (nI t) = 0) ↔ q_rdy M t) ⟨fun _ => r0, fun _ => by decide⟩ ⟨fun _ => r1, fun _ => by decide⟩ ⟨fun q => absurd (by decide) q, fun q => absurd q r2⟩ ⟨fun q => absurd (by decide) q, fun q => absurd q r3⟩ ht
    · rw [s1.2 r1]
      have s2 := q_step 1 (nI 0 ||| ((nI 1) <<< ((nI 0) &&& 31))) (0 + 1 + 1) M
      by_cases r2 : q_rdy M 2
      · rw [s2.1 r2]
        have s3 := q_step 0 (nI 0 ||| ((nI 1) <<< ((nI 0) &&& 31)) ||| ((nI 1) <<< ((nI (0 + 1 + 1)) &&& 31))) (0 + 1 + 1 + 1) M
        by_cases r3 : q_rdy M 3
        · rw [s3.1 r3]
          exact z4 (P := fun t => (¬ g_X3_isIn (nI 0 ||| ((nI 1) <<< ((nI 0) &&& 31)) ||| ((nI 1) <<< ((nI (0 + 1 + 1)) &&& 31)) ||| ((nI 1) <<< ((nI (0 + 1 + 1 + 1)) &&& 31))) (nI t) = 0) ↔ q_rdy M t) ⟨fun _ => r0, fun _ => by decide⟩ ⟨fun q => absurd (by decide) q, fun q => absurd q r1⟩ ⟨fun _ => r2, fun _ => by decide⟩ ⟨fun _ => r3, fun _ => by decide⟩ ht
        · rw [s3.2 r3]
          exact z4 (P := fun t => (¬ g_X3_isIn (nI 0 ||| ((nI 1) <<< ((nI 0) &&& 31)) ||| ((nI 1) <<< ((nI (0 + 1 + 1)) &&& 31))) (nI t) = 0) ↔ q_rdy M t) ⟨fun _ => r0, fun _ => by decide⟩ ⟨fun q => absurd (by decide) q, fun q => absurd q r1⟩ ⟨fun _ => r2, fun _ => by decide⟩ ⟨fun q => absurd (by decide) q, fun q => absurd q r3⟩ ht
      · rw [s2.2 r2]
        have s3 := q_step 0 (nI 0 ||| ((nI 1) <<< ((nI 0) &&& 31))) (0 + 1 + 1 + 1) M
        by_cases r3 : q_rdy M 3
        · rw [s3.1 r3]
          exact z4 (P := fun t => (¬ g_X3_isIn (nI 0 ||| ((nI 1) <<< ((nI 0) &&& 31)) ||| ((nI 1) <<< ((nI (0 + 1 + 1 + 1)) &&& 31))) (nI t) = 0) ↔ q_rdy M t) ⟨fun _ => r0, fun _ => by decide⟩ ⟨fun q => absurd (by decide) q, fun q => absurd q r1⟩ ⟨fun q => absurd (by decide) q, fun q => absurd q r2⟩ ⟨fun _ => r3, fun _ => by decide⟩ ht
        · rw [s3.2 r3]
          exact z4 (P := fun t => (¬ g_X3_isIn (nI 0 ||| ((nI 1) <<< ((nI 0) &&& 31))) (nI t) = 0) ↔ q_rdy M t) ⟨fun _ => r0, fun _ => by decide⟩ ⟨fun q => absurd (by decide) q, fun q => absurd q r1⟩ ⟨fun q => absurd (by decide) q, fun q => absurd q r2⟩ ⟨fun q => absurd (by decide) q, fun q => absurd q r3⟩ ht
  · rw [s0.2 r0]
    have s1 := q_step 2 (nI 0) (0 + 1) M
    by_cases r1 : q_rdy M 1
    · rw [s1.1 r1]
      have s2 := q_step 1 (nI 0 ||| ((nI 1) <<< ((nI (0 + 1)) &&& 31))) (0 + 1 + 1) M
      by_cases r2 : q_rdy M 2
      · rw [s2.1 r2]
        have s3 := q_step 0 (nI 0 ||| ((nI 1) <<< ((nI (0 + 1)) &&& 31)) ||| ((nI 1) <<< ((nI (0 + 1 + 1)) &&& 31))) (0 + 1 + 1 + 1) M
        by_cases r3 : q_rdy M 3
        · rw [s3.1 r3]
          exact z4 (P := fun t => (¬ g_X3_isIn (nI 0 ||| ((nI 1) <<< ((nI (0 + 1)) &&& 31)) ||| ((nI 1) <<< ((nI (0 + 1 + 1)) &&& 31)) ||| ((nI 1) <<< ((nI (0 + 1 + 1 + 1)) &&& 31))) (nI t) = 0) ↔ q_rdy M t) ⟨fun q => absurd (by decide) q, fun q => absurd q r0⟩ ⟨fun _ => r1, fun _ => by decide⟩ ⟨fun _ => r2, fun _ => by decide⟩ ⟨fun _ => r3, fun _ => by decide⟩ ht
        · rw [s3.2 r3]
          exact z4 (P := fun t => (¬ g_X3_isIn (nI 0 ||| ((nI 1) <<< ((nI (0 + 1)) &&& 31)) ||| ((nI 1) <<< ((nI (0 + 1 + 1)) &&& 31))) (nI t) = 0) ↔ q_rdy M t) ⟨fun q => absurd (by decide) q, fun q => absurd q r0⟩ ⟨fun _ => r1, fun _ => by decide⟩ ⟨fun _ => r2, fun _ => by decide⟩ ⟨fun q => absurd (by decide) q, fun q => absurd q r3⟩ ht
      · rw [s2.2 r2]
        have s3 := q_step 0 (nI 0 ||| ((nI 1) <<< ((nI (0 + 1)) &&& 31))) (0 + 1 + 1 + 1) M
        by_cases r3 : q_rdy M 3
        · rw [s3.1 r3]
          exact z4 (P := fun t => (¬ g_X3_isIn (nI 0 ||| ((nI 1) <<< ((nI (0 + 1)) &&& 31)) ||| ((nI 1) <<< ((nI (0 + 1 + 1 + 1)) &&& 31))) (nI t) = 0) ↔ q_rdy M t) ⟨fun q => absurd (by decide) q, fun q => absurd q r0⟩ ⟨fun _ => r1, fun _ => by decide⟩ ⟨fun q => absurd (by decide) q, fun q => absurd q r2⟩ ⟨fun _ => r3, fun _ => by decide⟩ ht
        · rw [s3.2 r3]
          exact z4 (P := fun t => (¬ g_X3_isIn (nI 0 ||| ((nI 1) <<< ((nI (0 + 1)) &&& 31))) (nI t) = 0) ↔ q_rdy M t) ⟨fun q => absurd (by decide) q, fun q => absurd q r0⟩ ⟨fun _ => r1, fun _ => by decide⟩ ⟨fun q => absurd (by decide) q, fun q => absurd q r2⟩ ⟨fun q => absurd (by decide) q, fun q => absurd q r3⟩ ht
    · rw [s1.2 r1]
      have s2 := q_step 1 (nI 0) (0 + 1 + 1) M
      by_cases r2 : q_rdy M 2
      · rw [s2.1 r2]
        have s3 := q_step 0 (nI 0 ||| ((nI 1) <<< ((nI (0 + 1 + 1)) &&& 31))) (0 + 1 + 1 + 1) M
        by_cases r3 : q_rdy M 3
        · rw [s3.1 r3]
          exact z4 (P := fun t => (¬ g_X3_isIn (nI 0 ||| ((nI 1) <<< ((nI (0 + 1 + 1)) &&& 31)) ||| ((nI 1) <<< ((nI (0 + 1 + 1 + 1)) &&& 31))) (nI t) = 0) ↔ q_rdy M t) ⟨fun q => absurd (by decide) q, fun q => absurd q r0⟩ ⟨fun q => absurd (by decide) q, fun q => absurd q r1⟩ ⟨fun _ => r2, fun _ => by decide⟩ ⟨fun _ => r3, fun _ => by decide⟩ ht
        · rw [s3.2 r3]
          exact z4 (P := fun t => (¬ g_X3_isIn (nI 0 ||| ((nI 1) <<< ((nI (0 + 1 + 1)) &&& 31))) (nI t) = 0) ↔ q_rdy M t) ⟨fun q => absurd (by decide) q, fun q => absurd q r0⟩ ⟨fun q => absurd (by decide) q, fun q => absurd q r1⟩ ⟨fun _ => r2, fun _ => by decide⟩ ⟨fun q => absurd (by decide) q, fun q => absurd q r3⟩ ht
      · rw [s2.2 r2]
        have s3 := q_step 0 (nI 0) (0 + 1 + 1 + 1) M
        by_cases r3 : q_rdy M 3
        · rw [s3.1 r3]
          exact z4 (P := fun t => (¬ g_X3_isIn (nI 0 ||| ((nI 1) <<< ((nI (0 + 1 + 1 + 1)) &&& 31))) (nI t) = 0) ↔ q_rdy M t) ⟨fun q => absurd (by decide) q, fun q => absurd q r0⟩ ⟨fun q => absurd (by decide) q, fun q => absurd q r1⟩ ⟨fun q => absurd (by decide) q, fun q => absurd q r2⟩ ⟨fun _ => r3, fun _ => by decide⟩ ht
        · rw [s3.2 r3]
          exact z4 (P := fun t => (¬ g_X3_isIn (nI 0) (nI t) = 0) ↔ q_rdy M t) ⟨fun q => absurd (by decide) q, fun q => absurd q r0⟩ ⟨fun q => absurd (by decide) q, fun q => absurd q r1⟩ ⟨fun q => absurd (by decide) q, fun q => absurd q r2⟩ ⟨fun q => absurd (by decide) q, fun q => absurd q r3⟩ ht
theorem q_fl : ∀ (n i : Nat) (M : zM), (h_X3_finishLoads_lp n i M) 16 = M 16 ∧ (h_X3_finishLoads_lp n i M) 4 = M 4 ∧ ∀ t, (i ≤ t ∧ t < i + n ∧ q_due M t → (h_X3_finishLoads_lp n i M) 0 t = nI 1) ∧ (¬ (i ≤ t ∧ t < i + n ∧ q_due M t) → (h_X3_finishLoads_lp n i M) 0 t = M 0 t) := by
  intro n
  induction n with
  | zero =>
    intro i M
    exact ⟨rfl, rfl, fun t => ⟨fun q => absurd q.2.1 (by omega), fun _ => rfl⟩⟩
  | succ n ih =>
    intro i M
    simp only [h_X3_finishLoads_lp]
    by_cases c : q_due M i
    · rw [if_neg (fun q => q_dueI.mp q c)]
      obtain ⟨h1, h2, h3⟩ := ih (i + 1) (zu (zu M (i + 20) (zc (M 2 i)) (M 13 (zc (M 3 i)))) 0 i (nI 1))
      have e16 : (zu (zu M (i + 20) (zc (M 2 i)) (M 13 (zc (M 3 i)))) 0 i (nI 1)) 16 = M 16 := by rw [zu_c _ _ _ (by omega), zu_c _ _ _ (by omega)]
      have e4 : (zu (zu M (i + 20) (zc (M 2 i)) (M 13 (zc (M 3 i)))) 0 i (nI 1)) 4 = M 4 := by rw [zu_c _ _ _ (by omega), zu_c _ _ _ (by omega)]
      have e0 : ∀ t, t ≠ i → (zu (zu M (i + 20) (zc (M 2 i)) (M 13 (zc (M 3 i)))) 0 i (nI 1)) 0 t = M 0 t := fun t ht => by rw [zu_i _ _ _ ht, zu_c _ _ _ (by omega)]
      have ed : ∀ t, t ≠ i → (q_due (zu (zu M (i + 20) (zc (M 2 i)) (M 13 (zc (M 3 i)))) 0 i (nI 1)) t ↔ q_due M t) := fun t ht => by
        unfold q_due
        rw [e16, e4, e0 t ht]
      refine ⟨h1.trans e16, h2.trans e4, fun t => ?_⟩
      by_cases ht : t = i
      · subst ht
        refine ⟨fun _ => ?_, fun q => absurd ⟨Nat.le_refl _, by omega, c⟩ q⟩
        rw [(h3 t).2 (fun q => by omega), zu_s]
      · refine ⟨fun q => (h3 t).1 ⟨by omega, by omega, (ed t ht).mpr q.2.2⟩, fun q => ?_⟩
        rw [(h3 t).2 (fun r => q ⟨by omega, by omega, (ed t ht).mp r.2.2⟩), e0 t ht]
    · rw [if_pos (q_dueI.mpr c)]
      obtain ⟨h1, h2, h3⟩ := ih (i + 1) M
      refine ⟨h1, h2, fun t => ⟨fun q => ?_, fun q => ?_⟩⟩
      · by_cases ht : t = i
        · subst ht
          exact absurd q.2.2 c
        · exact (h3 t).1 ⟨by omega, by omega, q.2.2⟩
      · by_cases ht : t = i
        · subst ht
          exact (h3 t).2 (fun r => by omega)
        · exact (h3 t).2 (fun r => q ⟨by omega, by omega, r.2.2⟩)
theorem q_ob : ∀ (n i : Nat) (M : zM), (h_X3_openBarrier_lp n i M) 16 = M 16 ∧ (h_X3_openBarrier_lp n i M) 4 = M 4 ∧ ∀ t, (i ≤ t ∧ t < i + n ∧ M 0 t = nI 3 → (h_X3_openBarrier_lp n i M) 0 t = nI 1) ∧ (¬ (i ≤ t ∧ t < i + n ∧ M 0 t = nI 3) → (h_X3_openBarrier_lp n i M) 0 t = M 0 t) := by
  intro n
  induction n with
  | zero =>
    intro i M
    exact ⟨rfl, rfl, fun t => ⟨fun q => absurd q.2.1 (by omega), fun _ => rfl⟩⟩
  | succ n ih =>
    intro i M
    simp only [h_X3_openBarrier_lp]
    by_cases c : M 0 i = nI 3
    · rw [if_pos c]
      obtain ⟨h1, h2, h3⟩ := ih (i + 1) (zu M 0 i (nI 1))
      refine ⟨h1.trans (zu_c _ _ _ (by decide)), h2.trans (zu_c _ _ _ (by decide)), fun t => ?_⟩
      by_cases ht : t = i
      · subst ht
        refine ⟨fun _ => ?_, fun q => absurd ⟨Nat.le_refl _, by omega, c⟩ q⟩
        rw [(h3 t).2 (fun q => by omega), zu_s]
      · have e0 : (zu M 0 i (nI 1)) 0 t = M 0 t := zu_i _ _ _ ht
        refine ⟨fun q => (h3 t).1 ⟨by omega, by omega, e0.trans q.2.2⟩, fun q => ?_⟩
        rw [(h3 t).2 (fun r => q ⟨by omega, by omega, e0.symm.trans r.2.2⟩), e0]
    · rw [if_neg c]
      obtain ⟨h1, h2, h3⟩ := ih (i + 1) M
      refine ⟨h1, h2, fun t => ⟨fun q => ?_, fun q => ?_⟩⟩
      · by_cases ht : t = i
        · subst ht
          exact absurd q.2.2 c
        · exact (h3 t).1 ⟨by omega, by omega, q.2.2⟩
      · by_cases ht : t = i
        · subst ht
          exact (h3 t).2 (fun r => by omega)
        · exact (h3 t).2 (fun r => q ⟨by omega, by omega, r.2.2⟩)
/-- the states once all is prepared -/
theorem q_after {M : zM} : (h_X3_openBarrier (h_X3_finishLoads M)) 16 = M 16 ∧ (h_X3_openBarrier (h_X3_finishLoads M)) 4 = M 4 ∧ ∀ t, t < 4 → (q_rdy M t → (h_X3_openBarrier (h_X3_finishLoads M)) 0 t = nI 1) ∧ (¬ q_rdy M t → (h_X3_openBarrier (h_X3_finishLoads M)) 0 t = M 0 t) := by
  obtain ⟨f16, f4, ff⟩ := q_fl 4 0 M
  have ho := @q_opnI (h_X3_finishLoads M)
  have fd : ∀ t, t < 4 → q_due M t → (h_X3_finishLoads M) 0 t = nI 1 := fun t ht q => (ff t).1 ⟨Nat.zero_le _, by omega, q⟩
  have fn : ∀ t, ¬ q_due M t → (h_X3_finishLoads M) 0 t = M 0 t := fun t q => (ff t).2 (fun r => q r.2.2)
  have hop : q_opn (h_X3_finishLoads M) ↔ q_opn M := by
    unfold q_opn
    have e1 : (∀ k, k < 4 → (h_X3_finishLoads M) 0 k ≠ nI 1 ∧ (h_X3_finishLoads M) 0 k ≠ nI 2) ↔ (∀ k, k < 4 → M 0 k ≠ nI 1 ∧ M 0 k ≠ nI 2) := by
      refine ⟨fun h k hk => ?_, fun h k hk => ?_⟩
      · by_cases c : q_due M k
        · exact absurd (fd k hk c) (h k hk).1
        · rw [← fn k c]
          exact h k hk
      · rw [fn k (fun q => (h k hk).2 q.1)]
        exact h k hk
    refine ⟨fun h => ⟨e1.mp h.1, ?_⟩, fun h => ⟨e1.mpr h.1, ?_⟩⟩
    · obtain ⟨k, hk, q⟩ := h.2
      refine ⟨k, hk, ?_⟩
      rw [← fn k (fun r => (e1.mp h.1 k hk).2 r.1)]
      exact q
    · obtain ⟨k, hk, q⟩ := h.2
      refine ⟨k, hk, ?_⟩
      rw [fn k (fun r => (h.1 k hk).2 r.1)]
      exact q
  unfold h_X3_openBarrier
  by_cases c : g_X3_doesBarrierOpen (h_X3_finishLoads M) = 0
  · rw [if_pos c]
    have no : ¬ q_opn M := fun q => absurd c (ho.mpr (hop.mpr q))
    refine ⟨f16, f4, fun t ht => ⟨fun q => ?_, fun q => ?_⟩⟩
    · rcases q with q | q | q
      · rw [fn t (fun r => absurd (q.symm.trans r.1) (by decide))]
        exact q
      · exact absurd q.2 no
      · exact fd t ht q
    · exact fn t (fun r => q (Or.inr (Or.inr r)))
  · rw [if_neg c]
    have op : q_opn M := hop.mp (ho.mp c)
    obtain ⟨b16, b4, bb⟩ := q_ob 4 0 (h_X3_finishLoads M)
    refine ⟨b16.trans f16, b4.trans f4, fun t ht => ⟨fun q => ?_, fun q => ?_⟩⟩
    · rcases q with q | q | q
      · exact absurd q (op.1 t ht).1
      · exact (bb t).1 ⟨Nat.zero_le _, by omega, by rw [fn t (fun r => absurd (q.1.symm.trans r.1) (by decide))]; exact q.1⟩
      · exact absurd q.1 (op.1 t ht).2
    · have nd : ¬ q_due M t := fun r => q (Or.inr (Or.inr r))
      rw [(bb t).2 (fun r => q (Or.inr (Or.inl ⟨(fn t nd).symm.trans r.2.2, op⟩)))]
      exact fn t nd
/-- ready before is ready behind, and the two steps done twice are done once -/
theorem q_same {M : zM} {t : Nat} (ht : t < 4) : (q_rdy M t ↔ (h_X3_openBarrier (h_X3_finishLoads M)) 0 t = nI 1) ∧ (q_rdy (h_X3_openBarrier (h_X3_finishLoads M)) t ↔ (h_X3_openBarrier (h_X3_finishLoads M)) 0 t = nI 1) := by
  obtain ⟨a16, a4, aa⟩ := @q_after M
  refine ⟨⟨fun q => (aa t ht).1 q, fun q => ?_⟩, ⟨fun q => ?_, fun q => Or.inl q⟩⟩
  · by_cases c : q_rdy M t
    · exact c
    · rw [(aa t ht).2 c] at q
      exact Or.inl q
  · by_cases c : q_rdy M t
    · exact (aa t ht).1 c
    · have e := (aa t ht).2 c
      rcases q with q | q | q
      · exact q
      · exfalso
        rw [e] at q
        have no : ¬ q_opn M := fun r => c (Or.inr (Or.inl ⟨q.1, r⟩))
        apply no
        refine ⟨fun k hk => ?_, t, ht, q.1⟩
        by_cases ck : q_rdy M k
        · exact absurd ((aa k hk).1 ck) (q.2.1 k hk).1
        · rw [← (aa k hk).2 ck]
          exact q.2.1 k hk
      · exfalso
        unfold q_due at q
        rw [a16, a4, e] at q
        exact c (Or.inr (Or.inr q))
