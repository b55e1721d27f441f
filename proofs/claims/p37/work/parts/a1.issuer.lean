/-! what the next issuing thread is -/
theorem fi_next {ready : Int32} {o : Nat} (ho : o < 4) : ∀ n i, i + n = 4 → (g_X3_findNextAfter_lp (nI o) ready n i = (-100005) ∧ ∀ k, i ≤ k → k < 4 → g_X3_isIn ready (nI ((o + k) % 4)) = 0) ∨ ∃ t, t < 4 ∧ g_X3_findNextAfter_lp (nI o) ready n i = nI t ∧ ¬ g_X3_isIn ready (nI t) = 0 := by
  intro n
  induction n with
  | zero =>
    intro i hi
    exact Or.inl ⟨rfl, fun k h1 h2 => by omega⟩
  | succ n ih =>
    intro i hi
    have e : (nI o + (nI i)) - (nI o + (nI i)) / (nI 4) * (nI 4) = nI ((o + i) % 4) := by
      rw [nI_add]
      exact pk_rem (by omega) (by decide) (by decide)
    simp only [g_X3_findNextAfter_lp]
    rw [e]
    by_cases c : g_X3_isIn ready (nI ((o + i) % 4)) = 0
    · rw [if_pos c]
      rcases ih (i + 1) (by omega) with ⟨h1, h2⟩ | h
      · refine Or.inl ⟨h1, fun k hk1 hk2 => ?_⟩
        by_cases ek : k = i
        · rw [ek]
          exact c
        · exact h2 k (by omega) hk2
      · exact Or.inr h
    · rw [if_neg c]
      exact Or.inr ⟨(o + i) % 4, Nat.mod_lt _ (by decide), rfl, c⟩
theorem fi_long {ready : Int32} {M : zM} : ∀ (n i : Nat) (lo ea : Int32), i + n = 4 → (lo = (-100005) ∨ ∃ t, t < 4 ∧ lo = nI t ∧ ¬ g_X3_isIn ready (nI t) = 0) → (g_X3_findLongestWaiting_lp ready n lo ea i M = (-100005) ∧ lo = (-100005) ∧ ∀ k, i ≤ k → k < 4 → g_X3_isIn ready (nI k) = 0) ∨ ∃ t, t < 4 ∧ g_X3_findLongestWaiting_lp ready n lo ea i M = nI t ∧ ¬ g_X3_isIn ready (nI t) = 0 := by
  intro n
  induction n with
  | zero =>
    intro i lo ea hi h
    rcases h with h | h
    · exact Or.inl ⟨h, h, fun k h1 h2 => by omega⟩
    · exact Or.inr h
  | succ n ih =>
    intro i lo ea hi h
    simp only [g_X3_findLongestWaiting_lp]
    by_cases c : g_X3_isIn ready (nI i) = 0
    · rw [if_pos c]
      rcases ih (i + 1) lo ea (by omega) h with ⟨h1, h2, h3⟩ | h
      · refine Or.inl ⟨h1, h2, fun k hk1 hk2 => ?_⟩
        by_cases ek : k = i
        · rw [ek]
          exact c
        · exact h3 k (by omega) hk2
      · exact Or.inr h
    · have hi4 : i < 4 := by omega
      have new : ∀ ea', (g_X3_findLongestWaiting_lp ready n (nI i) ea' (i + 1) M = (-100005) ∧ lo = (-100005) ∧ ∀ k, i ≤ k → k < 4 → g_X3_isIn ready (nI k) = 0) ∨ ∃ t, t < 4 ∧ g_X3_findLongestWaiting_lp ready n (nI i) ea' (i + 1) M = nI t ∧ ¬ g_X3_isIn ready (nI t) = 0 := by
        intro ea'
        rcases ih (i + 1) (nI i) ea' (by omega) (Or.inr ⟨i, hi4, rfl, c⟩) with ⟨_, h2, _⟩ | h
        · exact absurd h2 (q_t5 hi4)
        · exact Or.inr h
      rw [if_neg c]
      by_cases c2 : lo = (-100005)
      · rw [if_pos c2]
        exact new _
      · rw [if_neg c2]
        by_cases c3 : ea ≤ M 5 i
        · rw [if_pos c3]
          rcases ih (i + 1) lo ea (by omega) h with ⟨_, h2, _⟩ | h
          · exact absurd h2 c2
          · exact Or.inr h
        · rw [if_neg c3]
          exact new _
theorem fi_all {M : zM} (hs : ∀ k, k < 8 → zIn (M 14 k) 4) (hc : zIn (M 16 0) (2 ^ 31)) : (g_X3_findIssuer M = (-100005) ∧ ¬ q_rdy M (zc (M 14 (zc (M 16 0) % 8))) ∧ (M 15 1 = nI 1 ∨ M 15 1 = nI 2 → ∀ t, t < 4 → ¬ q_rdy M t)) ∨ ∃ t, t < 4 ∧ g_X3_findIssuer M = nI t ∧ q_rdy M t ∧ (q_rdy M (zc (M 14 (zc (M 16 0) % 8))) → nI t = M 14 (zc (M 16 0) % 8)) := by
  have eo : g_X3_slotOwner M = M 14 (zc (M 16 0) % 8) := by
    unfold g_X3_slotOwner
    rw [q_tn hc (Nat.le_refl _)]
  have ho := hs (zc (M 16 0) % 8) (Nat.mod_lt _ (by decide))
  unfold g_X3_findIssuer
  rw [eo]
  generalize M 14 (zc (M 16 0) % 8) = ow at *
  obtain ⟨o1, o2⟩ := ho
  generalize zc ow = o at *
  subst o2
  by_cases c : g_X3_isIn (g_X3_findReady M) (nI o) = 0
  · have nr : ¬ q_rdy M o := fun q => (q_bit o1).mpr q c
    rw [if_pos c]
    by_cases c1 : M 15 1 = nI 1
    · rw [if_pos c1]
      unfold g_X3_findNextAfter
      rcases fi_next (ready := g_X3_findReady M) o1 3 1 (by decide) with ⟨h1, h2⟩ | ⟨t, ht, h1, h2⟩
      · refine Or.inl ⟨h1, nr, fun _ t ht q => ?_⟩
        by_cases et : t = o
        · exact nr (et ▸ q)
        · have k := h2 ((t + 4 - o) % 4) (by omega) (by omega)
          rw [show (o + (t + 4 - o) % 4) % 4 = t by omega] at k
          exact (q_bit ht).mpr q k
      · exact Or.inr ⟨t, ht, h1, (q_bit ht).mp h2, fun q => absurd q nr⟩
    · rw [if_neg c1]
      by_cases c2 : M 15 1 = nI 2
      · rw [if_pos c2]
        unfold g_X3_findLongestWaiting
        rcases fi_long (ready := g_X3_findReady M) (M := M) 4 0 (-100005) (nI 0) (by decide) (Or.inl rfl) with ⟨h1, -, h3⟩ | ⟨t, ht, h1, h2⟩
        · exact Or.inl ⟨h1, nr, fun _ t ht q => (q_bit ht).mpr q (h3 t (Nat.zero_le _) ht)⟩
        · exact Or.inr ⟨t, ht, h1, (q_bit ht).mp h2, fun q => absurd q nr⟩
      · rw [if_neg c2]
        exact Or.inl ⟨rfl, nr, fun q => q.elim (fun q => absurd q c1) (fun q => absurd q c2)⟩
  · rw [if_neg c]
    exact Or.inr ⟨o, o1, rfl, (q_bit o1).mp c, fun _ => rfl⟩
