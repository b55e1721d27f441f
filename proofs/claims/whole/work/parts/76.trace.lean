/-! the trace: a ring there, a row that is shifted here -/
def q_sf : Nat → Nat → zM → zM
  | 0, k, N => N
  | n + 1, k, N => q_sf n (k - 1) (zu N 19 k (N 19 (k - 3)))
theorem q_sf_eq (th pl : Int32) : ∀ (n k : Nat) (N : zM), hN_X7_traces_lp th pl n k N = hN_X7_traces_lp th pl 0 0 (q_sf n k N) := by
  intro n
  induction n with
  | zero => exact fun _ _ => rfl
  | succ n ih =>
    intro k N
    simp only [hN_X7_traces_lp, q_sf]
    exact ih _ _
theorem q_sf_c : ∀ (n k : Nat) (N : zM) {c : Nat}, c ≠ 19 → (q_sf n k N) c = N c := by
  intro n
  induction n with
  | zero => exact fun _ _ _ _ => rfl
  | succ n ih =>
    intro k N c hc
    simp only [q_sf]
    rw [ih _ _ hc, zu_c _ _ _ hc]
theorem q_sf_19 : ∀ (n k : Nat) (N : zM) (j : Nat), k = n + 2 → (3 ≤ j ∧ j ≤ k → (q_sf n k N) 19 j = N 19 (j - 3)) ∧ (¬ (3 ≤ j ∧ j ≤ k) → (q_sf n k N) 19 j = N 19 j) := by
  intro n
  induction n with
  | zero =>
    intro k N j hk
    exact ⟨fun q => by omega, fun _ => rfl⟩
  | succ n ih =>
    intro k N j hk
    simp only [q_sf]
    obtain ⟨h1, h2⟩ := ih (k - 1) (zu N 19 k (N 19 (k - 3))) j (by omega)
    refine ⟨fun q => ?_, fun q => ?_⟩
    · by_cases e : j = k
      · subst e
        rw [h2 (by omega), zu_s]
      · rw [h1 (by omega), zu_i _ _ _ (by omega)]
    · rw [h2 (by omega), zu_i _ _ _ (by omega)]
theorem q_cntI {x : Int32} (h : zIn x 17) : (if (nI 16) < (nI (zc x + 1)) then (nI 16) else (nI (zc x + 1))) = (if nI 16 ≤ x then x + nI 0 else x + nI 1) ∧ zIn (if nI 16 ≤ x then x + nI 0 else x + nI 1) 17 ∧ zc (if nI 16 ≤ x then x + nI 0 else x + nI 1) ≤ zc x + 1 ∧ zc (if nI 16 ≤ x then x + nI 0 else x + nI 1) ≤ 16 := by
  have h1 := h.1
  have h2 := h.2
  generalize zc x = j at h1 h2
  subst h2
  by_cases c : j = 16
  · subst c
    rw [if_pos (nI_lt (by decide) (by decide)), if_pos (nI_le (Nat.le_refl _) (by decide)), nI_add]
    exact ⟨rfl, zIn_nI (by decide) (by decide), by rw [zc_nI (by decide)]; decide, by rw [zc_nI (by decide)]; decide⟩
  · rw [if_neg (nI_nlt (by omega) (by decide)), if_neg (nI_ge (by omega) (by decide)), nI_add]
    exact ⟨rfl, zIn_nI (by omega) (by decide), by rw [zc_nI (by omega)]; exact Nat.le_refl _, by rw [zc_nI (by omega)]; omega⟩
theorem sim_note {M N : zM} {y z : Int32} (h : sim M N) (hM : zOK M) : sim (h_X5_note (M 16 0) y z M) (hN_X7_traces y z N) := by
  have e16 := h.e (c := 16) (by decide) (by decide) (by decide) (by decide) 0
  have hn := hM.2.2.1.1
  have hk := hM.2.2.2
  rw [h.2.2.2.1] at hk
  obtain ⟨k1, k2, k3, k4⟩ := q_cntI hk
  have en : (hN_X7_traces y z N) = (if (nI 16) ≤ N 18 1 then zu (zu (zu (zu (q_sf 45 47 N) 19 0 (N 16 0)) 19 1 y) 19 2 z) 18 1 (N 18 1 + nI 0) else zu (zu (zu (zu (q_sf 45 47 N) 19 0 (N 16 0)) 19 1 y) 19 2 z) 18 1 (N 18 1 + nI 1)) := by
    unfold hN_X7_traces
    rw [q_sf_eq]
    simp only [hN_X7_traces_lp]
    have a1 : (q_sf 45 47 N) 16 0 = N 16 0 := by rw [q_sf_c _ _ _ (by decide)]
    have a2 : (zu (zu (zu (q_sf 45 47 N) 19 0 (N 16 0)) 19 1 y) 19 2 z) 18 1 = N 18 1 := by rw [zu_c _ _ _ (by decide), zu_c _ _ _ (by decide), zu_c _ _ _ (by decide), q_sf_c _ _ _ (by decide)]
    rw [a1, a2]
  have en2 : (hN_X7_traces y z N) = zu (zu (zu (zu (q_sf 45 47 N) 19 0 (N 16 0)) 19 1 y) 19 2 z) 18 1 (if nI 16 ≤ N 18 1 then N 18 1 + nI 0 else N 18 1 + nI 1) := by
    rw [en]
    by_cases c : nI 16 ≤ N 18 1
    · rw [if_pos c, if_pos c]
    · rw [if_neg c, if_neg c]
  have mc : M 18 1 = N 18 1 := h.2.2.2.1
  have oc : ∀ c, c ≠ 18 → c ≠ 19 → (h_X5_note (M 16 0) y z M) c = M c := by
    intro c h18 h19
    unfold h_X5_note
    rw [zu_c _ _ _ h18, zu_c _ _ _ h18, zu_c _ _ _ h19, zu_c _ _ _ h19, zu_c _ _ _ h19]
  have nc : ∀ c, c ≠ 18 → c ≠ 19 → (hN_X7_traces y z N) c = N c := by
    intro c h18 h19
    rw [en2, zu_c _ _ _ h18, zu_c _ _ _ h19, zu_c _ _ _ h19, zu_c _ _ _ h19, q_sf_c _ _ _ h19]
  have n18 : (hN_X7_traces y z N) 18 1 = (if nI 16 ≤ N 18 1 then N 18 1 + nI 0 else N 18 1 + nI 1) := by rw [en2, zu_s]
  refine ⟨fun c h3 h11 h18 h19 => ?_, ?_, ?_, ?_, ?_⟩
  · rw [oc c h18 h19, nc c h18 h19]
    exact h.1 c h3 h11 h18 h19
  · rw [oc 3 (by decide) (by decide), nc 3 (by decide) (by decide), nc 0 (by decide) (by decide)]
    exact h.2.1
  · rw [oc 11 (by decide) (by decide), nc 11 (by decide) (by decide), nc 10 (by decide) (by decide)]
    exact h.2.2.1
  · rw [n18, ← k1]
    unfold h_X5_note
    rw [zu_s, mc]
  · intro ago part ha hp
    rw [n18] at ha
    have m18 : (h_X5_note (M 16 0) y z M) 18 0 = nI ((zc (M 18 0) + 1) % 16) := by
      unfold h_X5_note
      rw [zu_i _ _ _ (by decide), zu_s]
    rw [m18, zc_nI (by omega)]
    have m19 : ∀ q, (h_X5_note (M 16 0) y z M) 19 q = (zu (zu (zu M 19 ((zc (M 18 0)) * 3) (M 16 0)) 19 ((zc (M 18 0)) * 3 + 1) y) 19 ((zc (M 18 0)) * 3 + 2) z) 19 q := by
      intro q
      unfold h_X5_note
      rw [zu_c _ _ _ (by decide), zu_c _ _ _ (by decide)]
    have n19 : ∀ q, (hN_X7_traces y z N) 19 q = (zu (zu (zu (q_sf 45 47 N) 19 0 (N 16 0)) 19 1 y) 19 2 z) 19 q := by
      intro q
      rw [en2, zu_c _ _ _ (by decide)]
    rw [m19, n19]
    by_cases a0 : ago = 0
    · subst a0
      rw [show ((zc (M 18 0) + 1) % 16 + 15 - 0) % 16 = zc (M 18 0) by omega]
      match part, hp with
      | 0, _ =>
        rw [zu_i _ _ _ (by omega), zu_i _ _ _ (by omega), Nat.add_zero, zu_s, zu_i _ _ _ (by omega), zu_i _ _ _ (by omega), zu_s]
        exact e16
      | 1, _ =>
        rw [zu_i _ _ _ (by omega), zu_s, zu_i _ _ _ (by omega), zu_s]
      | 2, _ =>
        rw [zu_s, zu_s]
    · have r1 : ((zc (M 18 0) + 1) % 16 + 15 - ago) % 16 = (zc (M 18 0) + 15 - (ago - 1)) % 16 := by omega
      have r2 : (zc (M 18 0) + 15 - (ago - 1)) % 16 ≠ zc (M 18 0) := by omega
      rw [r1, zu_i _ _ _ (by omega), zu_i _ _ _ (by omega), zu_i _ _ _ (by omega), zu_i _ _ _ (by omega), zu_i _ _ _ (by omega), zu_i _ _ _ (by omega)]
      rw [(q_sf_19 45 47 N (3 * ago + part) rfl).1 (by omega), h.2.2.2.2 (ago - 1) part (by omega) hp]
      exact congrArg (N 19) (by omega)
