/-! runs of cycles -/
def mOK (B : Nat) (M : zM) : Prop := st1 M ∧ ct1 B M ∧ xR M
theorem mOK_up {B B' : Nat} {M : zM} (h : mOK B M) (hB : B ≤ B') : mOK B' M := ⟨h.1, ct1_up h.2.1 hB, h.2.2⟩
theorem mOK_cycle {B : Nat} {M : zM} (hB : B + 2 < 2 ^ 31) (h : mOK B M) : mOK (B + 1) (h_X3_runCycle M) := ⟨st1_cycle h.1, ct1_cycle hB h.1 h.2.1, xR_cycle h.2.2⟩
theorem mOK_bp (most : Nat) : ∀ (n i : Nat) (M : zM) (B : Nat), B + n + 2 < 2 ^ 31 → mOK B M → mOK (B + n) (h_X3_runToBreakpoint_lp most n i M) := by
  intro n
  induction n with
  | zero => exact fun _ _ _ _ h => h
  | succ n ih =>
    intro i M B hB h
    have go : mOK (B + (n + 1)) (h_X3_runToBreakpoint_lp most n (i + 1) (h_X3_runCycle M)) := by
      have k := ih (i + 1) _ (B + 1) (by omega) (mOK_cycle (by omega) h)
      rw [show B + (n + 1) = B + 1 + n by omega]
      exact k
    have st : mOK (B + (n + 1)) M := mOK_up h (by omega)
    simp only [h_X3_runToBreakpoint_lp]
    exact z_ite (P := mOK _) (fun _ => z_ite (P := mOK _) (fun _ => go) (fun _ => z_ite (P := mOK _) (fun _ => go) (fun _ => st))) (fun _ => st)
theorem ah_lp : ∀ (n i : Nat) (M : zM), (g_X3_areAllHalted_lp n i M = nI 1 ∧ ∀ k, k < n → M 0 (i + k) = 0) ∨ (g_X3_areAllHalted_lp n i M = nI 0 ∧ ∃ k, k < n ∧ ¬ M 0 (i + k) = 0) := by
  intro n
  induction n with
  | zero => exact fun i M => Or.inl ⟨rfl, fun k hk => absurd hk (Nat.not_lt_zero _)⟩
  | succ n ih =>
    intro i M
    simp only [g_X3_areAllHalted_lp]
    by_cases c : M 0 i = 0
    · rw [if_pos c]
      rcases ih (i + 1) M with ⟨h1, h2⟩ | ⟨h1, k, hk, h2⟩
      · refine Or.inl ⟨h1, fun k hk => ?_⟩
        cases k with
        | zero => exact c
        | succ k =>
          rw [show i + (k + 1) = i + 1 + k by omega]
          exact h2 k (by omega)
      · refine Or.inr ⟨h1, k + 1, by omega, ?_⟩
        rw [show i + (k + 1) = i + 1 + k by omega]
        exact h2
    · rw [if_neg c]
      exact Or.inr ⟨rfl, 0, by omega, c⟩
theorem ah_all (M : zM) : (g_X3_areAllHalted M = nI 1 ∧ ∀ t, t < 4 → M 0 t = 0) ∨ (g_X3_areAllHalted M = 0 ∧ ∃ t, t < 4 ∧ ¬ M 0 t = 0) := by
  rcases ah_lp 4 0 M with ⟨h1, h2⟩ | ⟨h1, k, hk, h2⟩
  · refine Or.inl ⟨h1, fun t ht => ?_⟩
    have q := h2 t ht
    rw [Nat.zero_add] at q
    exact q
  · rw [Nat.zero_add] at h2
    exact Or.inr ⟨h1, k, hk, h2⟩
theorem re_lp : ∀ (n i : Nat) (M : zM), i + n = 500 → g_X3_runToEnd_lp n i M = (-100005) ∨ ∃ k, i ≤ k ∧ k ≤ 500 ∧ g_X3_runToEnd_lp n i M = nI k := by
  intro n
  induction n with
  | zero =>
    intro i M hi
    simp only [g_X3_runToEnd_lp]
    by_cases c : g_X3_areAllHalted M = 0
    · rw [if_pos c]
      exact Or.inl rfl
    · rw [if_neg c]
      exact Or.inr ⟨500, by omega, Nat.le_refl _, rfl⟩
  | succ n ih =>
    intro i M hi
    simp only [g_X3_runToEnd_lp]
    by_cases c : g_X3_areAllHalted M = 0
    · rw [if_pos c]
      rcases ih (i + 1) (h_X3_runCycle M) (by omega) with h | ⟨k, h1, h2, h3⟩
      · exact Or.inl h
      · exact Or.inr ⟨k, by omega, h2, h3⟩
    · rw [if_neg c]
      exact Or.inr ⟨i, Nat.le_refl _, by omega, rfl⟩
theorem re_all (M : zM) : ((∀ t, t < 4 → M 0 t = 0) ∧ g_X3_runToEnd M = nI 0) ∨ ((∃ t, t < 4 ∧ ¬ M 0 t = 0) ∧ (g_X3_runToEnd M = (-100005) ∨ ∃ k, 0 < k ∧ k ≤ 500 ∧ g_X3_runToEnd M = nI k)) := by
  unfold g_X3_runToEnd
  rw [show g_X3_runToEnd_lp 500 0 M = if (g_X3_areAllHalted M) = 0 then g_X3_runToEnd_lp 499 (0 + 1) (h_X3_runCycle M) else nI 0 from rfl]
  rcases ah_all M with ⟨h1, h2⟩ | ⟨h1, h2⟩
  · rw [h1, if_neg (by decide)]
    exact Or.inl ⟨h2, rfl⟩
  · rw [h1, if_pos rfl]
    refine Or.inr ⟨h2, ?_⟩
    rcases re_lp 499 (0 + 1) (h_X3_runCycle M) rfl with h | ⟨k, k1, k2, k3⟩
    · exact Or.inl h
    · exact Or.inr ⟨k, by omega, k2, k3⟩
/-! without breakpoints a run can be cut in two -/
def nbp (M : zM) : Prop := ∀ p, p < 48 → M 12 p = 0
theorem kc_cycle {c : Nat} (hc : (10 ≤ c ∧ c < 13) ∨ c = 14 ∨ c = 15) (M : zM) : (h_X3_runCycle M) c = M c := by
  have e := kc_prep (c := c) (by omega) M
  unfold h_X3_runCycle
  generalize h_X3_openBarrier (h_X3_finishLoads M) = M2 at *
  refine z_ite (P := fun Y : zM => Y c = M c) (fun _ => ?_) (fun _ => ?_)
  · rw [zu_c _ _ _ (by omega), zu_c _ _ _ (by omega)]
    exact (kc_cs (by omega) _ _ _ _).trans e
  · rw [zu_c _ _ _ (by omega), kc_ex (by omega), kc_ni (by omega)]
    exact (kc_cs (by omega) _ _ _ _).trans e
theorem nbp_cycle {M : zM} (h : nbp M) : nbp (h_X3_runCycle M) := by
  unfold nbp
  rw [kc_cycle (by omega)]
  exact h
theorem nbp_at {M : zM} (h : nbp M) : g_X3_isAtBreakpoint M = 0 := by
  unfold g_X3_isAtBreakpoint
  by_cases c1 : g_X6_isThread (g_X3_findIssuer M) = 0
  · rw [if_pos c1]
    rfl
  · rw [if_neg c1]
    by_cases c2 : g_X6_isPlace (M 1 (zc (g_X3_findIssuer M))) = 0
    · rw [if_pos c2]
      rfl
    · rw [if_neg c2, h _ (z_isPlace c2).1, if_neg (by decide)]
      rfl
def rn_h : Nat → zM → zM
  | 0, M => M
  | n + 1, M => if g_X3_areAllHalted M = 0 then rn_h n (h_X3_runCycle M) else M
def rn_g : Nat → zM → Nat
  | 0, _ => 0
  | n + 1, M => if g_X3_areAllHalted M = 0 then rn_g n (h_X3_runCycle M) + 1 else 0
theorem rn_le : ∀ (n : Nat) (M : zM), rn_g n M ≤ n := by
  intro n
  induction n with
  | zero => exact fun _ => Nat.le_refl _
  | succ n ih =>
    intro M
    simp only [rn_g]
    by_cases c : g_X3_areAllHalted M = 0
    · rw [if_pos c]
      have := ih (h_X3_runCycle M)
      omega
    · rw [if_neg c]
      omega
theorem rn_lp (most : Nat) : ∀ (n i : Nat) (M : zM), i + n = most → nbp M → h_X3_runToBreakpoint_lp most n i M = rn_h n M ∧ g_X3_runToBreakpoint_lp most n i M = nI (i + rn_g n M) := by
  intro n
  induction n with
  | zero =>
    intro i M hi h
    refine ⟨rfl, ?_⟩
    show nI most = nI (i + 0)
    rw [← hi]
  | succ n ih =>
    intro i M hi h
    simp only [h_X3_runToBreakpoint_lp, g_X3_runToBreakpoint_lp, rn_h, rn_g]
    rw [nbp_at h]
    obtain ⟨k1, k2⟩ := ih (i + 1) (h_X3_runCycle M) (by omega) (nbp_cycle h)
    by_cases c : g_X3_areAllHalted M = 0
    · rw [if_pos c, if_pos c, if_pos c, if_pos c]
      have e : i + (rn_g n (h_X3_runCycle M) + 1) = i + 1 + rn_g n (h_X3_runCycle M) := by omega
      rw [e]
      by_cases c2 : nI i ≤ 0
      · rw [if_pos c2, if_pos c2]
        exact ⟨k1, k2⟩
      · rw [if_neg c2, if_neg c2, if_pos rfl, if_pos rfl]
        exact ⟨k1, k2⟩
    · rw [if_neg c, if_neg c, if_neg c, if_neg c]
      exact ⟨rfl, rfl⟩
theorem rn_stop {n : Nat} {M : zM} (c : ¬ g_X3_areAllHalted M = 0) : rn_h n M = M ∧ rn_g n M = 0 := by
  cases n with
  | zero => exact ⟨rfl, rfl⟩
  | succ n => exact ⟨if_neg c, if_neg c⟩
theorem rn_add (n : Nat) : ∀ (m : Nat) (M : zM), rn_h (m + n) M = rn_h n (rn_h m M) ∧ rn_g (m + n) M = rn_g m M + rn_g n (rn_h m M) := by
  intro m
  induction m with
  | zero =>
    intro M
    rw [Nat.zero_add]
    exact ⟨rfl, (Nat.zero_add _).symm⟩
  | succ m ih =>
    intro M
    rw [show m + 1 + n = m + n + 1 by omega]
    simp only [rn_h, rn_g]
    by_cases c : g_X3_areAllHalted M = 0
    · rw [if_pos c, if_pos c, if_pos c, if_pos c]
      obtain ⟨k1, k2⟩ := ih (h_X3_runCycle M)
      refine ⟨k1, ?_⟩
      rw [k2]
      omega
    · rw [if_neg c, if_neg c, if_neg c, if_neg c, (rn_stop (n := n) c).1, (rn_stop (n := n) c).2]
      exact ⟨rfl, rfl⟩
theorem rn_two {M : zM} (h : nbp M) (m n : Nat) : h_X3_runToBreakpoint (m + n) M = h_X3_runToBreakpoint n (h_X3_runToBreakpoint m M) ∧ g_X3_runToBreakpoint (m + n) M = g_X3_runToBreakpoint m M + g_X3_runToBreakpoint n (h_X3_runToBreakpoint m M) := by
  have nb : ∀ (m : Nat) (M : zM), nbp M → nbp (rn_h m M) := by
    intro m
    induction m with
    | zero => exact fun _ h => h
    | succ m ih =>
      intro M h
      simp only [rn_h]
      exact z_ite (P := nbp) (fun _ => ih _ (nbp_cycle h)) (fun _ => h)
  unfold h_X3_runToBreakpoint g_X3_runToBreakpoint
  rw [(rn_lp m m 0 M (Nat.zero_add _) h).1, (rn_lp m m 0 M (Nat.zero_add _) h).2, (rn_lp (m + n) (m + n) 0 M (Nat.zero_add _) h).1, (rn_lp (m + n) (m + n) 0 M (Nat.zero_add _) h).2, (rn_lp n n 0 _ (Nat.zero_add _) (nb m M h)).1, (rn_lp n n 0 _ (Nat.zero_add _) (nb m M h)).2, (rn_add n m M).1, (rn_add n m M).2, Nat.zero_add, Nat.zero_add, Nat.zero_add, nI_add]
  exact ⟨rfl, rfl⟩
