theorem sB_up {B B' : Nat} {M N : zM} (h : sB B M N) (hB : B ≤ B') (h2 : B' < 1000000) : sB B' M N := ⟨h.1, h.2.1, h.2.2.1, h.2.2.2.1, h.2.2.2.2.1, h.2.2.2.2.2.1, h.2.2.2.2.2.2.1, ⟨zIn_up h.2.2.2.2.2.2.2.1.1 (by omega), h2⟩, h.2.2.2.2.2.2.2.2.1, h.2.2.2.2.2.2.2.2.2⟩
theorem sB_run (cycles : Int32) (most : Nat) (hm : most ≤ 200) : ∀ (n i : Nat) (M N A P X : zM) (B : Nat), i + n = most → B + n < 1000000 → sB B M N → g_X3_runToBreakpoint_lp most n i M = g_X7_run_lp cycles n i N A P X ∧ sB (B + n) (h_X3_runToBreakpoint_lp most n i M) (hN_X7_run_lp cycles n i N A P X) := by
  intro n
  induction n with
  | zero =>
    intro i M N A P X B hn hB h
    simp only [g_X3_runToBreakpoint_lp, g_X7_run_lp, h_X3_runToBreakpoint_lp, hN_X7_run_lp]
    have e : i = most := by omega
    subst e
    exact ⟨rfl, h⟩
  | succ n ih =>
    intro i M N A P X B hn hB h
    have ho := sim_over h.1
    have hst := sB_stop h
    simp only [g_X3_runToBreakpoint_lp, g_X7_run_lp, h_X3_runToBreakpoint_lp, hN_X7_run_lp]
    have k := fun A' => ih (i + 1) _ _ A' P X (B + 1) (by omega) (by omega) (sB_cycle h (by omega))
    have e : B + (n + 1) = B + 1 + n := by omega
    by_cases c : g_X3_areAllHalted M = 0
    · rw [if_pos c, if_pos (ho.mp c), if_pos c, if_pos (ho.mp c)]
      by_cases c2 : i = 0
      · subst c2
        rw [if_pos (show nI 0 ≤ 0 by decide), if_pos (show nI 0 = 0 by decide), if_pos (show nI 0 ≤ 0 by decide), if_pos (show nI 0 = 0 by decide), e]
        exact k A
      · have n1 : ¬ nI i ≤ 0 := nI_ge (a := 0) (by omega) (by omega)
        have n2 : ¬ nI i = 0 := nI_ne0 (by omega) (by omega)
        rw [if_neg n1, if_neg n2, if_neg n1, if_neg n2, hst]
        by_cases c3 : g_X7_isStopped N = 0
        · rw [if_pos c3, if_pos c3, if_pos c3, if_pos c3, e]
          exact k _
        · rw [if_neg c3, if_neg c3, if_neg c3, if_neg c3]
          exact ⟨rfl, sB_up h (by omega) hB⟩
    · rw [if_neg c, if_neg (fun q => c (ho.mpr q)), if_neg c, if_neg (fun q => c (ho.mpr q))]
      exact ⟨rfl, sB_up h (by omega) hB⟩
/-! the settings of a trial -/
theorem sB_set {M N : zM} {B i : Nat} {x : Int32} (h : sB B M N) : sB B (zu M 15 i x) (zu N 15 i x) :=
  ⟨sim_zu h.1 (by decide) (by decide) (by decide) (by decide) (by decide) (by decide), zOK_u (by decide) (by decide) (by decide) h.2.1, sh_zu h.2.2.1 (by omega) (by decide), rOK_u h.2.2.2 (by decide) (by decide) (by decide) (by decide) (by decide) (by decide) (by decide) (by decide) (by decide)⟩
theorem sB_left {M N : zM} {B : Nat} (h : sB B M N) (hB : B + 500 < 1000000) (latency lend : Int32) : g_X3_runToEnd (zu (zu M 15 0 latency) 15 1 lend) = g_X7_leftIf latency lend N := by
  unfold g_X3_runToEnd g_X7_leftIf g_X7_runsOut
  exact (sB_out 500 0 _ _ B (by omega) hB (sB_set (sB_set h))).1
