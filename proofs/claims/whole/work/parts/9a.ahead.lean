/-! what would be: the trial's answers -/
section AH
variable {B : Nat} {Z : Nat → zM} {N P X : zM}
theorem iv_try (h : IV B Z N P X) (x y : Int32) : IV B (h_tryOut2 Z x y) N P X := by
  refine ⟨by rw [try2_0]; exact h.1, xR_try2 h.2.1, hi_ext h.2.2.1 (fun k k1 k2 => ?_) ?_ rfl, ?_⟩
  · unfold h_tryOut2
    rw [va_up_ne _ _ (by omega)]
  · unfold h_tryOut2
    rw [va_up_ne _ _ (by decide)]
  · unfold h_tryOut2
    rw [va_up_ne _ _ (by decide)]
    exact h.2.2.2
theorem ah_cyclesLeft (h : IV B Z N P X) (hB : B + 500 < 1000000) : g_cyclesLeft2 Z = g_X7_cyclesLeft N ∧ IV B (h_cyclesLeft2 Z) N P X := by
  unfold g_cyclesLeft2 g_X7_cyclesLeft h_cyclesLeft2 g_tryOut2
  rw [iv_e h (c := 15) (by decide) (by decide) (by decide) (by decide) 0, iv_e h (c := 15) (by decide) (by decide) (by decide) (by decide) 1]
  exact ⟨sB_left h.1 hB _ _, iv_try h _ _⟩
theorem ah_cyclesIf (h : IV B Z N P X) (hB : B + 500 < 1000000) (A : zM) (latency lend : Int32) : g_cyclesIf2 Z latency lend = g_X7_cyclesIf latency lend N A ∧ IV B (h_cyclesIf2 Z latency lend) N P X := by
  unfold g_cyclesIf2 g_X7_cyclesIf h_cyclesIf2 g_tryOut2
  by_cases q : g_X7_in latency (nI 0) (nI 20) = 0
  · have q' : g_X6_isWithin latency (nI 0) (nI 20) = 0 := q
    rw [if_pos q, if_pos q', if_pos q']
    exact ⟨rfl, h⟩
  · have q' : ¬ g_X6_isWithin latency (nI 0) (nI 20) = 0 := q
    rw [if_neg q, if_neg q', if_neg q']
    by_cases r : g_X7_in lend (nI 0) (nI 2) = 0
    · have r' : g_X6_isWithin lend (nI 0) (nI 2) = 0 := r
      rw [if_pos r, if_pos r', if_pos r']
      exact ⟨rfl, h⟩
    · have r' : ¬ g_X6_isWithin lend (nI 0) (nI 2) = 0 := r
      rw [if_neg r, if_neg r', if_neg r']
      exact ⟨sB_left h.1 hB _ _, iv_try h _ _⟩
theorem ah_bestLend (h : IV B Z N P X) (hB : B + 500 < 1000000) (A : zM) : g_bestLend2 Z = g_X7_bestLend N A ∧ IV B (h_bestLend2 Z) N P X := by
  have key : ∀ l, g_X3_runToEnd (zu (zu (Z 0) 15 0 (Z 0 15 0)) 15 1 l) = g_X7_leftIf (N 15 0) l N := by
    intro l
    rw [iv_e h (c := 15) (by decide) (by decide) (by decide) (by decide) 0]
    exact sB_left h.1 hB _ _
  refine ⟨?_, ?_⟩
  · simp only [g_bestLend2, g_tryOut2, try2_0, key, g_X7_bestLend, g_X7_bestLend_lp]
  · simp only [h_bestLend2, ite_self]
    exact iv_try (iv_try (iv_try h _ _) _ _) _ _
theorem ah_finalWord (h : IV B Z N P X) (hB : B + 500 < 1000000) (A : zM) (word : Int32) : g_finalWord2 Z word = g_X7_finalWord word N A ∧ IV B (h_finalWord2 Z word) N P X := by
  have ez : zu (zu (Z 0) 15 0 (Z 0 15 0)) 15 1 (Z 0 15 1) = Z 0 := by rw [zu_self, zu_self]
  obtain ⟨k1, k2⟩ := sB_out 500 0 (Z 0) N B (by omega) (by omega) h.1
  have e1 : g_tryOut2 Z (Z 0 15 0) (Z 0 15 1) = g_X7_runsOut N := by
    unfold g_tryOut2
    rw [ez]
    exact k1
  have e2 : h_tryOut2 Z (Z 0 15 0) (Z 0 15 1) 1 = h_X3_runToEnd_lp 500 0 (Z 0) := by
    unfold h_tryOut2
    rw [va_up_self, ez]
    rfl
  unfold g_finalWord2 g_X7_finalWord h_finalWord2
  by_cases q : g_X7_in word (nI 0) (nI 31) = 0
  · have q' : g_X6_isWord word = 0 := q
    rw [if_pos q, if_pos q', if_pos q']
    exact ⟨rfl, h⟩
  · have q' : ¬ g_X6_isWord word = 0 := q
    rw [if_neg q, if_neg q', if_neg q', ite_self, e1, e2]
    refine ⟨?_, iv_try h _ _⟩
    by_cases r : g_X7_runsOut N = -100005
    · rw [if_pos r, if_pos r]
    · rw [if_neg r, if_neg r]
      exact k2.1.e (by decide) (by decide) (by decide) (by decide) _
end AH
