/-! a value that may be set is short -/
theorem sh_short {v : Int32} (h : ¬ g_X6_isValue v = 0) : sh v := by
  unfold g_X6_isValue g_X6_isWithin at h
  by_cases c1 : v < -32768
  · rw [if_pos c1] at h
    exact absurd (by decide) h
  · rw [if_neg c1] at h
    by_cases c2 : nI 32767 < v
    · rw [if_pos c2] at h
      exact absurd (by decide) h
    · rw [Int32.lt_iff_toInt_lt] at c1 c2
      have e1 : (-32768 : Int32).toInt = -32768 := by decide
      have e2 : (nI 32767).toInt = 32767 := by decide
      rw [e1] at c1
      rw [e2] at c2
      unfold sh
      apply Int32.toInt_inj.mp
      rw [Int16.toInt_toInt32, Int32.toInt_toInt16]
      exact Int.bmod_eq_of_le (by omega) (by omega)
