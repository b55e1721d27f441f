/-! the issuing thread's instruction -/
theorem q_plc {j : Nat} (hj : j < 48) : ¬ g_X6_isPlace (nI j) = 0 := by
  unfold g_X6_isPlace g_X6_isWithin
  rw [if_neg (nI_nlt (Nat.zero_le _) (by omega)), if_neg (nI_nlt (by omega) (by decide))]
  decide
theorem sim_exec {M N : zM} {t : Nat} (h : sim M N) (hs : shOK N) (ht : t < 4) (hp : ∀ p, p < 48 → pOK (N 10 p) (N 11 (2 * p)) (N 11 (2 * p + 1))) (hz : zIn (N 1 t) 49) : sim (h_X3_executeNext t M) (if (nI (zc (N 1 t))) = (nI 48) then zu N 0 t (nI 0) else hN_X7_does t ((zu N 1 t (nI (zc (N 1 t) + 1))) 10 (zc (N 1 t))) ((zu N 1 t (nI (zc (N 1 t) + 1))) 11 (2 * (zc (N 1 t)))) ((zu N 1 t (nI (zc (N 1 t) + 1))) 11 (2 * (zc (N 1 t)) + 1)) (zu N 1 t (nI (zc (N 1 t) + 1)))) ∧ shOK (if (nI (zc (N 1 t))) = (nI 48) then zu N 0 t (nI 0) else hN_X7_does t ((zu N 1 t (nI (zc (N 1 t) + 1))) 10 (zc (N 1 t))) ((zu N 1 t (nI (zc (N 1 t) + 1))) 11 (2 * (zc (N 1 t)))) ((zu N 1 t (nI (zc (N 1 t) + 1))) 11 (2 * (zc (N 1 t)) + 1)) (zu N 1 t (nI (zc (N 1 t) + 1)))) := by
  have e1 := h.e (c := 1) (by decide) (by decide) (by decide) (by decide) t
  have h1 := hz.1
  have h2 := hz.2
  unfold h_X3_executeNext
  rw [e1]
  generalize hj : zc (N 1 t) = j at h1 h2
  rw [h2]
  by_cases c : j = 48
  · subst c
    rw [if_pos (show g_X6_isPlace (nI 48) = 0 by decide), if_pos rfl]
    exact ⟨sim_0 h (by decide), sh_zu hs (by omega) (by decide)⟩
  · have hj48 : j < 48 := by omega
    rw [if_neg (q_plc hj48), if_neg (fun q => c ((nI_eq (by omega) (by decide)).mp q)), nI_add]
    have k : sim (zu M 1 t (nI (j + 1))) (zu N 1 t (nI (j + 1))) := sim_zu h (by decide) (by decide) (by decide) (by decide) (by decide) (by decide)
    have ks : shOK (zu N 1 t (nI (j + 1))) := sh_zu hs (by omega) (by decide)
    have kp := hp j hj48
    have n10 : (zu N 1 t (nI (j + 1))) 10 = N 10 := zu_c _ _ _ (by decide)
    have n11 : (zu N 1 t (nI (j + 1))) 11 = N 11 := zu_c _ _ _ (by decide)
    have ko := k.2.2.1 j hj48
    have m10 := k.e (c := 10) (by decide) (by decide) (by decide) (by decide) j
    rw [m10]
    rw [← n10, ← n11] at kp
    exact sim_do k ks ht kp ko
