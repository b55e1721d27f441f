/-! a whole cycle, and runs of cycles -/
theorem tr_c (y z : Int32) (N : zM) {c : Nat} (h18 : c ≠ 18) (h19 : c ≠ 19) : (hN_X7_traces y z N) c = N c := by
  unfold hN_X7_traces
  rw [q_sf_eq]
  simp only [hN_X7_traces_lp]
  refine z_ite (P := fun Y : zM => Y c = N c) (fun _ => ?_) (fun _ => ?_)
  · rw [zu_c _ _ _ h18, zu_c _ _ _ h19, zu_c _ _ _ h19, zu_c _ _ _ h19, q_sf_c _ _ _ h19]
  · rw [zu_c _ _ _ h18, zu_c _ _ _ h19, zu_c _ _ _ h19, zu_c _ _ _ h19, q_sf_c _ _ _ h19]
theorem sh_of {N N' : zM} (h : shOK N) (e : ∀ c, c ≠ 5 → c ≠ 6 → c ≠ 7 → c ≠ 18 → c ≠ 19 → N' c = N c) : shOK N' := by
  refine ⟨fun t r ht hr => ?_, fun w hw => ?_⟩
  · rw [e _ (by omega) (by omega) (by omega) (by omega) (by omega)]
    exact h.1 t r ht hr
  · rw [e 13 (by decide) (by decide) (by decide) (by decide) (by decide)]
    exact h.2 w hw
theorem exec_eq {N : zM} {t : Nat} (hz : zIn (N 1 t) 49) {T : zM} (hT : T = hN_X7_traces (nI t) (N 1 t) N) : hN_X7_executes t N = (if (nI (zc (T 1 t))) = (nI 48) then zu T 0 t (nI 0) else hN_X7_does t ((zu T 1 t (nI (zc (T 1 t) + 1))) 10 (zc (T 1 t))) ((zu T 1 t (nI (zc (T 1 t) + 1))) 11 (2 * (zc (T 1 t)))) ((zu T 1 t (nI (zc (T 1 t) + 1))) 11 (2 * (zc (T 1 t)) + 1)) (zu T 1 t (nI (zc (T 1 t) + 1)))) := by
  have e1 : T 1 t = N 1 t := by rw [hT, tr_c _ _ _ (by decide) (by decide)]
  have e2 : nI (zc (N 1 t)) = N 1 t := hz.2.symm
  rw [e1]
  unfold hN_X7_executes
  rw [e2, ← hT]
theorem q_thr {t : Nat} (ht : t < 4) : ¬ g_X6_isThread (nI t) = 0 := z4 (P := fun t => ¬ g_X6_isThread (nI t) = 0) (by decide) (by decide) (by decide) (by decide) ht
theorem sim_cycle {M N : zM} {B : Nat} (h : sim M N) (hM : zOK M) (hs : shOK N) (hR : rOK B N) : sim (h_X3_runCycle M) (hN_X7_cycles N) ∧ shOK (hN_X7_cycles N) := by
  obtain ⟨h2, s2⟩ := sim_prep h hM hs
  have R2 := rOK_prepares hR
  have M2 : zOK (h_X3_openBarrier (h_X3_finishLoads M)) := zOK_openBarrier (zOK_finishLoads hM)
  have hr : ∀ t, t < 4 → ((¬ g_X3_isIn (g_X3_findReady (h_X3_openBarrier (h_X3_finishLoads M))) (nI t) = 0) ↔ (hN_X7_prepares N) 0 t = nI 1) := by
    intro t ht
    rw [q_bit ht, (@q_same M t ht).2, h2.e (c := 0) (by decide) (by decide) (by decide) (by decide) t]
  have hc2 : zIn ((hN_X7_prepares N) 16 0) (2 ^ 31) := zIn_up R2.2.2.2.2.1.1 (by have := R2.2.2.2.2.1.2; omega)
  have hx := iss_all hr (h2.1 5 (by decide) (by decide) (by decide) (by decide)) (h2.1 14 (by decide) (by decide) (by decide) (by decide)) (h2.1 15 (by decide) (by decide) (by decide) (by decide)) (h2.1 16 (by decide) (by decide) (by decide) (by decide)) R2.2.2.2.1 hc2
  unfold h_X3_runCycle hN_X7_cycles
  rw [q_cs_eq]
  generalize hN_X7_prepares N = N2 at *
  generalize h_X3_openBarrier (h_X3_finishLoads M) = M2' at *
  generalize g_X3_findIssuer M2' = x at *
  generalize g_X7_issuing N2 = y at *
  have hcs := sim_cs hx 4 0 M2' N2 (by omega) h2 s2
  have h3 : sim (h_X3_countStarving x M2') (q_cs y 4 0 N2) := hcs.1
  have s3 : shOK (q_cs y 4 0 N2) := hcs.2
  clear hcs
  have M3 : zOK (h_X3_countStarving x M2') := zOK_countStarving M2
  have c3 : ∀ c, c ≠ 8 → c ≠ 9 → (q_cs y 4 0 N2) c = N2 c := fun c a b => q_cs_c y 4 0 N2 a b
  have ho : N2 14 (zc (N2 16 0) % 8) = (q_cs y 4 0 N2) 14 (zc ((q_cs y 4 0 N2) 16 0) % 8) := by rw [c3 14 (by decide) (by decide), c3 16 (by decide) (by decide)]
  rw [ho]
  have hc3 : zIn ((q_cs y 4 0 N2) 16 0) (2 ^ 31) := by
    rw [c3 16 (by decide) (by decide)]
    exact hc2
  have hp3 : ∀ p, p < 48 → pOK ((q_cs y 4 0 N2) 10 p) ((q_cs y 4 0 N2) 11 (2 * p)) ((q_cs y 4 0 N2) 11 (2 * p + 1)) := by
    rw [c3 10 (by decide) (by decide), c3 11 (by decide) (by decide)]
    exact R2.2.2.2.2.2.1
  have hz3 : ∀ t, t < 4 → zIn ((q_cs y 4 0 N2) 1 t) 49 := by
    rw [c3 1 (by decide) (by decide)]
    exact R2.2.2.1
  generalize q_cs y 4 0 N2 = N3 at *
  generalize h_X3_countStarving x M2' = M3' at *
  unfold q_tail
  simp only [hN_X7_cycles_lp]
  rcases hx with ⟨hx1, hy1⟩ | ⟨t, ht, hx1, hy1⟩
  · subst hx1
    subst hy1
    rw [if_pos (show g_X6_isThread (-100005) = 0 by decide), if_pos rfl]
    have e17 := h3.e (c := 17) (by decide) (by decide) (by decide) (by decide) 0
    rw [e17]
    have k := sim_zu (c := 17) (i := 0) (x := N3 17 0 + nI 1) h3 (by decide) (by decide) (by decide) (by decide) (by decide) (by decide)
    rw [k.e (c := 16) (by decide) (by decide) (by decide) (by decide) 0]
    exact ⟨sim_zu k (by decide) (by decide) (by decide) (by decide) (by decide) (by decide), sh_zu (sh_zu s3 (by omega) (by decide)) (by omega) (by decide)⟩
  · subst hx1
    subst hy1
    rw [if_neg (q_thr ht), if_neg (q_t1 ht), zc_nI (by omega)]
    have hI := sim_issue h3 M3 s3 ht hc3 _ rfl
    have go : ∀ b : zM, (∀ c, c ≠ 5 → c ≠ 6 → c ≠ 7 → b c = N3 c) → sim (h_X3_noteIssue t M3') (hN_X7_traces (nI t) (N3 1 t) b) → sim (zu (h_X3_executeNext t (h_X3_noteIssue t M3')) 16 0 (((h_X3_executeNext t (h_X3_noteIssue t M3')) 16 0) + (nI 1))) (zu (hN_X7_executes t b) 16 0 (((hN_X7_executes t b) 16 0) + (nI 1))) ∧ shOK (zu (hN_X7_executes t b) 16 0 (((hN_X7_executes t b) 16 0) + (nI 1))) := by
      intro b hb hT
      have b1 : b 1 t = N3 1 t := by rw [hb 1 (by decide) (by decide) (by decide)]
      have tc : ∀ c, c ≠ 5 → c ≠ 6 → c ≠ 7 → c ≠ 18 → c ≠ 19 → (hN_X7_traces (nI t) (N3 1 t) b) c = N3 c := fun c a1 a2 a3 a4 a5 => (tr_c _ _ _ a4 a5).trans (hb c a1 a2 a3)
      have ex := exec_eq (N := b) (t := t) (by rw [b1]; exact hz3 t ht) (T := hN_X7_traces (nI t) (N3 1 t) b) (by rw [b1])
      have r := sim_exec hT (sh_of s3 tc) ht (by rw [tc 10 (by decide) (by decide) (by decide) (by decide) (by decide), tc 11 (by decide) (by decide) (by decide) (by decide) (by decide)]; exact hp3) (by rw [tc 1 (by decide) (by decide) (by decide) (by decide) (by decide)]; exact hz3 t ht)
      rw [← ex] at r
      rw [r.1.e (c := 16) (by decide) (by decide) (by decide) (by decide) 0]
      exact ⟨sim_zu r.1 (by decide) (by decide) (by decide) (by decide) (by decide) (by decide), sh_zu r.2 (by omega) (by decide)⟩
    have bc : ∀ (v : Int32) (c : Nat), c ≠ 5 → c ≠ 6 → c ≠ 7 → (zu (zu (zu N3 5 t (N3 16 0)) 6 t (((zu N3 5 t (N3 16 0)) 6 t) + (nI 1))) 7 t v) c = N3 c := by
      intro v c h5 h6 h7
      rw [zu_c _ _ _ h7, zu_c _ _ _ h6, zu_c _ _ _ h5]
    by_cases c : nI t = N3 14 (zc (N3 16 0) % 8)
    · rw [if_pos c] at hI ⊢
      exact go _ (bc _) hI
    · rw [if_neg c] at hI ⊢
      exact go _ (bc _) hI
