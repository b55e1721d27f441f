/-! runs of cycles; what would be -/
def sB (B : Nat) (M N : zM) : Prop := sim M N ∧ zOK M ∧ shOK N ∧ rOK B N
theorem sB_cycle {M N : zM} {B : Nat} (h : sB B M N) (hB : B + 1 < 1000000) : sB (B + 1) (h_X3_runCycle M) (hN_X7_cycles N) := by
  obtain ⟨h1, h2, h3, h4⟩ := h
  have k := sim_cycle h1 h2 h3 h4
  exact ⟨k.1, zOK_runCycle h2, k.2, rOK_cycles h4 hB⟩
theorem sB_issuer {M N : zM} {B : Nat} (h : sB B M N) : iR (g_X3_findIssuer M) (g_X7_issuing (hN_X7_prepares N)) := by
  obtain ⟨h1, h2, h3, h4⟩ := h
  obtain ⟨k, ks⟩ := sim_prep h1 h2 h3
  have R2 := rOK_prepares h4
  obtain ⟨a16, _, _⟩ := @q_after M
  have hr : ∀ t, t < 4 → ((¬ g_X3_isIn (g_X3_findReady M) (nI t) = 0) ↔ (hN_X7_prepares N) 0 t = nI 1) := by
    intro t ht
    rw [q_bit ht, (@q_same M t ht).1, k.e (c := 0) (by decide) (by decide) (by decide) (by decide) t]
  have hc : ∀ c, c = 5 ∨ c = 14 ∨ c = 15 ∨ c = 16 → M c = (hN_X7_prepares N) c := by
    intro c hc
    have e : (h_X3_openBarrier (h_X3_finishLoads M)) c = M c := by
      have f1 : ∀ (n i : Nat) (M : zM), (h_X3_finishLoads_lp n i M) c = M c := by
        intro n
        induction n with
        | zero => exact fun _ _ => rfl
        | succ n ih =>
          intro i M
          simp only [h_X3_finishLoads_lp]
          refine z_ite (P := fun Y : zM => Y c = M c) (fun _ => ih _ _) (fun _ => ?_)
          rw [ih, zu_c _ _ _ (by omega), zu_c _ _ _ (by omega)]
      have f2 : ∀ (n i : Nat) (M : zM), (h_X3_openBarrier_lp n i M) c = M c := by
        intro n
        induction n with
        | zero => exact fun _ _ => rfl
        | succ n ih =>
          intro i M
          simp only [h_X3_openBarrier_lp]
          refine z_ite (P := fun Y : zM => Y c = M c) (fun _ => ?_) (fun _ => ih _ _)
          rw [ih, zu_c _ _ _ (by omega)]
      unfold h_X3_openBarrier
      exact z_ite (P := fun Y : zM => Y c = M c) (fun _ => f1 _ _ _) (fun _ => (f2 _ _ _).trans (f1 _ _ _))
    rw [← k.1 c (by omega) (by omega) (by omega) (by omega), e]
  exact iss_all hr (hc 5 (by omega)) (hc 14 (by omega)) (hc 15 (by omega)) (hc 16 (by omega)) R2.2.2.2.1 (zIn_up R2.2.2.2.2.1.1 (by have := R2.2.2.2.2.1.2; omega))
theorem sB_next {M N : zM} {B : Nat} (h : sB B M N) : g_X3_findIssuer M = g_X7_nextThread N := by
  have hi := sB_issuer h
  unfold g_X7_nextThread
  rcases hi with ⟨h1, h2⟩ | ⟨t, ht, h1, h2⟩
  · rw [h1, h2, if_pos rfl]
  · rw [h1, h2, if_neg (q_t1 ht)]
theorem pc_prep {N : zM} {c : Nat} (hc : c = 1 ∨ c = 12) : (hN_X7_prepares N) c = N c := by
  have f1 : ∀ (n i : Nat) (N : zM), (q_pl n i N) c = N c := by
    intro n
    induction n with
    | zero => exact fun _ _ => rfl
    | succ n ih =>
      intro i N
      simp only [q_pl]
      refine z_ite (P := fun Y : zM => Y c = N c) (fun _ => z_ite (P := fun Y : zM => Y c = N c) (fun _ => ih _ _) (fun _ => ?_)) (fun _ => ih _ _)
      unfold hN_X7_puts
      rw [ih, zu_c _ _ _ (by omega), zu_c _ _ _ (by omega)]
  have f2 : ∀ (n i : Nat) (v : Int32) (N : zM), (hN_X7_prepares_lq n v i N) c = N c := by
    intro n
    induction n with
    | zero => exact fun _ _ _ => rfl
    | succ n ih =>
      intro i v N
      simp only [hN_X7_prepares_lq]
      refine z_ite (P := fun Y : zM => Y c = N c) (fun _ => ?_) (fun _ => z_ite (P := fun Y : zM => Y c = N c) (fun _ => ?_) (fun _ => ?_))
      all_goals rw [ih, zu_c _ _ _ (by omega)]
  unfold hN_X7_prepares
  rw [q_prep]
  unfold q_open
  exact z_ite (P := fun Y : zM => Y c = N c) (fun _ => (f2 _ _ _ _).trans (f1 _ _ _)) (fun _ => (f2 _ _ _ _).trans (f1 _ _ _))
theorem sB_stop {M N : zM} {B : Nat} (h : sB B M N) : g_X3_isAtBreakpoint M = g_X7_isStopped N := by
  have hi := sB_issuer h
  have e1 : M 1 = N 1 := h.1.1 1 (by decide) (by decide) (by decide) (by decide)
  have e12 : M 12 = N 12 := h.1.1 12 (by decide) (by decide) (by decide) (by decide)
  have hz := h.2.2.2.2.2.1
  unfold g_X3_isAtBreakpoint g_X7_isStopped
  rw [pc_prep (Or.inl rfl), e1, e12]
  rcases hi with ⟨h1, h2⟩ | ⟨t, ht, h1, h2⟩
  · rw [h1, h2, if_pos (show g_X6_isThread (-100005) = 0 by decide), if_pos rfl]
  · rw [h1, h2, if_neg (q_thr ht), if_neg (q_t1 ht), zc_nI (by omega)]
    have z1 := (hz t ht).1
    have z2 := (hz t ht).2
    generalize hj : zc (N 1 t) = j at z1 z2
    rw [z2]
    by_cases c : j = 48
    · subst c
      rw [if_pos (show g_X6_isPlace (nI 48) = 0 by decide), if_pos (nI_le (Nat.le_refl _) (by decide))]
    · rw [if_neg (q_plc (by omega)), if_neg (nI_ge (by omega) (by decide))]
      try rw [zc_nI (by omega)]
theorem sB_out : ∀ (n i : Nat) (M N : zM) (B : Nat), i + n = 500 → B + n < 1000000 → sB B M N → g_X3_runToEnd_lp n i M = g_X7_runsOut_lp n i N ∧ sB (B + n) (h_X3_runToEnd_lp n i M) (hN_X7_runsOut_lp n i N) := by
  intro n
  have up : ∀ {B B' : Nat} {M N : zM}, sB B M N → B ≤ B' → B' < 1000000 → sB B' M N := fun h hB h2 => ⟨h.1, h.2.1, h.2.2.1, h.2.2.2.1, h.2.2.2.2.1, h.2.2.2.2.2.1, h.2.2.2.2.2.2.1, ⟨zIn_up h.2.2.2.2.2.2.2.1.1 (by omega), h2⟩, h.2.2.2.2.2.2.2.2.1, h.2.2.2.2.2.2.2.2.2⟩
  induction n with
  | zero =>
    intro i M N B hn hB h
    have ho := sim_over h.1
    simp only [g_X3_runToEnd_lp, g_X7_runsOut_lp, h_X3_runToEnd_lp, hN_X7_runsOut_lp]
    have e : i = 500 := by omega
    subst e
    by_cases c : g_X3_areAllHalted M = 0
    · rw [if_pos c, if_pos (ho.mp c), if_pos c, if_pos (ho.mp c)]
      exact ⟨rfl, h⟩
    · rw [if_neg c, if_neg (fun q => c (ho.mpr q)), if_neg c, if_neg (fun q => c (ho.mpr q))]
      exact ⟨rfl, h⟩
  | succ n ih =>
    intro i M N B hn hB h
    have ho := sim_over h.1
    simp only [g_X3_runToEnd_lp, g_X7_runsOut_lp, h_X3_runToEnd_lp, hN_X7_runsOut_lp]
    by_cases c : g_X3_areAllHalted M = 0
    · rw [if_pos c, if_pos (ho.mp c), if_pos c, if_pos (ho.mp c)]
      have k := ih (i + 1) _ _ (B + 1) (by omega) (by omega) (sB_cycle h (by omega))
      rw [show B + (n + 1) = B + 1 + n by omega]
      exact k
    · rw [if_neg c, if_neg (fun q => c (ho.mpr q)), if_neg c, if_neg (fun q => c (ho.mpr q))]
      exact ⟨rfl, up h (by omega) hB⟩
