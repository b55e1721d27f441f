/-! the fault of a text: the class's loop against the reference's -/
def sc (f : Nat → Int32) : Nat → Nat → Nat
  | 0, _ => 0
  | n + 1, i => (if f i = nI 59 then 1 else 0) + sc f n (i + 1)
theorem sc_add (f : Nat → Int32) : ∀ (a b i : Nat), sc f (a + b) i = sc f a i + sc f b (i + a) := by
  intro a
  induction a with
  | zero =>
    intro b i
    rw [Nat.zero_add, Nat.add_zero]
    simp only [sc, Nat.zero_add]
  | succ a ih =>
    intro b i
    rw [show a + 1 + b = (a + b) + 1 by omega]
    simp only [sc]
    rw [ih, show i + 1 + a = i + (a + 1) by omega, Nat.add_assoc]
theorem sc_none (f : Nat → Int32) : ∀ (n i : Nat), (∀ q, i ≤ q → q < i + n → f q ≠ nI 59) → sc f n i = 0 := by
  intro n
  induction n with
  | zero => exact fun _ _ => rfl
  | succ n ih =>
    intro i h
    simp only [sc]
    rw [if_neg (h i (Nat.le_refl _) (by omega)), ih (i + 1) (fun q e1 e2 => h q (by omega) (by omega))]
theorem sc_congr (f g : Nat → Int32) : ∀ (n i : Nat), (∀ q, i ≤ q → q < i + n → f q = g q) → sc f n i = sc g n i := by
  intro n
  induction n with
  | zero => exact fun _ _ => rfl
  | succ n ih =>
    intro i h
    simp only [sc]
    rw [h i (Nat.le_refl _) (by omega), ih (i + 1) (fun q e1 e2 => h q (by omega) (by omega))]
theorem rl_ch {p q : Nat} {Y X : zM} (h : rl p Y X) (hq : q < zc (X 0 1)) : Y 2 q = X 1 q := (h.2.2.2.2.2 q hq).1
/-- the reference behind an instruction, with m turns left -/
def rg (m : Nat) (X : zM) : Int32 := if (nI (zc (X 0 1))) ≤ (nI (zc (X 0 2))) then g_X7_isFaulty_lp m (nI 0) X else if ((hX_X7_sign (nI 59) X) 0 3) = 0 then g_X7_isFaulty_lp m (nI 1) (hX_X7_sign (nI 59) X) else g_X7_isFaulty_lp m (nI 0) (hX_X7_sign (nI 59) X)
def rx (m : Nat) (X : zM) : zM := if (nI (zc (X 0 1))) ≤ (nI (zc (X 0 2))) then hX_X7_isFaulty_lp m (nI 0) X else if ((hX_X7_sign (nI 59) X) 0 3) = 0 then hX_X7_isFaulty_lp m (nI 1) (hX_X7_sign (nI 59) X) else hX_X7_isFaulty_lp m (nI 0) (hX_X7_sign (nI 59) X)
theorem gl_s (m : Nat) (X : zM) : g_X7_isFaulty_lp (m + 1) (nI 1) X = if ((hX_X7_instruction X) 0 3) = 0 then rg m (hX_X7_instruction X) else g_X7_isFaulty_lp m (nI 0) (hX_X7_instruction X) := by
  unfold rg
  rw [g_X7_isFaulty_lp, if_neg n1]
theorem hl_s (m : Nat) (X : zM) : hX_X7_isFaulty_lp (m + 1) (nI 1) X = if ((hX_X7_instruction X) 0 3) = 0 then rx m (hX_X7_instruction X) else hX_X7_isFaulty_lp m (nI 0) (hX_X7_instruction X) := by
  unfold rx
  rw [hX_X7_isFaulty_lp, if_neg n1]
theorem gl_0 {m : Nat} (hm : 0 < m) (X : zM) : g_X7_isFaulty_lp m (nI 0) X = X 0 3 ∧ hX_X7_isFaulty_lp m (nI 0) X = X := by
  obtain ⟨n, rfl⟩ : ∃ n, m = n + 1 := ⟨m - 1, by omega⟩
  rw [g_X7_isFaulty_lp, hX_X7_isFaulty_lp, if_pos e0, if_pos e0]
  exact ⟨rfl, rfl⟩
theorem fl_0 (n i : Nat) (Y : zM) : g_X4_findFault_lp n (nI 0) i Y = Y 1 1 ∧ h_X4_findFault_lp n (nI 0) i Y = Y := by
  cases n with
  | zero =>
    rw [g_X4_findFault_lp, h_X4_findFault_lp, if_pos e0, if_pos e0]
    exact ⟨rfl, rfl⟩
  | succ n =>
    rw [g_X4_findFault_lp, h_X4_findFault_lp, if_pos e0, if_pos e0]
    exact ⟨rfl, rfl⟩
theorem fl_e {n i : Nat} {Y : zM} (h : zc (Y 1 0) ≤ zc (Y 1 1)) (h2 : zc (Y 1 1) < 2 ^ 31) : g_X4_findFault_lp n (nI 1) i Y = -100005 ∧ h_X4_findFault_lp n (nI 1) i Y = Y := by
  cases n with
  | zero =>
    rw [g_X4_findFault_lp, h_X4_findFault_lp, if_neg n1, if_neg n1]
    exact ⟨rfl, rfl⟩
  | succ n =>
    rw [g_X4_findFault_lp, h_X4_findFault_lp, if_neg n1, if_neg n1, if_pos (nI_le h h2), if_pos (nI_le h h2)]
    exact ⟨rfl, rfl⟩
theorem fl_s {n i : Nat} {Y : zM} (h : zc (Y 1 1) < zc (Y 1 0)) (h2 : zc (Y 1 0) < 2 ^ 31) : g_X4_findFault_lp (n + 1) (nI 1) i Y = (if (g_X4_readSign (nI 59) Y) = 0 then g_X4_findFault_lp n (nI 0) (i + 1) (h_X4_readSign (nI 59) Y) else if (g_X4_readInstruction (h_X4_readSign (nI 59) Y)) = 0 then g_X4_findFault_lp n (nI 0) (i + 1) (h_X4_readInstruction (h_X4_readSign (nI 59) Y)) else g_X4_findFault_lp n (nI 1) (i + 1) (h_X4_readInstruction (h_X4_readSign (nI 59) Y))) ∧ h_X4_findFault_lp (n + 1) (nI 1) i Y = (if (g_X4_readSign (nI 59) Y) = 0 then h_X4_findFault_lp n (nI 0) (i + 1) (h_X4_readSign (nI 59) Y) else if (g_X4_readInstruction (h_X4_readSign (nI 59) Y)) = 0 then h_X4_findFault_lp n (nI 0) (i + 1) (h_X4_readInstruction (h_X4_readSign (nI 59) Y)) else h_X4_findFault_lp n (nI 1) (i + 1) (h_X4_readInstruction (h_X4_readSign (nI 59) Y))) := by
  rw [g_X4_findFault_lp, h_X4_findFault_lp, if_neg n1, if_neg n1, if_neg (nI_ge h h2), if_neg (nI_ge h h2)]
  exact ⟨rfl, rfl⟩
theorem sg_3 {X : zM} : ¬ nI 1 = (0 : Int32) := n1
theorem ps1 : ∀ (n i : Nat) (Y X : zM) (p k m : Nat), rl p Y X → X 0 3 = nI 0 → Y 1 2 = nI k → 2 * k ≤ p + 1 → zc (X 0 1) - p ≤ n → zc (X 0 1) - p + 1 ≤ m →
    (g_X4_findFault_lp n (nI 1) i Y = -100005 ∧ rg m X = 0 ∧ (rx m X) 0 3 = nI 0 ∧ zc ((h_X4_findFault_lp n (nI 1) i Y) 1 2) = k + sc (Y 2) (zc (X 0 1) - p) p) ∨
    (rg m X = nI 1 ∧ ∃ p', p' ≤ 100 ∧ g_X4_findFault_lp n (nI 1) i Y = nI p' ∧ (rx m X) 0 2 = nI p') := by
  intro n
  induction n with
  | zero =>
    intro i Y X p k m h h3 hk hkp hn hm
    obtain ⟨h1, h2⟩ := rl_L h
    obtain ⟨z1, z2, z3⟩ := rl_zp h
    obtain ⟨f1, f2⟩ := fl_e (n := 0) (i := i) (Y := Y) (by omega) (by omega)
    obtain ⟨r1, r2⟩ := gl_0 (m := m) (by omega) X
    have c : nI (zc (X 0 1)) ≤ nI (zc (X 0 2)) := nI_le (by omega) (by omega)
    unfold rg rx
    rw [if_pos c, if_pos c, r1, r2, f1, f2, hk, zc_nI (by omega), show zc (X 0 1) - p = 0 by omega]
    exact Or.inl ⟨rfl, h3, h3, rfl⟩
  | succ n ih =>
    intro i Y X p k m h h3 hk hkp hn hm
    obtain ⟨h1, h2⟩ := rl_L h
    obtain ⟨z1, z2, z3⟩ := rl_zp h
    by_cases e : p < zc (X 0 1)
    · obtain ⟨f1, f2⟩ := fl_s (n := n) (i := i) (Y := Y) (by omega) (by omega)
      have c : ¬ nI (zc (X 0 1)) ≤ nI (zc (X 0 2)) := nI_ge (by omega) (by omega)
      unfold rg rx
      rw [if_neg c, if_neg c, f1, f2]
      rcases vr_sign (c0 := 59) h h3 (by decide) (by decide) with ⟨s1, s2, s3, s4, s5⟩ | ⟨s1, s2, s3, s4⟩
      · have d := rl_go h (p' := p + 1) (by omega)
        have d3 : (zu X 0 2 (nI (p + 1))) 0 3 = nI 0 := by
          rw [go_3]
          exact h3
        have dk : (zu Y 1 1 (nI (p + 1))) 1 2 = nI k := by
          rw [zu_i _ _ _ (by decide)]
          exact hk
        have dF : xF (Y 0) (Y 2) (Y 1 0) (h_X4_readInstruction (zu Y 1 1 (nI (p + 1)))) := xF_readInstruction (xF_1 (by decide) ⟨rfl, rfl, rfl⟩)
        obtain ⟨m', rfl⟩ : ∃ m', m = m' + 1 := ⟨m - 1, by omega⟩
        rw [s1, s4, s5, if_neg n1, if_neg n1, if_pos (i0 d3), if_pos (i0 d3), gl_s, hl_s]
        rcases ir_all d d3 dk hkp with ⟨g1, p', a1, a2, a3, a4, a5, a6, a7, a8, a9, a10, a11⟩ | ⟨g1, p', w⟩
        · rw [g1, if_neg n1, if_neg n1, if_pos (i0 a5), if_pos (i0 a5)]
          rw [go_L] at a2
          rw [go_1] at a3
          have eL : zc ((hX_X7_instruction (zu X 0 2 (nI (p + 1)))) 0 1) = zc (X 0 1) := by rw [kx_instruction (by decide), go_L]
          rcases ih (i + 1) _ _ p' (k + 1) m' a4 a5 a7 (by omega) (by omega) (by omega) with ⟨t1, t2, t3, t4⟩ | t
          · refine Or.inl ⟨t1, t2, t3, ?_⟩
            rw [t4, dF.2.1, eL]
            have es : sc (Y 2) (zc (X 0 1) - p) p = 1 + sc (Y 2) (zc (X 0 1) - p') p' := by
              have es1 : sc (Y 2) (p' - p) p = 1 := by
                rw [show p' - p = (p' - p - 1) + 1 by omega]
                simp only [sc]
                rw [if_pos ((rl_ch h e).trans s3), sc_none]
                intro q e1 e2
                rw [rl_ch h (by omega)]
                exact a3 q e1 (by omega)
              rw [show zc (X 0 1) - p = (p' - p) + (zc (X 0 1) - p') by omega, sc_add, show p + (p' - p) = p' by omega, es1]
            rw [es]
            omega
          · exact Or.inr t
        · obtain ⟨q1, q2⟩ := fl_0 n (i + 1) (h_X4_readInstruction (zu Y 1 1 (nI (p + 1))))
          obtain ⟨r1, r2⟩ := gl_0 (m := m') (by omega) (hX_X7_instruction (zu X 0 2 (nI (p + 1))))
          obtain ⟨w1, w2⟩ := rl_L w.1
          rw [g1, if_pos (show nI 0 = 0 from rfl), if_neg (wl_n w), if_neg (wl_n w), q1, r1, r2]
          exact Or.inr ⟨w.2, p', by omega, w.1.2.2.1, w.1.2.2.2.1⟩
      · obtain ⟨q1, q2⟩ := fl_0 n (i + 1) Y
        obtain ⟨r1, r2⟩ := gl_0 (m := m) (by omega) (hX_X7_sign (nI 59) X)
        rw [s1, s2, if_pos (show nI 0 = 0 from rfl), if_neg (wl_n s3), if_neg (wl_n s3), q1, r1, r2]
        exact Or.inr ⟨s3.2, p, by omega, s3.1.2.2.1, s3.1.2.2.2.1⟩
    · obtain ⟨f1, f2⟩ := fl_e (n := n + 1) (i := i) (Y := Y) (by omega) (by omega)
      obtain ⟨r1, r2⟩ := gl_0 (m := m) (by omega) X
      have c : nI (zc (X 0 1)) ≤ nI (zc (X 0 2)) := nI_le (by omega) (by omega)
      unfold rg rx
      rw [if_pos c, if_pos c, r1, r2, f1, f2, hk, zc_nI (by omega), show zc (X 0 1) - p = 0 by omega]
      exact Or.inl ⟨rfl, h3, h3, rfl⟩
def y0 (Y : zM) : zM := zu (zu Y 1 1 (nI 0)) 1 2 (nI 0)
def x0 (X : zM) : zM := zu (zu X 0 2 (nI 0)) 0 3 (nI 0)
theorem rl_0 {Y X : zM} (h : tx Y X) : rl 0 (y0 Y) (x0 X) ∧ (x0 X) 0 3 = nI 0 ∧ (y0 Y) 1 2 = nI 0 ∧ (y0 Y) 2 = Y 2 ∧ (x0 X) 0 1 = X 0 1 ∧ (x0 X) 1 = X 1 := by
  obtain ⟨h1, h2, h3, h4⟩ := h
  unfold y0 x0
  refine ⟨⟨?_, ?_, ?_, ?_, Nat.zero_le _, ?_⟩, ?_, ?_, ?_, ?_, ?_⟩
  · rw [zu_i _ _ _ (by decide), zu_i _ _ _ (by decide)]
    exact h2.1
  · rw [zu_i _ _ _ (by decide), zu_i _ _ _ (by decide), zu_i _ _ _ (by decide), zu_i _ _ _ (by decide)]
    exact h3
  · rw [zu_i _ _ _ (by decide), zu_s]
  · rw [zu_i _ _ _ (by decide), zu_s]
  · rw [zu_i _ _ _ (by decide), zu_i _ _ _ (by decide), zu_c _ _ _ (by decide), zu_c _ _ _ (by decide), zu_c _ _ _ (by decide), zu_c _ _ _ (by decide)]
    exact h4
  · rw [zu_s]
  · rw [zu_s]
  · rw [zu_c _ _ _ (by decide), zu_c _ _ _ (by decide)]
  · rw [zu_i _ _ _ (by decide), zu_i _ _ _ (by decide)]
  · rw [zu_c _ _ _ (by decide), zu_c _ _ _ (by decide)]
theorem nN {p : Nat} (h : p < 2 ^ 31) : nI p ≠ -100005 := by
  intro e
  have k := nI_pos h
  rw [e] at k
  exact k (by decide)
theorem fa_all {Y X : zM} (h : tx Y X) : (g_X4_findFault Y = -100005 ∧ g_X7_isFaulty X = 0 ∧ (hX_X7_isFaulty X) 0 3 = nI 0 ∧ zc ((h_X4_findFault Y) 1 2) = 1 + sc (Y 2) (zc (X 0 1)) 0) ∨ (g_X7_isFaulty X = nI 1 ∧ ∃ p', p' ≤ 100 ∧ g_X4_findFault Y = nI p' ∧ (hX_X7_isFaulty X) 0 2 = nI p') := by
  obtain ⟨k1, k2, k3, k4, k5, k6⟩ := rl_0 h
  have L1 := (rl_L k1).1
  rw [k5] at L1
  have dF : xF (Y 0) (Y 2) (Y 1 0) (h_X4_readInstruction (y0 Y)) := xF_readInstruction (xF_1 (by decide) (xF_1 (by decide) ⟨rfl, rfl, rfl⟩))
  have e1 : g_X4_findFault Y = g_X4_findFault_lp 100 (g_X4_readInstruction (y0 Y)) 0 (h_X4_readInstruction (y0 Y)) := rfl
  have e2 : h_X4_findFault Y = h_X4_findFault_lp 100 (g_X4_readInstruction (y0 Y)) 0 (h_X4_readInstruction (y0 Y)) := rfl
  have e3 : g_X7_isFaulty X = if ((hX_X7_instruction (x0 X)) 0 3) = 0 then rg 102 (hX_X7_instruction (x0 X)) else g_X7_isFaulty_lp 102 (nI 0) (hX_X7_instruction (x0 X)) := gl_s 102 (x0 X)
  have e4 : hX_X7_isFaulty X = if ((hX_X7_instruction (x0 X)) 0 3) = 0 then rx 102 (hX_X7_instruction (x0 X)) else hX_X7_isFaulty_lp 102 (nI 0) (hX_X7_instruction (x0 X)) := hl_s 102 (x0 X)
  rw [e1, e2, e3, e4]
  rcases ir_all k1 k2 k3 (by omega) with ⟨g1, p', a1, a2, a3, a4, a5, a6, a7, a8, a9, a10, a11⟩ | ⟨g1, p', w⟩
  · rw [g1, if_pos (i0 a5), if_pos (i0 a5)]
    rw [k5] at a2
    rw [k6] at a3
    have eL : zc ((hX_X7_instruction (x0 X)) 0 1) = zc (X 0 1) := by rw [kx_instruction (by decide), k5]
    rcases ps1 100 0 _ _ p' 1 102 a4 a5 a7 (by omega) (by omega) (by omega) with ⟨t1, t2, t3, t4⟩ | t
    · refine Or.inl ⟨t1, t2, t3, ?_⟩
      rw [t4, dF.2.1, eL]
      have es : sc (Y 2) (zc (X 0 1)) 0 = sc (Y 2) (zc (X 0 1) - p') p' := by
        rw [show zc (X 0 1) = p' + (zc (X 0 1) - p') by omega, sc_add, sc_none (Y 2) p' 0, Nat.zero_add, Nat.zero_add]
        · rw [show p' + (zc (X 0 1) - p') - p' = zc (X 0 1) - p' by omega]
        · intro q q1 q2
          rw [← k4, rl_ch k1 (by rw [k5]; omega), k6]
          exact a3 q q1 (by omega)
      rw [es]
    · exact Or.inr t
  · obtain ⟨q1, q2⟩ := fl_0 100 0 (h_X4_readInstruction (y0 Y))
    obtain ⟨r1, r2⟩ := gl_0 (m := 102) (by decide) (hX_X7_instruction (x0 X))
    obtain ⟨w1, w2⟩ := rl_L w.1
    rw [g1, if_neg (wl_n w), if_neg (wl_n w), q1, r1, r2]
    exact Or.inr ⟨w.2, p', by omega, w.1.2.2.1, w.1.2.2.2.1⟩
/-! what the reference's reading of the whole text leaves as it is -/
theorem kx_lp {j : Nat} (hj : j < 2) : ∀ (n : Nat) (more : Int32) (X : zM), hX_X7_isFaulty_lp n more X 0 j = X 0 j := by
  intro n
  induction n with
  | zero => exact fun _ _ => rfl
  | succ n ih =>
    intro more X
    have s : hX_X7_sign (nI 59) (hX_X7_instruction X) 0 j = X 0 j := (kx_sign (by omega) (by omega)).trans (kx_instruction hj)
    rw [hX_X7_isFaulty_lp]
    exact z_ite (P := fun V : zM => V 0 j = X 0 j) (fun _ => rfl) (fun _ => z_ite (P := fun V : zM => V 0 j = X 0 j) (fun _ => z_ite (P := fun V : zM => V 0 j = X 0 j) (fun _ => (ih _ _).trans (kx_instruction hj)) (fun _ => z_ite (P := fun V : zM => V 0 j = X 0 j) (fun _ => (ih _ _).trans s) (fun _ => (ih _ _).trans s))) (fun _ => (ih _ _).trans (kx_instruction hj)))
theorem kt_lp : ∀ (n : Nat) (more : Int32) (X : zM), hX_X7_isFaulty_lp n more X 1 = X 1 := by
  intro n
  induction n with
  | zero => exact fun _ _ => rfl
  | succ n ih =>
    intro more X
    have s : hX_X7_sign (nI 59) (hX_X7_instruction X) 1 = X 1 := kt_sign.trans kt_instruction
    rw [hX_X7_isFaulty_lp]
    exact z_ite (P := fun V : zM => V 1 = X 1) (fun _ => rfl) (fun _ => z_ite (P := fun V : zM => V 1 = X 1) (fun _ => z_ite (P := fun V : zM => V 1 = X 1) (fun _ => (ih _ _).trans kt_instruction) (fun _ => z_ite (P := fun V : zM => V 1 = X 1) (fun _ => (ih _ _).trans s) (fun _ => (ih _ _).trans s))) (fun _ => (ih _ _).trans kt_instruction))
theorem kx_isFaulty {X : zM} {j : Nat} (hj : j < 2) : hX_X7_isFaulty X 0 j = X 0 j := by
  unfold hX_X7_isFaulty
  rw [kx_lp hj, zu_i _ _ _ (by omega), zu_i _ _ _ (by omega)]
theorem kt_isFaulty {X : zM} : hX_X7_isFaulty X 1 = X 1 := by
  unfold hX_X7_isFaulty
  rw [kt_lp, zu_c _ _ _ (by decide), zu_c _ _ _ (by decide)]
theorem tx_fault {Y X : zM} (h : tx Y X) : tx (h_X4_findFault Y) (hX_X7_isFaulty X) := by
  obtain ⟨h1, h2, h3, h4⟩ := h
  obtain ⟨f1, f2, f3⟩ : xF (Y 0) (Y 2) (Y 1 0) (h_X4_findFault Y) := xF_findFault ⟨rfl, rfl, rfl⟩
  refine ⟨xQ_findFault h1, tOK_isFaulty h2, ?_, ?_⟩
  · rw [f3, kx_isFaulty (by decide)]
    exact h3
  · rw [f2, kx_isFaulty (by decide), kt_isFaulty]
    exact h4
section FA
variable {B : Nat} {Z : Nat → zM} {N P X : zM}
/-- the text changes, the rest stays -/
theorem iv_text {Y' X' : zM} (h : IV B Z N P X) (h0 : Y' 0 = Z 6 0) (hX : X' 0 0 = X 0 0) (ht : tx Y' X') : IV B (va_up Z 6 Y') N P X' := by
  refine ⟨by rw [va_up_ne _ _ (by decide)]; exact h.1, fun k hk => by rw [va_up_ne _ _ (by omega)]; exact h.2.1 k hk, ?_, by rw [va_up_self]; exact ht⟩
  exact hi_ext h.2.2.1 (fun k k1 k2 => va_up_ne _ _ (by omega)) (by rw [va_up_self]; exact h0) hX
theorem iv_fault (h : IV B Z N P X) : IV B (va_up Z 6 (h_X4_findFault (Z 6))) N P (hX_X7_isFaulty X) := iv_text h (xF_findFault (C0 := Z 6 0) (C2 := Z 6 2) (L := Z 6 1 0) ⟨rfl, rfl, rfl⟩).1 (kx_isFaulty (by decide)) (tx_fault h.2.2.2)
theorem ac_fault (h : IV B Z N P X) : g_X6_fault Z = g_X7_fault X ∧ IV B (h_X6_fault Z) N P (hX_X7_fault X) := by
  unfold g_X6_fault h_X6_fault g_X7_fault hX_X7_fault
  rw [ite_self]
  refine ⟨?_, iv_fault h⟩
  rcases fa_all h.2.2.2 with ⟨t1, t2, _⟩ | ⟨t1, p', _, t2, t3⟩
  · rw [t1, t2, if_pos rfl]
  · rw [t1, t2, t3, if_neg n1]
theorem ac_clearText (h : IV B Z N P X) : g_X6_clearText Z = g_X7_clearText X ∧ IV B (h_X6_clearText Z) N P (hX_X7_clearText X) := by
  unfold g_X6_clearText h_X6_clearText g_X7_clearText hX_X7_clearText
  obtain ⟨h1, h2, h3, h4⟩ := h.2.2.2
  refine ⟨h3, iv_text h (zu_c _ _ _ (by decide)) (zu_i _ _ _ (by decide)) ⟨xQ_0 (zIn_nI (by decide) (by decide)) h1, ⟨?_, ?_, ?_⟩, ?_, ?_⟩⟩
  · rw [zu_s]
    exact zIn_nI (by decide) (by decide)
  · rw [zu_i _ _ _ (by decide)]
    exact h2.2.1
  · rw [zu_i _ _ _ (by decide)]
    exact h2.2.2
  · rw [zu_s, zu_s]
  · rw [zu_s]
    intro i hi
    exact absurd hi (by rw [zc_nI (by decide)]; omega)
theorem ch_nar : ∀ j, j < 127 → (((nI j).toUInt32 % 65536).toInt32 = nI j ∧ vp_nar .char (nI j) = nI j) := by decide +kernel
theorem ch_ok {x : Int32} (h : ¬ g_X7_in x (nI 32) (nI 126) = 0) : ∃ j, 32 ≤ j ∧ j < 127 ∧ x = nI j := by
  unfold g_X7_in at h
  by_cases c1 : x < nI 32
  · rw [if_pos c1] at h
    exact absurd rfl h
  · rw [if_neg c1] at h
    by_cases c2 : nI 126 < x
    · rw [if_pos c2] at h
      exact absurd rfl h
    · have z : ¬ x < 0 := fun q => c1 (by
        rw [Int32.lt_iff_toInt_lt] at q ⊢
        have e1 : (0 : Int32).toInt = 0 := by decide
        have e2 : (nI 32).toInt = 32 := by decide
        rw [e1] at q
        rw [e2]
        omega)
      have b := z_nn z
      have b1 := b.1
      have b2 := b.2
      generalize zc x = j at b1 b2
      subst b2
      refine ⟨j, ?_, ?_, rfl⟩
      · exact Nat.le_of_not_lt (fun q => c1 (nI_lt q (by decide)))
      · exact Nat.lt_of_not_le (fun q => c2 (nI_lt (by omega) b1))
theorem ac_append (h : IV B Z N P X) (x : Int32) : g_X6_append Z x = g_X7_append x X ∧ IV B (h_X6_append Z x) N P (hX_X7_append x X) := by
  unfold g_X6_append h_X6_append g_X7_append hX_X7_append
  obtain ⟨h1, h2, h3, h4⟩ := h.2.2.2
  have bL := h2.1.1
  have zL : zc (Z 6 1 0) = zc (X 0 1) := by rw [h3]
  by_cases q : g_X7_in x (nI 32) (nI 126) = 0
  · have q' : g_X6_isWithin x (nI 32) (nI 126) = 0 := q
    rw [if_pos q, if_pos q', if_pos q, if_pos q']
    exact ⟨rfl, h⟩
  · have q' : ¬ g_X6_isWithin x (nI 32) (nI 126) = 0 := q
    obtain ⟨j, j1, j2, rfl⟩ := ch_ok q
    obtain ⟨e1, e2⟩ := ch_nar j j2
    rw [if_neg q, if_neg q', if_neg q, if_neg q', zL, e1]
    by_cases c : zc (X 0 1) = 100
    · rw [c, if_neg (show ¬ nI 100 < nI 100 by decide), if_neg (show ¬ nI 100 < nI 100 by decide), if_pos rfl, if_pos rfl]
      exact ⟨rfl, h⟩
    · have c1 : ¬ nI (zc (X 0 1)) = nI 100 := by
        intro e
        have k := congrArg zc e
        rw [zc_nI (by omega), zc_nI (by decide)] at k
        exact c k
      rw [if_pos (nI_lt (show zc (X 0 1) < 100 by omega) (by decide)), if_pos (nI_lt (show zc (X 0 1) < 100 by omega) (by decide)), if_neg c1, if_neg c1]
      have hq := xQ_add (ch := nI j) h1
      unfold h_X4_add at hq ⊢
      rw [zL, e2, if_neg (nI_ge (show zc (X 0 1) < 100 by omega) (by decide))] at hq ⊢
      refine ⟨by rw [zu_s], iv_text h ?_ ?_ ⟨hq, ⟨?_, ?_, ?_⟩, ?_, ?_⟩⟩
      · rw [zu_c _ _ _ (by decide), zu_c _ _ _ (by decide)]
      · rw [zu_i _ _ _ (by decide), zu_c _ _ _ (by decide)]
      · rw [zu_s]
        exact zIn_nI (by omega) (by decide)
      · rw [zu_i _ _ _ (by decide), zu_c _ _ _ (by decide)]
        exact h2.2.1
      · rw [zu_i _ _ _ (by decide), zu_c _ _ _ (by decide)]
        exact h2.2.2
      · rw [zu_s, zu_s]
      · rw [zu_s, zc_nI (by omega), zu_c (zu (Z 6) 2 (zc (X 0 1)) (nI j)) _ _ (show 2 ≠ 1 by decide), zu_c (zu X 1 (zc (X 0 1)) (nI j)) _ _ (show 1 ≠ 0 by decide)]
        intro i hi
        by_cases e : i = zc (X 0 1)
        · subst e
          rw [zu_s, zu_s]
          exact ⟨rfl, j, j1, j2, rfl⟩
        · rw [zu_i _ _ _ e, zu_i _ _ _ e]
          exact h4 i (by omega)
end FA
