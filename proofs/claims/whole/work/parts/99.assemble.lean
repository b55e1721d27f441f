/-! assemble: the second reading of the reference against the rows that the class has read -/
theorem ps2 (place : Int32) (P : zM) : ∀ (n i : Nat) (Y X N : zM) (p k w : Nat), rl p Y X → X 0 3 = nI 0 → Y 1 2 = nI k → 2 * k ≤ p + 1 → zc (X 0 1) - p ≤ n → g_X4_findFault_lp n (nI 1) i Y = -100005 →
    (∀ q, q < k → (h_X4_findFault_lp n (nI 1) i Y) 3 q = Y 3 q) ∧ (∀ q, q < k * 2 → (h_X4_findFault_lp n (nI 1) i Y) 4 q = Y 4 q) ∧
    (∀ c, c ≠ 10 → c ≠ 11 → (hN_X7_assemble_lq place (sc (Y 2) (zc (X 0 1) - p) p) w k N P (zu X 0 2 (nI (p + 1)))) c = N c) ∧
    (∀ q, (q < zc place + k ∨ zc place + (k + sc (Y 2) (zc (X 0 1) - p) p) ≤ q) → (hN_X7_assemble_lq place (sc (Y 2) (zc (X 0 1) - p) p) w k N P (zu X 0 2 (nI (p + 1)))) 10 q = N 10 q) ∧
    (∀ q, (q < 2 * (zc place + k) ∨ 2 * (zc place + (k + sc (Y 2) (zc (X 0 1) - p) p)) ≤ q) → (hN_X7_assemble_lq place (sc (Y 2) (zc (X 0 1) - p) p) w k N P (zu X 0 2 (nI (p + 1)))) 11 q = N 11 q) ∧
    (∀ q, k ≤ q → q < k + sc (Y 2) (zc (X 0 1) - p) p → (hN_X7_assemble_lq place (sc (Y 2) (zc (X 0 1) - p) p) w k N P (zu X 0 2 (nI (p + 1)))) 10 (zc place + q) = (h_X4_findFault_lp n (nI 1) i Y) 3 q ∧
      oR ((hN_X7_assemble_lq place (sc (Y 2) (zc (X 0 1) - p) p) w k N P (zu X 0 2 (nI (p + 1)))) 10 (zc place + q)) ((h_X4_findFault_lp n (nI 1) i Y) 4 (q * 2)) ((h_X4_findFault_lp n (nI 1) i Y) 4 (q * 2 + 1)) ((hN_X7_assemble_lq place (sc (Y 2) (zc (X 0 1) - p) p) w k N P (zu X 0 2 (nI (p + 1)))) 11 (2 * (zc place + q))) ((hN_X7_assemble_lq place (sc (Y 2) (zc (X 0 1) - p) p) w k N P (zu X 0 2 (nI (p + 1)))) 11 (2 * (zc place + q) + 1)) ∧
      pOK ((hN_X7_assemble_lq place (sc (Y 2) (zc (X 0 1) - p) p) w k N P (zu X 0 2 (nI (p + 1)))) 10 (zc place + q)) ((hN_X7_assemble_lq place (sc (Y 2) (zc (X 0 1) - p) p) w k N P (zu X 0 2 (nI (p + 1)))) 11 (2 * (zc place + q))) ((hN_X7_assemble_lq place (sc (Y 2) (zc (X 0 1) - p) p) w k N P (zu X 0 2 (nI (p + 1)))) 11 (2 * (zc place + q) + 1))) := by
  intro n
  have done : ∀ (n i : Nat) (Y X N : zM) (p k w : Nat), rl p Y X → zc (X 0 1) ≤ p → (h_X4_findFault_lp n (nI 1) i Y = Y) ∧ sc (Y 2) (zc (X 0 1) - p) p = 0 := by
    intro n i Y X N p k w h e
    obtain ⟨h1, h2⟩ := rl_L h
    obtain ⟨z1, z2, z3⟩ := rl_zp h
    refine ⟨(fl_e (by omega) (by omega)).2, ?_⟩
    rw [show zc (X 0 1) - p = 0 by omega]
    rfl
  induction n with
  | zero =>
    intro i Y X N p k w h h3 hk hkp hn hg
    obtain ⟨d1, d2⟩ := done 0 i Y X N p k w h (by omega)
    rw [d1, d2]
    exact ⟨fun _ _ => rfl, fun _ _ => rfl, fun _ _ _ => rfl, fun _ _ => rfl, fun _ _ => rfl, fun q q1 q2 => absurd q2 (by omega)⟩
  | succ n ih =>
    intro i Y X N p k w h h3 hk hkp hn hg
    obtain ⟨h1, h2⟩ := rl_L h
    obtain ⟨z1, z2, z3⟩ := rl_zp h
    by_cases e : p < zc (X 0 1)
    · obtain ⟨f1, f2⟩ := fl_s (n := n) (i := i) (Y := Y) (by omega) (by omega)
      rw [f1] at hg
      rw [f2]
      rcases vr_sign (c0 := 59) h h3 (by decide) (by decide) with ⟨s1, s2, s3, s4, s5⟩ | ⟨s1, s2, s3, s4⟩
      · have d := rl_go h (p' := p + 1) (by omega)
        have d3 : (zu X 0 2 (nI (p + 1))) 0 3 = nI 0 := by
          rw [go_3]
          exact h3
        have dk : (zu Y 1 1 (nI (p + 1))) 1 2 = nI k := by
          rw [zu_i _ _ _ (by decide)]
          exact hk
        have dF : xF (Y 0) (Y 2) (Y 1 0) (h_X4_readInstruction (zu Y 1 1 (nI (p + 1)))) := xF_readInstruction (xF_1 (by decide) ⟨rfl, rfl, rfl⟩)
        rw [s1, s4, if_neg n1] at hg
        rw [s1, s4, if_neg n1]
        rcases ir_all d d3 dk hkp with ⟨g1, p', a1, a2, a3, a4, a5, a6, a7, a8, a9, a10, a11⟩ | ⟨g1, p', w'⟩
        · rw [g1, if_neg n1] at hg
          rw [g1, if_neg n1]
          rw [go_L] at a2
          rw [go_1] at a3
          have eL : zc ((hX_X7_instruction (zu X 0 2 (nI (p + 1)))) 0 1) = zc (X 0 1) := by rw [kx_instruction (by decide), go_L]
          have es : sc (Y 2) (zc (X 0 1) - p) p = sc (Y 2) (zc (X 0 1) - p') p' + 1 := by
            have es1 : sc (Y 2) (p' - p) p = 1 := by
              rw [show p' - p = (p' - p - 1) + 1 by omega]
              simp only [sc]
              rw [if_pos ((rl_ch h e).trans s3), sc_none]
              intro q e1 e2
              rw [rl_ch h (by omega)]
              exact a3 q e1 (by omega)
            rw [show zc (X 0 1) - p = (p' - p) + (zc (X 0 1) - p') by omega, sc_add, show p + (p' - p) = p' by omega, es1, Nat.add_comm]
          have zp' := (rl_zp a4).2.1
          have ih' := ih (i + 1) (h_X4_readInstruction (zu Y 1 1 (nI (p + 1)))) (hX_X7_instruction (zu X 0 2 (nI (p + 1)))) (zu (zu (zu N 10 (zc place + k) ((hX_X7_instruction (zu X 0 2 (nI (p + 1)))) 0 4)) 11 (2 * (zc place + k)) ((hX_X7_instruction (zu X 0 2 (nI (p + 1)))) 0 5)) 11 (2 * (zc place + k) + 1) ((hX_X7_instruction (zu X 0 2 (nI (p + 1)))) 0 6)) p' (k + 1) w a4 a5 a7 (by omega) (by omega) hg
          rw [eL, dF.2.1] at ih'
          rw [es]
          simp only [hN_X7_assemble_lq]
          rw [zp']
          generalize hr : sc (Y 2) (zc (X 0 1) - p') p' = r at ih' ⊢
          generalize hF : h_X4_findFault_lp n (nI 1) (i + 1) (h_X4_readInstruction (zu Y 1 1 (nI (p + 1)))) = F at ih' ⊢
          generalize hM : hN_X7_assemble_lq place r w (k + 1) (zu (zu (zu N 10 (zc place + k) ((hX_X7_instruction (zu X 0 2 (nI (p + 1)))) 0 4)) 11 (2 * (zc place + k)) ((hX_X7_instruction (zu X 0 2 (nI (p + 1)))) 0 5)) 11 (2 * (zc place + k) + 1) ((hX_X7_instruction (zu X 0 2 (nI (p + 1)))) 0 6)) P (zu (hX_X7_instruction (zu X 0 2 (nI (p + 1)))) 0 2 (nI (p' + 1))) = Nf at ih' ⊢
          obtain ⟨i1, i2, i3, i4, i5, i6⟩ := ih'
          refine ⟨fun q hq => ?_, fun q hq => ?_, fun c c1 c2 => ?_, fun q hq => ?_, fun q hq => ?_, fun q q1 q2 => ?_⟩
          · rw [i1 q (by omega), a10 q (by omega), zu_c _ _ _ (by decide)]
          · rw [i2 q (by omega), a11 q (by omega) (by omega), zu_c _ _ _ (by decide)]
          · rw [i3 c c1 c2, zu_c _ _ _ c2, zu_c _ _ _ c2, zu_c _ _ _ c1]
          · rw [i4 q (by omega), zu_c _ _ _ (by decide), zu_c _ _ _ (by decide), zu_i _ _ _ (by omega)]
          · rw [i5 q (by omega), zu_i _ _ _ (by omega), zu_i _ _ _ (by omega), zu_c _ _ _ (by decide)]
          · by_cases ek : q = k
            · subst ek
              have j1 : Nf 10 (zc place + q) = (hX_X7_instruction (zu X 0 2 (nI (p + 1)))) 0 4 := by
                rw [i4 _ (by omega), zu_c _ _ _ (by decide), zu_c _ _ _ (by decide), zu_s]
              have j2 : Nf 11 (2 * (zc place + q)) = (hX_X7_instruction (zu X 0 2 (nI (p + 1)))) 0 5 := by
                rw [i5 _ (by omega), zu_i _ _ _ (by omega), zu_s]
              have j3 : Nf 11 (2 * (zc place + q) + 1) = (hX_X7_instruction (zu X 0 2 (nI (p + 1)))) 0 6 := by
                rw [i5 _ (by omega), zu_s]
              rw [j1, j2, j3, i1 q (by omega), i2 (q * 2) (by omega), i2 (q * 2 + 1) (by omega)]
              exact ⟨a8.symm, a9, a6⟩
            · exact i6 q (by omega) (by omega)
        · obtain ⟨q1, q2⟩ := fl_0 n (i + 1) (h_X4_readInstruction (zu Y 1 1 (nI (p + 1))))
          obtain ⟨w1, w2⟩ := rl_L w'.1
          rw [g1, if_pos (show nI 0 = 0 from rfl), q1, w'.1.2.2.1] at hg
          exact absurd hg (nN (by omega))
      · obtain ⟨q1, q2⟩ := fl_0 n (i + 1) Y
        rw [s1, s2, if_pos (show nI 0 = 0 from rfl), q1, h.2.2.1] at hg
        exact absurd hg (nN (by omega))
    · obtain ⟨d1, d2⟩ := done (n + 1) i Y X N p k w h (by omega)
      rw [d1, d2]
      exact ⟨fun _ _ => rfl, fun _ _ => rfl, fun _ _ _ => rfl, fun _ _ => rfl, fun _ _ => rfl, fun q q1 q2 => absurd q2 (by omega)⟩
/-- the whole second reading, from the text's start -/
theorem ps3 (place : Int32) {Y X X2 N P : zM} {w : Nat} (h : tx Y X) (hX0 : X2 0 3 = nI 0) (hX1 : X2 0 1 = X 0 1) (hX2 : X2 1 = X 1) (hg : g_X4_findFault Y = -100005) (hw : w = 1 + sc (Y 2) (zc (X 0 1)) 0) :
    (∀ c, c ≠ 10 → c ≠ 11 → (hN_X7_assemble_lq place w w 0 N P (zu X2 0 2 (nI 0))) c = N c) ∧
    (∀ q, (q < zc place ∨ zc place + w ≤ q) → (hN_X7_assemble_lq place w w 0 N P (zu X2 0 2 (nI 0))) 10 q = N 10 q) ∧
    (∀ q, (q < 2 * zc place ∨ 2 * (zc place + w) ≤ q) → (hN_X7_assemble_lq place w w 0 N P (zu X2 0 2 (nI 0))) 11 q = N 11 q) ∧
    (∀ q, q < w → (hN_X7_assemble_lq place w w 0 N P (zu X2 0 2 (nI 0))) 10 (zc place + q) = (h_X4_findFault Y) 3 q ∧
      oR ((hN_X7_assemble_lq place w w 0 N P (zu X2 0 2 (nI 0))) 10 (zc place + q)) ((h_X4_findFault Y) 4 (q * 2)) ((h_X4_findFault Y) 4 (q * 2 + 1)) ((hN_X7_assemble_lq place w w 0 N P (zu X2 0 2 (nI 0))) 11 (2 * (zc place + q))) ((hN_X7_assemble_lq place w w 0 N P (zu X2 0 2 (nI 0))) 11 (2 * (zc place + q) + 1)) ∧
      pOK ((hN_X7_assemble_lq place w w 0 N P (zu X2 0 2 (nI 0))) 10 (zc place + q)) ((hN_X7_assemble_lq place w w 0 N P (zu X2 0 2 (nI 0))) 11 (2 * (zc place + q))) ((hN_X7_assemble_lq place w w 0 N P (zu X2 0 2 (nI 0))) 11 (2 * (zc place + q) + 1))) := by
  obtain ⟨k1, k2, k3, k4, k5, k6⟩ := rl_0 h
  have L1 := (rl_L k1).1
  rw [k5] at L1
  have r0 : rl 0 (y0 Y) (zu X2 0 2 (nI 0)) := by
    refine rl_ext k1 rfl rfl k1.2.2.1 ?_ ?_ ?_ (Nat.zero_le _)
    · rw [zu_s]
    · rw [zu_i _ _ _ (by decide), hX1, k5]
    · rw [zu_c _ _ _ (by decide), hX2, k6]
  have r3 : (zu X2 0 2 (nI 0)) 0 3 = nI 0 := by
    rw [zu_i _ _ _ (by decide)]
    exact hX0
  have eL0 : (zu X2 0 2 (nI 0)) 0 1 = X 0 1 := by rw [zu_i _ _ _ (by decide), hX1]
  have eT0 : (zu X2 0 2 (nI 0)) 1 = X 1 := by rw [zu_c _ _ _ (by decide), hX2]
  generalize zu X2 0 2 (nI 0) = X3 at r0 r3 eL0 eT0 ⊢
  have dF : xF (Y 0) (Y 2) (Y 1 0) (h_X4_readInstruction (y0 Y)) := xF_readInstruction (xF_1 (by decide) (xF_1 (by decide) ⟨rfl, rfl, rfl⟩))
  have e1 : g_X4_findFault Y = g_X4_findFault_lp 100 (g_X4_readInstruction (y0 Y)) 0 (h_X4_readInstruction (y0 Y)) := rfl
  have e2 : h_X4_findFault Y = h_X4_findFault_lp 100 (g_X4_readInstruction (y0 Y)) 0 (h_X4_readInstruction (y0 Y)) := rfl
  rw [e1] at hg
  rw [e2]
  rcases ir_all r0 r3 k3 (by omega) with ⟨g1, p', a1, a2, a3, a4, a5, a6, a7, a8, a9, a10, a11⟩ | ⟨g1, p', w'⟩
  · rw [g1] at hg
    rw [g1]
    rw [eL0] at a2
    rw [eT0] at a3
    have eL : zc ((hX_X7_instruction X3) 0 1) = zc (X 0 1) := by rw [kx_instruction (by decide), eL0]
    have es : w = sc (Y 2) (zc (X 0 1) - p') p' + 1 := by
      rw [hw, show zc (X 0 1) = p' + (zc (X 0 1) - p') by omega, sc_add, sc_none (Y 2) p' 0, Nat.zero_add, Nat.zero_add]
      · rw [show p' + (zc (X 0 1) - p') - p' = zc (X 0 1) - p' by omega, Nat.add_comm]
      · intro q q1 q2
        rw [← k4, rl_ch k1 (by rw [k5]; omega), k6]
        exact a3 q q1 (by omega)
    have zp' := (rl_zp a4).2.1
    have ih' := ps2 place P 100 0 (h_X4_readInstruction (y0 Y)) (hX_X7_instruction X3) (zu (zu (zu N 10 (zc place + 0) ((hX_X7_instruction X3) 0 4)) 11 (2 * (zc place + 0)) ((hX_X7_instruction X3) 0 5)) 11 (2 * (zc place + 0) + 1) ((hX_X7_instruction X3) 0 6)) p' 1 w a4 a5 a7 (by omega) (by omega) hg
    rw [eL, dF.2.1] at ih'
    generalize sc (Y 2) (zc (X 0 1) - p') p' = r at ih' es
    have eN : hN_X7_assemble_lq place w w 0 N P X3 = hN_X7_assemble_lq place r w 1 (zu (zu (zu N 10 (zc place + 0) ((hX_X7_instruction X3) 0 4)) 11 (2 * (zc place + 0)) ((hX_X7_instruction X3) 0 5)) 11 (2 * (zc place + 0) + 1) ((hX_X7_instruction X3) 0 6)) P (zu (hX_X7_instruction X3) 0 2 (nI (p' + 1))) := by
      have k : ∀ v, hN_X7_assemble_lq place (r + 1) v 0 N P X3 = hN_X7_assemble_lq place r v 1 (zu (zu (zu N 10 (zc place + 0) ((hX_X7_instruction X3) 0 4)) 11 (2 * (zc place + 0)) ((hX_X7_instruction X3) 0 5)) 11 (2 * (zc place + 0) + 1) ((hX_X7_instruction X3) 0 6)) P (zu (hX_X7_instruction X3) 0 2 (nI (p' + 1))) := by
        intro v
        simp only [hN_X7_assemble_lq]
        rw [zp']
      have k' := k w
      rw [← es] at k'
      exact k'
    rw [eN]
    clear eN
    generalize hM : hN_X7_assemble_lq place r w 1 (zu (zu (zu N 10 (zc place + 0) ((hX_X7_instruction X3) 0 4)) 11 (2 * (zc place + 0)) ((hX_X7_instruction X3) 0 5)) 11 (2 * (zc place + 0) + 1) ((hX_X7_instruction X3) 0 6)) P (zu (hX_X7_instruction X3) 0 2 (nI (p' + 1))) = Nf at ih' ⊢
    generalize hF : h_X4_findFault_lp 100 (nI 1) 0 (h_X4_readInstruction (y0 Y)) = F at ih' ⊢
    obtain ⟨i1, i2, i3, i4, i5, i6⟩ := ih'
    refine ⟨fun c c1 c2 => ?_, fun q hq => ?_, fun q hq => ?_, fun q q2 => ?_⟩
    · rw [i3 c c1 c2, zu_c _ _ _ c2, zu_c _ _ _ c2, zu_c _ _ _ c1]
    · rw [i4 q (by omega), zu_c _ _ _ (by decide), zu_c _ _ _ (by decide), zu_i _ _ _ (by omega)]
    · rw [i5 q (by omega), zu_i _ _ _ (by omega), zu_i _ _ _ (by omega), zu_c _ _ _ (by decide)]
    · by_cases ek : q = 0
      · subst ek
        have j1 : Nf 10 (zc place + 0) = (hX_X7_instruction X3) 0 4 := by
          rw [i4 _ (by omega), zu_c _ _ _ (by decide), zu_c _ _ _ (by decide), zu_s]
        have j2 : Nf 11 (2 * (zc place + 0)) = (hX_X7_instruction X3) 0 5 := by
          rw [i5 _ (by omega), zu_i _ _ _ (by omega), zu_s]
        have j3 : Nf 11 (2 * (zc place + 0) + 1) = (hX_X7_instruction X3) 0 6 := by
          rw [i5 _ (by omega), zu_s]
        rw [j1, j2, j3, i1 0 (by omega), i2 (0 * 2) (by omega), i2 (0 * 2 + 1) (by omega)]
        exact ⟨a8.symm, a9, a6⟩
      · exact i6 q (by omega) (by omega)
  · obtain ⟨q1, q2⟩ := fl_0 100 0 (h_X4_readInstruction (y0 Y))
    obtain ⟨w1, w2⟩ := rl_L w'.1
    rw [g1, q1, w'.1.2.2.1] at hg
    rw [eL0] at *
    exact absurd hg (nN (by omega))
/-- what the second reading leaves of the reference's other rows -/
theorem lq_all (place : Int32) : ∀ (n w i : Nat) (N P X : zM), g_X7_assemble_lq place n w i N P X = nI w ∧ hP_X7_assemble_lq place n w i N P X = P ∧ (hX_X7_assemble_lq place n w i N P X) 0 0 = X 0 0 ∧ (hX_X7_assemble_lq place n w i N P X) 0 1 = X 0 1 ∧ (hX_X7_assemble_lq place n w i N P X) 1 = X 1 := by
  intro n
  induction n with
  | zero => exact fun _ _ _ _ _ => ⟨rfl, rfl, rfl, rfl, rfl⟩
  | succ n ih =>
    intro w i N P X
    simp only [g_X7_assemble_lq, hP_X7_assemble_lq, hX_X7_assemble_lq]
    obtain ⟨h1, h2, h3, h4, h5⟩ := ih w (i + 1) (zu (zu (zu N 10 (zc place + i) ((hX_X7_instruction X) 0 4)) 11 (2 * (zc place + i)) ((hX_X7_instruction X) 0 5)) 11 (2 * (zc place + i) + 1) ((hX_X7_instruction X) 0 6)) P (zu (hX_X7_instruction X) 0 2 (nI (zc ((hX_X7_instruction X) 0 2) + 1)))
    refine ⟨h1, h2, h3.trans ?_, h4.trans ?_, h5.trans ?_⟩
    · rw [zu_i _ _ _ (by decide), kx_instruction (by decide)]
    · rw [zu_i _ _ _ (by decide), kx_instruction (by decide)]
    · rw [zu_c _ _ _ (by decide), kt_instruction]
theorem lq_tOK (place : Int32) : ∀ (n w i S : Nat) (N P X : zM), tOK S X → S + 9 * n ≤ 1000000 → tOK (S + 9 * n) (hX_X7_assemble_lq place n w i N P X) := by
  intro n
  induction n with
  | zero => exact fun _ _ _ _ _ _ h _ => h
  | succ n ih =>
    intro w i S N P X h hS
    simp only [hX_X7_assemble_lq]
    have h2 := tOK_instruction h (by omega)
    have b := h2.2.1.1.1
    have h3 : tOK (S + 9) (zu (hX_X7_instruction X) 0 2 (nI (zc ((hX_X7_instruction X) 0 2) + 1))) := tOK_2 h2 (by omega) (by omega)
    have h4 := ih w (i + 1) (S + 9) (zu (zu (zu N 10 (zc place + i) ((hX_X7_instruction X) 0 4)) 11 (2 * (zc place + i)) ((hX_X7_instruction X) 0 5)) 11 (2 * (zc place + i) + 1) ((hX_X7_instruction X) 0 6)) P _ h3 (by omega)
    rw [show S + 9 * (n + 1) = S + 9 + 9 * n by omega]
    exact h4
theorem as_lp (place : Int32) (N P X : zM) : ∀ (n w i : Nat), g_X7_assemble_lp place n w i N P X = g_X7_assemble_lp place 0 (w + sc (X 1) n i) (i + n) N P X ∧ hN_X7_assemble_lp place n w i N P X = hN_X7_assemble_lp place 0 (w + sc (X 1) n i) (i + n) N P X ∧ hP_X7_assemble_lp place n w i N P X = hP_X7_assemble_lp place 0 (w + sc (X 1) n i) (i + n) N P X ∧ hX_X7_assemble_lp place n w i N P X = hX_X7_assemble_lp place 0 (w + sc (X 1) n i) (i + n) N P X := by
  intro n
  induction n with
  | zero => exact fun _ _ => ⟨rfl, rfl, rfl, rfl⟩
  | succ n ih =>
    intro w i
    rw [g_X7_assemble_lp.eq_2, hN_X7_assemble_lp.eq_2, hP_X7_assemble_lp.eq_2, hX_X7_assemble_lp.eq_2]
    by_cases c : X 1 i = nI 59
    · have e : w + sc (X 1) (n + 1) i = w + 1 + sc (X 1) n (i + 1) := by
        simp only [sc]
        rw [if_pos c]
        omega
      have k := ih (w + 1) (i + 1)
      rw [if_pos c, if_pos c, if_pos c, if_pos c, e, show i + (n + 1) = i + 1 + n by omega]
      exact k
    · have e : w + sc (X 1) (n + 1) i = w + sc (X 1) n (i + 1) := by
        simp only [sc]
        rw [if_neg c]
        omega
      have k := ih w (i + 1)
      rw [if_neg c, if_neg c, if_neg c, if_neg c, e, show i + (n + 1) = i + 1 + n by omega]
      exact k
/-- a program changed in both alike -/
theorem sB_prog {B : Nat} {M N M' N' : zM} (h : sB B M N) (hM : ∀ c, c ≠ 10 → c ≠ 11 → M' c = M c) (hN : ∀ c, c ≠ 10 → c ≠ 11 → N' c = N c) (h10 : M' 10 = N' 10) (ho : ∀ p, p < 48 → oR (N' 10 p) (M' 11 (p * 2)) (M' 11 (p * 2 + 1)) (N' 11 (2 * p)) (N' 11 (2 * p + 1))) (hp : ∀ p, p < 48 → pOK (N' 10 p) (N' 11 (2 * p)) (N' 11 (2 * p + 1))) : sB B M' N' := by
  obtain ⟨⟨s1, s2, s3, s4, s5⟩, z, t, r⟩ := h
  refine ⟨⟨fun c c3 c11 c18 c19 => ?_, ?_, ho, ?_, ?_⟩, ?_, ?_, ?_⟩
  · by_cases e : c = 10
    · subst e
      exact h10
    · rw [hM c e c11, hN c e c11]
      exact s1 c c3 c11 c18 c19
  · rw [hN 0 (by decide) (by decide), hN 3 (by decide) (by decide), hM 3 (by decide) (by decide)]
    exact s2
  · rw [hN 18 (by decide) (by decide), hM 18 (by decide) (by decide)]
    exact s4
  · rw [hN 18 (by decide) (by decide), hM 18 (by decide) (by decide), hN 19 (by decide) (by decide), hM 19 (by decide) (by decide)]
    exact s5
  · unfold zOK
    rw [hM 2 (by decide) (by decide), hM 3 (by decide) (by decide), hM 18 (by decide) (by decide)]
    exact z
  · refine ⟨fun t2 r2 e1 e2 => ?_, fun w hw => ?_⟩
    · rw [hN _ (by omega) (by omega)]
      exact t.1 t2 r2 e1 e2
    · rw [hN 13 (by decide) (by decide)]
      exact t.2 w hw
  · refine ⟨?_, ?_, ?_, ?_, ?_, hp, ?_⟩
    · rw [hN 2 (by decide) (by decide)]
      exact r.1
    · rw [hN 0 (by decide) (by decide), hN 3 (by decide) (by decide)]
      exact r.2.1
    · rw [hN 1 (by decide) (by decide)]
      exact r.2.2.1
    · rw [hN 14 (by decide) (by decide)]
      exact r.2.2.2.1
    · rw [hN 16 (by decide) (by decide)]
      exact r.2.2.2.2.1
    · rw [hN 18 (by decide) (by decide)]
      exact r.2.2.2.2.2.2
theorem ac_assemble {B : Nat} {Z : Nat → zM} {N P X : zM} (h : IV B Z N P X) (place : Int32) : g_assemble2 Z place = g_X7_assemble place N P X ∧ IV B (h_assemble2 Z place) (hN_X7_assemble place N P X) (hP_X7_assemble place N P X) (hX_X7_assemble place N P X) := by
  have ivf := iv_fault h
  have ht := h.2.2.2
  have bL := ht.2.1.1.1
  unfold g_assemble2 h_assemble2 g_X7_assemble hN_X7_assemble hP_X7_assemble hX_X7_assemble
  by_cases q : g_X7_isPlace place = 0
  · have q' : g_X6_isPlace place = 0 := q
    rw [if_pos q, if_pos q', if_pos q, if_pos q', if_pos q, if_pos q]
    exact ⟨rfl, h⟩
  · have q' : ¬ g_X6_isPlace place = 0 := q
    have bp : zIn place 48 := z_isPlace q'
    have bp1 := bp.1
    rw [if_neg q, if_neg q', if_neg q, if_neg q', if_neg q, if_neg q]
    rcases fa_all ht with ⟨t1, t2, t3, t4⟩ | ⟨t1, p', tp, t2, t3⟩
    · have es : sc ((hX_X7_isFaulty X) 1) (zc ((hX_X7_isFaulty X) 0 1)) 0 = sc (Z 6 2) (zc (X 0 1)) 0 := by
        rw [kt_isFaulty, kx_isFaulty (by decide)]
        exact (sc_congr _ _ _ _ (fun q2 _ e2 => (ht.2.2.2 q2 (by omega)).1)).symm
      obtain ⟨l1, l2, l3, l4⟩ := as_lp place N P (hX_X7_isFaulty X) (zc ((hX_X7_isFaulty X) 0 1)) 1 0
      rw [if_pos t2, if_pos t2, if_pos t2, if_pos t2, l1, l2, l3, l4, es]
      have ex : (1 : Nat) + sc (Z 6 2) (zc (X 0 1)) 0 = zc ((h_X4_findFault (Z 6)) 1 2) := t4.symm
      have sle : zc ((h_X4_findFault (Z 6)) 1 2) < 51 := (xQ_findFault ht.1).2.2.1.1
      rw [if_pos t1, if_pos t1, ex]
      generalize hw : zc ((h_X4_findFault (Z 6)) 1 2) = w at ex sle ⊢
      rw [g_X7_assemble_lp, hN_X7_assemble_lp, hP_X7_assemble_lp, hX_X7_assemble_lp]
      by_cases c : zc place + w ≤ 48
      · have c1 : nI (zc place + w) ≤ nI 48 := nI_le c (by decide)
        obtain ⟨m1, m2, m3, m4, m5⟩ := lq_all place w w 0 N (hP_X7_records N P (hX_X7_isFaulty X)) (zu (hX_X7_records N P (hX_X7_isFaulty X)) 0 2 (nI 0))
        rw [if_pos c1, if_pos c1, if_pos c1, if_pos c1, if_pos c1, if_pos c1, m1, m2]
        refine ⟨rfl, ?_⟩
        have hX5 : zIn ((hX_X7_isFaulty X) 0 0) 5 := by
          rw [kx_isFaulty (by decide), h.2.2.1.2.2.1]
          exact h.2.2.1.2.1
        have rX := rec_X (N := N) (P := P) hX5
        have p3 := ps3 place (Y := Z 6) (X := X) (X2 := hX_X7_records N P (hX_X7_isFaulty X)) (N := N) (P := hP_X7_records N P (hX_X7_isFaulty X)) (w := w) ht
          (by rw [rX, zu_i _ _ _ (by decide)]; exact t3) (by rw [rX, zu_i _ _ _ (by decide), kx_isFaulty (by decide)]) (by rw [rX, zu_c _ _ _ (by decide), kt_isFaulty]) t1 ex.symm
        have mt := lq_tOK place w w 0 1 N (hP_X7_records N P (hX_X7_isFaulty X)) (zu (hX_X7_records N P (hX_X7_isFaulty X)) 0 2 (nI 0)) (tOK_2 (tOK_records (tOK_isFaulty ht.2.1)) (by decide) (by decide)) (by omega)
        generalize hX_X7_assemble_lq place w w 0 N (hP_X7_records N P (hX_X7_isFaulty X)) (zu (hX_X7_records N P (hX_X7_isFaulty X)) 0 2 (nI 0)) = Xf at m3 m4 m5 mt ⊢
        generalize hN_X7_assemble_lq place w w 0 N (hP_X7_records N P (hX_X7_isFaulty X)) (zu (hX_X7_records N P (hX_X7_isFaulty X)) 0 2 (nI 0)) = Nf at p3 ⊢
        obtain ⟨i3, i4, i5, i6⟩ := p3
        have z60 : va_up Z 6 (h_X4_findFault (Z 6)) 0 = Z 0 := va_up_ne _ _ (by decide)
        have r63 : h_remember2 (va_up Z 6 (h_X4_findFault (Z 6))) 6 3 = h_X4_findFault (Z 6) 3 := by rw [rem_6 _ (by decide), va_up_self]
        have r64 : h_remember2 (va_up Z 6 (h_X4_findFault (Z 6))) 6 4 = h_X4_findFault (Z 6) 4 := by rw [rem_6 _ (by decide), va_up_self]
        rw [rem2_0, z60]
        have hc : ∀ c, c ≠ 10 → c ≠ 11 → h_copyRows_x (h_remember2 (va_up Z 6 (h_X4_findFault (Z 6)))) w (zc place) (Z 0) c = Z 0 c := by
          intro c c1 c2
          unfold h_copyRows_x
          rw [zr_n _ _ c2, zr_n _ _ c1]
        have h10 : h_copyRows_x (h_remember2 (va_up Z 6 (h_X4_findFault (Z 6)))) w (zc place) (Z 0) 10 = va_cpy (h_X4_findFault (Z 6) 3) (Z 0 10) 0 (zc place) w := by
          unfold h_copyRows_x
          rw [zr_n _ _ (by decide), zr_s, r63]
        have h11 : h_copyRows_x (h_remember2 (va_up Z 6 (h_X4_findFault (Z 6)))) w (zc place) (Z 0) 11 = va_cpy (h_X4_findFault (Z 6) 4) (Z 0 11) 0 (zc place * 2) (w * 2) := by
          unfold h_copyRows_x
          rw [zr_s, r64, zr_n _ _ (by decide)]
        generalize h_copyRows_x (h_remember2 (va_up Z 6 (h_X4_findFault (Z 6)))) w (zc place) (Z 0) = M' at hc h10 h11 ⊢
        have e10 : Z 0 10 = N 10 := h.1.1.1 10 (by decide) (by decide) (by decide) (by decide)
        have s' : sB B M' Nf := by
          refine sB_prog h.1 hc i3 ?_ (fun p hp => ?_) (fun p hp => ?_)
          · funext j
            rw [h10]
            unfold va_cpy
            by_cases e : zc place ≤ j ∧ j < zc place + w
            · have k := (i6 (j - zc place) (by omega)).1
              rw [show zc place + (j - zc place) = j by omega] at k
              rw [if_pos e, k, show 0 + (j - zc place) = j - zc place by omega]
            · rw [if_neg e, e10, i4 j (by omega)]
          · rw [h11]
            unfold va_cpy
            by_cases e : zc place ≤ p ∧ p < zc place + w
            · have k := (i6 (p - zc place) (by omega)).2.1
              rw [show zc place + (p - zc place) = p by omega] at k
              rw [if_pos (by omega), if_pos (by omega), show 0 + (p * 2 - zc place * 2) = (p - zc place) * 2 by omega, show 0 + (p * 2 + 1 - zc place * 2) = (p - zc place) * 2 + 1 by omega]
              exact k
            · rw [if_neg (by omega), if_neg (by omega), i4 p (by omega), i5 _ (by omega), i5 _ (by omega)]
              exact h.1.1.2.2.1 p hp
          · by_cases e : zc place ≤ p ∧ p < zc place + w
            · have k := (i6 (p - zc place) (by omega)).2.2
              rw [show zc place + (p - zc place) = p by omega] at k
              exact k
            · rw [i4 p (by omega), i5 _ (by omega), i5 _ (by omega)]
              exact h.1.2.2.2.2.2.2.2.2.1 p hp
        have x0 := h.2.1 0 (by decide)
        have xr : xR M' := by
          refine ⟨fun i e1 e2 => ?_, fun i e1 e2 => ?_⟩
          · rw [h10, va_cpy, if_neg (by omega)]
            exact x0.1 i e1 e2
          · rw [h11, va_cpy, if_neg (by omega)]
            exact x0.2 i e1 e2
        have fin := iv_rem ivf s' (Nat.le_refl _) xr
        refine ⟨fin.1, fin.2.1, hi_ext fin.2.2.1 (fun _ _ _ => rfl) rfl ?_, ?_⟩
        · rw [m3, zu_i _ _ _ (by decide)]
        · obtain ⟨t5, t6, t7, t8⟩ := fin.2.2.2
          have x1 : Xf 0 1 = (hX_X7_records N P (hX_X7_isFaulty X)) 0 1 := by rw [m4, zu_i _ _ _ (by decide)]
          have x2 : Xf 1 = (hX_X7_records N P (hX_X7_isFaulty X)) 1 := by rw [m5, zu_c _ _ _ (by decide)]
          refine ⟨t5, tOK_up mt (by omega) (by decide), ?_, ?_⟩
          · rw [x1]
            exact t7
          · rw [x1, x2]
            exact t8
      · have c1 : ¬ nI (zc place + w) ≤ nI 48 := nI_ge (by omega) (by omega)
        rw [if_neg c1, if_neg c1, if_neg c1, if_neg c1, if_neg c1, if_neg c1]
        exact ⟨rfl, ivf⟩
    · have f1 : ¬ g_X7_isFaulty X = 0 := by
        rw [t1]
        exact n1
      have f2 : ¬ g_X4_findFault (Z 6) = -100005 := by
        rw [t2]
        exact nN (by omega)
      rw [if_neg f1, if_neg f1, if_neg f1, if_neg f1, if_neg f2, if_neg f2]
      exact ⟨rfl, ivf⟩
