/-! runs, undo, and the fresh object -/
theorem rw_ok : ∀ n, n < 201 → 1 ≤ n → ¬ g_X6_isWithin (nI n) (nI 1) (nI 200) = 0 := by decide +kernel
theorem rn_g2 {Z : Nat → zM} {n : Nat} (h1 : 1 ≤ n) (h2 : n < 201) : g_run2 Z (nI n) = g_X3_runToBreakpoint n (Z 0) ∧ h_run2 Z (nI n) = va_up (h_remember2 Z) 0 (h_X3_runToBreakpoint n (Z 0)) := by
  unfold g_run2 h_run2
  rw [if_neg (rw_ok n h2 h1), if_neg (rw_ok n h2 h1), rm_0, zc_nI (by omega)]
  exact ⟨rfl, rfl⟩
theorem rem_f {Z : Nat → zM} {M' : zM} (hn : zIn (Z 6 0 0) 4) (hC : zIn (Z 6 0 1) 5) : (va_up (h_remember2 Z) 0 M') 6 0 0 = nI ((zc (Z 6 0 0) + 1) % 4) ∧ (va_up (h_remember2 Z) 0 M') 6 0 1 = nI (if zc (Z 6 0 1) < 4 then zc (Z 6 0 1) + 1 else 4) ∧ (va_up (h_remember2 Z) 0 M') (2 + zc (Z 6 0 0)) = Z 0 ∧ ∀ j, j < 4 → j ≠ zc (Z 6 0 0) → (va_up (h_remember2 Z) 0 M') (2 + j) = Z (2 + j) := by
  have b := hn.1
  have bC := hC.1
  have e6 : (va_up (h_remember2 Z) 0 M') 6 = (zu (zu (Z 6) 0 0 (nI ((zc (Z 6 0 0) + 1) % 4))) 0 1 (if (nI 4) < (nI (zc (Z 6 0 1) + 1)) then (nI 4) else (nI (zc (Z 6 0 1) + 1)))) := by
    rw [va_up_ne _ _ (by decide)]
    unfold h_remember2
    rw [va_up_self]
  refine ⟨?_, ?_, ?_, fun j hj hne => ?_⟩
  · rw [e6, zu_i _ _ _ (by decide), zu_s]
  · rw [e6, zu_s]
    by_cases c : zc (Z 6 0 1) < 4
    · rw [if_pos c, if_neg (nI_nlt (by omega) (by decide))]
    · rw [if_neg c, if_pos (nI_lt (by omega) (by omega))]
  · rw [va_up_ne _ _ (by omega)]
    unfold h_remember2
    rw [va_up_ne _ _ (by omega), va_up_self]
  · rw [va_up_ne _ _ (by omega)]
    unfold h_remember2
    rw [va_up_ne _ _ (by omega), va_up_ne _ _ (by omega)]
theorem und_f {Z : Nat → zM} {c : Nat} (hn : zIn (Z 6 0 0) 4) (hc : c < 4) (h : Z 6 0 1 = nI (c + 1)) : g_undo2 Z = nI c ∧ (h_undo2 Z) 0 = Z (2 + (zc (Z 6 0 0) + 3) % 4) ∧ (h_undo2 Z) 6 0 0 = nI ((zc (Z 6 0 0) + 3) % 4) ∧ (h_undo2 Z) 6 0 1 = nI c ∧ ∀ j, j < 4 → (h_undo2 Z) (2 + j) = Z (2 + j) := by
  have b := hn.1
  have z : zc (Z 6 0 1) = c + 1 := by
    rw [h]
    exact zc_nI (by omega)
  have ne : ¬ nI (zc (Z 6 0 1)) = 0 := by
    rw [z]
    exact nI_ne0 (by omega) (by omega)
  unfold g_undo2 g_restore2 h_undo2 h_restore2
  rw [if_neg ne, if_neg ne, z, show c + 1 - 1 = c by omega, show (zc (Z 6 0 0) + 4 - 1) % 4 = (zc (Z 6 0 0) + 3) % 4 by omega]
  refine ⟨zu_s _ _ _ _, ?_, ?_, ?_, fun j hj => ?_⟩
  · rw [va_up_self, va_up_ne _ _ (by omega)]
  · rw [va_up_ne _ _ (by decide), va_up_self, zu_i _ _ _ (by decide), zu_s]
  · rw [va_up_ne _ _ (by decide), va_up_self, zu_s]
  · rw [va_up_ne _ _ (by omega), va_up_ne _ _ (by omega)]
theorem un_1 {Z : Nat → zM} {M' : zM} (hn : zIn (Z 6 0 0) 4) (hC : zIn (Z 6 0 1) 5) : ¬ g_undo2 (va_up (h_remember2 Z) 0 M') < 0 ∧ (h_undo2 (va_up (h_remember2 Z) 0 M')) 0 = Z 0 := by
  obtain ⟨r1, r2, r3, -⟩ := rem_f (M' := M') hn hC
  have b := hn.1
  have bC := hC.1
  generalize va_up (h_remember2 Z) 0 M' = W at *
  have hnW : zIn (W 6 0 0) 4 := by
    rw [r1]
    exact zIn_nI (Nat.mod_lt _ (by decide)) (by decide)
  have zW0 : zc (W 6 0 0) = (zc (Z 6 0 0) + 1) % 4 := by
    rw [r1]
    exact zc_nI (by omega)
  obtain ⟨c, hc, ec⟩ : ∃ c, c < 4 ∧ (if zc (Z 6 0 1) < 4 then zc (Z 6 0 1) + 1 else 4) = c + 1 := by
    by_cases q : zc (Z 6 0 1) < 4
    · exact ⟨zc (Z 6 0 1), q, if_pos q⟩
    · exact ⟨3, by decide, if_neg q⟩
  rw [ec] at r2
  obtain ⟨u1, u2, -, -, -⟩ := und_f hnW hc r2
  refine ⟨?_, ?_⟩
  · rw [u1]
    exact nI_pos (by omega)
  · rw [u2, zW0, show ((zc (Z 6 0 0) + 1) % 4 + 3) % 4 = zc (Z 6 0 0) by omega]
    exact r3
theorem un_2 {Z : Nat → zM} {M1 M2 : zM} (hn : zIn (Z 6 0 0) 4) (hC : zIn (Z 6 0 1) 5) : ¬ g_undo2 (va_up (h_remember2 (va_up (h_remember2 Z) 0 M1)) 0 M2) < 0 ∧ ¬ g_undo2 (h_undo2 (va_up (h_remember2 (va_up (h_remember2 Z) 0 M1)) 0 M2)) < 0 ∧ (h_undo2 (h_undo2 (va_up (h_remember2 (va_up (h_remember2 Z) 0 M1)) 0 M2))) 0 = Z 0 := by
  obtain ⟨r1, r2, r3, -⟩ := rem_f (M' := M1) hn hC
  have b := hn.1
  have bC := hC.1
  generalize va_up (h_remember2 Z) 0 M1 = Z1 at *
  have hn1 : zIn (Z1 6 0 0) 4 := by
    rw [r1]
    exact zIn_nI (Nat.mod_lt _ (by decide)) (by decide)
  have z1 : zc (Z1 6 0 0) = (zc (Z 6 0 0) + 1) % 4 := by
    rw [r1]
    exact zc_nI (by omega)
  obtain ⟨c, hc, ec⟩ : ∃ c, c < 4 ∧ (if zc (Z 6 0 1) < 4 then zc (Z 6 0 1) + 1 else 4) = c + 1 := by
    by_cases q : zc (Z 6 0 1) < 4
    · exact ⟨zc (Z 6 0 1), q, if_pos q⟩
    · exact ⟨3, by decide, if_neg q⟩
  rw [ec] at r2
  have hC1 : zIn (Z1 6 0 1) 5 := by
    rw [r2]
    exact zIn_nI (by omega) (by decide)
  have zc1 : zc (Z1 6 0 1) = c + 1 := by
    rw [r2]
    exact zc_nI (by omega)
  obtain ⟨q1, q2, q3, q4⟩ := rem_f (M' := M2) hn1 hC1
  generalize va_up (h_remember2 Z1) 0 M2 = Z2 at *
  have hn2 : zIn (Z2 6 0 0) 4 := by
    rw [q1]
    exact zIn_nI (Nat.mod_lt _ (by decide)) (by decide)
  have z2 : zc (Z2 6 0 0) = (zc (Z1 6 0 0) + 1) % 4 := by
    rw [q1]
    exact zc_nI (by omega)
  obtain ⟨d, hd, ed⟩ : ∃ d, d < 3 ∧ (if zc (Z1 6 0 1) < 4 then zc (Z1 6 0 1) + 1 else 4) = (d + 1) + 1 := by
    rw [zc1]
    by_cases q : c + 1 < 4
    · exact ⟨c, by omega, if_pos q⟩
    · exact ⟨2, by decide, if_neg q⟩
  rw [ed] at q2
  obtain ⟨u1, -, u3, u4, u5⟩ := und_f hn2 (by omega) q2
  generalize h_undo2 Z2 = V at *
  have e1 : ((zc (Z1 6 0 0) + 1) % 4 + 3) % 4 = zc (Z1 6 0 0) := by
    have := hn1.1
    omega
  rw [z2, e1] at u3
  have hnV : zIn (V 6 0 0) 4 := by
    rw [u3]
    exact zIn_nI hn1.1 (by decide)
  have zV : zc (V 6 0 0) = zc (Z1 6 0 0) := by
    rw [u3]
    exact zc_nI (by have := hn1.1; omega)
  obtain ⟨w1, w2, -, -, -⟩ := und_f hnV (by omega) u4
  have e2 : (zc (Z1 6 0 0) + 3) % 4 = zc (Z 6 0 0) := by
    rw [z1]
    omega
  refine ⟨?_, ?_, ?_⟩
  · rw [u1]
    exact nI_pos (by omega)
  · rw [w1]
    exact nI_pos (by omega)
  · rw [w2, zV, e2, u5 _ b, q4 _ b (by rw [z1]; omega)]
    exact r3
/-! the fresh object -/
theorem zI0 {n : Nat} (h : 0 < n) (hn : n ≤ 2 ^ 31) : zIn 0 n := zIn_nI h hn
theorem fr_14 : ∀ k, k < 8 → zM0 14 k = nI (k % 4) := by decide +kernel
theorem fr_st1 : st1 zM0 := by
  have z11 : zc (nI 11) = 11 := rfl
  refine ⟨fun t ht => zI0 (by decide) (by decide), fun t ht => zI0 (by decide) (by decide), fun t i ht hi => ?_, fun w hw => shq_nI (n := 0) (by decide), fun k hk => ?_, ⟨?_, ?_⟩, fun p hp => ?_, fun p hp => zI0 (by decide) (by decide), fun t ht => zI0 (by decide) (by decide), fun t ht => zI0 (by decide) (by decide), zI0 (by decide) (by decide), zI0 (by decide) (by decide)⟩
  · have e : zM0 (t + 20) i = 0 := by
      have k : ∀ t, t < 4 → ∀ i, i < 4 → zM0 (t + 20) i = 0 := by decide +kernel
      exact k t ht i hi
    rw [e]
    exact shq_nI (n := 0) (by decide)
  · rw [fr_14 k hk]
    exact zIn_nI (Nat.mod_lt _ (by decide)) (by decide)
  · rw [show zM0 15 0 = nI 3 by decide]
    exact zIn_nI (by decide) (by decide)
  · rw [show zM0 15 1 = nI 0 by decide]
    exact zIn_nI (by decide) (by decide)
  · show pgOK (nI 11) (-100005) (-100005)
    unfold pgOK
    rw [z11]
    exact ⟨zIn_nI (by decide) (by decide), ⟨fun _ => by decide, fun _ => rfl⟩, ⟨fun _ => Or.inl (by decide), fun _ => rfl⟩, fun q => absurd q (by decide), fun q => absurd q (by decide), fun q => absurd q (by decide)⟩
theorem fr_ct1 : ct1 0 zM0 := by
  refine ⟨zI0 (by decide) (by decide), zI0 (by decide) (by decide), fun t ht => ⟨zI0 (by decide) (by decide), zI0 (by decide) (by decide), zI0 (by decide) (by decide), zI0 (by decide) (by decide)⟩, by decide, fun t ht => ⟨Nat.le_refl _, Nat.le_refl _, Nat.le_refl _⟩, ⟨zI0 (by decide) (by decide), zI0 (by decide) (by decide), by decide⟩, fun ago ha => absurd ha (Nat.not_lt_zero _)⟩
theorem fr_iv : IVp 0 zZ0 := by
  have e : ∀ k, k < 6 → zZ0 k = zM0 := fun k hk => if_pos hk
  refine ⟨fun k hk => ?_, fun k hk _ => ?_, zI0 (by decide) (by decide), zI0 (by decide) (by decide), ⟨zI0 (by decide) (by decide), zI0 (by decide) (by decide), zI0 (by decide) (by decide), zI0 (by decide) (by decide)⟩⟩
  · rw [e k hk]
    exact xR_start
  · rw [e k hk]
    exact ⟨fr_st1, fr_ct1, xR_start⟩
theorem fr_undo : g_undo2 zZ0 = (-100005) ∧ h_undo2 zZ0 = zZ0 := by
  have e : nI (zc (zZ0 6 0 1)) = 0 := rfl
  unfold g_undo2 g_restore2 h_undo2 h_restore2
  rw [if_pos e, if_pos e]
  exact ⟨rfl, rfl⟩
theorem ff_l0 (n i : Nat) (X : zM) : h_X4_findFault_lp n (nI 0) i X = X ∧ g_X4_findFault_lp n (nI 0) i X = X 1 1 := by
  cases n with
  | zero =>
    simp only [h_X4_findFault_lp, g_X4_findFault_lp]
    rw [if_pos (show nI 0 = 0 from rfl), if_pos (show nI 0 = 0 from rfl)]
    exact ⟨rfl, rfl⟩
  | succ n =>
    simp only [h_X4_findFault_lp, g_X4_findFault_lp]
    rw [if_pos (show nI 0 = 0 from rfl), if_pos (show nI 0 = 0 from rfl)]
    exact ⟨rfl, rfl⟩
theorem fr_fault : g_X6_fault zZ0 = 0 ∧ h_X6_fault zZ0 = zZ0 := by
  have e6 : zZ0 6 = zX0 := rfl
  have e1 : zu zX0 1 1 (nI 0) = zX0 := zu_self zX0 1 1
  have e2 : zu zX0 1 2 (nI 0) = zX0 := zu_self zX0 1 2
  have c : nI (zc (zX0 1 0)) ≤ nI (zc (zX0 1 1)) := by decide
  have g : g_X4_readInstruction zX0 = nI 0 := by
    unfold g_X4_readInstruction
    rw [if_pos c]
  have h : h_X4_readInstruction zX0 = zX0 := by
    unfold h_X4_readInstruction
    rw [if_pos c]
  unfold g_X6_fault h_X6_fault g_X4_findFault h_X4_findFault
  rw [e6, e1, e2, g, h, (ff_l0 100 0 zX0).1, (ff_l0 100 0 zX0).2]
  exact ⟨rfl, zfoc rfl⟩
theorem fr_halt : ¬ g_X3_areAllHalted zM0 = 0 := by
  rcases ah_all zM0 with ⟨h, -⟩ | ⟨-, t, ht, h⟩
  · rw [h]
    decide
  · exact absurd rfl h
theorem fr_run : g_run2 zZ0 (nI 5) = 0 ∧ h_run2 zZ0 (nI 5) = va_up (h_remember2 zZ0) 0 zM0 := by
  obtain ⟨r1, r2⟩ := @rn_g2 zZ0 5 (by decide) (by decide)
  have nb : nbp zM0 := fun p hp => rfl
  have e0 : zZ0 0 = zM0 := rfl
  rw [r1, r2, e0]
  unfold g_X3_runToBreakpoint h_X3_runToBreakpoint
  rw [(rn_lp 5 5 0 zM0 rfl nb).1, (rn_lp 5 5 0 zM0 rfl nb).2, (rn_stop fr_halt).1, (rn_stop fr_halt).2]
  exact ⟨rfl, rfl⟩
theorem fr_x : zu (zu (zu (zu zX0 0 0 (nI 1)) 0 1 (nI 1)) 0 0 (nI 0)) 0 1 (nI 0) = zX0 := by
  funext c
  by_cases e : c = 0
  · subst e
    funext i
    by_cases e1 : i = 1
    · subst e1
      rw [zu_s]
      rfl
    · rw [zu_i _ _ _ e1]
      by_cases e0 : i = 0
      · subst e0
        rw [zu_s]
        rfl
      · rw [zu_i _ _ _ e0, zu_i _ _ _ e1, zu_i _ _ _ e0]
  · rw [zu_c _ _ _ e, zu_c _ _ _ e, zu_c _ _ _ e, zu_c _ _ _ e]
theorem fr_back : g_undo2 (va_up (h_remember2 zZ0) 0 zM0) = 0 ∧ h_undo2 (va_up (h_remember2 zZ0) 0 zM0) = zZ0 := by
  have hn : zIn (zZ0 6 0 0) 4 := zI0 (by decide) (by decide)
  have hC : zIn (zZ0 6 0 1) 5 := zI0 (by decide) (by decide)
  obtain ⟨r1, r2, r3, r4⟩ := rem_f (M' := zM0) hn hC
  have e0 : zc (zZ0 6 0 0) = 0 := rfl
  have e1 : zc (zZ0 6 0 1) = 0 := rfl
  rw [e0] at r1 r3 r4
  rw [e1, if_pos (by decide)] at r2
  have hW : ∀ k, k ≠ 6 → (va_up (h_remember2 zZ0) 0 zM0) k = zZ0 k := by
    intro k hk
    by_cases k0 : k = 0
    · rw [k0, va_up_self]
      rfl
    · rw [va_up_ne _ _ k0]
      unfold h_remember2
      rw [va_up_ne _ _ hk]
      by_cases k2 : k = 2 + zc (zZ0 6 0 0)
      · rw [k2, va_up_self]
        rfl
      · rw [va_up_ne _ _ k2]
  have h6 : (va_up (h_remember2 zZ0) 0 zM0) 6 = zu (zu zX0 0 0 (nI 1)) 0 1 (nI 1) := by
    rw [va_up_ne _ _ (by decide)]
    unfold h_remember2
    rw [va_up_self, e0, e1, if_neg (by decide)]
    rfl
  generalize va_up (h_remember2 zZ0) 0 zM0 = W at *
  have hnW : zIn (W 6 0 0) 4 := by
    rw [r1]
    exact zIn_nI (by decide) (by decide)
  obtain ⟨u1, -, -, -, -⟩ := und_f (c := 0) hnW (by decide) r2
  refine ⟨u1, ?_⟩
  have zW0 : zc (W 6 0 0) = 1 := by
    rw [r1]
    rfl
  have zW1 : zc (W 6 0 1) = 1 := by
    rw [r2]
    rfl
  have ne : ¬ nI (zc (W 6 0 1)) = 0 := by
    rw [zW1]
    decide
  unfold h_undo2 h_restore2
  rw [if_neg ne, zW0, zW1, h6, show nI ((1 + 4 - 1) % 4) = nI 0 from rfl, show nI (1 - 1) = nI 0 from rfl, fr_x]
  funext k
  by_cases k0 : k = 0
  · rw [k0, va_up_self, va_up_ne _ _ (by decide), hW _ (by decide)]
    rfl
  · rw [va_up_ne _ _ k0]
    by_cases k6 : k = 6
    · rw [k6, va_up_self]
      rfl
    · rw [va_up_ne _ _ k6]
      exact hW k k6
theorem tz_t {Z : Nat → zM} {T T2 : zM} : va_up (va_up Z 1 T) 1 T2 = va_up Z 1 T2 := by
  funext k
  by_cases e : k = 1
  · rw [e, va_up_self, va_up_self]
  · rw [va_up_ne _ _ e, va_up_ne _ _ e, va_up_ne _ _ e]
/-- breakpoints taken away one by one -/
theorem bk_s {B : Nat} {Z : Nat → zM} (h : IVp B Z) {k : Nat} (hk : k < 48) (h0 : ∀ p, p < k → Z 0 12 p = 0) : ∀ p, p < k + 1 → (h_setBreakpoint2 Z (nI k) (nI 0)) 0 12 p = 0 := by
  intro p hp
  rw [(cb_all h hk).2]
  by_cases e : p = k
  · rw [e, zu_s]
    rfl
  · rw [zu_i _ _ _ e]
    exact h0 p (by omega)
/-- a run at once, and in two parts -/
theorem two_runs {Z : Nat → zM} (h0 : ∀ p, p < 48 → Z 0 12 p = 0) {f t : Nat} (hf : 1 ≤ f) (hf2 : f < 101) (ht : 1 ≤ t) (ht2 : t < 101) : g_run2 Z (nI (f + t)) = g_run2 Z (nI f) + g_run2 (h_run2 Z (nI f)) (nI t) ∧ (h_run2 Z (nI (f + t))) 0 = (h_run2 (h_run2 Z (nI f)) (nI t)) 0 := by
  obtain ⟨a1, a2⟩ := @rn_g2 Z (f + t) (by omega) (by omega)
  obtain ⟨b1, b2⟩ := @rn_g2 Z f hf (by omega)
  obtain ⟨c1, c2⟩ := @rn_g2 (h_run2 Z (nI f)) t ht (by omega)
  have e : (h_run2 Z (nI f)) 0 = h_X3_runToBreakpoint f (Z 0) := by
    rw [b2, va_up_self]
  obtain ⟨k1, k2⟩ := rn_two (M := Z 0) h0 f t
  rw [a1, b1, c1, a2, c2, va_up_self, va_up_self, e]
  exact ⟨k2, k1⟩
