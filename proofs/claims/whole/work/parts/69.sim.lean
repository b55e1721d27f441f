/-! the class's machine M against the reference's row N -/
def sh (x : Int32) : Prop := x.toInt16.toInt32 = x
def shOK (N : zM) : Prop := (∀ t r, t < 4 → r < 4 → sh (N (t + 20) r)) ∧ (∀ w, w < 32 → sh (N 13 w))
def oR (op m1 m2 n1 n2 : Int32) : Prop := m1 = (if nI 9 < op then (-100005) else n1) ∧ m2 = (if nI 9 < op then (-100005) else if op = nI 7 then (-100005) else n2)
def sim (M N : zM) : Prop :=
  (∀ c, c ≠ 3 → c ≠ 11 → c ≠ 18 → c ≠ 19 → M c = N c) ∧
  (∀ t, t < 4 → N 0 t = nI 2 → N 3 t = nI (200 + zc (M 3 t))) ∧
  (∀ p, p < 48 → oR (N 10 p) (M 11 (p * 2)) (M 11 (p * 2 + 1)) (N 11 (2 * p)) (N 11 (2 * p + 1))) ∧
  M 18 1 = N 18 1 ∧
  (∀ ago part, ago < zc (N 18 1) → part < 3 → M 19 ((zc (M 18 0) + 15 - ago) % 16 * 3 + part) = N 19 (3 * ago + part))
theorem sim.e {M N : zM} (h : sim M N) {c : Nat} (h3 : c ≠ 3) (h11 : c ≠ 11) (h18 : c ≠ 18) (h19 : c ≠ 19) (i : Nat) : M c i = N c i := by rw [h.1 c h3 h11 h18 h19]
theorem zr_both {M N : zM} {c : Nat} {f : Nat → Int32} {d : Nat} (h : d ≠ c → M d = N d) : zr M c f d = zr N c f d := by
  by_cases e : d = c
  · subst e
    rw [zr_s, zr_s]
  · rw [zr_n _ _ e, zr_n _ _ e]
    exact h e
theorem sim_zr {M N : zM} {c : Nat} {f : Nat → Int32} (h : sim M N) (h0 : c ≠ 0) (h3 : c ≠ 3) (h10 : c ≠ 10) (h11 : c ≠ 11) (h18 : c ≠ 18) (h19 : c ≠ 19) : sim (zr M c f) (zr N c f) := by
  refine ⟨fun d d3 d11 d18 d19 => zr_both (fun _ => h.1 d d3 d11 d18 d19), ?_, ?_, ?_, ?_⟩
  · rw [zr_n N f (Ne.symm h0), zr_n N f (Ne.symm h3), zr_n M f (Ne.symm h3)]
    exact h.2.1
  · rw [zr_n N f (Ne.symm h10), zr_n N f (Ne.symm h11), zr_n M f (Ne.symm h11)]
    exact h.2.2.1
  · rw [zr_n N f (Ne.symm h18), zr_n M f (Ne.symm h18)]
    exact h.2.2.2.1
  · rw [zr_n N f (Ne.symm h18), zr_n M f (Ne.symm h18), zr_n N f (Ne.symm h19), zr_n M f (Ne.symm h19)]
    exact h.2.2.2.2
theorem sim_zu {M N : zM} {c i : Nat} {x : Int32} (h : sim M N) (h0 : c ≠ 0) (h3 : c ≠ 3) (h10 : c ≠ 10) (h11 : c ≠ 11) (h18 : c ≠ 18) (h19 : c ≠ 19) : sim (zu M c i x) (zu N c i x) := by
  unfold zu
  rw [h.1 c h3 h11 h18 h19]
  exact sim_zr h h0 h3 h10 h11 h18 h19
/-- the state of one thread changes, and it does not load -/
theorem sim_0 {M N : zM} {i : Nat} {x : Int32} (h : sim M N) (hx : x ≠ nI 2) : sim (zu M 0 i x) (zu N 0 i x) := by
  refine ⟨fun d d3 d11 d18 d19 => ?_, fun t ht hs => ?_, ?_, ?_, ?_⟩
  · unfold zu
    rw [h.1 0 (by decide) (by decide) (by decide) (by decide)]
    exact zr_both (fun _ => h.1 d d3 d11 d18 d19)
  · rw [zu_c _ _ _ (by decide), zu_c _ _ _ (by decide)]
    by_cases e : t = i
    · subst e
      rw [zu_s] at hs
      exact absurd hs hx
    · rw [zu_i _ _ _ e] at hs
      exact h.2.1 t ht hs
  · rw [zu_c N _ _ (by decide), zu_c N _ _ (by decide), zu_c M _ _ (by decide)]
    exact h.2.2.1
  · rw [zu_c N _ _ (by decide), zu_c M _ _ (by decide)]
    exact h.2.2.2.1
  · rw [zu_c N _ _ (by decide), zu_c M _ _ (by decide), zu_c N _ _ (by decide), zu_c M _ _ (by decide)]
    exact h.2.2.2.2
theorem sh_zu {N : zM} {c i : Nat} {x : Int32} (h : shOK N) (hc : c < 20 ∨ 24 ≤ c) (h13 : c ≠ 13) : shOK (zu N c i x) := by
  refine ⟨fun t r ht hr => ?_, fun w hw => ?_⟩
  · rw [zu_c _ _ _ (by omega)]
    exact h.1 t r ht hr
  · rw [zu_c _ _ _ (Ne.symm h13)]
    exact h.2 w hw
theorem sh_rg {N : zM} {t i : Nat} {x : Int32} (h : shOK N) (hx : sh x) : shOK (zu N (t + 20) i x) := by
  refine ⟨fun t2 r ht hr => ?_, fun w hw => ?_⟩
  · by_cases e : t2 = t
    · subst e
      by_cases e2 : r = i
      · subst e2
        rw [zu_s]
        exact hx
      · rw [zu_i _ _ _ e2]
        exact h.1 t2 r ht hr
    · rw [zu_c _ _ _ (by omega)]
      exact h.1 t2 r ht hr
  · rw [zu_c _ _ _ (by omega)]
    exact h.2 w hw
theorem sh_wd {N : zM} {i : Nat} {x : Int32} (h : shOK N) (hx : sh x) : shOK (zu N 13 i x) := by
  refine ⟨fun t2 r ht hr => ?_, fun w hw => ?_⟩
  · rw [zu_c _ _ _ (by omega)]
    exact h.1 t2 r ht hr
  · by_cases e : w = i
    · subst e
      rw [zu_s]
      exact hx
    · rw [zu_i _ _ _ e]
      exact h.2 w hw
/-! the first two steps of a cycle -/
def q_pl : Nat → Nat → zM → zM
  | 0, i, N => N
  | n + 1, i, N => if (N 0 i) = (nI 2) then if (N 16 0) < (N 4 i) then q_pl n (i + 1) N else q_pl n (i + 1) (zu (hN_X7_puts i (zc (N 2 i)) (N 13 (zc (N 3 i) - 200)) N) 0 i (nI 1)) else q_pl n (i + 1) N
def q_open (N : zM) : zM := if ((g_X7_many (nI 1) N) + (g_X7_many (nI 2) N)) = 0 then hN_X7_prepares_lq 4 (nI 1) 0 N else hN_X7_prepares_lq 4 (nI 0) 0 N
theorem q_prep : ∀ (n i : Nat) (N : zM), hN_X7_prepares_lp n i N = q_open (q_pl n i N) := by
  intro n
  induction n with
  | zero =>
    intro i N
    rfl
  | succ n ih =>
    intro i N
    simp only [hN_X7_prepares_lp, q_pl]
    by_cases c1 : N 0 i = nI 2
    · rw [if_pos c1, if_pos c1]
      by_cases c2 : N 16 0 < N 4 i
      · rw [if_pos c2, if_pos c2]
        exact ih _ _
      · rw [if_neg c2, if_neg c2]
        exact ih _ _
    · rw [if_neg c1, if_neg c1]
      exact ih _ _
theorem sim_fin : ∀ (n i : Nat) (M N : zM), i + n = 4 → sim M N → zOK M → shOK N → sim (h_X3_finishLoads_lp n i M) (q_pl n i N) ∧ shOK (q_pl n i N) := by
  intro n
  induction n with
  | zero =>
    intro i M N hn h hM hs
    exact ⟨h, hs⟩
  | succ n ih =>
    intro i M N hn h hM hs
    have e0 := h.e (c := 0) (by decide) (by decide) (by decide) (by decide) i
    have e16 := h.e (c := 16) (by decide) (by decide) (by decide) (by decide) 0
    have e4 := h.e (c := 4) (by decide) (by decide) (by decide) (by decide) i
    have e2 := h.e (c := 2) (by decide) (by decide) (by decide) (by decide) i
    simp only [h_X3_finishLoads_lp, q_pl, g_X0_hasLoadDue, e0, e16, e4]
    by_cases c1 : N 0 i = nI 2
    · rw [if_pos c1, if_pos c1]
      by_cases c2 : N 16 0 < N 4 i
      · rw [if_pos c2, if_pos c2, if_pos (by decide)]
        exact ih _ _ _ (by omega) h hM hs
      · rw [if_neg c2, if_neg c2, if_neg (by decide)]
        have k3 := h.2.1 i (by omega) c1
        have m3 := (hM.2.1 i (by omega)).1
        have k4 : zc (N 3 i) - 200 = zc (M 3 i) := by
          rw [k3, zc_nI (by omega)]
          omega
        have k5 : M 13 (zc (M 3 i)) = N 13 (zc (M 3 i)) := h.e (by decide) (by decide) (by decide) (by decide) _
        have k6 : sh (N 13 (zc (M 3 i))) := hs.2 _ m3
        unfold hN_X7_puts
        rw [k4, k5, e2, show (N 13 (zc (M 3 i))).toInt16.toInt32 = N 13 (zc (M 3 i)) from k6]
        refine ih _ _ _ (by omega) (sim_0 (sim_zu h (by omega) (by omega) (by omega) (by omega) (by omega) (by omega)) (by decide)) ?_ (sh_zu (sh_rg hs k6) (by omega) (by decide))
        exact zOK_u (by omega) (by omega) (by omega) (zOK_u (by omega) (by omega) (by omega) hM)
    · rw [if_neg c1, if_neg c1, if_pos (by decide)]
      exact ih _ _ _ (by omega) h hM hs
