theorem n1 : ¬ nI 1 = 0 := by decide
theorem e0 : nI 0 = 0 := rfl
/-! numbers of at most two digits -/
theorem up_v : ∀ d, d < 10 → ∀ c, c < 128 → 48 ≤ c → c ≤ 57 → nI 10 * nI d + nI c - nI 48 = nI (10 * d + (c - 48)) := by decide +kernel
theorem cl_v : ∀ d, d < 10 → ∀ c, c < 128 → 48 ≤ c → c ≤ 57 → nI d * nI 10 + nI (c - 48) = nI (10 * d + (c - 48)) := by decide +kernel
set_option maxRecDepth 100000 in
theorem pl_v : ∀ d, d < 10 → 0 < d → ∀ c, c < 128 → g_X6_isWithin (nI c - nI 48) (nI 0) (if (nI 47 - nI d * nI 10) < nI 9 then (nI 47 - nI d * nI 10) else nI 9) = (if 48 ≤ c ∧ c ≤ 57 ∧ 10 * d + (c - 48) ≤ 47 then nI 1 else nI 0) := by decide +kernel
theorem in_48 : ∀ c, c < 128 → g_X7_in (nI c) (nI 48) (nI 57) = (if 48 ≤ c ∧ c ≤ 57 then nI 1 else nI 0) := by decide +kernel
theorem sh_v : ∀ n, n < 100 → (nI n).toInt16.toInt32 = nI n ∧ (-(nI n)).toInt16.toInt32 = -(nI n) := by decide +kernel
theorem zu_2 (X : zM) (a b : Int32) : zu (zu X 0 2 a) 0 2 b = zu X 0 2 b := zu_zu X 0 2 a b
/-- the reference's reading of a number: what it is, by the characters c and c2 -/
theorem rx_upTo {c p lo m : Nat} {Y X : zM} (h : rl p Y X) (h3 : X 0 3 = nI 0) (k : nx c p Y X) (hlo : lo < 10) (hm : m < 100) :
    (¬ (48 + lo ≤ c ∧ c ≤ 57) ∧ wl p Y (hX_X7_upTo (nI lo) (nI m) X)) ∨
    (48 + lo ≤ c ∧ c ≤ 57 ∧ ∀ c2, nx c2 (p + 1) (zu Y 1 1 (nI (p + 1))) (zu X 0 2 (nI (p + 1))) →
      (0 < c - 48 ∧ 48 ≤ c2 ∧ c2 ≤ 57 ∧ 10 * (c - 48) + (c2 - 48) ≤ m ∧ g_X7_upTo (nI lo) (nI m) X = nI (10 * (c - 48) + (c2 - 48)) ∧ hX_X7_upTo (nI lo) (nI m) X = zu X 0 2 (nI (p + 2))) ∨
      (¬ (0 < c - 48 ∧ 48 ≤ c2 ∧ c2 ≤ 57 ∧ 10 * (c - 48) + (c2 - 48) ≤ m) ∧ g_X7_upTo (nI lo) (nI m) X = nI (c - 48) ∧ hX_X7_upTo (nI lo) (nI m) X = zu X 0 2 (nI (p + 1)))) := by
  obtain ⟨h1, h2⟩ := rl_L h
  obtain ⟨d1, d2⟩ := rx_digit (lo := lo) (hi := 9) h h3 k hlo (by decide)
  by_cases q : 48 + lo ≤ c ∧ c ≤ 48 + 9
  · refine Or.inr ⟨q.1, q.2, fun c2 k2 => ?_⟩
    rw [if_pos q] at d2
    rw [ch_sub c (by have := k.1; omega) (by omega)] at d1
    have pL : p < zc (X 0 1) := by
      rcases k.2.2 with ⟨k4, _⟩ | ⟨_, k4⟩
      · exact k4
      · omega
    have h' := rl_go h (p' := p + 1) (by omega)
    have w3 : (zu X 0 2 (nI (p + 1))) 0 3 = 0 := by
      rw [zu_i _ _ _ (by decide)]
      exact h3
    have zz : zc ((zu X 0 2 (nI (p + 1))) 0 2) = p + 1 := (rl_zp h').2.1
    have b2 := k2.1
    have i48 := in_48 c2 (by omega)
    unfold g_X7_upTo hX_X7_upTo
    rw [d1, d2, if_pos w3, if_pos w3, k2.2.1, i48, zz]
    by_cases q0 : 0 < c - 48
    · have n0 : ¬ nI (c - 48) ≤ 0 := nI_ge (a := 0) q0 (by omega)
      rw [if_neg n0, if_neg n0]
      by_cases q1 : 48 ≤ c2 ∧ c2 ≤ 57
      · rw [if_pos q1, if_neg n1, if_neg n1, up_v (c - 48) (by omega) c2 (by omega) q1.1 q1.2]
        by_cases q2 : 10 * (c - 48) + (c2 - 48) ≤ m
        · rw [if_neg (nI_nlt q2 (by omega)), if_neg (nI_nlt q2 (by omega)), zu_2]
          exact Or.inl ⟨q0, q1.1, q1.2, q2, rfl, rfl⟩
        · rw [if_pos (nI_lt (by omega) (by omega)), if_pos (nI_lt (by omega) (by omega))]
          exact Or.inr ⟨fun q3 => q2 q3.2.2.2, rfl, rfl⟩
      · rw [if_neg q1, if_pos e0, if_pos e0]
        exact Or.inr ⟨fun q3 => q1 ⟨q3.2.1, q3.2.2.1⟩, rfl, rfl⟩
    · have n0 : nI (c - 48) ≤ 0 := nI_le (b := 0) (by omega) (by decide)
      rw [if_pos n0, if_pos n0]
      exact Or.inr ⟨fun q3 => q0 q3.1, rfl, rfl⟩
  · refine Or.inl ⟨q, ?_⟩
    rw [if_neg q] at d2
    have w := wl_mk h
    rw [← d2] at w
    unfold hX_X7_upTo
    rw [if_neg (wl_n w)]
    exact w
theorem nx_59 {c p : Nat} {Y X : zM} (k : nx c p Y X) (hp : p < zc (X 0 1)) (hc : c ≠ 59) : X 1 p ≠ nI 59 := by
  rcases k.2.2 with ⟨_, k5, _, _⟩ | ⟨k4, _⟩
  · rw [k5]
    exact n59 k.1 hc
  · omega
theorem nx_lt {c p : Nat} {Y X : zM} (k : nx c p Y X) (hc : 0 < c) : p < zc (X 0 1) := by
  rcases k.2.2 with ⟨k4, _⟩ | ⟨_, k4⟩
  · exact k4
  · omega
theorem go_1 {X : zM} {v : Int32} : (zu X 0 2 v) 1 = X 1 := zu_c _ _ _ (by decide)
theorem go_L {X : zM} {v : Int32} : (zu X 0 2 v) 0 1 = X 0 1 := zu_i _ _ _ (by decide)
theorem go_3 {X : zM} {v : Int32} : (zu X 0 2 v) 0 3 = X 0 3 := zu_i _ _ _ (by decide)
theorem zu_11 (Y : zM) (a b : Int32) : zu (zu Y 1 1 a) 1 1 b = zu Y 1 1 b := zu_zu Y 1 1 a b
/-- a place -/
theorem vr_place {k o p : Nat} {Y X : zM} (h : rl p Y X) (h3 : X 0 3 = nI 0) (hk : zc (Y 1 2) = k) (ho : Y 1 3 = nI o) (o2 : o < 2) : vr k o p Y X (g_X4_readPlace Y) (h_X4_readPlace Y) (hX_X7_upTo (nI 0) (nI 47) X) (g_X7_upTo (nI 0) (nI 47) X) (fun v => zIn v 48) := by
  obtain ⟨c, kc⟩ := rl_nx h
  obtain ⟨h1, h2⟩ := rl_L h
  have b1 := kc.1
  have d3 := rl_isd (lo := 0) (hi := 9) h kc (by decide) (by decide)
  unfold g_X4_readPlace h_X4_readPlace
  rw [d3]
  rcases rx_upTo (lo := 0) (m := 47) h h3 kc (by decide) (by decide) with ⟨q, w⟩ | ⟨q1, q2, hq⟩
  · rw [if_neg q, if_pos e0, if_pos e0]
    exact Or.inr ⟨rfl, p, w⟩
  · have q : 48 + 0 ≤ c ∧ c ≤ 48 + 9 := ⟨q1, q2⟩
    obtain ⟨t1, t2, t3⟩ := rl_take h kc (by omega)
    have h' := rl_go h (p' := p + 1) (by omega)
    obtain ⟨c2, k2⟩ := rl_nx h'
    have b2 := k2.1
    have lp : ∀ q', p ≤ q' → q' < p + 1 → X 1 q' ≠ nI 59 := by
      intro q' e1 e2
      have e : q' = p := by omega
      subst e
      exact nx_59 kc t1 (by omega)
    rw [if_pos q, if_neg n1, if_neg n1, t2, t3]
    by_cases q0 : 0 < c - 48
    · have n0 : ¬ nI (c - 48) = 0 := nI_ne0 q0 (by omega)
      rw [if_neg n0, if_neg n0]
      have dp : g_X4_isDigit (nI 0) (if (nI 47 - nI (c - 48) * nI 10) < nI 9 then (nI 47 - nI (c - 48) * nI 10) else nI 9) (zu Y 1 1 (nI (p + 1))) = (if 48 ≤ c2 ∧ c2 ≤ 57 ∧ 10 * (c - 48) + (c2 - 48) ≤ 47 then nI 1 else nI 0) := by
        obtain ⟨z1, z2, z3⟩ := rl_zp h'
        unfold g_X4_isDigit
        rw [z1, z3]
        rcases k2.2.2 with ⟨k4, k5, k6, k7⟩ | ⟨k4, k5⟩
        · rw [if_neg (nI_ge k4 (by rw [go_L]; omega)), k6, pl_v (c - 48) (by omega) q0 c2 (by omega)]
          by_cases e : 48 ≤ c2 ∧ c2 ≤ 57 ∧ 10 * (c - 48) + (c2 - 48) ≤ 47
          · rw [if_pos e, if_neg (by decide)]
          · rw [if_neg e, if_pos (by decide)]
        · rw [if_pos (nI_le k4 (by omega)), if_neg (by omega)]
      rw [dp]
      rcases hq c2 k2 with ⟨r0, r1, r2, r3, r4, r5⟩ | ⟨r1, r4, r5⟩
      · obtain ⟨u1, u2, u3⟩ := rl_take h' k2 r1
        rw [go_L] at u1
        have cq : 48 ≤ c2 ∧ c2 ≤ 57 ∧ 10 * (c - 48) + (c2 - 48) ≤ 47 := ⟨r1, r2, r3⟩
        rw [if_pos cq, if_neg n1, if_neg n1, u2, u3, zu_11, r4, r5, cl_v (c - 48) (by omega) c2 (by omega) r1 r2, ko hk ho o2]
        refine Or.inl ⟨rfl, p + 2, by omega, by omega, fun q' e1 e2 => ?_, rfl, rfl, zIn_nI (by omega) (by decide)⟩
        by_cases e : q' < p + 1
        · exact lp q' e1 e
        · have e' : q' = p + 1 := by omega
          subst e'
          have k9 := nx_59 k2 (by rw [go_L]; exact u1) (by omega)
          rw [go_1] at k9
          exact k9
      · have cq : ¬ (48 ≤ c2 ∧ c2 ≤ 57 ∧ 10 * (c - 48) + (c2 - 48) ≤ 47) := fun e => r1 ⟨q0, e.1, e.2.1, e.2.2⟩
        rw [if_neg cq, if_pos e0, if_pos e0, r4, r5, ko hk ho o2]
        exact Or.inl ⟨rfl, p + 1, by omega, by omega, lp, rfl, rfl, zIn_nI (by omega) (by decide)⟩
    · have c48 : c - 48 = 0 := by omega
      rw [c48, if_pos (show nI 0 = 0 from rfl), if_pos (show nI 0 = 0 from rfl)]
      rcases hq c2 k2 with ⟨r0, r1, r2, r3, r4, r5⟩ | ⟨r1, r4, r5⟩
      · exact absurd r0 q0
      · rw [r4, r5, c48, ko hk ho o2]
        exact Or.inl ⟨rfl, p + 1, by omega, by omega, lp, rfl, rfl, zIn_nI (by decide) (by decide)⟩
/-- the class's digits of a number, from the position p on; sg: what is made of it -/
theorem vr_two {k o p p0 lo : Nat} {Y X : zM} (sg : Int32 → Int32) (h : rl p Y X) (h3 : X 0 3 = nI 0) (hk : zc (Y 1 2) = k) (ho : Y 1 3 = nI o) (o2 : o < 2) (hlo : lo < 2) (hp0 : p0 ≤ p) (h0 : ∀ q, p0 ≤ q → q < p → X 1 q ≠ nI 59) (hsg : ∀ n, n < 100 → sh (sg (nI n))) :
    (g_X4_isDigit (nI lo) (nI 9) Y = 0 ∧ wl p Y (hX_X7_upTo (nI lo) (nI 99) X)) ∨
    (¬ g_X4_isDigit (nI lo) (nI 9) Y = 0 ∧ ∃ p', p0 < p' ∧ p' ≤ zc (X 0 1) ∧ (∀ q, p0 ≤ q → q < p' → X 1 q ≠ nI 59) ∧ (if g_X4_takeDigit Y = 0 then h_X4_keepOperand (sg (g_X4_takeDigit Y)) (h_X4_takeDigit Y) else if g_X4_isDigit (nI 0) (nI 9) (h_X4_takeDigit Y) = 0 then h_X4_keepOperand (sg (g_X4_takeDigit Y)) (h_X4_takeDigit Y) else h_X4_keepOperand (sg (g_X4_takeDigit Y * nI 10 + g_X4_takeDigit (h_X4_takeDigit Y))) (h_X4_takeDigit (h_X4_takeDigit Y))) = ky k o p' (sg (g_X7_upTo (nI lo) (nI 99) X)) Y ∧ hX_X7_upTo (nI lo) (nI 99) X = zu X 0 2 (nI p') ∧ sh (sg (g_X7_upTo (nI lo) (nI 99) X))) := by
  obtain ⟨c, kc⟩ := rl_nx h
  obtain ⟨h1, h2⟩ := rl_L h
  have b1 := kc.1
  have d3 := rl_isd (lo := lo) (hi := 9) h kc (by omega) (by decide)
  rw [d3]
  rcases rx_upTo (lo := lo) (m := 99) h h3 kc (by omega) (by decide) with ⟨q, w⟩ | ⟨q1, q2, hq⟩
  · rw [if_neg q]
    exact Or.inl ⟨rfl, w⟩
  · have q : 48 + lo ≤ c ∧ c ≤ 48 + 9 := ⟨q1, q2⟩
    obtain ⟨t1, t2, t3⟩ := rl_take h kc (by omega)
    have h' := rl_go h (p' := p + 1) (by omega)
    obtain ⟨c2, k2⟩ := rl_nx h'
    have b2 := k2.1
    have d4 := rl_isd (lo := 0) (hi := 9) h' k2 (by decide) (by decide)
    have lp : ∀ q', p0 ≤ q' → q' < p + 1 → X 1 q' ≠ nI 59 := by
      intro q' e1 e2
      by_cases e : q' = p
      · subst e
        exact nx_59 kc t1 (by omega)
      · exact h0 q' e1 (by omega)
    rw [if_pos q, t2, t3, d4]
    refine Or.inr ⟨by decide, ?_⟩
    by_cases q0 : 0 < c - 48
    · have n0 : ¬ nI (c - 48) = 0 := nI_ne0 q0 (by omega)
      rw [if_neg n0]
      rcases hq c2 k2 with ⟨r0, r1, r2, r3, r4, r5⟩ | ⟨r1, r4, r5⟩
      · obtain ⟨u1, u2, u3⟩ := rl_take h' k2 r1
        rw [go_L] at u1
        have cq : 48 + 0 ≤ c2 ∧ c2 ≤ 48 + 9 := ⟨by omega, by omega⟩
        rw [if_pos cq, if_neg n1, u2, u3, zu_11, r4, r5, cl_v (c - 48) (by omega) c2 (by omega) r1 r2, ko hk ho o2]
        refine ⟨p + 2, by omega, by omega, fun q' e1 e2 => ?_, rfl, rfl, hsg _ (by omega)⟩
        by_cases e : q' < p + 1
        · exact lp q' e1 e
        · have e' : q' = p + 1 := by omega
          subst e'
          have k9 := nx_59 k2 (by rw [go_L]; exact u1) (by omega)
          rw [go_1] at k9
          exact k9
      · have cq : ¬ (48 + 0 ≤ c2 ∧ c2 ≤ 48 + 9) := fun e => r1 ⟨q0, by omega, by omega, by omega⟩
        rw [if_neg cq, if_pos e0, r4, r5, ko hk ho o2]
        exact ⟨p + 1, by omega, by omega, lp, rfl, rfl, hsg _ (by omega)⟩
    · have c48 : c - 48 = 0 := by omega
      rw [c48, if_pos (show nI 0 = 0 from rfl)]
      rcases hq c2 k2 with ⟨r0, r1, r2, r3, r4, r5⟩ | ⟨r1, r4, r5⟩
      · exact absurd r0 q0
      · rw [r4, r5, c48, ko hk ho o2]
        exact ⟨p + 1, by omega, by omega, lp, rfl, rfl, hsg _ (by decide)⟩
/-- a number -/
theorem vr_number {k o p : Nat} {Y X : zM} (h : rl p Y X) (h3 : X 0 3 = nI 0) (hk : zc (Y 1 2) = k) (ho : Y 1 3 = nI o) (o2 : o < 2) : vr k o p Y X (g_X4_readNumber Y) (h_X4_readNumber Y) (hX_X7_number X) (g_X7_number X) sh := by
  have zp := (rl_zp h).2.1
  unfold g_X4_readNumber h_X4_readNumber hX_X7_number g_X7_number
  rw [if_pos (i0 h3), if_pos (i0 h3), zp]
  rcases vr_sign (c0 := 45) h h3 (by decide) (by decide) with ⟨s1, s2, s3, s4, s5⟩ | ⟨s1, s2, s3, s4⟩
  · have nxt : g_X7_next X = nI 45 := by
      obtain ⟨c, kc⟩ := rl_nx h
      rcases kc.2.2 with ⟨_, k5, _, _⟩ | ⟨k4, _⟩
      · rw [kc.2.1, ← k5]
        exact s3
      · omega
    have h' := rl_go h (p' := p + 1) (by omega)
    have w3 : (zu X 0 2 (nI (p + 1))) 0 3 = nI 0 := by rw [go_3]; exact h3
    have hk' : zc ((zu Y 1 1 (nI (p + 1))) 1 2) = k := by rw [zu_i _ _ _ (by decide)]; exact hk
    have ho' : (zu Y 1 1 (nI (p + 1))) 1 3 = nI o := by rw [zu_i _ _ _ (by decide)]; exact ho
    rw [s1, s4, if_neg (show ¬ nI 1 = 0 by decide), if_neg (show ¬ nI 1 = 0 by decide), if_pos nxt, if_pos nxt]
    rcases vr_two (lo := 1) (p0 := p) (fun v => -v) h' w3 hk' ho' o2 (by decide) (by omega) (fun q e1 e2 => by
      have e : q = p := by omega
      subst e
      rw [go_1, s3]
      decide) (fun n hn => (sh_v n hn).2) with ⟨d, w⟩ | ⟨d, p', e1, e2, e3, e4, e5, e6⟩
    · rw [d, if_pos rfl, if_pos rfl]
      exact Or.inr ⟨rfl, p + 1, w⟩
    · rw [if_neg d, if_neg d, e4, e5, zu_2]
      rw [go_L] at e2
      rw [go_1] at e3
      refine Or.inl ⟨?_, p', e1, e2, e3, ?_, rfl, e6⟩
      · exact z_ite (P := fun x : Int32 => x = nI 1) (fun _ => rfl) (fun _ => z_ite (P := fun x : Int32 => x = nI 1) (fun _ => rfl) (fun _ => rfl))
      · unfold ky
        rw [zu_11]
  · rw [s1, s2, if_pos e0, if_pos e0, if_neg s4, if_neg s4]
    rcases vr_two (lo := 0) (p0 := p) (fun v => v) h h3 hk ho o2 (by decide) (by omega) (fun q e1 e2 => by omega) (fun n hn => (sh_v n hn).1) with ⟨d, w⟩ | ⟨d, p', e1, e2, e3, e4, e5, e6⟩
    · rw [d, if_pos rfl, if_pos rfl]
      exact Or.inr ⟨rfl, p, w⟩
    · rw [if_neg d, if_neg d, e4, e5]
      refine Or.inl ⟨?_, p', e1, e2, e3, rfl, rfl, e6⟩
      exact z_ite (P := fun x : Int32 => x = nI 1) (fun _ => rfl) (fun _ => z_ite (P := fun x : Int32 => x = nI 1) (fun _ => rfl) (fun _ => rfl))
