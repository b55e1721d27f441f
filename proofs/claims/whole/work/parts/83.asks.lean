/-! the asking methods answer alike -/
section AS
variable {Z : Nat → zM} {N : zM} {B : Nat}
theorem as_state (h : sB B (Z 0) N) (thread : Int32) : g_X6_state Z thread = g_X7_state thread N := by
  unfold g_X6_state g_X7_state g_X7_ofThread
  show (if g_X7_isThread thread = 0 then (-100001) else (Z 0) 0 (zc thread)) = _
  by_cases q : g_X7_isThread thread = 0
  · rw [if_pos q, if_pos q]
  · have bt : zIn thread 4 := z_isThread q
    rw [if_neg q, if_neg q, zen_of (zf_t0 bt.1)]
    exact h.1.e (by decide) (by decide) (by decide) (by decide) _
theorem as_programCounter (h : sB B (Z 0) N) (thread : Int32) : g_X6_programCounter Z thread = g_X7_programCounter thread N := by
  unfold g_X6_programCounter g_X7_programCounter g_X7_ofThread
  show (if g_X7_isThread thread = 0 then (-100001) else (Z 0) 1 (zc thread)) = _
  by_cases q : g_X7_isThread thread = 0
  · rw [if_pos q, if_pos q]
  · have bt : zIn thread 4 := z_isThread q
    rw [if_neg q, if_neg q, zen_of (zf_t1 bt.1)]
    exact h.1.e (by decide) (by decide) (by decide) (by decide) _
theorem as_executed (h : sB B (Z 0) N) (thread : Int32) : g_X6_executed Z thread = g_X7_executed thread N := by
  unfold g_X6_executed g_X7_executed g_X7_ofThread
  show (if g_X7_isThread thread = 0 then (-100001) else (Z 0) 6 (zc thread)) = _
  by_cases q : g_X7_isThread thread = 0
  · rw [if_pos q, if_pos q]
  · have bt : zIn thread 4 := z_isThread q
    rw [if_neg q, if_neg q, zen_of (zf_t12 bt.1)]
    exact h.1.e (by decide) (by decide) (by decide) (by decide) _
theorem as_lent (h : sB B (Z 0) N) (thread : Int32) : g_X6_lent Z thread = g_X7_lent thread N := by
  unfold g_X6_lent g_X7_lent g_X7_ofThread
  show (if g_X7_isThread thread = 0 then (-100001) else (Z 0) 7 (zc thread)) = _
  by_cases q : g_X7_isThread thread = 0
  · rw [if_pos q, if_pos q]
  · have bt : zIn thread 4 := z_isThread q
    rw [if_neg q, if_neg q, zen_of (zf_t13 bt.1)]
    exact h.1.e (by decide) (by decide) (by decide) (by decide) _
theorem as_starved (h : sB B (Z 0) N) (thread : Int32) : g_X6_starved Z thread = g_X7_starved thread N := by
  unfold g_X6_starved g_X7_starved g_X7_ofThread
  show (if g_X7_isThread thread = 0 then (-100001) else (Z 0) 9 (zc thread)) = _
  by_cases q : g_X7_isThread thread = 0
  · rw [if_pos q, if_pos q]
  · have bt : zIn thread 4 := z_isThread q
    rw [if_neg q, if_neg q, zen_of (zf_t11 bt.1)]
    exact h.1.e (by decide) (by decide) (by decide) (by decide) _
theorem as_word (h : sB B (Z 0) N) (word : Int32) : g_X6_word Z word = g_X7_word word N := by
  unfold g_X6_word g_X7_word
  rw [h.1.e (c := 13) (by decide) (by decide) (by decide) (by decide) _]
  rfl
theorem as_operation (h : sB B (Z 0) N) (place : Int32) : g_X6_operation Z place = g_X7_operation place N := by
  unfold g_X6_operation g_X7_operation
  rw [h.1.e (c := 10) (by decide) (by decide) (by decide) (by decide) _]
  rfl
theorem as_slot (h : sB B (Z 0) N) (slot : Int32) : g_X6_slot Z slot = g_X7_slot slot N := by
  unfold g_X6_slot g_X7_slot
  rw [h.1.e (c := 14) (by decide) (by decide) (by decide) (by decide) _]
  rfl
theorem as_setting (h : sB B (Z 0) N) (setting : Int32) : g_X6_setting Z setting = g_X7_setting setting N := by
  unfold g_X6_setting g_X7_setting
  rw [h.1.e (c := 15) (by decide) (by decide) (by decide) (by decide) _]
  rfl
theorem as_breakpoint (h : sB B (Z 0) N) (place : Int32) : g_X6_breakpoint Z place = g_X7_breakpoint place N := by
  unfold g_X6_breakpoint g_X7_breakpoint
  rw [h.1.e (c := 12) (by decide) (by decide) (by decide) (by decide) _]
  rfl
theorem as_register (h : sB B (Z 0) N) (thread register : Int32) : g_X6_register Z thread register = g_X7_register thread register N := by
  unfold g_X6_register g_X7_register g_X7_register0
  by_cases q : g_X7_isThread thread = 0
  · rw [if_pos q, if_pos (show g_X6_isThread thread = 0 from q)]
  · rw [if_neg q, if_neg (show ¬ g_X6_isThread thread = 0 from q)]
    have bt : zIn thread 4 := z_isThread q
    have b1 := bt.1
    rw [h.1.e (c := zc thread + 20) (by omega) (by omega) (by omega) (by omega) _]
    rfl
theorem as_cycle (h : sB B (Z 0) N) : g_X6_cycle Z = g_X7_cycle N := h.1.e (by decide) (by decide) (by decide) (by decide) _
theorem as_idle (h : sB B (Z 0) N) : g_X6_idle Z = g_X7_idle N := h.1.e (by decide) (by decide) (by decide) (by decide) _
theorem as_use (h : sB B (Z 0) N) : g_X6_use Z = g_X7_use N := by
  unfold g_X6_use g_X7_use
  rw [h.1.e (c := 16) (by decide) (by decide) (by decide) (by decide) _, h.1.e (c := 17) (by decide) (by decide) (by decide) (by decide) _]
theorem as_nextThread (h : sB B (Z 0) N) : g_X6_nextThread Z = g_X7_nextThread N := sB_next h
theorem as_trace (h : sB B (Z 0) N) (ago part : Int32) : g_X6_trace Z ago part = g_X7_trace ago part N := by
  unfold g_X6_trace g_X7_trace g_X5_lookUp
  by_cases q : ago < 0
  · rw [if_pos q, if_pos q]
  · rw [if_neg q, if_neg q]
    by_cases q2 : g_X7_in part (nI 0) (nI 2) = 0
    · rw [if_pos q2, if_pos (show g_X6_isWithin part (nI 0) (nI 2) = 0 from q2)]
    · rw [if_neg q2, if_neg (show ¬ g_X6_isWithin part (nI 0) (nI 2) = 0 from q2)]
      have bq : zIn part 3 := z_within (n := 2) (by decide) q2
      have ba := z_nn q
      have e18 := h.1.2.2.2.1
      have b18 := h.2.1.2.2.2.1
      have n18 := h.2.1.2.2.1.1
      rw [e18] at b18 ⊢
      by_cases c : zc ago < zc (N 18 1)
      · rw [if_pos (nI_lt c (by omega)), if_neg (nI_ge c (by omega))]
        have k := h.1.2.2.2.2 (zc ago) (zc part) c bq.1
        rw [show zc ((Z 0) 18 0) + 16 - 1 - zc ago = zc ((Z 0) 18 0) + 15 - zc ago by omega]
        exact k
      · have b3 := ba.1
        rw [if_neg (nI_nlt (by omega) b3), if_pos (nI_le (by omega) b3)]
theorem as_operand (h : sB B (Z 0) N) (place operand : Int32) : g_X6_operand Z place operand = g_X7_operand place operand N := by
  unfold g_X6_operand g_X7_operand
  by_cases q : g_X7_isPlace place = 0
  · rw [if_pos q, if_pos (show g_X6_isPlace place = 0 from q)]
  · rw [if_neg q, if_neg (show ¬ g_X6_isPlace place = 0 from q)]
    by_cases q2 : g_X7_in operand (nI 0) (nI 1) = 0
    · rw [if_pos q2, if_pos (show g_X6_isWithin operand (nI 0) (nI 1) = 0 from q2)]
    · rw [if_neg q2, if_neg (show ¬ g_X6_isWithin operand (nI 0) (nI 1) = 0 from q2)]
      have bp : zIn place 48 := z_isPlace q
      have bo : zIn operand 2 := z_within (n := 1) (by decide) q2
      have ho := h.1.2.2.1 (zc place) bp.1
      have hop := (h.2.2.2.2.2.2.2.2.1 (zc place) bp.1).2.2.2.2.2
      have o1 := bo.1
      have o2 := bo.2
      generalize zc operand = j at o1 o2
      subst o2
      have k1 := hop.1
      have k2 := hop.2
      have z1 : zen N (56 + (3 * (zc place)) + 1 + 0) = N 11 (2 * zc place) := zen_of (zf_o1 bp.1)
      have z2 : zen N (56 + (3 * (zc place)) + 1 + 1) = N 11 (2 * zc place + 1) := zen_of (zf_o2 bp.1)
      generalize zc (N 10 (zc place)) = k at k1 k2
      by_cases c : k ≤ 9
      · have c1 : N 10 (zc place) ≤ nI 9 := by
          rw [k2]
          exact nI_le c (by decide)
        have c2 : ¬ nI 9 < N 10 (zc place) := by
          rw [k2]
          exact nI_nlt c (by decide)
        rw [if_pos c1]
        match j, o1 with
        | 0, _ =>
          have e : (Z 0) 11 (zc place * 2 + 0) = N 11 (2 * zc place) := ho.1.trans (if_neg c2)
          rw [e]
          by_cases c7 : N 10 (zc place) = nI 7
          · rw [if_pos c7, if_neg (show ¬ nI 1 ≤ nI 0 by decide)]
            exact z1.symm
          · rw [if_neg c7, if_neg (show ¬ nI 2 ≤ nI 0 by decide)]
            exact z1.symm
        | 1, _ =>
          have e := ho.2.trans (if_neg c2)
          rw [e]
          by_cases c7 : N 10 (zc place) = nI 7
          · rw [if_pos c7, if_pos c7, if_pos (show nI 1 ≤ nI 1 by decide)]
          · rw [if_neg c7, if_neg c7, if_neg (show ¬ nI 2 ≤ nI 1 by decide)]
            exact z2.symm
      · have c1 : ¬ N 10 (zc place) ≤ nI 9 := by
          rw [k2]
          exact nI_ge (by omega) (by omega)
        have c2 : nI 9 < N 10 (zc place) := by
          rw [k2]
          exact nI_lt (by omega) (by omega)
        rw [if_neg c1]
        match j, o1 with
        | 0, _ =>
          have e : (Z 0) 11 (zc place * 2 + 0) = -100005 := ho.1.trans (if_pos c2)
          rw [e]
          first | rfl | rw [if_pos (show nI 0 ≤ nI 0 by decide)]
        | 1, _ =>
          have e := ho.2.trans (if_pos c2)
          rw [e]
          first | rfl | rw [if_pos (show nI 0 ≤ nI 1 by decide)]
end AS
