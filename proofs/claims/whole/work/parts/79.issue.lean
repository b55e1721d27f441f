/-! a whole cycle -/
theorem q_cs1_c {i : Nat} {b : Bool} {N : zM} {c : Nat} (h8 : c ≠ 8) (h9 : c ≠ 9) : (q_cs1 i b N) c = N c := by
  unfold q_cs1
  exact z_ite (P := fun Y : zM => Y c = N c) (fun _ => (zu_c _ _ _ h9).trans (zu_c _ _ _ h8)) (fun _ => (zu_c _ _ _ h9).trans (zu_c _ _ _ h8))
theorem q_cs_c (iss : Int32) : ∀ (n i : Nat) (N : zM) {c : Nat}, c ≠ 8 → c ≠ 9 → (q_cs iss n i N) c = N c := by
  intro n
  induction n with
  | zero => exact fun _ _ _ _ _ => rfl
  | succ n ih =>
    intro i N c h8 h9
    simp only [q_cs]
    rw [ih _ _ h8 h9]
    exact z_ite (P := fun Y : zM => Y c = N c) (fun _ => z_ite (P := fun Y : zM => Y c = N c) (fun _ => q_cs1_c h8 h9) (fun _ => q_cs1_c h8 h9)) (fun _ => q_cs1_c h8 h9)
theorem sim_issue {M N : zM} {t : Nat} (h : sim M N) (hM : zOK M) (hs : shOK N) (ht : t < 4) (hc : zIn (N 16 0) (2 ^ 31)) (own : Int32) (ho : own = N 14 (zc (N 16 0) % 8)) : sim (h_X3_noteIssue t M) (if nI t = own then hN_X7_traces (nI t) (N 1 t) (zu (zu (zu N 5 t (N 16 0)) 6 t (((zu N 5 t (N 16 0)) 6 t) + (nI 1))) 7 t (((zu (zu N 5 t (N 16 0)) 6 t (((zu N 5 t (N 16 0)) 6 t) + (nI 1))) 7 t) + (nI 0))) else hN_X7_traces (nI t) (N 1 t) (zu (zu (zu N 5 t (N 16 0)) 6 t (((zu N 5 t (N 16 0)) 6 t) + (nI 1))) 7 t (((zu (zu N 5 t (N 16 0)) 6 t (((zu N 5 t (N 16 0)) 6 t) + (nI 1))) 7 t) + (nI 1)))) := by
  have e16 : M 16 = N 16 := h.1 16 (by decide) (by decide) (by decide) (by decide)
  have e14 : M 14 = N 14 := h.1 14 (by decide) (by decide) (by decide) (by decide)
  have e6 := h.e (c := 6) (by decide) (by decide) (by decide) (by decide) t
  have e7 := h.e (c := 7) (by decide) (by decide) (by decide) (by decide) t
  have e1 := h.e (c := 1) (by decide) (by decide) (by decide) (by decide) t
  have so : g_X3_slotOwner (zu M 6 t ((M 6 t) + (nI 1))) = own := by
    unfold g_X3_slotOwner
    rw [zu_c _ _ _ (by decide), zu_c _ _ _ (by decide), e14, e16, q_tn hc (by decide), ho]
  unfold h_X3_noteIssue
  rw [so]
  have a1 : (zu N 5 t (N 16 0)) 6 t = N 6 t := by rw [zu_c _ _ _ (by decide)]
  have s6 : sim (zu M 6 t ((M 6 t) + (nI 1))) (zu N 6 t ((N 6 t) + (nI 1))) := by
    rw [e6]
    exact sim_zu h (by decide) (by decide) (by decide) (by decide) (by decide) (by decide)
  by_cases c : nI t = own
  · rw [if_pos c, if_pos c]
    have b1 : (zu M 6 t ((M 6 t) + (nI 1))) 16 0 = N 16 0 := by rw [zu_c _ _ _ (by decide), e16]
    have en : (zu (zu (zu N 5 t (N 16 0)) 6 t (((zu N 5 t (N 16 0)) 6 t) + (nI 1))) 7 t (((zu (zu N 5 t (N 16 0)) 6 t (((zu N 5 t (N 16 0)) 6 t) + (nI 1))) 7 t) + (nI 0))) = zu (zu N 6 t ((N 6 t) + (nI 1))) 5 t (N 16 0) := by
      rw [a1, zu_comm N _ _ _ _ (show 5 ≠ 6 by decide), show nI 0 = 0 from rfl, Int32.add_zero, zu_self]
    rw [en]
    have s5 : sim (zu (zu M 6 t ((M 6 t) + (nI 1))) 5 t (N 16 0)) (zu (zu N 6 t ((N 6 t) + (nI 1))) 5 t (N 16 0)) := sim_zu s6 (by decide) (by decide) (by decide) (by decide) (by decide) (by decide)
    rw [b1]
    have b2 : (zu (zu M 6 t ((M 6 t) + (nI 1))) 5 t (N 16 0)) 1 t = N 1 t := by rw [zu_c _ _ _ (by decide), zu_c _ _ _ (by decide), e1]
    rw [b2]
    exact sim_note s5 (zOK_u (by decide) (by decide) (by decide) (zOK_u (by decide) (by decide) (by decide) hM))
  · rw [if_neg c, if_neg c]
    have b7 : (zu M 6 t ((M 6 t) + (nI 1))) 7 t = N 7 t := by rw [zu_c _ _ _ (by decide), e7]
    rw [b7]
    have s7 : sim (zu (zu M 6 t ((M 6 t) + (nI 1))) 7 t ((N 7 t) + (nI 1))) (zu (zu N 6 t ((N 6 t) + (nI 1))) 7 t ((N 7 t) + (nI 1))) := sim_zu s6 (by decide) (by decide) (by decide) (by decide) (by decide) (by decide)
    have b1 : (zu (zu M 6 t ((M 6 t) + (nI 1))) 7 t ((N 7 t) + (nI 1))) 16 0 = N 16 0 := by rw [zu_c _ _ _ (by decide), zu_c _ _ _ (by decide), e16]
    have a2 : (zu (zu N 5 t (N 16 0)) 6 t ((N 6 t) + (nI 1))) 7 t = N 7 t := by rw [zu_c _ _ _ (by decide), zu_c _ _ _ (by decide)]
    have en : (zu (zu (zu N 5 t (N 16 0)) 6 t (((zu N 5 t (N 16 0)) 6 t) + (nI 1))) 7 t (((zu (zu N 5 t (N 16 0)) 6 t (((zu N 5 t (N 16 0)) 6 t) + (nI 1))) 7 t) + (nI 1))) = zu (zu (zu N 6 t ((N 6 t) + (nI 1))) 7 t ((N 7 t) + (nI 1))) 5 t (N 16 0) := by
      rw [a1, a2, zu_comm N _ _ _ _ (show 5 ≠ 6 by decide), zu_comm (zu N 6 t ((N 6 t) + (nI 1))) _ _ _ _ (show 5 ≠ 7 by decide)]
    rw [en, b1]
    have s5 : sim (zu (zu (zu M 6 t ((M 6 t) + (nI 1))) 7 t ((N 7 t) + (nI 1))) 5 t (N 16 0)) (zu (zu (zu N 6 t ((N 6 t) + (nI 1))) 7 t ((N 7 t) + (nI 1))) 5 t (N 16 0)) := sim_zu s7 (by decide) (by decide) (by decide) (by decide) (by decide) (by decide)
    have b2 : (zu (zu (zu M 6 t ((M 6 t) + (nI 1))) 7 t ((N 7 t) + (nI 1))) 5 t (N 16 0)) 1 t = N 1 t := by rw [zu_c _ _ _ (by decide), zu_c _ _ _ (by decide), zu_c _ _ _ (by decide), e1]
    rw [b2]
    exact sim_note s5 (zOK_u (by decide) (by decide) (by decide) (zOK_u (by decide) (by decide) (by decide) (zOK_u (by decide) (by decide) (by decide) hM)))
