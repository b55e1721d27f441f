/-! one instruction -/
def q_do (t : Nat) (op f s : Int32) (M : zM) : zM := if (nI 3) < op then if (nI 6) < op then h_X3_steer t op f s M else h_X3_reachMemory t op f s M else h_X3_calculate t op f s M
theorem q_m4 {r : Int32} (h : zIn r 4) : r.toBitVec.toNat % 4 = zc r := by
  rw [q_tn h (by decide)]
  exact Nat.mod_eq_of_lt h.1
theorem q_in3 {q : Int32} (h : zIn q 4) : ¬ g_X7_in q (nI 0) (nI 3) = 0 := by
  have h1 := h.1
  have h2 := h.2
  generalize zc q = j at h1 h2
  subst h2
  exact z4 (P := fun j => ¬ g_X7_in (nI j) (nI 0) (nI 3) = 0) (by decide) (by decide) (by decide) (by decide) h1
theorem sh_cast (x : Int32) : sh x.toInt16.toInt32 := by
  unfold sh
  rw [Int16.toInt16_toInt32]
theorem zu_comm (M : zM) {c d : Nat} (i j : Nat) (x y : Int32) (h : c ≠ d) : zu (zu M c i x) d j y = zu (zu M d j y) c i x := by
  funext e k
  by_cases h1 : e = c
  · subst h1
    rw [zu_c _ _ _ h]
    by_cases h2 : k = i
    · subst h2
      rw [zu_s, zu_s]
    · rw [zu_i _ _ _ h2, zu_i _ _ _ h2, zu_c _ _ _ h]
  · rw [zu_c _ _ _ h1]
    by_cases h3 : e = d
    · subst h3
      by_cases h2 : k = j
      · subst h2
        rw [zu_s, zu_s]
      · rw [zu_i _ _ _ h2, zu_i _ _ _ h2, zu_c _ _ _ h1]
    · rw [zu_c _ _ _ h3, zu_c _ _ _ h3, zu_c _ _ _ h1]
theorem sim_load {M N : zM} {t w : Nat} {r d : Int32} (h : sim M N) (hw : w < 32) : sim (zu (zu (zu (zu M 0 t (nI 2)) 2 t r) 3 t (nI w)) 4 t d) (zu (zu (zu (zu N 0 t (nI 2)) 2 t r) 3 t (nI (200 + w))) 4 t d) := by
  have e0 : M 0 = N 0 := h.1 0 (by decide) (by decide) (by decide) (by decide)
  have k : sim (zu (zu (zu M 0 t (nI 2)) 2 t r) 3 t (nI w)) (zu (zu (zu N 0 t (nI 2)) 2 t r) 3 t (nI (200 + w))) := by
    refine ⟨fun c h3 h11 h18 h19 => ?_, fun t2 ht hs => ?_, ?_, ?_, ?_⟩
    · rw [zu_c _ _ _ h3, zu_c _ _ _ h3]
      have e2 : (zu M 0 t (nI 2)) 2 = (zu N 0 t (nI 2)) 2 := by
        rw [zu_c _ _ _ (by decide), zu_c _ _ _ (by decide)]
        exact h.1 2 (by decide) (by decide) (by decide) (by decide)
      show (zr (zu M 0 t (nI 2)) 2 (upd ((zu M 0 t (nI 2)) 2) t r)) c = (zr (zu N 0 t (nI 2)) 2 (upd ((zu N 0 t (nI 2)) 2) t r)) c
      rw [e2]
      refine zr_both (fun _ => ?_)
      show (zr M 0 (upd (M 0) t (nI 2))) c = (zr N 0 (upd (N 0) t (nI 2))) c
      rw [e0]
      exact zr_both (fun _ => h.1 c h3 h11 h18 h19)
    · by_cases e : t2 = t
      · subst e
        rw [zu_s, zu_s, zc_nI (by omega)]
      · rw [zu_i _ _ _ e, zu_i _ _ _ e, zu_c _ _ _ (by decide), zu_c _ _ _ (by decide), zu_c _ _ _ (by decide), zu_c _ _ _ (by decide)]
        rw [zu_c _ _ _ (by decide), zu_c _ _ _ (by decide), zu_i _ _ _ e] at hs
        exact h.2.1 t2 ht hs
    · rw [show (zu (zu (zu N 0 t (nI 2)) 2 t r) 3 t (nI (200 + w))) 10 = N 10 from by rw [zu_c _ _ _ (by decide), zu_c _ _ _ (by decide), zu_c _ _ _ (by decide)], show (zu (zu (zu N 0 t (nI 2)) 2 t r) 3 t (nI (200 + w))) 11 = N 11 from by rw [zu_c _ _ _ (by decide), zu_c _ _ _ (by decide), zu_c _ _ _ (by decide)], show (zu (zu (zu M 0 t (nI 2)) 2 t r) 3 t (nI w)) 11 = M 11 from by rw [zu_c _ _ _ (by decide), zu_c _ _ _ (by decide), zu_c _ _ _ (by decide)]]
      exact h.2.2.1
    · rw [zu_c _ _ _ (by decide), zu_c _ _ _ (by decide), zu_c _ _ _ (by decide), zu_c _ _ _ (by decide), zu_c _ _ _ (by decide), zu_c _ _ _ (by decide)]
      exact h.2.2.2.1
    · rw [show (zu (zu (zu N 0 t (nI 2)) 2 t r) 3 t (nI (200 + w))) 18 = N 18 from by rw [zu_c _ _ _ (by decide), zu_c _ _ _ (by decide), zu_c _ _ _ (by decide)], show (zu (zu (zu M 0 t (nI 2)) 2 t r) 3 t (nI w)) 18 = M 18 from by rw [zu_c _ _ _ (by decide), zu_c _ _ _ (by decide), zu_c _ _ _ (by decide)], show (zu (zu (zu N 0 t (nI 2)) 2 t r) 3 t (nI (200 + w))) 19 = N 19 from by rw [zu_c _ _ _ (by decide), zu_c _ _ _ (by decide), zu_c _ _ _ (by decide)], show (zu (zu (zu M 0 t (nI 2)) 2 t r) 3 t (nI w)) 19 = M 19 from by rw [zu_c _ _ _ (by decide), zu_c _ _ _ (by decide), zu_c _ _ _ (by decide)]]
      exact h.2.2.2.2
  exact sim_zu k (by decide) (by decide) (by decide) (by decide) (by decide) (by decide)
set_option maxHeartbeats 4000000 in
theorem sim_do0 {M N : zM} {t : Nat} {r q f s : Int32} (h : sim M N) (hs : shOK N) (ht : t < 4) (hp : pOK (nI 0) r q) (ho : oR (nI 0) f s r q) : sim (q_do t (nI 0) f s M) (hN_X7_does t (nI 0) r q N) ∧ shOK (hN_X7_does t (nI 0) r q N) := by
  have ef : f = r := ho.1.trans (if_neg (show ¬ nI 9 < nI 0 by decide))
  have es : s = q := ho.2.trans ((if_neg (show ¬ nI 9 < nI 0 by decide)).trans (if_neg (show ¬ nI 0 = nI 7 by decide)))
  have hr := hp.1 (by simp only [true_or, or_true])
  have hz := hp.2.2.2.2.1 rfl
  subst ef
  subst es
  unfold hN_X7_does
  by_cases c9 : g_X7_in s (nI 0) (nI 3) = 0
  · rw [if_pos c9]
    rw [if_pos (rfl : nI 0 = nI 0)]
    unfold q_do
    rw [if_neg (show ¬ nI 3 < nI 0 by decide)]
    unfold h_X3_calculate
    rw [if_pos (rfl : nI 0 = nI 0), q_m4 hr]
    unfold hN_X7_puts
    rw [hz]
    exact ⟨sim_zu h (by omega) (by omega) (by omega) (by omega) (by omega) (by omega), sh_rg hs hz⟩
  · rw [if_neg c9]
    rw [if_pos (rfl : nI 0 = nI 0)]
    unfold q_do
    rw [if_neg (show ¬ nI 3 < nI 0 by decide)]
    unfold h_X3_calculate
    rw [if_pos (rfl : nI 0 = nI 0), q_m4 hr]
    unfold hN_X7_puts
    rw [hz]
    exact ⟨sim_zu h (by omega) (by omega) (by omega) (by omega) (by omega) (by omega), sh_rg hs hz⟩
set_option maxHeartbeats 4000000 in
theorem sim_do1 {M N : zM} {t : Nat} {r q f s : Int32} (h : sim M N) (hs : shOK N) (ht : t < 4) (hp : pOK (nI 1) r q) (ho : oR (nI 1) f s r q) : sim (q_do t (nI 1) f s M) (hN_X7_does t (nI 1) r q N) ∧ shOK (hN_X7_does t (nI 1) r q N) := by
  have ef : f = r := ho.1.trans (if_neg (show ¬ nI 9 < nI 1 by decide))
  have es : s = q := ho.2.trans ((if_neg (show ¬ nI 9 < nI 1 by decide)).trans (if_neg (show ¬ nI 1 = nI 7 by decide)))
  have hr := hp.1 (by simp only [true_or, or_true])
  have hq := hp.2.1 (by simp only [true_or, or_true])
  subst ef
  subst es
  unfold hN_X7_does
  rw [if_neg (q_in3 hq)]
  rw [if_neg (show ¬ nI 1 = nI 0 by decide), if_pos (rfl : nI 1 = nI 1)]
  unfold q_do
  rw [if_neg (show ¬ nI 3 < nI 1 by decide)]
  unfold h_X3_calculate
  rw [if_neg (show ¬ nI 1 = nI 0 by decide), if_pos (rfl : nI 1 = nI 1), q_m4 hr, q_m4 hq]
  unfold hN_X7_puts g_X7_register0
  rw [h.e (c := t + 20) (by omega) (by omega) (by omega) (by omega) (zc f), h.e (c := t + 20) (by omega) (by omega) (by omega) (by omega) (zc s)]
  exact ⟨sim_zu h (by omega) (by omega) (by omega) (by omega) (by omega) (by omega), sh_rg hs (sh_cast _)⟩
set_option maxHeartbeats 4000000 in
theorem sim_do2 {M N : zM} {t : Nat} {r q f s : Int32} (h : sim M N) (hs : shOK N) (ht : t < 4) (hp : pOK (nI 2) r q) (ho : oR (nI 2) f s r q) : sim (q_do t (nI 2) f s M) (hN_X7_does t (nI 2) r q N) ∧ shOK (hN_X7_does t (nI 2) r q N) := by
  have ef : f = r := ho.1.trans (if_neg (show ¬ nI 9 < nI 2 by decide))
  have es : s = q := ho.2.trans ((if_neg (show ¬ nI 9 < nI 2 by decide)).trans (if_neg (show ¬ nI 2 = nI 7 by decide)))
  have hr := hp.1 (by simp only [true_or, or_true])
  have hq := hp.2.1 (by simp only [true_or, or_true])
  subst ef
  subst es
  unfold hN_X7_does
  rw [if_neg (q_in3 hq)]
  rw [if_neg (show ¬ nI 2 = nI 0 by decide), if_neg (show ¬ nI 2 = nI 1 by decide), if_pos (rfl : nI 2 = nI 2)]
  unfold q_do
  rw [if_neg (show ¬ nI 3 < nI 2 by decide)]
  unfold h_X3_calculate
  rw [if_neg (show ¬ nI 2 = nI 0 by decide), if_neg (show ¬ nI 2 = nI 1 by decide), if_pos (rfl : nI 2 = nI 2), q_m4 hr, q_m4 hq]
  unfold hN_X7_puts g_X7_register0
  rw [h.e (c := t + 20) (by omega) (by omega) (by omega) (by omega) (zc f), h.e (c := t + 20) (by omega) (by omega) (by omega) (by omega) (zc s)]
  exact ⟨sim_zu h (by omega) (by omega) (by omega) (by omega) (by omega) (by omega), sh_rg hs (sh_cast _)⟩
set_option maxHeartbeats 4000000 in
theorem sim_do3 {M N : zM} {t : Nat} {r q f s : Int32} (h : sim M N) (hs : shOK N) (ht : t < 4) (hp : pOK (nI 3) r q) (ho : oR (nI 3) f s r q) : sim (q_do t (nI 3) f s M) (hN_X7_does t (nI 3) r q N) ∧ shOK (hN_X7_does t (nI 3) r q N) := by
  have ef : f = r := ho.1.trans (if_neg (show ¬ nI 9 < nI 3 by decide))
  have es : s = q := ho.2.trans ((if_neg (show ¬ nI 9 < nI 3 by decide)).trans (if_neg (show ¬ nI 3 = nI 7 by decide)))
  have hr := hp.1 (by simp only [true_or, or_true])
  have hq := hp.2.1 (by simp only [true_or, or_true])
  subst ef
  subst es
  unfold hN_X7_does
  rw [if_neg (q_in3 hq)]
  rw [if_neg (show ¬ nI 3 = nI 0 by decide), if_neg (show ¬ nI 3 = nI 1 by decide), if_neg (show ¬ nI 3 = nI 2 by decide), if_pos (rfl : nI 3 = nI 3)]
  unfold q_do
  rw [if_neg (show ¬ nI 3 < nI 3 by decide)]
  unfold h_X3_calculate
  rw [if_neg (show ¬ nI 3 = nI 0 by decide), if_neg (show ¬ nI 3 = nI 1 by decide), if_neg (show ¬ nI 3 = nI 2 by decide), q_m4 hr, q_m4 hq]
  unfold hN_X7_puts g_X7_register0
  rw [h.e (c := t + 20) (by omega) (by omega) (by omega) (by omega) (zc f), h.e (c := t + 20) (by omega) (by omega) (by omega) (by omega) (zc s)]
  exact ⟨sim_zu h (by omega) (by omega) (by omega) (by omega) (by omega) (by omega), sh_rg hs (sh_cast _)⟩
set_option maxHeartbeats 4000000 in
theorem sim_do4 {M N : zM} {t : Nat} {r q f s : Int32} (h : sim M N) (hs : shOK N) (ht : t < 4) (hp : pOK (nI 4) r q) (ho : oR (nI 4) f s r q) : sim (q_do t (nI 4) f s M) (hN_X7_does t (nI 4) r q N) ∧ shOK (hN_X7_does t (nI 4) r q N) := by
  have ef : f = r := ho.1.trans (if_neg (show ¬ nI 9 < nI 4 by decide))
  have es : s = q := ho.2.trans ((if_neg (show ¬ nI 9 < nI 4 by decide)).trans (if_neg (show ¬ nI 4 = nI 7 by decide)))
  have hr := hp.1 (by simp only [true_or, or_true])
  have hq := hp.2.1 (by simp only [true_or, or_true])
  subst ef
  subst es
  unfold hN_X7_does
  rw [if_neg (q_in3 hq)]
  rw [if_neg (show ¬ nI 4 = nI 0 by decide), if_neg (show ¬ nI 4 = nI 1 by decide), if_neg (show ¬ nI 4 = nI 2 by decide), if_neg (show ¬ nI 4 = nI 3 by decide), if_pos (rfl : nI 4 = nI 4)]
  unfold q_do
  rw [if_pos (show nI 3 < nI 4 by decide), if_neg (show ¬ nI 6 < nI 4 by decide)]
  unfold h_X3_reachMemory
  rw [if_pos (rfl : nI 4 = nI 4), q_m4 hr, q_m4 hq]
  unfold h_X0_beginLoad g_X7_register0
  rw [h.e (c := t + 20) (by omega) (by omega) (by omega) (by omega) (zc s), show nI (zc f) = f from hr.2.symm, h.e (c := 16) (by decide) (by decide) (by decide) (by decide) 0, h.e (c := 15) (by decide) (by decide) (by decide) (by decide) 0]
  rw [show (zu (zu (zu N 0 t (nI 2)) 2 t f) 3 t (nI (200 + ((N (t + 20) (zc s)).toBitVec.toNat % 32)))) 16 = N 16 from by rw [zu_c _ _ _ (by decide), zu_c _ _ _ (by decide), zu_c _ _ _ (by decide)], show (zu (zu (zu N 0 t (nI 2)) 2 t f) 3 t (nI (200 + ((N (t + 20) (zc s)).toBitVec.toNat % 32)))) 15 = N 15 from by rw [zu_c _ _ _ (by decide), zu_c _ _ _ (by decide), zu_c _ _ _ (by decide)]]
  exact ⟨sim_load h (Nat.mod_lt _ (by decide)), sh_zu (sh_zu (sh_zu (sh_zu hs (by omega) (by decide)) (by omega) (by decide)) (by omega) (by decide)) (by omega) (by decide)⟩
set_option maxHeartbeats 4000000 in
theorem sim_do5 {M N : zM} {t : Nat} {r q f s : Int32} (h : sim M N) (hs : shOK N) (ht : t < 4) (hp : pOK (nI 5) r q) (ho : oR (nI 5) f s r q) : sim (q_do t (nI 5) f s M) (hN_X7_does t (nI 5) r q N) ∧ shOK (hN_X7_does t (nI 5) r q N) := by
  have ef : f = r := ho.1.trans (if_neg (show ¬ nI 9 < nI 5 by decide))
  have es : s = q := ho.2.trans ((if_neg (show ¬ nI 9 < nI 5 by decide)).trans (if_neg (show ¬ nI 5 = nI 7 by decide)))
  have hr := hp.1 (by simp only [true_or, or_true])
  have hq := hp.2.1 (by simp only [true_or, or_true])
  subst ef
  subst es
  unfold hN_X7_does
  rw [if_neg (q_in3 hq)]
  rw [if_neg (show ¬ nI 5 = nI 0 by decide), if_neg (show ¬ nI 5 = nI 1 by decide), if_neg (show ¬ nI 5 = nI 2 by decide), if_neg (show ¬ nI 5 = nI 3 by decide), if_neg (show ¬ nI 5 = nI 4 by decide), if_pos (rfl : nI 5 = nI 5)]
  unfold q_do
  rw [if_pos (show nI 3 < nI 5 by decide), if_neg (show ¬ nI 6 < nI 5 by decide)]
  unfold h_X3_reachMemory
  rw [if_neg (show ¬ nI 5 = nI 4 by decide), if_neg (show ¬ nI 5 = nI 6 by decide), q_m4 hr, q_m4 hq]
  unfold g_X7_register0
  rw [h.e (c := t + 20) (by omega) (by omega) (by omega) (by omega) (zc s), h.e (c := t + 20) (by omega) (by omega) (by omega) (by omega) (zc f)]
  exact ⟨sim_zu h (by omega) (by omega) (by omega) (by omega) (by omega) (by omega), sh_wd hs (hs.1 t _ ht hr.1)⟩
set_option maxHeartbeats 4000000 in
theorem sim_do6 {M N : zM} {t : Nat} {r q f s : Int32} (h : sim M N) (hs : shOK N) (ht : t < 4) (hp : pOK (nI 6) r q) (ho : oR (nI 6) f s r q) : sim (q_do t (nI 6) f s M) (hN_X7_does t (nI 6) r q N) ∧ shOK (hN_X7_does t (nI 6) r q N) := by
  have ef : f = r := ho.1.trans (if_neg (show ¬ nI 9 < nI 6 by decide))
  have es : s = q := ho.2.trans ((if_neg (show ¬ nI 9 < nI 6 by decide)).trans (if_neg (show ¬ nI 6 = nI 7 by decide)))
  have hr := hp.1 (by simp only [true_or, or_true])
  have hq := hp.2.1 (by simp only [true_or, or_true])
  subst ef
  subst es
  unfold hN_X7_does
  rw [if_neg (q_in3 hq)]
  rw [if_neg (show ¬ nI 6 = nI 0 by decide), if_neg (show ¬ nI 6 = nI 1 by decide), if_neg (show ¬ nI 6 = nI 2 by decide), if_neg (show ¬ nI 6 = nI 3 by decide), if_neg (show ¬ nI 6 = nI 4 by decide), if_neg (show ¬ nI 6 = nI 5 by decide), if_pos (rfl : nI 6 = nI 6)]
  unfold q_do
  rw [if_pos (show nI 3 < nI 6 by decide), if_neg (show ¬ nI 6 < nI 6 by decide)]
  unfold h_X3_reachMemory
  rw [if_neg (show ¬ nI 6 = nI 4 by decide), if_pos (rfl : nI 6 = nI 6), q_m4 hr, q_m4 hq]
  unfold g_X7_register0 hN_X7_puts
  rw [h.e (c := t + 20) (by omega) (by omega) (by omega) (by omega) (zc s), h.e (c := t + 20) (by omega) (by omega) (by omega) (by omega) (zc f), h.e (c := 13) (by decide) (by decide) (by decide) (by decide) ((N (t + 20) (zc s)).toBitVec.toNat % 32)]
  have hw : sh (N 13 ((N (t + 20) (zc s)).toBitVec.toNat % 32)) := hs.2 _ (Nat.mod_lt _ (by decide))
  rw [show (N 13 ((N (t + 20) (zc s)).toBitVec.toNat % 32)).toInt16.toInt32 = N 13 ((N (t + 20) (zc s)).toBitVec.toNat % 32) from hw, zu_comm N _ _ _ _ (show t + 20 ≠ 13 by omega)]
  exact ⟨sim_zu (sim_zu h (by omega) (by omega) (by omega) (by omega) (by omega) (by omega)) (by omega) (by omega) (by omega) (by omega) (by omega) (by omega), sh_rg (sh_wd hs (hs.1 t _ ht hr.1)) hw⟩
set_option maxHeartbeats 4000000 in
theorem sim_do7 {M N : zM} {t : Nat} {r q f s : Int32} (h : sim M N) (hs : shOK N) (ht : t < 4) (hp : pOK (nI 7) r q) (ho : oR (nI 7) f s r q) : sim (q_do t (nI 7) f s M) (hN_X7_does t (nI 7) r q N) ∧ shOK (hN_X7_does t (nI 7) r q N) := by
  have ef : f = r := ho.1.trans (if_neg (show ¬ nI 9 < nI 7 by decide))
  subst ef
  unfold hN_X7_does
  by_cases c9 : g_X7_in q (nI 0) (nI 3) = 0
  · rw [if_pos c9]
    rw [if_neg (show ¬ nI 7 = nI 0 by decide), if_neg (show ¬ nI 7 = nI 1 by decide), if_neg (show ¬ nI 7 = nI 2 by decide), if_neg (show ¬ nI 7 = nI 3 by decide), if_neg (show ¬ nI 7 = nI 4 by decide), if_neg (show ¬ nI 7 = nI 5 by decide), if_neg (show ¬ nI 7 = nI 6 by decide), if_pos (rfl : nI 7 = nI 7)]
    unfold q_do
    rw [if_pos (show nI 3 < nI 7 by decide), if_pos (show nI 6 < nI 7 by decide)]
    unfold h_X3_steer
    rw [if_pos (rfl : nI 7 = nI 7)]
    unfold hN_X7_jumps
    rw [if_neg (show ¬ nI 1 = 0 by decide)]
    exact ⟨sim_zu h (by omega) (by omega) (by omega) (by omega) (by omega) (by omega), sh_zu hs (by omega) (by decide)⟩
  · rw [if_neg c9]
    rw [if_neg (show ¬ nI 7 = nI 0 by decide), if_neg (show ¬ nI 7 = nI 1 by decide), if_neg (show ¬ nI 7 = nI 2 by decide), if_neg (show ¬ nI 7 = nI 3 by decide), if_neg (show ¬ nI 7 = nI 4 by decide), if_neg (show ¬ nI 7 = nI 5 by decide), if_neg (show ¬ nI 7 = nI 6 by decide), if_pos (rfl : nI 7 = nI 7)]
    unfold q_do
    rw [if_pos (show nI 3 < nI 7 by decide), if_pos (show nI 6 < nI 7 by decide)]
    unfold h_X3_steer
    rw [if_pos (rfl : nI 7 = nI 7)]
    unfold hN_X7_jumps
    rw [if_neg (show ¬ nI 1 = 0 by decide)]
    exact ⟨sim_zu h (by omega) (by omega) (by omega) (by omega) (by omega) (by omega), sh_zu hs (by omega) (by decide)⟩
set_option maxHeartbeats 4000000 in
theorem sim_do8 {M N : zM} {t : Nat} {r q f s : Int32} (h : sim M N) (hs : shOK N) (ht : t < 4) (hp : pOK (nI 8) r q) (ho : oR (nI 8) f s r q) : sim (q_do t (nI 8) f s M) (hN_X7_does t (nI 8) r q N) ∧ shOK (hN_X7_does t (nI 8) r q N) := by
  have ef : f = r := ho.1.trans (if_neg (show ¬ nI 9 < nI 8 by decide))
  have es : s = q := ho.2.trans ((if_neg (show ¬ nI 9 < nI 8 by decide)).trans (if_neg (show ¬ nI 8 = nI 7 by decide)))
  have hr := hp.1 (by simp only [true_or, or_true])
  subst ef
  subst es
  unfold hN_X7_does
  by_cases c9 : g_X7_in s (nI 0) (nI 3) = 0
  · rw [if_pos c9]
    rw [if_neg (show ¬ nI 8 = nI 0 by decide), if_neg (show ¬ nI 8 = nI 1 by decide), if_neg (show ¬ nI 8 = nI 2 by decide), if_neg (show ¬ nI 8 = nI 3 by decide), if_neg (show ¬ nI 8 = nI 4 by decide), if_neg (show ¬ nI 8 = nI 5 by decide), if_neg (show ¬ nI 8 = nI 6 by decide), if_neg (show ¬ nI 8 = nI 7 by decide), if_pos (rfl : nI 8 = nI 8)]
    unfold q_do
    rw [if_pos (show nI 3 < nI 8 by decide), if_pos (show nI 6 < nI 8 by decide)]
    unfold h_X3_steer
    rw [if_neg (show ¬ nI 8 = nI 7 by decide), if_pos (rfl : nI 8 = nI 8), q_m4 hr]
    unfold hN_X7_jumps g_X7_register0
    rw [h.e (c := t + 20) (by omega) (by omega) (by omega) (by omega) (zc f), h.e (c := 1) (by decide) (by decide) (by decide) (by decide) t, if_neg (show ¬ nI 1 = 0 by decide), if_pos (show nI 0 = 0 by decide)]
    by_cases cz : N (t + 20) (zc f) = 0
    · rw [if_pos cz, if_pos cz]
      exact ⟨sim_zu h (by omega) (by omega) (by omega) (by omega) (by omega) (by omega), sh_zu hs (by omega) (by decide)⟩
    · rw [if_neg cz, if_neg cz]
      exact ⟨sim_zu h (by omega) (by omega) (by omega) (by omega) (by omega) (by omega), sh_zu hs (by omega) (by decide)⟩
  · rw [if_neg c9]
    rw [if_neg (show ¬ nI 8 = nI 0 by decide), if_neg (show ¬ nI 8 = nI 1 by decide), if_neg (show ¬ nI 8 = nI 2 by decide), if_neg (show ¬ nI 8 = nI 3 by decide), if_neg (show ¬ nI 8 = nI 4 by decide), if_neg (show ¬ nI 8 = nI 5 by decide), if_neg (show ¬ nI 8 = nI 6 by decide), if_neg (show ¬ nI 8 = nI 7 by decide), if_pos (rfl : nI 8 = nI 8)]
    unfold q_do
    rw [if_pos (show nI 3 < nI 8 by decide), if_pos (show nI 6 < nI 8 by decide)]
    unfold h_X3_steer
    rw [if_neg (show ¬ nI 8 = nI 7 by decide), if_pos (rfl : nI 8 = nI 8), q_m4 hr]
    unfold hN_X7_jumps g_X7_register0
    rw [h.e (c := t + 20) (by omega) (by omega) (by omega) (by omega) (zc f), h.e (c := 1) (by decide) (by decide) (by decide) (by decide) t, if_neg (show ¬ nI 1 = 0 by decide), if_pos (show nI 0 = 0 by decide)]
    by_cases cz : N (t + 20) (zc f) = 0
    · rw [if_pos cz, if_pos cz]
      exact ⟨sim_zu h (by omega) (by omega) (by omega) (by omega) (by omega) (by omega), sh_zu hs (by omega) (by decide)⟩
    · rw [if_neg cz, if_neg cz]
      exact ⟨sim_zu h (by omega) (by omega) (by omega) (by omega) (by omega) (by omega), sh_zu hs (by omega) (by decide)⟩
set_option maxHeartbeats 4000000 in
theorem sim_do9 {M N : zM} {t : Nat} {r q f s : Int32} (h : sim M N) (hs : shOK N) (ht : t < 4) (hp : pOK (nI 9) r q) (ho : oR (nI 9) f s r q) : sim (q_do t (nI 9) f s M) (hN_X7_does t (nI 9) r q N) ∧ shOK (hN_X7_does t (nI 9) r q N) := by
  have ef : f = r := ho.1.trans (if_neg (show ¬ nI 9 < nI 9 by decide))
  have es : s = q := ho.2.trans ((if_neg (show ¬ nI 9 < nI 9 by decide)).trans (if_neg (show ¬ nI 9 = nI 7 by decide)))
  have hr := hp.1 (by simp only [true_or, or_true])
  subst ef
  subst es
  unfold hN_X7_does
  by_cases c9 : g_X7_in s (nI 0) (nI 3) = 0
  · rw [if_pos c9]
    rw [if_neg (show ¬ nI 9 = nI 0 by decide), if_neg (show ¬ nI 9 = nI 1 by decide), if_neg (show ¬ nI 9 = nI 2 by decide), if_neg (show ¬ nI 9 = nI 3 by decide), if_neg (show ¬ nI 9 = nI 4 by decide), if_neg (show ¬ nI 9 = nI 5 by decide), if_neg (show ¬ nI 9 = nI 6 by decide), if_neg (show ¬ nI 9 = nI 7 by decide), if_neg (show ¬ nI 9 = nI 8 by decide), if_pos (rfl : nI 9 = nI 9)]
    unfold q_do
    rw [if_pos (show nI 3 < nI 9 by decide), if_pos (show nI 6 < nI 9 by decide)]
    unfold h_X3_steer
    rw [if_neg (show ¬ nI 9 = nI 7 by decide), if_neg (show ¬ nI 9 = nI 8 by decide), if_pos (rfl : nI 9 = nI 9), q_m4 hr]
    unfold hN_X7_jumps g_X7_register0
    rw [h.e (c := t + 20) (by omega) (by omega) (by omega) (by omega) (zc f), h.e (c := 1) (by decide) (by decide) (by decide) (by decide) t, if_neg (show ¬ nI 1 = 0 by decide), if_pos (show nI 0 = 0 by decide)]
    by_cases cz : 0 ≤ N (t + 20) (zc f)
    · rw [if_pos cz, if_pos cz]
      exact ⟨sim_zu h (by omega) (by omega) (by omega) (by omega) (by omega) (by omega), sh_zu hs (by omega) (by decide)⟩
    · rw [if_neg cz, if_neg cz]
      exact ⟨sim_zu h (by omega) (by omega) (by omega) (by omega) (by omega) (by omega), sh_zu hs (by omega) (by decide)⟩
  · rw [if_neg c9]
    rw [if_neg (show ¬ nI 9 = nI 0 by decide), if_neg (show ¬ nI 9 = nI 1 by decide), if_neg (show ¬ nI 9 = nI 2 by decide), if_neg (show ¬ nI 9 = nI 3 by decide), if_neg (show ¬ nI 9 = nI 4 by decide), if_neg (show ¬ nI 9 = nI 5 by decide), if_neg (show ¬ nI 9 = nI 6 by decide), if_neg (show ¬ nI 9 = nI 7 by decide), if_neg (show ¬ nI 9 = nI 8 by decide), if_pos (rfl : nI 9 = nI 9)]
    unfold q_do
    rw [if_pos (show nI 3 < nI 9 by decide), if_pos (show nI 6 < nI 9 by decide)]
    unfold h_X3_steer
    rw [if_neg (show ¬ nI 9 = nI 7 by decide), if_neg (show ¬ nI 9 = nI 8 by decide), if_pos (rfl : nI 9 = nI 9), q_m4 hr]
    unfold hN_X7_jumps g_X7_register0
    rw [h.e (c := t + 20) (by omega) (by omega) (by omega) (by omega) (zc f), h.e (c := 1) (by decide) (by decide) (by decide) (by decide) t, if_neg (show ¬ nI 1 = 0 by decide), if_pos (show nI 0 = 0 by decide)]
    by_cases cz : 0 ≤ N (t + 20) (zc f)
    · rw [if_pos cz, if_pos cz]
      exact ⟨sim_zu h (by omega) (by omega) (by omega) (by omega) (by omega) (by omega), sh_zu hs (by omega) (by decide)⟩
    · rw [if_neg cz, if_neg cz]
      exact ⟨sim_zu h (by omega) (by omega) (by omega) (by omega) (by omega) (by omega), sh_zu hs (by omega) (by decide)⟩
set_option maxHeartbeats 4000000 in
theorem sim_do10 {M N : zM} {t : Nat} {r q f s : Int32} (h : sim M N) (hs : shOK N) (ht : t < 4) (hp : pOK (nI 10) r q) (ho : oR (nI 10) f s r q) : sim (q_do t (nI 10) f s M) (hN_X7_does t (nI 10) r q N) ∧ shOK (hN_X7_does t (nI 10) r q N) := by
  unfold hN_X7_does
  by_cases c9 : g_X7_in q (nI 0) (nI 3) = 0
  · rw [if_pos c9]
    rw [if_neg (show ¬ nI 10 = nI 0 by decide), if_neg (show ¬ nI 10 = nI 1 by decide), if_neg (show ¬ nI 10 = nI 2 by decide), if_neg (show ¬ nI 10 = nI 3 by decide), if_neg (show ¬ nI 10 = nI 4 by decide), if_neg (show ¬ nI 10 = nI 5 by decide), if_neg (show ¬ nI 10 = nI 6 by decide), if_neg (show ¬ nI 10 = nI 7 by decide), if_neg (show ¬ nI 10 = nI 8 by decide), if_neg (show ¬ nI 10 = nI 9 by decide), if_pos (rfl : nI 10 = nI 10)]
    unfold q_do
    rw [if_pos (show nI 3 < nI 10 by decide), if_pos (show nI 6 < nI 10 by decide)]
    unfold h_X3_steer
    rw [if_neg (show ¬ nI 10 = nI 7 by decide), if_neg (show ¬ nI 10 = nI 8 by decide), if_neg (show ¬ nI 10 = nI 9 by decide), if_pos (rfl : nI 10 = nI 10)]
    exact ⟨sim_0 h (by decide), sh_zu hs (by omega) (by decide)⟩
  · rw [if_neg c9]
    rw [if_neg (show ¬ nI 10 = nI 0 by decide), if_neg (show ¬ nI 10 = nI 1 by decide), if_neg (show ¬ nI 10 = nI 2 by decide), if_neg (show ¬ nI 10 = nI 3 by decide), if_neg (show ¬ nI 10 = nI 4 by decide), if_neg (show ¬ nI 10 = nI 5 by decide), if_neg (show ¬ nI 10 = nI 6 by decide), if_neg (show ¬ nI 10 = nI 7 by decide), if_neg (show ¬ nI 10 = nI 8 by decide), if_neg (show ¬ nI 10 = nI 9 by decide), if_pos (rfl : nI 10 = nI 10)]
    unfold q_do
    rw [if_pos (show nI 3 < nI 10 by decide), if_pos (show nI 6 < nI 10 by decide)]
    unfold h_X3_steer
    rw [if_neg (show ¬ nI 10 = nI 7 by decide), if_neg (show ¬ nI 10 = nI 8 by decide), if_neg (show ¬ nI 10 = nI 9 by decide), if_pos (rfl : nI 10 = nI 10)]
    exact ⟨sim_0 h (by decide), sh_zu hs (by omega) (by decide)⟩
set_option maxHeartbeats 4000000 in
theorem sim_do11 {M N : zM} {t : Nat} {r q f s : Int32} (h : sim M N) (hs : shOK N) (ht : t < 4) (hp : pOK (nI 11) r q) (ho : oR (nI 11) f s r q) : sim (q_do t (nI 11) f s M) (hN_X7_does t (nI 11) r q N) ∧ shOK (hN_X7_does t (nI 11) r q N) := by
  unfold hN_X7_does
  by_cases c9 : g_X7_in q (nI 0) (nI 3) = 0
  · rw [if_pos c9]
    rw [if_neg (show ¬ nI 11 = nI 0 by decide), if_neg (show ¬ nI 11 = nI 1 by decide), if_neg (show ¬ nI 11 = nI 2 by decide), if_neg (show ¬ nI 11 = nI 3 by decide), if_neg (show ¬ nI 11 = nI 4 by decide), if_neg (show ¬ nI 11 = nI 5 by decide), if_neg (show ¬ nI 11 = nI 6 by decide), if_neg (show ¬ nI 11 = nI 7 by decide), if_neg (show ¬ nI 11 = nI 8 by decide), if_neg (show ¬ nI 11 = nI 9 by decide), if_neg (show ¬ nI 11 = nI 10 by decide)]
    unfold q_do
    rw [if_pos (show nI 3 < nI 11 by decide), if_pos (show nI 6 < nI 11 by decide)]
    unfold h_X3_steer
    rw [if_neg (show ¬ nI 11 = nI 7 by decide), if_neg (show ¬ nI 11 = nI 8 by decide), if_neg (show ¬ nI 11 = nI 9 by decide), if_neg (show ¬ nI 11 = nI 10 by decide)]
    exact ⟨sim_0 h (by decide), sh_zu hs (by omega) (by decide)⟩
  · rw [if_neg c9]
    rw [if_neg (show ¬ nI 11 = nI 0 by decide), if_neg (show ¬ nI 11 = nI 1 by decide), if_neg (show ¬ nI 11 = nI 2 by decide), if_neg (show ¬ nI 11 = nI 3 by decide), if_neg (show ¬ nI 11 = nI 4 by decide), if_neg (show ¬ nI 11 = nI 5 by decide), if_neg (show ¬ nI 11 = nI 6 by decide), if_neg (show ¬ nI 11 = nI 7 by decide), if_neg (show ¬ nI 11 = nI 8 by decide), if_neg (show ¬ nI 11 = nI 9 by decide), if_neg (show ¬ nI 11 = nI 10 by decide)]
    unfold q_do
    rw [if_pos (show nI 3 < nI 11 by decide), if_pos (show nI 6 < nI 11 by decide)]
    unfold h_X3_steer
    rw [if_neg (show ¬ nI 11 = nI 7 by decide), if_neg (show ¬ nI 11 = nI 8 by decide), if_neg (show ¬ nI 11 = nI 9 by decide), if_neg (show ¬ nI 11 = nI 10 by decide)]
    exact ⟨sim_0 h (by decide), sh_zu hs (by omega) (by decide)⟩
theorem sim_do {M N : zM} {t : Nat} {op r q f s : Int32} (h : sim M N) (hs : shOK N) (ht : t < 4) (hp : pOK op r q) (ho : oR op f s r q) : sim (q_do t op f s M) (hN_X7_does t op r q N) ∧ shOK (hN_X7_does t op r q N) := by
  have h1 := hp.2.2.2.2.2.1
  have h2 := hp.2.2.2.2.2.2
  generalize zc op = j at h1 h2
  subst h2
  match j, h1 with
  | 0, _ => exact sim_do0 h hs ht hp ho
  | 1, _ => exact sim_do1 h hs ht hp ho
  | 2, _ => exact sim_do2 h hs ht hp ho
  | 3, _ => exact sim_do3 h hs ht hp ho
  | 4, _ => exact sim_do4 h hs ht hp ho
  | 5, _ => exact sim_do5 h hs ht hp ho
  | 6, _ => exact sim_do6 h hs ht hp ho
  | 7, _ => exact sim_do7 h hs ht hp ho
  | 8, _ => exact sim_do8 h hs ht hp ho
  | 9, _ => exact sim_do9 h hs ht hp ho
  | 10, _ => exact sim_do10 h hs ht hp ho
  | 11, _ => exact sim_do11 h hs ht hp ho
  | n + 12, h => exact absurd h (by omega)
