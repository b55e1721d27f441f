/-! the machine's state: what cycles and actions keep -/
def shq (v : Int32) : Prop := -32768 ≤ v.toInt ∧ v.toInt ≤ 32767
def pgOK (op a b : Int32) : Prop := zIn op 12 ∧ (a = (-100005) ↔ 9 < zc op) ∧ (b = (-100005) ↔ (9 < zc op ∨ zc op = 7)) ∧ (zc op = 0 → shq b) ∧ (zc op = 7 → zIn a 49) ∧ (zc op = 8 ∨ zc op = 9 → zIn b 49)
def st1 (M : zM) : Prop := (∀ t, t < 4 → zIn (M 0 t) 4) ∧ (∀ t, t < 4 → zIn (M 1 t) 49) ∧ (∀ t i, t < 4 → i < 4 → shq (M (t + 20) i)) ∧ (∀ w, w < 32 → shq (M 13 w)) ∧ (∀ k, k < 8 → zIn (M 14 k) 4) ∧ (zIn (M 15 0) 21 ∧ zIn (M 15 1) 3) ∧ (∀ p, p < 48 → pgOK (M 10 p) (M 11 (p * 2)) (M 11 (p * 2 + 1))) ∧ (∀ p, p < 48 → zIn (M 12 p) 2) ∧ zOK M
theorem shq_16 (x : Int32) : shq x.toInt16.toInt32 := by
  have h1 := Int16.le_toInt x.toInt16
  have h2 := Int16.toInt_lt x.toInt16
  unfold shq
  rw [Int16.toInt_toInt32]
  omega
theorem shq_nI {n : Nat} (h : n < 32768) : shq (nI n) := by
  unfold shq
  rw [nI_toInt (by omega)]
  omega
theorem st1_of {M N : zM} (h : st1 M) (e : ∀ c, (c < 2 ∨ (10 ≤ c ∧ c < 16) ∨ 20 ≤ c) → N c = M c) (hz : zOK N) : st1 N := by
  obtain ⟨h0, h1, h2, h3, h4, h5, h6, h7, -⟩ := h
  refine ⟨?_, ?_, ?_, ?_, ?_, ?_, ?_, ?_, hz⟩
  · rw [e 0 (by omega)]
    exact h0
  · rw [e 1 (by omega)]
    exact h1
  · intro t i ht hi
    rw [e (t + 20) (by omega)]
    exact h2 t i ht hi
  · rw [e 13 (by omega)]
    exact h3
  · rw [e 14 (by omega)]
    exact h4
  · rw [e 15 (by omega)]
    exact h5
  · rw [e 10 (by omega), e 11 (by omega)]
    exact h6
  · rw [e 12 (by omega)]
    exact h7
theorem st1_u {M : zM} {c i : Nat} {x : Int32} (hc : (4 ≤ c ∧ c < 10) ∨ c = 16 ∨ c = 17 ∨ c = 19) (h : st1 M) : st1 (zu M c i x) :=
  st1_of h (fun d hd => zu_c _ _ _ (by omega)) (zOK_u (by omega) (by omega) (by omega) h.2.2.2.2.2.2.2.2)
theorem st1_2 {M : zM} {i : Nat} {x : Int32} (hx : zIn x 4) (h : st1 M) : st1 (zu M 2 i x) :=
  st1_of h (fun d hd => zu_c _ _ _ (by omega)) (zOK_2 hx h.2.2.2.2.2.2.2.2)
theorem st1_3 {M : zM} {i : Nat} {x : Int32} (hx : zIn x 32) (h : st1 M) : st1 (zu M 3 i x) :=
  st1_of h (fun d hd => zu_c _ _ _ (by omega)) (zOK_3 hx h.2.2.2.2.2.2.2.2)
theorem in_zu {M : zM} {c i : Nat} {x : Int32} {m n : Nat} (hx : zIn x n) (h : ∀ t, t < m → zIn (M c t) n) : ∀ t, t < m → zIn ((zu M c i x) c t) n := by
  intro t ht
  by_cases e : t = i
  · subst e
    rw [zu_s]
    exact hx
  · rw [zu_i _ _ _ e]
    exact h t ht
theorem st1_0 {M : zM} {i : Nat} {x : Int32} (hx : zIn x 4) (h : st1 M) : st1 (zu M 0 i x) := by
  obtain ⟨h0, h1, h2, h3, h4, h5, h6, h7, h8⟩ := h
  refine ⟨in_zu hx h0, ?_, ?_, ?_, ?_, ?_, ?_, ?_, zOK_u (by omega) (by omega) (by omega) h8⟩
  · rw [zu_c _ _ _ (by decide)]
    exact h1
  · intro t i ht hi
    rw [zu_c _ _ _ (by omega)]
    exact h2 t i ht hi
  · rw [zu_c _ _ _ (by decide)]
    exact h3
  · rw [zu_c _ _ _ (by decide)]
    exact h4
  · rw [zu_c _ _ _ (by decide)]
    exact h5
  · rw [zu_c _ _ _ (by decide), zu_c _ _ _ (by decide)]
    exact h6
  · rw [zu_c _ _ _ (by decide)]
    exact h7
theorem st1_1 {M : zM} {i : Nat} {x : Int32} (hx : zIn x 49) (h : st1 M) : st1 (zu M 1 i x) := by
  obtain ⟨h0, h1, h2, h3, h4, h5, h6, h7, h8⟩ := h
  refine ⟨?_, in_zu hx h1, ?_, ?_, ?_, ?_, ?_, ?_, zOK_u (by omega) (by omega) (by omega) h8⟩
  · rw [zu_c _ _ _ (by decide)]
    exact h0
  · intro t i ht hi
    rw [zu_c _ _ _ (by omega)]
    exact h2 t i ht hi
  · rw [zu_c _ _ _ (by decide)]
    exact h3
  · rw [zu_c _ _ _ (by decide)]
    exact h4
  · rw [zu_c _ _ _ (by decide)]
    exact h5
  · rw [zu_c _ _ _ (by decide), zu_c _ _ _ (by decide)]
    exact h6
  · rw [zu_c _ _ _ (by decide)]
    exact h7
theorem st1_13 {M : zM} {i : Nat} {x : Int32} (hx : shq x) (h : st1 M) : st1 (zu M 13 i x) := by
  obtain ⟨h0, h1, h2, h3, h4, h5, h6, h7, h8⟩ := h
  refine ⟨?_, ?_, ?_, ?_, ?_, ?_, ?_, ?_, zOK_u (by omega) (by omega) (by omega) h8⟩
  · rw [zu_c _ _ _ (by decide)]
    exact h0
  · rw [zu_c _ _ _ (by decide)]
    exact h1
  · intro t i ht hi
    rw [zu_c _ _ _ (by omega)]
    exact h2 t i ht hi
  · intro t ht
    by_cases e : t = i
    · subst e
      rw [zu_s]
      exact hx
    · rw [zu_i _ _ _ e]
      exact h3 t ht
  · rw [zu_c _ _ _ (by decide)]
    exact h4
  · rw [zu_c _ _ _ (by decide)]
    exact h5
  · rw [zu_c _ _ _ (by decide), zu_c _ _ _ (by decide)]
    exact h6
  · rw [zu_c _ _ _ (by decide)]
    exact h7
theorem st1_rg {M : zM} {r i : Nat} {x : Int32} (hx : shq x) (h : st1 M) : st1 (zu M (r + 20) i x) := by
  obtain ⟨h0, h1, h2, h3, h4, h5, h6, h7, h8⟩ := h
  refine ⟨?_, ?_, ?_, ?_, ?_, ?_, ?_, ?_, zOK_u (by omega) (by omega) (by omega) h8⟩
  · rw [zu_c _ _ _ (by omega)]
    exact h0
  · rw [zu_c _ _ _ (by omega)]
    exact h1
  · intro t j ht hj
    by_cases er : t = r
    · subst er
      by_cases e : j = i
      · subst e
        rw [zu_s]
        exact hx
      · rw [zu_i _ _ _ e]
        exact h2 t j ht hj
    · rw [zu_c _ _ _ (by omega)]
      exact h2 t j ht hj
  · rw [zu_c _ _ _ (by omega)]
    exact h3
  · rw [zu_c _ _ _ (by omega)]
    exact h4
  · rw [zu_c _ _ _ (by omega)]
    exact h5
  · rw [zu_c _ _ _ (by omega), zu_c _ _ _ (by omega)]
    exact h6
  · rw [zu_c _ _ _ (by omega)]
    exact h7
/-! the steps of a cycle -/
theorem st1_fin : ∀ (n i : Nat) (M : zM), i + n = 4 → st1 M → st1 (h_X3_finishLoads_lp n i M) := by
  intro n
  induction n with
  | zero => exact fun _ _ _ h => h
  | succ n ih =>
    intro i M hi h
    simp only [h_X3_finishLoads_lp]
    exact z_ite (P := st1) (fun _ => ih _ _ (by omega) h) (fun _ => ih _ _ (by omega) (st1_0 (zIn_nI (by decide) (by decide)) (st1_rg (h.2.2.2.1 _ (h.2.2.2.2.2.2.2.2.2.1 i (by omega)).1) h)))
theorem st1_opn : ∀ (n i : Nat) (M : zM), st1 M → st1 (h_X3_openBarrier_lp n i M) := by
  intro n
  induction n with
  | zero => exact fun _ _ h => h
  | succ n ih =>
    intro i M h
    simp only [h_X3_openBarrier_lp]
    exact z_ite (P := st1) (fun _ => ih _ _ (st1_0 (zIn_nI (by decide) (by decide)) h)) (fun _ => ih _ _ h)
theorem st1_prep {M : zM} (h : st1 M) : st1 (h_X3_openBarrier (h_X3_finishLoads M)) := by
  unfold h_X3_openBarrier
  exact z_ite (P := st1) (fun _ => st1_fin _ _ _ rfl h) (fun _ => st1_opn _ _ _ (st1_fin _ _ _ rfl h))
theorem kc_fin {c : Nat} (hc : 1 ≤ c ∧ c < 20) : ∀ (n i : Nat) (M : zM), (h_X3_finishLoads_lp n i M) c = M c := by
  intro n
  induction n with
  | zero => exact fun _ _ => rfl
  | succ n ih =>
    intro i M
    simp only [h_X3_finishLoads_lp]
    refine z_ite (P := fun Y : zM => Y c = M c) (fun _ => ih _ _) (fun _ => ?_)
    rw [ih, zu_c _ _ _ (by omega), zu_c _ _ _ (by omega)]
theorem kc_opn {c : Nat} (hc : 1 ≤ c) : ∀ (n i : Nat) (M : zM), (h_X3_openBarrier_lp n i M) c = M c := by
  intro n
  induction n with
  | zero => exact fun _ _ => rfl
  | succ n ih =>
    intro i M
    simp only [h_X3_openBarrier_lp]
    refine z_ite (P := fun Y : zM => Y c = M c) (fun _ => ?_) (fun _ => ih _ _)
    rw [ih, zu_c _ _ _ (by omega)]
theorem kc_prep {c : Nat} (hc : 1 ≤ c ∧ c < 20) (M : zM) : (h_X3_openBarrier (h_X3_finishLoads M)) c = M c := by
  unfold h_X3_openBarrier
  exact z_ite (P := fun Y : zM => Y c = M c) (fun _ => kc_fin hc _ _ _) (fun _ => (kc_opn hc.1 _ _ _).trans (kc_fin hc _ _ _))
theorem kc_cc {c : Nat} (hc : c ≠ 8 ∧ c ≠ 9) (t : Nat) (x : Int32) (M : zM) : (h_X0_countCycle t x M) c = M c := by
  unfold h_X0_countCycle
  exact (z_ite (P := fun Y : zM => Y c = M c) (fun _ => (by rw [zu_c _ _ _ hc.2, zu_c _ _ _ hc.1])) (fun _ => (by rw [zu_c _ _ _ hc.2, zu_c _ _ _ hc.1])))
theorem kc_cs {c : Nat} (hc : c ≠ 8 ∧ c ≠ 9) (x : Int32) : ∀ (n i : Nat) (M : zM), (h_X3_countStarving_lp x n i M) c = M c := by
  intro n
  induction n with
  | zero => exact fun _ _ => rfl
  | succ n ih =>
    intro i M
    simp only [h_X3_countStarving_lp]
    exact z_ite (P := fun Y : zM => Y c = M c) (fun _ => z_ite (P := fun Y : zM => Y c = M c) (fun _ => (ih _ _).trans (kc_cc hc _ _ _)) (fun _ => (ih _ _).trans (kc_cc hc _ _ _))) (fun _ => (ih _ _).trans (kc_cc hc _ _ _))
theorem kc_nt {c : Nat} (h18 : c ≠ 18) (h19 : c ≠ 19) (x y z : Int32) (M : zM) : (h_X5_note x y z M) c = M c := by
  unfold h_X5_note
  rw [zu_c _ _ _ h18, zu_c _ _ _ h18, zu_c _ _ _ h19, zu_c _ _ _ h19, zu_c _ _ _ h19]
theorem kc_ca {c : Nat} (hc : c < 20) (t : Nat) (x y z : Int32) (M : zM) : (h_X3_calculate t x y z M) c = M c := by
  unfold h_X3_calculate
  exact (z_ite (P := fun Y : zM => Y c = M c) (fun _ => (by rw [zu_c _ _ _ (by omega)])) (fun _ => (z_ite (P := fun Y : zM => Y c = M c) (fun _ => (by rw [zu_c _ _ _ (by omega)])) (fun _ => (z_ite (P := fun Y : zM => Y c = M c) (fun _ => (by rw [zu_c _ _ _ (by omega)])) (fun _ => (by rw [zu_c _ _ _ (by omega)])))))))
theorem kc_re {c : Nat} (hc : 5 ≤ c ∧ c < 20 ∧ c ≠ 13) (t : Nat) (x y z : Int32) (M : zM) : (h_X3_reachMemory t x y z M) c = M c := by
  unfold h_X3_reachMemory h_X0_beginLoad
  exact (z_ite (P := fun Y : zM => Y c = M c) (fun _ => (by rw [zu_c _ _ _ (by omega), zu_c _ _ _ (by omega), zu_c _ _ _ (by omega), zu_c _ _ _ (by omega)])) (fun _ => (z_ite (P := fun Y : zM => Y c = M c) (fun _ => (by rw [zu_c _ _ _ (by omega), zu_c _ _ _ (by omega)])) (fun _ => (by rw [zu_c _ _ _ (by omega)])))))
theorem kc_st {c : Nat} (hc : 2 ≤ c) (t : Nat) (x y z : Int32) (M : zM) : (h_X3_steer t x y z M) c = M c := by
  unfold h_X3_steer
  exact (z_ite (P := fun Y : zM => Y c = M c) (fun _ => (by rw [zu_c _ _ _ (by omega)])) (fun _ => (z_ite (P := fun Y : zM => Y c = M c) (fun _ => (z_ite (P := fun Y : zM => Y c = M c) (fun _ => (by rw [zu_c _ _ _ (by omega)])) (fun _ => (by rw [zu_c _ _ _ (by omega)])))) (fun _ => (z_ite (P := fun Y : zM => Y c = M c) (fun _ => (z_ite (P := fun Y : zM => Y c = M c) (fun _ => (by rw [zu_c _ _ _ (by omega)])) (fun _ => (by rw [zu_c _ _ _ (by omega)])))) (fun _ => (z_ite (P := fun Y : zM => Y c = M c) (fun _ => (by rw [zu_c _ _ _ (by omega)])) (fun _ => (by rw [zu_c _ _ _ (by omega)])))))))))
theorem kc_ex {c : Nat} (hc : 5 ≤ c ∧ c < 20 ∧ c ≠ 13) (t : Nat) (M : zM) : (h_X3_executeNext t M) c = M c := by
  unfold h_X3_executeNext
  refine z_ite (P := fun Y : zM => Y c = M c) (fun _ => (by rw [zu_c _ _ _ (by omega)])) (fun _ => z_ite (P := fun Y : zM => Y c = M c) (fun _ => z_ite (P := fun Y : zM => Y c = M c) (fun _ => ?_) (fun _ => ?_)) (fun _ => ?_))
  · rw [kc_st (by omega), zu_c _ _ _ (by omega)]
  · rw [kc_re hc, zu_c _ _ _ (by omega)]
  · rw [kc_ca hc.2.1, zu_c _ _ _ (by omega)]
theorem ni_form (t : Nat) (M : zM) : ∃ A : zM, h_X3_noteIssue t M = h_X5_note (M 16 0) (nI t) (M 1 t) A ∧ A 6 = upd (M 6) t (M 6 t + nI 1) ∧ (A 7 = M 7 ∨ A 7 = upd (M 7) t (M 7 t + nI 1)) ∧ ∀ c, c ≠ 5 → c ≠ 6 → c ≠ 7 → A c = M c := by
  unfold h_X3_noteIssue
  by_cases q : (nI t) = (g_X3_slotOwner (zu M 6 t ((M 6 t) + (nI 1))))
  · rw [if_pos q]
    refine ⟨zu (zu M 6 t ((M 6 t) + (nI 1))) 5 t ((zu M 6 t ((M 6 t) + (nI 1))) 16 0), ?_, ?_, Or.inl ?_, fun c h5 h6 h7 => ?_⟩
    · have e16 : (zu (zu M 6 t ((M 6 t) + (nI 1))) 5 t ((zu M 6 t ((M 6 t) + (nI 1))) 16 0)) 16 0 = M 16 0 := by rw [zu_c _ _ _ (by decide), zu_c _ _ _ (by decide)]
      have e1 : (zu (zu M 6 t ((M 6 t) + (nI 1))) 5 t ((zu M 6 t ((M 6 t) + (nI 1))) 16 0)) 1 t = M 1 t := by rw [zu_c _ _ _ (by decide), zu_c _ _ _ (by decide)]
      rw [e16, e1]
    · rw [zu_c _ _ _ (by decide)]
      exact zr_s _ _ _
    · rw [zu_c _ _ _ (by decide), zu_c _ _ _ (by decide)]
    · rw [zu_c _ _ _ h5, zu_c _ _ _ h6]
  · rw [if_neg q]
    refine ⟨zu (zu (zu M 6 t ((M 6 t) + (nI 1))) 7 t (((zu M 6 t ((M 6 t) + (nI 1))) 7 t) + (nI 1))) 5 t ((zu (zu M 6 t ((M 6 t) + (nI 1))) 7 t (((zu M 6 t ((M 6 t) + (nI 1))) 7 t) + (nI 1))) 16 0), ?_, ?_, Or.inr ?_, fun c h5 h6 h7 => ?_⟩
    · have e16 : (zu (zu (zu M 6 t ((M 6 t) + (nI 1))) 7 t (((zu M 6 t ((M 6 t) + (nI 1))) 7 t) + (nI 1))) 5 t ((zu (zu M 6 t ((M 6 t) + (nI 1))) 7 t (((zu M 6 t ((M 6 t) + (nI 1))) 7 t) + (nI 1))) 16 0)) 16 0 = M 16 0 := by rw [zu_c _ _ _ (by decide), zu_c _ _ _ (by decide), zu_c _ _ _ (by decide)]
      have e1 : (zu (zu (zu M 6 t ((M 6 t) + (nI 1))) 7 t (((zu M 6 t ((M 6 t) + (nI 1))) 7 t) + (nI 1))) 5 t ((zu (zu M 6 t ((M 6 t) + (nI 1))) 7 t (((zu M 6 t ((M 6 t) + (nI 1))) 7 t) + (nI 1))) 16 0)) 1 t = M 1 t := by rw [zu_c _ _ _ (by decide), zu_c _ _ _ (by decide), zu_c _ _ _ (by decide)]
      rw [e16, e1]
    · rw [zu_c _ _ _ (by decide), zu_c _ _ _ (by decide)]
      exact zr_s _ _ _
    · have e7 : (zu M 6 t ((M 6 t) + (nI 1))) 7 = M 7 := zu_c _ _ _ (by decide)
      rw [zu_c _ _ _ (by decide), e7]
      refine (zr_s _ _ _).trans ?_
      rw [e7]
    · rw [zu_c _ _ _ h5, zu_c _ _ _ h7, zu_c _ _ _ h6]
theorem kc_ni {c : Nat} (hc : c ≠ 5 ∧ c ≠ 6 ∧ c ≠ 7 ∧ c ≠ 18 ∧ c ≠ 19) (t : Nat) (M : zM) : (h_X3_noteIssue t M) c = M c := by
  obtain ⟨A, e, -, -, h⟩ := ni_form t M
  rw [e, kc_nt hc.2.2.2.1 hc.2.2.2.2]
  exact h c hc.1 hc.2.1 hc.2.2.1
theorem st1_cs {M : zM} {x : Int32} (h : st1 M) : st1 (h_X3_countStarving x M) :=
  st1_of h (fun c hc => kc_cs (by omega) _ _ _ _) (zOK_countStarving h.2.2.2.2.2.2.2.2)
theorem st1_ni {M : zM} {t : Nat} (h : st1 M) : st1 (h_X3_noteIssue t M) :=
  st1_of h (fun c hc => kc_ni (by omega) _ _) (zOK_noteIssue h.2.2.2.2.2.2.2.2)
theorem st1_ex {M : zM} {t : Nat} (ht : t < 4) (h : st1 M) : st1 (h_X3_executeNext t M) := by
  unfold h_X3_executeNext
  refine z_ite (P := st1) (fun _ => st1_0 (zIn_nI (by decide) (by decide)) h) (fun c0 => ?_)
  have hp := z_isPlace c0
  have h1 : st1 (zu M 1 t (M 1 t + nI 1)) := by
    refine st1_1 ?_ h
    rw [hp.2, nI_add]
    exact zIn_nI (by have := hp.1; omega) (by decide)
  have e10 : (zu M 1 t (M 1 t + nI 1)) 10 = M 10 := zu_c _ _ _ (by decide)
  have e11 : (zu M 1 t (M 1 t + nI 1)) 11 = M 11 := zu_c _ _ _ (by decide)
  have hpg := h.2.2.2.2.2.2.1 _ hp.1
  rw [e10, e11]
  generalize zu M 1 t (M 1 t + nI 1) = M1 at *
  generalize M 10 (zc (M 1 t)) = op at *
  generalize M 11 (zc (M 1 t) * 2) = fa at *
  generalize M 11 (zc (M 1 t) * 2 + 1) = sb at *
  obtain ⟨⟨p1, p2⟩, -, -, p3, p4, p5⟩ := hpg
  have rg : ∀ i, i < 4 → shq (M1 (t + 20) i) := fun i hi => h1.2.2.1 t i ht hi
  have m4 : ∀ x : Int32, x.toBitVec.toNat % 4 < 4 := fun x => Nat.mod_lt _ (by decide)
  have m32 : ∀ x : Int32, x.toBitVec.toNat % 32 < 32 := fun x => Nat.mod_lt _ (by decide)
  refine z_ite (P := st1) (fun c3 => z_ite (P := st1) (fun c6 => ?_) (fun c6 => ?_)) (fun c3 => ?_)
  · unfold h_X3_steer
    refine z_ite (P := st1) (fun q => st1_1 (p4 (by rw [q]; rfl)) h1) (fun _ => z_ite (P := st1) (fun q => z_ite (P := st1) (fun _ => st1_1 (p5 (Or.inl (by rw [q]; rfl))) h1) (fun _ => st1_1 (h1.2.1 t ht) h1)) (fun _ => z_ite (P := st1) (fun q => z_ite (P := st1) (fun _ => st1_1 (h1.2.1 t ht) h1) (fun _ => st1_1 (p5 (Or.inr (by rw [q]; rfl))) h1)) (fun _ => z_ite (P := st1) (fun _ => st1_0 (zIn_nI (by decide) (by decide)) h1) (fun _ => st1_0 (zIn_nI (by decide) (by decide)) h1))))
  · unfold h_X3_reachMemory h_X0_beginLoad
    refine z_ite (P := st1) (fun _ => st1_u (by omega) (st1_3 (zIn_nI (m32 _) (by decide)) (st1_2 (zIn_nI (m4 _) (by decide)) (st1_0 (zIn_nI (by decide) (by decide)) h1)))) (fun _ => z_ite (P := st1) (fun _ => st1_rg (h1.2.2.2.1 _ (m32 _)) (st1_13 (rg _ (m4 _)) h1)) (fun _ => st1_13 (rg _ (m4 _)) h1))
  · unfold h_X3_calculate
    refine z_ite (P := st1) (fun q => st1_rg (p3 (by rw [q]; rfl)) h1) (fun _ => z_ite (P := st1) (fun _ => st1_rg (shq_16 _) h1) (fun _ => z_ite (P := st1) (fun _ => st1_rg (shq_16 _) h1) (fun _ => st1_rg (shq_16 _) h1)))
theorem st1_cycle {M : zM} (h : st1 M) : st1 (h_X3_runCycle M) := by
  unfold h_X3_runCycle
  have h2 := st1_prep h
  generalize h_X3_openBarrier (h_X3_finishLoads M) = M2 at *
  refine z_ite (P := st1) (fun _ => st1_u (by omega) (st1_u (by omega) (st1_cs h2))) (fun c => ?_)
  exact st1_u (by omega) (st1_ex (z_isThread c).1 (st1_ni (st1_cs h2)))
