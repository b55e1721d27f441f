/-! a row that is read is an instruction -/
theorem k_one {X Y : zM} {v : Int32} (h : kp X Y v) (h3 : zc (X 1 3) = 0) : Y 4 (zc (X 1 2) * 2) = v ∧ Y 4 (zc (X 1 2) * 2 + 1) = X 4 (zc (X 1 2) * 2 + 1) := by
  rw [h.2.1, h3, Nat.add_zero]
  exact ⟨pk_us, pk_un (by omega)⟩
theorem k_two {X Y W : zM} {v w : Int32} (h : kp X Y v) (k : kp Y W w) (h3 : zc (X 1 3) = 0) : W 4 (zc (X 1 2) * 2) = v ∧ W 4 (zc (X 1 2) * 2 + 1) = w := by
  have e3 : zc (Y 1 3) = 1 := by
    rw [h.2.2.2, h3]
    rfl
  rw [k.2.1, h.2.2.1, e3]
  refine ⟨?_, pk_us⟩
  rw [pk_un (by omega)]
  exact (k_one h h3).1
theorem kp_3 {X Y : zM} {v : Int32} (h : kp X Y v) (h3 : zc (X 1 3) = 0) : zc (Y 1 3) < 2 := by
  rw [h.2.2.2, h3]
  decide
theorem nn_4 {v : Int32} {n : Nat} (h : zIn v n) (hn : n ≤ 32768) : ¬ v = (-100005) := sh_no (sh_zi h hn)
theorem rd_ops {op : Int32} {X : zM} (hop : zIn op 12) (h3 : zc (X 1 3) = 0) (ha : X 4 (zc (X 1 2) * 2) = (-100005)) (hb : X 4 (zc (X 1 2) * 2 + 1) = (-100005)) (h : ¬ g_X4_readOperands op X = 0) : pgOK op ((h_X4_readOperands op X) 4 (zc (X 1 2) * 2)) ((h_X4_readOperands op X) 4 (zc (X 1 2) * 2 + 1)) := by
  obtain ⟨hj, e⟩ := hop
  generalize zc op = j at hj e
  subst e
  have h32 : zc (X 1 3) < 2 := by omega
  have zj : zc (nI j) = j := zc_nI (by omega)
  have hij : zIn (nI j) 12 := zIn_nI hj (by decide)
  unfold pgOK
  rw [zj]
  unfold g_X4_readOperands at h
  unfold h_X4_readOperands
  have reg2 : 0 < j → j < 7 → (¬ (if (g_X4_readRegister X) = 0 then nI 0 else if (g_X4_readRegister (h_X4_readRegister X)) = 0 then nI 0 else nI 1) = 0) → ∀ W : zM, W = (if (g_X4_readRegister X) = 0 then h_X4_readRegister X else if (g_X4_readRegister (h_X4_readRegister X)) = 0 then h_X4_readRegister (h_X4_readRegister X) else h_X4_readRegister (h_X4_readRegister X)) → zIn (nI j) 12 ∧ (W 4 (zc (X 1 2) * 2) = (-100005) ↔ 9 < j) ∧ (W 4 (zc (X 1 2) * 2 + 1) = (-100005) ↔ (9 < j ∨ j = 7)) ∧ (j = 0 → shq (W 4 (zc (X 1 2) * 2 + 1))) ∧ (j = 7 → zIn (W 4 (zc (X 1 2) * 2)) 49) ∧ (j = 8 ∨ j = 9 → zIn (W 4 (zc (X 1 2) * 2 + 1)) 49) := by
    intro j0 j7 h W hW
    by_cases c1 : g_X4_readRegister X = 0
    · rw [if_pos c1] at h
      exact absurd rfl h
    · rw [if_neg c1] at h hW
      by_cases c2 : g_X4_readRegister (h_X4_readRegister X) = 0
      · rw [if_pos c2] at h
        exact absurd rfl h
      · rw [if_neg c2] at hW
        obtain ⟨v, v1, v2⟩ := rd_reg h32 c1
        obtain ⟨w, w1, w2⟩ := rd_reg (kp_3 v2 h3) c2
        obtain ⟨e1, e2⟩ := k_two v2 w2 h3
        rw [hW, e1, e2]
        have n1 := nn_4 v1 (by decide)
        have n2 := nn_4 w1 (by decide)
        exact ⟨hij, ⟨fun q => absurd q n1, fun q => by omega⟩, ⟨fun q => absurd q n2, fun q => by omega⟩, fun q => by omega, fun q => by omega, fun q => by omega⟩
  match j, hj with
  | 0, _ =>
    rw [if_pos (show nI 0 = nI 0 from rfl)] at h
    rw [if_pos (show nI 0 = nI 0 from rfl)]
    by_cases c1 : g_X4_readRegister X = 0
    · rw [if_pos c1] at h
      exact absurd rfl h
    · rw [if_neg c1] at h ⊢
      by_cases c2 : g_X4_readSign (nI 61) (h_X4_readRegister X) = 0
      · rw [if_pos c2] at h
        exact absurd rfl h
      · rw [if_neg c2] at h ⊢
        by_cases c3 : g_X4_readNumber (h_X4_readSign (nI 61) (h_X4_readRegister X)) = 0
        · rw [if_pos c3] at h
          exact absurd rfl h
        · rw [if_neg c3]
          obtain ⟨v, v1, v2⟩ := rd_reg h32 c1
          have sg := sp_sign (nI 61) (h_X4_readRegister X)
          obtain ⟨w, w1, w2⟩ := rd_num (X := h_X4_readSign (nI 61) (h_X4_readRegister X)) (by rw [sg.2.2.2]; exact kp_3 v2 h3) c3
          obtain ⟨e1, e2⟩ := k_two v2 (kp_sp sg w2) h3
          rw [e1, e2]
          have n1 := nn_4 v1 (by decide)
          have n2 := sh_no w1
          exact ⟨hij, ⟨fun q => absurd q n1, fun q => by omega⟩, ⟨fun q => absurd q n2, fun q => by omega⟩, fun _ => w1, fun q => by omega, fun q => by omega⟩
  | 1, _ =>
    rw [if_neg (show ¬ nI 1 = nI 0 by decide), if_pos (show nI 1 = nI 1 from rfl)] at h
    rw [if_neg (show ¬ nI 1 = nI 0 by decide), if_pos (show nI 1 = nI 1 from rfl)]
    exact reg2 (by decide) (by decide) h _ rfl
  | 2, _ =>
    rw [if_neg (show ¬ nI 2 = nI 0 by decide), if_neg (show ¬ nI 2 = nI 1 by decide), if_pos (show nI 2 = nI 2 from rfl)] at h
    rw [if_neg (show ¬ nI 2 = nI 0 by decide), if_neg (show ¬ nI 2 = nI 1 by decide), if_pos (show nI 2 = nI 2 from rfl)]
    exact reg2 (by decide) (by decide) h _ rfl
  | 3, _ =>
    rw [if_neg (show ¬ nI 3 = nI 0 by decide), if_neg (show ¬ nI 3 = nI 1 by decide), if_neg (show ¬ nI 3 = nI 2 by decide), if_pos (show nI 3 = nI 3 from rfl)] at h
    rw [if_neg (show ¬ nI 3 = nI 0 by decide), if_neg (show ¬ nI 3 = nI 1 by decide), if_neg (show ¬ nI 3 = nI 2 by decide), if_pos (show nI 3 = nI 3 from rfl)]
    exact reg2 (by decide) (by decide) h _ rfl
  | 4, _ =>
    rw [if_neg (show ¬ nI 4 = nI 0 by decide), if_neg (show ¬ nI 4 = nI 1 by decide), if_neg (show ¬ nI 4 = nI 2 by decide), if_neg (show ¬ nI 4 = nI 3 by decide), if_pos (show nI 4 = nI 4 from rfl)] at h
    rw [if_neg (show ¬ nI 4 = nI 0 by decide), if_neg (show ¬ nI 4 = nI 1 by decide), if_neg (show ¬ nI 4 = nI 2 by decide), if_neg (show ¬ nI 4 = nI 3 by decide), if_pos (show nI 4 = nI 4 from rfl)]
    exact reg2 (by decide) (by decide) h _ rfl
  | 5, _ =>
    rw [if_neg (show ¬ nI 5 = nI 0 by decide), if_neg (show ¬ nI 5 = nI 1 by decide), if_neg (show ¬ nI 5 = nI 2 by decide), if_neg (show ¬ nI 5 = nI 3 by decide), if_neg (show ¬ nI 5 = nI 4 by decide), if_pos (show nI 5 = nI 5 from rfl)] at h
    rw [if_neg (show ¬ nI 5 = nI 0 by decide), if_neg (show ¬ nI 5 = nI 1 by decide), if_neg (show ¬ nI 5 = nI 2 by decide), if_neg (show ¬ nI 5 = nI 3 by decide), if_neg (show ¬ nI 5 = nI 4 by decide), if_pos (show nI 5 = nI 5 from rfl)]
    exact reg2 (by decide) (by decide) h _ rfl
  | 6, _ =>
    rw [if_neg (show ¬ nI 6 = nI 0 by decide), if_neg (show ¬ nI 6 = nI 1 by decide), if_neg (show ¬ nI 6 = nI 2 by decide), if_neg (show ¬ nI 6 = nI 3 by decide), if_neg (show ¬ nI 6 = nI 4 by decide), if_neg (show ¬ nI 6 = nI 5 by decide), if_pos (show nI 6 = nI 6 from rfl)] at h
    rw [if_neg (show ¬ nI 6 = nI 0 by decide), if_neg (show ¬ nI 6 = nI 1 by decide), if_neg (show ¬ nI 6 = nI 2 by decide), if_neg (show ¬ nI 6 = nI 3 by decide), if_neg (show ¬ nI 6 = nI 4 by decide), if_neg (show ¬ nI 6 = nI 5 by decide), if_pos (show nI 6 = nI 6 from rfl)]
    exact reg2 (by decide) (by decide) h _ rfl
  | 7, _ =>
    rw [if_neg (show ¬ nI 7 = nI 0 by decide), if_neg (show ¬ nI 7 = nI 1 by decide), if_neg (show ¬ nI 7 = nI 2 by decide), if_neg (show ¬ nI 7 = nI 3 by decide), if_neg (show ¬ nI 7 = nI 4 by decide), if_neg (show ¬ nI 7 = nI 5 by decide), if_neg (show ¬ nI 7 = nI 6 by decide), if_pos (show nI 7 = nI 7 from rfl)] at h
    rw [if_neg (show ¬ nI 7 = nI 0 by decide), if_neg (show ¬ nI 7 = nI 1 by decide), if_neg (show ¬ nI 7 = nI 2 by decide), if_neg (show ¬ nI 7 = nI 3 by decide), if_neg (show ¬ nI 7 = nI 4 by decide), if_neg (show ¬ nI 7 = nI 5 by decide), if_neg (show ¬ nI 7 = nI 6 by decide), if_pos (show nI 7 = nI 7 from rfl)]
    obtain ⟨v, v1, v2⟩ := rd_pla h32 h
    obtain ⟨e1, e2⟩ := k_one v2 h3
    rw [e1, e2, hb]
    have n1 := nn_4 v1 (by decide)
    exact ⟨hij, ⟨fun q => absurd q n1, fun q => by omega⟩, ⟨fun _ => by omega, fun _ => rfl⟩, fun q => by omega, fun _ => zIn_up v1 (by decide), fun q => by omega⟩
  | 8, _ =>
    rw [if_neg (show ¬ nI 8 = nI 0 by decide), if_neg (show ¬ nI 8 = nI 1 by decide), if_neg (show ¬ nI 8 = nI 2 by decide), if_neg (show ¬ nI 8 = nI 3 by decide), if_neg (show ¬ nI 8 = nI 4 by decide), if_neg (show ¬ nI 8 = nI 5 by decide), if_neg (show ¬ nI 8 = nI 6 by decide), if_neg (show ¬ nI 8 = nI 7 by decide), if_pos (show nI 8 = nI 8 from rfl)] at h
    rw [if_neg (show ¬ nI 8 = nI 0 by decide), if_neg (show ¬ nI 8 = nI 1 by decide), if_neg (show ¬ nI 8 = nI 2 by decide), if_neg (show ¬ nI 8 = nI 3 by decide), if_neg (show ¬ nI 8 = nI 4 by decide), if_neg (show ¬ nI 8 = nI 5 by decide), if_neg (show ¬ nI 8 = nI 6 by decide), if_neg (show ¬ nI 8 = nI 7 by decide), if_pos (show nI 8 = nI 8 from rfl)]
    by_cases c1 : g_X4_readRegister X = 0
    · rw [if_pos c1] at h
      exact absurd rfl h
    · rw [if_neg c1] at h ⊢
      by_cases c2 : g_X4_readSign (nI 62) (h_X4_readRegister X) = 0
      · rw [if_pos c2] at h
        exact absurd rfl h
      · rw [if_neg c2] at h ⊢
        by_cases c3 : g_X4_readPlace (h_X4_readSign (nI 62) (h_X4_readRegister X)) = 0
        · rw [if_pos c3] at h
          exact absurd rfl h
        · rw [if_neg c3]
          obtain ⟨v, v1, v2⟩ := rd_reg h32 c1
          have sg := sp_sign (nI 62) (h_X4_readRegister X)
          obtain ⟨w, w1, w2⟩ := rd_pla (X := h_X4_readSign (nI 62) (h_X4_readRegister X)) (by rw [sg.2.2.2]; exact kp_3 v2 h3) c3
          obtain ⟨e1, e2⟩ := k_two v2 (kp_sp sg w2) h3
          rw [e1, e2]
          have n1 := nn_4 v1 (by decide)
          have n2 := nn_4 w1 (by decide)
          exact ⟨hij, ⟨fun q => absurd q n1, fun q => by omega⟩, ⟨fun q => absurd q n2, fun q => by omega⟩, fun q => by omega, fun q => by omega, fun _ => zIn_up w1 (by decide)⟩
  | 9, _ =>
    rw [if_neg (show ¬ nI 9 = nI 0 by decide), if_neg (show ¬ nI 9 = nI 1 by decide), if_neg (show ¬ nI 9 = nI 2 by decide), if_neg (show ¬ nI 9 = nI 3 by decide), if_neg (show ¬ nI 9 = nI 4 by decide), if_neg (show ¬ nI 9 = nI 5 by decide), if_neg (show ¬ nI 9 = nI 6 by decide), if_neg (show ¬ nI 9 = nI 7 by decide), if_neg (show ¬ nI 9 = nI 8 by decide), if_pos (show nI 9 = nI 9 from rfl)] at h
    rw [if_neg (show ¬ nI 9 = nI 0 by decide), if_neg (show ¬ nI 9 = nI 1 by decide), if_neg (show ¬ nI 9 = nI 2 by decide), if_neg (show ¬ nI 9 = nI 3 by decide), if_neg (show ¬ nI 9 = nI 4 by decide), if_neg (show ¬ nI 9 = nI 5 by decide), if_neg (show ¬ nI 9 = nI 6 by decide), if_neg (show ¬ nI 9 = nI 7 by decide), if_neg (show ¬ nI 9 = nI 8 by decide), if_pos (show nI 9 = nI 9 from rfl)]
    by_cases c1 : g_X4_readRegister X = 0
    · rw [if_pos c1] at h
      exact absurd rfl h
    · rw [if_neg c1] at h ⊢
      by_cases c2 : g_X4_readSign (nI 62) (h_X4_readRegister X) = 0
      · rw [if_pos c2] at h
        exact absurd rfl h
      · rw [if_neg c2] at h ⊢
        by_cases c3 : g_X4_readPlace (h_X4_readSign (nI 62) (h_X4_readRegister X)) = 0
        · rw [if_pos c3] at h
          exact absurd rfl h
        · rw [if_neg c3]
          obtain ⟨v, v1, v2⟩ := rd_reg h32 c1
          have sg := sp_sign (nI 62) (h_X4_readRegister X)
          obtain ⟨w, w1, w2⟩ := rd_pla (X := h_X4_readSign (nI 62) (h_X4_readRegister X)) (by rw [sg.2.2.2]; exact kp_3 v2 h3) c3
          obtain ⟨e1, e2⟩ := k_two v2 (kp_sp sg w2) h3
          rw [e1, e2]
          have n1 := nn_4 v1 (by decide)
          have n2 := nn_4 w1 (by decide)
          exact ⟨hij, ⟨fun q => absurd q n1, fun q => by omega⟩, ⟨fun q => absurd q n2, fun q => by omega⟩, fun q => by omega, fun q => by omega, fun _ => zIn_up w1 (by decide)⟩
  | 10, _ =>
    rw [if_neg (show ¬ nI 10 = nI 0 by decide), if_neg (show ¬ nI 10 = nI 1 by decide), if_neg (show ¬ nI 10 = nI 2 by decide), if_neg (show ¬ nI 10 = nI 3 by decide), if_neg (show ¬ nI 10 = nI 4 by decide), if_neg (show ¬ nI 10 = nI 5 by decide), if_neg (show ¬ nI 10 = nI 6 by decide), if_neg (show ¬ nI 10 = nI 7 by decide), if_neg (show ¬ nI 10 = nI 8 by decide), if_neg (show ¬ nI 10 = nI 9 by decide), if_pos (show nI 10 = nI 10 from rfl)] at h
    rw [if_neg (show ¬ nI 10 = nI 0 by decide), if_neg (show ¬ nI 10 = nI 1 by decide), if_neg (show ¬ nI 10 = nI 2 by decide), if_neg (show ¬ nI 10 = nI 3 by decide), if_neg (show ¬ nI 10 = nI 4 by decide), if_neg (show ¬ nI 10 = nI 5 by decide), if_neg (show ¬ nI 10 = nI 6 by decide), if_neg (show ¬ nI 10 = nI 7 by decide), if_neg (show ¬ nI 10 = nI 8 by decide), if_neg (show ¬ nI 10 = nI 9 by decide), if_pos (show nI 10 = nI 10 from rfl)]
    rw [ha, hb]
    exact ⟨hij, ⟨fun _ => by omega, fun _ => rfl⟩, ⟨fun _ => by omega, fun _ => rfl⟩, fun q => by omega, fun q => by omega, fun q => by omega⟩
  | 11, _ =>
    rw [if_neg (show ¬ nI 11 = nI 0 by decide), if_neg (show ¬ nI 11 = nI 1 by decide), if_neg (show ¬ nI 11 = nI 2 by decide), if_neg (show ¬ nI 11 = nI 3 by decide), if_neg (show ¬ nI 11 = nI 4 by decide), if_neg (show ¬ nI 11 = nI 5 by decide), if_neg (show ¬ nI 11 = nI 6 by decide), if_neg (show ¬ nI 11 = nI 7 by decide), if_neg (show ¬ nI 11 = nI 8 by decide), if_neg (show ¬ nI 11 = nI 9 by decide), if_neg (show ¬ nI 11 = nI 10 by decide), if_pos (show nI 11 = nI 11 from rfl)] at h
    rw [if_neg (show ¬ nI 11 = nI 0 by decide), if_neg (show ¬ nI 11 = nI 1 by decide), if_neg (show ¬ nI 11 = nI 2 by decide), if_neg (show ¬ nI 11 = nI 3 by decide), if_neg (show ¬ nI 11 = nI 4 by decide), if_neg (show ¬ nI 11 = nI 5 by decide), if_neg (show ¬ nI 11 = nI 6 by decide), if_neg (show ¬ nI 11 = nI 7 by decide), if_neg (show ¬ nI 11 = nI 8 by decide), if_neg (show ¬ nI 11 = nI 9 by decide), if_neg (show ¬ nI 11 = nI 10 by decide), if_pos (show nI 11 = nI 11 from rfl)]
    rw [ha, hb]
    exact ⟨hij, ⟨fun _ => by omega, fun _ => rfl⟩, ⟨fun _ => by omega, fun _ => rfl⟩, fun q => by omega, fun q => by omega, fun q => by omega⟩
  | n + 12, h => exact absurd h (by omega)
/-! the rows of the whole text -/
theorem ix_lp (ch : Int32) : ∀ n i, i + n = 12 → g_J1_indexOfChar_lp ch n i = (-1) ∨ zIn (g_J1_indexOfChar_lp ch n i) 12 := by
  intro n
  induction n with
  | zero => exact fun _ _ => Or.inl rfl
  | succ n ih =>
    intro i hi
    simp only [g_J1_indexOfChar_lp]
    by_cases c : jL i = ch.toInt8.toInt32
    · rw [if_pos c]
      exact Or.inr (zIn_nI (by omega) (by decide))
    · rw [if_neg c]
      exact ih (i + 1) (by omega)
theorem ix_op {ch : Int32} (h : 0 ≤ g_J0_indexOf_0f7a4 ch) : zIn (g_J0_indexOf_0f7a4 ch) 12 := by
  have k : g_J0_indexOf_0f7a4 ch = (-1) ∨ zIn (g_J0_indexOf_0f7a4 ch) 12 := by
    unfold g_J0_indexOf_0f7a4 g_J0_indexOf_7cf53 g_J1_indexOf_4cfef
    by_cases c : g_J1_canEncode_9a6ad ch = 0
    · rw [if_pos c]
      exact Or.inl rfl
    · rw [if_neg c]
      exact ix_lp ch 12 0 rfl
  rcases k with k | k
  · rw [k] at h
    exact absurd h (by decide)
  · exact k
def PR (X : zM) : Prop := ∀ p, p < zc (X 1 2) → pgOK (X 3 p) (X 4 (p * 2)) (X 4 (p * 2 + 1))
theorem PR_sp {X Y : zM} (h : PR X) (k : sp X Y) : PR Y := by
  unfold PR
  rw [k.1, k.2.1, k.2.2.1]
  exact h
theorem PR_lo {X Y : zM} (h : PR X) (k3 : ∀ i, i < zc (X 1 2) → Y 3 i = X 3 i) (k4 : ∀ i, i < zc (X 1 2) * 2 → Y 4 i = X 4 i) (k1 : Y 1 2 = X 1 2) : PR Y := by
  unfold PR
  rw [k1]
  intro p hp
  rw [k3 p hp, k4 (p * 2) (by omega), k4 (p * 2 + 1) (by omega)]
  exact h p hp
theorem PR_ins {X : zM} (h : PR X) : PR (h_X4_readInstruction X) := by
  unfold h_X4_readInstruction
  refine z_ite (P := PR) (fun _ => h) (fun _ => z_ite (P := PR) (fun c50 => z_ite (P := PR) (fun c0 => ?_) (fun _ => h)) (fun _ => h))
  have hop := ix_op c0
  generalize g_J0_indexOf_0f7a4 (X 2 (zc (X 1 1))) = op at *
  have s1 := sp_p X (nI (zc (X 1 1) + 1))
  have hX1 := PR_sp h s1
  generalize zu X 1 1 (nI (zc (X 1 1) + 1)) = X1 at *
  have b3 : (h_X4_beginRow op X1) 3 = upd (X1 3) (zc (X1 1 2)) op := by
    unfold h_X4_beginRow
    rw [zu_c _ _ _ (by decide), zu_c _ _ _ (by decide), zu_c _ _ _ (by decide)]
    exact zr_s _ _ _
  have b12 : (h_X4_beginRow op X1) 1 2 = X1 1 2 := by
    unfold h_X4_beginRow
    rw [zu_i _ _ _ (by decide), zu_c _ _ _ (by decide), zu_c _ _ _ (by decide), zu_c _ _ _ (by decide)]
  have b13 : zc ((h_X4_beginRow op X1) 1 3) = 0 := by
    unfold h_X4_beginRow
    rw [zu_s]
    rfl
  have b40 : (h_X4_beginRow op X1) 4 (zc (X1 1 2) * 2) = (-100005) := by
    unfold h_X4_beginRow
    rw [zu_c _ _ _ (by decide), zu_i _ _ _ (by omega), zu_s]
  have b41 : (h_X4_beginRow op X1) 4 (zc (X1 1 2) * 2 + 1) = (-100005) := by
    unfold h_X4_beginRow
    rw [zu_c _ _ _ (by decide), zu_s]
  have b4 : ∀ i, i < zc (X1 1 2) * 2 → (h_X4_beginRow op X1) 4 i = X1 4 i := by
    intro i hi
    unfold h_X4_beginRow
    rw [zu_c _ _ _ (by decide), zu_i _ _ _ (by omega), zu_i _ _ _ (by omega), zu_c _ _ _ (by decide)]
  generalize h_X4_beginRow op X1 = X2 at *
  obtain ⟨l3, l4, l1⟩ := lo_ops op X2
  rw [b12] at l4
  have e3 : ∀ i, i < zc (X1 1 2) → (h_X4_readOperands op X2) 3 i = X1 3 i := fun i hi => by
    rw [l3, b3]
    exact pk_un (by omega)
  have e4 : ∀ i, i < zc (X1 1 2) * 2 → (h_X4_readOperands op X2) 4 i = X1 4 i := fun i hi => (l4 i hi).trans (b4 i hi)
  have e1 : (h_X4_readOperands op X2) 1 2 = X1 1 2 := l1.trans b12
  refine z_ite (P := PR) (fun _ => PR_lo hX1 e3 e4 e1) (fun cg => ?_)
  have rd := rd_ops hop b13 (by rw [b12]; exact b40) (by rw [b12]; exact b41) cg
  rw [b12] at rd
  have eop : (h_X4_readOperands op X2) 3 (zc (X1 1 2)) = op := by
    rw [l3, b3]
    exact pk_us
  generalize h_X4_readOperands op X2 = X3 at *
  have c51 : zc (X1 1 2) < 50 := by
    rw [s1.2.2.1]
    refine Nat.lt_of_not_le (fun q => ?_)
    have q2 : zc (X 1 2) < 2 ^ 31 := Int32.toNatClampNeg_lt _
    exact absurd c50 (nI_nlt q q2)
  unfold PR
  rw [zu_s, zc_nI (by rw [e1]; omega), e1, zu_c _ _ _ (by decide), zu_c _ _ _ (by decide)]
  intro p hp
  by_cases ep : p = zc (X1 1 2)
  · rw [ep, eop]
    exact rd
  · rw [e3 p (by omega), e4 (p * 2) (by omega), e4 (p * 2 + 1) (by omega)]
    exact hX1 p (by omega)
theorem PR_lp : ∀ (n : Nat) (one : Int32) (i : Nat) (X : zM), PR X → PR (h_X4_findFault_lp n one i X) := by
  intro n
  induction n with
  | zero => exact fun _ _ _ h => z_ite (P := PR) (fun _ => h) (fun _ => h)
  | succ n ih =>
    intro one i X h
    have h1 := PR_sp h (sp_sign (nI 59) X)
    simp only [h_X4_findFault_lp]
    exact z_ite (P := PR) (fun _ => h) (fun _ => z_ite (P := PR) (fun _ => h) (fun _ => z_ite (P := PR) (fun _ => ih _ _ _ h1) (fun _ => z_ite (P := PR) (fun _ => ih _ _ _ (PR_ins h1)) (fun _ => ih _ _ _ (PR_ins h1)))))
theorem PR_fault (X : zM) : PR (h_X4_findFault X) := by
  unfold h_X4_findFault
  refine PR_lp _ _ _ _ (PR_ins (fun p hp => ?_))
  rw [zu_s] at hp
  exact absurd hp (Nat.not_lt_zero _)
