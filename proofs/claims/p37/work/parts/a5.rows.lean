/-! what the text's rows hold behind a reading -/
def sp (X X' : zM) : Prop := X' 3 = X 3 ∧ X' 4 = X 4 ∧ X' 1 2 = X 1 2 ∧ X' 1 3 = X 1 3
def kp (X X' : zM) (v : Int32) : Prop := X' 3 = X 3 ∧ X' 4 = upd (X 4) (zc (X 1 2) * 2 + zc (X 1 3)) v ∧ X' 1 2 = X 1 2 ∧ X' 1 3 = nI (zc (X 1 3) + 1)
def lo (X X' : zM) : Prop := X' 3 = X 3 ∧ (∀ i, i < zc (X 1 2) * 2 → X' 4 i = X 4 i) ∧ X' 1 2 = X 1 2
theorem lo_t {X Y W : zM} (h : lo X Y) (k : lo Y W) : lo X W := by
  obtain ⟨k1, k2, k3⟩ := k
  refine ⟨k1.trans h.1, fun i hi => ?_, k3.trans h.2.2⟩
  rw [h.2.2] at k2
  rw [k2 i hi]
  exact h.2.1 i hi
theorem lo_r (X : zM) : lo X X := ⟨rfl, fun _ _ => rfl, rfl⟩
theorem sp_lo {X Y : zM} (h : sp X Y) : lo X Y := ⟨h.1, fun i _ => by rw [h.2.1], h.2.2.1⟩
theorem sp_p (X : zM) (x : Int32) : sp X (zu X 1 1 x) := ⟨zu_c _ _ _ (by decide), zu_c _ _ _ (by decide), zu_i _ _ _ (by decide), zu_i _ _ _ (by decide)⟩
theorem sp_r (X : zM) : sp X X := ⟨rfl, rfl, rfl, rfl⟩
theorem sp_sign (s : Int32) (X : zM) : sp X (h_X4_readSign s X) := by
  unfold h_X4_readSign
  exact z_ite (P := sp X) (fun _ => sp_r X) (fun _ => z_ite (P := sp X) (fun _ => sp_p X _) (fun _ => sp_r X))
theorem sp_dig (X : zM) : sp X (h_X4_takeDigit X) := by
  unfold h_X4_takeDigit
  exact z_ite (P := sp X) (fun _ => sp_p X _) (fun _ => sp_r X)
theorem kp_sp {X Y W : zM} {v : Int32} (h : sp X Y) (k : kp Y W v) : kp X W v := by
  obtain ⟨h1, h2, h3, h4⟩ := h
  unfold kp at k ⊢
  rw [h1, h2, h3, h4] at k
  exact k
theorem kp_keep {X : zM} (v : Int32) (h : zc (X 1 3) < 2) : kp X (h_X4_keepOperand v X) v := by
  unfold h_X4_keepOperand
  rw [if_neg (nI_ge h (by decide))]
  refine ⟨?_, ?_, ?_, ?_⟩
  · rw [zu_c _ _ _ (by decide), zu_c _ _ _ (by decide)]
  · rw [zu_c _ _ _ (by decide)]
    exact zr_s _ _ _
  · rw [zu_i _ _ _ (by decide), zu_c _ _ _ (by decide)]
  · rw [zu_s]
theorem lo_keep (v : Int32) (X : zM) : lo X (h_X4_keepOperand v X) := by
  unfold h_X4_keepOperand
  refine z_ite (P := lo X) (fun _ => lo_r X) (fun _ => ⟨?_, fun i hi => ?_, ?_⟩)
  · rw [zu_c _ _ _ (by decide), zu_c _ _ _ (by decide)]
  · rw [zu_c _ _ _ (by decide), zu_i _ _ _ (by omega)]
  · rw [zu_i _ _ _ (by decide), zu_c _ _ _ (by decide)]
theorem lo_reg (X : zM) : lo X (h_X4_readRegister X) := by
  unfold h_X4_readRegister
  exact z_ite (P := lo X) (fun _ => lo_r X) (fun _ => lo_t (sp_lo (sp_dig X)) (lo_keep _ _))
theorem lo_num (X : zM) : lo X (h_X4_readNumber X) := by
  unfold h_X4_readNumber
  have h1 : lo X (h_X4_readSign (nI 45) X) := sp_lo (sp_sign _ X)
  have h2 := lo_t h1 (sp_lo (sp_dig (h_X4_readSign (nI 45) X)))
  have h3 := lo_t h2 (sp_lo (sp_dig (h_X4_takeDigit (h_X4_readSign (nI 45) X))))
  exact z_ite (P := lo X) (fun _ => z_ite (P := lo X) (fun _ => h1) (fun _ => z_ite (P := lo X) (fun _ => lo_t h2 (lo_keep _ _)) (fun _ => z_ite (P := lo X) (fun _ => lo_t h2 (lo_keep _ _)) (fun _ => lo_t h3 (lo_keep _ _))))) (fun _ => z_ite (P := lo X) (fun _ => h1) (fun _ => z_ite (P := lo X) (fun _ => lo_t h2 (lo_keep _ _)) (fun _ => z_ite (P := lo X) (fun _ => lo_t h2 (lo_keep _ _)) (fun _ => lo_t h3 (lo_keep _ _)))))
theorem lo_pla (X : zM) : lo X (h_X4_readPlace X) := by
  unfold h_X4_readPlace
  have h2 := sp_lo (sp_dig X)
  have h3 := lo_t h2 (sp_lo (sp_dig (h_X4_takeDigit X)))
  exact z_ite (P := lo X) (fun _ => lo_r X) (fun _ => z_ite (P := lo X) (fun _ => lo_t h2 (lo_keep _ _)) (fun _ => z_ite (P := lo X) (fun _ => lo_t h2 (lo_keep _ _)) (fun _ => lo_t h3 (lo_keep _ _))))
theorem lo_ops (op : Int32) (X : zM) : lo X (h_X4_readOperands op X) := by
  have r1 := lo_reg X
  have rr := lo_t r1 (lo_reg (h_X4_readRegister X))
  have s1 : ∀ v, lo X (h_X4_readSign v (h_X4_readRegister X)) := fun v => lo_t r1 (sp_lo (sp_sign v _))
  have n1 : ∀ v, lo X (h_X4_readNumber (h_X4_readSign v (h_X4_readRegister X))) := fun v => lo_t (s1 v) (lo_num _)
  have p1 : ∀ v, lo X (h_X4_readPlace (h_X4_readSign v (h_X4_readRegister X))) := fun v => lo_t (s1 v) (lo_pla _)
  have p0 := lo_pla X
  have reg2 : ∀ {c1 c2 : Prop} [Decidable c1] [Decidable c2], lo X (if c1 then h_X4_readRegister X else if c2 then h_X4_readRegister (h_X4_readRegister X) else h_X4_readRegister (h_X4_readRegister X)) := fun {c1 c2} _ _ => z_ite (P := lo X) (fun _ => r1) (fun _ => z_ite (P := lo X) (fun _ => rr) (fun _ => rr))
  unfold h_X4_readOperands
  exact z_ite (P := lo X) (fun _ => z_ite (P := lo X) (fun _ => r1) (fun _ => z_ite (P := lo X) (fun _ => s1 _) (fun _ => z_ite (P := lo X) (fun _ => n1 _) (fun _ => n1 _)))) (fun _ => z_ite (P := lo X) (fun _ => reg2) (fun _ => z_ite (P := lo X) (fun _ => reg2) (fun _ => z_ite (P := lo X) (fun _ => reg2) (fun _ => z_ite (P := lo X) (fun _ => reg2) (fun _ => z_ite (P := lo X) (fun _ => reg2) (fun _ => z_ite (P := lo X) (fun _ => reg2) (fun _ => z_ite (P := lo X) (fun _ => p0) (fun _ => z_ite (P := lo X) (fun _ => z_ite (P := lo X) (fun _ => r1) (fun _ => z_ite (P := lo X) (fun _ => s1 _) (fun _ => z_ite (P := lo X) (fun _ => p1 _) (fun _ => p1 _)))) (fun _ => z_ite (P := lo X) (fun _ => z_ite (P := lo X) (fun _ => r1) (fun _ => z_ite (P := lo X) (fun _ => s1 _) (fun _ => z_ite (P := lo X) (fun _ => p1 _) (fun _ => p1 _)))) (fun _ => z_ite (P := lo X) (fun _ => lo_r X) (fun _ => z_ite (P := lo X) (fun _ => lo_r X) (fun _ => reg2))))))))))))
/-! digits -/
theorem dg_in {X : zM} {l m : Int32} (h : ¬ g_X4_isDigit l m X = 0) : (g_X4_takeDigit X = (X 2 (zc (X 1 1))) - (nI 48)) ∧ ¬ g_X6_isWithin (g_X4_takeDigit X) l m = 0 := by
  unfold g_X4_isDigit at h
  unfold g_X4_takeDigit
  by_cases c1 : (nI (zc (X 1 0))) ≤ (nI (zc (X 1 1)))
  · rw [if_pos c1] at h
    exact absurd rfl h
  · rw [if_neg c1] at h
    by_cases c2 : g_X6_isWithin ((X 2 (zc (X 1 1))) - (nI 48)) l m = 0
    · rw [if_pos c2] at h
      exact absurd rfl h
    · rw [if_pos (Int32.not_le.mp c1)]
      exact ⟨rfl, c2⟩
theorem wi_1 {x : Int32} (h : ¬ g_X6_isWithin x (nI 1) (nI 9) = 0) : zIn x 10 ∧ 0 < zc x := by
  unfold g_X6_isWithin at h
  by_cases c1 : x < nI 1
  · rw [if_pos c1] at h
    exact absurd rfl h
  · rw [if_neg c1] at h
    by_cases c2 : nI 9 < x
    · rw [if_pos c2] at h
      exact absurd rfl h
    · have c0 : ¬ x < 0 := by
        intro q
        apply c1
        rw [Int32.lt_iff_toInt_lt] at q ⊢
        have e1 : (nI 1).toInt = 1 := by decide
        have e0 : (0 : Int32).toInt = 0 := by decide
        omega
      obtain ⟨j, h1, rfl⟩ := nI_of c0
      have c3 : ¬ 9 < j := fun q => c2 (nI_lt q h1)
      have c4 : ¬ j < 1 := fun q => c1 (nI_lt q (by decide))
      refine ⟨zIn_nI (by omega) (by decide), ?_⟩
      rw [zc_nI h1]
      omega
theorem sh_99 : ∀ n, n < 100 → shq (nI n) ∧ shq (-(nI n)) := by
  intro n hn
  have k : ∀ n, n < 100 → (nI n).toInt16.toInt32 = nI n ∧ (-(nI n)).toInt16.toInt32 = -(nI n) := by decide +kernel
  obtain ⟨k1, k2⟩ := k n hn
  have a := shq_16 (nI n)
  have b := shq_16 (-(nI n))
  rw [k1] at a
  rw [k2] at b
  exact ⟨a, b⟩
theorem sh_no {v : Int32} (h : shq v) : ¬ v = (-100005) := by
  intro q
  rw [q] at h
  exact absurd h.1 (by decide)
theorem sh_zi {v : Int32} {n : Nat} (h : zIn v n) (hn : n ≤ 32768) : shq v := by
  rw [h.2]
  exact shq_nI (by have := h.1; omega)
theorem rd_reg {X : zM} (h3 : zc (X 1 3) < 2) (h : ¬ g_X4_readRegister X = 0) : ∃ v, zIn v 4 ∧ kp X (h_X4_readRegister X) v := by
  unfold g_X4_readRegister at h
  unfold h_X4_readRegister
  by_cases c : g_X4_isDigit (nI 0) (nI 3) X = 0
  · rw [if_pos c] at h
    exact absurd rfl h
  · rw [if_neg c]
    refine ⟨_, z_within (n := 3) (by decide) (dg_in c).2, kp_sp (sp_dig X) (kp_keep _ ?_)⟩
    rw [(sp_dig X).2.2.2]
    exact h3
theorem rd_num {X : zM} (h3 : zc (X 1 3) < 2) (h : ¬ g_X4_readNumber X = 0) : ∃ v, shq v ∧ kp X (h_X4_readNumber X) v := by
  unfold g_X4_readNumber at h
  unfold h_X4_readNumber
  have s1 := sp_sign (nI 45) X
  generalize h_X4_readSign (nI 45) X = Y at *
  have hY : zc (Y 1 3) < 2 := by
    rw [s1.2.2.2]
    exact h3
  have hD : zc ((h_X4_takeDigit Y) 1 3) < 2 := by
    rw [(sp_dig Y).2.2.2]
    exact hY
  have hDD : zc ((h_X4_takeDigit (h_X4_takeDigit Y)) 1 3) < 2 := by
    rw [(sp_dig _).2.2.2]
    exact hD
  have one : ∀ v, kp X (h_X4_keepOperand v (h_X4_takeDigit Y)) v := fun v => kp_sp s1 (kp_sp (sp_dig Y) (kp_keep v hD))
  have two : ∀ v, kp X (h_X4_keepOperand v (h_X4_takeDigit (h_X4_takeDigit Y))) v := fun v => kp_sp s1 (kp_sp (sp_dig Y) (kp_sp (sp_dig _) (kp_keep v hDD)))
  by_cases c0 : g_X4_readSign (nI 45) X = 0
  · rw [if_pos c0] at h ⊢
    by_cases c1 : g_X4_isDigit (nI 0) (nI 9) Y = 0
    · rw [if_pos c1] at h
      exact absurd rfl h
    · rw [if_neg c1]
      have d1 := z_within (n := 9) (by decide) (dg_in c1).2
      have b1 := d1.1
      by_cases c2 : g_X4_takeDigit Y = 0
      · rw [if_pos c2]
        exact ⟨_, sh_zi d1 (by decide), one _⟩
      · rw [if_neg c2]
        by_cases c3 : g_X4_isDigit (nI 0) (nI 9) (h_X4_takeDigit Y) = 0
        · rw [if_pos c3]
          exact ⟨_, sh_zi d1 (by decide), one _⟩
        · rw [if_neg c3]
          have d2 := z_within (n := 9) (by decide) (dg_in c3).2
          have b2 := d2.1
          refine ⟨_, ?_, two _⟩
          rw [d1.2, d2.2, pk_mul, nI_add]
          exact (sh_99 _ (by omega)).1
  · rw [if_neg c0] at h ⊢
    by_cases c1 : g_X4_isDigit (nI 1) (nI 9) Y = 0
    · rw [if_pos c1] at h
      exact absurd rfl h
    · rw [if_neg c1]
      have d1 := (wi_1 (dg_in c1).2).1
      have b1 := d1.1
      have n1 : shq (-(g_X4_takeDigit Y)) := by
        rw [d1.2]
        exact (sh_99 _ (by omega)).2
      by_cases c2 : g_X4_takeDigit Y = 0
      · rw [if_pos c2]
        exact ⟨_, n1, one _⟩
      · rw [if_neg c2]
        by_cases c3 : g_X4_isDigit (nI 0) (nI 9) (h_X4_takeDigit Y) = 0
        · rw [if_pos c3]
          exact ⟨_, n1, one _⟩
        · rw [if_neg c3]
          have d2 := z_within (n := 9) (by decide) (dg_in c3).2
          have b2 := d2.1
          refine ⟨_, ?_, two _⟩
          rw [d1.2, d2.2, pk_mul, nI_add]
          exact (sh_99 _ (by omega)).2
theorem pl_2 : ∀ d, d < 10 → ∀ e, e < 10 → 0 < d → ¬ g_X6_isWithin (nI e) (nI 0) (if ((nI 47) - (nI d * (nI 10))) < (nI 9) then ((nI 47) - (nI d * (nI 10))) else (nI 9)) = 0 → d * 10 + e < 48 := by decide +kernel
theorem pl_9 {x m : Int32} {d : Nat} (hd : d < 10) (hm : m = (if ((nI 47) - (nI d * (nI 10))) < (nI 9) then ((nI 47) - (nI d * (nI 10))) else (nI 9))) (h : ¬ g_X6_isWithin x (nI 0) m = 0) : zIn x 10 := by
  have le : m ≤ nI 9 := by
    rw [hm]
    have k : ∀ d, d < 10 → (if ((nI 47) - (nI d * (nI 10))) < (nI 9) then ((nI 47) - (nI d * (nI 10))) else (nI 9)) ≤ nI 9 := by decide +kernel
    exact k d hd
  refine z_within (n := 9) (by decide) (fun q => h ?_)
  unfold g_X6_isWithin at q ⊢
  by_cases c1 : x < nI 0
  · rw [if_pos c1]
    rfl
  · rw [if_neg c1] at q ⊢
    by_cases c2 : nI 9 < x
    · rw [if_pos (Int32.lt_of_le_of_lt le c2)]
      rfl
    · rw [if_neg c2] at q
      exact absurd q (by decide)
theorem rd_pla {X : zM} (h3 : zc (X 1 3) < 2) (h : ¬ g_X4_readPlace X = 0) : ∃ v, zIn v 48 ∧ kp X (h_X4_readPlace X) v := by
  unfold g_X4_readPlace at h
  unfold h_X4_readPlace
  have hD : zc ((h_X4_takeDigit X) 1 3) < 2 := by
    rw [(sp_dig X).2.2.2]
    exact h3
  have hDD : zc ((h_X4_takeDigit (h_X4_takeDigit X)) 1 3) < 2 := by
    rw [(sp_dig _).2.2.2]
    exact hD
  have one : ∀ v, kp X (h_X4_keepOperand v (h_X4_takeDigit X)) v := fun v => kp_sp (sp_dig X) (kp_keep v hD)
  have two : ∀ v, kp X (h_X4_keepOperand v (h_X4_takeDigit (h_X4_takeDigit X))) v := fun v => kp_sp (sp_dig X) (kp_sp (sp_dig _) (kp_keep v hDD))
  by_cases c1 : g_X4_isDigit (nI 0) (nI 9) X = 0
  · rw [if_pos c1] at h
    exact absurd rfl h
  · rw [if_neg c1]
    have d1 := z_within (n := 9) (by decide) (dg_in c1).2
    have b1 := d1.1
    by_cases c2 : g_X4_takeDigit X = 0
    · rw [if_pos c2]
      exact ⟨_, zIn_up d1 (by decide), one _⟩
    · rw [if_neg c2]
      by_cases c3 : (g_X4_isDigit (nI 0) (if ((nI 47) - ((g_X4_takeDigit X) * (nI 10))) < (nI 9) then ((nI 47) - ((g_X4_takeDigit X) * (nI 10))) else (nI 9)) (h_X4_takeDigit X)) = 0
      · rw [if_pos c3]
        exact ⟨_, zIn_up d1 (by decide), one _⟩
      · rw [if_neg c3]
        have w := (dg_in c3).2
        have d2 := pl_9 (d := zc (g_X4_takeDigit X)) b1 (by rw [← d1.2]) w
        have b2 := d2.1
        have p0 : 0 < zc (g_X4_takeDigit X) := Nat.pos_of_ne_zero (fun q => c2 (by rw [d1.2, q]; rfl))
        refine ⟨_, ?_, two _⟩
        have w2 := pl_2 _ b1 _ b2 p0 (by rw [← d1.2, ← d2.2]; exact w)
        rw [d1.2, d2.2, pk_mul, nI_add]
        exact zIn_nI w2 (by decide)
