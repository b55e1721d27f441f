def xF (C0 C2 : Nat → Int32) (L : Int32) (Y : zM) : Prop := Y 0 = C0 ∧ Y 2 = C2 ∧ Y 1 0 = L
theorem xF_c {C0 C2 : Nat → Int32} {L : Int32} {X : zM} {c : Nat} {f : Nat → Int32} (h0 : c ≠ 0) (h1 : c ≠ 1) (h2 : c ≠ 2) (h : xF C0 C2 L X) : xF C0 C2 L (zr X c f) := by
  unfold xF
  rw [zr_n X f (Ne.symm h1), zr_n X f (Ne.symm h0), zr_n X f (Ne.symm h2)]
  exact h
theorem xF_u {C0 C2 : Nat → Int32} {L : Int32} {X : zM} {c i : Nat} {x : Int32} (h0 : c ≠ 0) (h1 : c ≠ 1) (h2 : c ≠ 2) (h : xF C0 C2 L X) : xF C0 C2 L (zu X c i x) := xF_c h0 h1 h2 h
theorem xF_1 {C0 C2 : Nat → Int32} {L : Int32} {X : zM} {i : Nat} {x : Int32} (hi : 0 ≠ i) (h : xF C0 C2 L X) : xF C0 C2 L (zu X 1 i x) := by
  refine ⟨?_, ?_, ?_⟩
  · rw [zu_c _ _ _ (by decide)]
    exact h.1
  · rw [zu_c _ _ _ (by decide)]
    exact h.2.1
  · rw [zu_i _ _ _ hi]
    exact h.2.2

theorem xF_readSign {C0 C2 : Nat → Int32} {L : Int32} {X : zM} {sign : Int32} (h : xF C0 C2 L X) : xF C0 C2 L (h_X4_readSign sign X) := by
  unfold h_X4_readSign
  exact (z_ite (P := fun Y => xF C0 C2 L Y) (fun _ => h) (fun _ => (z_ite (P := fun Y => xF C0 C2 L Y) (fun _ => (xF_1 (by decide) h)) (fun _ => h))))

theorem xF_takeDigit {C0 C2 : Nat → Int32} {L : Int32} {X : zM}  (h : xF C0 C2 L X) : xF C0 C2 L (h_X4_takeDigit  X) := by
  unfold h_X4_takeDigit
  exact (z_ite (P := fun Y => xF C0 C2 L Y) (fun _ => (xF_1 (by decide) h)) (fun _ => h))

theorem xF_beginRow {C0 C2 : Nat → Int32} {L : Int32} {X : zM} {op : Int32} (h : xF C0 C2 L X) : xF C0 C2 L (h_X4_beginRow op X) := by
  unfold h_X4_beginRow
  exact xF_1 (by decide) (xF_u (by decide) (by decide) (by decide) (xF_u (by decide) (by decide) (by decide) (xF_u (by decide) (by decide) (by decide) h)))

theorem xF_keepOperand {C0 C2 : Nat → Int32} {L : Int32} {X : zM} {v : Int32} (h : xF C0 C2 L X) : xF C0 C2 L (h_X4_keepOperand v X) := by
  unfold h_X4_keepOperand
  exact (z_ite (P := fun Y => xF C0 C2 L Y) (fun _ => h) (fun _ => (xF_1 (by decide) (xF_u (by decide) (by decide) (by decide) h))))

theorem xF_readRegister {C0 C2 : Nat → Int32} {L : Int32} {X : zM}  (h : xF C0 C2 L X) : xF C0 C2 L (h_X4_readRegister  X) := by
  unfold h_X4_readRegister
  exact (z_ite (P := fun Y => xF C0 C2 L Y) (fun _ => h) (fun _ => (xF_keepOperand (xF_takeDigit h))))

theorem xF_readNumber {C0 C2 : Nat → Int32} {L : Int32} {X : zM}  (h : xF C0 C2 L X) : xF C0 C2 L (h_X4_readNumber  X) := by
  have h1 : xF C0 C2 L (h_X4_readSign (nI 45) X) := xF_readSign h
  unfold h_X4_readNumber
  exact (z_ite (P := fun Y => xF C0 C2 L Y) (fun _ => (z_ite (P := fun Y => xF C0 C2 L Y) (fun _ => h1) (fun _ => (z_ite (P := fun Y => xF C0 C2 L Y) (fun _ => (xF_keepOperand (xF_takeDigit h1))) (fun _ => (z_ite (P := fun Y => xF C0 C2 L Y) (fun _ => (xF_keepOperand (xF_takeDigit h1))) (fun _ => (xF_keepOperand (xF_takeDigit (xF_takeDigit h1)))))))))) (fun _ => (z_ite (P := fun Y => xF C0 C2 L Y) (fun _ => h1) (fun _ => (z_ite (P := fun Y => xF C0 C2 L Y) (fun _ => (xF_keepOperand (xF_takeDigit h1))) (fun _ => (z_ite (P := fun Y => xF C0 C2 L Y) (fun _ => (xF_keepOperand (xF_takeDigit h1))) (fun _ => (xF_keepOperand (xF_takeDigit (xF_takeDigit h1)))))))))))

theorem xF_readPlace {C0 C2 : Nat → Int32} {L : Int32} {X : zM}  (h : xF C0 C2 L X) : xF C0 C2 L (h_X4_readPlace  X) := by
  have h1 := h
  unfold h_X4_readPlace
  exact (z_ite (P := fun Y => xF C0 C2 L Y) (fun _ => h1) (fun _ => (z_ite (P := fun Y => xF C0 C2 L Y) (fun _ => (xF_keepOperand (xF_takeDigit h1))) (fun _ => (z_ite (P := fun Y => xF C0 C2 L Y) (fun _ => (xF_keepOperand (xF_takeDigit h1))) (fun _ => (xF_keepOperand (xF_takeDigit (xF_takeDigit h1)))))))))

theorem xF_readOperands {C0 C2 : Nat → Int32} {L : Int32} {X : zM} {op : Int32} (h : xF C0 C2 L X) : xF C0 C2 L (h_X4_readOperands op X) := by
  have r1 : xF C0 C2 L (h_X4_readRegister X) := xF_readRegister h
  have rr : xF C0 C2 L (h_X4_readRegister (h_X4_readRegister X)) := xF_readRegister r1
  have s1 : ∀ v, xF C0 C2 L (h_X4_readSign v (h_X4_readRegister X)) := fun v => xF_readSign r1
  have n1 : ∀ v, xF C0 C2 L (h_X4_readNumber (h_X4_readSign v (h_X4_readRegister X))) := fun v => xF_readNumber (s1 v)
  have p1 : ∀ v, xF C0 C2 L (h_X4_readPlace (h_X4_readSign v (h_X4_readRegister X))) := fun v => xF_readPlace (s1 v)
  have p0 : xF C0 C2 L (h_X4_readPlace X) := xF_readPlace h
  unfold h_X4_readOperands
  exact (z_ite (P := fun Y => xF C0 C2 L Y) (fun _ => (z_ite (P := fun Y => xF C0 C2 L Y) (fun _ => r1) (fun _ => (z_ite (P := fun Y => xF C0 C2 L Y) (fun _ => (s1 (nI 61))) (fun _ => (z_ite (P := fun Y => xF C0 C2 L Y) (fun _ => (n1 (nI 61))) (fun _ => (n1 (nI 61))))))))) (fun _ => (z_ite (P := fun Y => xF C0 C2 L Y) (fun _ => (z_ite (P := fun Y => xF C0 C2 L Y) (fun _ => r1) (fun _ => (z_ite (P := fun Y => xF C0 C2 L Y) (fun _ => rr) (fun _ => rr))))) (fun _ => (z_ite (P := fun Y => xF C0 C2 L Y) (fun _ => (z_ite (P := fun Y => xF C0 C2 L Y) (fun _ => r1) (fun _ => (z_ite (P := fun Y => xF C0 C2 L Y) (fun _ => rr) (fun _ => rr))))) (fun _ => (z_ite (P := fun Y => xF C0 C2 L Y) (fun _ => (z_ite (P := fun Y => xF C0 C2 L Y) (fun _ => r1) (fun _ => (z_ite (P := fun Y => xF C0 C2 L Y) (fun _ => rr) (fun _ => rr))))) (fun _ => (z_ite (P := fun Y => xF C0 C2 L Y) (fun _ => (z_ite (P := fun Y => xF C0 C2 L Y) (fun _ => r1) (fun _ => (z_ite (P := fun Y => xF C0 C2 L Y) (fun _ => rr) (fun _ => rr))))) (fun _ => (z_ite (P := fun Y => xF C0 C2 L Y) (fun _ => (z_ite (P := fun Y => xF C0 C2 L Y) (fun _ => r1) (fun _ => (z_ite (P := fun Y => xF C0 C2 L Y) (fun _ => rr) (fun _ => rr))))) (fun _ => (z_ite (P := fun Y => xF C0 C2 L Y) (fun _ => (z_ite (P := fun Y => xF C0 C2 L Y) (fun _ => r1) (fun _ => (z_ite (P := fun Y => xF C0 C2 L Y) (fun _ => rr) (fun _ => rr))))) (fun _ => (z_ite (P := fun Y => xF C0 C2 L Y) (fun _ => p0) (fun _ => (z_ite (P := fun Y => xF C0 C2 L Y) (fun _ => (z_ite (P := fun Y => xF C0 C2 L Y) (fun _ => r1) (fun _ => (z_ite (P := fun Y => xF C0 C2 L Y) (fun _ => (s1 (nI 62))) (fun _ => (z_ite (P := fun Y => xF C0 C2 L Y) (fun _ => (p1 (nI 62))) (fun _ => (p1 (nI 62))))))))) (fun _ => (z_ite (P := fun Y => xF C0 C2 L Y) (fun _ => (z_ite (P := fun Y => xF C0 C2 L Y) (fun _ => r1) (fun _ => (z_ite (P := fun Y => xF C0 C2 L Y) (fun _ => (s1 (nI 62))) (fun _ => (z_ite (P := fun Y => xF C0 C2 L Y) (fun _ => (p1 (nI 62))) (fun _ => (p1 (nI 62))))))))) (fun _ => (z_ite (P := fun Y => xF C0 C2 L Y) (fun _ => h) (fun _ => (z_ite (P := fun Y => xF C0 C2 L Y) (fun _ => h) (fun _ => (z_ite (P := fun Y => xF C0 C2 L Y) (fun _ => r1) (fun _ => (z_ite (P := fun Y => xF C0 C2 L Y) (fun _ => rr) (fun _ => rr))))))))))))))))))))))))))))

theorem xF_readInstruction {C0 C2 : Nat → Int32} {L : Int32} {X : zM}  (h : xF C0 C2 L X) : xF C0 C2 L (h_X4_readInstruction  X) := by
  have k : ∀ v, xF C0 C2 L (h_X4_readOperands v (h_X4_beginRow v (zu X 1 1 (nI (zc (X 1 1) + 1))))) := fun v => xF_readOperands (xF_beginRow (xF_1 (by decide) h))
  unfold h_X4_readInstruction
  exact z_ite (P := fun Y => xF C0 C2 L Y) (fun _ => h) (fun _ => z_ite (P := fun Y => xF C0 C2 L Y) (fun _ => z_ite (P := fun Y => xF C0 C2 L Y) (fun _ => z_ite (P := fun Y => xF C0 C2 L Y) (fun _ => k _) (fun _ => xF_1 (by decide) (k _))) (fun _ => h)) (fun _ => h))

theorem xF_findFault_lp {C0 C2 : Nat → Int32} {L : Int32} : ∀ (n : Nat) (one : Int32) (i : Nat) (X : zM), xF C0 C2 L X → xF C0 C2 L (h_X4_findFault_lp n one i X) := by
  intro n
  induction n with
  | zero =>
    intro one i X h
    simp only [h_X4_findFault_lp]
    exact z_ite (P := fun Y => xF C0 C2 L Y) (fun _ => h) (fun _ => h)
  | succ n ih =>
    intro one i X h
    have hk : xF C0 C2 L (h_X4_readSign (nI 59) X) := xF_readSign h
    have hk2 := xF_readInstruction hk
    simp only [h_X4_findFault_lp]
    refine z_ite (P := fun Y => xF C0 C2 L Y) (fun _ => h) (fun _ => ?_)
    refine z_ite (P := fun Y => xF C0 C2 L Y) (fun _ => h) (fun _ => ?_)
    refine z_ite (P := fun Y => xF C0 C2 L Y) (fun _ => ih _ _ _ hk) (fun _ => ?_)
    exact z_ite (P := fun Y => xF C0 C2 L Y) (fun _ => ih _ _ _ hk2) (fun _ => ih _ _ _ hk2)
theorem xF_findFault {C0 C2 : Nat → Int32} {L : Int32} {X : zM} (h : xF C0 C2 L X) : xF C0 C2 L (h_X4_findFault X) :=
  xF_findFault_lp _ _ _ _ (xF_readInstruction (xF_1 (by decide) (xF_1 (by decide) h)))
theorem ff_0 (X : zM) : h_X4_findFault X 0 = X 0 := (xF_findFault ⟨rfl, rfl, rfl⟩ : xF (X 0) (X 2) (X 1 0) (h_X4_findFault X)).1
