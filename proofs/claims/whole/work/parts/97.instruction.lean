/-! an instruction: its operands -/
def or3 (op : Int32) (k p : Nat) (Y X : zM) (g : Int32) (Y' X' : zM) : Prop :=
  (g = nI 1 ∧ ∃ p', p ≤ p' ∧ p' ≤ zc (X 0 1) ∧ (∀ q, p ≤ q → q < p' → X 1 q ≠ nI 59) ∧ rl p' Y' X' ∧ X' 0 3 = nI 0 ∧ X' 0 4 = X 0 4 ∧ pOK op (X' 0 5) (X' 0 6) ∧ Y' 1 2 = Y 1 2 ∧ Y' 3 = Y 3 ∧ oR op (Y' 4 (k * 2)) (Y' 4 (k * 2 + 1)) (X' 0 5) (X' 0 6) ∧ ∀ i, i ≠ k * 2 → i ≠ k * 2 + 1 → Y' 4 i = Y 4 i) ∨ (g = nI 0 ∧ ∃ p', wl p' Y' X')
theorem ky_c {k o p' : Nat} {v : Int32} {Y : zM} {c : Nat} (h1 : c ≠ 1) (h4 : c ≠ 4) : ky k o p' v Y c = Y c := by
  unfold ky
  rw [zu_c _ _ _ h1, zu_c _ _ _ h4, zu_c _ _ _ h1]
theorem ky_2 {k o p' : Nat} {v : Int32} {Y : zM} : ky k o p' v Y 1 2 = Y 1 2 := by
  unfold ky
  rw [zu_i _ _ _ (by decide), zu_c _ _ _ (by decide), zu_i _ _ _ (by decide)]
theorem ky_3 {k o p' : Nat} {v : Int32} {Y : zM} : ky k o p' v Y 1 3 = nI (o + 1) := by
  unfold ky
  rw [zu_s]
theorem ky_s {k o p' : Nat} {v : Int32} {Y : zM} : ky k o p' v Y 4 (k * 2 + o) = v := by
  unfold ky
  rw [zu_c _ _ _ (by decide), zu_s]
theorem ky_i {k o p' i : Nat} {v : Int32} {Y : zM} (h : i ≠ k * 2 + o) : ky k o p' v Y 4 i = Y 4 i := by
  unfold ky
  rw [zu_c _ _ _ (by decide), zu_i _ _ _ h, zu_c _ _ _ (by decide)]
/-- the second operand, behind the first one v1 -/
theorem or_fin {op v1 g2 gx : Int32} {k p pb : Nat} {Y X Y1 X1 Y' X' : zM} {ok : Int32 → Prop} (hp : p ≤ pb) (hno : ∀ q, p ≤ q → q < pb → X 1 q ≠ nI 59) (hr : rl pb Y1 X1) (x3 : X1 0 3 = nI 0) (x4 : X1 0 4 = X 0 4) (x5 : X1 0 5 = v1) (xL : X1 0 1 = X 0 1) (xT : X1 1 = X 1) (y2 : Y1 1 2 = Y 1 2) (y3 : Y1 3 = Y 3) (y4 : Y1 4 (k * 2) = v1) (yi : ∀ i, i ≠ k * 2 → Y1 4 i = Y 4 i) (hv : vr k 1 pb Y1 X1 g2 Y' X' gx ok) (hok : ∀ x, ok x → pOK op v1 x ∧ oR op v1 x v1 x) : or3 op k p Y X (if g2 = 0 then nI 0 else nI 1) Y' (zu X' 0 6 gx) := by
  rcases hv with ⟨g1, p', a1, a2, a3, a4, a5, a6⟩ | ⟨g1, p', w⟩
  · rw [g1, if_neg n1]
    rw [xL] at a2
    rw [xT] at a3
    obtain ⟨o1, o2⟩ := hok _ a6
    refine Or.inl ⟨rfl, p', by omega, a2, fun q e1 e2 => ?_, ?_, ?_, ?_, ?_, ?_, ?_, ?_, ?_⟩
    · by_cases e : q < pb
      · exact hno q e1 e
      · exact a3 q (by omega) e2
    · rw [a4, a5]
      exact rl_zu (rl_ky hr (by rw [xL]; exact a2)) (by decide)
    · rw [a5, zu_i _ _ _ (by decide), zu_i _ _ _ (by decide)]
      exact x3
    · rw [a5, zu_i _ _ _ (by decide), zu_i _ _ _ (by decide)]
      exact x4
    · rw [a5, zu_s, zu_i _ _ _ (by decide), zu_i _ _ _ (by decide), x5]
      exact o1
    · rw [a4, ky_2, y2]
    · rw [a4, ky_c (by decide) (by decide), y3]
    · rw [a4, a5, zu_s, zu_i _ _ _ (by decide), zu_i _ _ _ (by decide), x5, ky_s, ky_i (by omega), y4]
      exact o2
    · intro i e1 e2
      rw [a4, ky_i e2]
      exact yi i e1
  · rw [g1, if_pos e0]
    exact Or.inr ⟨rfl, p', wl_zu w (by decide)⟩
section OP
variable {k p : Nat} {Y X : zM}
/-- behind the first register -/
theorem one_reg {p1 : Nat} {v1 : Int32} (h : rl p Y X) (h3 : X 0 3 = nI 0) (hk : zc (Y 1 2) = k) (hp : p1 ≤ zc (X 0 1)) : rl p1 (ky k 0 p1 v1 Y) (zu (zu X 0 2 (nI p1)) 0 5 v1) ∧ (zu (zu X 0 2 (nI p1)) 0 5 v1) 0 3 = nI 0 ∧ (zu (zu X 0 2 (nI p1)) 0 5 v1) 0 4 = X 0 4 ∧ (zu (zu X 0 2 (nI p1)) 0 5 v1) 0 5 = v1 ∧ (zu (zu X 0 2 (nI p1)) 0 5 v1) 0 1 = X 0 1 ∧ (zu (zu X 0 2 (nI p1)) 0 5 v1) 1 = X 1 ∧ zc ((ky k 0 p1 v1 Y) 1 2) = k ∧ (ky k 0 p1 v1 Y) 1 3 = nI 1 ∧ (ky k 0 p1 v1 Y) 4 (k * 2) = v1 := by
  refine ⟨rl_zu (rl_ky h hp) (by decide), ?_, ?_, ?_, ?_, ?_, ?_, ky_3, ?_⟩
  · rw [zu_i _ _ _ (by decide), zu_i _ _ _ (by decide)]
    exact h3
  · rw [zu_i _ _ _ (by decide), zu_i _ _ _ (by decide)]
  · rw [zu_s]
  · rw [zu_i _ _ _ (by decide), zu_i _ _ _ (by decide)]
  · rw [zu_c _ _ _ (by decide), zu_c _ _ _ (by decide)]
  · rw [ky_2]
    exact hk
  · exact ky_s (o := 0)
theorem or_rr (op : Int32) (hok : ∀ x y, zIn x 4 → zIn y 4 → pOK op x y ∧ oR op x y x y) (h : rl p Y X) (h3 : X 0 3 = nI 0) (hk : zc (Y 1 2) = k) (ho : Y 1 3 = nI 0) : or3 op k p Y X (if (g_X4_readRegister Y) = 0 then nI 0 else if (g_X4_readRegister (h_X4_readRegister Y)) = 0 then nI 0 else nI 1) (if (g_X4_readRegister Y) = 0 then h_X4_readRegister Y else if (g_X4_readRegister (h_X4_readRegister Y)) = 0 then h_X4_readRegister (h_X4_readRegister Y) else h_X4_readRegister (h_X4_readRegister Y)) (zu (hX_X7_digit (nI 0) (nI 3) (zu (hX_X7_digit (nI 0) (nI 3) X) 0 5 (g_X7_digit (nI 0) (nI 3) X))) 0 6 (g_X7_digit (nI 0) (nI 3) (zu (hX_X7_digit (nI 0) (nI 3) X) 0 5 (g_X7_digit (nI 0) (nI 3) X)))) := by
  have hv := vr_reg (o := 0) h h3 hk ho (by decide)
  generalize g_X7_digit (nI 0) (nI 3) X = v1 at hv ⊢
  rcases hv with ⟨g1, p1, a1, a2, a3, a4, a5, a6⟩ | ⟨g1, p1, w⟩
  · rw [g1, a4, a5, if_neg n1, if_neg n1, ite_self]
    obtain ⟨b1, b2, b3, b4, b5, b6, b7, b8, b9⟩ := one_reg (v1 := v1) h h3 hk a2
    exact or_fin (Nat.le_of_lt a1) a3 b1 b2 b3 b4 b5 b6 ky_2 (ky_c (by decide) (by decide)) b9 (fun i e => ky_i (o := 0) e) (vr_reg (o := 1) b1 b2 b7 b8 (by decide)) (fun x hx => hok _ _ a6 hx)
  · rw [g1, if_pos e0, if_pos e0]
    exact Or.inr ⟨rfl, p1, wl_zu (wl_digit (wl_zu w (by decide))) (by decide)⟩
theorem or_rn (op : Int32) (hok : ∀ x y, zIn x 4 → sh y → pOK op x y ∧ oR op x y x y) (h : rl p Y X) (h3 : X 0 3 = nI 0) (hk : zc (Y 1 2) = k) (ho : Y 1 3 = nI 0) : or3 op k p Y X (if (g_X4_readRegister Y) = 0 then nI 0 else if (g_X4_readSign (nI 61) (h_X4_readRegister Y)) = 0 then nI 0 else if (g_X4_readNumber (h_X4_readSign (nI 61) (h_X4_readRegister Y))) = 0 then nI 0 else nI 1) (if (g_X4_readRegister Y) = 0 then h_X4_readRegister Y else if (g_X4_readSign (nI 61) (h_X4_readRegister Y)) = 0 then h_X4_readSign (nI 61) (h_X4_readRegister Y) else if (g_X4_readNumber (h_X4_readSign (nI 61) (h_X4_readRegister Y))) = 0 then h_X4_readNumber (h_X4_readSign (nI 61) (h_X4_readRegister Y)) else h_X4_readNumber (h_X4_readSign (nI 61) (h_X4_readRegister Y))) (zu (hX_X7_number (hX_X7_sign (nI 61) (zu (hX_X7_digit (nI 0) (nI 3) X) 0 5 (g_X7_digit (nI 0) (nI 3) X)))) 0 6 (g_X7_number (hX_X7_sign (nI 61) (zu (hX_X7_digit (nI 0) (nI 3) X) 0 5 (g_X7_digit (nI 0) (nI 3) X))))) := by
  have hv := vr_reg (o := 0) h h3 hk ho (by decide)
  generalize g_X7_digit (nI 0) (nI 3) X = v1 at hv ⊢
  rcases hv with ⟨g1, p1, a1, a2, a3, a4, a5, a6⟩ | ⟨g1, p1, w⟩
  · rw [g1, a4, a5, if_neg n1, if_neg n1]
    obtain ⟨b1, b2, b3, b4, b5, b6, b7, b8, b9⟩ := one_reg (v1 := v1) h h3 hk a2
    rcases vr_sign (c0 := 61) b1 b2 (by decide) (by decide) with ⟨s1, s2, s3, s4, s5⟩ | ⟨s1, s2, s3, s4⟩
    · rw [s1, s4, s5, if_neg n1, if_neg n1, ite_self]
      rw [b5] at s2
      rw [b6] at s3
      have d1 := rl_go b1 (p' := p1 + 1) (by rw [b5]; omega)
      have d2 : (zu (zu (zu X 0 2 (nI p1)) 0 5 v1) 0 2 (nI (p1 + 1))) 0 3 = nI 0 := by
        rw [zu_i _ _ _ (by decide)]
        exact b2
      have d7 : zc ((zu (ky k 0 p1 v1 Y) 1 1 (nI (p1 + 1))) 1 2) = k := by
        rw [zu_i _ _ _ (by decide)]
        exact b7
      have d8 : (zu (ky k 0 p1 v1 Y) 1 1 (nI (p1 + 1))) 1 3 = nI 1 := by
        rw [zu_i _ _ _ (by decide)]
        exact b8
      refine or_fin (pb := p1 + 1) (v1 := v1) (by omega) (fun q e1 e2 => ?_) d1 d2 ?_ ?_ ?_ ?_ ?_ ?_ ?_ (fun i e => ?_) (vr_number (o := 1) d1 d2 d7 d8 (by decide)) (fun x hx => hok _ _ a6 hx)
      · by_cases e : q = p1
        · subst e
          rw [s3]
          decide
        · exact a3 q e1 (by omega)
      · rw [zu_i _ _ _ (by decide)]
        exact b3
      · rw [zu_i _ _ _ (by decide)]
        exact b4
      · rw [zu_i _ _ _ (by decide)]
        exact b5
      · rw [zu_c _ _ _ (by decide)]
        exact b6
      · rw [zu_i _ _ _ (by decide), ky_2]
      · rw [zu_c _ _ _ (by decide), ky_c (by decide) (by decide)]
      · rw [zu_c _ _ _ (by decide)]
        exact b9
      · rw [zu_c _ _ _ (by decide)]
        exact ky_i (o := 0) e
    · rw [s1, s2, if_pos e0, if_pos e0]
      exact Or.inr ⟨rfl, p1, wl_zu (wl_number s3) (by decide)⟩
  · rw [g1, if_pos e0, if_pos e0]
    exact Or.inr ⟨rfl, p1, wl_zu (wl_number (wl_sign (wl_zu w (by decide)))) (by decide)⟩
theorem or_rp (op : Int32) (hok : ∀ x y, zIn x 4 → zIn y 48 → pOK op x y ∧ oR op x y x y) (h : rl p Y X) (h3 : X 0 3 = nI 0) (hk : zc (Y 1 2) = k) (ho : Y 1 3 = nI 0) : or3 op k p Y X (if (g_X4_readRegister Y) = 0 then nI 0 else if (g_X4_readSign (nI 62) (h_X4_readRegister Y)) = 0 then nI 0 else if (g_X4_readPlace (h_X4_readSign (nI 62) (h_X4_readRegister Y))) = 0 then nI 0 else nI 1) (if (g_X4_readRegister Y) = 0 then h_X4_readRegister Y else if (g_X4_readSign (nI 62) (h_X4_readRegister Y)) = 0 then h_X4_readSign (nI 62) (h_X4_readRegister Y) else if (g_X4_readPlace (h_X4_readSign (nI 62) (h_X4_readRegister Y))) = 0 then h_X4_readPlace (h_X4_readSign (nI 62) (h_X4_readRegister Y)) else h_X4_readPlace (h_X4_readSign (nI 62) (h_X4_readRegister Y))) (zu (hX_X7_upTo (nI 0) (nI 47) (hX_X7_sign (nI 62) (zu (hX_X7_digit (nI 0) (nI 3) X) 0 5 (g_X7_digit (nI 0) (nI 3) X)))) 0 6 (g_X7_upTo (nI 0) (nI 47) (hX_X7_sign (nI 62) (zu (hX_X7_digit (nI 0) (nI 3) X) 0 5 (g_X7_digit (nI 0) (nI 3) X))))) := by
  have hv := vr_reg (o := 0) h h3 hk ho (by decide)
  generalize g_X7_digit (nI 0) (nI 3) X = v1 at hv ⊢
  rcases hv with ⟨g1, p1, a1, a2, a3, a4, a5, a6⟩ | ⟨g1, p1, w⟩
  · rw [g1, a4, a5, if_neg n1, if_neg n1]
    obtain ⟨b1, b2, b3, b4, b5, b6, b7, b8, b9⟩ := one_reg (v1 := v1) h h3 hk a2
    rcases vr_sign (c0 := 62) b1 b2 (by decide) (by decide) with ⟨s1, s2, s3, s4, s5⟩ | ⟨s1, s2, s3, s4⟩
    · rw [s1, s4, s5, if_neg n1, if_neg n1, ite_self]
      rw [b5] at s2
      rw [b6] at s3
      have d1 := rl_go b1 (p' := p1 + 1) (by rw [b5]; omega)
      have d2 : (zu (zu (zu X 0 2 (nI p1)) 0 5 v1) 0 2 (nI (p1 + 1))) 0 3 = nI 0 := by
        rw [zu_i _ _ _ (by decide)]
        exact b2
      have d7 : zc ((zu (ky k 0 p1 v1 Y) 1 1 (nI (p1 + 1))) 1 2) = k := by
        rw [zu_i _ _ _ (by decide)]
        exact b7
      have d8 : (zu (ky k 0 p1 v1 Y) 1 1 (nI (p1 + 1))) 1 3 = nI 1 := by
        rw [zu_i _ _ _ (by decide)]
        exact b8
      refine or_fin (pb := p1 + 1) (v1 := v1) (by omega) (fun q e1 e2 => ?_) d1 d2 ?_ ?_ ?_ ?_ ?_ ?_ ?_ (fun i e => ?_) (vr_place (o := 1) d1 d2 d7 d8 (by decide)) (fun x hx => hok _ _ a6 hx)
      · by_cases e : q = p1
        · subst e
          rw [s3]
          decide
        · exact a3 q e1 (by omega)
      · rw [zu_i _ _ _ (by decide)]
        exact b3
      · rw [zu_i _ _ _ (by decide)]
        exact b4
      · rw [zu_i _ _ _ (by decide)]
        exact b5
      · rw [zu_c _ _ _ (by decide)]
        exact b6
      · rw [zu_i _ _ _ (by decide), ky_2]
      · rw [zu_c _ _ _ (by decide), ky_c (by decide) (by decide)]
      · rw [zu_c _ _ _ (by decide)]
        exact b9
      · rw [zu_c _ _ _ (by decide)]
        exact ky_i (o := 0) e
    · rw [s1, s2, if_pos e0, if_pos e0]
      exact Or.inr ⟨rfl, p1, wl_zu (wl_upTo s3) (by decide)⟩
  · rw [g1, if_pos e0, if_pos e0]
    exact Or.inr ⟨rfl, p1, wl_zu (wl_upTo (wl_sign (wl_zu w (by decide)))) (by decide)⟩
theorem or_p (h : rl p Y X) (h3 : X 0 3 = nI 0) (hk : zc (Y 1 2) = k) (ho : Y 1 3 = nI 0) (hN : Y 4 (k * 2 + 1) = -100005) : or3 (nI 7) k p Y X (g_X4_readPlace Y) (h_X4_readPlace Y) (zu (hX_X7_upTo (nI 0) (nI 47) X) 0 5 (g_X7_upTo (nI 0) (nI 47) X)) := by
  have hv := vr_place (o := 0) h h3 hk ho (by decide)
  generalize g_X7_upTo (nI 0) (nI 47) X = v1 at hv ⊢
  rcases hv with ⟨g1, p1, a1, a2, a3, a4, a5, a6⟩ | ⟨g1, p1, w⟩
  · rw [g1, a4, a5]
    obtain ⟨b1, b2, b3, b4, b5, b6, b7, b8, b9⟩ := one_reg (v1 := v1) h h3 hk a2
    refine Or.inl ⟨rfl, p1, Nat.le_of_lt a1, a2, a3, b1, b2, b3, ?_, ky_2, ky_c (by decide) (by decide), ?_, fun i e1 e2 => ky_i (o := 0) e1⟩
    · rw [b4]
      exact ⟨fun e => absurd e (by decide), fun e => absurd e (by decide), fun _ => a6, fun e => absurd e (by decide), fun e => absurd e (by decide), zIn_nI (by decide) (by decide)⟩
    · rw [b4, b9, ky_i (o := 0) (by omega), hN]
      unfold oR
      rw [if_neg (by decide), if_neg (by decide), if_pos rfl]
      exact ⟨rfl, rfl⟩
  · rw [g1]
    exact Or.inr ⟨rfl, p1, wl_zu w (by decide)⟩
theorem or_0 {o : Nat} (ho : o = 10 ∨ o = 11) (h : rl p Y X) (h3 : X 0 3 = nI 0) (x5 : X 0 5 = nI 0) (x6 : X 0 6 = nI 0) (y4 : Y 4 (k * 2) = -100005) (y5 : Y 4 (k * 2 + 1) = -100005) : or3 (nI o) k p Y X (nI 1) Y X := by
  refine Or.inl ⟨rfl, p, Nat.le_refl _, h.2.2.2.2.1, fun q e1 e2 => absurd e2 (by omega), h, h3, rfl, ?_, rfl, rfl, ?_, fun _ _ _ => rfl⟩
  · rw [x5, x6]
    rcases ho with rfl | rfl
    · exact ⟨fun e => absurd e (by decide), fun e => absurd e (by decide), fun e => absurd e (by decide), fun e => absurd e (by decide), fun e => absurd e (by decide), zIn_nI (by decide) (by decide)⟩
    · exact ⟨fun e => absurd e (by decide), fun e => absurd e (by decide), fun e => absurd e (by decide), fun e => absurd e (by decide), fun e => absurd e (by decide), zIn_nI (by decide) (by decide)⟩
  · rw [y4, y5]
    unfold oR
    rcases ho with rfl | rfl
    · rw [if_pos (by decide), if_pos (by decide)]
      exact ⟨rfl, rfl⟩
    · rw [if_pos (by decide), if_pos (by decide)]
      exact ⟨rfl, rfl⟩
end OP
theorem gO_0 (Y : zM) : g_X4_readOperands (nI 0) Y = (if (g_X4_readRegister Y) = 0 then nI 0 else if (g_X4_readSign (nI 61) (h_X4_readRegister Y)) = 0 then nI 0 else if (g_X4_readNumber (h_X4_readSign (nI 61) (h_X4_readRegister Y))) = 0 then nI 0 else nI 1) ∧ h_X4_readOperands (nI 0) Y = (if (g_X4_readRegister Y) = 0 then h_X4_readRegister Y else if (g_X4_readSign (nI 61) (h_X4_readRegister Y)) = 0 then h_X4_readSign (nI 61) (h_X4_readRegister Y) else if (g_X4_readNumber (h_X4_readSign (nI 61) (h_X4_readRegister Y))) = 0 then h_X4_readNumber (h_X4_readSign (nI 61) (h_X4_readRegister Y)) else h_X4_readNumber (h_X4_readSign (nI 61) (h_X4_readRegister Y))) := by
  refine ⟨?_, ?_⟩
  · unfold g_X4_readOperands
    rw [if_pos rfl]
  · unfold h_X4_readOperands
    rw [if_pos rfl]
theorem gO_1 (Y : zM) : g_X4_readOperands (nI 1) Y = (if (g_X4_readRegister Y) = 0 then nI 0 else if (g_X4_readRegister (h_X4_readRegister Y)) = 0 then nI 0 else nI 1) ∧ h_X4_readOperands (nI 1) Y = (if (g_X4_readRegister Y) = 0 then h_X4_readRegister Y else if (g_X4_readRegister (h_X4_readRegister Y)) = 0 then h_X4_readRegister (h_X4_readRegister Y) else h_X4_readRegister (h_X4_readRegister Y)) := by
  refine ⟨?_, ?_⟩
  · unfold g_X4_readOperands
    rw [if_neg (show ¬ nI 1 = nI 0 by decide), if_pos rfl]
  · unfold h_X4_readOperands
    rw [if_neg (show ¬ nI 1 = nI 0 by decide), if_pos rfl]
theorem gO_2 (Y : zM) : g_X4_readOperands (nI 2) Y = (if (g_X4_readRegister Y) = 0 then nI 0 else if (g_X4_readRegister (h_X4_readRegister Y)) = 0 then nI 0 else nI 1) ∧ h_X4_readOperands (nI 2) Y = (if (g_X4_readRegister Y) = 0 then h_X4_readRegister Y else if (g_X4_readRegister (h_X4_readRegister Y)) = 0 then h_X4_readRegister (h_X4_readRegister Y) else h_X4_readRegister (h_X4_readRegister Y)) := by
  refine ⟨?_, ?_⟩
  · unfold g_X4_readOperands
    rw [if_neg (show ¬ nI 2 = nI 0 by decide), if_neg (show ¬ nI 2 = nI 1 by decide), if_pos rfl]
  · unfold h_X4_readOperands
    rw [if_neg (show ¬ nI 2 = nI 0 by decide), if_neg (show ¬ nI 2 = nI 1 by decide), if_pos rfl]
theorem gO_3 (Y : zM) : g_X4_readOperands (nI 3) Y = (if (g_X4_readRegister Y) = 0 then nI 0 else if (g_X4_readRegister (h_X4_readRegister Y)) = 0 then nI 0 else nI 1) ∧ h_X4_readOperands (nI 3) Y = (if (g_X4_readRegister Y) = 0 then h_X4_readRegister Y else if (g_X4_readRegister (h_X4_readRegister Y)) = 0 then h_X4_readRegister (h_X4_readRegister Y) else h_X4_readRegister (h_X4_readRegister Y)) := by
  refine ⟨?_, ?_⟩
  · unfold g_X4_readOperands
    rw [if_neg (show ¬ nI 3 = nI 0 by decide), if_neg (show ¬ nI 3 = nI 1 by decide), if_neg (show ¬ nI 3 = nI 2 by decide), if_pos rfl]
  · unfold h_X4_readOperands
    rw [if_neg (show ¬ nI 3 = nI 0 by decide), if_neg (show ¬ nI 3 = nI 1 by decide), if_neg (show ¬ nI 3 = nI 2 by decide), if_pos rfl]
theorem gO_4 (Y : zM) : g_X4_readOperands (nI 4) Y = (if (g_X4_readRegister Y) = 0 then nI 0 else if (g_X4_readRegister (h_X4_readRegister Y)) = 0 then nI 0 else nI 1) ∧ h_X4_readOperands (nI 4) Y = (if (g_X4_readRegister Y) = 0 then h_X4_readRegister Y else if (g_X4_readRegister (h_X4_readRegister Y)) = 0 then h_X4_readRegister (h_X4_readRegister Y) else h_X4_readRegister (h_X4_readRegister Y)) := by
  refine ⟨?_, ?_⟩
  · unfold g_X4_readOperands
    rw [if_neg (show ¬ nI 4 = nI 0 by decide), if_neg (show ¬ nI 4 = nI 1 by decide), if_neg (show ¬ nI 4 = nI 2 by decide), if_neg (show ¬ nI 4 = nI 3 by decide), if_pos rfl]
  · unfold h_X4_readOperands
    rw [if_neg (show ¬ nI 4 = nI 0 by decide), if_neg (show ¬ nI 4 = nI 1 by decide), if_neg (show ¬ nI 4 = nI 2 by decide), if_neg (show ¬ nI 4 = nI 3 by decide), if_pos rfl]
theorem gO_5 (Y : zM) : g_X4_readOperands (nI 5) Y = (if (g_X4_readRegister Y) = 0 then nI 0 else if (g_X4_readRegister (h_X4_readRegister Y)) = 0 then nI 0 else nI 1) ∧ h_X4_readOperands (nI 5) Y = (if (g_X4_readRegister Y) = 0 then h_X4_readRegister Y else if (g_X4_readRegister (h_X4_readRegister Y)) = 0 then h_X4_readRegister (h_X4_readRegister Y) else h_X4_readRegister (h_X4_readRegister Y)) := by
  refine ⟨?_, ?_⟩
  · unfold g_X4_readOperands
    rw [if_neg (show ¬ nI 5 = nI 0 by decide), if_neg (show ¬ nI 5 = nI 1 by decide), if_neg (show ¬ nI 5 = nI 2 by decide), if_neg (show ¬ nI 5 = nI 3 by decide), if_neg (show ¬ nI 5 = nI 4 by decide), if_pos rfl]
  · unfold h_X4_readOperands
    rw [if_neg (show ¬ nI 5 = nI 0 by decide), if_neg (show ¬ nI 5 = nI 1 by decide), if_neg (show ¬ nI 5 = nI 2 by decide), if_neg (show ¬ nI 5 = nI 3 by decide), if_neg (show ¬ nI 5 = nI 4 by decide), if_pos rfl]
theorem gO_6 (Y : zM) : g_X4_readOperands (nI 6) Y = (if (g_X4_readRegister Y) = 0 then nI 0 else if (g_X4_readRegister (h_X4_readRegister Y)) = 0 then nI 0 else nI 1) ∧ h_X4_readOperands (nI 6) Y = (if (g_X4_readRegister Y) = 0 then h_X4_readRegister Y else if (g_X4_readRegister (h_X4_readRegister Y)) = 0 then h_X4_readRegister (h_X4_readRegister Y) else h_X4_readRegister (h_X4_readRegister Y)) := by
  refine ⟨?_, ?_⟩
  · unfold g_X4_readOperands
    rw [if_neg (show ¬ nI 6 = nI 0 by decide), if_neg (show ¬ nI 6 = nI 1 by decide), if_neg (show ¬ nI 6 = nI 2 by decide), if_neg (show ¬ nI 6 = nI 3 by decide), if_neg (show ¬ nI 6 = nI 4 by decide), if_neg (show ¬ nI 6 = nI 5 by decide), if_pos rfl]
  · unfold h_X4_readOperands
    rw [if_neg (show ¬ nI 6 = nI 0 by decide), if_neg (show ¬ nI 6 = nI 1 by decide), if_neg (show ¬ nI 6 = nI 2 by decide), if_neg (show ¬ nI 6 = nI 3 by decide), if_neg (show ¬ nI 6 = nI 4 by decide), if_neg (show ¬ nI 6 = nI 5 by decide), if_pos rfl]
theorem gO_7 (Y : zM) : g_X4_readOperands (nI 7) Y = (g_X4_readPlace Y) ∧ h_X4_readOperands (nI 7) Y = (h_X4_readPlace Y) := by
  refine ⟨?_, ?_⟩
  · unfold g_X4_readOperands
    rw [if_neg (show ¬ nI 7 = nI 0 by decide), if_neg (show ¬ nI 7 = nI 1 by decide), if_neg (show ¬ nI 7 = nI 2 by decide), if_neg (show ¬ nI 7 = nI 3 by decide), if_neg (show ¬ nI 7 = nI 4 by decide), if_neg (show ¬ nI 7 = nI 5 by decide), if_neg (show ¬ nI 7 = nI 6 by decide), if_pos rfl]
  · unfold h_X4_readOperands
    rw [if_neg (show ¬ nI 7 = nI 0 by decide), if_neg (show ¬ nI 7 = nI 1 by decide), if_neg (show ¬ nI 7 = nI 2 by decide), if_neg (show ¬ nI 7 = nI 3 by decide), if_neg (show ¬ nI 7 = nI 4 by decide), if_neg (show ¬ nI 7 = nI 5 by decide), if_neg (show ¬ nI 7 = nI 6 by decide), if_pos rfl]
theorem gO_8 (Y : zM) : g_X4_readOperands (nI 8) Y = (if (g_X4_readRegister Y) = 0 then nI 0 else if (g_X4_readSign (nI 62) (h_X4_readRegister Y)) = 0 then nI 0 else if (g_X4_readPlace (h_X4_readSign (nI 62) (h_X4_readRegister Y))) = 0 then nI 0 else nI 1) ∧ h_X4_readOperands (nI 8) Y = (if (g_X4_readRegister Y) = 0 then h_X4_readRegister Y else if (g_X4_readSign (nI 62) (h_X4_readRegister Y)) = 0 then h_X4_readSign (nI 62) (h_X4_readRegister Y) else if (g_X4_readPlace (h_X4_readSign (nI 62) (h_X4_readRegister Y))) = 0 then h_X4_readPlace (h_X4_readSign (nI 62) (h_X4_readRegister Y)) else h_X4_readPlace (h_X4_readSign (nI 62) (h_X4_readRegister Y))) := by
  refine ⟨?_, ?_⟩
  · unfold g_X4_readOperands
    rw [if_neg (show ¬ nI 8 = nI 0 by decide), if_neg (show ¬ nI 8 = nI 1 by decide), if_neg (show ¬ nI 8 = nI 2 by decide), if_neg (show ¬ nI 8 = nI 3 by decide), if_neg (show ¬ nI 8 = nI 4 by decide), if_neg (show ¬ nI 8 = nI 5 by decide), if_neg (show ¬ nI 8 = nI 6 by decide), if_neg (show ¬ nI 8 = nI 7 by decide), if_pos rfl]
  · unfold h_X4_readOperands
    rw [if_neg (show ¬ nI 8 = nI 0 by decide), if_neg (show ¬ nI 8 = nI 1 by decide), if_neg (show ¬ nI 8 = nI 2 by decide), if_neg (show ¬ nI 8 = nI 3 by decide), if_neg (show ¬ nI 8 = nI 4 by decide), if_neg (show ¬ nI 8 = nI 5 by decide), if_neg (show ¬ nI 8 = nI 6 by decide), if_neg (show ¬ nI 8 = nI 7 by decide), if_pos rfl]
theorem gO_9 (Y : zM) : g_X4_readOperands (nI 9) Y = (if (g_X4_readRegister Y) = 0 then nI 0 else if (g_X4_readSign (nI 62) (h_X4_readRegister Y)) = 0 then nI 0 else if (g_X4_readPlace (h_X4_readSign (nI 62) (h_X4_readRegister Y))) = 0 then nI 0 else nI 1) ∧ h_X4_readOperands (nI 9) Y = (if (g_X4_readRegister Y) = 0 then h_X4_readRegister Y else if (g_X4_readSign (nI 62) (h_X4_readRegister Y)) = 0 then h_X4_readSign (nI 62) (h_X4_readRegister Y) else if (g_X4_readPlace (h_X4_readSign (nI 62) (h_X4_readRegister Y))) = 0 then h_X4_readPlace (h_X4_readSign (nI 62) (h_X4_readRegister Y)) else h_X4_readPlace (h_X4_readSign (nI 62) (h_X4_readRegister Y))) := by
  refine ⟨?_, ?_⟩
  · unfold g_X4_readOperands
    rw [if_neg (show ¬ nI 9 = nI 0 by decide), if_neg (show ¬ nI 9 = nI 1 by decide), if_neg (show ¬ nI 9 = nI 2 by decide), if_neg (show ¬ nI 9 = nI 3 by decide), if_neg (show ¬ nI 9 = nI 4 by decide), if_neg (show ¬ nI 9 = nI 5 by decide), if_neg (show ¬ nI 9 = nI 6 by decide), if_neg (show ¬ nI 9 = nI 7 by decide), if_neg (show ¬ nI 9 = nI 8 by decide), if_pos rfl]
  · unfold h_X4_readOperands
    rw [if_neg (show ¬ nI 9 = nI 0 by decide), if_neg (show ¬ nI 9 = nI 1 by decide), if_neg (show ¬ nI 9 = nI 2 by decide), if_neg (show ¬ nI 9 = nI 3 by decide), if_neg (show ¬ nI 9 = nI 4 by decide), if_neg (show ¬ nI 9 = nI 5 by decide), if_neg (show ¬ nI 9 = nI 6 by decide), if_neg (show ¬ nI 9 = nI 7 by decide), if_neg (show ¬ nI 9 = nI 8 by decide), if_pos rfl]
theorem gO_10 (Y : zM) : g_X4_readOperands (nI 10) Y = (nI 1) ∧ h_X4_readOperands (nI 10) Y = Y := by
  refine ⟨?_, ?_⟩
  · unfold g_X4_readOperands
    rw [if_neg (show ¬ nI 10 = nI 0 by decide), if_neg (show ¬ nI 10 = nI 1 by decide), if_neg (show ¬ nI 10 = nI 2 by decide), if_neg (show ¬ nI 10 = nI 3 by decide), if_neg (show ¬ nI 10 = nI 4 by decide), if_neg (show ¬ nI 10 = nI 5 by decide), if_neg (show ¬ nI 10 = nI 6 by decide), if_neg (show ¬ nI 10 = nI 7 by decide), if_neg (show ¬ nI 10 = nI 8 by decide), if_neg (show ¬ nI 10 = nI 9 by decide), if_pos rfl]
  · unfold h_X4_readOperands
    rw [if_neg (show ¬ nI 10 = nI 0 by decide), if_neg (show ¬ nI 10 = nI 1 by decide), if_neg (show ¬ nI 10 = nI 2 by decide), if_neg (show ¬ nI 10 = nI 3 by decide), if_neg (show ¬ nI 10 = nI 4 by decide), if_neg (show ¬ nI 10 = nI 5 by decide), if_neg (show ¬ nI 10 = nI 6 by decide), if_neg (show ¬ nI 10 = nI 7 by decide), if_neg (show ¬ nI 10 = nI 8 by decide), if_neg (show ¬ nI 10 = nI 9 by decide), if_pos rfl]
theorem gO_11 (Y : zM) : g_X4_readOperands (nI 11) Y = (nI 1) ∧ h_X4_readOperands (nI 11) Y = Y := by
  refine ⟨?_, ?_⟩
  · unfold g_X4_readOperands
    rw [if_neg (show ¬ nI 11 = nI 0 by decide), if_neg (show ¬ nI 11 = nI 1 by decide), if_neg (show ¬ nI 11 = nI 2 by decide), if_neg (show ¬ nI 11 = nI 3 by decide), if_neg (show ¬ nI 11 = nI 4 by decide), if_neg (show ¬ nI 11 = nI 5 by decide), if_neg (show ¬ nI 11 = nI 6 by decide), if_neg (show ¬ nI 11 = nI 7 by decide), if_neg (show ¬ nI 11 = nI 8 by decide), if_neg (show ¬ nI 11 = nI 9 by decide), if_neg (show ¬ nI 11 = nI 10 by decide), if_pos rfl]
  · unfold h_X4_readOperands
    rw [if_neg (show ¬ nI 11 = nI 0 by decide), if_neg (show ¬ nI 11 = nI 1 by decide), if_neg (show ¬ nI 11 = nI 2 by decide), if_neg (show ¬ nI 11 = nI 3 by decide), if_neg (show ¬ nI 11 = nI 4 by decide), if_neg (show ¬ nI 11 = nI 5 by decide), if_neg (show ¬ nI 11 = nI 6 by decide), if_neg (show ¬ nI 11 = nI 7 by decide), if_neg (show ¬ nI 11 = nI 8 by decide), if_neg (show ¬ nI 11 = nI 9 by decide), if_neg (show ¬ nI 11 = nI 10 by decide), if_pos rfl]
/-- what the reading of an instruction gives -/
def ir (k p : Nat) (Y X : zM) (g : Int32) (Y' X' : zM) : Prop :=
  (g = nI 1 ∧ ∃ p', p < p' ∧ p' ≤ zc (X 0 1) ∧ (∀ q, p ≤ q → q < p' → X 1 q ≠ nI 59) ∧ rl p' Y' X' ∧ X' 0 3 = nI 0 ∧ pOK (X' 0 4) (X' 0 5) (X' 0 6) ∧ Y' 1 2 = nI (k + 1) ∧ Y' 3 k = X' 0 4 ∧ oR (X' 0 4) (Y' 4 (k * 2)) (Y' 4 (k * 2 + 1)) (X' 0 5) (X' 0 6) ∧ (∀ i, i ≠ k → Y' 3 i = Y 3 i) ∧ ∀ i, i ≠ k * 2 → i ≠ k * 2 + 1 → Y' 4 i = Y 4 i) ∨ (g = nI 0 ∧ ∃ p', wl p' Y' X')
/-- the row of an instruction begun -/
def yB (k p : Nat) (op : Int32) (Y : zM) : zM := h_X4_beginRow op (zu Y 1 1 (nI (p + 1)))
def xB (p : Nat) (op : Int32) (X : zM) : zM := zu (zu (zu (zu X 0 4 op) 0 5 (nI 0)) 0 6 (nI 0)) 0 2 (nI (p + 1))
theorem begun {k p : Nat} {op : Int32} {Y X : zM} (h : rl p Y X) (hp : p < zc (X 0 1)) (h3 : X 0 3 = nI 0) (hk : Y 1 2 = nI k) (k50 : k < 50) : rl (p + 1) (yB k p op Y) (xB p op X) ∧ (xB p op X) 0 3 = nI 0 ∧ (xB p op X) 0 4 = op ∧ (xB p op X) 0 5 = nI 0 ∧ (xB p op X) 0 6 = nI 0 ∧ (xB p op X) 0 1 = X 0 1 ∧ (xB p op X) 1 = X 1 ∧ (yB k p op Y) 1 2 = nI k ∧ (yB k p op Y) 1 3 = nI 0 ∧ (yB k p op Y) 4 (k * 2) = -100005 ∧ (yB k p op Y) 4 (k * 2 + 1) = -100005 ∧ (yB k p op Y) 3 k = op ∧ (∀ i, i ≠ k → (yB k p op Y) 3 i = Y 3 i) ∧ ∀ i, i ≠ k * 2 → i ≠ k * 2 + 1 → (yB k p op Y) 4 i = Y 4 i := by
  have zk : zc ((zu Y 1 1 (nI (p + 1))) 1 2) = k := by
    rw [zu_i _ _ _ (by decide), hk]
    exact zc_nI (by omega)
  unfold yB h_X4_beginRow xB
  rw [zk]
  refine ⟨rl_ext h ?_ ?_ ?_ ?_ ?_ ?_ (by omega), ?_, ?_, ?_, ?_, ?_, ?_, ?_, ?_, ?_, ?_, ?_, fun i e => ?_, fun i e1 e2 => ?_⟩
  all_goals simp (disch := omega) only [zu_s, zu_c, zu_i]
  · exact h3
  · exact hk
theorem ir_fin {k p : Nat} {op G : Int32} {Y X H Xo : zM} (h : rl p Y X) (hp : p < zc (X 0 1)) (h3 : X 0 3 = nI 0) (hk : Y 1 2 = nI k) (k50 : k < 50) (h59 : X 1 p ≠ nI 59) (key : or3 op k (p + 1) (yB k p op Y) (xB p op X) G H Xo) : ir k p Y X (if G = 0 then nI 0 else nI 1) (if G = 0 then H else zu H 1 2 (nI (zc (H 1 2) + 1))) Xo := by
  obtain ⟨b1, b2, b3, b4, b5, b6, b7, b8, b9, b10, b11, b12, b13, b14⟩ := begun (op := op) h hp h3 hk k50
  rcases key with ⟨g1, p', a1, a2, a3, a4, a5, a6, a7, a8, a9, a10, a11⟩ | ⟨g1, p', w⟩
  · rw [g1, if_neg n1, if_neg n1]
    rw [b6] at a2
    rw [b7] at a3
    rw [b3] at a6
    have zk : zc (H 1 2) = k := by
      rw [a8, b8]
      exact zc_nI (by omega)
    refine Or.inl ⟨rfl, p', by omega, a2, fun q e1 e2 => ?_, ?_, a5, ?_, ?_, ?_, ?_, fun i e => ?_, fun i e1 e2 => ?_⟩
    · by_cases e : q = p
      · subst e
        exact h59
      · exact a3 q (by omega) e2
    · refine rl_ext a4 ?_ ?_ ?_ a4.2.2.2.1 rfl rfl a4.2.2.2.2.1
      · rw [zu_i _ _ _ (by decide)]
      · rw [zu_c _ _ _ (by decide)]
      · rw [zu_i _ _ _ (by decide)]
        exact a4.2.2.1
    · rw [a6]
      exact a7
    · rw [zu_s, zk]
    · rw [zu_c _ _ _ (by decide), a9, b12, a6]
    · rw [zu_c _ _ _ (by decide), a6]
      exact a10
    · rw [zu_c _ _ _ (by decide), a9]
      exact b13 i e
    · rw [zu_c _ _ _ (by decide), a11 i e1 e2]
      exact b14 i e1 e2
  · rw [g1, if_pos e0, if_pos e0]
    exact Or.inr ⟨rfl, p', w⟩
theorem op_cs : ∀ c, c < 128 → (g_X7_operationOf (nI c) = -1 ∨ g_X7_operationOf (nI c) = nI 0 ∨ g_X7_operationOf (nI c) = nI 1 ∨ g_X7_operationOf (nI c) = nI 2 ∨ g_X7_operationOf (nI c) = nI 3 ∨ g_X7_operationOf (nI c) = nI 4 ∨ g_X7_operationOf (nI c) = nI 5 ∨ g_X7_operationOf (nI c) = nI 6 ∨ g_X7_operationOf (nI c) = nI 7 ∨ g_X7_operationOf (nI c) = nI 8 ∨ g_X7_operationOf (nI c) = nI 9 ∨ g_X7_operationOf (nI c) = nI 10 ∨ g_X7_operationOf (nI c) = nI 11) := by decide +kernel
theorem op_59 : g_X7_operationOf (nI 59) = -1 := by decide
theorem ir_0 {k p : Nat} {Y X : zM} (h : rl p Y X) (hp : p < zc (X 0 1)) (h3 : X 0 3 = nI 0) (hk : Y 1 2 = nI k) (k50 : k < 50) (h59 : X 1 p ≠ nI 59) (eo : g_X7_operationOf (g_X7_next X) = nI 0) : ir k p Y X (if (g_X4_readOperands (nI 0) (yB k p (nI 0) Y)) = 0 then nI 0 else nI 1) (if (g_X4_readOperands (nI 0) (yB k p (nI 0) Y)) = 0 then h_X4_readOperands (nI 0) (yB k p (nI 0) Y) else zu (h_X4_readOperands (nI 0) (yB k p (nI 0) Y)) 1 2 (nI (zc ((h_X4_readOperands (nI 0) (yB k p (nI 0) Y)) 1 2) + 1))) (hX_X7_instruction X) := by
  obtain ⟨b1, b2, b3, b4, b5, b6, b7, b8, b9, b10, b11, b12, b13, b14⟩ := begun (op := nI 0) h hp h3 hk k50
  have zk : zc ((yB k p (nI 0) Y) 1 2) = k := by
    rw [b8]
    exact zc_nI (by omega)
  obtain ⟨g1, g2⟩ := gO_0 (yB k p (nI 0) Y)
  refine ir_fin (op := nI 0) h hp h3 hk k50 h59 ?_
  rw [g1, g2]
  have key := or_rn (k := k) (nI 0) (fun x y hx hy => ⟨⟨fun _ => hx, fun e => absurd e (by decide), fun e => absurd e (by decide), fun e => absurd e (by decide), fun _ => hy, zIn_nI (by decide) (by decide)⟩, (by
      unfold oR
      rw [if_neg (by decide), if_neg (by decide), if_neg (by decide)]
      exact ⟨rfl, rfl⟩)⟩) b1 b2 zk b9
  have e2 := (rl_zp h).2.1
  unfold hX_X7_instruction
  rw [eo, e2, if_neg (show ¬ nI 0 = (-1) by decide), if_neg (show ¬ nI 0 = nI 7 by decide), if_neg (show ¬ nI 10 ≤ nI 0 by decide), if_pos (show nI 0 = 0 by decide)]
  exact key
theorem ir_1 {k p : Nat} {Y X : zM} (h : rl p Y X) (hp : p < zc (X 0 1)) (h3 : X 0 3 = nI 0) (hk : Y 1 2 = nI k) (k50 : k < 50) (h59 : X 1 p ≠ nI 59) (eo : g_X7_operationOf (g_X7_next X) = nI 1) : ir k p Y X (if (g_X4_readOperands (nI 1) (yB k p (nI 1) Y)) = 0 then nI 0 else nI 1) (if (g_X4_readOperands (nI 1) (yB k p (nI 1) Y)) = 0 then h_X4_readOperands (nI 1) (yB k p (nI 1) Y) else zu (h_X4_readOperands (nI 1) (yB k p (nI 1) Y)) 1 2 (nI (zc ((h_X4_readOperands (nI 1) (yB k p (nI 1) Y)) 1 2) + 1))) (hX_X7_instruction X) := by
  obtain ⟨b1, b2, b3, b4, b5, b6, b7, b8, b9, b10, b11, b12, b13, b14⟩ := begun (op := nI 1) h hp h3 hk k50
  have zk : zc ((yB k p (nI 1) Y) 1 2) = k := by
    rw [b8]
    exact zc_nI (by omega)
  obtain ⟨g1, g2⟩ := gO_1 (yB k p (nI 1) Y)
  refine ir_fin (op := nI 1) h hp h3 hk k50 h59 ?_
  rw [g1, g2]
  have key := or_rr (k := k) (nI 1) (fun x y hx hy => ⟨⟨fun _ => hx, fun _ => hy, fun e => absurd e (by decide), fun e => absurd e (by decide), fun e => absurd e (by decide), zIn_nI (by decide) (by decide)⟩, (by
      unfold oR
      rw [if_neg (by decide), if_neg (by decide), if_neg (by decide)]
      exact ⟨rfl, rfl⟩)⟩) b1 b2 zk b9
  have e2 := (rl_zp h).2.1
  unfold hX_X7_instruction
  rw [eo, e2, if_neg (show ¬ nI 1 = (-1) by decide), if_neg (show ¬ nI 1 = nI 7 by decide), if_neg (show ¬ nI 10 ≤ nI 1 by decide), if_neg (show ¬ nI 1 = 0 by decide), if_neg (show ¬ nI 7 ≤ nI 1 by decide)]
  exact key
theorem ir_2 {k p : Nat} {Y X : zM} (h : rl p Y X) (hp : p < zc (X 0 1)) (h3 : X 0 3 = nI 0) (hk : Y 1 2 = nI k) (k50 : k < 50) (h59 : X 1 p ≠ nI 59) (eo : g_X7_operationOf (g_X7_next X) = nI 2) : ir k p Y X (if (g_X4_readOperands (nI 2) (yB k p (nI 2) Y)) = 0 then nI 0 else nI 1) (if (g_X4_readOperands (nI 2) (yB k p (nI 2) Y)) = 0 then h_X4_readOperands (nI 2) (yB k p (nI 2) Y) else zu (h_X4_readOperands (nI 2) (yB k p (nI 2) Y)) 1 2 (nI (zc ((h_X4_readOperands (nI 2) (yB k p (nI 2) Y)) 1 2) + 1))) (hX_X7_instruction X) := by
  obtain ⟨b1, b2, b3, b4, b5, b6, b7, b8, b9, b10, b11, b12, b13, b14⟩ := begun (op := nI 2) h hp h3 hk k50
  have zk : zc ((yB k p (nI 2) Y) 1 2) = k := by
    rw [b8]
    exact zc_nI (by omega)
  obtain ⟨g1, g2⟩ := gO_2 (yB k p (nI 2) Y)
  refine ir_fin (op := nI 2) h hp h3 hk k50 h59 ?_
  rw [g1, g2]
  have key := or_rr (k := k) (nI 2) (fun x y hx hy => ⟨⟨fun _ => hx, fun _ => hy, fun e => absurd e (by decide), fun e => absurd e (by decide), fun e => absurd e (by decide), zIn_nI (by decide) (by decide)⟩, (by
      unfold oR
      rw [if_neg (by decide), if_neg (by decide), if_neg (by decide)]
      exact ⟨rfl, rfl⟩)⟩) b1 b2 zk b9
  have e2 := (rl_zp h).2.1
  unfold hX_X7_instruction
  rw [eo, e2, if_neg (show ¬ nI 2 = (-1) by decide), if_neg (show ¬ nI 2 = nI 7 by decide), if_neg (show ¬ nI 10 ≤ nI 2 by decide), if_neg (show ¬ nI 2 = 0 by decide), if_neg (show ¬ nI 7 ≤ nI 2 by decide)]
  exact key
theorem ir_3 {k p : Nat} {Y X : zM} (h : rl p Y X) (hp : p < zc (X 0 1)) (h3 : X 0 3 = nI 0) (hk : Y 1 2 = nI k) (k50 : k < 50) (h59 : X 1 p ≠ nI 59) (eo : g_X7_operationOf (g_X7_next X) = nI 3) : ir k p Y X (if (g_X4_readOperands (nI 3) (yB k p (nI 3) Y)) = 0 then nI 0 else nI 1) (if (g_X4_readOperands (nI 3) (yB k p (nI 3) Y)) = 0 then h_X4_readOperands (nI 3) (yB k p (nI 3) Y) else zu (h_X4_readOperands (nI 3) (yB k p (nI 3) Y)) 1 2 (nI (zc ((h_X4_readOperands (nI 3) (yB k p (nI 3) Y)) 1 2) + 1))) (hX_X7_instruction X) := by
  obtain ⟨b1, b2, b3, b4, b5, b6, b7, b8, b9, b10, b11, b12, b13, b14⟩ := begun (op := nI 3) h hp h3 hk k50
  have zk : zc ((yB k p (nI 3) Y) 1 2) = k := by
    rw [b8]
    exact zc_nI (by omega)
  obtain ⟨g1, g2⟩ := gO_3 (yB k p (nI 3) Y)
  refine ir_fin (op := nI 3) h hp h3 hk k50 h59 ?_
  rw [g1, g2]
  have key := or_rr (k := k) (nI 3) (fun x y hx hy => ⟨⟨fun _ => hx, fun _ => hy, fun e => absurd e (by decide), fun e => absurd e (by decide), fun e => absurd e (by decide), zIn_nI (by decide) (by decide)⟩, (by
      unfold oR
      rw [if_neg (by decide), if_neg (by decide), if_neg (by decide)]
      exact ⟨rfl, rfl⟩)⟩) b1 b2 zk b9
  have e2 := (rl_zp h).2.1
  unfold hX_X7_instruction
  rw [eo, e2, if_neg (show ¬ nI 3 = (-1) by decide), if_neg (show ¬ nI 3 = nI 7 by decide), if_neg (show ¬ nI 10 ≤ nI 3 by decide), if_neg (show ¬ nI 3 = 0 by decide), if_neg (show ¬ nI 7 ≤ nI 3 by decide)]
  exact key
theorem ir_4 {k p : Nat} {Y X : zM} (h : rl p Y X) (hp : p < zc (X 0 1)) (h3 : X 0 3 = nI 0) (hk : Y 1 2 = nI k) (k50 : k < 50) (h59 : X 1 p ≠ nI 59) (eo : g_X7_operationOf (g_X7_next X) = nI 4) : ir k p Y X (if (g_X4_readOperands (nI 4) (yB k p (nI 4) Y)) = 0 then nI 0 else nI 1) (if (g_X4_readOperands (nI 4) (yB k p (nI 4) Y)) = 0 then h_X4_readOperands (nI 4) (yB k p (nI 4) Y) else zu (h_X4_readOperands (nI 4) (yB k p (nI 4) Y)) 1 2 (nI (zc ((h_X4_readOperands (nI 4) (yB k p (nI 4) Y)) 1 2) + 1))) (hX_X7_instruction X) := by
  obtain ⟨b1, b2, b3, b4, b5, b6, b7, b8, b9, b10, b11, b12, b13, b14⟩ := begun (op := nI 4) h hp h3 hk k50
  have zk : zc ((yB k p (nI 4) Y) 1 2) = k := by
    rw [b8]
    exact zc_nI (by omega)
  obtain ⟨g1, g2⟩ := gO_4 (yB k p (nI 4) Y)
  refine ir_fin (op := nI 4) h hp h3 hk k50 h59 ?_
  rw [g1, g2]
  have key := or_rr (k := k) (nI 4) (fun x y hx hy => ⟨⟨fun _ => hx, fun _ => hy, fun e => absurd e (by decide), fun e => absurd e (by decide), fun e => absurd e (by decide), zIn_nI (by decide) (by decide)⟩, (by
      unfold oR
      rw [if_neg (by decide), if_neg (by decide), if_neg (by decide)]
      exact ⟨rfl, rfl⟩)⟩) b1 b2 zk b9
  have e2 := (rl_zp h).2.1
  unfold hX_X7_instruction
  rw [eo, e2, if_neg (show ¬ nI 4 = (-1) by decide), if_neg (show ¬ nI 4 = nI 7 by decide), if_neg (show ¬ nI 10 ≤ nI 4 by decide), if_neg (show ¬ nI 4 = 0 by decide), if_neg (show ¬ nI 7 ≤ nI 4 by decide)]
  exact key
theorem ir_5 {k p : Nat} {Y X : zM} (h : rl p Y X) (hp : p < zc (X 0 1)) (h3 : X 0 3 = nI 0) (hk : Y 1 2 = nI k) (k50 : k < 50) (h59 : X 1 p ≠ nI 59) (eo : g_X7_operationOf (g_X7_next X) = nI 5) : ir k p Y X (if (g_X4_readOperands (nI 5) (yB k p (nI 5) Y)) = 0 then nI 0 else nI 1) (if (g_X4_readOperands (nI 5) (yB k p (nI 5) Y)) = 0 then h_X4_readOperands (nI 5) (yB k p (nI 5) Y) else zu (h_X4_readOperands (nI 5) (yB k p (nI 5) Y)) 1 2 (nI (zc ((h_X4_readOperands (nI 5) (yB k p (nI 5) Y)) 1 2) + 1))) (hX_X7_instruction X) := by
  obtain ⟨b1, b2, b3, b4, b5, b6, b7, b8, b9, b10, b11, b12, b13, b14⟩ := begun (op := nI 5) h hp h3 hk k50
  have zk : zc ((yB k p (nI 5) Y) 1 2) = k := by
    rw [b8]
    exact zc_nI (by omega)
  obtain ⟨g1, g2⟩ := gO_5 (yB k p (nI 5) Y)
  refine ir_fin (op := nI 5) h hp h3 hk k50 h59 ?_
  rw [g1, g2]
  have key := or_rr (k := k) (nI 5) (fun x y hx hy => ⟨⟨fun _ => hx, fun _ => hy, fun e => absurd e (by decide), fun e => absurd e (by decide), fun e => absurd e (by decide), zIn_nI (by decide) (by decide)⟩, (by
      unfold oR
      rw [if_neg (by decide), if_neg (by decide), if_neg (by decide)]
      exact ⟨rfl, rfl⟩)⟩) b1 b2 zk b9
  have e2 := (rl_zp h).2.1
  unfold hX_X7_instruction
  rw [eo, e2, if_neg (show ¬ nI 5 = (-1) by decide), if_neg (show ¬ nI 5 = nI 7 by decide), if_neg (show ¬ nI 10 ≤ nI 5 by decide), if_neg (show ¬ nI 5 = 0 by decide), if_neg (show ¬ nI 7 ≤ nI 5 by decide)]
  exact key
theorem ir_6 {k p : Nat} {Y X : zM} (h : rl p Y X) (hp : p < zc (X 0 1)) (h3 : X 0 3 = nI 0) (hk : Y 1 2 = nI k) (k50 : k < 50) (h59 : X 1 p ≠ nI 59) (eo : g_X7_operationOf (g_X7_next X) = nI 6) : ir k p Y X (if (g_X4_readOperands (nI 6) (yB k p (nI 6) Y)) = 0 then nI 0 else nI 1) (if (g_X4_readOperands (nI 6) (yB k p (nI 6) Y)) = 0 then h_X4_readOperands (nI 6) (yB k p (nI 6) Y) else zu (h_X4_readOperands (nI 6) (yB k p (nI 6) Y)) 1 2 (nI (zc ((h_X4_readOperands (nI 6) (yB k p (nI 6) Y)) 1 2) + 1))) (hX_X7_instruction X) := by
  obtain ⟨b1, b2, b3, b4, b5, b6, b7, b8, b9, b10, b11, b12, b13, b14⟩ := begun (op := nI 6) h hp h3 hk k50
  have zk : zc ((yB k p (nI 6) Y) 1 2) = k := by
    rw [b8]
    exact zc_nI (by omega)
  obtain ⟨g1, g2⟩ := gO_6 (yB k p (nI 6) Y)
  refine ir_fin (op := nI 6) h hp h3 hk k50 h59 ?_
  rw [g1, g2]
  have key := or_rr (k := k) (nI 6) (fun x y hx hy => ⟨⟨fun _ => hx, fun _ => hy, fun e => absurd e (by decide), fun e => absurd e (by decide), fun e => absurd e (by decide), zIn_nI (by decide) (by decide)⟩, (by
      unfold oR
      rw [if_neg (by decide), if_neg (by decide), if_neg (by decide)]
      exact ⟨rfl, rfl⟩)⟩) b1 b2 zk b9
  have e2 := (rl_zp h).2.1
  unfold hX_X7_instruction
  rw [eo, e2, if_neg (show ¬ nI 6 = (-1) by decide), if_neg (show ¬ nI 6 = nI 7 by decide), if_neg (show ¬ nI 10 ≤ nI 6 by decide), if_neg (show ¬ nI 6 = 0 by decide), if_neg (show ¬ nI 7 ≤ nI 6 by decide)]
  exact key
theorem ir_7 {k p : Nat} {Y X : zM} (h : rl p Y X) (hp : p < zc (X 0 1)) (h3 : X 0 3 = nI 0) (hk : Y 1 2 = nI k) (k50 : k < 50) (h59 : X 1 p ≠ nI 59) (eo : g_X7_operationOf (g_X7_next X) = nI 7) : ir k p Y X (if (g_X4_readOperands (nI 7) (yB k p (nI 7) Y)) = 0 then nI 0 else nI 1) (if (g_X4_readOperands (nI 7) (yB k p (nI 7) Y)) = 0 then h_X4_readOperands (nI 7) (yB k p (nI 7) Y) else zu (h_X4_readOperands (nI 7) (yB k p (nI 7) Y)) 1 2 (nI (zc ((h_X4_readOperands (nI 7) (yB k p (nI 7) Y)) 1 2) + 1))) (hX_X7_instruction X) := by
  obtain ⟨b1, b2, b3, b4, b5, b6, b7, b8, b9, b10, b11, b12, b13, b14⟩ := begun (op := nI 7) h hp h3 hk k50
  have zk : zc ((yB k p (nI 7) Y) 1 2) = k := by
    rw [b8]
    exact zc_nI (by omega)
  obtain ⟨g1, g2⟩ := gO_7 (yB k p (nI 7) Y)
  refine ir_fin (op := nI 7) h hp h3 hk k50 h59 ?_
  rw [g1, g2]
  have key := or_p (k := k) b1 b2 zk b9 b11
  have e2 := (rl_zp h).2.1
  unfold hX_X7_instruction
  rw [eo, e2, if_neg (show ¬ nI 7 = (-1) by decide), if_pos (show nI 7 = nI 7 by decide)]
  exact key
theorem ir_8 {k p : Nat} {Y X : zM} (h : rl p Y X) (hp : p < zc (X 0 1)) (h3 : X 0 3 = nI 0) (hk : Y 1 2 = nI k) (k50 : k < 50) (h59 : X 1 p ≠ nI 59) (eo : g_X7_operationOf (g_X7_next X) = nI 8) : ir k p Y X (if (g_X4_readOperands (nI 8) (yB k p (nI 8) Y)) = 0 then nI 0 else nI 1) (if (g_X4_readOperands (nI 8) (yB k p (nI 8) Y)) = 0 then h_X4_readOperands (nI 8) (yB k p (nI 8) Y) else zu (h_X4_readOperands (nI 8) (yB k p (nI 8) Y)) 1 2 (nI (zc ((h_X4_readOperands (nI 8) (yB k p (nI 8) Y)) 1 2) + 1))) (hX_X7_instruction X) := by
  obtain ⟨b1, b2, b3, b4, b5, b6, b7, b8, b9, b10, b11, b12, b13, b14⟩ := begun (op := nI 8) h hp h3 hk k50
  have zk : zc ((yB k p (nI 8) Y) 1 2) = k := by
    rw [b8]
    exact zc_nI (by omega)
  obtain ⟨g1, g2⟩ := gO_8 (yB k p (nI 8) Y)
  refine ir_fin (op := nI 8) h hp h3 hk k50 h59 ?_
  rw [g1, g2]
  have key := or_rp (k := k) (nI 8) (fun x y hx hy => ⟨⟨fun _ => hx, fun e => absurd e (by decide), fun e => absurd e (by decide), fun _ => hy, fun e => absurd e (by decide), zIn_nI (by decide) (by decide)⟩, (by
      unfold oR
      rw [if_neg (by decide), if_neg (by decide), if_neg (by decide)]
      exact ⟨rfl, rfl⟩)⟩) b1 b2 zk b9
  have e2 := (rl_zp h).2.1
  unfold hX_X7_instruction
  rw [eo, e2, if_neg (show ¬ nI 8 = (-1) by decide), if_neg (show ¬ nI 8 = nI 7 by decide), if_neg (show ¬ nI 10 ≤ nI 8 by decide), if_neg (show ¬ nI 8 = 0 by decide), if_pos (show nI 7 ≤ nI 8 by decide)]
  exact key
theorem ir_9 {k p : Nat} {Y X : zM} (h : rl p Y X) (hp : p < zc (X 0 1)) (h3 : X 0 3 = nI 0) (hk : Y 1 2 = nI k) (k50 : k < 50) (h59 : X 1 p ≠ nI 59) (eo : g_X7_operationOf (g_X7_next X) = nI 9) : ir k p Y X (if (g_X4_readOperands (nI 9) (yB k p (nI 9) Y)) = 0 then nI 0 else nI 1) (if (g_X4_readOperands (nI 9) (yB k p (nI 9) Y)) = 0 then h_X4_readOperands (nI 9) (yB k p (nI 9) Y) else zu (h_X4_readOperands (nI 9) (yB k p (nI 9) Y)) 1 2 (nI (zc ((h_X4_readOperands (nI 9) (yB k p (nI 9) Y)) 1 2) + 1))) (hX_X7_instruction X) := by
  obtain ⟨b1, b2, b3, b4, b5, b6, b7, b8, b9, b10, b11, b12, b13, b14⟩ := begun (op := nI 9) h hp h3 hk k50
  have zk : zc ((yB k p (nI 9) Y) 1 2) = k := by
    rw [b8]
    exact zc_nI (by omega)
  obtain ⟨g1, g2⟩ := gO_9 (yB k p (nI 9) Y)
  refine ir_fin (op := nI 9) h hp h3 hk k50 h59 ?_
  rw [g1, g2]
  have key := or_rp (k := k) (nI 9) (fun x y hx hy => ⟨⟨fun _ => hx, fun e => absurd e (by decide), fun e => absurd e (by decide), fun _ => hy, fun e => absurd e (by decide), zIn_nI (by decide) (by decide)⟩, (by
      unfold oR
      rw [if_neg (by decide), if_neg (by decide), if_neg (by decide)]
      exact ⟨rfl, rfl⟩)⟩) b1 b2 zk b9
  have e2 := (rl_zp h).2.1
  unfold hX_X7_instruction
  rw [eo, e2, if_neg (show ¬ nI 9 = (-1) by decide), if_neg (show ¬ nI 9 = nI 7 by decide), if_neg (show ¬ nI 10 ≤ nI 9 by decide), if_neg (show ¬ nI 9 = 0 by decide), if_pos (show nI 7 ≤ nI 9 by decide)]
  exact key
theorem ir_10 {k p : Nat} {Y X : zM} (h : rl p Y X) (hp : p < zc (X 0 1)) (h3 : X 0 3 = nI 0) (hk : Y 1 2 = nI k) (k50 : k < 50) (h59 : X 1 p ≠ nI 59) (eo : g_X7_operationOf (g_X7_next X) = nI 10) : ir k p Y X (if (g_X4_readOperands (nI 10) (yB k p (nI 10) Y)) = 0 then nI 0 else nI 1) (if (g_X4_readOperands (nI 10) (yB k p (nI 10) Y)) = 0 then h_X4_readOperands (nI 10) (yB k p (nI 10) Y) else zu (h_X4_readOperands (nI 10) (yB k p (nI 10) Y)) 1 2 (nI (zc ((h_X4_readOperands (nI 10) (yB k p (nI 10) Y)) 1 2) + 1))) (hX_X7_instruction X) := by
  obtain ⟨b1, b2, b3, b4, b5, b6, b7, b8, b9, b10, b11, b12, b13, b14⟩ := begun (op := nI 10) h hp h3 hk k50
  have zk : zc ((yB k p (nI 10) Y) 1 2) = k := by
    rw [b8]
    exact zc_nI (by omega)
  obtain ⟨g1, g2⟩ := gO_10 (yB k p (nI 10) Y)
  refine ir_fin (op := nI 10) h hp h3 hk k50 h59 ?_
  rw [g1, g2]
  have key := or_0 (k := k) (o := 10) (by decide) b1 b2 b4 b5 b10 b11
  have e2 := (rl_zp h).2.1
  unfold hX_X7_instruction
  rw [eo, e2, if_neg (show ¬ nI 10 = (-1) by decide), if_neg (show ¬ nI 10 = nI 7 by decide), if_pos (show nI 10 ≤ nI 10 by decide)]
  exact key
theorem ir_11 {k p : Nat} {Y X : zM} (h : rl p Y X) (hp : p < zc (X 0 1)) (h3 : X 0 3 = nI 0) (hk : Y 1 2 = nI k) (k50 : k < 50) (h59 : X 1 p ≠ nI 59) (eo : g_X7_operationOf (g_X7_next X) = nI 11) : ir k p Y X (if (g_X4_readOperands (nI 11) (yB k p (nI 11) Y)) = 0 then nI 0 else nI 1) (if (g_X4_readOperands (nI 11) (yB k p (nI 11) Y)) = 0 then h_X4_readOperands (nI 11) (yB k p (nI 11) Y) else zu (h_X4_readOperands (nI 11) (yB k p (nI 11) Y)) 1 2 (nI (zc ((h_X4_readOperands (nI 11) (yB k p (nI 11) Y)) 1 2) + 1))) (hX_X7_instruction X) := by
  obtain ⟨b1, b2, b3, b4, b5, b6, b7, b8, b9, b10, b11, b12, b13, b14⟩ := begun (op := nI 11) h hp h3 hk k50
  have zk : zc ((yB k p (nI 11) Y) 1 2) = k := by
    rw [b8]
    exact zc_nI (by omega)
  obtain ⟨g1, g2⟩ := gO_11 (yB k p (nI 11) Y)
  refine ir_fin (op := nI 11) h hp h3 hk k50 h59 ?_
  rw [g1, g2]
  have key := or_0 (k := k) (o := 11) (by decide) b1 b2 b4 b5 b10 b11
  have e2 := (rl_zp h).2.1
  unfold hX_X7_instruction
  rw [eo, e2, if_neg (show ¬ nI 11 = (-1) by decide), if_neg (show ¬ nI 11 = nI 7 by decide), if_pos (show nI 10 ≤ nI 11 by decide)]
  exact key
theorem ir_all {k p : Nat} {Y X : zM} (h : rl p Y X) (h3 : X 0 3 = nI 0) (hk : Y 1 2 = nI k) (hkp : 2 * k ≤ p) : ir k p Y X (g_X4_readInstruction Y) (h_X4_readInstruction Y) (hX_X7_instruction X) := by
  obtain ⟨c, kc⟩ := rl_nx h
  obtain ⟨h1, h2⟩ := rl_L h
  obtain ⟨z1, z2, z3⟩ := rl_zp h
  have b1 := kc.1
  have zk : zc (Y 1 2) = k := by
    rw [hk]
    exact zc_nI (by omega)
  have bad : g_X7_operationOf (g_X7_next X) = -1 → wl p Y (hX_X7_instruction X) := by
    intro e
    unfold hX_X7_instruction
    rw [if_pos e]
    exact ⟨rl_zu (rl_zu (rl_zu (rl_zu h (by decide)) (by decide)) (by decide)) (by decide), by rw [zu_s]⟩
  unfold g_X4_readInstruction h_X4_readInstruction
  rw [z1, z3, zk]
  rcases kc.2.2 with ⟨k4, k5, k6, k7⟩ | ⟨k4, k5⟩
  · rw [if_neg (nI_ge k4 (by omega)), if_neg (nI_ge k4 (by omega)), k6, op_of c (by omega), if_pos (nI_lt (show k < 50 by omega) (by decide)), if_pos (nI_lt (show k < 50 by omega) (by decide))]
    have eo : g_X7_operationOf (g_X7_next X) = g_X7_operationOf (nI c) := by rw [kc.2.1]
    have c59 : g_X7_operationOf (nI c) ≠ -1 → X 1 p ≠ nI 59 := by
      intro e q
      rw [← k5, q] at e
      exact e op_59
    rcases op_cs c (by omega) with e | e | e | e | e | e | e | e | e | e | e | e | e
    · rw [e, if_neg (show ¬ (0 : Int32) ≤ -1 by decide), if_neg (show ¬ (0 : Int32) ≤ -1 by decide)]
      exact Or.inr ⟨rfl, p, bad (eo.trans e)⟩
    · rw [e, if_pos (show (0 : Int32) ≤ nI 0 by decide), if_pos (show (0 : Int32) ≤ nI 0 by decide)]
      exact ir_0 h k4 h3 hk (by omega) (c59 (by rw [e]; decide)) (eo.trans e)
    · rw [e, if_pos (show (0 : Int32) ≤ nI 1 by decide), if_pos (show (0 : Int32) ≤ nI 1 by decide)]
      exact ir_1 h k4 h3 hk (by omega) (c59 (by rw [e]; decide)) (eo.trans e)
    · rw [e, if_pos (show (0 : Int32) ≤ nI 2 by decide), if_pos (show (0 : Int32) ≤ nI 2 by decide)]
      exact ir_2 h k4 h3 hk (by omega) (c59 (by rw [e]; decide)) (eo.trans e)
    · rw [e, if_pos (show (0 : Int32) ≤ nI 3 by decide), if_pos (show (0 : Int32) ≤ nI 3 by decide)]
      exact ir_3 h k4 h3 hk (by omega) (c59 (by rw [e]; decide)) (eo.trans e)
    · rw [e, if_pos (show (0 : Int32) ≤ nI 4 by decide), if_pos (show (0 : Int32) ≤ nI 4 by decide)]
      exact ir_4 h k4 h3 hk (by omega) (c59 (by rw [e]; decide)) (eo.trans e)
    · rw [e, if_pos (show (0 : Int32) ≤ nI 5 by decide), if_pos (show (0 : Int32) ≤ nI 5 by decide)]
      exact ir_5 h k4 h3 hk (by omega) (c59 (by rw [e]; decide)) (eo.trans e)
    · rw [e, if_pos (show (0 : Int32) ≤ nI 6 by decide), if_pos (show (0 : Int32) ≤ nI 6 by decide)]
      exact ir_6 h k4 h3 hk (by omega) (c59 (by rw [e]; decide)) (eo.trans e)
    · rw [e, if_pos (show (0 : Int32) ≤ nI 7 by decide), if_pos (show (0 : Int32) ≤ nI 7 by decide)]
      exact ir_7 h k4 h3 hk (by omega) (c59 (by rw [e]; decide)) (eo.trans e)
    · rw [e, if_pos (show (0 : Int32) ≤ nI 8 by decide), if_pos (show (0 : Int32) ≤ nI 8 by decide)]
      exact ir_8 h k4 h3 hk (by omega) (c59 (by rw [e]; decide)) (eo.trans e)
    · rw [e, if_pos (show (0 : Int32) ≤ nI 9 by decide), if_pos (show (0 : Int32) ≤ nI 9 by decide)]
      exact ir_9 h k4 h3 hk (by omega) (c59 (by rw [e]; decide)) (eo.trans e)
    · rw [e, if_pos (show (0 : Int32) ≤ nI 10 by decide), if_pos (show (0 : Int32) ≤ nI 10 by decide)]
      exact ir_10 h k4 h3 hk (by omega) (c59 (by rw [e]; decide)) (eo.trans e)
    · rw [e, if_pos (show (0 : Int32) ≤ nI 11 by decide), if_pos (show (0 : Int32) ≤ nI 11 by decide)]
      exact ir_11 h k4 h3 hk (by omega) (c59 (by rw [e]; decide)) (eo.trans e)
  · rw [if_pos (nI_le k4 (by omega)), if_pos (nI_le k4 (by omega))]
    refine Or.inr ⟨rfl, p, bad ?_⟩
    rw [kc.2.1, k5]
    decide
