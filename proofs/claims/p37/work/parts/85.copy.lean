/-! a copy is the same machine -/
theorem cf_v10 (Z : Nat → zM) (k2 : Nat) (M : zM) {i : Nat} (hi : i < 48) : h_X3_copyFrom Z k2 M 10 i = Z k2 10 i := by
  unfold h_X3_copyFrom
  simp only [h_X3_copyFrom_lp.eq_2]
  unfold h_X3_copyFrom_lp h_X5_copyFrom h_X2_copyRows
  simp (disch := omega) only [zu_c, zr_n, zr_s]
  exact va_cpy_in _ _ hi
theorem cf_v11 (Z : Nat → zM) (k2 : Nat) (M : zM) {i : Nat} (hi : i < 96) : h_X3_copyFrom Z k2 M 11 i = Z k2 11 i := by
  unfold h_X3_copyFrom
  simp only [h_X3_copyFrom_lp.eq_2]
  unfold h_X3_copyFrom_lp h_X5_copyFrom h_X2_copyRows
  simp (disch := omega) only [zu_c, zr_n, zr_s]
  exact va_cpy_in _ _ hi
theorem cf_v12 (Z : Nat → zM) (k2 : Nat) (M : zM) {i : Nat} (hi : i < 48) : h_X3_copyFrom Z k2 M 12 i = Z k2 12 i := by
  unfold h_X3_copyFrom
  simp only [h_X3_copyFrom_lp.eq_2]
  unfold h_X3_copyFrom_lp h_X5_copyFrom h_X2_copyRows
  simp (disch := omega) only [zu_c, zr_n, zr_s]
  exact va_cpy_in _ _ hi
theorem cf_v13 (Z : Nat → zM) (k2 : Nat) (M : zM) {i : Nat} (hi : i < 32) : h_X3_copyFrom Z k2 M 13 i = Z k2 13 i := by
  unfold h_X3_copyFrom
  simp only [h_X3_copyFrom_lp.eq_2]
  unfold h_X3_copyFrom_lp h_X5_copyFrom h_X2_copyRows
  simp (disch := omega) only [zu_c, zr_n, zr_s]
  exact va_cpy_in _ _ hi
theorem cf_v14 (Z : Nat → zM) (k2 : Nat) (M : zM) {i : Nat} (hi : i < 8) : h_X3_copyFrom Z k2 M 14 i = Z k2 14 i := by
  unfold h_X3_copyFrom
  simp only [h_X3_copyFrom_lp.eq_2]
  unfold h_X3_copyFrom_lp h_X5_copyFrom h_X2_copyRows
  simp (disch := omega) only [zu_c, zr_n, zr_s]
  exact va_cpy_in _ _ hi
theorem cf_v15 (Z : Nat → zM) (k2 : Nat) (M : zM) {i : Nat} (hi : i < 2) : h_X3_copyFrom Z k2 M 15 i = Z k2 15 i := by
  unfold h_X3_copyFrom
  simp only [h_X3_copyFrom_lp.eq_2]
  unfold h_X3_copyFrom_lp h_X5_copyFrom h_X2_copyRows
  simp (disch := omega) only [zu_c, zr_n, zr_s]
  exact va_cpy_in _ _ hi
theorem cf_v19 (Z : Nat → zM) (k2 : Nat) (M : zM) {i : Nat} (hi : i < 48) : h_X3_copyFrom Z k2 M 19 i = Z k2 19 i := by
  unfold h_X3_copyFrom
  simp only [h_X3_copyFrom_lp.eq_2]
  unfold h_X3_copyFrom_lp h_X5_copyFrom h_X2_copyRows
  simp (disch := omega) only [zu_c, zr_n, zr_s]
  exact va_cpy_in _ _ hi
theorem cf_v16 (Z : Nat → zM) (k2 : Nat) (M : zM) : h_X3_copyFrom Z k2 M 16 0 = Z k2 16 0 := by
  unfold h_X3_copyFrom
  simp only [h_X3_copyFrom_lp.eq_2]
  unfold h_X3_copyFrom_lp
  simp (disch := omega) only [zu_c, zu_s]
theorem cf_v17 (Z : Nat → zM) (k2 : Nat) (M : zM) : h_X3_copyFrom Z k2 M 17 0 = Z k2 17 0 := by
  unfold h_X3_copyFrom
  simp only [h_X3_copyFrom_lp.eq_2]
  unfold h_X3_copyFrom_lp
  simp (disch := omega) only [zu_c, zu_s]
theorem va_cpy_out {α : Type} (f g : Nat → α) {n i : Nat} (h : n ≤ i) : va_cpy f g 0 0 n i = g i := by
  unfold va_cpy
  rw [if_neg (by omega)]
theorem cf_keep (Z : Nat → zM) (k2 t : Nat) (M : zM) {c : Nat} (h1 : 10 ≤ c) (h2 : c < 20) : h_X0_copyFrom Z k2 t M c = M c := by
  unfold h_X0_copyFrom
  simp (disch := omega) only [zu_c, zr_n]
theorem cf_o10 (Z : Nat → zM) (k2 : Nat) (M : zM) {i : Nat} (hi : 48 ≤ i) : h_X3_copyFrom Z k2 M 10 i = M 10 i := by
  unfold h_X3_copyFrom
  simp only [h_X3_copyFrom_lp.eq_2]
  unfold h_X3_copyFrom_lp h_X5_copyFrom h_X2_copyRows
  simp (disch := omega) only [zu_c, zr_n, zr_s, cf_keep]
  exact va_cpy_out _ _ hi
theorem cf_o11 (Z : Nat → zM) (k2 : Nat) (M : zM) {i : Nat} (hi : 96 ≤ i) : h_X3_copyFrom Z k2 M 11 i = M 11 i := by
  unfold h_X3_copyFrom
  simp only [h_X3_copyFrom_lp.eq_2]
  unfold h_X3_copyFrom_lp h_X5_copyFrom h_X2_copyRows
  simp (disch := omega) only [zu_c, zr_n, zr_s, cf_keep]
  exact va_cpy_out _ _ hi
theorem cf_r (Z : Nat → zM) (k2 t : Nat) (M : zM) (t' : Nat) : h_X0_copyFrom Z k2 t M (t' + 20) = if t' = t then va_cpy (Z k2 (t + 20)) (M (t + 20)) 0 0 4 else M (t' + 20) := by
  by_cases e : t' = t
  · subst e
    rw [if_pos rfl]
    unfold h_X0_copyFrom
    simp (disch := omega) only [zu_c, zr_s]
  · rw [if_neg e]
    unfold h_X0_copyFrom
    simp (disch := omega) only [zu_c, zr_n]
theorem cf_rg (Z : Nat → zM) (k2 : Nat) (M : zM) {t i : Nat} (ht : t < 4) (hi : i < 4) : h_X3_copyFrom Z k2 M (t + 20) i = Z k2 (t + 20) i := by
  unfold h_X3_copyFrom
  simp only [h_X3_copyFrom_lp.eq_2]
  rw [cf_tail _ _ _ _ (Or.inr (by omega))]
  have key : ∀ t, t < 4 → h_X0_copyFrom Z k2 (0 + 1 + 1 + 1) (h_X0_copyFrom Z k2 (0 + 1 + 1) (h_X0_copyFrom Z k2 (0 + 1) (h_X0_copyFrom Z k2 0 M))) (t + 20) = va_cpy (Z k2 (t + 20)) (M (t + 20)) 0 0 4 := by
    refine fun t ht => z4 (P := fun t => h_X0_copyFrom Z k2 (0 + 1 + 1 + 1) (h_X0_copyFrom Z k2 (0 + 1 + 1) (h_X0_copyFrom Z k2 (0 + 1) (h_X0_copyFrom Z k2 0 M))) (t + 20) = va_cpy (Z k2 (t + 20)) (M (t + 20)) 0 0 4) ?_ ?_ ?_ ?_ ht
    · rw [cf_r, if_neg (by decide), cf_r, if_neg (by decide), cf_r, if_neg (by decide), cf_r, if_pos rfl]
    · rw [cf_r, if_neg (by decide), cf_r, if_neg (by decide), cf_r, if_pos (by decide), cf_r, if_neg (by decide)]
    · rw [cf_r, if_neg (by decide), cf_r, if_pos (by decide), cf_r, if_neg (by decide), cf_r, if_neg (by decide)]
    · rw [cf_r, if_pos (by decide), cf_r, if_neg (by decide), cf_r, if_neg (by decide), cf_r, if_neg (by decide)]
  rw [key t ht]
  exact va_cpy_in _ _ hi
/-- the rows of the program that nobody writes -/
def xR (M : zM) : Prop := (∀ i, 48 ≤ i → i < 50 → M 10 i = nI 11) ∧ (∀ i, 96 ≤ i → i < 100 → M 11 i = (-100005))
theorem cf_all {Z : Nat → zM} {k2 : Nat} {M : zM} (h1 : xR (Z k2)) (h2 : xR M) : ∀ c i, i < zlen c → h_X3_copyFrom Z k2 M c i = Z k2 c i := by
  intro c i hi
  have hc : c < 24 := by
    refine Nat.lt_of_not_le (fun q => ?_)
    have e : zlen c = 0 := by
      unfold zlen
      rw [if_neg (by omega), if_neg (by omega), if_neg (by omega), if_neg (by omega), if_neg (by omega), if_neg (by omega), if_neg (by omega), if_neg (by omega), if_neg (by omega), if_neg (by omega), if_neg (by omega)]
    omega
  by_cases c1 : c < 10
  · have e : zlen c = 4 := if_pos c1
    exact cf_c _ _ _ c1 (by omega)
  · by_cases c2 : 20 ≤ c
    · obtain ⟨t, rfl⟩ : ∃ t, c = t + 20 := ⟨c - 20, by omega⟩
      have e : zlen (t + 20) = 4 := by
        unfold zlen
        rw [if_neg (by omega), if_neg (by omega), if_neg (by omega), if_neg (by omega), if_neg (by omega), if_neg (by omega), if_neg (by omega), if_neg (by omega), if_neg (by omega), if_neg (by omega), if_pos (by omega)]
      exact cf_rg _ _ _ (by omega) (by omega)
    · obtain ⟨d, rfl⟩ : ∃ d, c = d + 10 := ⟨c - 10, by omega⟩
      have hd : d < 10 := by omega
      match d, hd with
      | 0, _ =>
        by_cases q : i < 48
        · exact cf_v10 _ _ _ q
        · exact (cf_o10 _ _ _ (by omega)).trans ((h2.1 i (by omega) hi).trans (h1.1 i (by omega) hi).symm)
      | 1, _ =>
        by_cases q : i < 96
        · exact cf_v11 _ _ _ q
        · exact (cf_o11 _ _ _ (by omega)).trans ((h2.2 i (by omega) hi).trans (h1.2 i (by omega) hi).symm)
      | 2, _ => exact cf_v12 _ _ _ hi
      | 3, _ => exact cf_v13 _ _ _ hi
      | 4, _ => exact cf_v14 _ _ _ hi
      | 5, _ => exact cf_v15 _ _ _ hi
      | 6, _ =>
        have e : i = 0 := by
          have : i < 1 := hi
          omega
        subst e
        exact cf_v16 _ _ _
      | 7, _ =>
        have e : i = 0 := by
          have : i < 1 := hi
          omega
        subst e
        exact cf_v17 _ _ _
      | 8, _ => exact cf_18 _ _ _ hi
      | 9, _ => exact cf_v19 _ _ _ hi
      | n + 10, h => exact absurd h (by omega)
/-- the world behind a copy: the machine k is the machine k2 -/
theorem zP_copy {D : va_G} {a : Nat → Nat} {ca : Nat → ClassId} {Z : Nat → zM} {k k2 : Nat} {H : Heap} (h1 : xR (Z k2)) (h2 : xR (Z k)) (hk : k < 6) (hP : va_P D vwCl (zW a ca (va_up Z k (h_X3_copyFrom Z k2 (Z k)))) H) : va_P D vwCl (zW a ca (va_up Z k (Z k2))) H := by
  refine zP_congr (fun j hj c i hi => ?_) (fun c i hi => ?_) hP
  · by_cases e : j = k
    · subst e
      rw [va_up_self, va_up_self]
      exact cf_all h1 h2 c i hi
    · rw [va_up_ne _ _ e, va_up_ne _ _ e]
  · rw [va_up_ne _ _ (by omega), va_up_ne _ _ (by omega)]
