/-! the acting methods' single changes -/
section MV
variable {M N : zM} {B : Nat}
theorem sB_gen {c i : Nat} {x : Int32} (h : sB B M N) (hc : c = 5 ∨ c = 6 ∨ c = 7 ∨ c = 8 ∨ c = 9 ∨ c = 12 ∨ c = 15 ∨ c = 17) : sB B (zu M c i x) (zu N c i x) :=
  ⟨sim_zu h.1 (by omega) (by omega) (by omega) (by omega) (by omega) (by omega), zOK_u (by omega) (by omega) (by omega) h.2.1, sh_zu h.2.2.1 (by omega) (by omega), rOK_u h.2.2.2 (by omega) (by omega) (by omega) (by omega) (by omega) (by omega) (by omega) (by omega) (by omega)⟩
theorem sB_wd {i : Nat} {x : Int32} (h : sB B M N) (hx : sh x) : sB B (zu M 13 i x) (zu N 13 i x) :=
  ⟨sim_zu h.1 (by omega) (by omega) (by omega) (by omega) (by omega) (by omega), zOK_u (by omega) (by omega) (by omega) h.2.1, sh_wd h.2.2.1 hx, rOK_u h.2.2.2 (by omega) (by omega) (by omega) (by omega) (by omega) (by omega) (by omega) (by omega) (by omega)⟩
theorem sB_rg {t i : Nat} {x : Int32} (h : sB B M N) (hx : sh x) : sB B (zu M (t + 20) i x) (zu N (t + 20) i x) :=
  ⟨sim_zu h.1 (by omega) (by omega) (by omega) (by omega) (by omega) (by omega), zOK_u (by omega) (by omega) (by omega) h.2.1, sh_rg h.2.2.1 hx, rOK_u h.2.2.2 (by omega) (by omega) (by omega) (by omega) (by omega) (by omega) (by omega) (by omega) (by omega)⟩
theorem sB_st {t : Nat} {x : Int32} (h : sB B M N) (hx : x ≠ nI 2) : sB B (zu M 0 t x) (zu N 0 t x) :=
  ⟨sim_0 h.1 hx, zOK_u (by omega) (by omega) (by omega) h.2.1, sh_zu h.2.2.1 (by omega) (by omega), rOK_0 h.2.2.2 hx⟩
theorem sB_pc {t : Nat} {x : Int32} (h : sB B M N) (hx : zIn x 49) : sB B (zu M 1 t x) (zu N 1 t x) :=
  ⟨sim_zu h.1 (by omega) (by omega) (by omega) (by omega) (by omega) (by omega), zOK_u (by omega) (by omega) (by omega) h.2.1, sh_zu h.2.2.1 (by omega) (by omega), rOK_1 h.2.2.2 hx⟩
theorem sB_sl {i : Nat} {x : Int32} (h : sB B M N) (hx : zIn x 4) : sB B (zu M 14 i x) (zu N 14 i x) := by
  refine ⟨sim_zu h.1 (by omega) (by omega) (by omega) (by omega) (by omega) (by omega), zOK_u (by omega) (by omega) (by omega) h.2.1, sh_zu h.2.2.1 (by omega) (by omega), ?_⟩
  have r := h.2.2.2
  unfold rOK
  rw [zu_c N i x (show 0 ≠ 14 by decide), zu_c N i x (show 1 ≠ 14 by decide), zu_c N i x (show 2 ≠ 14 by decide), zu_c N i x (show 3 ≠ 14 by decide), zu_c N i x (show 10 ≠ 14 by decide), zu_c N i x (show 11 ≠ 14 by decide), zu_c N i x (show 16 ≠ 14 by decide), zu_c N i x (show 18 ≠ 14 by decide)]
  refine ⟨r.1, r.2.1, r.2.2.1, fun k hk => ?_, r.2.2.2.2.1, r.2.2.2.2.2.1, r.2.2.2.2.2.2⟩
  by_cases e : k = i
  · subst e
    rw [zu_s]
    exact hx
  · rw [zu_i _ _ _ e]
    exact r.2.2.2.1 k hk
theorem sB_halt {t : Nat} (h : sB B M N) : sB B (h_X0_haltNow t M) (zu (zu N 0 t (nI 0)) 8 t (nI 0)) := sB_gen (sB_st h (by decide)) (by omega)
def q_fill (t : Nat) : Nat → Nat → zM → zM
  | 0, i, N => N
  | n + 1, i, N => q_fill t n (i + 1) (zu N (t + 20) i (nI 0))
theorem sh_0 : sh (nI 0) := by
  unfold sh
  decide
theorem sB_fill {t : Nat} : ∀ (n i : Nat) (M N : zM), sB B M N → sB B (h_fill_rg_lp t (nI 0) n i M) (q_fill t n i N) := by
  intro n
  induction n with
  | zero => exact fun _ _ _ h => h
  | succ n ih =>
    intro i M N h
    simp only [h_fill_rg_lp, q_fill]
    exact ih _ _ _ (sB_rg h sh_0)
theorem q_fill_zu {t : Nat} {c j : Nat} {x : Int32} (hc : c < 20) : ∀ (n i : Nat) (N : zM), q_fill t n i (zu N c j x) = zu (q_fill t n i N) c j x := by
  intro n
  induction n with
  | zero => exact fun _ _ => rfl
  | succ n ih =>
    intro i N
    simp only [q_fill]
    rw [zu_comm N _ _ _ _ (show c ≠ t + 20 by omega), ih]
theorem st_eq (thread place : Int32) (P X : zM) (had : Int32) : ∀ (n i : Nat) (N : zM), hN_X7_start_lp thread place n had i N P X = zu (zu (q_fill (zc thread) n i N) 5 (zc thread) (-1)) 8 (zc thread) (nI 0) := by
  intro n
  induction n with
  | zero => exact fun _ _ => rfl
  | succ n ih =>
    intro i N
    simp only [hN_X7_start_lp, q_fill]
    exact ih _ _
theorem sB_begin {thread place : Int32} {P X : zM} {had : Int32} (h : sB B M N) (hp : zIn place 49) : sB B (h_X0_startAt (zc thread) place M) (hN_X7_start_lp thread place 4 had 0 (zu (zu N 0 (zc thread) (nI 1)) 1 (zc thread) place) P X) := by
  rw [st_eq, q_fill_zu (by decide), q_fill_zu (by decide)]
  exact sB_gen (sB_gen (sB_pc (sB_st (sB_fill 4 0 M N h) (by decide)) hp) (by omega)) (by omega)
end MV
