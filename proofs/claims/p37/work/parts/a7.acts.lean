/-! the trial machine has no word in what the actions do -/
theorem tz_n {T : zM} {Z : Nat → zM} {k : Nat} (h : k ≠ 1) : va_up Z 1 T k = Z k := va_up_ne _ _ h
theorem tz_n0 {T : zM} {Z : Nat → zM} : va_up Z 1 T 0 = Z 0 := va_up_ne _ _ (by decide)
theorem tz_n6 {T : zM} {Z : Nat → zM} : va_up Z 1 T 6 = Z 6 := va_up_ne _ _ (by decide)
theorem tz_n2 {T : zM} {Z : Nat → zM} {j : Nat} : va_up Z 1 T (2 + j) = Z (2 + j) := va_up_ne _ _ (by omega)
theorem tz_c {T M : zM} {Z : Nat → zM} {k : Nat} (h : k ≠ 1) : va_up (va_up Z 1 T) k M = va_up (va_up Z k M) 1 T := by
  funext j
  by_cases e : j = k
  · rw [e, va_up_self, va_up_ne _ _ h, va_up_self]
  · rw [va_up_ne _ _ e]
    by_cases e1 : j = 1
    · rw [e1, va_up_self, va_up_self]
    · rw [va_up_ne _ _ e1, va_up_ne _ _ e1, va_up_ne _ _ e]
theorem tz_c0 {T M : zM} {Z : Nat → zM} : va_up (va_up Z 1 T) 0 M = va_up (va_up Z 0 M) 1 T := tz_c (by decide)
theorem tz_c6 {T M : zM} {Z : Nat → zM} : va_up (va_up Z 1 T) 6 M = va_up (va_up Z 6 M) 1 T := tz_c (by decide)
theorem tz_c2 {T M : zM} {Z : Nat → zM} {j : Nat} : va_up (va_up Z 1 T) (2 + j) M = va_up (va_up Z (2 + j) M) 1 T := tz_c (by omega)
theorem tz_ite {c : Prop} [Decidable c] {A B : Nat → zM} {T : zM} : (if c then va_up A 1 T else va_up B 1 T) = va_up (if c then A else B) 1 T := by
  by_cases h : c
  · rw [if_pos h, if_pos h]
  · rw [if_neg h, if_neg h]
theorem tz_rem {T : zM} {Z : Nat → zM} : h_remember2 (va_up Z 1 T) = va_up (h_remember2 Z) 1 T := by
  unfold h_remember2
  rw [tz_n6, tz_n0, tz_c2, tz_c6]
theorem tz_copy {T M : zM} {Z : Nat → zM} {c p : Nat} : h_copyRows_x (va_up Z 1 T) c p M = h_copyRows_x Z c p M := by
  unfold h_copyRows_x
  rw [tz_n6]
theorem pe_start {T : zM} {Z : Nat → zM} (x y : Int32) : g_start2 (va_up Z 1 T) x y = g_start2 Z x y ∧ h_start2 (va_up Z 1 T) x y = va_up (h_start2 Z x y) 1 T := by
  unfold g_start2 h_start2
  simp only [tz_rem, tz_n0, tz_c0, tz_ite]
  exact ⟨trivial, trivial⟩
theorem pe_halt {T : zM} {Z : Nat → zM} (x : Int32) : g_halt2 (va_up Z 1 T) x = g_halt2 Z x ∧ h_halt2 (va_up Z 1 T) x = va_up (h_halt2 Z x) 1 T := by
  unfold g_halt2 h_halt2
  simp only [tz_rem, tz_n0, tz_c0, tz_ite]
  exact ⟨trivial, trivial⟩
theorem pe_setRegister {T : zM} {Z : Nat → zM} (x y v : Int32) : g_setRegister2 (va_up Z 1 T) x y v = g_setRegister2 Z x y v ∧ h_setRegister2 (va_up Z 1 T) x y v = va_up (h_setRegister2 Z x y v) 1 T := by
  unfold g_setRegister2 h_setRegister2
  simp only [tz_rem, tz_n0, tz_c0, tz_ite]
  exact ⟨trivial, trivial⟩
theorem pe_setWord {T : zM} {Z : Nat → zM} (x y : Int32) : g_setWord2 (va_up Z 1 T) x y = g_setWord2 Z x y ∧ h_setWord2 (va_up Z 1 T) x y = va_up (h_setWord2 Z x y) 1 T := by
  unfold g_setWord2 h_setWord2
  simp only [tz_rem, tz_n0, tz_c0, tz_ite]
  exact ⟨trivial, trivial⟩
theorem pe_setSlot {T : zM} {Z : Nat → zM} (x y : Int32) : g_setSlot2 (va_up Z 1 T) x y = g_setSlot2 Z x y ∧ h_setSlot2 (va_up Z 1 T) x y = va_up (h_setSlot2 Z x y) 1 T := by
  unfold g_setSlot2 h_setSlot2
  simp only [tz_rem, tz_n0, tz_c0, tz_ite]
  exact ⟨trivial, trivial⟩
theorem pe_set {T : zM} {Z : Nat → zM} (x y : Int32) : g_set2 (va_up Z 1 T) x y = g_set2 Z x y ∧ h_set2 (va_up Z 1 T) x y = va_up (h_set2 Z x y) 1 T := by
  unfold g_set2 h_set2
  simp only [tz_rem, tz_n0, tz_c0, tz_ite]
  exact ⟨trivial, trivial⟩
theorem pe_setBreakpoint {T : zM} {Z : Nat → zM} (x y : Int32) : g_setBreakpoint2 (va_up Z 1 T) x y = g_setBreakpoint2 Z x y ∧ h_setBreakpoint2 (va_up Z 1 T) x y = va_up (h_setBreakpoint2 Z x y) 1 T := by
  unfold g_setBreakpoint2 h_setBreakpoint2
  simp only [tz_rem, tz_n0, tz_c0, tz_ite]
  exact ⟨trivial, trivial⟩
theorem pe_run {T : zM} {Z : Nat → zM} (x : Int32) : g_run2 (va_up Z 1 T) x = g_run2 Z x ∧ h_run2 (va_up Z 1 T) x = va_up (h_run2 Z x) 1 T := by
  unfold g_run2 h_run2
  simp only [tz_rem, tz_n0, tz_c0, tz_ite]
  exact ⟨trivial, trivial⟩
theorem pe_undo {T : zM} {Z : Nat → zM} : g_undo2 (va_up Z 1 T) = g_undo2 Z ∧ h_undo2 (va_up Z 1 T) = va_up (h_undo2 Z) 1 T := by
  unfold g_undo2 h_undo2 g_restore2 h_restore2
  simp only [tz_n6, tz_c6, tz_n2, tz_c0, tz_ite]
  exact ⟨trivial, trivial⟩
theorem pe_append {T : zM} {Z : Nat → zM} (x : Int32) : g_X6_append (va_up Z 1 T) x = g_X6_append Z x ∧ h_X6_append (va_up Z 1 T) x = va_up (h_X6_append Z x) 1 T := by
  unfold g_X6_append h_X6_append
  simp only [tz_n6, tz_c6, tz_ite]
  exact ⟨trivial, trivial⟩
theorem pe_clearText {T : zM} {Z : Nat → zM} : g_X6_clearText (va_up Z 1 T) = g_X6_clearText Z ∧ h_X6_clearText (va_up Z 1 T) = va_up (h_X6_clearText Z) 1 T := by
  unfold g_X6_clearText h_X6_clearText
  rw [tz_n6, tz_c6]
  exact ⟨rfl, rfl⟩
theorem pe_assemble {T : zM} {Z : Nat → zM} (x : Int32) : g_assemble2 (va_up Z 1 T) x = g_assemble2 Z x ∧ h_assemble2 (va_up Z 1 T) x = va_up (h_assemble2 Z x) 1 T := by
  unfold g_assemble2 h_assemble2
  simp only [tz_n6, tz_c6, tz_rem, tz_n0, tz_copy, tz_c0, tz_ite]
  exact ⟨trivial, trivial⟩
/-! single changes of the state -/
theorem st1_12 {M : zM} {i : Nat} {x : Int32} (hx : zIn x 2) (h : st1 M) : st1 (zu M 12 i x) := by
  obtain ⟨h0, h1, h2, h3, h4, h5, h6, h7, h8⟩ := h
  refine ⟨?_, ?_, ?_, ?_, ?_, ?_, ?_, in_zu hx h7, zOK_u (by omega) (by omega) (by omega) h8⟩
  · rw [zu_c _ _ _ (by decide)]
    exact h0
  · rw [zu_c _ _ _ (by decide)]
    exact h1
  · intro t i ht hi
    rw [zu_c _ _ _ (by omega)]
    exact h2 t i ht hi
  · rw [zu_c _ _ _ (by decide)]
    exact h3
  · rw [zu_c _ _ _ (by decide)]
    exact h4
  · rw [zu_c _ _ _ (by decide)]
    exact h5
  · rw [zu_c _ _ _ (by decide), zu_c _ _ _ (by decide)]
    exact h6
theorem st1_14 {M : zM} {i : Nat} {x : Int32} (hx : zIn x 4) (h : st1 M) : st1 (zu M 14 i x) := by
  obtain ⟨h0, h1, h2, h3, h4, h5, h6, h7, h8⟩ := h
  refine ⟨?_, ?_, ?_, ?_, in_zu hx h4, ?_, ?_, ?_, zOK_u (by omega) (by omega) (by omega) h8⟩
  · rw [zu_c _ _ _ (by decide)]
    exact h0
  · rw [zu_c _ _ _ (by decide)]
    exact h1
  · intro t i ht hi
    rw [zu_c _ _ _ (by omega)]
    exact h2 t i ht hi
  · rw [zu_c _ _ _ (by decide)]
    exact h3
  · rw [zu_c _ _ _ (by decide)]
    exact h5
  · rw [zu_c _ _ _ (by decide), zu_c _ _ _ (by decide)]
    exact h6
  · rw [zu_c _ _ _ (by decide)]
    exact h7
theorem st1_15 {M : zM} {i : Nat} {x : Int32} (hx0 : i = 0 → zIn x 21) (hx1 : i = 1 → zIn x 3) (h : st1 M) : st1 (zu M 15 i x) := by
  obtain ⟨h0, h1, h2, h3, h4, h5, h6, h7, h8⟩ := h
  refine ⟨?_, ?_, ?_, ?_, ?_, ⟨?_, ?_⟩, ?_, ?_, zOK_u (by omega) (by omega) (by omega) h8⟩
  · rw [zu_c _ _ _ (by decide)]
    exact h0
  · rw [zu_c _ _ _ (by decide)]
    exact h1
  · intro t i ht hi
    rw [zu_c _ _ _ (by omega)]
    exact h2 t i ht hi
  · rw [zu_c _ _ _ (by decide)]
    exact h3
  · rw [zu_c _ _ _ (by decide)]
    exact h4
  · by_cases e : 0 = i
    · rw [← e, zu_s]
      exact hx0 e.symm
    · rw [zu_i _ _ _ e]
      exact h5.1
  · by_cases e : 1 = i
    · rw [← e, zu_s]
      exact hx1 e.symm
    · rw [zu_i _ _ _ e]
      exact h5.2
  · rw [zu_c _ _ _ (by decide), zu_c _ _ _ (by decide)]
    exact h6
  · rw [zu_c _ _ _ (by decide)]
    exact h7
theorem st1_pg {M N : zM} (h : st1 M) (e : ∀ c, c ≠ 10 → c ≠ 11 → N c = M c) (hp : ∀ p, p < 48 → pgOK (N 10 p) (N 11 (p * 2)) (N 11 (p * 2 + 1))) : st1 N := by
  obtain ⟨h0, h1, h2, h3, h4, h5, h6, h7, h8⟩ := h
  refine ⟨?_, ?_, ?_, ?_, ?_, ?_, hp, ?_, ?_⟩
  · rw [e 0 (by decide) (by decide)]
    exact h0
  · rw [e 1 (by decide) (by decide)]
    exact h1
  · intro t i ht hi
    rw [e _ (by omega) (by omega)]
    exact h2 t i ht hi
  · rw [e 13 (by decide) (by decide)]
    exact h3
  · rw [e 14 (by decide) (by decide)]
    exact h4
  · rw [e 15 (by decide) (by decide)]
    exact h5
  · rw [e 12 (by decide) (by decide)]
    exact h7
  · unfold zOK
    rw [e 2 (by decide) (by decide), e 3 (by decide) (by decide), e 18 (by decide) (by decide)]
    exact h8
theorem ct1_8 {B t : Nat} {M : zM} (h : ct1 B M) : ct1 B (zu M 8 t (nI 0)) := by
  obtain ⟨h1, h2, h3, h4, h5, h6, h7⟩ := h
  have e : ∀ c, c ≠ 8 → (zu M 8 t (nI 0)) c = M c := fun c hc => zu_c _ _ _ hc
  have et : ∀ ago p, tr (zu M 8 t (nI 0)) ago p = tr M ago p := by
    intro ago p
    unfold tr
    rw [e 18 (by decide), e 19 (by decide)]
  have z0 : zc (nI 0) = 0 := rfl
  unfold ct1
  rw [e 16 (by decide), e 17 (by decide), e 6 (by decide), e 7 (by decide), e 9 (by decide), e 18 (by decide)]
  refine ⟨h1, h2, fun u hu => ?_, h4, fun u hu => ?_, h6, fun ago ha => ?_⟩
  · obtain ⟨a, b, c, d⟩ := h3 u hu
    refine ⟨a, b, ?_, d⟩
    by_cases q : u = t
    · rw [q, zu_s]
      exact ⟨Nat.succ_pos _, rfl⟩
    · rw [zu_i _ _ _ q]
      exact c
  · obtain ⟨a, b, c⟩ := h5 u hu
    refine ⟨a, ?_, c⟩
    by_cases q : u = t
    · rw [q, zu_s, z0]
      omega
    · rw [zu_i _ _ _ q]
      exact b
  · rw [et, et, et, et]
    exact h7 ago ha
theorem mOK_k {B : Nat} {M N : zM} (h : mOK B M) (hs : st1 N) (e : ∀ c, (6 ≤ c ∧ c < 12) ∨ (16 ≤ c ∧ c < 20) → N c = M c) : mOK B N :=
  ⟨hs, ct1_of h.2.1 (fun c hc => e c (by omega)), xR_e (e 10 (by omega)) (e 11 (by omega)) h.2.2⟩
theorem fill_c {c : Nat} (hc : c < 20) (t : Nat) (v : Int32) : ∀ (n i : Nat) (M : zM), (h_fill_rg_lp t v n i M) c = M c := by
  intro n
  induction n with
  | zero => exact fun _ _ => rfl
  | succ n ih =>
    intro i M
    simp only [h_fill_rg_lp]
    rw [ih, zu_c _ _ _ (by omega)]
theorem fill_s {t : Nat} {v : Int32} (hv : shq v) : ∀ (n i : Nat) (M : zM), st1 M → st1 (h_fill_rg_lp t v n i M) := by
  intro n
  induction n with
  | zero => exact fun _ _ h => h
  | succ n ih => exact fun i M h => ih _ _ (st1_rg hv h)
theorem mOK_start {B t : Nat} {M : zM} {p : Int32} (h : mOK B M) (hp : zIn p 48) : mOK B (h_X0_startAt t p M) := by
  unfold h_X0_startAt h_fill_rg
  have f := fill_s (t := t) (shq_nI (n := 0) (by decide)) 4 0 M h.1
  have k : mOK B (zu (zu (zu (h_fill_rg_lp t (nI 0) 4 0 M) 0 t (nI 1)) 1 t p) 5 t (-1)) := by
    refine mOK_k h (st1_u (by omega) (st1_1 (zIn_up hp (by decide)) (st1_0 (zIn_nI (by decide) (by decide)) f))) (fun c hc => ?_)
    rw [zu_c _ _ _ (by omega), zu_c _ _ _ (by omega), zu_c _ _ _ (by omega), fill_c (by omega)]
  exact ⟨st1_u (by omega) k.1, ct1_8 k.2.1, xR_e (zu_c _ _ _ (by decide)) (zu_c _ _ _ (by decide)) k.2.2⟩
theorem mOK_halt {B t : Nat} {M : zM} (h : mOK B M) : mOK B (h_X0_haltNow t M) := by
  unfold h_X0_haltNow
  have k : mOK B (zu M 0 t (nI 0)) := mOK_k h (st1_0 (zIn_nI (by decide) (by decide)) h.1) (fun c hc => zu_c _ _ _ (by omega))
  exact ⟨st1_u (by omega) k.1, ct1_8 k.2.1, xR_e (zu_c _ _ _ (by decide)) (zu_c _ _ _ (by decide)) k.2.2⟩
theorem shq_is {v : Int32} (h : ¬ g_X6_isValue v = 0) : shq v := by
  unfold g_X6_isValue g_X6_isWithin at h
  by_cases c1 : v < -32768
  · rw [if_pos c1] at h
    exact absurd (by decide) h
  · rw [if_neg c1] at h
    by_cases c2 : nI 32767 < v
    · rw [if_pos c2] at h
      exact absurd (by decide) h
    · rw [Int32.lt_iff_toInt_lt] at c1 c2
      have e1 : (-32768 : Int32).toInt = -32768 := by decide
      have e2 : (nI 32767).toInt = 32767 := by decide
      rw [e1] at c1
      rw [e2] at c2
      exact ⟨by omega, by omega⟩
/-! the whole object -/
def IVp (B : Nat) (Z : Nat → zM) : Prop := (∀ k, k < 6 → xR (Z k)) ∧ (∀ k, k < 6 → k ≠ 1 → mOK B (Z k)) ∧ zIn (Z 6 0 0) 4 ∧ zIn (Z 6 0 1) 5 ∧ xQ 51 (Z 6)
theorem ivp_up {B B' : Nat} {Z : Nat → zM} (h : IVp B Z) (hB : B ≤ B') : IVp B' Z := ⟨h.1, fun k hk h1 => mOK_up (h.2.1 k hk h1) hB, h.2.2⟩
theorem ivp_0 {B : Nat} {Z : Nat → zM} (h : IVp B Z) : mOK B (Z 0) := h.2.1 0 (by decide) (by decide)
theorem ivp_z {B : Nat} {Z : Nat → zM} (h : IVp B Z) : zOK (Z 0) := (ivp_0 h).1.2.2.2.2.2.2.2.2
theorem ivp_t {B : Nat} {Z : Nat → zM} {T : zM} (h : IVp B Z) (hT : xR T) : IVp B (va_up Z 1 T) := by
  refine ⟨fun k hk => ?_, fun k hk h1 => ?_, ?_, ?_, ?_⟩
  · by_cases e : k = 1
    · rw [e, va_up_self]
      exact hT
    · rw [va_up_ne _ _ e]
      exact h.1 k hk
  · rw [va_up_ne _ _ h1]
    exact h.2.1 k hk h1
  · rw [tz_n6]
    exact h.2.2.1
  · rw [tz_n6]
    exact h.2.2.2.1
  · rw [tz_n6]
    exact h.2.2.2.2
theorem rm_0 (Z : Nat → zM) : h_remember2 Z 0 = Z 0 := by
  unfold h_remember2
  rw [va_up_ne _ _ (by decide), va_up_ne _ _ (by omega)]
theorem ivp_rem {B B' : Nat} {Z : Nat → zM} {M' : zM} (h : IVp B Z) (hB : B ≤ B') (hM : mOK B' M') : IVp B' (va_up (h_remember2 Z) 0 M') := by
  obtain ⟨h1, h2, h3, h4, h5⟩ := h
  have e6 : (va_up (h_remember2 Z) 0 M') 6 = (zu (zu (Z 6) 0 0 (nI ((zc (Z 6 0 0) + 1) % 4))) 0 1 (if (nI 4) < (nI (zc (Z 6 0 1) + 1)) then (nI 4) else (nI (zc (Z 6 0 1) + 1)))) := by
    rw [va_up_ne _ _ (by decide)]
    unfold h_remember2
    rw [va_up_self]
  have ek : ∀ k, k < 6 → k ≠ 0 → (va_up (h_remember2 Z) 0 M') k = Z k ∨ (k ≠ 1 ∧ (va_up (h_remember2 Z) 0 M') k = Z 0) := by
    intro k hk h0
    rw [va_up_ne _ _ h0]
    unfold h_remember2
    rw [va_up_ne _ _ (by omega)]
    by_cases e : k = 2 + zc (Z 6 0 0)
    · rw [e, va_up_self]
      exact Or.inr ⟨by omega, rfl⟩
    · rw [va_up_ne _ _ e]
      exact Or.inl rfl
  refine ⟨fun k hk => ?_, fun k hk k1 => ?_, ?_, ?_, ?_⟩
  · by_cases e : k = 0
    · rw [e, va_up_self]
      exact hM.2.2
    · rcases ek k hk e with q | ⟨-, q⟩
      · rw [q]
        exact h1 k hk
      · rw [q]
        exact h1 0 (by decide)
  · by_cases e : k = 0
    · rw [e, va_up_self]
      exact hM
    · rcases ek k hk e with q | ⟨-, q⟩
      · rw [q]
        exact mOK_up (h2 k hk k1) hB
      · rw [q]
        exact mOK_up (h2 0 (by decide) (by decide)) hB
  · rw [e6, zu_i _ _ _ (by decide), zu_s]
    exact zIn_nI (Nat.mod_lt _ (by decide)) (by decide)
  · rw [e6, zu_s]
    have q := h4.1
    by_cases c : zc (Z 6 0 1) + 1 ≤ 4
    · rw [if_neg (nI_nlt c (by decide))]
      exact zIn_nI (by omega) (by decide)
    · rw [if_pos (nI_lt (by omega) (by omega))]
      exact zIn_nI (by decide) (by decide)
  · rw [e6]
    exact xQ_u (by decide) (xQ_u (by decide) h5)
theorem ivp_6 {B : Nat} {Z : Nat → zM} {X : zM} (h : IVp B Z) (e0 : X 0 = Z 6 0) (hx : xQ 51 X) : IVp B (va_up Z 6 X) := by
  refine ⟨fun k hk => ?_, fun k hk h1 => ?_, ?_, ?_, ?_⟩
  · rw [va_up_ne _ _ (by omega)]
    exact h.1 k hk
  · rw [va_up_ne _ _ (by omega)]
    exact h.2.1 k hk h1
  · rw [va_up_self, e0]
    exact h.2.2.1
  · rw [va_up_self, e0]
    exact h.2.2.2.1
  · rw [va_up_self]
    exact hx
section PA
variable {B : Nat} {Z : Nat → zM}
theorem pa_start (h : IVp B Z) (x y : Int32) : IVp B (h_start2 Z x y) := by
  unfold h_start2
  refine z_ite (P := IVp B) (fun _ => h) (fun _ => z_ite (P := IVp B) (fun _ => h) (fun c => ivp_rem h (Nat.le_refl _) ?_))
  rw [rm_0]
  exact mOK_start (ivp_0 h) (z_isPlace c)
theorem pa_halt (h : IVp B Z) (x : Int32) : IVp B (h_halt2 Z x) := by
  unfold h_halt2
  refine z_ite (P := IVp B) (fun _ => h) (fun _ => ivp_rem h (Nat.le_refl _) ?_)
  rw [rm_0]
  exact mOK_halt (ivp_0 h)
theorem pa_setRegister (h : IVp B Z) (x y v : Int32) : IVp B (h_setRegister2 Z x y v) := by
  unfold h_setRegister2 h_replace_rg
  refine z_ite (P := IVp B) (fun _ => h) (fun _ => z_ite (P := IVp B) (fun _ => h) (fun _ => z_ite (P := IVp B) (fun _ => h) (fun c => ivp_rem h (Nat.le_refl _) ?_)))
  rw [rm_0]
  exact mOK_k (ivp_0 h) (st1_rg (shq_is c) (ivp_0 h).1) (fun c hc => zu_c _ _ _ (by omega))
theorem pa_setWord (h : IVp B Z) (x v : Int32) : IVp B (h_setWord2 Z x v) := by
  unfold h_setWord2 h_replace_wd
  refine z_ite (P := IVp B) (fun _ => h) (fun _ => z_ite (P := IVp B) (fun _ => h) (fun c => ivp_rem h (Nat.le_refl _) ?_))
  rw [rm_0]
  exact mOK_k (ivp_0 h) (st1_13 (shq_is c) (ivp_0 h).1) (fun c hc => zu_c _ _ _ (by omega))
theorem pa_setSlot (h : IVp B Z) (x v : Int32) : IVp B (h_setSlot2 Z x v) := by
  unfold h_setSlot2 h_replace_sl
  refine z_ite (P := IVp B) (fun _ => h) (fun _ => z_ite (P := IVp B) (fun _ => h) (fun c => ivp_rem h (Nat.le_refl _) ?_))
  rw [rm_0]
  exact mOK_k (ivp_0 h) (st1_14 (z_isThread c) (ivp_0 h).1) (fun c hc => zu_c _ _ _ (by omega))
theorem pa_set (h : IVp B Z) (x v : Int32) : IVp B (h_set2 Z x v) := by
  unfold h_set2 h_replace_se
  refine z_ite (P := IVp B) (fun _ => h) (fun c1 => z_ite (P := IVp B) (fun c2 => z_ite (P := IVp B) (fun _ => h) (fun c => ivp_rem h (Nat.le_refl _) ?_)) (fun c2 => z_ite (P := IVp B) (fun _ => h) (fun c => ivp_rem h (Nat.le_refl _) ?_)))
  · rw [rm_0]
    refine mOK_k (ivp_0 h) (st1_15 (fun _ => z_within (n := 20) (by decide) c) (fun q => ?_) (ivp_0 h).1) (fun c hc => zu_c _ _ _ (by omega))
    rw [c2] at q
    exact absurd q (by decide)
  · rw [rm_0]
    refine mOK_k (ivp_0 h) (st1_15 (fun q => ?_) (fun _ => z_within (n := 2) (by decide) c) (ivp_0 h).1) (fun c hc => zu_c _ _ _ (by omega))
    exact absurd (by rw [(z_isSetting c1).2, q]; rfl) c2
theorem pa_setBreakpoint (h : IVp B Z) (x v : Int32) : IVp B (h_setBreakpoint2 Z x v) := by
  unfold h_setBreakpoint2
  refine z_ite (P := IVp B) (fun _ => h) (fun _ => z_ite (P := IVp B) (fun _ => ivp_rem h (Nat.le_refl _) ?_) (fun _ => ivp_rem h (Nat.le_refl _) ?_))
  · rw [rm_0]
    exact mOK_k (ivp_0 h) (st1_12 (zIn_nI (by decide) (by decide)) (ivp_0 h).1) (fun c hc => zu_c _ _ _ (by omega))
  · rw [rm_0]
    exact mOK_k (ivp_0 h) (st1_12 (zIn_nI (by decide) (by decide)) (ivp_0 h).1) (fun c hc => zu_c _ _ _ (by omega))
theorem pa_run (hB : B + 300 < 2 ^ 31) (h : IVp B Z) (x : Int32) : IVp (B + 200) (h_run2 Z x) := by
  unfold h_run2 h_X3_runToBreakpoint
  refine z_ite (P := IVp (B + 200)) (fun _ => ivp_up h (by omega)) (fun c => ivp_rem h (by omega) ?_)
  rw [rm_0]
  have b := (z_run c).1
  exact mOK_up (mOK_bp _ _ _ _ B (by omega) (ivp_0 h)) (by omega)
theorem pa_undo (h : IVp B Z) : IVp B (h_undo2 Z) := by
  unfold h_undo2 h_restore2
  refine z_ite (P := IVp B) (fun _ => h) (fun _ => ?_)
  obtain ⟨h1, h2, h3, h4, h5⟩ := h
  have q4 := h4.1
  have e6 : ∀ M : zM, (va_up (va_up Z 6 (zu (zu (Z 6) 0 0 (nI (((zc (Z 6 0 0) + 4) - 1) % 4))) 0 1 (nI ((zc (Z 6 0 1)) - 1)))) 0 M) 6 = (zu (zu (Z 6) 0 0 (nI (((zc (Z 6 0 0) + 4) - 1) % 4))) 0 1 (nI ((zc (Z 6 0 1)) - 1))) := fun M => by
    rw [va_up_ne _ _ (by decide), va_up_self]
  have e2 : (va_up Z 6 (zu (zu (Z 6) 0 0 (nI (((zc (Z 6 0 0) + 4) - 1) % 4))) 0 1 (nI ((zc (Z 6 0 1)) - 1)))) (2 + ((zc (Z 6 0 0) + 3) % 4)) = Z (2 + ((zc (Z 6 0 0) + 3) % 4)) := va_up_ne _ _ (by omega)
  rw [e2]
  refine ⟨fun k hk => ?_, fun k hk k1 => ?_, ?_, ?_, ?_⟩
  · by_cases e : k = 0
    · rw [e, va_up_self]
      exact h1 _ (by omega)
    · rw [va_up_ne _ _ e, va_up_ne _ _ (by omega)]
      exact h1 k hk
  · by_cases e : k = 0
    · rw [e, va_up_self]
      exact h2 _ (by omega) (by omega)
    · rw [va_up_ne _ _ e, va_up_ne _ _ (by omega)]
      exact h2 k hk k1
  · rw [e6, zu_i _ _ _ (by decide), zu_s]
    exact zIn_nI (Nat.mod_lt _ (by decide)) (by decide)
  · rw [e6, zu_s]
    exact zIn_nI (by omega) (by decide)
  · rw [e6]
    exact xQ_u (by decide) (xQ_u (by decide) h5)
theorem pa_append (h : IVp B Z) (x : Int32) : IVp B (h_X6_append Z x) := by
  unfold h_X6_append
  refine z_ite (P := IVp B) (fun _ => h) (fun _ => z_ite (P := IVp B) (fun _ => ivp_6 h ?_ (xQ_add h.2.2.2.2)) (fun _ => h))
  unfold h_X4_add
  exact z_ite (P := fun Y : zM => Y 0 = Z 6 0) (fun _ => rfl) (fun _ => by rw [zu_c _ _ _ (by decide), zu_c _ _ _ (by decide)])
theorem pa_clearText (h : IVp B Z) : IVp B (h_X6_clearText Z) := by
  unfold h_X6_clearText
  exact ivp_6 h (zu_c _ _ _ (by decide)) (xQ_0 (zIn_nI (by decide) (by decide)) h.2.2.2.2)
theorem xf_0 (X : zM) : (h_X4_findFault X) 0 = X 0 := (xF_findFault (C0 := X 0) (C2 := X 2) (L := X 1 0) ⟨rfl, rfl, rfl⟩).1
theorem pa_assemble (h : IVp B Z) (x : Int32) : IVp B (h_assemble2 Z x) := by
  unfold h_assemble2
  have hf : IVp B (va_up Z 6 (h_X4_findFault (Z 6))) := ivp_6 h (xf_0 _) (xQ_findFault h.2.2.2.2)
  have pr := PR_fault (Z 6)
  unfold PR at pr
  refine z_ite (P := IVp B) (fun _ => h) (fun cp => z_ite (P := IVp B) (fun _ => z_ite (P := IVp B) (fun cc => ivp_rem hf (Nat.le_refl _) ?_) (fun _ => hf)) (fun _ => hf))
  have bp := (z_isPlace cp).1
  have b51 := (xQ_findFault h.2.2.2.2).2.2.1.1
  have sum : zc x + zc ((h_X4_findFault (Z 6)) 1 2) ≤ 48 := (nI_leI (by omega) (by decide)).mp cc
  have m0 := ivp_0 hf
  rw [rm_0]
  unfold h_copyRows_x
  have r6 : h_remember2 (va_up Z 6 (h_X4_findFault (Z 6))) 6 3 = (h_X4_findFault (Z 6)) 3 ∧ h_remember2 (va_up Z 6 (h_X4_findFault (Z 6))) 6 4 = (h_X4_findFault (Z 6)) 4 := by
    unfold h_remember2
    rw [va_up_self, va_up_self]
    exact ⟨by rw [zu_c _ _ _ (by decide), zu_c _ _ _ (by decide)], by rw [zu_c _ _ _ (by decide), zu_c _ _ _ (by decide)]⟩
  rw [r6.1, r6.2]
  generalize (va_up Z 6 (h_X4_findFault (Z 6))) 0 = M at *
  generalize h_X4_findFault (Z 6) = X at *
  generalize zc (X 1 2) = n at *
  generalize zc x = p0 at *
  have e10 : (zr (zr M 10 (va_cpy (X 3) (M 10) 0 p0 n)) 11 (va_cpy (X 4) ((zr M 10 (va_cpy (X 3) (M 10) 0 p0 n)) 11) 0 (p0 * 2) (n * 2))) 10 = va_cpy (X 3) (M 10) 0 p0 n := by
    rw [zr_n _ _ (by decide), zr_s]
  have e11 : (zr (zr M 10 (va_cpy (X 3) (M 10) 0 p0 n)) 11 (va_cpy (X 4) ((zr M 10 (va_cpy (X 3) (M 10) 0 p0 n)) 11) 0 (p0 * 2) (n * 2))) 11 = va_cpy (X 4) (M 11) 0 (p0 * 2) (n * 2) := by
    rw [zr_s, zr_n _ _ (by decide)]
  have ec : ∀ c, c ≠ 10 → c ≠ 11 → (zr (zr M 10 (va_cpy (X 3) (M 10) 0 p0 n)) 11 (va_cpy (X 4) ((zr M 10 (va_cpy (X 3) (M 10) 0 p0 n)) 11) 0 (p0 * 2) (n * 2))) c = M c := by
    intro c h10 h11
    rw [zr_n _ _ h11, zr_n _ _ h10]
  refine ⟨st1_pg m0.1 ec (fun p hp => ?_), ct1_of m0.2.1 (fun c hc => ec c (by omega) (by omega)), ?_⟩
  · rw [e10, e11]
    by_cases c : p0 ≤ p ∧ p < p0 + n
    · rw [pk_cpy_in c.1 c.2, pk_cpy_in (by omega) (by omega), pk_cpy_in (by omega) (by omega)]
      have k := pr (p - p0) (by omega)
      rw [show 0 + (p - p0) = p - p0 by omega, show 0 + (p * 2 - p0 * 2) = (p - p0) * 2 by omega, show 0 + (p * 2 + 1 - p0 * 2) = (p - p0) * 2 + 1 by omega]
      exact k
    · rw [pk_cpy_out (by omega), pk_cpy_out (by omega), pk_cpy_out (by omega)]
      exact m0.1.2.2.2.2.2.2.1 p hp
  · unfold xR
    rw [e10, e11]
    refine ⟨fun i h1 h2 => ?_, fun i h1 h2 => ?_⟩
    · rw [pk_cpy_out (by omega)]
      exact m0.2.2.1 i h1 h2
    · rw [pk_cpy_out (by omega)]
      exact m0.2.2.2 i h1 h2
end PA
theorem cb_lp {M : zM} (h : ∀ p, p < 48 → zIn (M 12 p) 2) : ∀ (n i c : Nat), i + n = 48 → c ≤ i → ∃ k, k ≤ 48 ∧ g_X3_countBreakpoints_lp n (nI c) i M = nI k := by
  intro n
  induction n with
  | zero => exact fun i c hi hc => ⟨c, by omega, rfl⟩
  | succ n ih =>
    intro i c hi hc
    have k := h i (by omega)
    have k1 := k.1
    simp only [g_X3_countBreakpoints_lp]
    rw [k.2, nI_add]
    exact ih (i + 1) _ (by omega) (by omega)
theorem cb_all {B : Nat} {Z : Nat → zM} (h : IVp B Z) {k : Nat} (hk : k < 48) : (∃ j, j ≤ 48 ∧ g_setBreakpoint2 Z (nI k) (nI 0) = nI j) ∧ (h_setBreakpoint2 Z (nI k) (nI 0)) 0 = zu (Z 0) 12 k (nI 0) := by
  have zk : zc (nI k) = k := zc_nI (by omega)
  have ip : ¬ g_X6_isPlace (nI k) = 0 := by
    have t : ∀ k, k < 48 → ¬ g_X6_isPlace (nI k) = 0 := by decide +kernel
    exact t k hk
  unfold g_setBreakpoint2 h_setBreakpoint2
  rw [if_neg ip, if_neg ip, if_pos (show nI 0 = 0 from rfl), if_pos (show nI 0 = 0 from rfl), rm_0, zk, va_up_self]
  refine ⟨?_, rfl⟩
  have s := st1_12 (i := k) (x := nI 0) (zIn_nI (by decide) (by decide)) (ivp_0 h).1
  obtain ⟨j, h1, h2⟩ := cb_lp s.2.2.2.2.2.2.2.1 48 0 0 rfl (Nat.le_refl _)
  exact ⟨j, h1, h2⟩
