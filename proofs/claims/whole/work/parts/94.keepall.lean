/-! the whole invariant: the class's cells Z against the reference's rows N, P, X; the clock stands at most at B -/
def tx (Y X : zM) : Prop := xQ 51 Y ∧ tOK 1000 X ∧ Y 1 0 = X 0 1 ∧ ∀ i, i < zc (X 0 1) → Y 2 i = X 1 i ∧ ∃ j, 32 ≤ j ∧ j < 127 ∧ X 1 i = nI j
theorem tx_ext {Y Y' X X' : zM} (h : tx Y X) (e1 : Y' 1 = Y 1) (e2 : Y' 2 = Y 2) (f1 : X' 0 1 = X 0 1) (f2 : X' 0 2 = X 0 2) (f3 : X' 0 3 = X 0 3) (f : X' 1 = X 1) : tx Y' X' := by
  unfold tx xQ tOK
  rw [e1, e2, f1, f2, f3, f]
  exact h
def IV (B : Nat) (Z : Nat → zM) (N P X : zM) : Prop := sB B (Z 0) N ∧ (∀ k, k < 6 → xR (Z k)) ∧ hiOK B Z P X ∧ tx (Z 6) X
theorem sB_B {B : Nat} {M N : zM} (h : sB B M N) : B < 1000000 := h.2.2.2.2.2.2.2.1.2
theorem iv_up {B B' : Nat} {Z : Nat → zM} {N P X : zM} (h : IV B Z N P X) (hB : B ≤ B') (h2 : B' < 1000000) : IV B' Z N P X := ⟨sB_up h.1 hB h2, h.2.1, hi_up h.2.2.1 hB h2, h.2.2.2⟩
theorem rem_6 (Z : Nat → zM) {c : Nat} (hc : c ≠ 0) : h_remember2 Z 6 c = Z 6 c := by
  unfold h_remember2
  rw [va_up_self, zu_c _ _ _ hc, zu_c _ _ _ hc]
theorem xR_rem2 {Z : Nat → zM} (h : ∀ k, k < 6 → xR (Z k)) : ∀ k, k < 6 → xR (h_remember2 Z k) := by
  intro k hk
  unfold h_remember2
  rw [va_up_ne _ _ (by omega)]
  by_cases e : k = 2 + zc (Z 6 0 0)
  · subst e
    rw [va_up_self]
    exact h 0 (by decide)
  · rw [va_up_ne _ _ e]
    exact h k hk
/-- an action: the state before it is recorded, the machine then changes -/
theorem iv_rem {B B' : Nat} {Z : Nat → zM} {N P X M' N' : zM} (h : IV B Z N P X) (hs : sB B' M' N') (hB : B ≤ B') (hx : xR M') : IV B' (va_up (h_remember2 Z) 0 M') N' (hP_X7_records N P X) (hX_X7_records N P X) := by
  obtain ⟨h1, h2, h3, h4⟩ := h
  have hX5 : zIn (X 0 0) 5 := by
    rw [h3.2.2.1]
    exact h3.2.1
  refine ⟨by rw [va_up_self]; exact hs, fun k hk => ?_, ?_, ?_⟩
  · by_cases e : k = 0
    · subst e
      rw [va_up_self]
      exact hx
    · rw [va_up_ne _ _ e]
      exact xR_rem2 h2 k hk
  · exact hi_ext (hi_up (hi_rem h3 h1) hB (sB_B hs)) (fun k k1 k2 => va_up_ne _ _ (by omega)) (by rw [va_up_ne _ _ (by decide)]) rfl
  · rw [rec_X hX5]
    refine tx_ext h4 ?_ ?_ ?_ ?_ ?_ ?_
    · rw [va_up_ne _ _ (by decide), rem_6 _ (by decide)]
    · rw [va_up_ne _ _ (by decide), rem_6 _ (by decide)]
    · rw [zu_i _ _ _ (by decide)]
    · rw [zu_i _ _ _ (by decide)]
    · rw [zu_i _ _ _ (by decide)]
    · rw [zu_c _ _ _ (by decide)]
section AC
variable {B : Nat} {Z : Nat → zM} {N P X : zM}
theorem iv_e (h : IV B Z N P X) {c : Nat} (h3 : c ≠ 3) (h11 : c ≠ 11) (h18 : c ≠ 18) (h19 : c ≠ 19) (i : Nat) : Z 0 c i = N c i := h.1.1.e h3 h11 h18 h19 i
theorem ac_halt (h : IV B Z N P X) (thread : Int32) : g_halt2 Z thread = g_X7_halt thread N P X ∧ IV B (h_halt2 Z thread) (hN_X7_halt thread N P X) (hP_X7_halt thread N P X) (hX_X7_halt thread N P X) := by
  unfold g_halt2 g_X7_halt h_halt2 hN_X7_halt hP_X7_halt hX_X7_halt
  by_cases q : g_X7_isThread thread = 0
  · have q' : g_X6_isThread thread = 0 := q
    simp only [if_pos q, if_pos q']
    exact ⟨trivial, h⟩
  · have q' : ¬ g_X6_isThread thread = 0 := q
    simp only [if_neg q, if_neg q', rem2_0]
    refine ⟨iv_e h (by decide) (by decide) (by decide) (by decide) _, iv_rem h (sB_halt h.1) (Nat.le_refl _) (xR_e ?_ ?_ (h.2.1 0 (by decide)))⟩
    · unfold h_X0_haltNow
      rw [zu_c _ _ _ (by decide), zu_c _ _ _ (by decide)]
    · unfold h_X0_haltNow
      rw [zu_c _ _ _ (by decide), zu_c _ _ _ (by decide)]
theorem k_fill {t : Nat} {v : Int32} {c : Nat} (hc : c < 20) : ∀ (n i : Nat) (M : zM), (h_fill_rg_lp t v n i M) c = M c := by
  intro n
  induction n with
  | zero => exact fun _ _ => rfl
  | succ n ih =>
    intro i M
    simp only [h_fill_rg_lp]
    rw [ih, zu_c _ _ _ (by omega)]
theorem k_begin {t : Nat} {v : Int32} {c : Nat} {M : zM} (hc : c = 10 ∨ c = 11) : (h_X0_startAt t v M) c = M c := by
  unfold h_X0_startAt h_fill_rg
  rw [zu_c _ _ _ (by omega), zu_c _ _ _ (by omega), zu_c _ _ _ (by omega), zu_c _ _ _ (by omega)]
  exact k_fill (by omega) _ _ _
theorem st_all (thread place : Int32) (P X : zM) (had : Int32) : ∀ (n i : Nat) (N : zM), g_X7_start_lp thread place n had i N P X = had ∧ hP_X7_start_lp thread place n had i N P X = P ∧ hX_X7_start_lp thread place n had i N P X = X := by
  intro n
  induction n with
  | zero => exact fun _ _ => ⟨rfl, rfl, rfl⟩
  | succ n ih =>
    intro i N
    simp only [g_X7_start_lp, hP_X7_start_lp, hX_X7_start_lp]
    exact ih _ _
theorem ac_start (h : IV B Z N P X) (thread place : Int32) : g_start2 Z thread place = g_X7_start thread place N P X ∧ IV B (h_start2 Z thread place) (hN_X7_start thread place N P X) (hP_X7_start thread place N P X) (hX_X7_start thread place N P X) := by
  unfold g_start2 g_X7_start h_start2 hN_X7_start hP_X7_start hX_X7_start
  by_cases q : g_X7_isThread thread = 0
  · have q' : g_X6_isThread thread = 0 := q
    simp only [if_pos q, if_pos q']
    exact ⟨trivial, h⟩
  · have q' : ¬ g_X6_isThread thread = 0 := q
    by_cases r : g_X7_isPlace place = 0
    · have r' : g_X6_isPlace place = 0 := r
      simp only [if_neg q, if_neg q', if_pos r, if_pos r']
      exact ⟨trivial, h⟩
    · have r' : ¬ g_X6_isPlace place = 0 := r
      have bp : zIn place 48 := z_isPlace r
      obtain ⟨s1, s2, s3⟩ := st_all thread place (hP_X7_records N P X) (hX_X7_records N P X) (N 0 (zc thread)) 4 0 (zu (zu N 0 (zc thread) (nI 1)) 1 (zc thread) place)
      simp only [if_neg q, if_neg q', if_neg r, if_neg r', rem2_0, s1, s2, s3]
      exact ⟨iv_e h (by decide) (by decide) (by decide) (by decide) _, iv_rem h (sB_begin h.1 (zIn_up bp (by decide))) (Nat.le_refl _) (xR_e (k_begin (Or.inl rfl)) (k_begin (Or.inr rfl)) (h.2.1 0 (by decide)))⟩
theorem ac_setRegister (h : IV B Z N P X) (thread register value : Int32) : g_setRegister2 Z thread register value = g_X7_setRegister thread register value N P X ∧ IV B (h_setRegister2 Z thread register value) (hN_X7_setRegister thread register value N P X) (hP_X7_setRegister thread register value N P X) (hX_X7_setRegister thread register value N P X) := by
  unfold g_setRegister2 g_X7_setRegister h_setRegister2 hN_X7_setRegister hP_X7_setRegister hX_X7_setRegister
  by_cases q : g_X7_isThread thread = 0
  · have q' : g_X6_isThread thread = 0 := q
    simp only [if_pos q, if_pos q']
    exact ⟨trivial, h⟩
  · have q' : ¬ g_X6_isThread thread = 0 := q
    by_cases r : g_X7_in register (nI 0) (nI 3) = 0
    · have r' : g_X6_isRegister register = 0 := r
      simp only [if_neg q, if_neg q', if_pos r, if_pos r']
      exact ⟨trivial, h⟩
    · have r' : ¬ g_X6_isRegister register = 0 := r
      by_cases v : g_X7_isShort value = 0
      · have v' : g_X6_isValue value = 0 := v
        simp only [if_neg q, if_neg q', if_neg r, if_neg r', if_pos v, if_pos v']
        exact ⟨trivial, h⟩
      · have v' : ¬ g_X6_isValue value = 0 := v
        have sv : value.toInt16.toInt32 = value := sh_short v'
        have bt : zIn thread 4 := z_isThread q'
        have bt1 := bt.1
        simp only [if_neg q, if_neg q', if_neg r, if_neg r', if_neg v, if_neg v', rem2_0]
        unfold hN_X7_puts h_replace_rg g_replace_rg g_X7_register0
        rw [sv]
        refine ⟨iv_e h (by omega) (by omega) (by omega) (by omega) _, iv_rem h (sB_rg h.1 (sh_short v')) (Nat.le_refl _) (xR_e ?_ ?_ (h.2.1 0 (by decide)))⟩
        · rw [zu_c _ _ _ (by omega)]
        · rw [zu_c _ _ _ (by omega)]
theorem ac_setWord (h : IV B Z N P X) (word value : Int32) : g_setWord2 Z word value = g_X7_setWord word value N P X ∧ IV B (h_setWord2 Z word value) (hN_X7_setWord word value N P X) (hP_X7_setWord word value N P X) (hX_X7_setWord word value N P X) := by
  unfold g_setWord2 g_X7_setWord h_setWord2 hN_X7_setWord hP_X7_setWord hX_X7_setWord
  by_cases q : g_X7_in word (nI 0) (nI 31) = 0
  · have q' : g_X6_isWord word = 0 := q
    simp only [if_pos q, if_pos q']
    exact ⟨trivial, h⟩
  · have q' : ¬ g_X6_isWord word = 0 := q
    by_cases v : g_X7_isShort value = 0
    · have v' : g_X6_isValue value = 0 := v
      simp only [if_neg q, if_neg q', if_pos v, if_pos v']
      exact ⟨trivial, h⟩
    · have v' : ¬ g_X6_isValue value = 0 := v
      simp only [if_neg q, if_neg q', if_neg v, if_neg v', rem2_0]
      unfold h_replace_wd g_replace_wd
      refine ⟨iv_e h (by decide) (by decide) (by decide) (by decide) _, iv_rem h (sB_wd h.1 (sh_short v')) (Nat.le_refl _) (xR_e ?_ ?_ (h.2.1 0 (by decide)))⟩
      · rw [zu_c _ _ _ (by decide)]
      · rw [zu_c _ _ _ (by decide)]
theorem ac_setSlot (h : IV B Z N P X) (slot thread : Int32) : g_setSlot2 Z slot thread = g_X7_setSlot slot thread N P X ∧ IV B (h_setSlot2 Z slot thread) (hN_X7_setSlot slot thread N P X) (hP_X7_setSlot slot thread N P X) (hX_X7_setSlot slot thread N P X) := by
  unfold g_setSlot2 g_X7_setSlot h_setSlot2 hN_X7_setSlot hP_X7_setSlot hX_X7_setSlot
  by_cases q : g_X7_in slot (nI 0) (nI 7) = 0
  · have q' : g_X6_isSlot slot = 0 := q
    simp only [if_pos q, if_pos q']
    exact ⟨trivial, h⟩
  · have q' : ¬ g_X6_isSlot slot = 0 := q
    by_cases v : g_X7_isThread thread = 0
    · have v' : g_X6_isThread thread = 0 := v
      simp only [if_neg q, if_neg q', if_pos v, if_pos v']
      exact ⟨trivial, h⟩
    · have v' : ¬ g_X6_isThread thread = 0 := v
      have bt : zIn thread 4 := z_isThread v'
      simp only [if_neg q, if_neg q', if_neg v, if_neg v', rem2_0]
      unfold h_replace_sl g_replace_sl
      refine ⟨iv_e h (by decide) (by decide) (by decide) (by decide) _, iv_rem h (sB_sl h.1 bt) (Nat.le_refl _) (xR_e ?_ ?_ (h.2.1 0 (by decide)))⟩
      · rw [zu_c _ _ _ (by decide)]
      · rw [zu_c _ _ _ (by decide)]
theorem ac_set (h : IV B Z N P X) (setting value : Int32) : g_set2 Z setting value = g_X7_set setting value N P X ∧ IV B (h_set2 Z setting value) (hN_X7_set setting value N P X) (hP_X7_set setting value N P X) (hX_X7_set setting value N P X) := by
  have key : IV B (va_up (h_remember2 Z) 0 (zu (Z 0) 15 (zc setting) value)) (zu N 15 (zc setting) value) (hP_X7_records N P X) (hX_X7_records N P X) := by
    refine iv_rem h (sB_gen h.1 (by omega)) (Nat.le_refl _) (xR_e ?_ ?_ (h.2.1 0 (by decide)))
    · rw [zu_c _ _ _ (by decide)]
    · rw [zu_c _ _ _ (by decide)]
  have key2 : Z 0 15 (zc setting) = N 15 (zc setting) := iv_e h (by decide) (by decide) (by decide) (by decide) _
  unfold g_set2 g_X7_set h_set2 hN_X7_set hP_X7_set hX_X7_set
  by_cases q : g_X7_in setting (nI 0) (nI 1) = 0
  · have q' : g_X6_isSetting setting = 0 := q
    simp only [if_pos q, if_pos q']
    exact ⟨trivial, h⟩
  · have q' : ¬ g_X6_isSetting setting = 0 := q
    by_cases r : setting = 0
    · by_cases v : g_X7_in value (nI 0) (nI 20) = 0
      · have v' : g_X6_isWithin value (nI 0) (nI 20) = 0 := v
        simp only [if_neg q, if_neg q', if_pos r, if_pos v, if_pos v']
        exact ⟨trivial, h⟩
      · have v' : ¬ g_X6_isWithin value (nI 0) (nI 20) = 0 := v
        simp only [if_neg q, if_neg q', if_pos r, if_neg v, if_neg v', rem2_0]
        exact ⟨key2, key⟩
    · by_cases v : g_X7_in value (nI 0) (nI 2) = 0
      · have v' : g_X6_isWithin value (nI 0) (nI 2) = 0 := v
        simp only [if_neg q, if_neg q', if_neg r, if_pos v, if_pos v']
        exact ⟨trivial, h⟩
      · have v' : ¬ g_X6_isWithin value (nI 0) (nI 2) = 0 := v
        simp only [if_neg q, if_neg q', if_neg r, if_neg v, if_neg v', rem2_0]
        exact ⟨key2, key⟩
theorem bk_all (place isSet : Int32) (P X : zM) : ∀ (n i : Nat) (cnt : Int32) (M N : zM), M 12 = N 12 → g_X3_countBreakpoints_lp n cnt i M = g_X7_setBreakpoint_lp place isSet n cnt i N P X ∧ hN_X7_setBreakpoint_lp place isSet n cnt i N P X = N ∧ hP_X7_setBreakpoint_lp place isSet n cnt i N P X = P ∧ hX_X7_setBreakpoint_lp place isSet n cnt i N P X = X := by
  intro n
  induction n with
  | zero => exact fun _ _ _ _ _ => ⟨rfl, rfl, rfl, rfl⟩
  | succ n ih =>
    intro i cnt M N e
    simp only [g_X3_countBreakpoints_lp, g_X7_setBreakpoint_lp, hN_X7_setBreakpoint_lp, hP_X7_setBreakpoint_lp, hX_X7_setBreakpoint_lp]
    rw [e]
    exact ih _ _ _ _ e
theorem ac_setBreakpoint (h : IV B Z N P X) (place isSet : Int32) : g_setBreakpoint2 Z place isSet = g_X7_setBreakpoint place isSet N P X ∧ IV B (h_setBreakpoint2 Z place isSet) (hN_X7_setBreakpoint place isSet N P X) (hP_X7_setBreakpoint place isSet N P X) (hX_X7_setBreakpoint place isSet N P X) := by
  have key : ∀ v, IV B (va_up (h_remember2 Z) 0 (zu (Z 0) 12 (zc place) v)) (zu N 12 (zc place) v) (hP_X7_records N P X) (hX_X7_records N P X) := by
    intro v
    refine iv_rem h (sB_gen h.1 (by omega)) (Nat.le_refl _) (xR_e ?_ ?_ (h.2.1 0 (by decide)))
    · rw [zu_c _ _ _ (by decide)]
    · rw [zu_c _ _ _ (by decide)]
  have e12 : ∀ v, (zu (Z 0) 12 (zc place) v) 12 = (zu N 12 (zc place) v) 12 := by
    intro v
    unfold zu
    rw [h.1.1.1 12 (by decide) (by decide) (by decide) (by decide), zr_s, zr_s]
  unfold g_setBreakpoint2 g_X7_setBreakpoint h_setBreakpoint2 hN_X7_setBreakpoint hP_X7_setBreakpoint hX_X7_setBreakpoint
  by_cases q : g_X7_isPlace place = 0
  · have q' : g_X6_isPlace place = 0 := q
    simp only [if_pos q, if_pos q']
    exact ⟨trivial, h⟩
  · have q' : ¬ g_X6_isPlace place = 0 := q
    by_cases r : isSet = 0
    · obtain ⟨s1, s2, s3, s4⟩ := bk_all place isSet (hP_X7_records N P X) (hX_X7_records N P X) 48 0 (nI 0) _ _ (e12 (nI 0))
      simp only [if_neg q, if_neg q', if_pos r, rem2_0, s2, s3, s4]
      exact ⟨s1, key _⟩
    · obtain ⟨s1, s2, s3, s4⟩ := bk_all place isSet (hP_X7_records N P X) (hX_X7_records N P X) 48 0 (nI 0) _ _ (e12 (nI 1))
      simp only [if_neg q, if_neg q', if_neg r, rem2_0, s2, s3, s4]
      exact ⟨s1, key _⟩
theorem rn_all (cycles : Int32) (P X : zM) : ∀ (n i : Nat) (N A : zM), hP_X7_run_lp cycles n i N A P X = P ∧ hX_X7_run_lp cycles n i N A P X = X := by
  intro n
  induction n with
  | zero => exact fun _ _ _ => ⟨rfl, rfl⟩
  | succ n ih =>
    intro i N A
    simp only [hP_X7_run_lp, hX_X7_run_lp]
    exact ⟨z_ite (P := fun Y : zM => Y = P) (fun _ => z_ite (P := fun Y : zM => Y = P) (fun _ => (ih _ _ _).1) (fun _ => z_ite (P := fun Y : zM => Y = P) (fun _ => (ih _ _ _).1) (fun _ => rfl))) (fun _ => rfl), z_ite (P := fun Y : zM => Y = X) (fun _ => z_ite (P := fun Y : zM => Y = X) (fun _ => (ih _ _ _).2) (fun _ => z_ite (P := fun Y : zM => Y = X) (fun _ => (ih _ _ _).2) (fun _ => rfl))) (fun _ => rfl)⟩
theorem ac_run (h : IV B Z N P X) (hB : B + 200 < 1000000) (A : zM) (cycles : Int32) : g_run2 Z cycles = g_X7_run cycles N A P X ∧ IV (B + 200) (h_run2 Z cycles) (hN_X7_run cycles N A P X) (hP_X7_run cycles N A P X) (hX_X7_run cycles N A P X) := by
  unfold g_run2 g_X7_run h_run2 hN_X7_run hP_X7_run hX_X7_run
  by_cases q : g_X7_in cycles (nI 1) (nI 200) = 0
  · have q' : g_X6_isWithin cycles (nI 1) (nI 200) = 0 := q
    simp only [if_pos q, if_pos q']
    exact ⟨trivial, iv_up h (by omega) hB⟩
  · have q' : ¬ g_X6_isWithin cycles (nI 1) (nI 200) = 0 := q
    have bm := (z_run q').1
    obtain ⟨s1, s2⟩ := rn_all cycles (hP_X7_records N P X) (hX_X7_records N P X) (zc cycles) 0 N A
    obtain ⟨k1, k2⟩ := sB_run cycles (zc cycles) (by omega) (zc cycles) 0 (Z 0) N A (hP_X7_records N P X) (hX_X7_records N P X) B (by omega) (by omega) h.1
    simp only [if_neg q, if_neg q', rem2_0, s1, s2]
    exact ⟨k1, iv_rem h (sB_up k2 (by omega) hB) (by omega) (xR_bp _ _ _ _ (h.2.1 0 (by decide)))⟩
theorem ac_undo0 (h : IV B Z N P X) (hc : zc (Z 6 0 1) = 0) : X 0 0 = 0 ∧ g_undo2 Z = g_X7_undo0 ∧ h_undo2 Z = Z := by
  have e : nI (zc (Z 6 0 1)) = 0 := by
    rw [hc]
    rfl
  refine ⟨?_, ?_, ?_⟩
  · rw [h.2.2.1.2.2.1, h.2.2.1.2.1.2]
    exact e
  · unfold g_undo2 g_restore2
    rw [if_pos e]
    rfl
  · unfold h_undo2 h_restore2
    rw [if_pos e]
theorem xR_undo2 {Z : Nat → zM} (hn : zIn (Z 6 0 0) 4) (h : ∀ k, k < 6 → xR (Z k)) : ∀ k, k < 6 → xR (h_undo2 Z k) := by
  intro k hk
  unfold h_undo2 h_restore2
  have k1 : ∀ Y : Nat → zM, (∀ k, k < 6 → xR (Y k)) → ∀ j, j < 6 → ∀ j2, j2 < 6 → xR (va_up Y 0 (Y j2) j) := by
    intro Y hY j hj j2 hj2
    by_cases e : j = 0
    · subst e
      rw [va_up_self]
      exact hY j2 hj2
    · rw [va_up_ne _ _ e]
      exact hY j hj
  have k2 : ∀ V : zM, ∀ k, k < 6 → xR (va_up Z 6 V k) := by
    intro V k hk
    rw [va_up_ne _ _ (by omega)]
    exact h k hk
  by_cases e : nI (zc (Z 6 0 1)) = 0
  · rw [if_pos e]
    exact h k hk
  · rw [if_neg e]
    exact k1 _ (k2 _) k hk _ (by omega)
theorem ac_undo1 (h : IV B Z N P X) {pp : Nat} (hc : zc (Z 6 0 1) = pp + 1) : pp < 4 ∧ X 0 0 = nI (pp + 1) ∧ g_undo2 Z = g_X7_undo1 pp X ∧ ∃ S : zM, (∀ k, k < 341 → P 0 (341 * pp + k) = zen S k) ∧ IV B (h_undo2 Z) S P (hX_X7_undo1 pp X) := by
  obtain ⟨u1, S, u2, u3, u4, u5, u6⟩ := hi_undo h.2.2.1 hc
  have b := h.2.2.1.2.1.1
  refine ⟨by omega, ?_, ?_, S, u2, u3, xR_undo2 h.2.2.1.1 h.2.1, u4, ?_⟩
  · rw [h.2.2.1.2.2.1, h.2.2.1.2.1.2, hc]
  · rw [u1, un_1.1]
  · rw [un_1.2]
    refine tx_ext h.2.2.2 u5 u6 ?_ ?_ ?_ ?_
    · rw [zu_i _ _ _ (by decide)]
    · rw [zu_i _ _ _ (by decide)]
    · rw [zu_i _ _ _ (by decide)]
    · rw [zu_c _ _ _ (by decide)]
end AC
