/-! the history: a ring of machines against the flat rows of the past -/
theorem zu_zu (M : zM) (c i : Nat) (x y : Int32) : zu (zu M c i x) c i y = zu M c i y := by
  funext d j
  by_cases e : d = c
  · subst e
    by_cases e2 : j = i
    · subst e2
      rw [zu_s, zu_s]
    · rw [zu_i _ _ _ e2, zu_i _ _ _ e2, zu_i _ _ _ e2]
  · rw [zu_c _ _ _ e, zu_c _ _ _ e, zu_c _ _ _ e]
def q_sh : Nat → Nat → zM → zM
  | 0, _, P => P
  | n + 1, i, P => q_sh n (i + 1) (zu P 0 i (P 0 (341 + i)))
theorem p_sh : ∀ (n i : Nat) (P : zM), (∀ q, q < i → (q_sh n i P) 0 q = P 0 q) ∧ (∀ q, i ≤ q → q < i + n → (q_sh n i P) 0 q = P 0 (341 + q)) := by
  intro n
  induction n with
  | zero =>
    intro i P
    exact ⟨fun _ _ => rfl, fun q h1 h2 => absurd h2 (by omega)⟩
  | succ n ih =>
    intro i P
    obtain ⟨h1, h2⟩ := ih (i + 1) (zu P 0 i (P 0 (341 + i)))
    simp only [q_sh]
    refine ⟨fun q hq => ?_, fun q hq1 hq2 => ?_⟩
    · rw [h1 q (by omega), zu_i _ _ _ (by omega)]
    · by_cases e : q = i
      · subst e
        rw [h1 q (by omega), zu_s]
      · rw [h2 q (by omega) (by omega), zu_i _ _ _ (by omega)]
theorem p_lq (N X : zM) : ∀ (n i : Nat) (P : zM), i + n = 341 → (∀ q, q < 341 * zc (X 0 0) + i → (hP_X7_records_lq n i N P X) 0 q = P 0 q) ∧ (∀ k, i ≤ k → k < 341 → (hP_X7_records_lq n i N P X) 0 (341 * zc (X 0 0) + k) = zen N k) := by
  intro n
  induction n with
  | zero =>
    intro i P hn
    exact ⟨fun _ _ => rfl, fun k h1 h2 => absurd h2 (by omega)⟩
  | succ n ih =>
    intro i P hn
    obtain ⟨h1, h2⟩ := ih (i + 1) (zu P 0 (341 * zc (X 0 0) + i) (zen N i)) (by omega)
    simp only [hP_X7_records_lq]
    refine ⟨fun q hq => ?_, fun k hk1 hk2 => ?_⟩
    · rw [h1 q (by omega), zu_i _ _ _ (by omega)]
    · by_cases e : k = i
      · subst e
        rw [h1 _ (by omega), zu_s]
      · exact h2 k (by omega) hk2
theorem p_lp (N X : zM) : ∀ (n i : Nat) (P : zM), hP_X7_records_lp n i N P X = hP_X7_records_lq 341 0 N (q_sh n i P) (zu X 0 0 (nI 3)) := by
  intro n
  induction n with
  | zero =>
    intro i P
    simp only [hP_X7_records_lp, q_sh]
  | succ n ih =>
    intro i P
    simp only [hP_X7_records_lp, q_sh]
    exact ih _ _
theorem x_lq (N X : zM) : ∀ (n i : Nat) (P : zM), hX_X7_records_lq n i N P X = zu X 0 0 (nI (zc (X 0 0) + 1)) := by
  intro n
  induction n with
  | zero =>
    intro i P
    simp only [hX_X7_records_lq]
  | succ n ih =>
    intro i P
    simp only [hX_X7_records_lq]
    exact ih _ _
theorem x_lp (N X : zM) : ∀ (n i : Nat) (P : zM), hX_X7_records_lp n i N P X = zu X 0 0 (nI 4) := by
  intro n
  induction n with
  | zero =>
    intro i P
    simp only [hX_X7_records_lp]
    rw [x_lq, zu_s, zc_nI (by decide)]
    exact zu_zu _ _ _ _ _
  | succ n ih =>
    intro i P
    simp only [hX_X7_records_lp]
    exact ih _ _
theorem rec_X {N P X : zM} (hX : zIn (X 0 0) 5) : hX_X7_records N P X = zu X 0 0 (nI (if zc (X 0 0) = 4 then 4 else zc (X 0 0) + 1)) := by
  unfold hX_X7_records
  by_cases e : X 0 0 = nI 4
  · have e4 : zc (X 0 0) = 4 := by
      rw [e]
      exact zc_nI (by decide)
    rw [if_pos e, if_pos e4]
    exact x_lp _ _ _ _ _
  · have e4 : ¬ zc (X 0 0) = 4 := fun q => e (by rw [hX.2, q])
    rw [if_neg e, if_neg e4]
    exact x_lq _ _ _ _ _
theorem rec_P4 {N P X : zM} (e : X 0 0 = nI 4) : (∀ j k, j < 3 → k < 341 → hP_X7_records N P X 0 (341 * j + k) = P 0 (341 * (j + 1) + k)) ∧ ∀ k, k < 341 → hP_X7_records N P X 0 (341 * 3 + k) = zen N k := by
  unfold hP_X7_records
  rw [if_pos e, p_lp]
  have h3 : zc ((zu X 0 0 (nI 3)) 0 0) = 3 := by
    rw [zu_s]
    exact zc_nI (by decide)
  obtain ⟨h1, h2⟩ := p_lq N (zu X 0 0 (nI 3)) 341 0 (q_sh 1023 0 P) rfl
  rw [h3] at h1 h2
  refine ⟨fun j k hj hk => ?_, fun k hk => h2 k (Nat.zero_le _) hk⟩
  rw [h1 _ (by omega), (p_sh 1023 0 P).2 _ (Nat.zero_le _) (by omega)]
  exact congrArg (P 0) (by omega)
theorem rec_Pn {N P X : zM} (e : ¬ X 0 0 = nI 4) : (∀ q, q < 341 * zc (X 0 0) → hP_X7_records N P X 0 q = P 0 q) ∧ ∀ k, k < 341 → hP_X7_records N P X 0 (341 * zc (X 0 0) + k) = zen N k := by
  unfold hP_X7_records
  rw [if_neg e]
  obtain ⟨h1, h2⟩ := p_lq N X 341 0 P rfl
  exact ⟨fun q hq => h1 q (by omega), fun k hk => h2 k (Nat.zero_le _) hk⟩
/-- the state of the reference that the row j of the past holds, and the machine that is the same -/
def hRow (B : Nat) (M : zM) (P : zM) (j : Nat) : Prop := ∃ S : zM, (∀ k, k < 341 → P 0 (341 * j + k) = zen S k) ∧ sB B M S
def hAt (n c j : Nat) : Nat := 2 + (n + 4 - c + j) % 4
def hiOK (B : Nat) (Z : Nat → zM) (P X : zM) : Prop := zIn (Z 6 0 0) 4 ∧ zIn (Z 6 0 1) 5 ∧ X 0 0 = Z 6 0 1 ∧ ∀ j, j < zc (Z 6 0 1) → hRow B (Z (hAt (zc (Z 6 0 0)) (zc (Z 6 0 1)) j)) P j
theorem hAt_6 (n c j : Nat) : 2 ≤ hAt n c j ∧ hAt n c j < 6 := by
  unfold hAt
  omega
theorem hi_ext {B : Nat} {Z Z' : Nat → zM} {P X X' : zM} (h : hiOK B Z P X) (e : ∀ k, 2 ≤ k → k < 6 → Z' k = Z k) (e0 : Z' 6 0 = Z 6 0) (eX : X' 0 0 = X 0 0) : hiOK B Z' P X' := by
  unfold hiOK
  rw [e0, eX]
  refine ⟨h.1, h.2.1, h.2.2.1, fun j hj => ?_⟩
  obtain ⟨k1, k2⟩ := hAt_6 (zc (Z 6 0 0)) (zc (Z 6 0 1)) j
  rw [e _ k1 k2]
  exact h.2.2.2 j hj
theorem hi_up {B B' : Nat} {Z : Nat → zM} {P X : zM} (h : hiOK B Z P X) (hB : B ≤ B') (h2 : B' < 1000000) : hiOK B' Z P X := by
  refine ⟨h.1, h.2.1, h.2.2.1, fun j hj => ?_⟩
  obtain ⟨S, k1, k2⟩ := h.2.2.2 j hj
  exact ⟨S, k1, sB_up k2 hB h2⟩
theorem hi_rem {B : Nat} {Z : Nat → zM} {N P X : zM} (h : hiOK B Z P X) (hs : sB B (Z 0) N) : hiOK B (h_remember2 Z) (hP_X7_records N P X) (hX_X7_records N P X) := by
  obtain ⟨hn, hc, hx, hr⟩ := h
  have hn1 := hn.1
  have hc1 := hc.1
  have hX5 : zIn (X 0 0) 5 := by
    rw [hx]
    exact hc
  have en : h_remember2 Z 6 0 0 = nI ((zc (Z 6 0 0) + 1) % 4) := by
    unfold h_remember2
    rw [va_up_self, zu_i _ _ _ (by decide), zu_s]
  have zn : zc (h_remember2 Z 6 0 0) = (zc (Z 6 0 0) + 1) % 4 := by
    rw [en]
    exact zc_nI (by omega)
  have hnew : h_remember2 Z (2 + zc (Z 6 0 0)) = Z 0 := by
    unfold h_remember2
    rw [va_up_ne _ _ (by omega), va_up_self]
  have hold : ∀ k, k < 6 → k ≠ 2 + zc (Z 6 0 0) → h_remember2 Z k = Z k := by
    intro k h2 h3
    unfold h_remember2
    rw [va_up_ne _ _ (by omega), va_up_ne _ _ h3]
  have bn : zIn (h_remember2 Z 6 0 0) 4 := by
    rw [en]
    exact zIn_nI (Nat.mod_lt _ (by decide)) (by decide)
  by_cases e : zc (Z 6 0 1) = 4
  · have e4 : X 0 0 = nI 4 := by rw [hx, hc.2, e]
    have ec : h_remember2 Z 6 0 1 = nI 4 := by
      unfold h_remember2
      rw [va_up_self, zu_s, e, if_pos (nI_lt (by decide) (by decide))]
    have zk : zc (h_remember2 Z 6 0 1) = 4 := by
      rw [ec]
      exact zc_nI (by decide)
    rw [e] at hr
    refine ⟨bn, by rw [ec]; exact zIn_nI (by decide) (by decide), ?_, fun j hj => ?_⟩
    · rw [rec_X hX5, zu_s, ec, hx, e, if_pos rfl]
    · rw [zk] at hj
      rw [zn, zk]
      by_cases e3 : j = 3
      · subst e3
        have ea : hAt ((zc (Z 6 0 0) + 1) % 4) 4 3 = 2 + zc (Z 6 0 0) := by
          unfold hAt
          omega
        rw [ea, hnew]
        exact ⟨N, fun k hk => (rec_P4 e4).2 k hk, hs⟩
      · have ea : hAt ((zc (Z 6 0 0) + 1) % 4) 4 j = hAt (zc (Z 6 0 0)) 4 (j + 1) := by
          unfold hAt
          omega
        rw [ea, hold _ (hAt_6 _ _ _).2 (by unfold hAt; omega)]
        obtain ⟨S, k1, k2⟩ := hr (j + 1) (by omega)
        exact ⟨S, fun k hk => ((rec_P4 e4).1 j k (by omega) hk).trans (k1 k hk), k2⟩
  · have e4 : ¬ X 0 0 = nI 4 := fun q => e (by rw [← hx, q]; exact zc_nI (by decide))
    have ec : h_remember2 Z 6 0 1 = nI (zc (Z 6 0 1) + 1) := by
      unfold h_remember2
      rw [va_up_self, zu_s, if_neg (nI_nlt (by omega) (by omega))]
    have zk : zc (h_remember2 Z 6 0 1) = zc (Z 6 0 1) + 1 := by
      rw [ec]
      exact zc_nI (by omega)
    refine ⟨bn, by rw [ec]; exact zIn_nI (by omega) (by decide), ?_, fun j hj => ?_⟩
    · rw [rec_X hX5, zu_s, ec, hx, if_neg e]
    · rw [zk] at hj
      rw [zn, zk]
      have r2 := (rec_Pn (N := N) (P := P) e4).2
      have r1 := (rec_Pn (N := N) (P := P) e4).1
      rw [hx] at r1 r2
      by_cases e3 : j = zc (Z 6 0 1)
      · subst e3
        have ea : hAt ((zc (Z 6 0 0) + 1) % 4) (zc (Z 6 0 1) + 1) (zc (Z 6 0 1)) = 2 + zc (Z 6 0 0) := by
          unfold hAt
          omega
        rw [ea, hnew]
        exact ⟨N, fun k hk => r2 k hk, hs⟩
      · have ea : hAt ((zc (Z 6 0 0) + 1) % 4) (zc (Z 6 0 1) + 1) j = hAt (zc (Z 6 0 0)) (zc (Z 6 0 1)) j := by
          unfold hAt
          omega
        rw [ea, hold _ (hAt_6 _ _ _).2 (by unfold hAt; omega)]
        obtain ⟨S, k1, k2⟩ := hr j (by omega)
        exact ⟨S, fun k hk => (r1 _ (by omega)).trans (k1 k hk), k2⟩
theorem un_g (pp : Nat) : ∀ (n i : Nat) (X : zM), g_X7_undo1_lp pp n i X = nI pp := by
  intro n
  induction n with
  | zero => exact fun _ _ => rfl
  | succ n ih =>
    intro i X
    simp only [g_X7_undo1_lp]
    exact ih _ _
theorem un_X (pp : Nat) : ∀ (n i : Nat) (X : zM), hX_X7_undo1_lp pp n i X = X := by
  intro n
  induction n with
  | zero => exact fun _ _ => rfl
  | succ n ih =>
    intro i X
    simp only [hX_X7_undo1_lp]
    exact ih _ _
theorem un_1 {pp : Nat} {X : zM} : g_X7_undo1 pp X = nI pp ∧ hX_X7_undo1 pp X = zu X 0 0 (nI pp) := ⟨un_g _ _ _ _, un_X _ _ _ _⟩
/-- an undo with something to restore -/
theorem hi_undo {B : Nat} {Z : Nat → zM} {P X : zM} {pp : Nat} (h : hiOK B Z P X) (hpp : zc (Z 6 0 1) = pp + 1) : g_undo2 Z = nI pp ∧ ∃ S, (∀ k, k < 341 → P 0 (341 * pp + k) = zen S k) ∧ sB B (h_undo2 Z 0) S ∧ hiOK B (h_undo2 Z) P (hX_X7_undo1 pp X) ∧ h_undo2 Z 6 1 = Z 6 1 ∧ h_undo2 Z 6 2 = Z 6 2 := by
  obtain ⟨hn, hc, hx, hr⟩ := h
  have hn1 := hn.1
  have hc1 := hc.1
  have hp4 : pp < 4 := by omega
  have n0 : ¬ nI (zc (Z 6 0 1)) = 0 := by
    rw [hpp]
    exact nI_ne0 (by omega) (by omega)
  rw [un_1.2]
  unfold g_undo2 h_undo2 g_restore2 h_restore2
  rw [if_neg n0, if_neg n0, zu_s]
  obtain ⟨S, k1, k2⟩ := hr pp (by omega)
  have ea : hAt (zc (Z 6 0 0)) (zc (Z 6 0 1)) pp = 2 + (zc (Z 6 0 0) + 3) % 4 := by
    unfold hAt
    omega
  rw [ea] at k2
  have e6 : zc (Z 6 0 1) - 1 = pp := by omega
  rw [e6]
  refine ⟨rfl, S, k1, ?_, ?_, ?_, ?_⟩
  · rw [va_up_self, va_up_ne _ _ (by omega)]
    exact k2
  · refine ⟨?_, ?_, ?_, fun j hj => ?_⟩
    · rw [va_up_ne _ _ (by decide), va_up_self, zu_i _ _ _ (by decide), zu_s]
      exact zIn_nI (Nat.mod_lt _ (by decide)) (by decide)
    · rw [va_up_ne _ _ (by decide), va_up_self, zu_s]
      exact zIn_nI (by omega) (by decide)
    · rw [va_up_ne _ _ (by decide), va_up_self, zu_s, zu_s]
    · have zk : zc (va_up (va_up Z 6 (zu (zu (Z 6) 0 0 (nI ((zc (Z 6 0 0) + 4 - 1) % 4))) 0 1 (nI pp))) 0 (va_up Z 6 (zu (zu (Z 6) 0 0 (nI ((zc (Z 6 0 0) + 4 - 1) % 4))) 0 1 (nI pp)) (2 + (zc (Z 6 0 0) + 3) % 4)) 6 0 1) = pp := by
        rw [va_up_ne _ _ (by decide), va_up_self, zu_s]
        exact zc_nI (by omega)
      have zn : zc (va_up (va_up Z 6 (zu (zu (Z 6) 0 0 (nI ((zc (Z 6 0 0) + 4 - 1) % 4))) 0 1 (nI pp))) 0 (va_up Z 6 (zu (zu (Z 6) 0 0 (nI ((zc (Z 6 0 0) + 4 - 1) % 4))) 0 1 (nI pp)) (2 + (zc (Z 6 0 0) + 3) % 4)) 6 0 0) = (zc (Z 6 0 0) + 4 - 1) % 4 := by
        rw [va_up_ne _ _ (by decide), va_up_self, zu_i _ _ _ (by decide), zu_s]
        exact zc_nI (by omega)
      rw [zk] at hj
      rw [zk, zn]
      have eb : hAt ((zc (Z 6 0 0) + 4 - 1) % 4) pp j = hAt (zc (Z 6 0 0)) (zc (Z 6 0 1)) j := by
        unfold hAt
        omega
      obtain ⟨q1, q2⟩ := hAt_6 (zc (Z 6 0 0)) (zc (Z 6 0 1)) j
      rw [eb, va_up_ne _ _ (by omega), va_up_ne _ _ (by omega)]
      exact hr j (by omega)
  · rw [va_up_ne _ _ (by decide), va_up_self, zu_c _ _ _ (by decide), zu_c _ _ _ (by decide)]
  · rw [va_up_ne _ _ (by decide), va_up_self, zu_c _ _ _ (by decide), zu_c _ _ _ (by decide)]
