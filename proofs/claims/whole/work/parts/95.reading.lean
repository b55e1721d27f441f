/-! reading: the class's text Y against the reference's text X, both at the position p -/
def rl (p : Nat) (Y X : zM) : Prop := zIn (X 0 1) 101 ∧ Y 1 0 = X 0 1 ∧ Y 1 1 = nI p ∧ X 0 2 = nI p ∧ p ≤ zc (X 0 1) ∧ ∀ i, i < zc (X 0 1) → Y 2 i = X 1 i ∧ ∃ j, 32 ≤ j ∧ j < 127 ∧ X 1 i = nI j
theorem rl_ext {p p' : Nat} {Y Y' X X' : zM} (h : rl p Y X) (e0 : Y' 1 0 = Y 1 0) (e2 : Y' 2 = Y 2) (e1 : Y' 1 1 = nI p') (f2 : X' 0 2 = nI p') (f1 : X' 0 1 = X 0 1) (f : X' 1 = X 1) (hp : p' ≤ zc (X 0 1)) : rl p' Y' X' := by
  unfold rl
  rw [e0, e2, f1, f]
  exact ⟨h.1, h.2.1, e1, f2, hp, h.2.2.2.2.2⟩
theorem rl_L {p : Nat} {Y X : zM} (h : rl p Y X) : zc (X 0 1) < 101 ∧ p ≤ zc (X 0 1) := ⟨h.1.1, h.2.2.2.2.1⟩
theorem rl_zp {p : Nat} {Y X : zM} (h : rl p Y X) : zc (Y 1 1) = p ∧ zc (X 0 2) = p ∧ zc (Y 1 0) = zc (X 0 1) := by
  obtain ⟨h1, h2⟩ := rl_L h
  refine ⟨?_, ?_, ?_⟩
  · rw [h.2.2.1]
    exact zc_nI (by omega)
  · rw [h.2.2.2.1]
    exact zc_nI (by omega)
  · rw [h.2.1]
/-- the character c at the position p; 0 behind the end -/
def nx (c p : Nat) (Y X : zM) : Prop := c < 127 ∧ g_X7_next X = nI c ∧ ((p < zc (X 0 1) ∧ X 1 p = nI c ∧ Y 2 p = nI c ∧ 32 ≤ c) ∨ (zc (X 0 1) ≤ p ∧ c = 0))
theorem rl_nx {p : Nat} {Y X : zM} (h : rl p Y X) : ∃ c, nx c p Y X := by
  obtain ⟨h1, h2⟩ := rl_L h
  obtain ⟨z1, z2, z3⟩ := rl_zp h
  by_cases e : p < zc (X 0 1)
  · obtain ⟨k1, j, k2, k3, k4⟩ := h.2.2.2.2.2 p e
    refine ⟨j, k3, ?_, Or.inl ⟨e, k4, k1.trans k4, k2⟩⟩
    unfold g_X7_next
    rw [z2, if_neg (nI_ge e (by omega))]
    exact k4
  · refine ⟨0, by decide, ?_, Or.inr ⟨by omega, rfl⟩⟩
    unfold g_X7_next
    rw [z2, if_pos (nI_le (by omega) (by omega))]
set_option maxRecDepth 100000 in
theorem ch_in : ∀ c, c < 128 → ∀ lo, lo < 10 → ∀ hi, hi < 10 → g_X7_in (nI c - nI 48) (nI lo) (nI hi) = (if 48 + lo ≤ c ∧ c ≤ 48 + hi then nI 1 else nI 0) := by decide +kernel
theorem ch_sub : ∀ c, c < 128 → 48 ≤ c → nI c - nI 48 = nI (c - 48) := by decide +kernel
theorem rl_isd {c p lo hi : Nat} {Y X : zM} (h : rl p Y X) (k : nx c p Y X) (hlo : lo < 10) (hhi : hi < 10) : g_X4_isDigit (nI lo) (nI hi) Y = (if 48 + lo ≤ c ∧ c ≤ 48 + hi then nI 1 else nI 0) := by
  obtain ⟨h1, h2⟩ := rl_L h
  obtain ⟨z1, z2, z3⟩ := rl_zp h
  obtain ⟨k1, k2, k3⟩ := k
  unfold g_X4_isDigit
  rw [z1, z3]
  rcases k3 with ⟨k4, k5, k6, k7⟩ | ⟨k4, k5⟩
  · rw [if_neg (nI_ge k4 (by omega)), k6]
    have e := ch_in c (by omega) lo hlo hi hhi
    have e' : g_X6_isWithin (nI c - nI 48) (nI lo) (nI hi) = (if 48 + lo ≤ c ∧ c ≤ 48 + hi then nI 1 else nI 0) := e
    rw [e']
    by_cases q : 48 + lo ≤ c ∧ c ≤ 48 + hi
    · rw [if_pos q, if_neg (by decide)]
    · rw [if_neg q, if_pos (by decide)]
  · rw [if_pos (nI_le k4 (by omega)), if_neg (by omega)]
theorem rl_take {c p : Nat} {Y X : zM} (h : rl p Y X) (k : nx c p Y X) (hc : 48 ≤ c) : p < zc (X 0 1) ∧ g_X4_takeDigit Y = nI (c - 48) ∧ h_X4_takeDigit Y = zu Y 1 1 (nI (p + 1)) := by
  obtain ⟨h1, h2⟩ := rl_L h
  obtain ⟨z1, z2, z3⟩ := rl_zp h
  obtain ⟨k1, k2, k3⟩ := k
  rcases k3 with ⟨k4, k5, k6, k7⟩ | ⟨k4, k5⟩
  · refine ⟨k4, ?_, ?_⟩
    · unfold g_X4_takeDigit
      rw [z1, z3, if_pos (nI_lt k4 (by omega)), k6]
      exact ch_sub c (by omega) hc
    · unfold h_X4_takeDigit
      rw [z1, z3, if_pos (nI_lt k4 (by omega))]
  · omega
theorem zu_30 {X : zM} (h3 : X 0 3 = nI 0) : zu X 0 3 (nI 0) = X := by
  rw [← h3]
  exact zu_self X 0 3
theorem i0 {x : Int32} (h : x = nI 0) : x = 0 := h
theorem rx_digit {c p lo hi : Nat} {Y X : zM} (h : rl p Y X) (h3 : X 0 3 = nI 0) (k : nx c p Y X) (hlo : lo < 10) (hhi : hi < 10) : g_X7_digit (nI lo) (nI hi) X = nI c - nI 48 ∧ hX_X7_digit (nI lo) (nI hi) X = (if 48 + lo ≤ c ∧ c ≤ 48 + hi then zu X 0 2 (nI (p + 1)) else zu (zu X 0 3 (nI 1)) 0 2 (nI p)) := by
  obtain ⟨z1, z2, z3⟩ := rl_zp h
  obtain ⟨k1, k2, k3⟩ := k
  have e := ch_in c (by omega) lo hlo hi hhi
  unfold g_X7_digit hX_X7_digit
  rw [if_pos (i0 h3), if_pos (i0 h3), k2, z2, e]
  by_cases q : 48 + lo ≤ c ∧ c ≤ 48 + hi
  · rw [if_pos q, if_pos q, if_neg (by decide), if_neg (by decide), zu_30 h3]
    exact ⟨rfl, rfl⟩
  · rw [if_neg q, if_neg q, if_pos (by decide), if_pos (by decide)]
    exact ⟨rfl, rfl⟩
/-- a step to the position p' that goes well -/
theorem rl_go {p p' : Nat} {Y X : zM} (h : rl p Y X) (hp : p' ≤ zc (X 0 1)) : rl p' (zu Y 1 1 (nI p')) (zu X 0 2 (nI p')) := by
  refine rl_ext h ?_ ?_ ?_ ?_ ?_ ?_ hp
  · rw [zu_i _ _ _ (by decide)]
  · rw [zu_c _ _ _ (by decide)]
  · rw [zu_s]
  · rw [zu_s]
  · rw [zu_i _ _ _ (by decide)]
  · rw [zu_c _ _ _ (by decide)]
/-- wrong, at the position p -/
def wl (p : Nat) (Y X : zM) : Prop := rl p Y X ∧ X 0 3 = nI 1
theorem wl_mk {p : Nat} {Y X : zM} (h : rl p Y X) : wl p Y (zu (zu X 0 3 (nI 1)) 0 2 (nI p)) := by
  refine ⟨rl_ext h rfl rfl h.2.2.1 ?_ ?_ ?_ h.2.2.2.2.1, ?_⟩
  · rw [zu_s]
  · rw [zu_i _ _ _ (by decide), zu_i _ _ _ (by decide)]
  · rw [zu_c _ _ _ (by decide), zu_c _ _ _ (by decide)]
  · rw [zu_i _ _ _ (by decide), zu_s]
theorem rl_zu {p j : Nat} {Y X : zM} {v : Int32} (h : rl p Y X) (hj : 3 ≤ j) : rl p Y (zu X 0 j v) := by
  refine rl_ext h rfl rfl h.2.2.1 ?_ ?_ ?_ h.2.2.2.2.1
  · rw [zu_i _ _ _ (by omega)]
    exact h.2.2.2.1
  · rw [zu_i _ _ _ (by omega)]
  · rw [zu_c _ _ _ (by decide)]
theorem wl_zu {p j : Nat} {Y X : zM} {v : Int32} (h : wl p Y X) (hj : 4 ≤ j) : wl p Y (zu X 0 j v) := by
  refine ⟨rl_zu h.1 (by omega), ?_⟩
  rw [zu_i _ _ _ (by omega)]
  exact h.2
theorem wl_n {p : Nat} {Y X : zM} (h : wl p Y X) : ¬ X 0 3 = 0 := by
  rw [h.2]
  decide
theorem wl_again {p : Nat} {Y X : zM} (h : wl p Y X) : wl p Y (zu (zu X 0 3 (nI 1)) 0 2 (nI (zc (X 0 2)))) := by
  rw [(rl_zp h.1).2.1]
  exact wl_mk h.1
theorem wl_sign {p : Nat} {Y X : zM} {ch : Int32} (h : wl p Y X) : wl p Y (hX_X7_sign ch X) := by
  unfold hX_X7_sign
  rw [if_neg (wl_n h)]
  exact wl_again h
theorem wl_digit {p : Nat} {Y X : zM} {a b : Int32} (h : wl p Y X) : wl p Y (hX_X7_digit a b X) := by
  unfold hX_X7_digit
  rw [if_neg (wl_n h)]
  exact wl_again h
theorem wl_upTo {p : Nat} {Y X : zM} {a b : Int32} (h : wl p Y X) : wl p Y (hX_X7_upTo a b X) := by
  unfold hX_X7_upTo
  rw [if_neg (wl_n (wl_digit h))]
  exact wl_digit h
theorem wl_number {p : Nat} {Y X : zM} (h : wl p Y X) : wl p Y (hX_X7_number X) := by
  unfold hX_X7_number
  rw [if_neg (wl_n h)]
  exact wl_upTo h
/-! what the reference's reading leaves as it is -/
theorem kx_sign {X : zM} {ch : Int32} {j : Nat} (h2 : j ≠ 2) (h3 : j ≠ 3) : hX_X7_sign ch X 0 j = X 0 j := by
  unfold hX_X7_sign
  exact z_ite (P := fun V : zM => V 0 j = X 0 j) (fun _ => z_ite (P := fun V : zM => V 0 j = X 0 j) (fun _ => by rw [zu_i _ _ _ h2, zu_i _ _ _ h3]) (fun _ => by rw [zu_i _ _ _ h2, zu_i _ _ _ h3])) (fun _ => by rw [zu_i _ _ _ h2, zu_i _ _ _ h3])
theorem kx_digit {X : zM} {a b : Int32} {j : Nat} (h2 : j ≠ 2) (h3 : j ≠ 3) : hX_X7_digit a b X 0 j = X 0 j := by
  unfold hX_X7_digit
  exact z_ite (P := fun V : zM => V 0 j = X 0 j) (fun _ => z_ite (P := fun V : zM => V 0 j = X 0 j) (fun _ => by rw [zu_i _ _ _ h2, zu_i _ _ _ h3]) (fun _ => by rw [zu_i _ _ _ h2, zu_i _ _ _ h3])) (fun _ => by rw [zu_i _ _ _ h2, zu_i _ _ _ h3])
theorem kx_upTo {X : zM} {a b : Int32} {j : Nat} (h2 : j ≠ 2) (h3 : j ≠ 3) : hX_X7_upTo a b X 0 j = X 0 j := by
  have k : hX_X7_digit a (nI 9) X 0 j = X 0 j := kx_digit h2 h3
  unfold hX_X7_upTo
  exact z_ite (P := fun V : zM => V 0 j = X 0 j) (fun _ => z_ite (P := fun V : zM => V 0 j = X 0 j) (fun _ => k) (fun _ => z_ite (P := fun V : zM => V 0 j = X 0 j) (fun _ => k) (fun _ => z_ite (P := fun V : zM => V 0 j = X 0 j) (fun _ => k) (fun _ => by rw [zu_i _ _ _ h2]; exact k)))) (fun _ => k)
theorem kx_number {X : zM} {j : Nat} (h2 : j ≠ 2) (h3 : j ≠ 3) : hX_X7_number X 0 j = X 0 j := by
  unfold hX_X7_number
  exact z_ite (P := fun V : zM => V 0 j = X 0 j) (fun _ => z_ite (P := fun V : zM => V 0 j = X 0 j) (fun _ => by rw [kx_upTo h2 h3, zu_i _ _ _ h2]) (fun _ => kx_upTo h2 h3)) (fun _ => kx_upTo h2 h3)
theorem kx_instruction {X : zM} {j : Nat} (hj : j < 2) : hX_X7_instruction X 0 j = X 0 j := by
  unfold hX_X7_instruction
  generalize g_X7_operationOf (g_X7_next X) = op
  refine z_ite (P := fun V : zM => V 0 j = X 0 j) (fun _ => ?_) (fun _ => z_ite (P := fun V : zM => V 0 j = X 0 j) (fun _ => ?_) (fun _ => z_ite (P := fun V : zM => V 0 j = X 0 j) (fun _ => ?_) (fun _ => z_ite (P := fun V : zM => V 0 j = X 0 j) (fun _ => ?_) (fun _ => z_ite (P := fun V : zM => V 0 j = X 0 j) (fun _ => ?_) (fun _ => ?_)))))
  all_goals simp (disch := omega) only [zu_i, kx_sign, kx_digit, kx_upTo, kx_number]
theorem kt_sign {X : zM} {ch : Int32} : hX_X7_sign ch X 1 = X 1 := by
  unfold hX_X7_sign
  exact z_ite (P := fun V : zM => V 1 = X 1) (fun _ => z_ite (P := fun V : zM => V 1 = X 1) (fun _ => by rw [zu_c _ _ _ (by decide), zu_c _ _ _ (by decide)]) (fun _ => by rw [zu_c _ _ _ (by decide), zu_c _ _ _ (by decide)])) (fun _ => by rw [zu_c _ _ _ (by decide), zu_c _ _ _ (by decide)])
theorem kt_digit {X : zM} {a b : Int32} : hX_X7_digit a b X 1 = X 1 := by
  unfold hX_X7_digit
  exact z_ite (P := fun V : zM => V 1 = X 1) (fun _ => z_ite (P := fun V : zM => V 1 = X 1) (fun _ => by rw [zu_c _ _ _ (by decide), zu_c _ _ _ (by decide)]) (fun _ => by rw [zu_c _ _ _ (by decide), zu_c _ _ _ (by decide)])) (fun _ => by rw [zu_c _ _ _ (by decide), zu_c _ _ _ (by decide)])
theorem kt_upTo {X : zM} {a b : Int32} : hX_X7_upTo a b X 1 = X 1 := by
  have k : hX_X7_digit a (nI 9) X 1 = X 1 := kt_digit
  unfold hX_X7_upTo
  exact z_ite (P := fun V : zM => V 1 = X 1) (fun _ => z_ite (P := fun V : zM => V 1 = X 1) (fun _ => k) (fun _ => z_ite (P := fun V : zM => V 1 = X 1) (fun _ => k) (fun _ => z_ite (P := fun V : zM => V 1 = X 1) (fun _ => k) (fun _ => by rw [zu_c _ _ _ (by decide)]; exact k)))) (fun _ => k)
theorem kt_number {X : zM} : hX_X7_number X 1 = X 1 := by
  unfold hX_X7_number
  exact z_ite (P := fun V : zM => V 1 = X 1) (fun _ => z_ite (P := fun V : zM => V 1 = X 1) (fun _ => by rw [kt_upTo, zu_c _ _ _ (by decide)]) (fun _ => kt_upTo)) (fun _ => kt_upTo)
theorem kt_instruction {X : zM} : hX_X7_instruction X 1 = X 1 := by
  unfold hX_X7_instruction
  generalize g_X7_operationOf (g_X7_next X) = op
  refine z_ite (P := fun V : zM => V 1 = X 1) (fun _ => ?_) (fun _ => z_ite (P := fun V : zM => V 1 = X 1) (fun _ => ?_) (fun _ => z_ite (P := fun V : zM => V 1 = X 1) (fun _ => ?_) (fun _ => z_ite (P := fun V : zM => V 1 = X 1) (fun _ => ?_) (fun _ => z_ite (P := fun V : zM => V 1 = X 1) (fun _ => ?_) (fun _ => ?_)))))
  all_goals simp (disch := omega) only [zu_c, kt_sign, kt_digit, kt_upTo, kt_number]
/-- an operand kept, the position behind it -/
def ky (k o p' : Nat) (v : Int32) (Y : zM) : zM := zu (zu (zu Y 1 1 (nI p')) 4 (k * 2 + o) v) 1 3 (nI (o + 1))
theorem ko {k o p' : Nat} {v : Int32} {Y : zM} (hk : zc (Y 1 2) = k) (ho : Y 1 3 = nI o) (o2 : o < 2) : h_X4_keepOperand v (zu Y 1 1 (nI p')) = ky k o p' v Y := by
  unfold h_X4_keepOperand ky
  rw [zu_i Y 1 _ (show 3 ≠ 1 by decide), zu_i Y 1 _ (show 2 ≠ 1 by decide), ho, hk, zc_nI (by omega), if_neg (nI_ge o2 (by decide))]
theorem rl_ky {p p' k o : Nat} {v : Int32} {Y X : zM} (h : rl p Y X) (hp : p' ≤ zc (X 0 1)) : rl p' (ky k o p' v Y) (zu X 0 2 (nI p')) := by
  unfold ky
  refine rl_ext h ?_ ?_ ?_ ?_ ?_ ?_ hp
  · rw [zu_i _ _ _ (by decide), zu_c _ _ _ (by decide), zu_i _ _ _ (by decide)]
  · rw [zu_c _ _ _ (by decide), zu_c _ _ _ (by decide), zu_c _ _ _ (by decide)]
  · rw [zu_i _ _ _ (by decide), zu_c _ _ _ (by decide), zu_s]
  · rw [zu_s]
  · rw [zu_i _ _ _ (by decide)]
  · rw [zu_c _ _ _ (by decide)]
/-- one operand read: both go on behind it and agree in it, or both are wrong at one place -/
def vr (k o p : Nat) (Y X : zM) (g : Int32) (Y' X' : zM) (gx : Int32) (ok : Int32 → Prop) : Prop :=
  (g = nI 1 ∧ ∃ p', p < p' ∧ p' ≤ zc (X 0 1) ∧ (∀ q, p ≤ q → q < p' → X 1 q ≠ nI 59) ∧ Y' = ky k o p' gx Y ∧ X' = zu X 0 2 (nI p') ∧ ok gx) ∨ (g = nI 0 ∧ ∃ p', wl p' Y' X')
theorem n59 {c : Nat} (hc : c < 127) (h : c ≠ 59) : nI c ≠ nI 59 := by
  intro e
  have k := congrArg zc e
  rw [zc_nI (by omega), zc_nI (by decide)] at k
  exact h k
theorem vr_reg {k o p : Nat} {Y X : zM} (h : rl p Y X) (h3 : X 0 3 = nI 0) (hk : zc (Y 1 2) = k) (ho : Y 1 3 = nI o) (o2 : o < 2) : vr k o p Y X (g_X4_readRegister Y) (h_X4_readRegister Y) (hX_X7_digit (nI 0) (nI 3) X) (g_X7_digit (nI 0) (nI 3) X) (fun v => zIn v 4) := by
  obtain ⟨c, kc⟩ := rl_nx h
  obtain ⟨d1, d2⟩ := rx_digit (lo := 0) (hi := 3) h h3 kc (by decide) (by decide)
  have d3 := rl_isd (lo := 0) (hi := 3) h kc (by decide) (by decide)
  unfold g_X4_readRegister h_X4_readRegister
  rw [d1, d2, d3]
  by_cases q : 48 + 0 ≤ c ∧ c ≤ 48 + 3
  · obtain ⟨t1, t2, t3⟩ := rl_take h kc (by omega)
    rw [if_pos q, if_pos q, if_neg (by decide), if_neg (by decide), t2, t3, ko hk ho o2, ch_sub c (by omega) (by omega)]
    refine Or.inl ⟨rfl, p + 1, by omega, by omega, fun q' q1 q2 => ?_, rfl, rfl, zIn_nI (by omega) (by decide)⟩
    have e : q' = p := by omega
    subst e
    rcases kc.2.2 with ⟨_, k5, _, _⟩ | ⟨k4, _⟩
    · rw [k5]
      exact n59 kc.1 (by omega)
    · omega
  · rw [if_neg q, if_neg q, if_pos (by decide), if_pos (by decide)]
    exact Or.inr ⟨rfl, p, wl_mk h⟩
/-- a sign read -/
theorem vr_sign {c0 p : Nat} {Y X : zM} (h : rl p Y X) (h3 : X 0 3 = nI 0) (hc : 0 < c0) (hc2 : c0 < 127) : (g_X4_readSign (nI c0) Y = nI 1 ∧ p < zc (X 0 1) ∧ X 1 p = nI c0 ∧ h_X4_readSign (nI c0) Y = zu Y 1 1 (nI (p + 1)) ∧ hX_X7_sign (nI c0) X = zu X 0 2 (nI (p + 1))) ∨ (g_X4_readSign (nI c0) Y = nI 0 ∧ h_X4_readSign (nI c0) Y = Y ∧ wl p Y (hX_X7_sign (nI c0) X) ∧ g_X7_next X ≠ nI c0) := by
  obtain ⟨c, kc⟩ := rl_nx h
  obtain ⟨h1, h2⟩ := rl_L h
  obtain ⟨z1, z2, z3⟩ := rl_zp h
  obtain ⟨k1, k2, k3⟩ := kc
  unfold g_X4_readSign h_X4_readSign hX_X7_sign
  rw [z1, z2, z3, if_pos (i0 h3), k2]
  have inj : nI c = nI c0 ↔ c = c0 := by
    refine ⟨fun e => ?_, fun e => by rw [e]⟩
    have k := congrArg zc e
    rw [zc_nI (by omega), zc_nI (by omega)] at k
    exact k
  by_cases e : c = c0
  · subst e
    rcases k3 with ⟨k4, k5, k6, k7⟩ | ⟨k4, k5⟩
    · rw [if_neg (nI_ge k4 (by omega)), if_neg (nI_ge k4 (by omega)), k6, if_pos rfl, if_pos rfl, if_pos rfl, zu_30 h3]
      exact Or.inl ⟨rfl, k4, k5, rfl, rfl⟩
    · omega
  · have ne : ¬ nI c = nI c0 := fun q => e (inj.mp q)
    rw [if_neg ne]
    rcases k3 with ⟨k4, k5, k6, k7⟩ | ⟨k4, k5⟩
    · rw [if_neg (nI_ge k4 (by omega)), if_neg (nI_ge k4 (by omega)), k6, if_neg ne, if_neg ne]
      exact Or.inr ⟨rfl, rfl, wl_mk h, ne⟩
    · rw [if_pos (nI_le k4 (by omega)), if_pos (nI_le k4 (by omega))]
      exact Or.inr ⟨rfl, rfl, wl_mk h, ne⟩
