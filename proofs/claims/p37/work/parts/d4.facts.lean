/-! what the counters' check rests on -/
theorem nn_in {x : Int32} {n : Nat} (h : zIn x n) : ¬ x < 0 := by
  rw [h.2]
  exact nI_pos (Int32.toNatClampNeg_lt _)
theorem nl_in {x y : Int32} {n m : Nat} (hx : zIn x n) (hy : zIn y m) (h : zc x ≤ zc y) : ¬ y < x := by
  rw [hx.2, hy.2]
  exact nI_nlt h (Int32.toNatClampNeg_lt _)
theorem ng_in {x : Int32} {n : Nat} (h : zIn x n) (hn : n < 2 ^ 31) : ¬ nI n ≤ x := by
  rw [h.2]
  exact nI_ge h.1 hn
theorem ip_ok : ∀ k, k < 48 → ¬ g_X6_isPlace (nI k) = 0 := by decide +kernel
theorem is_ok : ∀ k, k < 8 → ¬ g_X6_isSlot (nI k) = 0 := by decide +kernel
section GS
variable {Y : Nat → zM} {M : zM}
theorem gs_state (hM : Y 0 = M) {x : Nat} (hx : x < 4) : g_X6_state Y (nI x) = M 0 x := by
  unfold g_X6_state
  rw [if_neg (q_thr hx), hM, zc_nI (by omega)]
theorem gs_programCounter (hM : Y 0 = M) {x : Nat} (hx : x < 4) : g_X6_programCounter Y (nI x) = M 1 x := by
  unfold g_X6_programCounter
  rw [if_neg (q_thr hx), hM, zc_nI (by omega)]
theorem gs_executed (hM : Y 0 = M) {x : Nat} (hx : x < 4) : g_X6_executed Y (nI x) = M 6 x := by
  unfold g_X6_executed
  rw [if_neg (q_thr hx), hM, zc_nI (by omega)]
theorem gs_lent (hM : Y 0 = M) {x : Nat} (hx : x < 4) : g_X6_lent Y (nI x) = M 7 x := by
  unfold g_X6_lent
  rw [if_neg (q_thr hx), hM, zc_nI (by omega)]
theorem gs_starved (hM : Y 0 = M) {x : Nat} (hx : x < 4) : g_X6_starved Y (nI x) = M 9 x := by
  unfold g_X6_starved
  rw [if_neg (q_thr hx), hM, zc_nI (by omega)]
theorem gs_register (hM : Y 0 = M) {x r : Nat} (hx : x < 4) (hr : r < 4) : g_X6_register Y (nI x) (nI r) = M (x + 20) r := by
  unfold g_X6_register
  rw [if_neg (q_thr hx), if_neg (show ¬ g_X6_isRegister (nI r) = 0 from q_thr hr), hM, zc_nI (by omega), zc_nI (by omega)]
theorem gs_register4 {x : Nat} (hx : x < 4) : g_X6_register Y (nI x) (nI 4) = (-100001) := by
  unfold g_X6_register
  rw [if_neg (q_thr hx), if_pos (by decide)]
theorem gs_operation (hM : Y 0 = M) {k : Nat} (hk : k < 48) : g_X6_operation Y (nI k) = M 10 k := by
  unfold g_X6_operation
  rw [if_neg (ip_ok k hk), hM, zc_nI (by omega)]
theorem gs_breakpoint (hM : Y 0 = M) {k : Nat} (hk : k < 48) : g_X6_breakpoint Y (nI k) = M 12 k := by
  unfold g_X6_breakpoint
  rw [if_neg (ip_ok k hk), hM, zc_nI (by omega)]
theorem gs_operand0 (hM : Y 0 = M) {k : Nat} (hk : k < 48) : g_X6_operand Y (nI k) (nI 0) = M 11 (k * 2) := by
  unfold g_X6_operand
  rw [if_neg (ip_ok k hk), if_neg (by decide), hM, zc_nI (by omega)]
  rfl
theorem gs_operand1 (hM : Y 0 = M) {k : Nat} (hk : k < 48) : g_X6_operand Y (nI k) (nI 1) = M 11 (k * 2 + 1) := by
  unfold g_X6_operand
  rw [if_neg (ip_ok k hk), if_neg (by decide), hM, zc_nI (by omega)]
  rfl
theorem gs_slot (hM : Y 0 = M) {k : Nat} (hk : k < 8) : g_X6_slot Y (nI k) = M 14 k := by
  unfold g_X6_slot
  rw [if_neg (is_ok k hk), hM, zc_nI (by omega)]
theorem gs_setting0 (hM : Y 0 = M) : g_X6_setting Y (nI 0) = M 15 0 := by
  unfold g_X6_setting
  rw [if_neg (by decide), hM]
  rfl
theorem gs_setting1 (hM : Y 0 = M) : g_X6_setting Y (nI 1) = M 15 1 := by
  unfold g_X6_setting
  rw [if_neg (by decide), hM]
  rfl
theorem gs_cycle (hM : Y 0 = M) : g_X6_cycle Y = M 16 0 := by
  unfold g_X6_cycle
  rw [hM]
theorem gs_idle (hM : Y 0 = M) : g_X6_idle Y = M 17 0 := by
  unfold g_X6_idle
  rw [hM]
theorem gs_next (hM : Y 0 = M) : g_X6_nextThread Y = g_X3_findIssuer M := by
  unfold g_X6_nextThread
  rw [hM]
theorem gs_trace (hM : Y 0 = M) {k p : Nat} (hk : k < 2 ^ 31) (hp : p < 3) (h18 : zc (M 18 1) < 2 ^ 31) : g_X6_trace Y (nI k) (nI p) = if k < zc (M 18 1) then tr M k p else (-100005) := by
  have pp : ∀ p, p < 3 → ¬ g_X6_isWithin (nI p) (nI 0) (nI 2) = 0 := by decide +kernel
  unfold g_X6_trace g_X5_lookUp
  rw [if_neg (nI_pos hk), if_neg (pp p hp), hM, zc_nI hk, zc_nI (by omega)]
  by_cases c : k < zc (M 18 1)
  · rw [if_pos (nI_lt c h18), if_pos c]
    rfl
  · rw [if_neg (nI_nlt (by omega) hk), if_neg c]
end GS
/-! booleans that are gathered over the threads -/
def sxp (f : Nat → Int32) : Nat → Nat
  | 0 => 0
  | n + 1 => sxp f n + zc (f n)
theorem sx_s {f : Nat → Int32} {x n : Nat} (h : zIn (f x) n) : nI (sxp f x) + f x = nI (sxp f (x + 1)) := by
  show nI (sxp f x) + f x = nI (sxp f x + zc (f x))
  rw [← nI_add, ← h.2]
theorem sx_4 (f : Nat → Int32) : sxp f 4 = sxf f := by
  show 0 + zc (f 0) + zc (f 1) + zc (f 2) + zc (f 3) = zc (f 0) + zc (f 1) + zc (f 2) + zc (f 3)
  omega
def ovP (M : zM) (x : Nat) (w : Int32) : Prop := (w = nI 1 ∧ ∀ t, t < x → M 0 t = 0) ∨ (w = nI 0 ∧ ∃ t, t < x ∧ ¬ M 0 t = 0)
def rdP (M : zM) (v : Int32) (x : Nat) (w : Int32) : Prop := (w = nI 1 ∧ ∃ t, t < x ∧ M 0 t = v) ∨ (w = nI 0 ∧ ∀ t, t < x → ¬ M 0 t = v)
theorem ov_0 {M : zM} {x : Nat} {w : Int32} (h : ovP M x w) (c : w = 0 ∨ ¬ M 0 x = 0) : ovP M (x + 1) (nI 0) := by
  rcases c with c | c
  · rcases h with ⟨h1, -⟩ | ⟨-, t, ht, h2⟩
    · rw [h1] at c
      exact absurd c (by decide)
    · exact Or.inr ⟨rfl, t, by omega, h2⟩
  · exact Or.inr ⟨rfl, x, by omega, c⟩
theorem ov_1 {M : zM} {x : Nat} {w : Int32} (h : ovP M x w) (c : ¬ w = 0) (c2 : M 0 x = 0) : ovP M (x + 1) (nI 1) := by
  rcases h with ⟨-, h2⟩ | ⟨h1, -⟩
  · refine Or.inl ⟨rfl, fun t ht => ?_⟩
    by_cases e : t = x
    · rw [e]
      exact c2
    · exact h2 t (by omega)
  · exact absurd h1 c
theorem rd_1 {M : zM} {v : Int32} {x : Nat} {w : Int32} (h : rdP M v x w) (c : ¬ w = 0 ∨ M 0 x = v) : rdP M v (x + 1) (nI 1) := by
  rcases c with c | c
  · rcases h with ⟨-, t, ht, h2⟩ | ⟨h1, -⟩
    · exact Or.inl ⟨rfl, t, by omega, h2⟩
    · exact absurd h1 c
  · exact Or.inl ⟨rfl, x, by omega, c⟩
theorem rd_0 {M : zM} {v : Int32} {x : Nat} {w : Int32} (h : rdP M v x w) (c : w = 0) (c2 : ¬ M 0 x = v) : rdP M v (x + 1) (nI 0) := by
  rcases h with ⟨h1, -⟩ | ⟨-, h2⟩
  · rw [h1] at c
    exact absurd c (by decide)
  · refine Or.inr ⟨rfl, fun t ht => ?_⟩
    by_cases e : t = x
    · rw [e]
      exact c2
    · exact h2 t (by omega)
theorem ov_all {M : zM} {w : Int32} (h : ovP M 4 w) (c : ¬ w = 0) : ∀ t, t < 4 → M 0 t = 0 := by
  rcases h with ⟨-, h2⟩ | ⟨h1, -⟩
  · exact h2
  · exact absurd h1 c
theorem ov_any {M : zM} {w : Int32} (h : ovP M 4 w) (c : w = 0) : ∃ t, t < 4 ∧ ¬ M 0 t = 0 := by
  rcases h with ⟨h1, -⟩ | ⟨-, h2⟩
  · rw [h1] at c
    exact absurd c (by decide)
  · exact h2
theorem rd_any {M : zM} {v w : Int32} (h : rdP M v 4 w) (c : ¬ w = 0) : ∃ t, t < 4 ∧ M 0 t = v := by
  rcases h with ⟨-, h2⟩ | ⟨h1, -⟩
  · exact h2
  · exact absurd h1 c
theorem rdy_0 {M : zM} {t : Nat} (h : q_rdy M t) : ¬ M 0 t = 0 := by
  intro e
  rcases h with h | h | h
  · rw [e] at h
    exact absurd h (by decide)
  · rw [e] at h
    exact absurd h.1 (by decide)
  · have k := h.1
    rw [e] at k
    exact absurd k (by decide)
/-- what is left: 0 where all are halted -/
def LF (M : zM) (w : Int32) : Prop := ((∀ t, t < 4 → M 0 t = 0) ∧ w = nI 0) ∨ ((∃ t, t < 4 ∧ ¬ M 0 t = 0) ∧ (w = (-100005) ∨ ∃ k, 0 < k ∧ k ≤ 500 ∧ w = nI k))
theorem lf_0 {M : zM} {w : Int32} (h : LF M w) (c : ∀ t, t < 4 → M 0 t = 0) : w = 0 := by
  rcases h with ⟨-, h⟩ | ⟨⟨t, ht, h2⟩, -⟩
  · exact h
  · exact absurd (c t ht) h2
theorem lf_n {M : zM} {w : Int32} (h : LF M w) (c : ∃ t, t < 4 ∧ ¬ M 0 t = 0) (c2 : ¬ 0 < w) : w = (-100005) := by
  rcases h with ⟨h, -⟩ | ⟨-, h | ⟨k, k0, k5, h⟩⟩
  · obtain ⟨t, ht, h2⟩ := c
    exact absurd (h t ht) h2
  · exact h
  · rw [h] at c2
    exact absurd (nI_lt (a := 0) k0 (by omega)) c2
/-- the next issuing thread -/
def NX0 (M : zM) : Prop := ¬ q_rdy M (zc (M 14 (zc (M 16 0) % 8))) ∧ (M 15 1 = nI 1 ∨ M 15 1 = nI 2 → ∀ t, t < 4 → ¬ q_rdy M t)
theorem nx_lend {M : zM} (h : NX0 M) (hl : zIn (M 15 1) 3) {w : Int32} (hr : rdP M (nI 1) 4 w) (c : ¬ w = 0) (c2 : ¬ M 15 1 = 0) : False := by
  obtain ⟨t, ht, e⟩ := rd_any hr c
  have h3 := hl.1
  have h4 := hl.2
  have l12 : M 15 1 = nI 1 ∨ M 15 1 = nI 2 := by
    have q : zc (M 15 1) = 0 ∨ zc (M 15 1) = 1 ∨ zc (M 15 1) = 2 := by omega
    rcases q with q | q | q
    · rw [q] at h4
      exact absurd h4 c2
    · rw [q] at h4
      exact Or.inl h4
    · rw [q] at h4
      exact Or.inr h4
  exact h.2 l12 t ht (Or.inl e)
/-! the part of the cycles that was used -/
theorem fl_q {i j : Nat} (hij : i ≤ j) (hj : 0 < j) (h24 : j ≤ 2 ^ 24) : FP.Core.val32 (FP.Core.fdiv (FP.Core.i2f (nI i)) (FP.Core.i2f (nI j))) ≠ FP.Core.Datum.nan ∧ 0 ≤ FP.Core.zval FP.Core.b32 (FP.Core.val32 (FP.Core.fdiv (FP.Core.i2f (nI i)) (FP.Core.i2f (nI j)))) ∧ FP.Core.zval FP.Core.b32 (FP.Core.val32 (FP.Core.fdiv (FP.Core.i2f (nI i)) (FP.Core.i2f (nI j)))) ≤ FP.Core.zval FP.Core.b32 (FP.Core.val32 FP.Core.fconst1) := by
  have ha := FP.Core.i2f_int (a := nI i) (by rw [nI_toInt (by omega)]; omega)
  have hb := FP.Core.i2f_int (a := nI j) (by rw [nI_toInt (by omega)]; omega)
  rw [nI_toInt (by omega)] at ha hb
  unfold FP.Core.FInt at ha hb
  rw [FP.Core.val32_fdiv, FP.Core.val32_fconst1]
  generalize FP.Core.val32 (FP.Core.i2f (nI i)) = A at *
  generalize FP.Core.val32 (FP.Core.i2f (nI j)) = Bd at *
  have hV : FP.Core.fits FP.Core.b32 (FP.Core.Datum.fin false (2 ^ 23) (-23)) := by
    rw [← FP.Core.val32_fconst1]
    exact FP.Core.val32_fits _
  have v0 : 0 ≤ FP.Core.zval FP.Core.b32 (FP.Core.Datum.fin false (2 ^ 23) (-23)) := by
    show (0 : Int) ≤ ((FP.Core.inUnits (2 ^ 23) (-23) FP.Core.b32.qmin : Nat) : Int)
    exact Int.natCast_nonneg _
  cases A with
  | nan => exact False.elim ha
  | inf s => exact False.elim ha
  | fin s c q =>
    cases Bd with
    | nan => exact False.elim hb
    | inf t => exact False.elim hb
    | fin t d r =>
      have ha : FP.Core.signed s (c * 2 ^ q.toNat) = (i : Int) * ((2 ^ (-q).toNat : Nat) : Int) := ha
      have hb : FP.Core.signed t (d * 2 ^ r.toNat) = (j : Int) * ((2 ^ (-r).toNat : Nat) : Int) := hb
      rw [← Int.natCast_mul] at ha hb
      have pb : 0 < j * 2 ^ (-r).toNat := Nat.mul_pos hj (Nat.two_pow_pos _)
      have hd : ¬ d = 0 := by
        intro e
        subst e
        rw [Nat.zero_mul] at hb
        cases t with
        | false =>
          have hb : ((0 : Nat) : Int) = _ := hb
          omega
        | true =>
          have hb : -((0 : Nat) : Int) = _ := hb
          omega
      have ht : t = false := by
        cases t with
        | false => rfl
        | true =>
          have hb : -((d * 2 ^ r.toNat : Nat) : Int) = _ := hb
          omega
      subst ht
      have hbN : d * 2 ^ r.toNat = j * 2 ^ (-r).toNat := by
        have hb : ((d * 2 ^ r.toNat : Nat) : Int) = _ := hb
        exact Int.ofNat.inj hb
      have e : FP.Core.quotient FP.Core.b32 (FP.Core.Datum.fin s c q) (FP.Core.Datum.fin false d r) = FP.Core.roundRatio FP.Core.b32 (s != false) c d (q - r) := if_neg hd
      rw [e]
      refine ⟨FP.Core.roundRatio_ne_nan _ _ _ _ _, ?_⟩
      by_cases hc : c = 0
      · subst hc
        have e2 : FP.Core.roundRatio FP.Core.b32 (s != false) 0 d (q - r) = FP.Core.Datum.fin (s != false) 0 FP.Core.b32.qmin := if_pos rfl
        have e3 : FP.Core.zval FP.Core.b32 (FP.Core.Datum.fin (s != false) 0 FP.Core.b32.qmin) = 0 := by
          have e4 : FP.Core.inUnits 0 FP.Core.b32.qmin FP.Core.b32.qmin = 0 := Nat.zero_mul _
          show FP.Core.signed (s != false) (FP.Core.inUnits 0 FP.Core.b32.qmin FP.Core.b32.qmin) = 0
          rw [e4]
          cases s <;> rfl
        rw [e2, e3]
        exact ⟨Int.le_refl _, v0⟩
      · have pc : 0 < c * 2 ^ q.toNat := Nat.mul_pos (Nat.pos_of_ne_zero hc) (Nat.two_pow_pos _)
        have hs : s = false := by
          cases s with
          | false => rfl
          | true =>
            have ha : -((c * 2 ^ q.toNat : Nat) : Int) = _ := ha
            omega
        subst hs
        have haN : c * 2 ^ q.toNat = i * 2 ^ (-q).toNat := by
          have ha : ((c * 2 ^ q.toNat : Nat) : Int) = _ := ha
          exact Int.ofNat.inj ha
        have key : FP.Core.zmag FP.Core.b32 (FP.Core.roundRatio FP.Core.b32 false c d (q - r)) ≤ FP.Core.zmag FP.Core.b32 (FP.Core.Datum.fin false (2 ^ 23) (-23)) := by
          have hq := FP.Core.qmin_b32
          refine FP.Core.zmag_roundRatio_le FP.Core.good_b32 (e0 := min FP.Core.b32.qmin (q - r)) (Nat.pos_of_ne_zero hd) hV (fun h => FP.Core.Datum.noConfusion h) (by omega) (by omega) ?_
          rw [← FP.Core.units_fin hV (by omega)]
          rw [hq]
          show c * 2 ^ (q - r - min (-149) (q - r)).toNat ≤ 2 ^ 23 * 2 ^ (-23 - min (-149) (q - r)).toNat * d
          have h1 : c * 2 ^ (q.toNat + (-r).toNat) ≤ d * 2 ^ (r.toNat + (-q).toNat) := by
            rw [Nat.pow_add, Nat.pow_add, ← Nat.mul_assoc, ← Nat.mul_assoc, haN, hbN, Nat.mul_right_comm j]
            exact Nat.mul_le_mul_right _ (Nat.mul_le_mul_right _ hij)
          have h2 : 2 ^ 23 * 2 ^ (-23 - min (-149) (q - r)).toNat * d = d * 2 ^ (-(min (-149) (q - r))).toNat := by
            rw [← Nat.pow_add, Nat.mul_comm]
            congr 2
            omega
          rw [h2]
          refine Nat.le_of_mul_le_mul_right (c := 2 ^ (r.toNat + (-q).toNat)) ?_ (Nat.two_pow_pos _)
          rw [Nat.mul_assoc, Nat.mul_assoc, ← Nat.pow_add, ← Nat.pow_add]
          have g1 : (q - r - min (-149) (q - r)).toNat + (r.toNat + (-q).toNat) = q.toNat + (-r).toNat + (-(min (-149) (q - r))).toNat := by omega
          have g2 : (-(min (-149) (q - r))).toNat + (r.toNat + (-q).toNat) = r.toNat + (-q).toNat + (-(min (-149) (q - r))).toNat := by omega
          rw [g1, g2, Nat.pow_add 2 (q.toNat + (-r).toNat), Nat.pow_add 2 (r.toNat + (-q).toNat), ← Nat.mul_assoc, ← Nat.mul_assoc]
          exact Nat.mul_le_mul_right _ h1
        have sg := FP.Core.sgn_roundRatio FP.Core.b32 false c d (q - r)
        have ez : FP.Core.zval FP.Core.b32 (FP.Core.roundRatio FP.Core.b32 false c d (q - r)) = ((FP.Core.zmag FP.Core.b32 (FP.Core.roundRatio FP.Core.b32 false c d (q - r)) : Nat) : Int) := by
          unfold FP.Core.zval
          rw [sg]
          rfl
        have ev : FP.Core.zval FP.Core.b32 (FP.Core.Datum.fin false (2 ^ 23) (-23)) = ((FP.Core.zmag FP.Core.b32 (FP.Core.Datum.fin false (2 ^ 23) (-23)) : Nat) : Int) := rfl
        show 0 ≤ FP.Core.zval FP.Core.b32 (FP.Core.roundRatio FP.Core.b32 false c d (q - r)) ∧ FP.Core.zval FP.Core.b32 (FP.Core.roundRatio FP.Core.b32 false c d (q - r)) ≤ _
        rw [ez, ev]
        exact ⟨Int.natCast_nonneg _, Int.ofNat_le.mpr key⟩
def US (M : zM) (u : UInt32) : Prop := ¬ Op.cmpValue (FP.fcmp u FP.fconst0) .l < 0 ∧ ¬ 0 < Op.cmpValue (FP.fcmp u FP.fconst1) .g ∧ (M 16 0 = 0 → Op.cmpValue (FP.fcmp u FP.fconst0) .l = 0) ∧ (¬ M 16 0 = 0 → Op.cmpValue (FP.fcmp u (FP.fdiv (FP.i2f (M 16 0 - M 17 0)) (FP.i2f (M 16 0)))) .l = 0)
theorem us_all {B : Nat} {Y : Nat → zM} {M : zM} (hM : Y 0 = M) (hB : B < 2 ^ 24) (h : ct1 B M) : US M (g_X6_use Y) := by
  have t1 := h.1
  have t2 := h.2.1
  have t4 := h.2.2.2.1
  have b1 := t1.1
  unfold g_X6_use US
  rw [hM]
  by_cases c : M 16 0 = 0
  · rw [if_pos c]
    exact ⟨by decide +kernel, by decide +kernel, fun _ => by decide +kernel, fun q => absurd c q⟩
  · rw [if_neg c]
    have j0 : 0 < zc (M 16 0) := Nat.pos_of_ne_zero (fun q => c (by rw [t1.2, q]; rfl))
    have es : M 16 0 - M 17 0 = nI (zc (M 16 0) - zc (M 17 0)) := by
      rw [t1.2, t2.2]
      rw [← t1.2, ← t2.2]
      have k := pk_sub (a := zc (M 16 0)) (b := zc (M 17 0)) (by omega)
      rw [← t1.2, ← t2.2] at k
      exact k
    have f := fl_q (i := zc (M 16 0) - zc (M 17 0)) (j := zc (M 16 0)) (by omega) j0 (by omega)
    rw [← es, ← t1.2] at f
    generalize M 16 0 - M 17 0 = x at *
    have f : FP.Core.val32 (FP.fdiv (FP.i2f x) (FP.i2f (M 16 0))) ≠ FP.Core.Datum.nan ∧ 0 ≤ FP.Core.zval FP.Core.b32 (FP.Core.val32 (FP.fdiv (FP.i2f x) (FP.i2f (M 16 0)))) ∧ FP.Core.zval FP.Core.b32 (FP.Core.val32 (FP.fdiv (FP.i2f x) (FP.i2f (M 16 0)))) ≤ FP.Core.zval FP.Core.b32 (FP.Core.val32 FP.fconst1) := f
    generalize FP.fdiv (FP.i2f x) (FP.i2f (M 16 0)) = u at *
    obtain ⟨f1, f2, f3⟩ := f
    have z0 : FP.Core.zval FP.Core.b32 (FP.Core.val32 FP.fconst0) = 0 := by decide +kernel
    have g0 : FP.fcmp u FP.fconst0 = some .gt ∨ FP.fcmp u FP.fconst0 = some .eq := FP.Core.fcmp_ge.mpr ⟨f1, by decide +kernel, by rw [z0]; exact f2⟩
    have g1 : FP.fcmp u FP.fconst1 = some .lt ∨ FP.fcmp u FP.fconst1 = some .eq := FP.Core.fcmp_le.mpr ⟨f1, by decide +kernel, f3⟩
    have g2 : FP.fcmp u u = some .eq := FP.Core.fcmp_self f1
    refine ⟨?_, ?_, fun q => absurd q c, fun _ => ?_⟩
    · rcases g0 with g | g
      · rw [g]
        decide
      · rw [g]
        decide
    · rcases g1 with g | g
      · rw [g]
        decide
      · rw [g]
        decide
    · rw [g2]
      decide
theorem cl_all (l : Launch) (D : va_G) (a : Nat → Nat) (ca : Nat → ClassId) (hJ : zJ a) {Z : Nat → zM} {M : zM} (hM : Z 0 = M) (hI : zOK (Z 0)) (hXR : ∀ k, k < 6 → xR (Z k)) : ∃ (T : zM) (w : Int32), xR T ∧ LF M w ∧ zCi l yX6_cyclesLeft wsX6_cyclesLeft ({ frames := 6, cells := 0, slots := 0, locals := 139 } : Room) D a ca [.ref (a 114)] Z w (va_up Z 1 T) := by
  have k := ct_cyclesLeft2 l D a ca hJ Z hI hXR
  have x0 := hXR 0 (by decide)
  unfold g_cyclesLeft2 h_cyclesLeft2 g_tryOut2 h_tryOut2 at k
  rw [hM] at k x0
  rw [zu_self, zu_self] at k
  exact ⟨_, _, xR_end _ _ _ x0, re_all M, k⟩
