theorem cf_t (Z : Nat → zM) (k2 t : Nat) (M : zM) (t' : Nat) : ∀ c, c < 10 → h_X0_copyFrom Z k2 t M c t' = if t' = t then Z k2 c t else M c t' := by
  intro c hc
  match c, hc with
  | 0, _ =>
    by_cases e : t' = t
    · subst e
      rw [if_pos rfl]
      simp (disch := omega) only [h_X0_copyFrom, zu_s, zu_c, zu_i, zr_n, ne_eq, not_false_eq_true]
    · rw [if_neg e]
      simp (disch := omega) only [h_X0_copyFrom, zu_s, zu_c, zu_i, zr_n, ne_eq, not_false_eq_true]
  | 1, _ =>
    by_cases e : t' = t
    · subst e
      rw [if_pos rfl]
      simp (disch := omega) only [h_X0_copyFrom, zu_s, zu_c, zu_i, zr_n, ne_eq, not_false_eq_true]
    · rw [if_neg e]
      simp (disch := omega) only [h_X0_copyFrom, zu_s, zu_c, zu_i, zr_n, ne_eq, not_false_eq_true]
  | 2, _ =>
    by_cases e : t' = t
    · subst e
      rw [if_pos rfl]
      simp (disch := omega) only [h_X0_copyFrom, zu_s, zu_c, zu_i, zr_n, ne_eq, not_false_eq_true]
    · rw [if_neg e]
      simp (disch := omega) only [h_X0_copyFrom, zu_s, zu_c, zu_i, zr_n, ne_eq, not_false_eq_true]
  | 3, _ =>
    by_cases e : t' = t
    · subst e
      rw [if_pos rfl]
      simp (disch := omega) only [h_X0_copyFrom, zu_s, zu_c, zu_i, zr_n, ne_eq, not_false_eq_true]
    · rw [if_neg e]
      simp (disch := omega) only [h_X0_copyFrom, zu_s, zu_c, zu_i, zr_n, ne_eq, not_false_eq_true]
  | 4, _ =>
    by_cases e : t' = t
    · subst e
      rw [if_pos rfl]
      simp (disch := omega) only [h_X0_copyFrom, zu_s, zu_c, zu_i, zr_n, ne_eq, not_false_eq_true]
    · rw [if_neg e]
      simp (disch := omega) only [h_X0_copyFrom, zu_s, zu_c, zu_i, zr_n, ne_eq, not_false_eq_true]
  | 5, _ =>
    by_cases e : t' = t
    · subst e
      rw [if_pos rfl]
      simp (disch := omega) only [h_X0_copyFrom, zu_s, zu_c, zu_i, zr_n, ne_eq, not_false_eq_true]
    · rw [if_neg e]
      simp (disch := omega) only [h_X0_copyFrom, zu_s, zu_c, zu_i, zr_n, ne_eq, not_false_eq_true]
  | 6, _ =>
    by_cases e : t' = t
    · subst e
      rw [if_pos rfl]
      simp (disch := omega) only [h_X0_copyFrom, zu_s, zu_c, zu_i, zr_n, ne_eq, not_false_eq_true]
    · rw [if_neg e]
      simp (disch := omega) only [h_X0_copyFrom, zu_s, zu_c, zu_i, zr_n, ne_eq, not_false_eq_true]
  | 7, _ =>
    by_cases e : t' = t
    · subst e
      rw [if_pos rfl]
      simp (disch := omega) only [h_X0_copyFrom, zu_s, zu_c, zu_i, zr_n, ne_eq, not_false_eq_true]
    · rw [if_neg e]
      simp (disch := omega) only [h_X0_copyFrom, zu_s, zu_c, zu_i, zr_n, ne_eq, not_false_eq_true]
  | 8, _ =>
    by_cases e : t' = t
    · subst e
      rw [if_pos rfl]
      simp (disch := omega) only [h_X0_copyFrom, zu_s, zu_c, zu_i, zr_n, ne_eq, not_false_eq_true]
    · rw [if_neg e]
      simp (disch := omega) only [h_X0_copyFrom, zu_s, zu_c, zu_i, zr_n, ne_eq, not_false_eq_true]
  | 9, _ =>
    by_cases e : t' = t
    · subst e
      rw [if_pos rfl]
      simp (disch := omega) only [h_X0_copyFrom, zu_s, zu_c, zu_i, zr_n, ne_eq, not_false_eq_true]
    · rw [if_neg e]
      simp (disch := omega) only [h_X0_copyFrom, zu_s, zu_c, zu_i, zr_n, ne_eq, not_false_eq_true]
theorem cf_tail (Z : Nat → zM) (k2 i : Nat) (M : zM) {c : Nat} (h : c < 10 ∨ 20 ≤ c) : h_X3_copyFrom_lp Z k2 0 i M c = M c := by
  unfold h_X3_copyFrom_lp h_X5_copyFrom h_X2_copyRows
  simp (disch := omega) only [zu_c, zr_n]
theorem cf_c (Z : Nat → zM) (k2 : Nat) (M : zM) {c t : Nat} (hc : c < 10) (ht : t < 4) : h_X3_copyFrom Z k2 M c t = Z k2 c t := by
  unfold h_X3_copyFrom
  simp only [h_X3_copyFrom_lp.eq_2]
  rw [cf_tail _ _ _ _ (Or.inl hc), cf_t _ _ _ _ _ _ hc, cf_t _ _ _ _ _ _ hc, cf_t _ _ _ _ _ _ hc, cf_t _ _ _ _ _ _ hc]
  exact z4 (P := fun t => (if t = 0 + 1 + 1 + 1 then Z k2 c (0 + 1 + 1 + 1) else if t = 0 + 1 + 1 then Z k2 c (0 + 1 + 1) else if t = 0 + 1 then Z k2 c (0 + 1) else if t = 0 then Z k2 c 0 else M c t) = Z k2 c t) rfl rfl rfl rfl ht
theorem cf_18 (Z : Nat → zM) (k2 : Nat) (M : zM) {i : Nat} (hi : i < 2) : h_X3_copyFrom Z k2 M 18 i = Z k2 18 i := by
  unfold h_X3_copyFrom
  simp only [h_X3_copyFrom_lp.eq_2]
  unfold h_X3_copyFrom_lp h_X5_copyFrom
  match i, hi with
  | 0, _ => simp (disch := omega) only [zu_c, zu_s, zu_i]
  | 1, _ => simp (disch := omega) only [zu_c, zu_s, zu_i]
theorem zOK_copyFrom {Z : Nat → zM} {k2 : Nat} {M : zM} (h : zOK (Z k2)) : zOK (h_X3_copyFrom Z k2 M) := by
  refine ⟨fun t ht => ?_, fun t ht => ?_, ?_, ?_⟩
  · rw [cf_c _ _ _ (by decide) ht]
    exact h.1 t ht
  · rw [cf_c _ _ _ (by decide) ht]
    exact h.2.1 t ht
  · rw [cf_18 _ _ _ (by decide)]
    exact h.2.2.1
  · rw [cf_18 _ _ _ (by decide)]
    exact h.2.2.2

def g_X6_tryOut (Z : Nat → zM) (latency : Int32) (lend : Int32) : Int32 := (g_X3_runToEnd (zu (zu (h_X3_copyFrom Z 0 (Z 1)) 15 0 latency) 15 1 lend))
def h_X6_tryOut (Z : Nat → zM) (latency : Int32) (lend : Int32) : Nat → zM := va_up Z 1 (h_X3_runToEnd (zu (zu (h_X3_copyFrom Z 0 (Z 1)) 15 0 latency) 15 1 lend))
set_option maxHeartbeats 4000000 in
set_option maxRecDepth 100000 in
theorem ct_X6_tryOut (l : Launch) (D : va_G) (a : Nat → Nat) (ca : Nat → ClassId) (hJ : zJ a) (Z : Nat → zM) (latency : Int32) (lend : Int32) (hI : zOK (Z 0)) : zCi l yX6_tryOut wsX6_tryOut ({ frames := 5, cells := 0, slots := 0, locals := 117 } : Room) D a ca [.ref (a 114), .int latency, .int lend] (Z) (g_X6_tryOut Z latency lend) (h_X6_tryOut Z latency lend) := by
  have hiX3 : ∀ w ∈ wsX30, w ∈ wsX6_tryOut := by decide +kernel
  have hiX6 : ∀ w ∈ wsX60, w ∈ wsX6_tryOut := by decide +kernel
  refine z_ofi (cc := cX6_tryOut) (maxL := 3) (own := RX6) (by decide) rfl (Nat.le_of_ble_eq_true rfl) rfl (fun p e s m below meth c ls hx hb hr hml hts hown hlk hl hK hP hS => ?_)
  have hl : lv_has ls 3 [(0, .ref (a 114)), (1, .int latency), (2, .int lend)] := hl
  refine lv_aload_n hx hb dX6_tryOut_0 rfl (lv_at hl 0 rfl) ?_
  have hP := zfoc_in (Z := Z) (k := 6) (M := Z 6) rfl hP
  refine zgb1' hx hb hts hiX6 hown hK hP  (hts (.fieldLink RX6 16 "BarrelProcessor" "trial" "LBarrelProcessor$Machine;") (by decide +kernel)) dX6_tryOut_1 ?_
  refine lv_aload_n hx hb dX6_tryOut_4 rfl (lv_at hl 0 rfl) ?_
  refine zgb0' hx hb hts hiX6 hown hK hP  (hts (.fieldLink RX6 10 "BarrelProcessor" "machine" "LBarrelProcessor$Machine;") (by decide +kernel)) dX6_tryOut_5 ?_
  have hP := zfoc_out (Z := Z) (k := 6) rfl hP
  have hP := zfoc_in (Z := Z) (k := 1) (M := Z 1) rfl hP
  refine z_cVv (As := [.ref (a (19 * 0))]) (rest := []) ⟨hx, hb, hml, hown, hts⟩ (ct_X3_copyFrom l D a ca hJ Z 1 (Z 1) (by omega) 0 (by omega) (by omega)) (cwV 1 hts gX6_tryOut_X3_copyFrom rfl rfl rfl (by decide +kernel) ⟨Nat.le_of_ble_eq_true rfl, Nat.le_of_ble_eq_true rfl⟩) hK hP hS (va_recv (ci := 3) hK.1 hP rfl (zG_m (by omega))) rfl hl.1 rfl (Nat.le_of_ble_eq_true rfl) dX6_tryOut_8 ⟨Nat.zero_le _, Nat.zero_le _⟩ (fun H locs hP hS => ?_)
  refine lv_aload_n hx hb dX6_tryOut_11 rfl (lv_at hl 0 rfl) ?_
  have hP := zfoc_in (Z := va_up Z 1 (h_X3_copyFrom Z 0 (Z 1))) (k := 6) (M := Z 6) (va_up_ne _ _ (by omega)).symm hP
  refine zgb1' hx hb hts hiX6 hown hK hP  (hts (.fieldLink RX6 16 "BarrelProcessor" "trial" "LBarrelProcessor$Machine;") (by decide +kernel)) dX6_tryOut_12 ?_
  have hP := zfoc_out (Z := va_up Z 1 (h_X3_copyFrom Z 0 (Z 1))) (k := 6) (va_up_ne _ _ (by omega)).symm hP
  refine znm5 hx hb hts hiX3 hown hK hP (by omega) (zn_RX6_119 hK) dX6_tryOut_15 ?_
  refine lv_iconst (v := nI 0) hx hb dX6_tryOut_18 (by decide) ?_
  refine lv_iload_n hx hb dX6_tryOut_19 rfl (lv_at hl 1 rfl) ?_
  refine z_iast (Z' := va_up Z 1 (zu (h_X3_copyFrom Z 0 (Z 1)) 15 0 latency)) hx hb hK hP hJ hS (zG_se (by omega)) (j := 0) (by omega) (by decide) dX6_tryOut_20 (zS_se (by omega)) (fun H locs hP hS => ?_)
  refine lv_aload_n hx hb dX6_tryOut_21 rfl (lv_at hl 0 rfl) ?_
  have hP := zfoc_in (Z := va_up Z 1 (zu (h_X3_copyFrom Z 0 (Z 1)) 15 0 latency)) (k := 6) (M := Z 6) (va_up_ne _ _ (by omega)).symm hP
  refine zgb1' hx hb hts hiX6 hown hK hP  (hts (.fieldLink RX6 16 "BarrelProcessor" "trial" "LBarrelProcessor$Machine;") (by decide +kernel)) dX6_tryOut_22 ?_
  have hP := zfoc_out (Z := va_up Z 1 (zu (h_X3_copyFrom Z 0 (Z 1)) 15 0 latency)) (k := 6) (va_up_ne _ _ (by omega)).symm hP
  refine znm5 hx hb hts hiX3 hown hK hP (by omega) (zn_RX6_119 hK) dX6_tryOut_25 ?_
  refine lv_iconst (v := nI 1) hx hb dX6_tryOut_28 (by decide) ?_
  refine lv_iload_n hx hb dX6_tryOut_29 rfl (lv_at hl 2 rfl) ?_
  refine z_iast (Z' := va_up Z 1 (zu (zu (h_X3_copyFrom Z 0 (Z 1)) 15 0 latency) 15 1 lend)) hx hb hK hP hJ hS (zG_se (by omega)) (j := 1) (by omega) (by decide) dX6_tryOut_30 (zS_se (by omega)) (fun H locs hP hS => ?_)
  refine lv_aload_n hx hb dX6_tryOut_31 rfl (lv_at hl 0 rfl) ?_
  have hP := zfoc_in (Z := va_up Z 1 (zu (zu (h_X3_copyFrom Z 0 (Z 1)) 15 0 latency) 15 1 lend)) (k := 6) (M := Z 6) (va_up_ne _ _ (by omega)).symm hP
  refine zgb1' hx hb hts hiX6 hown hK hP  (hts (.fieldLink RX6 16 "BarrelProcessor" "trial" "LBarrelProcessor$Machine;") (by decide +kernel)) dX6_tryOut_32 ?_
  have hP := zfoc_out (Z := va_up Z 1 (zu (zu (h_X3_copyFrom Z 0 (Z 1)) 15 0 latency) 15 1 lend)) (k := 6) (va_up_ne _ _ (by omega)).symm hP
  refine z_cVi (As := []) (rest := []) ⟨hx, hb, hml, hown, hts⟩ (ct_X3_runToEnd l D a ca hJ Z 1 (zu (zu (h_X3_copyFrom Z 0 (Z 1)) 15 0 latency) 15 1 lend) (by omega) (zOK_u (by omega) (by omega) (by omega) (zOK_u (by omega) (by omega) (by omega) (zOK_copyFrom hI)))) (cwV 0 hts gX6_tryOut_X3_runToEnd rfl rfl rfl (by decide +kernel) ⟨Nat.le_of_ble_eq_true rfl, Nat.le_of_ble_eq_true rfl⟩) hK hP hS (va_recv (ci := 3) hK.1 hP rfl (zG_m (by omega))) rfl hl.1 rfl (Nat.le_of_ble_eq_true rfl) dX6_tryOut_35 ⟨Nat.zero_le _, Nat.zero_le _⟩ (fun H locs hP hS => ?_)
  exact z_reti hx hb hr hlk rfl hP hS dX6_tryOut_38 (by first | rfl | simp only [g_X6_tryOut]) (by first | rfl | simp only [h_X6_tryOut])

theorem try_0 (Z : Nat → zM) (x y : Int32) : h_X6_tryOut Z x y 0 = Z 0 := va_up_ne _ _ (by decide)

def g_X6_cyclesLeft (Z : Nat → zM) : Int32 := (g_X6_tryOut Z ((Z 0) 15 0) ((Z 0) 15 1))
def h_X6_cyclesLeft (Z : Nat → zM) : Nat → zM := h_X6_tryOut Z ((Z 0) 15 0) ((Z 0) 15 1)
set_option maxHeartbeats 4000000 in
set_option maxRecDepth 100000 in
theorem ct_X6_cyclesLeft (l : Launch) (D : va_G) (a : Nat → Nat) (ca : Nat → ClassId) (hJ : zJ a) (Z : Nat → zM) (hI : zOK (Z 0)) : zCi l yX6_cyclesLeft wsX6_cyclesLeft ({ frames := 6, cells := 0, slots := 0, locals := 139 } : Room) D a ca [.ref (a 114)] (Z) (g_X6_cyclesLeft Z) (h_X6_cyclesLeft Z) := by
  have hiX3 : ∀ w ∈ wsX30, w ∈ wsX6_cyclesLeft := by decide +kernel
  have hiX6 : ∀ w ∈ wsX60, w ∈ wsX6_cyclesLeft := by decide +kernel
  refine z_ofi (cc := cX6_cyclesLeft) (maxL := 1) (own := RX6) (by decide) rfl (Nat.le_of_ble_eq_true rfl) rfl (fun p e s m below meth c ls hx hb hr hml hts hown hlk hl hK hP hS => ?_)
  have hl : lv_has ls 1 [(0, .ref (a 114))] := hl
  refine lv_aload_n hx hb dX6_cyclesLeft_0 rfl (lv_at hl 0 rfl) ?_
  refine lv_aload_n hx hb dX6_cyclesLeft_1 rfl (lv_at hl 0 rfl) ?_
  have hP := zfoc_in (Z := Z) (k := 6) (M := Z 6) rfl hP
  refine zgb0' hx hb hts hiX6 hown hK hP  (hts (.fieldLink RX6 10 "BarrelProcessor" "machine" "LBarrelProcessor$Machine;") (by decide +kernel)) dX6_cyclesLeft_2 ?_
  have hP := zfoc_out (Z := Z) (k := 6) rfl hP
  have hP := zfoc_in (Z := Z) (k := 0) (M := Z 0) rfl hP
  refine znm5 hx hb hts hiX3 hown hK hP (by omega) (zn_RX6_119 hK) dX6_cyclesLeft_5 ?_
  refine lv_iconst (v := nI 0) hx hb dX6_cyclesLeft_8 (by decide) ?_
  refine z_iald hx hb hK hP (zG_se (by omega)) (j := 0) (by omega) (by decide) dX6_cyclesLeft_9 ?_
  refine lv_aload_n hx hb dX6_cyclesLeft_10 rfl (lv_at hl 0 rfl) ?_
  have hP := zfoc_out (Z := Z) (k := 0) rfl hP
  have hP := zfoc_in (Z := Z) (k := 6) (M := Z 6) rfl hP
  refine zgb0' hx hb hts hiX6 hown hK hP  (hts (.fieldLink RX6 10 "BarrelProcessor" "machine" "LBarrelProcessor$Machine;") (by decide +kernel)) dX6_cyclesLeft_11 ?_
  have hP := zfoc_out (Z := Z) (k := 6) rfl hP
  have hP := zfoc_in (Z := Z) (k := 0) (M := Z 0) rfl hP
  refine znm5 hx hb hts hiX3 hown hK hP (by omega) (zn_RX6_119 hK) dX6_cyclesLeft_14 ?_
  refine lv_iconst (v := nI 1) hx hb dX6_cyclesLeft_17 (by decide) ?_
  refine z_iald hx hb hK hP (zG_se (by omega)) (j := 1) (by omega) (by decide) dX6_cyclesLeft_18 ?_
  have hP := zfoc_out (Z := Z) (k := 0) rfl hP
  refine z_cVi (As := [.int ((Z 0) 15 0), .int ((Z 0) 15 1)]) (rest := []) ⟨hx, hb, hml, hown, hts⟩ (ct_X6_tryOut l D a ca hJ Z ((Z 0) 15 0) ((Z 0) 15 1) hI) (cwV 2 hts gX6_cyclesLeft_X6_tryOut rfl rfl rfl (by decide +kernel) ⟨Nat.le_of_ble_eq_true rfl, Nat.le_of_ble_eq_true rfl⟩) hK hP hS (va_recv (ci := 6) hK.1 (zfoc_in (Z := Z) (k := 6) (M := Z 6) rfl hP) rfl zG_b) rfl hl.1 rfl (Nat.le_of_ble_eq_true rfl) dX6_cyclesLeft_19 ⟨Nat.zero_le _, Nat.zero_le _⟩ (fun H locs hP hS => ?_)
  exact z_reti hx hb hr hlk rfl hP hS dX6_cyclesLeft_22 (by first | rfl | simp only [g_X6_cyclesLeft]) (by first | rfl | simp only [h_X6_cyclesLeft])

def g_X6_cyclesIf (Z : Nat → zM) (latency : Int32) (lend : Int32) : Int32 := if (g_X6_isWithin latency (nI 0) (nI 20)) = 0 then (-100002) else if (g_X6_isWithin lend (nI 0) (nI 2)) = 0 then (-100002) else (g_X6_tryOut Z latency lend)
def h_X6_cyclesIf (Z : Nat → zM) (latency : Int32) (lend : Int32) : Nat → zM := if (g_X6_isWithin latency (nI 0) (nI 20)) = 0 then Z else if (g_X6_isWithin lend (nI 0) (nI 2)) = 0 then Z else h_X6_tryOut Z latency lend
set_option maxHeartbeats 4000000 in
set_option maxRecDepth 100000 in
theorem ct_X6_cyclesIf (l : Launch) (D : va_G) (a : Nat → Nat) (ca : Nat → ClassId) (hJ : zJ a) (Z : Nat → zM) (latency : Int32) (lend : Int32) (hI : zOK (Z 0)) : zCi l yX6_cyclesIf wsX6_cyclesIf ({ frames := 6, cells := 0, slots := 0, locals := 139 } : Room) D a ca [.ref (a 114), .int latency, .int lend] (Z) (g_X6_cyclesIf Z latency lend) (h_X6_cyclesIf Z latency lend) := by
  refine z_ofi (cc := cX6_cyclesIf) (maxL := 3) (own := RX6) (by decide) rfl (Nat.le_of_ble_eq_true rfl) rfl (fun p e s m below meth c ls hx hb hr hml hts hown hlk hl hK hP hS => ?_)
  have hl : lv_has ls 3 [(0, .ref (a 114)), (1, .int latency), (2, .int lend)] := hl
  refine lv_iload_n hx hb dX6_cyclesIf_0 rfl (lv_at hl 1 rfl) ?_
  refine lv_iconst (v := nI 0) hx hb dX6_cyclesIf_1 (by decide) ?_
  refine lv_bipush (v := nI 20) hx hb dX6_cyclesIf_2 (by decide) ?_
  refine z_cSi (As := [.int latency, .int (nI 0), .int (nI 20)]) (rest := []) ⟨hx, hb, hml, hown, hts⟩ (ct_X6_isWithin l D a ca hJ Z latency (nI 0) (nI 20)) (va_cwS 3 hts gX6_cyclesIf_X6_isWithin rfl rfl rfl (by decide +kernel) ⟨Nat.le_of_ble_eq_true rfl, Nat.le_of_ble_eq_true rfl⟩) hK hP hS rfl hl.1 rfl (Nat.le_of_ble_eq_true rfl) dX6_cyclesIf_4 ⟨Nat.zero_le _, Nat.zero_le _⟩ (fun H locs hP hS => ?_)
  refine lv_if_eq (tgt := 19) hx hb dX6_cyclesIf_7 (by decide) (fun c7_1 => ?_) (fun c7_1 => ?_)
  · refine lv_ldc (v := (-100002)) hx hb hown (hts (.constant RX6 91 (-100002)) (by decide +kernel)) dX6_cyclesIf_19 ?_
    exact z_reti hx hb hr hlk rfl hP hS dX6_cyclesIf_21 (by simp only [g_X6_cyclesIf, if_pos c7_1]) (by simp only [h_X6_cyclesIf, if_pos c7_1])
  · refine lv_iload_n hx hb dX6_cyclesIf_10 rfl (lv_at hl 2 rfl) ?_
    refine lv_iconst (v := nI 0) hx hb dX6_cyclesIf_11 (by decide) ?_
    refine lv_iconst (v := nI 2) hx hb dX6_cyclesIf_12 (by decide) ?_
    refine z_cSi (As := [.int lend, .int (nI 0), .int (nI 2)]) (rest := []) ⟨hx, hb, hml, hown, hts⟩ (ct_X6_isWithin l D a ca hJ Z lend (nI 0) (nI 2)) (va_cwS 3 hts gX6_cyclesIf_X6_isWithin rfl rfl rfl (by decide +kernel) ⟨Nat.le_of_ble_eq_true rfl, Nat.le_of_ble_eq_true rfl⟩) hK hP hS rfl hl.1 rfl (Nat.le_of_ble_eq_true rfl) dX6_cyclesIf_13 ⟨Nat.zero_le _, Nat.zero_le _⟩ (fun H locs hP hS => ?_)
    refine lv_if_ne (tgt := 22) hx hb dX6_cyclesIf_16 (by decide) (fun c16_2 => ?_) (fun c16_2 => ?_)
    · refine lv_aload_n hx hb dX6_cyclesIf_22 rfl (lv_at hl 0 rfl) ?_
      refine lv_iload_n hx hb dX6_cyclesIf_23 rfl (lv_at hl 1 rfl) ?_
      refine lv_iload_n hx hb dX6_cyclesIf_24 rfl (lv_at hl 2 rfl) ?_
      refine z_cVi (As := [.int latency, .int lend]) (rest := []) ⟨hx, hb, hml, hown, hts⟩ (ct_X6_tryOut l D a ca hJ Z latency lend hI) (cwV 2 hts gX6_cyclesIf_X6_tryOut rfl rfl rfl (by decide +kernel) ⟨Nat.le_of_ble_eq_true rfl, Nat.le_of_ble_eq_true rfl⟩) hK hP hS (va_recv (ci := 6) hK.1 (zfoc_in (Z := Z) (k := 6) (M := Z 6) rfl hP) rfl zG_b) rfl hl.1 rfl (Nat.le_of_ble_eq_true rfl) dX6_cyclesIf_25 ⟨Nat.zero_le _, Nat.zero_le _⟩ (fun H locs hP hS => ?_)
      exact z_reti hx hb hr hlk rfl hP hS dX6_cyclesIf_28 (by simp only [g_X6_cyclesIf, if_neg c7_1, if_neg c16_2]) (by simp only [h_X6_cyclesIf, if_neg c7_1, if_neg c16_2])
    · refine lv_ldc (v := (-100002)) hx hb hown (hts (.constant RX6 91 (-100002)) (by decide +kernel)) dX6_cyclesIf_19 ?_
      exact z_reti hx hb hr hlk rfl hP hS dX6_cyclesIf_21 (by simp only [g_X6_cyclesIf, if_neg c7_1, if_pos c16_2]) (by simp only [h_X6_cyclesIf, if_neg c7_1, if_pos c16_2])

def g_X6_finalWord (Z : Nat → zM) (word : Int32) : Int32 := if (g_X6_isWord word) = 0 then (-100001) else if (g_X6_tryOut Z ((Z 0) 15 0) ((Z 0) 15 1)) = (-100005) then (-100005) else ((h_X6_tryOut Z ((Z 0) 15 0) ((Z 0) 15 1)) 1) 13 (zc word)
def h_X6_finalWord (Z : Nat → zM) (word : Int32) : Nat → zM := if (g_X6_isWord word) = 0 then Z else if (g_X6_tryOut Z ((Z 0) 15 0) ((Z 0) 15 1)) = (-100005) then h_X6_tryOut Z ((Z 0) 15 0) ((Z 0) 15 1) else h_X6_tryOut Z ((Z 0) 15 0) ((Z 0) 15 1)
set_option maxHeartbeats 4000000 in
set_option maxRecDepth 100000 in
theorem ct_X6_finalWord (l : Launch) (D : va_G) (a : Nat → Nat) (ca : Nat → ClassId) (hJ : zJ a) (Z : Nat → zM) (word : Int32) (hI : zOK (Z 0)) : zCi l yX6_finalWord wsX6_finalWord ({ frames := 6, cells := 0, slots := 0, locals := 139 } : Room) D a ca [.ref (a 114), .int word] (Z) (g_X6_finalWord Z word) (h_X6_finalWord Z word) := by
  have hiX3 : ∀ w ∈ wsX30, w ∈ wsX6_finalWord := by decide +kernel
  have hiX6 : ∀ w ∈ wsX60, w ∈ wsX6_finalWord := by decide +kernel
  refine z_ofi (cc := cX6_finalWord) (maxL := 3) (own := RX6) (by decide) rfl (Nat.le_of_ble_eq_true rfl) rfl (fun p e s m below meth c ls hx hb hr hml hts hown hlk hl hK hP hS => ?_)
  have hl : lv_has ls 3 [(0, .ref (a 114)), (1, .int word)] := hl
  refine lv_iload_n hx hb dX6_finalWord_0 rfl (lv_at hl 1 rfl) ?_
  refine z_cSi (As := [.int word]) (rest := []) ⟨hx, hb, hml, hown, hts⟩ (ct_X6_isWord l D a ca hJ Z word) (va_cwS 1 hts gX6_finalWord_X6_isWord rfl rfl rfl (by decide +kernel) ⟨Nat.le_of_ble_eq_true rfl, Nat.le_of_ble_eq_true rfl⟩) hK hP hS rfl hl.1 rfl (Nat.le_of_ble_eq_true rfl) dX6_finalWord_1 ⟨Nat.zero_le _, Nat.zero_le _⟩ (fun H locs hP hS => ?_)
  refine lv_if_ne (tgt := 10) hx hb dX6_finalWord_4 (by decide) (fun c4_1 => ?_) (fun c4_1 => ?_)
  · have bw := z_isWord c4_1
    refine lv_aload_n hx hb dX6_finalWord_10 rfl (lv_at hl 0 rfl) ?_
    refine lv_aload_n hx hb dX6_finalWord_11 rfl (lv_at hl 0 rfl) ?_
    have hP := zfoc_in (Z := Z) (k := 6) (M := Z 6) rfl hP
    refine zgb0' hx hb hts hiX6 hown hK hP  (hts (.fieldLink RX6 10 "BarrelProcessor" "machine" "LBarrelProcessor$Machine;") (by decide +kernel)) dX6_finalWord_12 ?_
    have hP := zfoc_out (Z := Z) (k := 6) rfl hP
    have hP := zfoc_in (Z := Z) (k := 0) (M := Z 0) rfl hP
    refine znm5 hx hb hts hiX3 hown hK hP (by omega) (zn_RX6_119 hK) dX6_finalWord_15 ?_
    refine lv_iconst (v := nI 0) hx hb dX6_finalWord_18 (by decide) ?_
    refine z_iald hx hb hK hP (zG_se (by omega)) (j := 0) (by omega) (by decide) dX6_finalWord_19 ?_
    refine lv_aload_n hx hb dX6_finalWord_20 rfl (lv_at hl 0 rfl) ?_
    have hP := zfoc_out (Z := Z) (k := 0) rfl hP
    have hP := zfoc_in (Z := Z) (k := 6) (M := Z 6) rfl hP
    refine zgb0' hx hb hts hiX6 hown hK hP  (hts (.fieldLink RX6 10 "BarrelProcessor" "machine" "LBarrelProcessor$Machine;") (by decide +kernel)) dX6_finalWord_21 ?_
    have hP := zfoc_out (Z := Z) (k := 6) rfl hP
    have hP := zfoc_in (Z := Z) (k := 0) (M := Z 0) rfl hP
    refine znm5 hx hb hts hiX3 hown hK hP (by omega) (zn_RX6_119 hK) dX6_finalWord_24 ?_
    refine lv_iconst (v := nI 1) hx hb dX6_finalWord_27 (by decide) ?_
    refine z_iald hx hb hK hP (zG_se (by omega)) (j := 1) (by omega) (by decide) dX6_finalWord_28 ?_
    have hP := zfoc_out (Z := Z) (k := 0) rfl hP
    refine z_cVi (As := [.int ((Z 0) 15 0), .int ((Z 0) 15 1)]) (rest := []) ⟨hx, hb, hml, hown, hts⟩ (ct_X6_tryOut l D a ca hJ Z ((Z 0) 15 0) ((Z 0) 15 1) hI) (cwV 2 hts gX6_finalWord_X6_tryOut rfl rfl rfl (by decide +kernel) ⟨Nat.le_of_ble_eq_true rfl, Nat.le_of_ble_eq_true rfl⟩) hK hP hS (va_recv (ci := 6) hK.1 (zfoc_in (Z := Z) (k := 6) (M := Z 6) rfl hP) rfl zG_b) rfl hl.1 rfl (Nat.le_of_ble_eq_true rfl) dX6_finalWord_29 ⟨Nat.zero_le _, Nat.zero_le _⟩ (fun H locs hP hS => ?_)
    refine lv_istore_n (lv' := [(2, .int (g_X6_tryOut Z ((Z 0) 15 0) ((Z 0) 15 1))), (0, .ref (a 114)), (1, .int word)]) hx hb dX6_finalWord_32 rfl hl (by decide) rfl (fun ls hl => ?_)
    refine lv_iload_n hx hb dX6_finalWord_33 rfl (lv_at hl 0 rfl) ?_
    refine lv_ldc (v := (-100005)) hx hb hown (hts (.constant RX6 42 (-100005)) (by decide +kernel)) dX6_finalWord_34 ?_
    refine lv_icmp_ne (tgt := 44) hx hb dX6_finalWord_36 (by decide) (fun c36_2 => ?_) (fun c36_2 => ?_)
    · refine lv_aload_n hx hb dX6_finalWord_44 rfl (lv_at hl 1 rfl) ?_
      have hP := zfoc_in (Z := h_X6_tryOut Z ((Z 0) 15 0) ((Z 0) 15 1)) (k := 6) (M := (h_X6_tryOut Z ((Z 0) 15 0) ((Z 0) 15 1)) 6) rfl hP
      refine zgb1' hx hb hts hiX6 hown hK hP  (hts (.fieldLink RX6 16 "BarrelProcessor" "trial" "LBarrelProcessor$Machine;") (by decide +kernel)) dX6_finalWord_45 ?_
      have hP := zfoc_out (Z := h_X6_tryOut Z ((Z 0) 15 0) ((Z 0) 15 1)) (k := 6) rfl hP
      have hP := zfoc_in (Z := h_X6_tryOut Z ((Z 0) 15 0) ((Z 0) 15 1)) (k := 1) (M := (h_X6_tryOut Z ((Z 0) 15 0) ((Z 0) 15 1)) 1) rfl hP
      refine znm3 hx hb hts hiX3 hown hK hP (by omega) (zn_RX6_103 hK) dX6_finalWord_48 ?_
      refine lv_iload_n hx hb dX6_finalWord_51 rfl (lv_at hl 2 rfl) ?_
      refine z_val (z := nI (zc word)) bw.2 ?_
      refine z_iald hx hb hK hP (zG_wd (by omega)) (j := zc word) bw.1 (by decide) dX6_finalWord_52 ?_
      exact z_reti hx hb hr hlk rfl (zfoc_out (Z := h_X6_tryOut Z ((Z 0) 15 0) ((Z 0) 15 1)) (k := 1) rfl hP) hS dX6_finalWord_53 (by simp only [g_X6_finalWord, if_neg c4_1, if_neg c36_2]) (by simp only [h_X6_finalWord, if_neg c4_1, if_neg c36_2])
    · refine lv_ldc (v := (-100005)) hx hb hown (hts (.constant RX6 42 (-100005)) (by decide +kernel)) dX6_finalWord_39 ?_
      refine lv_goto (tgt := 53) hx hb dX6_finalWord_41 (by decide) ?_
      exact z_reti hx hb hr hlk rfl hP hS dX6_finalWord_53 (by simp only [g_X6_finalWord, if_neg c4_1, if_pos c36_2]) (by simp only [h_X6_finalWord, if_neg c4_1, if_pos c36_2])
  · refine lv_ldc (v := (-100001)) hx hb hown (hts (.constant RX6 37 (-100001)) (by decide +kernel)) dX6_finalWord_7 ?_
    exact z_reti hx hb hr hlk rfl hP hS dX6_finalWord_9 (by simp only [g_X6_finalWord, if_pos c4_1]) (by simp only [h_X6_finalWord, if_pos c4_1])
