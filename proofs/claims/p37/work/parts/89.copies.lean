def h_remember2 (Z : Nat → zM) : Nat → zM := va_up (va_up Z (2 + (zc (Z 6 0 0))) (Z 0)) 6 (zu (zu (Z 6) 0 0 (nI ((zc (Z 6 0 0) + 1) % 4))) 0 1 (if (nI 4) < (nI (zc (Z 6 0 1) + 1)) then (nI 4) else (nI (zc (Z 6 0 1) + 1))))
set_option maxHeartbeats 4000000 in
set_option maxRecDepth 100000 in
theorem ct_remember2 (l : Launch) (D : va_G) (a : Nat → Nat) (ca : Nat → ClassId) (hJ : zJ a) (Z : Nat → zM) (hN : zIn (Z 6 0 0) 4) (hC : zIn (Z 6 0 1) 5) (hXR : ∀ k, k < 6 → xR (Z k)) : zCv l yX1_remember wsX1_remember ({ frames := 3, cells := 0, slots := 0, locals := 85 } : Room) D a ca [.ref (a 115), .ref (a (19 * 0))] (Z) (h_remember2 Z) := by
  have hiX1 : ∀ w ∈ wsX10, w ∈ wsX1_remember := by decide +kernel
  refine z_ofv (cc := cX1_remember) (maxL := 2) (own := RX1) (by decide) rfl (Nat.le_of_ble_eq_true rfl) rfl (fun p e s m below meth c ls hx hb hr hml hts hown hlk hl hK hP hS => ?_)
  have hl : lv_has ls 2 [(0, .ref (a 115)), (1, .ref (a (19 * 0)))] := hl
  have hN1 := hN.1
  have hC1 := hC.1
  refine lv_aload_n hx hb dX1_remember_0 rfl (lv_at hl 0 rfl) ?_
  have hP := zfoc_in (Z := Z) (k := 6) (M := Z 6) rfl hP
  refine zgh0 hx hb hts hiX1 hown hK hP  (hts (.fieldLink RX1 13 "BarrelProcessor$History" "states" "[LBarrelProcessor$Machine;") (by decide +kernel)) dX1_remember_1 ?_
  refine lv_aload_n hx hb dX1_remember_4 rfl (lv_at hl 0 rfl) ?_
  refine zgh1 hx hb hts hiX1 hown hK hP  (hts (.fieldLink RX1 18 "BarrelProcessor$History" "next" "I") (by decide +kernel)) dX1_remember_5 ?_
  refine z_val (z := nI (zc (Z 6 0 0))) hN.2 ?_
  refine z_aam hx hb hK hP (t := zc (Z 6 0 0)) hN.1 dX1_remember_8 ?_
  refine lv_aload_n hx hb dX1_remember_9 rfl (lv_at hl 1 rfl) ?_
  have hP := zfoc_out (Z := Z) (k := 6) rfl hP
  have hP := zfoc_in (Z := Z) (k := (2 + (zc (Z 6 0 0)))) (M := Z (2 + (zc (Z 6 0 0)))) rfl hP
  refine z_cVv (As := [.ref (a (19 * 0))]) (rest := []) ⟨hx, hb, hml, hown, hts⟩ (ct_X3_copyFrom l D a ca hJ Z (2 + (zc (Z 6 0 0))) (Z (2 + (zc (Z 6 0 0)))) (by omega) 0 (by omega) (by omega)) (cwV 1 hts gX1_remember_X3_copyFrom rfl rfl rfl (by decide +kernel) ⟨Nat.le_of_ble_eq_true rfl, Nat.le_of_ble_eq_true rfl⟩) hK hP hS (va_recv (ci := 3) hK.1 hP rfl (zG_m (by omega))) rfl hl.1 rfl (Nat.le_of_ble_eq_true rfl) dX1_remember_10 ⟨Nat.zero_le _, Nat.zero_le _⟩ (fun H locs hP hS => ?_)
  have hP : va_P D vwCl (zW a ca (va_up Z (2 + (zc (Z 6 0 0))) (Z 0))) _ := zP_copy (Z := Z) (k := (2 + (zc (Z 6 0 0)))) (k2 := 0) (hXR 0 (by omega)) (hXR _ (by omega)) (by omega) hP
  refine lv_aload_n hx hb dX1_remember_13 rfl (lv_at hl 0 rfl) ?_
  refine lv_aload_n hx hb dX1_remember_14 rfl (lv_at hl 0 rfl) ?_
  have hP := zfoc_in (Z := va_up Z (2 + (zc (Z 6 0 0))) (Z 0)) (k := 6) (M := Z 6) (va_up_ne _ _ (by omega)).symm hP
  refine zgh1 hx hb hts hiX1 hown hK hP  (hts (.fieldLink RX1 18 "BarrelProcessor$History" "next" "I") (by decide +kernel)) dX1_remember_15 ?_
  refine z_val (z := nI (zc (Z 6 0 0))) hN.2 ?_
  refine lv_iconst (v := nI 1) hx hb dX1_remember_18 (by decide) ?_
  refine lv_iadd hx hb dX1_remember_19 ?_
  refine z_val (z := nI (zc (Z 6 0 0) + 1)) (nI_add _ _) ?_
  refine lv_iconst (v := nI 4) hx hb dX1_remember_20 (by decide) ?_
  refine lv_irem hx hb dX1_remember_21 (by decide) ?_
  refine z_val (z := nI ((zc (Z 6 0 0) + 1) % 4)) (pk_rem (by omega) (by decide) (by decide)) ?_
  refine zph1 hx hb hts hiX1 hown hK hP hJ hS  (hts (.fieldLink RX1 18 "BarrelProcessor$History" "next" "I") (by decide +kernel)) dX1_remember_22 (fun H locs hP hS => ?_)
  refine lv_aload_n hx hb dX1_remember_25 rfl (lv_at hl 0 rfl) ?_
  refine lv_aload_n hx hb dX1_remember_26 rfl (lv_at hl 0 rfl) ?_
  refine zgh2 hx hb hts hiX1 hown hK hP  (hts (.fieldLink RX1 26 "BarrelProcessor$History" "count" "I") (by decide +kernel)) dX1_remember_27 ?_
  refine z_val (z := nI (zc (Z 6 0 1))) hC.2 ?_
  refine lv_iconst (v := nI 1) hx hb dX1_remember_30 (by decide) ?_
  refine lv_iadd hx hb dX1_remember_31 ?_
  refine z_val (z := nI (zc (Z 6 0 1) + 1)) (nI_add _ _) ?_
  refine lv_iconst (v := nI 4) hx hb dX1_remember_32 (by decide) ?_
  refine va_mmin hx hb (hml.trans hl.1.symm) hown (hts (.methodLink RX1 29 Lib.Math.min.name) (by decide +kernel)) (hts (.static Lib.Math.min.name) (by decide +kernel)) (hts (.initialized "java/lang/Math") (by decide +kernel)) (hts (.code Lib.Math.min.name Lib.Math.min.code 2 (some .int)) (by decide +kernel)) (Nat.le_of_ble_eq_true rfl) (Nat.le_of_ble_eq_true rfl) (Nat.zero_le _) (Nat.zero_le _) dX1_remember_33 ?_
  refine zph2 hx hb hts hiX1 hown hK hP hJ hS  (hts (.fieldLink RX1 26 "BarrelProcessor$History" "count" "I") (by decide +kernel)) dX1_remember_36 (fun H locs hP hS => ?_)
  exact z_retv hx hb hr hlk hP hS dX1_remember_39 (by first | rfl | simp only [h_remember2])

def g_tryOut2 (Z : Nat → zM) (latency : Int32) (lend : Int32) : Int32 := (g_X3_runToEnd (zu (zu (Z 0) 15 0 latency) 15 1 lend))
def h_tryOut2 (Z : Nat → zM) (latency : Int32) (lend : Int32) : Nat → zM := va_up Z 1 (h_X3_runToEnd (zu (zu (Z 0) 15 0 latency) 15 1 lend))
set_option maxHeartbeats 4000000 in
set_option maxRecDepth 100000 in
theorem ct_tryOut2 (l : Launch) (D : va_G) (a : Nat → Nat) (ca : Nat → ClassId) (hJ : zJ a) (Z : Nat → zM) (latency : Int32) (lend : Int32) (hI : zOK (Z 0)) (hXR : ∀ k, k < 6 → xR (Z k)) : zCi l yX6_tryOut wsX6_tryOut ({ frames := 5, cells := 0, slots := 0, locals := 117 } : Room) D a ca [.ref (a 114), .int latency, .int lend] (Z) (g_tryOut2 Z latency lend) (h_tryOut2 Z latency lend) := by
  have hiX3 : ∀ w ∈ wsX30, w ∈ wsX6_tryOut := by decide +kernel
  have hiX6 : ∀ w ∈ wsX60, w ∈ wsX6_tryOut := by decide +kernel
  refine z_ofi (cc := cX6_tryOut) (maxL := 3) (own := RX6) (by decide) rfl (Nat.le_of_ble_eq_true rfl) rfl (fun p e s m below meth c ls hx hb hr hml hts hown hlk hl hK hP hS => ?_)
  have hl : lv_has ls 3 [(0, .ref (a 114)), (1, .int latency), (2, .int lend)] := hl
  refine lv_aload_n hx hb dX6_tryOut_0 rfl (lv_at hl 0 rfl) ?_
  have hP := zfoc_in (Z := Z) (k := 6) (M := Z 6) rfl hP
  refine zgb1' hx hb hts hiX6 hown hK hP  (hts (.fieldLink RX6 16 "BarrelProcessor" "trial" "LBarrelProcessor$Machine;") (by decide +kernel)) dX6_tryOut_1 ?_
  refine lv_aload_n hx hb dX6_tryOut_4 rfl (lv_at hl 0 rfl) ?_
  refine zgb0' hx hb hts hiX6 hown hK hP  (hts (.fieldLink RX6 10 "BarrelProcessor" "machine" "LBarrelProcessor$Machine;") (by decide +kernel)) dX6_tryOut_5 ?_
  have hP := zfoc_out (Z := Z) (k := 6) rfl hP
  have hP := zfoc_in (Z := Z) (k := 1) (M := Z 1) rfl hP
  refine z_cVv (As := [.ref (a (19 * 0))]) (rest := []) ⟨hx, hb, hml, hown, hts⟩ (ct_X3_copyFrom l D a ca hJ Z 1 (Z 1) (by omega) 0 (by omega) (by omega)) (cwV 1 hts gX6_tryOut_X3_copyFrom rfl rfl rfl (by decide +kernel) ⟨Nat.le_of_ble_eq_true rfl, Nat.le_of_ble_eq_true rfl⟩) hK hP hS (va_recv (ci := 3) hK.1 hP rfl (zG_m (by omega))) rfl hl.1 rfl (Nat.le_of_ble_eq_true rfl) dX6_tryOut_8 ⟨Nat.zero_le _, Nat.zero_le _⟩ (fun H locs hP hS => ?_)
  have hP : va_P D vwCl (zW a ca (va_up Z 1 (Z 0))) _ := zP_copy (Z := Z) (k := 1) (k2 := 0) (hXR 0 (by omega)) (hXR _ (by omega)) (by omega) hP
  refine lv_aload_n hx hb dX6_tryOut_11 rfl (lv_at hl 0 rfl) ?_
  have hP := zfoc_in (Z := va_up Z 1 (Z 0)) (k := 6) (M := Z 6) (va_up_ne _ _ (by omega)).symm hP
  refine zgb1' hx hb hts hiX6 hown hK hP  (hts (.fieldLink RX6 16 "BarrelProcessor" "trial" "LBarrelProcessor$Machine;") (by decide +kernel)) dX6_tryOut_12 ?_
  have hP := zfoc_out (Z := va_up Z 1 (Z 0)) (k := 6) (va_up_ne _ _ (by omega)).symm hP
  refine znm5 hx hb hts hiX3 hown hK hP (by omega) (zn_RX6_119 hK) dX6_tryOut_15 ?_
  refine lv_iconst (v := nI 0) hx hb dX6_tryOut_18 (by decide) ?_
  refine lv_iload_n hx hb dX6_tryOut_19 rfl (lv_at hl 1 rfl) ?_
  refine z_iast (Z' := va_up Z 1 (zu (Z 0) 15 0 latency)) hx hb hK hP hJ hS (zG_se (by omega)) (j := 0) (by omega) (by decide) dX6_tryOut_20 (zS_se (by omega)) (fun H locs hP hS => ?_)
  refine lv_aload_n hx hb dX6_tryOut_21 rfl (lv_at hl 0 rfl) ?_
  have hP := zfoc_in (Z := va_up Z 1 (zu (Z 0) 15 0 latency)) (k := 6) (M := Z 6) (va_up_ne _ _ (by omega)).symm hP
  refine zgb1' hx hb hts hiX6 hown hK hP  (hts (.fieldLink RX6 16 "BarrelProcessor" "trial" "LBarrelProcessor$Machine;") (by decide +kernel)) dX6_tryOut_22 ?_
  have hP := zfoc_out (Z := va_up Z 1 (zu (Z 0) 15 0 latency)) (k := 6) (va_up_ne _ _ (by omega)).symm hP
  refine znm5 hx hb hts hiX3 hown hK hP (by omega) (zn_RX6_119 hK) dX6_tryOut_25 ?_
  refine lv_iconst (v := nI 1) hx hb dX6_tryOut_28 (by decide) ?_
  refine lv_iload_n hx hb dX6_tryOut_29 rfl (lv_at hl 2 rfl) ?_
  refine z_iast (Z' := va_up Z 1 (zu (zu (Z 0) 15 0 latency) 15 1 lend)) hx hb hK hP hJ hS (zG_se (by omega)) (j := 1) (by omega) (by decide) dX6_tryOut_30 (zS_se (by omega)) (fun H locs hP hS => ?_)
  refine lv_aload_n hx hb dX6_tryOut_31 rfl (lv_at hl 0 rfl) ?_
  have hP := zfoc_in (Z := va_up Z 1 (zu (zu (Z 0) 15 0 latency) 15 1 lend)) (k := 6) (M := Z 6) (va_up_ne _ _ (by omega)).symm hP
  refine zgb1' hx hb hts hiX6 hown hK hP  (hts (.fieldLink RX6 16 "BarrelProcessor" "trial" "LBarrelProcessor$Machine;") (by decide +kernel)) dX6_tryOut_32 ?_
  have hP := zfoc_out (Z := va_up Z 1 (zu (zu (Z 0) 15 0 latency) 15 1 lend)) (k := 6) (va_up_ne _ _ (by omega)).symm hP
  refine z_cVi (As := []) (rest := []) ⟨hx, hb, hml, hown, hts⟩ (ct_X3_runToEnd l D a ca hJ Z 1 (zu (zu (Z 0) 15 0 latency) 15 1 lend) (by omega) (zOK_u (by omega) (by omega) (by omega) (zOK_u (by omega) (by omega) (by omega) hI))) (cwV 0 hts gX6_tryOut_X3_runToEnd rfl rfl rfl (by decide +kernel) ⟨Nat.le_of_ble_eq_true rfl, Nat.le_of_ble_eq_true rfl⟩) hK hP hS (va_recv (ci := 3) hK.1 hP rfl (zG_m (by omega))) rfl hl.1 rfl (Nat.le_of_ble_eq_true rfl) dX6_tryOut_35 ⟨Nat.zero_le _, Nat.zero_le _⟩ (fun H locs hP hS => ?_)
  exact z_reti hx hb hr hlk rfl hP hS dX6_tryOut_38 (by first | rfl | simp only [g_tryOut2]) (by first | rfl | simp only [h_tryOut2])
