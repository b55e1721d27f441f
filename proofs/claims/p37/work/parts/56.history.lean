theorem zfoc_in {D : va_G} {a : Nat → Nat} {ca : Nat → ClassId} {Z : Nat → zM} {k : Nat} {M : zM} {H : Heap} (h : M = Z k) (hP : va_P D vwCl (zW a ca Z) H) : va_P D vwCl (zW a ca (va_up Z k M)) H := by
  rw [zfoc h]
  exact hP
theorem zfoc_out {D : va_G} {a : Nat → Nat} {ca : Nat → ClassId} {Z : Nat → zM} {k : Nat} {M : zM} {H : Heap} (h : M = Z k) (hP : va_P D vwCl (zW a ca (va_up Z k M)) H) : va_P D vwCl (zW a ca Z) H := by
  rw [zfoc h] at hP
  exact hP

def h_X1_remember (Z : Nat → zM) : Nat → zM := va_up (va_up Z (2 + (zc (Z 6 0 0))) (h_X3_copyFrom Z 0 (Z (2 + (zc (Z 6 0 0)))))) 6 (zu (zu (Z 6) 0 0 (nI ((zc (Z 6 0 0) + 1) % 4))) 0 1 (if (nI 4) < (nI (zc (Z 6 0 1) + 1)) then (nI 4) else (nI (zc (Z 6 0 1) + 1))))
set_option maxHeartbeats 4000000 in
set_option maxRecDepth 100000 in
theorem ct_X1_remember (l : Launch) (D : va_G) (a : Nat → Nat) (ca : Nat → ClassId) (hJ : zJ a) (Z : Nat → zM) (hN : zIn (Z 6 0 0) 4) (hC : zIn (Z 6 0 1) 5) : zCv l yX1_remember wsX1_remember ({ frames := 3, cells := 0, slots := 0, locals := 85 } : Room) D a ca [.ref (a 115), .ref (a (19 * 0))] (Z) (h_X1_remember Z) := by
  have hiX1 : ∀ w ∈ wsX10, w ∈ wsX1_remember := by decide +kernel
  refine z_ofv (cc := cX1_remember) (maxL := 2) (own := RX1) (by decide) rfl (Nat.le_of_ble_eq_true rfl) rfl (fun p e s m below meth c ls hx hb hr hml hts hown hlk hl hK hP hS => ?_)
  have hl : lv_has ls 2 [(0, .ref (a 115)), (1, .ref (a (19 * 0)))] := hl
  have hN1 := hN.1
  have hC1 := hC.1
  refine lv_aload_n hx hb dX1_remember_0 rfl (lv_at hl 0 rfl) ?_
  have hP := zfoc_in (Z := Z) (k := 6) (M := Z 6) rfl hP
  refine zgh0 hx hb hts hiX1 hown hK hP  (hts (.fieldLink RX1 13 "BarrelProcessor$History" "states" "[LBarrelProcessor$Machine;") (by decide +kernel)) dX1_remember_1 ?_
  refine lv_aload_n hx hb dX1_remember_4 rfl (lv_at hl 0 rfl) ?_
  refine zgh1 hx hb hts hiX1 hown hK hP  (hts (.fieldLink RX1 18 "BarrelProcessor$History" "next" "I") (by decide +kernel)) dX1_remember_5 ?_
  refine z_val (z := nI (zc (Z 6 0 0))) hN.2 ?_
  refine z_aam hx hb hK hP (t := zc (Z 6 0 0)) hN.1 dX1_remember_8 ?_
  refine lv_aload_n hx hb dX1_remember_9 rfl (lv_at hl 1 rfl) ?_
  have hP := zfoc_out (Z := Z) (k := 6) rfl hP
  have hP := zfoc_in (Z := Z) (k := (2 + (zc (Z 6 0 0)))) (M := Z (2 + (zc (Z 6 0 0)))) rfl hP
  refine z_cVv (As := [.ref (a (19 * 0))]) (rest := []) ⟨hx, hb, hml, hown, hts⟩ (ct_X3_copyFrom l D a ca hJ Z (2 + (zc (Z 6 0 0))) (Z (2 + (zc (Z 6 0 0)))) (by omega) 0 (by omega) (by omega)) (cwV 1 hts gX1_remember_X3_copyFrom rfl rfl rfl (by decide +kernel) ⟨Nat.le_of_ble_eq_true rfl, Nat.le_of_ble_eq_true rfl⟩) hK hP hS (va_recv (ci := 3) hK.1 hP rfl (zG_m (by omega))) rfl hl.1 rfl (Nat.le_of_ble_eq_true rfl) dX1_remember_10 ⟨Nat.zero_le _, Nat.zero_le _⟩ (fun H locs hP hS => ?_)
  refine lv_aload_n hx hb dX1_remember_13 rfl (lv_at hl 0 rfl) ?_
  refine lv_aload_n hx hb dX1_remember_14 rfl (lv_at hl 0 rfl) ?_
  have hP := zfoc_in (Z := va_up Z (2 + (zc (Z 6 0 0))) (h_X3_copyFrom Z 0 (Z (2 + (zc (Z 6 0 0)))))) (k := 6) (M := Z 6) (va_up_ne _ _ (by omega)).symm hP
  refine zgh1 hx hb hts hiX1 hown hK hP  (hts (.fieldLink RX1 18 "BarrelProcessor$History" "next" "I") (by decide +kernel)) dX1_remember_15 ?_
  refine z_val (z := nI (zc (Z 6 0 0))) hN.2 ?_
  refine lv_iconst (v := nI 1) hx hb dX1_remember_18 (by decide) ?_
  refine lv_iadd hx hb dX1_remember_19 ?_
  refine z_val (z := nI (zc (Z 6 0 0) + 1)) (nI_add _ _) ?_
  refine lv_iconst (v := nI 4) hx hb dX1_remember_20 (by decide) ?_
  refine lv_irem hx hb dX1_remember_21 (by decide) ?_
  refine z_val (z := nI ((zc (Z 6 0 0) + 1) % 4)) (pk_rem (by omega) (by decide) (by decide)) ?_
  refine zph1 hx hb hts hiX1 hown hK hP hJ hS  (hts (.fieldLink RX1 18 "BarrelProcessor$History" "next" "I") (by decide +kernel)) dX1_remember_22 (fun H locs hP hS => ?_)
  refine lv_aload_n hx hb dX1_remember_25 rfl (lv_at hl 0 rfl) ?_
  refine lv_aload_n hx hb dX1_remember_26 rfl (lv_at hl 0 rfl) ?_
  refine zgh2 hx hb hts hiX1 hown hK hP  (hts (.fieldLink RX1 26 "BarrelProcessor$History" "count" "I") (by decide +kernel)) dX1_remember_27 ?_
  refine z_val (z := nI (zc (Z 6 0 1))) hC.2 ?_
  refine lv_iconst (v := nI 1) hx hb dX1_remember_30 (by decide) ?_
  refine lv_iadd hx hb dX1_remember_31 ?_
  refine z_val (z := nI (zc (Z 6 0 1) + 1)) (nI_add _ _) ?_
  refine lv_iconst (v := nI 4) hx hb dX1_remember_32 (by decide) ?_
  refine va_mmin hx hb (hml.trans hl.1.symm) hown (hts (.methodLink RX1 29 Lib.Math.min.name) (by decide +kernel)) (hts (.static Lib.Math.min.name) (by decide +kernel)) (hts (.initialized "java/lang/Math") (by decide +kernel)) (hts (.code Lib.Math.min.name Lib.Math.min.code 2 (some .int)) (by decide +kernel)) (Nat.le_of_ble_eq_true rfl) (Nat.le_of_ble_eq_true rfl) (Nat.zero_le _) (Nat.zero_le _) dX1_remember_33 ?_
  refine zph2 hx hb hts hiX1 hown hK hP hJ hS  (hts (.fieldLink RX1 26 "BarrelProcessor$History" "count" "I") (by decide +kernel)) dX1_remember_36 (fun H locs hP hS => ?_)
  exact z_retv hx hb hr hlk hP hS dX1_remember_39 (by first | rfl | simp only [h_X1_remember])

def g_X1_restore (Z : Nat → zM) : Int32 := if (nI (zc (Z 6 0 1))) = 0 then (-100005) else (zu (zu (Z 6) 0 0 (nI (((zc (Z 6 0 0) + 4) - 1) % 4))) 0 1 (nI ((zc (Z 6 0 1)) - 1))) 0 1
def h_X1_restore (Z : Nat → zM) : Nat → zM := if (nI (zc (Z 6 0 1))) = 0 then Z else va_up (va_up Z 6 (zu (zu (Z 6) 0 0 (nI (((zc (Z 6 0 0) + 4) - 1) % 4))) 0 1 (nI ((zc (Z 6 0 1)) - 1)))) 0 (h_X3_copyFrom (va_up Z 6 (zu (zu (Z 6) 0 0 (nI (((zc (Z 6 0 0) + 4) - 1) % 4))) 0 1 (nI ((zc (Z 6 0 1)) - 1)))) (2 + ((zc (Z 6 0 0) + 3) % 4)) (Z 0))
set_option maxHeartbeats 4000000 in
set_option maxRecDepth 100000 in
theorem ct_X1_restore (l : Launch) (D : va_G) (a : Nat → Nat) (ca : Nat → ClassId) (hJ : zJ a) (Z : Nat → zM) (hN : zIn (Z 6 0 0) 4) (hC : zIn (Z 6 0 1) 5) : zCi l yX1_restore wsX1_restore ({ frames := 3, cells := 0, slots := 0, locals := 85 } : Room) D a ca [.ref (a 115), .ref (a (19 * 0))] (Z) (g_X1_restore Z) (h_X1_restore Z) := by
  have hiX1 : ∀ w ∈ wsX10, w ∈ wsX1_restore := by decide +kernel
  refine z_ofi (cc := cX1_restore) (maxL := 2) (own := RX1) (by decide) rfl (Nat.le_of_ble_eq_true rfl) rfl (fun p e s m below meth c ls hx hb hr hml hts hown hlk hl hK hP hS => ?_)
  have hl : lv_has ls 2 [(0, .ref (a 115)), (1, .ref (a (19 * 0)))] := hl
  have hN1 := hN.1
  have hC1 := hC.1
  refine lv_aload_n hx hb dX1_restore_0 rfl (lv_at hl 0 rfl) ?_
  have hP := zfoc_in (Z := Z) (k := 6) (M := Z 6) rfl hP
  refine zgh2 hx hb hts hiX1 hown hK hP  (hts (.fieldLink RX1 26 "BarrelProcessor$History" "count" "I") (by decide +kernel)) dX1_restore_1 ?_
  refine z_val (z := nI (zc (Z 6 0 1))) hC.2 ?_
  refine lv_if_ne (tgt := 10) hx hb dX1_restore_4 (by decide) (fun c4_1 => ?_) (fun c4_1 => ?_)
  · have hc0 : ¬ zc (Z 6 0 1) = 0 := fun q => c4_1 (by rw [q]; rfl)
    refine lv_aload_n hx hb dX1_restore_10 rfl (lv_at hl 0 rfl) ?_
    refine lv_aload_n hx hb dX1_restore_11 rfl (lv_at hl 0 rfl) ?_
    refine zgh1 hx hb hts hiX1 hown hK hP  (hts (.fieldLink RX1 18 "BarrelProcessor$History" "next" "I") (by decide +kernel)) dX1_restore_12 ?_
    refine z_val (z := nI (zc (Z 6 0 0))) hN.2 ?_
    refine lv_iconst (v := nI 4) hx hb dX1_restore_15 (by decide) ?_
    refine lv_iadd hx hb dX1_restore_16 ?_
    refine z_val (z := nI (zc (Z 6 0 0) + 4)) (nI_add _ _) ?_
    refine lv_iconst (v := nI 1) hx hb dX1_restore_17 (by decide) ?_
    refine lv_isub hx hb dX1_restore_18 ?_
    refine z_val (z := nI ((zc (Z 6 0 0) + 4) - 1)) (pk_sub (by omega)) ?_
    refine lv_iconst (v := nI 4) hx hb dX1_restore_19 (by decide) ?_
    refine lv_irem hx hb dX1_restore_20 (by decide) ?_
    refine z_val (z := nI (((zc (Z 6 0 0) + 4) - 1) % 4)) (pk_rem (by omega) (by decide) (by decide)) ?_
    refine zph1 hx hb hts hiX1 hown hK hP hJ hS  (hts (.fieldLink RX1 18 "BarrelProcessor$History" "next" "I") (by decide +kernel)) dX1_restore_21 (fun H locs hP hS => ?_)
    refine lv_aload_n hx hb dX1_restore_24 rfl (lv_at hl 0 rfl) ?_
    refine lv_dup hx hb dX1_restore_25 rfl ?_
    refine zgh2 hx hb hts hiX1 hown hK hP  (hts (.fieldLink RX1 26 "BarrelProcessor$History" "count" "I") (by decide +kernel)) dX1_restore_26 ?_
    refine z_val (z := nI (zc (Z 6 0 1))) hC.2 ?_
    refine lv_iconst (v := nI 1) hx hb dX1_restore_29 (by decide) ?_
    refine lv_isub hx hb dX1_restore_30 ?_
    refine z_val (z := nI ((zc (Z 6 0 1)) - 1)) (pk_sub (by omega)) ?_
    refine zph2 hx hb hts hiX1 hown hK hP hJ hS  (hts (.fieldLink RX1 26 "BarrelProcessor$History" "count" "I") (by decide +kernel)) dX1_restore_31 (fun H locs hP hS => ?_)
    refine lv_aload_n hx hb dX1_restore_34 rfl (lv_at hl 1 rfl) ?_
    refine lv_aload_n hx hb dX1_restore_35 rfl (lv_at hl 0 rfl) ?_
    refine zgh0 hx hb hts hiX1 hown hK hP  (hts (.fieldLink RX1 13 "BarrelProcessor$History" "states" "[LBarrelProcessor$Machine;") (by decide +kernel)) dX1_restore_36 ?_
    refine lv_aload_n hx hb dX1_restore_39 rfl (lv_at hl 0 rfl) ?_
    refine zgh1 hx hb hts hiX1 hown hK hP  (hts (.fieldLink RX1 18 "BarrelProcessor$History" "next" "I") (by decide +kernel)) dX1_restore_40 ?_
    refine z_val (z := nI ((zc (Z 6 0 0) + 3) % 4)) rfl ?_
    refine z_aam hx hb hK hP (t := (zc (Z 6 0 0) + 3) % 4) (by omega) dX1_restore_43 ?_
    have hP := zfoc_in (Z := va_up Z 6 (zu (zu (Z 6) 0 0 (nI (((zc (Z 6 0 0) + 4) - 1) % 4))) 0 1 (nI ((zc (Z 6 0 1)) - 1)))) (k := 0) (M := Z 0) (va_up_ne _ _ (by omega)).symm hP
    refine z_cVv (As := [.ref (a (19 * (2 + ((zc (Z 6 0 0) + 3) % 4))))]) (rest := []) ⟨hx, hb, hml, hown, hts⟩ (ct_X3_copyFrom l D a ca hJ (va_up Z 6 (zu (zu (Z 6) 0 0 (nI (((zc (Z 6 0 0) + 4) - 1) % 4))) 0 1 (nI ((zc (Z 6 0 1)) - 1)))) 0 (Z 0) (by omega) (2 + ((zc (Z 6 0 0) + 3) % 4)) (by omega) (by omega)) (cwV 1 hts gX1_restore_X3_copyFrom rfl rfl rfl (by decide +kernel) ⟨Nat.le_of_ble_eq_true rfl, Nat.le_of_ble_eq_true rfl⟩) hK hP hS (va_recv (ci := 3) hK.1 hP rfl (zG_m (by omega))) rfl hl.1 rfl (Nat.le_of_ble_eq_true rfl) dX1_restore_44 ⟨Nat.zero_le _, Nat.zero_le _⟩ (fun H locs hP hS => ?_)
    refine lv_aload_n hx hb dX1_restore_47 rfl (lv_at hl 0 rfl) ?_
    have hP := zfoc_in (Z := va_up (va_up Z 6 (zu (zu (Z 6) 0 0 (nI (((zc (Z 6 0 0) + 4) - 1) % 4))) 0 1 (nI ((zc (Z 6 0 1)) - 1)))) 0 (h_X3_copyFrom (va_up Z 6 (zu (zu (Z 6) 0 0 (nI (((zc (Z 6 0 0) + 4) - 1) % 4))) 0 1 (nI ((zc (Z 6 0 1)) - 1)))) (2 + ((zc (Z 6 0 0) + 3) % 4)) (Z 0))) (k := 6) (M := zu (zu (Z 6) 0 0 (nI (((zc (Z 6 0 0) + 4) - 1) % 4))) 0 1 (nI ((zc (Z 6 0 1)) - 1))) ((va_up_self _ _ _).symm.trans (va_up_ne _ _ (by omega)).symm) hP
    refine zgh2 hx hb hts hiX1 hown hK hP  (hts (.fieldLink RX1 26 "BarrelProcessor$History" "count" "I") (by decide +kernel)) dX1_restore_48 ?_
    exact z_reti hx hb hr hlk rfl (zfoc_out (Z := va_up (va_up Z 6 (zu (zu (Z 6) 0 0 (nI (((zc (Z 6 0 0) + 4) - 1) % 4))) 0 1 (nI ((zc (Z 6 0 1)) - 1)))) 0 (h_X3_copyFrom (va_up Z 6 (zu (zu (Z 6) 0 0 (nI (((zc (Z 6 0 0) + 4) - 1) % 4))) 0 1 (nI ((zc (Z 6 0 1)) - 1)))) (2 + ((zc (Z 6 0 0) + 3) % 4)) (Z 0))) (k := 6) ((va_up_self _ _ _).symm.trans (va_up_ne _ _ (by omega)).symm) hP) hS dX1_restore_51 (by simp only [g_X1_restore, if_neg c4_1]) (by simp only [h_X1_restore, if_neg c4_1])
  · refine lv_ldc (v := (-100005)) hx hb hown (hts (.constant RX1 35 (-100005)) (by decide +kernel)) dX1_restore_7 ?_
    exact z_reti hx hb hr hlk rfl (zfoc_out (Z := Z) (k := 6) rfl hP) hS dX1_restore_9 (by simp only [g_X1_restore, if_pos c4_1]) (by simp only [h_X1_restore, if_pos c4_1])
