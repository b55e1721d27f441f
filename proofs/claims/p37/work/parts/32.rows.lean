def h_X2_copyRows (Z : Nat → zM) (k2 : Nat) (M : zM) : zM := zr (zr M 10 (va_cpy ((Z k2) 10) (M 10) 0 0 48)) 11 (va_cpy ((Z k2) 11) ((zr M 10 (va_cpy ((Z k2) 10) (M 10) 0 0 48)) 11) 0 (0 * 2) (48 * 2))
set_option maxHeartbeats 4000000 in
set_option maxRecDepth 100000 in
theorem ct_X2_copyRows (l : Launch) (D : va_G) (a : Nat → Nat) (ca : Nat → ClassId) (hJ : zJ a) (Z : Nat → zM) (k : Nat) (M : zM) (hk : k < 6) (k2 : Nat) (hk2 : k2 < 6) (hne : k2 ≠ k) : zCv l yX2_copyRows wsX2_copyRows ({ frames := 1, cells := 0, slots := 0, locals := 40 } : Room) D a ca [.ref (a (19 * k + 10)), .ref (a (19 * k2 + 10)), .int (nI 48), .int (nI 0)] (va_up Z k M) (va_up Z k (h_X2_copyRows Z k2 M)) := by
  have hiX2 : ∀ w ∈ wsX20, w ∈ wsX2_copyRows := by decide +kernel
  refine z_ofv (cc := cX2_copyRows) (maxL := 4) (own := RX2) (by decide) rfl (Nat.le_of_ble_eq_true rfl) rfl (fun p e s m below meth c ls hx hb hr hml hts hown hlk hl hK hP hS => ?_)
  have hl : lv_has ls 4 [(0, .ref (a (19 * k + 10))), (1, .ref (a (19 * k2 + 10))), (2, .int (nI 48)), (3, .int (nI 0))] := hl
  refine lv_aload_n hx hb dX2_copyRows_0 rfl (lv_at hl 1 rfl) ?_
  refine zop0 hx hb hts hiX2 hown hK hP hk2 hne (hts (.fieldLink RX2 11 "BarrelProcessor$Instructions" "operations" "[I") (by decide +kernel)) dX2_copyRows_1 ?_
  refine lv_iconst (v := nI 0) hx hb dX2_copyRows_4 (by decide) ?_
  refine lv_aload_n hx hb dX2_copyRows_5 rfl (lv_at hl 0 rfl) ?_
  refine zgp0 hx hb hts hiX2 hown hK hP hk (hts (.fieldLink RX2 11 "BarrelProcessor$Instructions" "operations" "[I") (by decide +kernel)) dX2_copyRows_6 ?_
  refine lv_iload_n hx hb dX2_copyRows_9 rfl (lv_at hl 3 rfl) ?_
  refine lv_iload_n hx hb dX2_copyRows_10 rfl (lv_at hl 2 rfl) ?_
  refine z_copy (Z' := va_up Z k (zr M 10 (va_cpy ((Z k2) 10) (M 10) 0 0 48))) hx hb (hml.trans hl.1.symm) hown (hts (.methodLink RX2 25 arraycopyName) (by decide +kernel)) (hts (.native arraycopyName) (by decide +kernel)) (hts (.static arraycopyName) (by decide +kernel)) (hts (.initialized "java/lang/System") (by decide +kernel)) hK hP hJ hS (zH hne (zG_op hk2)) (zG_op hk) (sp := 0) (dp := 0) (n := 48) (by omega) (by omega) (by decide) (by decide) (Nat.le_of_ble_eq_true rfl) (Nat.le_of_ble_eq_true rfl) dX2_copyRows_11 (zS_op hk) (fun H locs hP hS => ?_)
  refine lv_aload_n hx hb dX2_copyRows_14 rfl (lv_at hl 1 rfl) ?_
  refine zop1 hx hb hts hiX2 hown hK hP hk2 hne (hts (.fieldLink RX2 15 "BarrelProcessor$Instructions" "operands" "[I") (by decide +kernel)) dX2_copyRows_15 ?_
  refine lv_iconst (v := nI 0) hx hb dX2_copyRows_18 (by decide) ?_
  refine lv_aload_n hx hb dX2_copyRows_19 rfl (lv_at hl 0 rfl) ?_
  refine zgp1 hx hb hts hiX2 hown hK hP hk (hts (.fieldLink RX2 15 "BarrelProcessor$Instructions" "operands" "[I") (by decide +kernel)) dX2_copyRows_20 ?_
  refine lv_iload_n hx hb dX2_copyRows_23 rfl (lv_at hl 3 rfl) ?_
  refine lv_iconst (v := nI 2) hx hb dX2_copyRows_24 (by decide) ?_
  refine lv_imul hx hb dX2_copyRows_25 ?_
  refine z_val (z := nI (0 * 2)) (pk_mul _ _) ?_
  refine lv_iload_n hx hb dX2_copyRows_26 rfl (lv_at hl 2 rfl) ?_
  refine lv_iconst (v := nI 2) hx hb dX2_copyRows_27 (by decide) ?_
  refine lv_imul hx hb dX2_copyRows_28 ?_
  refine z_val (z := nI (48 * 2)) (pk_mul _ _) ?_
  refine z_copy (Z' := va_up Z k (zr (zr M 10 (va_cpy ((Z k2) 10) (M 10) 0 0 48)) 11 (va_cpy ((Z k2) 11) ((zr M 10 (va_cpy ((Z k2) 10) (M 10) 0 0 48)) 11) 0 (0 * 2) (48 * 2)))) hx hb (hml.trans hl.1.symm) hown (hts (.methodLink RX2 25 arraycopyName) (by decide +kernel)) (hts (.native arraycopyName) (by decide +kernel)) (hts (.static arraycopyName) (by decide +kernel)) (hts (.initialized "java/lang/System") (by decide +kernel)) hK hP hJ hS (zH hne (zG_od hk2)) (zG_od hk) (sp := 0) (dp := 0 * 2) (n := 48 * 2) (by omega) (by omega) (by decide) (by decide) (Nat.le_of_ble_eq_true rfl) (Nat.le_of_ble_eq_true rfl) dX2_copyRows_29 (zS_od hk) (fun H locs hP hS => ?_)
  exact z_retv hx hb hr hlk hP hS dX2_copyRows_32 (congrArg (va_up Z k) (by first | rfl | simp only [h_X2_copyRows]))

def h_copyRows_x (Z : Nat → zM) (count place : Nat) (M : zM) : zM := zr (zr M 10 (va_cpy ((Z 6) 3) (M 10) 0 place count)) 11 (va_cpy ((Z 6) 4) ((zr M 10 (va_cpy ((Z 6) 3) (M 10) 0 place count)) 11) 0 (place * 2) (count * 2))
set_option maxHeartbeats 4000000 in
set_option maxRecDepth 100000 in
theorem ct_copyRows_x (l : Launch) (D : va_G) (a : Nat → Nat) (ca : Nat → ClassId) (hJ : zJ a) (Z : Nat → zM) (k : Nat) (M : zM) (hk : k < 6) (hne : 6 ≠ k) (count : Nat) (place : Nat) (hcp : place + count ≤ 50) : zCv l yX2_copyRows wsX2_copyRows ({ frames := 1, cells := 0, slots := 0, locals := 40 } : Room) D a ca [.ref (a (19 * k + 10)), .ref (a 119), .int (nI count), .int (nI place)] (va_up Z k M) (va_up Z k (h_copyRows_x Z count place M)) := by
  have hiX2 : ∀ w ∈ wsX20, w ∈ wsX2_copyRows := by decide +kernel
  refine z_ofv (cc := cX2_copyRows) (maxL := 4) (own := RX2) (by decide) rfl (Nat.le_of_ble_eq_true rfl) rfl (fun p e s m below meth c ls hx hb hr hml hts hown hlk hl hK hP hS => ?_)
  have hl : lv_has ls 4 [(0, .ref (a (19 * k + 10))), (1, .ref (a 119)), (2, .int (nI count)), (3, .int (nI place))] := hl
  refine lv_aload_n hx hb dX2_copyRows_0 rfl (lv_at hl 1 rfl) ?_
  refine zoi0 hx hb hts hiX2 hown hK hP hne (hts (.fieldLink RX2 11 "BarrelProcessor$Instructions" "operations" "[I") (by decide +kernel)) dX2_copyRows_1 ?_
  refine lv_iconst (v := nI 0) hx hb dX2_copyRows_4 (by decide) ?_
  refine lv_aload_n hx hb dX2_copyRows_5 rfl (lv_at hl 0 rfl) ?_
  refine zgp0 hx hb hts hiX2 hown hK hP hk (hts (.fieldLink RX2 11 "BarrelProcessor$Instructions" "operations" "[I") (by decide +kernel)) dX2_copyRows_6 ?_
  refine lv_iload_n hx hb dX2_copyRows_9 rfl (lv_at hl 3 rfl) ?_
  refine lv_iload_n hx hb dX2_copyRows_10 rfl (lv_at hl 2 rfl) ?_
  refine z_copy (Z' := va_up Z k (zr M 10 (va_cpy ((Z 6) 3) (M 10) 0 place count))) hx hb (hml.trans hl.1.symm) hown (hts (.methodLink RX2 25 arraycopyName) (by decide +kernel)) (hts (.native arraycopyName) (by decide +kernel)) (hts (.static arraycopyName) (by decide +kernel)) (hts (.initialized "java/lang/System") (by decide +kernel)) hK hP hJ hS (zH hne zG_xo) (zG_op hk) (sp := 0) (dp := place) (n := count) (by omega) (by omega) (by decide) (by decide) (Nat.le_of_ble_eq_true rfl) (Nat.le_of_ble_eq_true rfl) dX2_copyRows_11 (zS_op hk) (fun H locs hP hS => ?_)
  refine lv_aload_n hx hb dX2_copyRows_14 rfl (lv_at hl 1 rfl) ?_
  refine zoi1 hx hb hts hiX2 hown hK hP hne (hts (.fieldLink RX2 15 "BarrelProcessor$Instructions" "operands" "[I") (by decide +kernel)) dX2_copyRows_15 ?_
  refine lv_iconst (v := nI 0) hx hb dX2_copyRows_18 (by decide) ?_
  refine lv_aload_n hx hb dX2_copyRows_19 rfl (lv_at hl 0 rfl) ?_
  refine zgp1 hx hb hts hiX2 hown hK hP hk (hts (.fieldLink RX2 15 "BarrelProcessor$Instructions" "operands" "[I") (by decide +kernel)) dX2_copyRows_20 ?_
  refine lv_iload_n hx hb dX2_copyRows_23 rfl (lv_at hl 3 rfl) ?_
  refine lv_iconst (v := nI 2) hx hb dX2_copyRows_24 (by decide) ?_
  refine lv_imul hx hb dX2_copyRows_25 ?_
  refine z_val (z := nI (place * 2)) (pk_mul _ _) ?_
  refine lv_iload_n hx hb dX2_copyRows_26 rfl (lv_at hl 2 rfl) ?_
  refine lv_iconst (v := nI 2) hx hb dX2_copyRows_27 (by decide) ?_
  refine lv_imul hx hb dX2_copyRows_28 ?_
  refine z_val (z := nI (count * 2)) (pk_mul _ _) ?_
  refine z_copy (Z' := va_up Z k (zr (zr M 10 (va_cpy ((Z 6) 3) (M 10) 0 place count)) 11 (va_cpy ((Z 6) 4) ((zr M 10 (va_cpy ((Z 6) 3) (M 10) 0 place count)) 11) 0 (place * 2) (count * 2)))) hx hb (hml.trans hl.1.symm) hown (hts (.methodLink RX2 25 arraycopyName) (by decide +kernel)) (hts (.native arraycopyName) (by decide +kernel)) (hts (.static arraycopyName) (by decide +kernel)) (hts (.initialized "java/lang/System") (by decide +kernel)) hK hP hJ hS (zH hne zG_xd) (zG_od hk) (sp := 0) (dp := place * 2) (n := count * 2) (by omega) (by omega) (by decide) (by decide) (Nat.le_of_ble_eq_true rfl) (Nat.le_of_ble_eq_true rfl) dX2_copyRows_29 (zS_od hk) (fun H locs hP hS => ?_)
  exact z_retv hx hb hr hlk hP hS dX2_copyRows_32 (congrArg (va_up Z k) (by first | rfl | simp only [h_copyRows_x]))

def h_X5_note (cycle thread place : Int32) (M : zM) : zM := zu (zu (zu (zu (zu M 19 ((zc (M 18 0)) * 3) cycle) 19 ((zc (M 18 0)) * 3 + 1) thread) 19 ((zc (M 18 0)) * 3 + 2) place) 18 0 (nI ((zc (M 18 0) + 1) % 16))) 18 1 (if (nI 16) < (nI (zc (M 18 1) + 1)) then (nI 16) else (nI (zc (M 18 1) + 1)))
set_option maxHeartbeats 4000000 in
set_option maxRecDepth 100000 in
theorem ct_X5_note (l : Launch) (D : va_G) (a : Nat → Nat) (ca : Nat → ClassId) (hJ : zJ a) (Z : Nat → zM) (k : Nat) (M : zM) (hk : k < 6) (cycle thread place : Int32) (hI : zOK M) : zCv l yX5_note wsX5_note ({ frames := 1, cells := 0, slots := 0, locals := 14 } : Room) D a ca [.ref (a (19 * k + 17)), .int cycle, .int thread, .int place] (va_up Z k M) (va_up Z k (h_X5_note cycle thread place M)) := by
  have hiX5 : ∀ w ∈ wsX50, w ∈ wsX5_note := by decide +kernel
  refine z_ofv (cc := cX5_note) (maxL := 5) (own := RX5) (by decide) rfl (Nat.le_of_ble_eq_true rfl) rfl (fun p e s m below meth c ls hx hb hr hml hts hown hlk hl hK hP hS => ?_)
  have hl : lv_has ls 5 [(0, .ref (a (19 * k + 17))), (1, .int cycle), (2, .int thread), (3, .int place)] := hl
  refine lv_aload_n hx hb dX5_note_0 rfl (lv_at hl 0 rfl) ?_
  refine zgc1 hx hb hts hiX5 hown hK hP hk (hts (.fieldLink RX5 15 "BarrelProcessor$Trace" "next" "I") (by decide +kernel)) dX5_note_1 ?_
  refine z_val (z := nI (zc (M 18 0))) hI.2.2.1.2 ?_
  refine lv_iconst (v := nI 3) hx hb dX5_note_4 (by decide) ?_
  refine lv_imul hx hb dX5_note_5 ?_
  refine z_val (z := nI ((zc (M 18 0)) * 3)) (pk_mul _ _) ?_
  refine lv_istore (lv' := [(4, .int (nI ((zc (M 18 0)) * 3))), (0, .ref (a (19 * k + 17))), (1, .int cycle), (2, .int thread), (3, .int place)]) hx hb dX5_note_6 hl (by decide) rfl (fun ls hl => ?_)
  refine lv_aload_n hx hb dX5_note_8 rfl (lv_at hl 1 rfl) ?_
  refine zgc0 hx hb hts hiX5 hown hK hP hk (hts (.fieldLink RX5 11 "BarrelProcessor$Trace" "parts" "[I") (by decide +kernel)) dX5_note_9 ?_
  refine lv_iload hx hb dX5_note_12 (lv_at hl 0 rfl) ?_
  refine lv_iload_n hx hb dX5_note_14 rfl (lv_at hl 2 rfl) ?_
  refine z_iast (Z' := va_up Z k (zu M 19 ((zc (M 18 0)) * 3) cycle)) hx hb hK hP hJ hS (zG_pt hk) (j := (zc (M 18 0)) * 3) (by have h9 := hI.2.2.1.1; omega) (by decide) dX5_note_15 (zS_pt hk) (fun H locs hP hS => ?_)
  refine lv_aload_n hx hb dX5_note_16 rfl (lv_at hl 1 rfl) ?_
  refine zgc0 hx hb hts hiX5 hown hK hP hk (hts (.fieldLink RX5 11 "BarrelProcessor$Trace" "parts" "[I") (by decide +kernel)) dX5_note_17 ?_
  refine lv_iload hx hb dX5_note_20 (lv_at hl 0 rfl) ?_
  refine lv_iconst (v := nI 1) hx hb dX5_note_22 (by decide) ?_
  refine lv_iadd hx hb dX5_note_23 ?_
  refine z_val (z := nI ((zc (M 18 0)) * 3 + 1)) (nI_add _ _) ?_
  refine lv_iload_n hx hb dX5_note_24 rfl (lv_at hl 3 rfl) ?_
  refine z_iast (Z' := va_up Z k (zu (zu M 19 ((zc (M 18 0)) * 3) cycle) 19 ((zc (M 18 0)) * 3 + 1) thread)) hx hb hK hP hJ hS (zG_pt hk) (j := (zc (M 18 0)) * 3 + 1) (by have h9 := hI.2.2.1.1; omega) (by decide) dX5_note_25 (zS_pt hk) (fun H locs hP hS => ?_)
  refine lv_aload_n hx hb dX5_note_26 rfl (lv_at hl 1 rfl) ?_
  refine zgc0 hx hb hts hiX5 hown hK hP hk (hts (.fieldLink RX5 11 "BarrelProcessor$Trace" "parts" "[I") (by decide +kernel)) dX5_note_27 ?_
  refine lv_iload hx hb dX5_note_30 (lv_at hl 0 rfl) ?_
  refine lv_iconst (v := nI 2) hx hb dX5_note_32 (by decide) ?_
  refine lv_iadd hx hb dX5_note_33 ?_
  refine z_val (z := nI ((zc (M 18 0)) * 3 + 2)) (nI_add _ _) ?_
  refine lv_iload_n hx hb dX5_note_34 rfl (lv_at hl 4 rfl) ?_
  refine z_iast (Z' := va_up Z k (zu (zu (zu M 19 ((zc (M 18 0)) * 3) cycle) 19 ((zc (M 18 0)) * 3 + 1) thread) 19 ((zc (M 18 0)) * 3 + 2) place)) hx hb hK hP hJ hS (zG_pt hk) (j := (zc (M 18 0)) * 3 + 2) (by have h9 := hI.2.2.1.1; omega) (by decide) dX5_note_35 (zS_pt hk) (fun H locs hP hS => ?_)
  refine lv_aload_n hx hb dX5_note_36 rfl (lv_at hl 1 rfl) ?_
  refine lv_aload_n hx hb dX5_note_37 rfl (lv_at hl 1 rfl) ?_
  refine zgc1 hx hb hts hiX5 hown hK hP hk (hts (.fieldLink RX5 15 "BarrelProcessor$Trace" "next" "I") (by decide +kernel)) dX5_note_38 ?_
  refine z_val (z := nI (zc (M 18 0))) hI.2.2.1.2 ?_
  refine lv_iconst (v := nI 1) hx hb dX5_note_41 (by decide) ?_
  refine lv_iadd hx hb dX5_note_42 ?_
  refine z_val (z := nI (zc (M 18 0) + 1)) (nI_add _ _) ?_
  refine lv_bipush (v := nI 16) hx hb dX5_note_43 (by decide) ?_
  refine lv_irem hx hb dX5_note_45 (by decide) ?_
  refine z_val (z := nI ((zc (M 18 0) + 1) % 16)) (pk_rem (by have h9 := hI.2.2.1.1; omega) (by decide) (by decide)) ?_
  refine zpc1 hx hb hts hiX5 hown hK hP hJ hS hk (hts (.fieldLink RX5 15 "BarrelProcessor$Trace" "next" "I") (by decide +kernel)) dX5_note_46 (fun H locs hP hS => ?_)
  refine lv_aload_n hx hb dX5_note_49 rfl (lv_at hl 1 rfl) ?_
  refine lv_aload_n hx hb dX5_note_50 rfl (lv_at hl 1 rfl) ?_
  refine zgc2 hx hb hts hiX5 hown hK hP hk (hts (.fieldLink RX5 19 "BarrelProcessor$Trace" "count" "I") (by decide +kernel)) dX5_note_51 ?_
  refine z_val (z := nI (zc (M 18 1))) hI.2.2.2.2 ?_
  refine lv_iconst (v := nI 1) hx hb dX5_note_54 (by decide) ?_
  refine lv_iadd hx hb dX5_note_55 ?_
  refine z_val (z := nI (zc (M 18 1) + 1)) (nI_add _ _) ?_
  refine lv_bipush (v := nI 16) hx hb dX5_note_56 (by decide) ?_
  refine va_mmin hx hb (hml.trans hl.1.symm) hown (hts (.methodLink RX5 22 Lib.Math.min.name) (by decide +kernel)) (hts (.static Lib.Math.min.name) (by decide +kernel)) (hts (.initialized "java/lang/Math") (by decide +kernel)) (hts (.code Lib.Math.min.name Lib.Math.min.code 2 (some .int)) (by decide +kernel)) (Nat.le_of_ble_eq_true rfl) (Nat.le_of_ble_eq_true rfl) (Nat.zero_le _) (Nat.zero_le _) dX5_note_58 ?_
  refine zpc2 hx hb hts hiX5 hown hK hP hJ hS hk (hts (.fieldLink RX5 19 "BarrelProcessor$Trace" "count" "I") (by decide +kernel)) dX5_note_61 (fun H locs hP hS => ?_)
  exact z_retv hx hb hr hlk hP hS dX5_note_64 (congrArg (va_up Z k) (by first | rfl | simp only [h_X5_note]))

def g_X5_lookUp (ago part : Nat) (M : zM) : Int32 := if (nI ago) < (nI (zc (M 18 1))) then M 19 (((((zc (M 18 0) + 16) - 1) - ago) % 16) * 3 + part) else (-100005)
set_option maxHeartbeats 4000000 in
set_option maxRecDepth 100000 in
theorem ct_X5_lookUp (l : Launch) (D : va_G) (a : Nat → Nat) (ca : Nat → ClassId) (hJ : zJ a) (Z : Nat → zM) (k : Nat) (M : zM) (hk : k < 6) (ago part : Nat) (hago : ago < 2 ^ 31) (hpart : part < 3) (hI : zOK M) : zCi l yX5_lookUp wsX5_lookUp ({ frames := 0, cells := 0, slots := 0, locals := 0 } : Room) D a ca [.ref (a (19 * k + 17)), .int (nI ago), .int (nI part)] (va_up Z k M) (g_X5_lookUp ago part M) (va_up Z k M) := by
  have hiX5 : ∀ w ∈ wsX50, w ∈ wsX5_lookUp := by decide +kernel
  refine z_ofi (cc := cX5_lookUp) (maxL := 4) (own := RX5) (by decide) rfl (Nat.le_of_ble_eq_true rfl) rfl (fun p e s m below meth c ls hx hb hr hml hts hown hlk hl hK hP hS => ?_)
  have hl : lv_has ls 4 [(0, .ref (a (19 * k + 17))), (1, .int (nI ago)), (2, .int (nI part))] := hl
  refine lv_iload_n hx hb dX5_lookUp_0 rfl (lv_at hl 1 rfl) ?_
  refine lv_aload_n hx hb dX5_lookUp_1 rfl (lv_at hl 0 rfl) ?_
  refine zgc2 hx hb hts hiX5 hown hK hP hk (hts (.fieldLink RX5 19 "BarrelProcessor$Trace" "count" "I") (by decide +kernel)) dX5_lookUp_2 ?_
  refine z_val (z := nI (zc (M 18 1))) hI.2.2.2.2 ?_
  refine lv_icmp_lt (tgt := 11) hx hb dX5_lookUp_5 (by decide) (fun c5_1 => ?_) (fun c5_1 => ?_)
  · have b1 : ago < zc (M 18 1) := (nI_ltI hago (Nat.lt_trans hI.2.2.2.1 (by decide))).mp c5_1
    have b2 := hI.2.2.1.1
    have b3 := hI.2.2.2.1
    refine lv_aload_n hx hb dX5_lookUp_11 rfl (lv_at hl 0 rfl) ?_
    refine zgc1 hx hb hts hiX5 hown hK hP hk (hts (.fieldLink RX5 15 "BarrelProcessor$Trace" "next" "I") (by decide +kernel)) dX5_lookUp_12 ?_
    refine z_val (z := nI (zc (M 18 0))) hI.2.2.1.2 ?_
    refine lv_bipush (v := nI 16) hx hb dX5_lookUp_15 (by decide) ?_
    refine lv_iadd hx hb dX5_lookUp_17 ?_
    refine z_val (z := nI (zc (M 18 0) + 16)) (nI_add _ _) ?_
    refine lv_iconst (v := nI 1) hx hb dX5_lookUp_18 (by decide) ?_
    refine lv_isub hx hb dX5_lookUp_19 ?_
    refine z_val (z := nI ((zc (M 18 0) + 16) - 1)) (pk_sub (by omega)) ?_
    refine lv_iload_n hx hb dX5_lookUp_20 rfl (lv_at hl 1 rfl) ?_
    refine lv_isub hx hb dX5_lookUp_21 ?_
    refine z_val (z := nI (((zc (M 18 0) + 16) - 1) - ago)) (pk_sub (by omega)) ?_
    refine lv_bipush (v := nI 16) hx hb dX5_lookUp_22 (by decide) ?_
    refine lv_irem hx hb dX5_lookUp_24 (by decide) ?_
    refine z_val (z := nI ((((zc (M 18 0) + 16) - 1) - ago) % 16)) (pk_rem (by omega) (by decide) (by decide)) ?_
    refine lv_istore_n (lv' := [(3, .int (nI ((((zc (M 18 0) + 16) - 1) - ago) % 16))), (0, .ref (a (19 * k + 17))), (1, .int (nI ago)), (2, .int (nI part))]) hx hb dX5_lookUp_25 rfl hl (by decide) rfl (fun ls hl => ?_)
    refine lv_aload_n hx hb dX5_lookUp_26 rfl (lv_at hl 1 rfl) ?_
    refine zgc0 hx hb hts hiX5 hown hK hP hk (hts (.fieldLink RX5 11 "BarrelProcessor$Trace" "parts" "[I") (by decide +kernel)) dX5_lookUp_27 ?_
    refine lv_iload_n hx hb dX5_lookUp_30 rfl (lv_at hl 0 rfl) ?_
    refine lv_iconst (v := nI 3) hx hb dX5_lookUp_31 (by decide) ?_
    refine lv_imul hx hb dX5_lookUp_32 ?_
    refine z_val (z := nI (((((zc (M 18 0) + 16) - 1) - ago) % 16) * 3)) (pk_mul _ _) ?_
    refine lv_iload_n hx hb dX5_lookUp_33 rfl (lv_at hl 3 rfl) ?_
    refine lv_iadd hx hb dX5_lookUp_34 ?_
    refine z_val (z := nI (((((zc (M 18 0) + 16) - 1) - ago) % 16) * 3 + part)) (nI_add _ _) ?_
    refine z_iald hx hb hK hP (zG_pt hk) (j := ((((zc (M 18 0) + 16) - 1) - ago) % 16) * 3 + part) (by omega) (by decide) dX5_lookUp_35 ?_
    exact z_reti hx hb hr hlk rfl hP hS dX5_lookUp_36 (by simp only [g_X5_lookUp, if_pos c5_1]) rfl
  · refine lv_ldc (v := (-100005)) hx hb hown (hts (.constant RX5 28 (-100005)) (by decide +kernel)) dX5_lookUp_8 ?_
    exact z_reti hx hb hr hlk rfl hP hS dX5_lookUp_10 (by simp only [g_X5_lookUp, if_neg c5_1]) rfl

def h_X5_copyFrom (Z : Nat → zM) (k2 : Nat) (M : zM) : zM := zu (zu (zr M 19 (va_cpy ((Z k2) 19) (M 19) 0 0 48)) 18 0 ((Z k2) 18 0)) 18 1 ((Z k2) 18 1)
set_option maxHeartbeats 4000000 in
set_option maxRecDepth 100000 in
theorem ct_X5_copyFrom (l : Launch) (D : va_G) (a : Nat → Nat) (ca : Nat → ClassId) (hJ : zJ a) (Z : Nat → zM) (k : Nat) (M : zM) (hk : k < 6) (k2 : Nat) (hk2 : k2 < 6) (hne : k2 ≠ k) : zCv l yX5_copyFrom wsX5_copyFrom ({ frames := 1, cells := 0, slots := 0, locals := 40 } : Room) D a ca [.ref (a (19 * k + 17)), .ref (a (19 * k2 + 17))] (va_up Z k M) (va_up Z k (h_X5_copyFrom Z k2 M)) := by
  have hiX5 : ∀ w ∈ wsX50, w ∈ wsX5_copyFrom := by decide +kernel
  refine z_ofv (cc := cX5_copyFrom) (maxL := 2) (own := RX5) (by decide) rfl (Nat.le_of_ble_eq_true rfl) rfl (fun p e s m below meth c ls hx hb hr hml hts hown hlk hl hK hP hS => ?_)
  have hl : lv_has ls 2 [(0, .ref (a (19 * k + 17))), (1, .ref (a (19 * k2 + 17)))] := hl
  refine lv_aload_n hx hb dX5_copyFrom_0 rfl (lv_at hl 1 rfl) ?_
  refine zoc0 hx hb hts hiX5 hown hK hP hk2 hne (hts (.fieldLink RX5 11 "BarrelProcessor$Trace" "parts" "[I") (by decide +kernel)) dX5_copyFrom_1 ?_
  refine lv_iconst (v := nI 0) hx hb dX5_copyFrom_4 (by decide) ?_
  refine lv_aload_n hx hb dX5_copyFrom_5 rfl (lv_at hl 0 rfl) ?_
  refine zgc0 hx hb hts hiX5 hown hK hP hk (hts (.fieldLink RX5 11 "BarrelProcessor$Trace" "parts" "[I") (by decide +kernel)) dX5_copyFrom_6 ?_
  refine lv_iconst (v := nI 0) hx hb dX5_copyFrom_9 (by decide) ?_
  refine lv_bipush (v := nI 48) hx hb dX5_copyFrom_10 (by decide) ?_
  refine z_copy (Z' := va_up Z k (zr M 19 (va_cpy ((Z k2) 19) (M 19) 0 0 48))) hx hb (hml.trans hl.1.symm) hown (hts (.methodLink RX5 29 arraycopyName) (by decide +kernel)) (hts (.native arraycopyName) (by decide +kernel)) (hts (.static arraycopyName) (by decide +kernel)) (hts (.initialized "java/lang/System") (by decide +kernel)) hK hP hJ hS (zH hne (zG_pt hk2)) (zG_pt hk) (sp := 0) (dp := 0) (n := 48) (by omega) (by omega) (by decide) (by decide) (Nat.le_of_ble_eq_true rfl) (Nat.le_of_ble_eq_true rfl) dX5_copyFrom_12 (zS_pt hk) (fun H locs hP hS => ?_)
  refine lv_aload_n hx hb dX5_copyFrom_15 rfl (lv_at hl 0 rfl) ?_
  refine lv_aload_n hx hb dX5_copyFrom_16 rfl (lv_at hl 1 rfl) ?_
  refine zoc1 hx hb hts hiX5 hown hK hP hk2 hne (hts (.fieldLink RX5 15 "BarrelProcessor$Trace" "next" "I") (by decide +kernel)) dX5_copyFrom_17 ?_
  refine zpc1 hx hb hts hiX5 hown hK hP hJ hS hk (hts (.fieldLink RX5 15 "BarrelProcessor$Trace" "next" "I") (by decide +kernel)) dX5_copyFrom_20 (fun H locs hP hS => ?_)
  refine lv_aload_n hx hb dX5_copyFrom_23 rfl (lv_at hl 0 rfl) ?_
  refine lv_aload_n hx hb dX5_copyFrom_24 rfl (lv_at hl 1 rfl) ?_
  refine zoc2 hx hb hts hiX5 hown hK hP hk2 hne (hts (.fieldLink RX5 19 "BarrelProcessor$Trace" "count" "I") (by decide +kernel)) dX5_copyFrom_25 ?_
  refine zpc2 hx hb hts hiX5 hown hK hP hJ hS hk (hts (.fieldLink RX5 19 "BarrelProcessor$Trace" "count" "I") (by decide +kernel)) dX5_copyFrom_28 (fun H locs hP hS => ?_)
  exact z_retv hx hb hr hlk hP hS dX5_copyFrom_31 (congrArg (va_up Z k) (by first | rfl | simp only [h_X5_copyFrom]))
