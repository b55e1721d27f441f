def g_restore2 (Z : Nat → zM) : Int32 := if (nI (zc (Z 6 0 1))) = 0 then (-100005) else (zu (zu (Z 6) 0 0 (nI (((zc (Z 6 0 0) + 4) - 1) % 4))) 0 1 (nI ((zc (Z 6 0 1)) - 1))) 0 1
def h_restore2 (Z : Nat → zM) : Nat → zM := if (nI (zc (Z 6 0 1))) = 0 then Z else va_up (va_up Z 6 (zu (zu (Z 6) 0 0 (nI (((zc (Z 6 0 0) + 4) - 1) % 4))) 0 1 (nI ((zc (Z 6 0 1)) - 1)))) 0 ((va_up Z 6 (zu (zu (Z 6) 0 0 (nI (((zc (Z 6 0 0) + 4) - 1) % 4))) 0 1 (nI ((zc (Z 6 0 1)) - 1)))) (2 + ((zc (Z 6 0 0) + 3) % 4)))
set_option maxHeartbeats 4000000 in
set_option maxRecDepth 100000 in
theorem ct_restore2 (l : Launch) (D : va_G) (a : Nat → Nat) (ca : Nat → ClassId) (hJ : zJ a) (Z : Nat → zM) (hN : zIn (Z 6 0 0) 4) (hC : zIn (Z 6 0 1) 5) (hXR : ∀ k, k < 6 → xR (Z k)) : zCi l yX1_restore wsX1_restore ({ frames := 3, cells := 0, slots := 0, locals := 85 } : Room) D a ca [.ref (a 115), .ref (a (19 * 0))] (Z) (g_restore2 Z) (h_restore2 Z) := by
  have hiX1 : ∀ w ∈ wsX10, w ∈ wsX1_restore := by decide +kernel
  refine z_ofi (cc := cX1_restore) (maxL := 2) (own := RX1) (by decide) rfl (Nat.le_of_ble_eq_true rfl) rfl (fun p e s m below meth c ls hx hb hr hml hts hown hlk hl hK hP hS => ?_)
  have hl : lv_has ls 2 [(0, .ref (a 115)), (1, .ref (a (19 * 0)))] := hl
  have hN1 := hN.1
  have hC1 := hC.1
  refine lv_aload_n hx hb dX1_restore_0 rfl (lv_at hl 0 rfl) ?_
  have hP := zfoc_in (Z := Z) (k := 6) (M := Z 6) rfl hP
  refine zgh2 hx hb hts hiX1 hown hK hP  (hts (.fieldLink RX1 26 "BarrelProcessor$History" "count" "I") (by decide +kernel)) dX1_restore_1 ?_
  refine z_val (z := nI (zc (Z 6 0 1))) hC.2 ?_
  refine lv_if_ne (tgt := 10) hx hb dX1_restore_4 (by decide) (fun c4_1 => ?_) (fun c4_1 => ?_)
  · have hc0 : ¬ zc (Z 6 0 1) = 0 := fun q => c4_1 (by rw [q]; rfl)
    refine lv_aload_n hx hb dX1_restore_10 rfl (lv_at hl 0 rfl) ?_
    refine lv_aload_n hx hb dX1_restore_11 rfl (lv_at hl 0 rfl) ?_
    refine zgh1 hx hb hts hiX1 hown hK hP  (hts (.fieldLink RX1 18 "BarrelProcessor$History" "next" "I") (by decide +kernel)) dX1_restore_12 ?_
    refine z_val (z := nI (zc (Z 6 0 0))) hN.2 ?_
    refine lv_iconst (v := nI 4) hx hb dX1_restore_15 (by decide) ?_
    refine lv_iadd hx hb dX1_restore_16 ?_
    refine z_val (z := nI (zc (Z 6 0 0) + 4)) (nI_add _ _) ?_
    refine lv_iconst (v := nI 1) hx hb dX1_restore_17 (by decide) ?_
    refine lv_isub hx hb dX1_restore_18 ?_
    refine z_val (z := nI ((zc (Z 6 0 0) + 4) - 1)) (pk_sub (by omega)) ?_
    refine lv_iconst (v := nI 4) hx hb dX1_restore_19 (by decide) ?_
    refine lv_irem hx hb dX1_restore_20 (by decide) ?_
    refine z_val (z := nI (((zc (Z 6 0 0) + 4) - 1) % 4)) (pk_rem (by omega) (by decide) (by decide)) ?_
    refine zph1 hx hb hts hiX1 hown hK hP hJ hS  (hts (.fieldLink RX1 18 "BarrelProcessor$History" "next" "I") (by decide +kernel)) dX1_restore_21 (fun H locs hP hS => ?_)
    refine lv_aload_n hx hb dX1_restore_24 rfl (lv_at hl 0 rfl) ?_
    refine lv_dup hx hb dX1_restore_25 rfl ?_
    refine zgh2 hx hb hts hiX1 hown hK hP  (hts (.fieldLink RX1 26 "BarrelProcessor$History" "count" "I") (by decide +kernel)) dX1_restore_26 ?_
    refine z_val (z := nI (zc (Z 6 0 1))) hC.2 ?_
    refine lv_iconst (v := nI 1) hx hb dX1_restore_29 (by decide) ?_
    refine lv_isub hx hb dX1_restore_30 ?_
    refine z_val (z := nI ((zc (Z 6 0 1)) - 1)) (pk_sub (by omega)) ?_
    refine zph2 hx hb hts hiX1 hown hK hP hJ hS  (hts (.fieldLink RX1 26 "BarrelProcessor$History" "count" "I") (by decide +kernel)) dX1_restore_31 (fun H locs hP hS => ?_)
    refine lv_aload_n hx hb dX1_restore_34 rfl (lv_at hl 1 rfl) ?_
    refine lv_aload_n hx hb dX1_restore_35 rfl (lv_at hl 0 rfl) ?_
    refine zgh0 hx hb hts hiX1 hown hK hP  (hts (.fieldLink RX1 13 "BarrelProcessor$History" "states" "[LBarrelProcessor$Machine;") (by decide +kernel)) dX1_restore_36 ?_
    refine lv_aload_n hx hb dX1_restore_39 rfl (lv_at hl 0 rfl) ?_
    refine zgh1 hx hb hts hiX1 hown hK hP  (hts (.fieldLink RX1 18 "BarrelProcessor$History" "next" "I") (by decide +kernel)) dX1_restore_40 ?_
    refine z_val (z := nI ((zc (Z 6 0 0) + 3) % 4)) rfl ?_
    refine z_aam hx hb hK hP (t := (zc (Z 6 0 0) + 3) % 4) (by omega) dX1_restore_43 ?_
    have hP := zfoc_in (Z := va_up Z 6 (zu (zu (Z 6) 0 0 (nI (((zc (Z 6 0 0) + 4) - 1) % 4))) 0 1 (nI ((zc (Z 6 0 1)) - 1)))) (k := 0) (M := Z 0) (va_up_ne _ _ (by omega)).symm hP
    refine z_cVv (As := [.ref (a (19 * (2 + ((zc (Z 6 0 0) + 3) % 4))))]) (rest := []) ⟨hx, hb, hml, hown, hts⟩ (ct_X3_copyFrom l D a ca hJ (va_up Z 6 (zu (zu (Z 6) 0 0 (nI (((zc (Z 6 0 0) + 4) - 1) % 4))) 0 1 (nI ((zc (Z 6 0 1)) - 1)))) 0 (Z 0) (by omega) (2 + ((zc (Z 6 0 0) + 3) % 4)) (by omega) (by omega)) (cwV 1 hts gX1_restore_X3_copyFrom rfl rfl rfl (by decide +kernel) ⟨Nat.le_of_ble_eq_true rfl, Nat.le_of_ble_eq_true rfl⟩) hK hP hS (va_recv (ci := 3) hK.1 hP rfl (zG_m (by omega))) rfl hl.1 rfl (Nat.le_of_ble_eq_true rfl) dX1_restore_44 ⟨Nat.zero_le _, Nat.zero_le _⟩ (fun H locs hP hS => ?_)
    have hP : va_P D vwCl (zW a ca (va_up (va_up Z 6 (zu (zu (Z 6) 0 0 (nI (((zc (Z 6 0 0) + 4) - 1) % 4))) 0 1 (nI ((zc (Z 6 0 1)) - 1)))) 0 ((va_up Z 6 (zu (zu (Z 6) 0 0 (nI (((zc (Z 6 0 0) + 4) - 1) % 4))) 0 1 (nI ((zc (Z 6 0 1)) - 1)))) (2 + ((zc (Z 6 0 0) + 3) % 4))))) _ := zP_copy (Z := va_up Z 6 (zu (zu (Z 6) 0 0 (nI (((zc (Z 6 0 0) + 4) - 1) % 4))) 0 1 (nI ((zc (Z 6 0 1)) - 1)))) (k := 0) (k2 := (2 + ((zc (Z 6 0 0) + 3) % 4))) (by rw [va_up_ne _ _ (by omega)]; exact hXR _ (by omega)) (by rw [va_up_ne _ _ (by omega)]; exact hXR _ (by omega)) (by omega) hP
    refine lv_aload_n hx hb dX1_restore_47 rfl (lv_at hl 0 rfl) ?_
    have hP := zfoc_in (Z := va_up (va_up Z 6 (zu (zu (Z 6) 0 0 (nI (((zc (Z 6 0 0) + 4) - 1) % 4))) 0 1 (nI ((zc (Z 6 0 1)) - 1)))) 0 ((va_up Z 6 (zu (zu (Z 6) 0 0 (nI (((zc (Z 6 0 0) + 4) - 1) % 4))) 0 1 (nI ((zc (Z 6 0 1)) - 1)))) (2 + ((zc (Z 6 0 0) + 3) % 4)))) (k := 6) (M := zu (zu (Z 6) 0 0 (nI (((zc (Z 6 0 0) + 4) - 1) % 4))) 0 1 (nI ((zc (Z 6 0 1)) - 1))) ((va_up_self _ _ _).symm.trans (va_up_ne _ _ (by omega)).symm) hP
    refine zgh2 hx hb hts hiX1 hown hK hP  (hts (.fieldLink RX1 26 "BarrelProcessor$History" "count" "I") (by decide +kernel)) dX1_restore_48 ?_
    exact z_reti hx hb hr hlk rfl (zfoc_out (Z := va_up (va_up Z 6 (zu (zu (Z 6) 0 0 (nI (((zc (Z 6 0 0) + 4) - 1) % 4))) 0 1 (nI ((zc (Z 6 0 1)) - 1)))) 0 ((va_up Z 6 (zu (zu (Z 6) 0 0 (nI (((zc (Z 6 0 0) + 4) - 1) % 4))) 0 1 (nI ((zc (Z 6 0 1)) - 1)))) (2 + ((zc (Z 6 0 0) + 3) % 4)))) (k := 6) ((va_up_self _ _ _).symm.trans (va_up_ne _ _ (by omega)).symm) hP) hS dX1_restore_51 (by simp only [g_restore2, if_neg c4_1]) (by simp only [h_restore2, if_neg c4_1])
  · refine lv_ldc (v := (-100005)) hx hb hown (hts (.constant RX1 35 (-100005)) (by decide +kernel)) dX1_restore_7 ?_
    exact z_reti hx hb hr hlk rfl (zfoc_out (Z := Z) (k := 6) rfl hP) hS dX1_restore_9 (by simp only [g_restore2, if_pos c4_1]) (by simp only [h_restore2, if_pos c4_1])

theorem rem2_0 (Z : Nat → zM) : h_remember2 Z 0 = Z 0 := (va_up_ne _ _ (by decide)).trans (va_up_ne _ _ (by omega))
theorem try2_0 (Z : Nat → zM) (x y : Int32) : h_tryOut2 Z x y 0 = Z 0 := va_up_ne _ _ (by decide)

def g_start2 (Z : Nat → zM) (thread : Int32) (place : Int32) : Int32 := if (g_X6_isThread thread) = 0 then (-100001) else if (g_X6_isPlace place) = 0 then (-100001) else ((h_remember2 Z) 0) 0 (zc thread)
def h_start2 (Z : Nat → zM) (thread : Int32) (place : Int32) : Nat → zM := if (g_X6_isThread thread) = 0 then Z else if (g_X6_isPlace place) = 0 then Z else va_up (h_remember2 Z) 0 (h_X0_startAt (zc thread) place ((h_remember2 Z) 0))
set_option maxHeartbeats 4000000 in
set_option maxRecDepth 100000 in
theorem ct_start2 (l : Launch) (D : va_G) (a : Nat → Nat) (ca : Nat → ClassId) (hJ : zJ a) (Z : Nat → zM) (thread : Int32) (place : Int32) (hN : zIn (Z 6 0 0) 4) (hC : zIn (Z 6 0 1) 5) (hXR : ∀ k, k < 6 → xR (Z k)) : zCi l yX6_start wsX6_start ({ frames := 4, cells := 0, slots := 0, locals := 106 } : Room) D a ca [.ref (a 114), .int thread, .int place] (Z) (g_start2 Z thread place) (h_start2 Z thread place) := by
  have hiX0 : ∀ w ∈ wsX00, w ∈ wsX6_start := by decide +kernel
  have hiX3 : ∀ w ∈ wsX30, w ∈ wsX6_start := by decide +kernel
  have hiX6 : ∀ w ∈ wsX60, w ∈ wsX6_start := by decide +kernel
  refine z_ofi (cc := cX6_start) (maxL := 4) (own := RX6) (by decide) rfl (Nat.le_of_ble_eq_true rfl) rfl (fun p e s m below meth c ls hx hb hr hml hts hown hlk hl hK hP hS => ?_)
  have hl : lv_has ls 4 [(0, .ref (a 114)), (1, .int thread), (2, .int place)] := hl
  refine lv_iload_n hx hb dX6_start_0 rfl (lv_at hl 1 rfl) ?_
  refine z_cSi (As := [.int thread]) (rest := []) ⟨hx, hb, hml, hown, hts⟩ (ct_X6_isThread l D a ca hJ Z thread) (va_cwS 1 hts gX6_start_X6_isThread rfl rfl rfl (by decide +kernel) ⟨Nat.le_of_ble_eq_true rfl, Nat.le_of_ble_eq_true rfl⟩) hK hP hS rfl hl.1 rfl (Nat.le_of_ble_eq_true rfl) dX6_start_1 ⟨Nat.zero_le _, Nat.zero_le _⟩ (fun H locs hP hS => ?_)
  refine lv_if_eq (tgt := 14) hx hb dX6_start_4 (by decide) (fun c4_1 => ?_) (fun c4_1 => ?_)
  · refine lv_ldc (v := (-100001)) hx hb hown (hts (.constant RX6 37 (-100001)) (by decide +kernel)) dX6_start_14 ?_
    exact z_reti hx hb hr hlk rfl hP hS dX6_start_16 (by simp only [g_start2, if_pos c4_1]) (by simp only [h_start2, if_pos c4_1])
  · have bt := z_isThread c4_1
    refine lv_iload_n hx hb dX6_start_7 rfl (lv_at hl 2 rfl) ?_
    refine z_cSi (As := [.int place]) (rest := []) ⟨hx, hb, hml, hown, hts⟩ (ct_X6_isPlace l D a ca hJ Z place) (va_cwS 1 hts gX6_start_X6_isPlace rfl rfl rfl (by decide +kernel) ⟨Nat.le_of_ble_eq_true rfl, Nat.le_of_ble_eq_true rfl⟩) hK hP hS rfl hl.1 rfl (Nat.le_of_ble_eq_true rfl) dX6_start_8 ⟨Nat.zero_le _, Nat.zero_le _⟩ (fun H locs hP hS => ?_)
    refine lv_if_ne (tgt := 17) hx hb dX6_start_11 (by decide) (fun c11_2 => ?_) (fun c11_2 => ?_)
    · refine lv_aload_n hx hb dX6_start_17 rfl (lv_at hl 0 rfl) ?_
      have hP := zfoc_in (Z := Z) (k := 6) (M := Z 6) rfl hP
      refine zgb2 hx hb hts hiX6 hown hK hP  (hts (.fieldLink RX6 22 "BarrelProcessor" "history" "LBarrelProcessor$History;") (by decide +kernel)) dX6_start_18 ?_
      refine lv_aload_n hx hb dX6_start_21 rfl (lv_at hl 0 rfl) ?_
      refine zgb0' hx hb hts hiX6 hown hK hP  (hts (.fieldLink RX6 10 "BarrelProcessor" "machine" "LBarrelProcessor$Machine;") (by decide +kernel)) dX6_start_22 ?_
      have hP := zfoc_out (Z := Z) (k := 6) rfl hP
      refine z_cVv (As := [.ref (a (19 * 0))]) (rest := []) ⟨hx, hb, hml, hown, hts⟩ (ct_remember2 l D a ca hJ Z hN hC hXR) (cwV 1 hts gX6_start_X1_remember rfl rfl rfl (by decide +kernel) ⟨Nat.le_of_ble_eq_true rfl, Nat.le_of_ble_eq_true rfl⟩) hK hP hS (va_recv (ci := 1) hK.1 (zfoc_in (Z := Z) (k := 6) (M := Z 6) rfl hP) rfl zG_h) rfl hl.1 rfl (Nat.le_of_ble_eq_true rfl) dX6_start_25 ⟨Nat.zero_le _, Nat.zero_le _⟩ (fun H locs hP hS => ?_)
      refine lv_aload_n hx hb dX6_start_28 rfl (lv_at hl 0 rfl) ?_
      have hP := zfoc_in (Z := h_remember2 Z) (k := 6) (M := (h_remember2 Z) 6) rfl hP
      refine zgb0' hx hb hts hiX6 hown hK hP  (hts (.fieldLink RX6 10 "BarrelProcessor" "machine" "LBarrelProcessor$Machine;") (by decide +kernel)) dX6_start_29 ?_
      have hP := zfoc_out (Z := h_remember2 Z) (k := 6) rfl hP
      have hP := zfoc_in (Z := h_remember2 Z) (k := 0) (M := (h_remember2 Z) 0) rfl hP
      refine znm0 hx hb hts hiX3 hown hK hP (by omega) (zn_RX6_69 hK) dX6_start_32 ?_
      refine lv_iload_n hx hb dX6_start_35 rfl (lv_at hl 1 rfl) ?_
      refine z_val (z := nI (zc thread)) bt.2 ?_
      refine z_aat hx hb hK hP (by omega) bt.1 dX6_start_36 ?_
      refine znt1 hx hb hts hiX0 hown hK hP (by omega) bt.1 (zn_RX6_73 hK) dX6_start_37 ?_
      refine lv_istore_n (lv' := [(3, .int (((h_remember2 Z) 0) 0 (zc thread))), (0, .ref (a 114)), (1, .int thread), (2, .int place)]) hx hb dX6_start_40 rfl hl (by decide) rfl (fun ls hl => ?_)
      refine lv_aload_n hx hb dX6_start_41 rfl (lv_at hl 1 rfl) ?_
      have hP := zfoc_out (Z := h_remember2 Z) (k := 0) rfl hP
      have hP := zfoc_in (Z := h_remember2 Z) (k := 6) (M := (h_remember2 Z) 6) rfl hP
      refine zgb0' hx hb hts hiX6 hown hK hP  (hts (.fieldLink RX6 10 "BarrelProcessor" "machine" "LBarrelProcessor$Machine;") (by decide +kernel)) dX6_start_42 ?_
      have hP := zfoc_out (Z := h_remember2 Z) (k := 6) rfl hP
      have hP := zfoc_in (Z := h_remember2 Z) (k := 0) (M := (h_remember2 Z) 0) rfl hP
      refine znm0 hx hb hts hiX3 hown hK hP (by omega) (zn_RX6_69 hK) dX6_start_45 ?_
      refine lv_iload_n hx hb dX6_start_48 rfl (lv_at hl 2 rfl) ?_
      refine z_val (z := nI (zc thread)) bt.2 ?_
      refine z_aat hx hb hK hP (by omega) bt.1 dX6_start_49 ?_
      refine lv_iload_n hx hb dX6_start_50 rfl (lv_at hl 3 rfl) ?_
      refine z_cVv (As := [.int place]) (rest := []) ⟨hx, hb, hml, hown, hts⟩ (ct_X0_startAt l D a ca hJ (h_remember2 Z) 0 ((h_remember2 Z) 0) (zc thread) (by omega) bt.1 place) (cwV 1 hts gX6_start_X0_startAt rfl rfl rfl (by decide +kernel) ⟨Nat.le_of_ble_eq_true rfl, Nat.le_of_ble_eq_true rfl⟩) hK hP hS (va_recv (ci := 0) hK.1 hP rfl (zG_t (by omega) bt.1)) rfl hl.1 rfl (Nat.le_of_ble_eq_true rfl) dX6_start_51 ⟨Nat.zero_le _, Nat.zero_le _⟩ (fun H locs hP hS => ?_)
      refine lv_iload_n hx hb dX6_start_54 rfl (lv_at hl 0 rfl) ?_
      exact z_reti hx hb hr hlk rfl hP hS dX6_start_55 (by simp only [g_start2, if_neg c4_1, if_neg c11_2]) (by simp only [h_start2, if_neg c4_1, if_neg c11_2])
    · refine lv_ldc (v := (-100001)) hx hb hown (hts (.constant RX6 37 (-100001)) (by decide +kernel)) dX6_start_14 ?_
      exact z_reti hx hb hr hlk rfl hP hS dX6_start_16 (by simp only [g_start2, if_neg c4_1, if_pos c11_2]) (by simp only [h_start2, if_neg c4_1, if_pos c11_2])

def g_halt2 (Z : Nat → zM) (thread : Int32) : Int32 := if (g_X6_isThread thread) = 0 then (-100001) else ((h_remember2 Z) 0) 0 (zc thread)
def h_halt2 (Z : Nat → zM) (thread : Int32) : Nat → zM := if (g_X6_isThread thread) = 0 then Z else va_up (h_remember2 Z) 0 (h_X0_haltNow (zc thread) ((h_remember2 Z) 0))
set_option maxHeartbeats 4000000 in
set_option maxRecDepth 100000 in
theorem ct_halt2 (l : Launch) (D : va_G) (a : Nat → Nat) (ca : Nat → ClassId) (hJ : zJ a) (Z : Nat → zM) (thread : Int32) (hN : zIn (Z 6 0 0) 4) (hC : zIn (Z 6 0 1) 5) (hXR : ∀ k, k < 6 → xR (Z k)) : zCi l yX6_halt wsX6_halt ({ frames := 4, cells := 0, slots := 0, locals := 106 } : Room) D a ca [.ref (a 114), .int thread] (Z) (g_halt2 Z thread) (h_halt2 Z thread) := by
  have hiX0 : ∀ w ∈ wsX00, w ∈ wsX6_halt := by decide +kernel
  have hiX3 : ∀ w ∈ wsX30, w ∈ wsX6_halt := by decide +kernel
  have hiX6 : ∀ w ∈ wsX60, w ∈ wsX6_halt := by decide +kernel
  refine z_ofi (cc := cX6_halt) (maxL := 3) (own := RX6) (by decide) rfl (Nat.le_of_ble_eq_true rfl) rfl (fun p e s m below meth c ls hx hb hr hml hts hown hlk hl hK hP hS => ?_)
  have hl : lv_has ls 3 [(0, .ref (a 114)), (1, .int thread)] := hl
  refine lv_iload_n hx hb dX6_halt_0 rfl (lv_at hl 1 rfl) ?_
  refine z_cSi (As := [.int thread]) (rest := []) ⟨hx, hb, hml, hown, hts⟩ (ct_X6_isThread l D a ca hJ Z thread) (va_cwS 1 hts gX6_halt_X6_isThread rfl rfl rfl (by decide +kernel) ⟨Nat.le_of_ble_eq_true rfl, Nat.le_of_ble_eq_true rfl⟩) hK hP hS rfl hl.1 rfl (Nat.le_of_ble_eq_true rfl) dX6_halt_1 ⟨Nat.zero_le _, Nat.zero_le _⟩ (fun H locs hP hS => ?_)
  refine lv_if_ne (tgt := 10) hx hb dX6_halt_4 (by decide) (fun c4_1 => ?_) (fun c4_1 => ?_)
  · have bt := z_isThread c4_1
    refine lv_aload_n hx hb dX6_halt_10 rfl (lv_at hl 0 rfl) ?_
    have hP := zfoc_in (Z := Z) (k := 6) (M := Z 6) rfl hP
    refine zgb2 hx hb hts hiX6 hown hK hP  (hts (.fieldLink RX6 22 "BarrelProcessor" "history" "LBarrelProcessor$History;") (by decide +kernel)) dX6_halt_11 ?_
    refine lv_aload_n hx hb dX6_halt_14 rfl (lv_at hl 0 rfl) ?_
    refine zgb0' hx hb hts hiX6 hown hK hP  (hts (.fieldLink RX6 10 "BarrelProcessor" "machine" "LBarrelProcessor$Machine;") (by decide +kernel)) dX6_halt_15 ?_
    have hP := zfoc_out (Z := Z) (k := 6) rfl hP
    refine z_cVv (As := [.ref (a (19 * 0))]) (rest := []) ⟨hx, hb, hml, hown, hts⟩ (ct_remember2 l D a ca hJ Z hN hC hXR) (cwV 1 hts gX6_halt_X1_remember rfl rfl rfl (by decide +kernel) ⟨Nat.le_of_ble_eq_true rfl, Nat.le_of_ble_eq_true rfl⟩) hK hP hS (va_recv (ci := 1) hK.1 (zfoc_in (Z := Z) (k := 6) (M := Z 6) rfl hP) rfl zG_h) rfl hl.1 rfl (Nat.le_of_ble_eq_true rfl) dX6_halt_18 ⟨Nat.zero_le _, Nat.zero_le _⟩ (fun H locs hP hS => ?_)
    refine lv_aload_n hx hb dX6_halt_21 rfl (lv_at hl 0 rfl) ?_
    have hP := zfoc_in (Z := h_remember2 Z) (k := 6) (M := (h_remember2 Z) 6) rfl hP
    refine zgb0' hx hb hts hiX6 hown hK hP  (hts (.fieldLink RX6 10 "BarrelProcessor" "machine" "LBarrelProcessor$Machine;") (by decide +kernel)) dX6_halt_22 ?_
    have hP := zfoc_out (Z := h_remember2 Z) (k := 6) rfl hP
    have hP := zfoc_in (Z := h_remember2 Z) (k := 0) (M := (h_remember2 Z) 0) rfl hP
    refine znm0 hx hb hts hiX3 hown hK hP (by omega) (zn_RX6_69 hK) dX6_halt_25 ?_
    refine lv_iload_n hx hb dX6_halt_28 rfl (lv_at hl 1 rfl) ?_
    refine z_val (z := nI (zc thread)) bt.2 ?_
    refine z_aat hx hb hK hP (by omega) bt.1 dX6_halt_29 ?_
    refine znt1 hx hb hts hiX0 hown hK hP (by omega) bt.1 (zn_RX6_73 hK) dX6_halt_30 ?_
    refine lv_istore_n (lv' := [(2, .int (((h_remember2 Z) 0) 0 (zc thread))), (0, .ref (a 114)), (1, .int thread)]) hx hb dX6_halt_33 rfl hl (by decide) rfl (fun ls hl => ?_)
    refine lv_aload_n hx hb dX6_halt_34 rfl (lv_at hl 1 rfl) ?_
    have hP := zfoc_out (Z := h_remember2 Z) (k := 0) rfl hP
    have hP := zfoc_in (Z := h_remember2 Z) (k := 6) (M := (h_remember2 Z) 6) rfl hP
    refine zgb0' hx hb hts hiX6 hown hK hP  (hts (.fieldLink RX6 10 "BarrelProcessor" "machine" "LBarrelProcessor$Machine;") (by decide +kernel)) dX6_halt_35 ?_
    have hP := zfoc_out (Z := h_remember2 Z) (k := 6) rfl hP
    have hP := zfoc_in (Z := h_remember2 Z) (k := 0) (M := (h_remember2 Z) 0) rfl hP
    refine znm0 hx hb hts hiX3 hown hK hP (by omega) (zn_RX6_69 hK) dX6_halt_38 ?_
    refine lv_iload_n hx hb dX6_halt_41 rfl (lv_at hl 2 rfl) ?_
    refine z_val (z := nI (zc thread)) bt.2 ?_
    refine z_aat hx hb hK hP (by omega) bt.1 dX6_halt_42 ?_
    refine z_cVv (As := []) (rest := []) ⟨hx, hb, hml, hown, hts⟩ (ct_X0_haltNow l D a ca hJ (h_remember2 Z) 0 ((h_remember2 Z) 0) (zc thread) (by omega) bt.1) (cwV 0 hts gX6_halt_X0_haltNow rfl rfl rfl (by decide +kernel) ⟨Nat.le_of_ble_eq_true rfl, Nat.le_of_ble_eq_true rfl⟩) hK hP hS (va_recv (ci := 0) hK.1 hP rfl (zG_t (by omega) bt.1)) rfl hl.1 rfl (Nat.le_of_ble_eq_true rfl) dX6_halt_43 ⟨Nat.zero_le _, Nat.zero_le _⟩ (fun H locs hP hS => ?_)
    refine lv_iload_n hx hb dX6_halt_46 rfl (lv_at hl 0 rfl) ?_
    exact z_reti hx hb hr hlk rfl hP hS dX6_halt_47 (by simp only [g_halt2, if_neg c4_1]) (by simp only [h_halt2, if_neg c4_1])
  · refine lv_ldc (v := (-100001)) hx hb hown (hts (.constant RX6 37 (-100001)) (by decide +kernel)) dX6_halt_7 ?_
    exact z_reti hx hb hr hlk rfl hP hS dX6_halt_9 (by simp only [g_halt2, if_pos c4_1]) (by simp only [h_halt2, if_pos c4_1])

def g_setRegister2 (Z : Nat → zM) (thread : Int32) (register : Int32) (value : Int32) : Int32 := if (g_X6_isThread thread) = 0 then (-100001) else if (g_X6_isRegister register) = 0 then (-100001) else if (g_X6_isValue value) = 0 then (-100002) else (g_replace_rg (zc thread) (zc register) value ((h_remember2 Z) 0))
def h_setRegister2 (Z : Nat → zM) (thread : Int32) (register : Int32) (value : Int32) : Nat → zM := if (g_X6_isThread thread) = 0 then Z else if (g_X6_isRegister register) = 0 then Z else if (g_X6_isValue value) = 0 then Z else va_up (h_remember2 Z) 0 (h_replace_rg (zc thread) (zc register) value ((h_remember2 Z) 0))
set_option maxHeartbeats 4000000 in
set_option maxRecDepth 100000 in
theorem ct_setRegister2 (l : Launch) (D : va_G) (a : Nat → Nat) (ca : Nat → ClassId) (hJ : zJ a) (Z : Nat → zM) (thread : Int32) (register : Int32) (value : Int32) (hN : zIn (Z 6 0 0) 4) (hC : zIn (Z 6 0 1) 5) (hXR : ∀ k, k < 6 → xR (Z k)) : zCi l yX6_setRegister wsX6_setRegister ({ frames := 4, cells := 0, slots := 0, locals := 106 } : Room) D a ca [.ref (a 114), .int thread, .int register, .int value] (Z) (g_setRegister2 Z thread register value) (h_setRegister2 Z thread register value) := by
  have hiX0 : ∀ w ∈ wsX00, w ∈ wsX6_setRegister := by decide +kernel
  have hiX3 : ∀ w ∈ wsX30, w ∈ wsX6_setRegister := by decide +kernel
  have hiX6 : ∀ w ∈ wsX60, w ∈ wsX6_setRegister := by decide +kernel
  refine z_ofi (cc := cX6_setRegister) (maxL := 4) (own := RX6) (by decide) rfl (Nat.le_of_ble_eq_true rfl) rfl (fun p e s m below meth c ls hx hb hr hml hts hown hlk hl hK hP hS => ?_)
  have hl : lv_has ls 4 [(0, .ref (a 114)), (1, .int thread), (2, .int register), (3, .int value)] := hl
  refine lv_iload_n hx hb dX6_setRegister_0 rfl (lv_at hl 1 rfl) ?_
  refine z_cSi (As := [.int thread]) (rest := []) ⟨hx, hb, hml, hown, hts⟩ (ct_X6_isThread l D a ca hJ Z thread) (va_cwS 1 hts gX6_setRegister_X6_isThread rfl rfl rfl (by decide +kernel) ⟨Nat.le_of_ble_eq_true rfl, Nat.le_of_ble_eq_true rfl⟩) hK hP hS rfl hl.1 rfl (Nat.le_of_ble_eq_true rfl) dX6_setRegister_1 ⟨Nat.zero_le _, Nat.zero_le _⟩ (fun H locs hP hS => ?_)
  refine lv_if_eq (tgt := 14) hx hb dX6_setRegister_4 (by decide) (fun c4_1 => ?_) (fun c4_1 => ?_)
  · refine lv_ldc (v := (-100001)) hx hb hown (hts (.constant RX6 37 (-100001)) (by decide +kernel)) dX6_setRegister_14 ?_
    exact z_reti hx hb hr hlk rfl hP hS dX6_setRegister_16 (by simp only [g_setRegister2, if_pos c4_1]) (by simp only [h_setRegister2, if_pos c4_1])
  · have bt := z_isThread c4_1
    refine lv_iload_n hx hb dX6_setRegister_7 rfl (lv_at hl 2 rfl) ?_
    refine z_cSi (As := [.int register]) (rest := []) ⟨hx, hb, hml, hown, hts⟩ (ct_X6_isRegister l D a ca hJ Z register) (va_cwS 1 hts gX6_setRegister_X6_isRegister rfl rfl rfl (by decide +kernel) ⟨Nat.le_of_ble_eq_true rfl, Nat.le_of_ble_eq_true rfl⟩) hK hP hS rfl hl.1 rfl (Nat.le_of_ble_eq_true rfl) dX6_setRegister_8 ⟨Nat.zero_le _, Nat.zero_le _⟩ (fun H locs hP hS => ?_)
    refine lv_if_ne (tgt := 17) hx hb dX6_setRegister_11 (by decide) (fun c11_2 => ?_) (fun c11_2 => ?_)
    · have br := z_isRegister c11_2
      refine lv_iload_n hx hb dX6_setRegister_17 rfl (lv_at hl 3 rfl) ?_
      refine z_cSi (As := [.int value]) (rest := []) ⟨hx, hb, hml, hown, hts⟩ (ct_X6_isValue l D a ca hJ Z value) (va_cwS 1 hts gX6_setRegister_X6_isValue rfl rfl rfl (by decide +kernel) ⟨Nat.le_of_ble_eq_true rfl, Nat.le_of_ble_eq_true rfl⟩) hK hP hS rfl hl.1 rfl (Nat.le_of_ble_eq_true rfl) dX6_setRegister_18 ⟨Nat.zero_le _, Nat.zero_le _⟩ (fun H locs hP hS => ?_)
      refine lv_if_ne (tgt := 27) hx hb dX6_setRegister_21 (by decide) (fun c21_3 => ?_) (fun c21_3 => ?_)
      · refine lv_aload_n hx hb dX6_setRegister_27 rfl (lv_at hl 0 rfl) ?_
        have hP := zfoc_in (Z := Z) (k := 6) (M := Z 6) rfl hP
        refine zgb2 hx hb hts hiX6 hown hK hP  (hts (.fieldLink RX6 22 "BarrelProcessor" "history" "LBarrelProcessor$History;") (by decide +kernel)) dX6_setRegister_28 ?_
        refine lv_aload_n hx hb dX6_setRegister_31 rfl (lv_at hl 0 rfl) ?_
        refine zgb0' hx hb hts hiX6 hown hK hP  (hts (.fieldLink RX6 10 "BarrelProcessor" "machine" "LBarrelProcessor$Machine;") (by decide +kernel)) dX6_setRegister_32 ?_
        have hP := zfoc_out (Z := Z) (k := 6) rfl hP
        refine z_cVv (As := [.ref (a (19 * 0))]) (rest := []) ⟨hx, hb, hml, hown, hts⟩ (ct_remember2 l D a ca hJ Z hN hC hXR) (cwV 1 hts gX6_setRegister_X1_remember rfl rfl rfl (by decide +kernel) ⟨Nat.le_of_ble_eq_true rfl, Nat.le_of_ble_eq_true rfl⟩) hK hP hS (va_recv (ci := 1) hK.1 (zfoc_in (Z := Z) (k := 6) (M := Z 6) rfl hP) rfl zG_h) rfl hl.1 rfl (Nat.le_of_ble_eq_true rfl) dX6_setRegister_35 ⟨Nat.zero_le _, Nat.zero_le _⟩ (fun H locs hP hS => ?_)
        refine lv_aload_n hx hb dX6_setRegister_38 rfl (lv_at hl 0 rfl) ?_
        have hP := zfoc_in (Z := h_remember2 Z) (k := 6) (M := (h_remember2 Z) 6) rfl hP
        refine zgb0' hx hb hts hiX6 hown hK hP  (hts (.fieldLink RX6 10 "BarrelProcessor" "machine" "LBarrelProcessor$Machine;") (by decide +kernel)) dX6_setRegister_39 ?_
        have hP := zfoc_out (Z := h_remember2 Z) (k := 6) rfl hP
        have hP := zfoc_in (Z := h_remember2 Z) (k := 0) (M := (h_remember2 Z) 0) rfl hP
        refine znm0 hx hb hts hiX3 hown hK hP (by omega) (zn_RX6_69 hK) dX6_setRegister_42 ?_
        refine lv_iload_n hx hb dX6_setRegister_45 rfl (lv_at hl 1 rfl) ?_
        refine z_val (z := nI (zc thread)) bt.2 ?_
        refine z_aat hx hb hK hP (by omega) bt.1 dX6_setRegister_46 ?_
        refine znt0 hx hb hts hiX0 hown hK hP (by omega) bt.1 (zn_RX6_92 hK) dX6_setRegister_47 ?_
        refine lv_iload_n hx hb dX6_setRegister_50 rfl (lv_at hl 2 rfl) ?_
        refine z_val (z := nI (zc register)) br.2 ?_
        refine lv_iload_n hx hb dX6_setRegister_51 rfl (lv_at hl 3 rfl) ?_
        refine z_cSi (As := [.ref (a (19 * 0 + (6 + (zc thread)))), .int (nI (zc register)), .int value]) (rest := []) ⟨hx, hb, hml, hown, hts⟩ (ct_replace_rg l D a ca hJ (h_remember2 Z) ((h_remember2 Z) 0) (zc thread) bt.1 (zc register) br.1 value) (va_cwS 3 hts gX6_setRegister_X6_replace rfl rfl rfl (by decide +kernel) ⟨Nat.le_of_ble_eq_true rfl, Nat.le_of_ble_eq_true rfl⟩) hK hP hS rfl hl.1 rfl (Nat.le_of_ble_eq_true rfl) dX6_setRegister_52 ⟨Nat.zero_le _, Nat.zero_le _⟩ (fun H locs hP hS => ?_)
        exact z_reti hx hb hr hlk rfl hP hS dX6_setRegister_55 (by simp only [g_setRegister2, if_neg c4_1, if_neg c11_2, if_neg c21_3]) (by simp only [h_setRegister2, if_neg c4_1, if_neg c11_2, if_neg c21_3])
      · refine lv_ldc (v := (-100002)) hx hb hown (hts (.constant RX6 91 (-100002)) (by decide +kernel)) dX6_setRegister_24 ?_
        exact z_reti hx hb hr hlk rfl hP hS dX6_setRegister_26 (by simp only [g_setRegister2, if_neg c4_1, if_neg c11_2, if_pos c21_3]) (by simp only [h_setRegister2, if_neg c4_1, if_neg c11_2, if_pos c21_3])
    · refine lv_ldc (v := (-100001)) hx hb hown (hts (.constant RX6 37 (-100001)) (by decide +kernel)) dX6_setRegister_14 ?_
      exact z_reti hx hb hr hlk rfl hP hS dX6_setRegister_16 (by simp only [g_setRegister2, if_neg c4_1, if_pos c11_2]) (by simp only [h_setRegister2, if_neg c4_1, if_pos c11_2])

def g_setWord2 (Z : Nat → zM) (word : Int32) (value : Int32) : Int32 := if (g_X6_isWord word) = 0 then (-100001) else if (g_X6_isValue value) = 0 then (-100002) else (g_replace_wd (zc word) value ((h_remember2 Z) 0))
def h_setWord2 (Z : Nat → zM) (word : Int32) (value : Int32) : Nat → zM := if (g_X6_isWord word) = 0 then Z else if (g_X6_isValue value) = 0 then Z else va_up (h_remember2 Z) 0 (h_replace_wd (zc word) value ((h_remember2 Z) 0))
set_option maxHeartbeats 4000000 in
set_option maxRecDepth 100000 in
theorem ct_setWord2 (l : Launch) (D : va_G) (a : Nat → Nat) (ca : Nat → ClassId) (hJ : zJ a) (Z : Nat → zM) (word : Int32) (value : Int32) (hN : zIn (Z 6 0 0) 4) (hC : zIn (Z 6 0 1) 5) (hXR : ∀ k, k < 6 → xR (Z k)) : zCi l yX6_setWord wsX6_setWord ({ frames := 4, cells := 0, slots := 0, locals := 106 } : Room) D a ca [.ref (a 114), .int word, .int value] (Z) (g_setWord2 Z word value) (h_setWord2 Z word value) := by
  have hiX3 : ∀ w ∈ wsX30, w ∈ wsX6_setWord := by decide +kernel
  have hiX6 : ∀ w ∈ wsX60, w ∈ wsX6_setWord := by decide +kernel
  refine z_ofi (cc := cX6_setWord) (maxL := 3) (own := RX6) (by decide) rfl (Nat.le_of_ble_eq_true rfl) rfl (fun p e s m below meth c ls hx hb hr hml hts hown hlk hl hK hP hS => ?_)
  have hl : lv_has ls 3 [(0, .ref (a 114)), (1, .int word), (2, .int value)] := hl
  refine lv_iload_n hx hb dX6_setWord_0 rfl (lv_at hl 1 rfl) ?_
  refine z_cSi (As := [.int word]) (rest := []) ⟨hx, hb, hml, hown, hts⟩ (ct_X6_isWord l D a ca hJ Z word) (va_cwS 1 hts gX6_setWord_X6_isWord rfl rfl rfl (by decide +kernel) ⟨Nat.le_of_ble_eq_true rfl, Nat.le_of_ble_eq_true rfl⟩) hK hP hS rfl hl.1 rfl (Nat.le_of_ble_eq_true rfl) dX6_setWord_1 ⟨Nat.zero_le _, Nat.zero_le _⟩ (fun H locs hP hS => ?_)
  refine lv_if_ne (tgt := 10) hx hb dX6_setWord_4 (by decide) (fun c4_1 => ?_) (fun c4_1 => ?_)
  · have bt := z_isWord c4_1
    refine lv_iload_n hx hb dX6_setWord_10 rfl (lv_at hl 2 rfl) ?_
    refine z_cSi (As := [.int value]) (rest := []) ⟨hx, hb, hml, hown, hts⟩ (ct_X6_isValue l D a ca hJ Z value) (va_cwS 1 hts gX6_setWord_X6_isValue rfl rfl rfl (by decide +kernel) ⟨Nat.le_of_ble_eq_true rfl, Nat.le_of_ble_eq_true rfl⟩) hK hP hS rfl hl.1 rfl (Nat.le_of_ble_eq_true rfl) dX6_setWord_11 ⟨Nat.zero_le _, Nat.zero_le _⟩ (fun H locs hP hS => ?_)
    refine lv_if_ne (tgt := 20) hx hb dX6_setWord_14 (by decide) (fun c14_2 => ?_) (fun c14_2 => ?_)
    · refine lv_aload_n hx hb dX6_setWord_20 rfl (lv_at hl 0 rfl) ?_
      have hP := zfoc_in (Z := Z) (k := 6) (M := Z 6) rfl hP
      refine zgb2 hx hb hts hiX6 hown hK hP  (hts (.fieldLink RX6 22 "BarrelProcessor" "history" "LBarrelProcessor$History;") (by decide +kernel)) dX6_setWord_21 ?_
      refine lv_aload_n hx hb dX6_setWord_24 rfl (lv_at hl 0 rfl) ?_
      refine zgb0' hx hb hts hiX6 hown hK hP  (hts (.fieldLink RX6 10 "BarrelProcessor" "machine" "LBarrelProcessor$Machine;") (by decide +kernel)) dX6_setWord_25 ?_
      have hP := zfoc_out (Z := Z) (k := 6) rfl hP
      refine z_cVv (As := [.ref (a (19 * 0))]) (rest := []) ⟨hx, hb, hml, hown, hts⟩ (ct_remember2 l D a ca hJ Z hN hC hXR) (cwV 1 hts gX6_setWord_X1_remember rfl rfl rfl (by decide +kernel) ⟨Nat.le_of_ble_eq_true rfl, Nat.le_of_ble_eq_true rfl⟩) hK hP hS (va_recv (ci := 1) hK.1 (zfoc_in (Z := Z) (k := 6) (M := Z 6) rfl hP) rfl zG_h) rfl hl.1 rfl (Nat.le_of_ble_eq_true rfl) dX6_setWord_28 ⟨Nat.zero_le _, Nat.zero_le _⟩ (fun H locs hP hS => ?_)
      refine lv_aload_n hx hb dX6_setWord_31 rfl (lv_at hl 0 rfl) ?_
      have hP := zfoc_in (Z := h_remember2 Z) (k := 6) (M := (h_remember2 Z) 6) rfl hP
      refine zgb0' hx hb hts hiX6 hown hK hP  (hts (.fieldLink RX6 10 "BarrelProcessor" "machine" "LBarrelProcessor$Machine;") (by decide +kernel)) dX6_setWord_32 ?_
      have hP := zfoc_out (Z := h_remember2 Z) (k := 6) rfl hP
      have hP := zfoc_in (Z := h_remember2 Z) (k := 0) (M := (h_remember2 Z) 0) rfl hP
      refine znm3 hx hb hts hiX3 hown hK hP (by omega) (zn_RX6_103 hK) dX6_setWord_35 ?_
      refine lv_iload_n hx hb dX6_setWord_38 rfl (lv_at hl 1 rfl) ?_
      refine z_val (z := nI (zc word)) bt.2 ?_
      refine lv_iload_n hx hb dX6_setWord_39 rfl (lv_at hl 2 rfl) ?_
      refine z_cSi (As := [.ref (a (19 * 0 + 14)), .int (nI (zc word)), .int value]) (rest := []) ⟨hx, hb, hml, hown, hts⟩ (ct_replace_wd l D a ca hJ (h_remember2 Z) ((h_remember2 Z) 0) (zc word) bt.1 value) (va_cwS 3 hts gX6_setWord_X6_replace rfl rfl rfl (by decide +kernel) ⟨Nat.le_of_ble_eq_true rfl, Nat.le_of_ble_eq_true rfl⟩) hK hP hS rfl hl.1 rfl (Nat.le_of_ble_eq_true rfl) dX6_setWord_40 ⟨Nat.zero_le _, Nat.zero_le _⟩ (fun H locs hP hS => ?_)
      exact z_reti hx hb hr hlk rfl hP hS dX6_setWord_43 (by simp only [g_setWord2, if_neg c4_1, if_neg c14_2]) (by simp only [h_setWord2, if_neg c4_1, if_neg c14_2])
    · refine lv_ldc (v := (-100002)) hx hb hown (hts (.constant RX6 91 (-100002)) (by decide +kernel)) dX6_setWord_17 ?_
      exact z_reti hx hb hr hlk rfl hP hS dX6_setWord_19 (by simp only [g_setWord2, if_neg c4_1, if_pos c14_2]) (by simp only [h_setWord2, if_neg c4_1, if_pos c14_2])
  · refine lv_ldc (v := (-100001)) hx hb hown (hts (.constant RX6 37 (-100001)) (by decide +kernel)) dX6_setWord_7 ?_
    exact z_reti hx hb hr hlk rfl hP hS dX6_setWord_9 (by simp only [g_setWord2, if_pos c4_1]) (by simp only [h_setWord2, if_pos c4_1])

def g_setSlot2 (Z : Nat → zM) (slot : Int32) (thread : Int32) : Int32 := if (g_X6_isSlot slot) = 0 then (-100001) else if (g_X6_isThread thread) = 0 then (-100001) else (g_replace_sl (zc slot) thread ((h_remember2 Z) 0))
def h_setSlot2 (Z : Nat → zM) (slot : Int32) (thread : Int32) : Nat → zM := if (g_X6_isSlot slot) = 0 then Z else if (g_X6_isThread thread) = 0 then Z else va_up (h_remember2 Z) 0 (h_replace_sl (zc slot) thread ((h_remember2 Z) 0))
set_option maxHeartbeats 4000000 in
set_option maxRecDepth 100000 in
theorem ct_setSlot2 (l : Launch) (D : va_G) (a : Nat → Nat) (ca : Nat → ClassId) (hJ : zJ a) (Z : Nat → zM) (slot : Int32) (thread : Int32) (hN : zIn (Z 6 0 0) 4) (hC : zIn (Z 6 0 1) 5) (hXR : ∀ k, k < 6 → xR (Z k)) : zCi l yX6_setSlot wsX6_setSlot ({ frames := 4, cells := 0, slots := 0, locals := 106 } : Room) D a ca [.ref (a 114), .int slot, .int thread] (Z) (g_setSlot2 Z slot thread) (h_setSlot2 Z slot thread) := by
  have hiX3 : ∀ w ∈ wsX30, w ∈ wsX6_setSlot := by decide +kernel
  have hiX6 : ∀ w ∈ wsX60, w ∈ wsX6_setSlot := by decide +kernel
  refine z_ofi (cc := cX6_setSlot) (maxL := 3) (own := RX6) (by decide) rfl (Nat.le_of_ble_eq_true rfl) rfl (fun p e s m below meth c ls hx hb hr hml hts hown hlk hl hK hP hS => ?_)
  have hl : lv_has ls 3 [(0, .ref (a 114)), (1, .int slot), (2, .int thread)] := hl
  refine lv_iload_n hx hb dX6_setSlot_0 rfl (lv_at hl 1 rfl) ?_
  refine z_cSi (As := [.int slot]) (rest := []) ⟨hx, hb, hml, hown, hts⟩ (ct_X6_isSlot l D a ca hJ Z slot) (va_cwS 1 hts gX6_setSlot_X6_isSlot rfl rfl rfl (by decide +kernel) ⟨Nat.le_of_ble_eq_true rfl, Nat.le_of_ble_eq_true rfl⟩) hK hP hS rfl hl.1 rfl (Nat.le_of_ble_eq_true rfl) dX6_setSlot_1 ⟨Nat.zero_le _, Nat.zero_le _⟩ (fun H locs hP hS => ?_)
  refine lv_if_eq (tgt := 14) hx hb dX6_setSlot_4 (by decide) (fun c4_1 => ?_) (fun c4_1 => ?_)
  · refine lv_ldc (v := (-100001)) hx hb hown (hts (.constant RX6 37 (-100001)) (by decide +kernel)) dX6_setSlot_14 ?_
    exact z_reti hx hb hr hlk rfl hP hS dX6_setSlot_16 (by simp only [g_setSlot2, if_pos c4_1]) (by simp only [h_setSlot2, if_pos c4_1])
  · have bt := z_isSlot c4_1
    refine lv_iload_n hx hb dX6_setSlot_7 rfl (lv_at hl 2 rfl) ?_
    refine z_cSi (As := [.int thread]) (rest := []) ⟨hx, hb, hml, hown, hts⟩ (ct_X6_isThread l D a ca hJ Z thread) (va_cwS 1 hts gX6_setSlot_X6_isThread rfl rfl rfl (by decide +kernel) ⟨Nat.le_of_ble_eq_true rfl, Nat.le_of_ble_eq_true rfl⟩) hK hP hS rfl hl.1 rfl (Nat.le_of_ble_eq_true rfl) dX6_setSlot_8 ⟨Nat.zero_le _, Nat.zero_le _⟩ (fun H locs hP hS => ?_)
    refine lv_if_ne (tgt := 17) hx hb dX6_setSlot_11 (by decide) (fun c11_2 => ?_) (fun c11_2 => ?_)
    · refine lv_aload_n hx hb dX6_setSlot_17 rfl (lv_at hl 0 rfl) ?_
      have hP := zfoc_in (Z := Z) (k := 6) (M := Z 6) rfl hP
      refine zgb2 hx hb hts hiX6 hown hK hP  (hts (.fieldLink RX6 22 "BarrelProcessor" "history" "LBarrelProcessor$History;") (by decide +kernel)) dX6_setSlot_18 ?_
      refine lv_aload_n hx hb dX6_setSlot_21 rfl (lv_at hl 0 rfl) ?_
      refine zgb0' hx hb hts hiX6 hown hK hP  (hts (.fieldLink RX6 10 "BarrelProcessor" "machine" "LBarrelProcessor$Machine;") (by decide +kernel)) dX6_setSlot_22 ?_
      have hP := zfoc_out (Z := Z) (k := 6) rfl hP
      refine z_cVv (As := [.ref (a (19 * 0))]) (rest := []) ⟨hx, hb, hml, hown, hts⟩ (ct_remember2 l D a ca hJ Z hN hC hXR) (cwV 1 hts gX6_setSlot_X1_remember rfl rfl rfl (by decide +kernel) ⟨Nat.le_of_ble_eq_true rfl, Nat.le_of_ble_eq_true rfl⟩) hK hP hS (va_recv (ci := 1) hK.1 (zfoc_in (Z := Z) (k := 6) (M := Z 6) rfl hP) rfl zG_h) rfl hl.1 rfl (Nat.le_of_ble_eq_true rfl) dX6_setSlot_25 ⟨Nat.zero_le _, Nat.zero_le _⟩ (fun H locs hP hS => ?_)
      refine lv_aload_n hx hb dX6_setSlot_28 rfl (lv_at hl 0 rfl) ?_
      have hP := zfoc_in (Z := h_remember2 Z) (k := 6) (M := (h_remember2 Z) 6) rfl hP
      refine zgb0' hx hb hts hiX6 hown hK hP  (hts (.fieldLink RX6 10 "BarrelProcessor" "machine" "LBarrelProcessor$Machine;") (by decide +kernel)) dX6_setSlot_29 ?_
      have hP := zfoc_out (Z := h_remember2 Z) (k := 6) rfl hP
      have hP := zfoc_in (Z := h_remember2 Z) (k := 0) (M := (h_remember2 Z) 0) rfl hP
      refine znm4 hx hb hts hiX3 hown hK hP (by omega) (zn_RX6_109 hK) dX6_setSlot_32 ?_
      refine lv_iload_n hx hb dX6_setSlot_35 rfl (lv_at hl 1 rfl) ?_
      refine z_val (z := nI (zc slot)) bt.2 ?_
      refine lv_iload_n hx hb dX6_setSlot_36 rfl (lv_at hl 2 rfl) ?_
      refine z_cSi (As := [.ref (a (19 * 0 + 15)), .int (nI (zc slot)), .int thread]) (rest := []) ⟨hx, hb, hml, hown, hts⟩ (ct_replace_sl l D a ca hJ (h_remember2 Z) ((h_remember2 Z) 0) (zc slot) bt.1 thread) (va_cwS 3 hts gX6_setSlot_X6_replace rfl rfl rfl (by decide +kernel) ⟨Nat.le_of_ble_eq_true rfl, Nat.le_of_ble_eq_true rfl⟩) hK hP hS rfl hl.1 rfl (Nat.le_of_ble_eq_true rfl) dX6_setSlot_37 ⟨Nat.zero_le _, Nat.zero_le _⟩ (fun H locs hP hS => ?_)
      exact z_reti hx hb hr hlk rfl hP hS dX6_setSlot_40 (by simp only [g_setSlot2, if_neg c4_1, if_neg c11_2]) (by simp only [h_setSlot2, if_neg c4_1, if_neg c11_2])
    · refine lv_ldc (v := (-100001)) hx hb hown (hts (.constant RX6 37 (-100001)) (by decide +kernel)) dX6_setSlot_14 ?_
      exact z_reti hx hb hr hlk rfl hP hS dX6_setSlot_16 (by simp only [g_setSlot2, if_neg c4_1, if_pos c11_2]) (by simp only [h_setSlot2, if_neg c4_1, if_pos c11_2])

def g_set2 (Z : Nat → zM) (setting : Int32) (value : Int32) : Int32 := if (g_X6_isSetting setting) = 0 then (-100001) else if setting = 0 then if (g_X6_isWithin value (nI 0) (nI 20)) = 0 then (-100002) else (g_replace_se (zc setting) value ((h_remember2 Z) 0)) else if (g_X6_isWithin value (nI 0) (nI 2)) = 0 then (-100002) else (g_replace_se (zc setting) value ((h_remember2 Z) 0))
def h_set2 (Z : Nat → zM) (setting : Int32) (value : Int32) : Nat → zM := if (g_X6_isSetting setting) = 0 then Z else if setting = 0 then if (g_X6_isWithin value (nI 0) (nI 20)) = 0 then Z else va_up (h_remember2 Z) 0 (h_replace_se (zc setting) value ((h_remember2 Z) 0)) else if (g_X6_isWithin value (nI 0) (nI 2)) = 0 then Z else va_up (h_remember2 Z) 0 (h_replace_se (zc setting) value ((h_remember2 Z) 0))
set_option maxHeartbeats 4000000 in
set_option maxRecDepth 100000 in
theorem ct_set2 (l : Launch) (D : va_G) (a : Nat → Nat) (ca : Nat → ClassId) (hJ : zJ a) (Z : Nat → zM) (setting : Int32) (value : Int32) (hN : zIn (Z 6 0 0) 4) (hC : zIn (Z 6 0 1) 5) (hXR : ∀ k, k < 6 → xR (Z k)) : zCi l yX6_set wsX6_set ({ frames := 4, cells := 0, slots := 0, locals := 106 } : Room) D a ca [.ref (a 114), .int setting, .int value] (Z) (g_set2 Z setting value) (h_set2 Z setting value) := by
  have hiX3 : ∀ w ∈ wsX30, w ∈ wsX6_set := by decide +kernel
  have hiX6 : ∀ w ∈ wsX60, w ∈ wsX6_set := by decide +kernel
  refine z_ofi (cc := cX6_set) (maxL := 3) (own := RX6) (by decide) rfl (Nat.le_of_ble_eq_true rfl) rfl (fun p e s m below meth c ls hx hb hr hml hts hown hlk hl hK hP hS => ?_)
  have hl : lv_has ls 3 [(0, .ref (a 114)), (1, .int setting), (2, .int value)] := hl
  refine lv_iload_n hx hb dX6_set_0 rfl (lv_at hl 1 rfl) ?_
  refine z_cSi (As := [.int setting]) (rest := []) ⟨hx, hb, hml, hown, hts⟩ (ct_X6_isSetting l D a ca hJ Z setting) (va_cwS 1 hts gX6_set_X6_isSetting rfl rfl rfl (by decide +kernel) ⟨Nat.le_of_ble_eq_true rfl, Nat.le_of_ble_eq_true rfl⟩) hK hP hS rfl hl.1 rfl (Nat.le_of_ble_eq_true rfl) dX6_set_1 ⟨Nat.zero_le _, Nat.zero_le _⟩ (fun H locs hP hS => ?_)
  refine lv_if_ne (tgt := 10) hx hb dX6_set_4 (by decide) (fun c4_1 => ?_) (fun c4_1 => ?_)
  · have bt := z_isSetting c4_1
    refine lv_iload_n hx hb dX6_set_10 rfl (lv_at hl 2 rfl) ?_
    refine lv_iconst (v := nI 0) hx hb dX6_set_11 (by decide) ?_
    refine lv_iload_n hx hb dX6_set_12 rfl (lv_at hl 1 rfl) ?_
    refine lv_if_ne (tgt := 21) hx hb dX6_set_13 (by decide) (fun c13_2 => ?_) (fun c13_2 => ?_)
    · refine lv_iconst (v := nI 2) hx hb dX6_set_21 (by decide) ?_
      refine z_cSi (As := [.int value, .int (nI 0), .int (nI 2)]) (rest := []) ⟨hx, hb, hml, hown, hts⟩ (ct_X6_isWithin l D a ca hJ Z value (nI 0) (nI 2)) (va_cwS 3 hts gX6_set_X6_isWithin rfl rfl rfl (by decide +kernel) ⟨Nat.le_of_ble_eq_true rfl, Nat.le_of_ble_eq_true rfl⟩) hK hP hS rfl hl.1 rfl (Nat.le_of_ble_eq_true rfl) dX6_set_22 ⟨Nat.zero_le _, Nat.zero_le _⟩ (fun H locs hP hS => ?_)
      refine lv_if_ne (tgt := 31) hx hb dX6_set_25 (by decide) (fun c25_3 => ?_) (fun c25_3 => ?_)
      · refine lv_aload_n hx hb dX6_set_31 rfl (lv_at hl 0 rfl) ?_
        have hP := zfoc_in (Z := Z) (k := 6) (M := Z 6) rfl hP
        refine zgb2 hx hb hts hiX6 hown hK hP  (hts (.fieldLink RX6 22 "BarrelProcessor" "history" "LBarrelProcessor$History;") (by decide +kernel)) dX6_set_32 ?_
        refine lv_aload_n hx hb dX6_set_35 rfl (lv_at hl 0 rfl) ?_
        refine zgb0' hx hb hts hiX6 hown hK hP  (hts (.fieldLink RX6 10 "BarrelProcessor" "machine" "LBarrelProcessor$Machine;") (by decide +kernel)) dX6_set_36 ?_
        have hP := zfoc_out (Z := Z) (k := 6) rfl hP
        refine z_cVv (As := [.ref (a (19 * 0))]) (rest := []) ⟨hx, hb, hml, hown, hts⟩ (ct_remember2 l D a ca hJ Z hN hC hXR) (cwV 1 hts gX6_set_X1_remember rfl rfl rfl (by decide +kernel) ⟨Nat.le_of_ble_eq_true rfl, Nat.le_of_ble_eq_true rfl⟩) hK hP hS (va_recv (ci := 1) hK.1 (zfoc_in (Z := Z) (k := 6) (M := Z 6) rfl hP) rfl zG_h) rfl hl.1 rfl (Nat.le_of_ble_eq_true rfl) dX6_set_39 ⟨Nat.zero_le _, Nat.zero_le _⟩ (fun H locs hP hS => ?_)
        refine lv_aload_n hx hb dX6_set_42 rfl (lv_at hl 0 rfl) ?_
        have hP := zfoc_in (Z := h_remember2 Z) (k := 6) (M := (h_remember2 Z) 6) rfl hP
        refine zgb0' hx hb hts hiX6 hown hK hP  (hts (.fieldLink RX6 10 "BarrelProcessor" "machine" "LBarrelProcessor$Machine;") (by decide +kernel)) dX6_set_43 ?_
        have hP := zfoc_out (Z := h_remember2 Z) (k := 6) rfl hP
        have hP := zfoc_in (Z := h_remember2 Z) (k := 0) (M := (h_remember2 Z) 0) rfl hP
        refine znm5 hx hb hts hiX3 hown hK hP (by omega) (zn_RX6_119 hK) dX6_set_46 ?_
        refine lv_iload_n hx hb dX6_set_49 rfl (lv_at hl 1 rfl) ?_
        refine z_val (z := nI (zc setting)) bt.2 ?_
        refine lv_iload_n hx hb dX6_set_50 rfl (lv_at hl 2 rfl) ?_
        refine z_cSi (As := [.ref (a (19 * 0 + 16)), .int (nI (zc setting)), .int value]) (rest := []) ⟨hx, hb, hml, hown, hts⟩ (ct_replace_se l D a ca hJ (h_remember2 Z) ((h_remember2 Z) 0) (zc setting) bt.1 value) (va_cwS 3 hts gX6_set_X6_replace rfl rfl rfl (by decide +kernel) ⟨Nat.le_of_ble_eq_true rfl, Nat.le_of_ble_eq_true rfl⟩) hK hP hS rfl hl.1 rfl (Nat.le_of_ble_eq_true rfl) dX6_set_51 ⟨Nat.zero_le _, Nat.zero_le _⟩ (fun H locs hP hS => ?_)
        exact z_reti hx hb hr hlk rfl hP hS dX6_set_54 (by simp only [g_set2, if_neg c4_1, if_neg c13_2, if_neg c25_3]) (by simp only [h_set2, if_neg c4_1, if_neg c13_2, if_neg c25_3])
      · refine lv_ldc (v := (-100002)) hx hb hown (hts (.constant RX6 91 (-100002)) (by decide +kernel)) dX6_set_28 ?_
        exact z_reti hx hb hr hlk rfl hP hS dX6_set_30 (by simp only [g_set2, if_neg c4_1, if_neg c13_2, if_pos c25_3]) (by simp only [h_set2, if_neg c4_1, if_neg c13_2, if_pos c25_3])
    · refine lv_bipush (v := nI 20) hx hb dX6_set_16 (by decide) ?_
      refine lv_goto (tgt := 22) hx hb dX6_set_18 (by decide) ?_
      refine z_cSi (As := [.int value, .int (nI 0), .int (nI 20)]) (rest := []) ⟨hx, hb, hml, hown, hts⟩ (ct_X6_isWithin l D a ca hJ Z value (nI 0) (nI 20)) (va_cwS 3 hts gX6_set_X6_isWithin rfl rfl rfl (by decide +kernel) ⟨Nat.le_of_ble_eq_true rfl, Nat.le_of_ble_eq_true rfl⟩) hK hP hS rfl hl.1 rfl (Nat.le_of_ble_eq_true rfl) dX6_set_22 ⟨Nat.zero_le _, Nat.zero_le _⟩ (fun H locs hP hS => ?_)
      refine lv_if_ne (tgt := 31) hx hb dX6_set_25 (by decide) (fun c25_4 => ?_) (fun c25_4 => ?_)
      · refine lv_aload_n hx hb dX6_set_31 rfl (lv_at hl 0 rfl) ?_
        have hP := zfoc_in (Z := Z) (k := 6) (M := Z 6) rfl hP
        refine zgb2 hx hb hts hiX6 hown hK hP  (hts (.fieldLink RX6 22 "BarrelProcessor" "history" "LBarrelProcessor$History;") (by decide +kernel)) dX6_set_32 ?_
        refine lv_aload_n hx hb dX6_set_35 rfl (lv_at hl 0 rfl) ?_
        refine zgb0' hx hb hts hiX6 hown hK hP  (hts (.fieldLink RX6 10 "BarrelProcessor" "machine" "LBarrelProcessor$Machine;") (by decide +kernel)) dX6_set_36 ?_
        have hP := zfoc_out (Z := Z) (k := 6) rfl hP
        refine z_cVv (As := [.ref (a (19 * 0))]) (rest := []) ⟨hx, hb, hml, hown, hts⟩ (ct_remember2 l D a ca hJ Z hN hC hXR) (cwV 1 hts gX6_set_X1_remember rfl rfl rfl (by decide +kernel) ⟨Nat.le_of_ble_eq_true rfl, Nat.le_of_ble_eq_true rfl⟩) hK hP hS (va_recv (ci := 1) hK.1 (zfoc_in (Z := Z) (k := 6) (M := Z 6) rfl hP) rfl zG_h) rfl hl.1 rfl (Nat.le_of_ble_eq_true rfl) dX6_set_39 ⟨Nat.zero_le _, Nat.zero_le _⟩ (fun H locs hP hS => ?_)
        refine lv_aload_n hx hb dX6_set_42 rfl (lv_at hl 0 rfl) ?_
        have hP := zfoc_in (Z := h_remember2 Z) (k := 6) (M := (h_remember2 Z) 6) rfl hP
        refine zgb0' hx hb hts hiX6 hown hK hP  (hts (.fieldLink RX6 10 "BarrelProcessor" "machine" "LBarrelProcessor$Machine;") (by decide +kernel)) dX6_set_43 ?_
        have hP := zfoc_out (Z := h_remember2 Z) (k := 6) rfl hP
        have hP := zfoc_in (Z := h_remember2 Z) (k := 0) (M := (h_remember2 Z) 0) rfl hP
        refine znm5 hx hb hts hiX3 hown hK hP (by omega) (zn_RX6_119 hK) dX6_set_46 ?_
        refine lv_iload_n hx hb dX6_set_49 rfl (lv_at hl 1 rfl) ?_
        refine z_val (z := nI (zc setting)) bt.2 ?_
        refine lv_iload_n hx hb dX6_set_50 rfl (lv_at hl 2 rfl) ?_
        refine z_cSi (As := [.ref (a (19 * 0 + 16)), .int (nI (zc setting)), .int value]) (rest := []) ⟨hx, hb, hml, hown, hts⟩ (ct_replace_se l D a ca hJ (h_remember2 Z) ((h_remember2 Z) 0) (zc setting) bt.1 value) (va_cwS 3 hts gX6_set_X6_replace rfl rfl rfl (by decide +kernel) ⟨Nat.le_of_ble_eq_true rfl, Nat.le_of_ble_eq_true rfl⟩) hK hP hS rfl hl.1 rfl (Nat.le_of_ble_eq_true rfl) dX6_set_51 ⟨Nat.zero_le _, Nat.zero_le _⟩ (fun H locs hP hS => ?_)
        exact z_reti hx hb hr hlk rfl hP hS dX6_set_54 (by simp only [g_set2, if_neg c4_1, if_pos c13_2, if_neg c25_4]) (by simp only [h_set2, if_neg c4_1, if_pos c13_2, if_neg c25_4])
      · refine lv_ldc (v := (-100002)) hx hb hown (hts (.constant RX6 91 (-100002)) (by decide +kernel)) dX6_set_28 ?_
        exact z_reti hx hb hr hlk rfl hP hS dX6_set_30 (by simp only [g_set2, if_neg c4_1, if_pos c13_2, if_pos c25_4]) (by simp only [h_set2, if_neg c4_1, if_pos c13_2, if_pos c25_4])
  · refine lv_ldc (v := (-100001)) hx hb hown (hts (.constant RX6 37 (-100001)) (by decide +kernel)) dX6_set_7 ?_
    exact z_reti hx hb hr hlk rfl hP hS dX6_set_9 (by simp only [g_set2, if_pos c4_1]) (by simp only [h_set2, if_pos c4_1])

def g_setBreakpoint2 (Z : Nat → zM) (place : Int32) (isSet : Int32) : Int32 := if (g_X6_isPlace place) = 0 then (-100001) else if isSet = 0 then (g_X3_countBreakpoints (zu ((h_remember2 Z) 0) 12 (zc place) (nI 0))) else (g_X3_countBreakpoints (zu ((h_remember2 Z) 0) 12 (zc place) (nI 1)))
def h_setBreakpoint2 (Z : Nat → zM) (place : Int32) (isSet : Int32) : Nat → zM := if (g_X6_isPlace place) = 0 then Z else if isSet = 0 then va_up (h_remember2 Z) 0 (zu ((h_remember2 Z) 0) 12 (zc place) (nI 0)) else va_up (h_remember2 Z) 0 (zu ((h_remember2 Z) 0) 12 (zc place) (nI 1))
set_option maxHeartbeats 4000000 in
set_option maxRecDepth 100000 in
theorem ct_setBreakpoint2 (l : Launch) (D : va_G) (a : Nat → Nat) (ca : Nat → ClassId) (hJ : zJ a) (Z : Nat → zM) (place : Int32) (isSet : Int32) (hN : zIn (Z 6 0 0) 4) (hC : zIn (Z 6 0 1) 5) (hXR : ∀ k, k < 6 → xR (Z k)) : zCi l yX6_setBreakpoint wsX6_setBreakpoint ({ frames := 4, cells := 0, slots := 0, locals := 106 } : Room) D a ca [.ref (a 114), .int place, .int isSet] (Z) (g_setBreakpoint2 Z place isSet) (h_setBreakpoint2 Z place isSet) := by
  have hiX3 : ∀ w ∈ wsX30, w ∈ wsX6_setBreakpoint := by decide +kernel
  have hiX6 : ∀ w ∈ wsX60, w ∈ wsX6_setBreakpoint := by decide +kernel
  refine z_ofi (cc := cX6_setBreakpoint) (maxL := 3) (own := RX6) (by decide) rfl (Nat.le_of_ble_eq_true rfl) rfl (fun p e s m below meth c ls hx hb hr hml hts hown hlk hl hK hP hS => ?_)
  have hl : lv_has ls 3 [(0, .ref (a 114)), (1, .int place), (2, .int isSet)] := hl
  refine lv_iload_n hx hb dX6_setBreakpoint_0 rfl (lv_at hl 1 rfl) ?_
  refine z_cSi (As := [.int place]) (rest := []) ⟨hx, hb, hml, hown, hts⟩ (ct_X6_isPlace l D a ca hJ Z place) (va_cwS 1 hts gX6_setBreakpoint_X6_isPlace rfl rfl rfl (by decide +kernel) ⟨Nat.le_of_ble_eq_true rfl, Nat.le_of_ble_eq_true rfl⟩) hK hP hS rfl hl.1 rfl (Nat.le_of_ble_eq_true rfl) dX6_setBreakpoint_1 ⟨Nat.zero_le _, Nat.zero_le _⟩ (fun H locs hP hS => ?_)
  refine lv_if_ne (tgt := 10) hx hb dX6_setBreakpoint_4 (by decide) (fun c4_1 => ?_) (fun c4_1 => ?_)
  · have bp := z_isPlace c4_1
    refine lv_aload_n hx hb dX6_setBreakpoint_10 rfl (lv_at hl 0 rfl) ?_
    have hP := zfoc_in (Z := Z) (k := 6) (M := Z 6) rfl hP
    refine zgb2 hx hb hts hiX6 hown hK hP  (hts (.fieldLink RX6 22 "BarrelProcessor" "history" "LBarrelProcessor$History;") (by decide +kernel)) dX6_setBreakpoint_11 ?_
    refine lv_aload_n hx hb dX6_setBreakpoint_14 rfl (lv_at hl 0 rfl) ?_
    refine zgb0' hx hb hts hiX6 hown hK hP  (hts (.fieldLink RX6 10 "BarrelProcessor" "machine" "LBarrelProcessor$Machine;") (by decide +kernel)) dX6_setBreakpoint_15 ?_
    have hP := zfoc_out (Z := Z) (k := 6) rfl hP
    refine z_cVv (As := [.ref (a (19 * 0))]) (rest := []) ⟨hx, hb, hml, hown, hts⟩ (ct_remember2 l D a ca hJ Z hN hC hXR) (cwV 1 hts gX6_setBreakpoint_X1_remember rfl rfl rfl (by decide +kernel) ⟨Nat.le_of_ble_eq_true rfl, Nat.le_of_ble_eq_true rfl⟩) hK hP hS (va_recv (ci := 1) hK.1 (zfoc_in (Z := Z) (k := 6) (M := Z 6) rfl hP) rfl zG_h) rfl hl.1 rfl (Nat.le_of_ble_eq_true rfl) dX6_setBreakpoint_18 ⟨Nat.zero_le _, Nat.zero_le _⟩ (fun H locs hP hS => ?_)
    refine lv_aload_n hx hb dX6_setBreakpoint_21 rfl (lv_at hl 0 rfl) ?_
    have hP := zfoc_in (Z := h_remember2 Z) (k := 6) (M := (h_remember2 Z) 6) rfl hP
    refine zgb0' hx hb hts hiX6 hown hK hP  (hts (.fieldLink RX6 10 "BarrelProcessor" "machine" "LBarrelProcessor$Machine;") (by decide +kernel)) dX6_setBreakpoint_22 ?_
    have hP := zfoc_out (Z := h_remember2 Z) (k := 6) rfl hP
    have hP := zfoc_in (Z := h_remember2 Z) (k := 0) (M := (h_remember2 Z) 0) rfl hP
    refine znm2 hx hb hts hiX3 hown hK hP (by omega) (zn_RX6_122 hK) dX6_setBreakpoint_25 ?_
    refine lv_iload_n hx hb dX6_setBreakpoint_28 rfl (lv_at hl 1 rfl) ?_
    refine z_val (z := nI (zc place)) bp.2 ?_
    refine lv_iload_n hx hb dX6_setBreakpoint_29 rfl (lv_at hl 2 rfl) ?_
    refine lv_if_eq (tgt := 37) hx hb dX6_setBreakpoint_30 (by decide) (fun c30_2 => ?_) (fun c30_2 => ?_)
    · refine lv_iconst (v := nI 0) hx hb dX6_setBreakpoint_37 (by decide) ?_
      refine z_iast (Z' := va_up (h_remember2 Z) 0 (zu ((h_remember2 Z) 0) 12 (zc place) (nI 0))) hx hb hK hP hJ hS (zG_bk (by omega)) (j := zc place) bp.1 (by decide) dX6_setBreakpoint_38 (zS_bk (by omega)) (fun H locs hP hS => ?_)
      refine lv_aload_n hx hb dX6_setBreakpoint_39 rfl (lv_at hl 0 rfl) ?_
      have hP := zfoc_in (Z := va_up (h_remember2 Z) 0 (zu ((h_remember2 Z) 0) 12 (zc place) (nI 0))) (k := 6) (M := (h_remember2 Z) 6) (va_up_ne _ _ (by omega)).symm hP
      refine zgb0' hx hb hts hiX6 hown hK hP  (hts (.fieldLink RX6 10 "BarrelProcessor" "machine" "LBarrelProcessor$Machine;") (by decide +kernel)) dX6_setBreakpoint_40 ?_
      have hP := zfoc_out (Z := va_up (h_remember2 Z) 0 (zu ((h_remember2 Z) 0) 12 (zc place) (nI 0))) (k := 6) (va_up_ne _ _ (by omega)).symm hP
      refine z_cVi (As := []) (rest := []) ⟨hx, hb, hml, hown, hts⟩ (ct_X3_countBreakpoints l D a ca hJ (h_remember2 Z) 0 (zu ((h_remember2 Z) 0) 12 (zc place) (nI 0)) (by omega)) (cwV 0 hts gX6_setBreakpoint_X3_countBreakpoints rfl rfl rfl (by decide +kernel) ⟨Nat.le_of_ble_eq_true rfl, Nat.le_of_ble_eq_true rfl⟩) hK hP hS (va_recv (ci := 3) hK.1 hP rfl (zG_m (by omega))) rfl hl.1 rfl (Nat.le_of_ble_eq_true rfl) dX6_setBreakpoint_43 ⟨Nat.zero_le _, Nat.zero_le _⟩ (fun H locs hP hS => ?_)
      exact z_reti hx hb hr hlk rfl hP hS dX6_setBreakpoint_46 (by simp only [g_setBreakpoint2, if_neg c4_1, if_pos c30_2]) (by simp only [h_setBreakpoint2, if_neg c4_1, if_pos c30_2])
    · refine lv_iconst (v := nI 1) hx hb dX6_setBreakpoint_33 (by decide) ?_
      refine lv_goto (tgt := 38) hx hb dX6_setBreakpoint_34 (by decide) ?_
      refine z_iast (Z' := va_up (h_remember2 Z) 0 (zu ((h_remember2 Z) 0) 12 (zc place) (nI 1))) hx hb hK hP hJ hS (zG_bk (by omega)) (j := zc place) bp.1 (by decide) dX6_setBreakpoint_38 (zS_bk (by omega)) (fun H locs hP hS => ?_)
      refine lv_aload_n hx hb dX6_setBreakpoint_39 rfl (lv_at hl 0 rfl) ?_
      have hP := zfoc_in (Z := va_up (h_remember2 Z) 0 (zu ((h_remember2 Z) 0) 12 (zc place) (nI 1))) (k := 6) (M := (h_remember2 Z) 6) (va_up_ne _ _ (by omega)).symm hP
      refine zgb0' hx hb hts hiX6 hown hK hP  (hts (.fieldLink RX6 10 "BarrelProcessor" "machine" "LBarrelProcessor$Machine;") (by decide +kernel)) dX6_setBreakpoint_40 ?_
      have hP := zfoc_out (Z := va_up (h_remember2 Z) 0 (zu ((h_remember2 Z) 0) 12 (zc place) (nI 1))) (k := 6) (va_up_ne _ _ (by omega)).symm hP
      refine z_cVi (As := []) (rest := []) ⟨hx, hb, hml, hown, hts⟩ (ct_X3_countBreakpoints l D a ca hJ (h_remember2 Z) 0 (zu ((h_remember2 Z) 0) 12 (zc place) (nI 1)) (by omega)) (cwV 0 hts gX6_setBreakpoint_X3_countBreakpoints rfl rfl rfl (by decide +kernel) ⟨Nat.le_of_ble_eq_true rfl, Nat.le_of_ble_eq_true rfl⟩) hK hP hS (va_recv (ci := 3) hK.1 hP rfl (zG_m (by omega))) rfl hl.1 rfl (Nat.le_of_ble_eq_true rfl) dX6_setBreakpoint_43 ⟨Nat.zero_le _, Nat.zero_le _⟩ (fun H locs hP hS => ?_)
      exact z_reti hx hb hr hlk rfl hP hS dX6_setBreakpoint_46 (by simp only [g_setBreakpoint2, if_neg c4_1, if_neg c30_2]) (by simp only [h_setBreakpoint2, if_neg c4_1, if_neg c30_2])
  · refine lv_ldc (v := (-100001)) hx hb hown (hts (.constant RX6 37 (-100001)) (by decide +kernel)) dX6_setBreakpoint_7 ?_
    exact z_reti hx hb hr hlk rfl hP hS dX6_setBreakpoint_9 (by simp only [g_setBreakpoint2, if_pos c4_1]) (by simp only [h_setBreakpoint2, if_pos c4_1])

def g_run2 (Z : Nat → zM) (cycles : Int32) : Int32 := if (g_X6_isWithin cycles (nI 1) (nI 200)) = 0 then (-100002) else (g_X3_runToBreakpoint (zc cycles) ((h_remember2 Z) 0))
def h_run2 (Z : Nat → zM) (cycles : Int32) : Nat → zM := if (g_X6_isWithin cycles (nI 1) (nI 200)) = 0 then Z else va_up (h_remember2 Z) 0 (h_X3_runToBreakpoint (zc cycles) ((h_remember2 Z) 0))
set_option maxHeartbeats 4000000 in
set_option maxRecDepth 100000 in
theorem ct_run2 (l : Launch) (D : va_G) (a : Nat → Nat) (ca : Nat → ClassId) (hJ : zJ a) (Z : Nat → zM) (cycles : Int32) (hN : zIn (Z 6 0 0) 4) (hC : zIn (Z 6 0 1) 5) (hXR : ∀ k, k < 6 → xR (Z k)) (hI : zOK (Z 0)) : zCi l yX6_run wsX6_run ({ frames := 5, cells := 0, slots := 0, locals := 118 } : Room) D a ca [.ref (a 114), .int cycles] (Z) (g_run2 Z cycles) (h_run2 Z cycles) := by
  have hiX6 : ∀ w ∈ wsX60, w ∈ wsX6_run := by decide +kernel
  refine z_ofi (cc := cX6_run) (maxL := 2) (own := RX6) (by decide) rfl (Nat.le_of_ble_eq_true rfl) rfl (fun p e s m below meth c ls hx hb hr hml hts hown hlk hl hK hP hS => ?_)
  have hl : lv_has ls 2 [(0, .ref (a 114)), (1, .int cycles)] := hl
  refine lv_iload_n hx hb dX6_run_0 rfl (lv_at hl 1 rfl) ?_
  refine lv_iconst (v := nI 1) hx hb dX6_run_1 (by decide) ?_
  refine lv_sipush (v := nI 200) hx hb dX6_run_2 (by decide) ?_
  refine z_cSi (As := [.int cycles, .int (nI 1), .int (nI 200)]) (rest := []) ⟨hx, hb, hml, hown, hts⟩ (ct_X6_isWithin l D a ca hJ Z cycles (nI 1) (nI 200)) (va_cwS 3 hts gX6_run_X6_isWithin rfl rfl rfl (by decide +kernel) ⟨Nat.le_of_ble_eq_true rfl, Nat.le_of_ble_eq_true rfl⟩) hK hP hS rfl hl.1 rfl (Nat.le_of_ble_eq_true rfl) dX6_run_5 ⟨Nat.zero_le _, Nat.zero_le _⟩ (fun H locs hP hS => ?_)
  refine lv_if_ne (tgt := 14) hx hb dX6_run_8 (by decide) (fun c8_1 => ?_) (fun c8_1 => ?_)
  · have bm := z_run c8_1
    refine lv_aload_n hx hb dX6_run_14 rfl (lv_at hl 0 rfl) ?_
    have hP := zfoc_in (Z := Z) (k := 6) (M := Z 6) rfl hP
    refine zgb2 hx hb hts hiX6 hown hK hP  (hts (.fieldLink RX6 22 "BarrelProcessor" "history" "LBarrelProcessor$History;") (by decide +kernel)) dX6_run_15 ?_
    refine lv_aload_n hx hb dX6_run_18 rfl (lv_at hl 0 rfl) ?_
    refine zgb0' hx hb hts hiX6 hown hK hP  (hts (.fieldLink RX6 10 "BarrelProcessor" "machine" "LBarrelProcessor$Machine;") (by decide +kernel)) dX6_run_19 ?_
    have hP := zfoc_out (Z := Z) (k := 6) rfl hP
    refine z_cVv (As := [.ref (a (19 * 0))]) (rest := []) ⟨hx, hb, hml, hown, hts⟩ (ct_remember2 l D a ca hJ Z hN hC hXR) (cwV 1 hts gX6_run_X1_remember rfl rfl rfl (by decide +kernel) ⟨Nat.le_of_ble_eq_true rfl, Nat.le_of_ble_eq_true rfl⟩) hK hP hS (va_recv (ci := 1) hK.1 (zfoc_in (Z := Z) (k := 6) (M := Z 6) rfl hP) rfl zG_h) rfl hl.1 rfl (Nat.le_of_ble_eq_true rfl) dX6_run_22 ⟨Nat.zero_le _, Nat.zero_le _⟩ (fun H locs hP hS => ?_)
    refine lv_aload_n hx hb dX6_run_25 rfl (lv_at hl 0 rfl) ?_
    have hP := zfoc_in (Z := h_remember2 Z) (k := 6) (M := (h_remember2 Z) 6) rfl hP
    refine zgb0' hx hb hts hiX6 hown hK hP  (hts (.fieldLink RX6 10 "BarrelProcessor" "machine" "LBarrelProcessor$Machine;") (by decide +kernel)) dX6_run_26 ?_
    refine lv_iload_n hx hb dX6_run_29 rfl (lv_at hl 1 rfl) ?_
    refine z_val (z := nI (zc cycles)) bm.2 ?_
    have hP := zfoc_out (Z := h_remember2 Z) (k := 6) rfl hP
    have hP := zfoc_in (Z := h_remember2 Z) (k := 0) (M := (h_remember2 Z) 0) rfl hP
    refine z_cVi (As := [.int (nI (zc cycles))]) (rest := []) ⟨hx, hb, hml, hown, hts⟩ (ct_X3_runToBreakpoint l D a ca hJ (h_remember2 Z) 0 ((h_remember2 Z) 0) (by omega) (zc cycles) (Nat.lt_trans bm.1 (by decide)) (by rw [rem2_0]; exact hI)) (cwV 1 hts gX6_run_X3_runToBreakpoint rfl rfl rfl (by decide +kernel) ⟨Nat.le_of_ble_eq_true rfl, Nat.le_of_ble_eq_true rfl⟩) hK hP hS (va_recv (ci := 3) hK.1 hP rfl (zG_m (by omega))) rfl hl.1 rfl (Nat.le_of_ble_eq_true rfl) dX6_run_30 ⟨Nat.zero_le _, Nat.zero_le _⟩ (fun H locs hP hS => ?_)
    exact z_reti hx hb hr hlk rfl hP hS dX6_run_33 (by simp only [g_run2, if_neg c8_1]) (by simp only [h_run2, if_neg c8_1])
  · refine lv_ldc (v := (-100002)) hx hb hown (hts (.constant RX6 91 (-100002)) (by decide +kernel)) dX6_run_11 ?_
    exact z_reti hx hb hr hlk rfl hP hS dX6_run_13 (by simp only [g_run2, if_pos c8_1]) (by simp only [h_run2, if_pos c8_1])

def g_undo2 (Z : Nat → zM) : Int32 := (g_restore2 Z)
def h_undo2 (Z : Nat → zM) : Nat → zM := h_restore2 Z
set_option maxHeartbeats 4000000 in
set_option maxRecDepth 100000 in
theorem ct_undo2 (l : Launch) (D : va_G) (a : Nat → Nat) (ca : Nat → ClassId) (hJ : zJ a) (Z : Nat → zM) (hN : zIn (Z 6 0 0) 4) (hC : zIn (Z 6 0 1) 5) (hXR : ∀ k, k < 6 → xR (Z k)) : zCi l yX6_undo wsX6_undo ({ frames := 4, cells := 0, slots := 0, locals := 106 } : Room) D a ca [.ref (a 114)] (Z) (g_undo2 Z) (h_undo2 Z) := by
  have hiX6 : ∀ w ∈ wsX60, w ∈ wsX6_undo := by decide +kernel
  refine z_ofi (cc := cX6_undo) (maxL := 1) (own := RX6) (by decide) rfl (Nat.le_of_ble_eq_true rfl) rfl (fun p e s m below meth c ls hx hb hr hml hts hown hlk hl hK hP hS => ?_)
  have hl : lv_has ls 1 [(0, .ref (a 114))] := hl
  refine lv_aload_n hx hb dX6_undo_0 rfl (lv_at hl 0 rfl) ?_
  have hP := zfoc_in (Z := Z) (k := 6) (M := Z 6) rfl hP
  refine zgb2 hx hb hts hiX6 hown hK hP  (hts (.fieldLink RX6 22 "BarrelProcessor" "history" "LBarrelProcessor$History;") (by decide +kernel)) dX6_undo_1 ?_
  refine lv_aload_n hx hb dX6_undo_4 rfl (lv_at hl 0 rfl) ?_
  refine zgb0' hx hb hts hiX6 hown hK hP  (hts (.fieldLink RX6 10 "BarrelProcessor" "machine" "LBarrelProcessor$Machine;") (by decide +kernel)) dX6_undo_5 ?_
  have hP := zfoc_out (Z := Z) (k := 6) rfl hP
  refine z_cVi (As := [.ref (a (19 * 0))]) (rest := []) ⟨hx, hb, hml, hown, hts⟩ (ct_restore2 l D a ca hJ Z hN hC hXR) (cwV 1 hts gX6_undo_X1_restore rfl rfl rfl (by decide +kernel) ⟨Nat.le_of_ble_eq_true rfl, Nat.le_of_ble_eq_true rfl⟩) hK hP hS (va_recv (ci := 1) hK.1 (zfoc_in (Z := Z) (k := 6) (M := Z 6) rfl hP) rfl zG_h) rfl hl.1 rfl (Nat.le_of_ble_eq_true rfl) dX6_undo_8 ⟨Nat.zero_le _, Nat.zero_le _⟩ (fun H locs hP hS => ?_)
  exact z_reti hx hb hr hlk rfl hP hS dX6_undo_11 (by first | rfl | simp only [g_undo2]) (by first | rfl | simp only [h_undo2])
