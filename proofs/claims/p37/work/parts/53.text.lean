def xQ (n : Nat) (X : zM) : Prop := zIn (X 1 0) 101 ∧ zIn (X 1 1) 101 ∧ zIn (X 1 2) n ∧ zIn (X 1 3) 3
theorem xQ_c {n : Nat} {X : zM} {c : Nat} {f : Nat → Int32} (h1 : c ≠ 1) (h : xQ n X) : xQ n (zr X c f) := by
  unfold xQ
  rw [zr_n X f (Ne.symm h1)]
  exact h
theorem xQ_u {n : Nat} {X : zM} {c i : Nat} {x : Int32} (h1 : c ≠ 1) (h : xQ n X) : xQ n (zu X c i x) := xQ_c h1 h
theorem xQ_0 {n : Nat} {X : zM} {x : Int32} (hx : zIn x 101) (h : xQ n X) : xQ n (zu X 1 0 x) := by
  refine ⟨?_, ?_, ?_, ?_⟩
  · rw [zu_s]
    exact hx
  · rw [zu_i _ _ _ (by decide)]
    exact h.2.1
  · rw [zu_i _ _ _ (by decide)]
    exact h.2.2.1
  · rw [zu_i _ _ _ (by decide)]
    exact h.2.2.2
theorem xQ_1 {n : Nat} {X : zM} {x : Int32} (hx : zIn x 101) (h : xQ n X) : xQ n (zu X 1 1 x) := by
  refine ⟨?_, ?_, ?_, ?_⟩
  · rw [zu_i _ _ _ (by decide)]
    exact h.1
  · rw [zu_s]
    exact hx
  · rw [zu_i _ _ _ (by decide)]
    exact h.2.2.1
  · rw [zu_i _ _ _ (by decide)]
    exact h.2.2.2
theorem xQ_2 {n n' : Nat} {X : zM} {x : Int32} (hx : zIn x n') (h : xQ n X) : xQ n' (zu X 1 2 x) := by
  refine ⟨?_, ?_, ?_, ?_⟩
  · rw [zu_i _ _ _ (by decide)]
    exact h.1
  · rw [zu_i _ _ _ (by decide)]
    exact h.2.1
  · rw [zu_s]
    exact hx
  · rw [zu_i _ _ _ (by decide)]
    exact h.2.2.2
theorem xQ_3 {n : Nat} {X : zM} {x : Int32} (hx : zIn x 3) (h : xQ n X) : xQ n (zu X 1 3 x) := by
  refine ⟨?_, ?_, ?_, ?_⟩
  · rw [zu_i _ _ _ (by decide)]
    exact h.1
  · rw [zu_i _ _ _ (by decide)]
    exact h.2.1
  · rw [zu_i _ _ _ (by decide)]
    exact h.2.2.1
  · rw [zu_s]
    exact hx
theorem xQ_up {n n' : Nat} {X : zM} (h : xQ n X) (hn : n ≤ n') : xQ n' X := ⟨h.1, h.2.1, ⟨Nat.lt_of_lt_of_le h.2.2.1.1 hn, h.2.2.1.2⟩, h.2.2.2⟩
theorem xQ_in {X : zM} (h : xQ 51 X) (hc : zc (X 1 2) < 50) : xQ 50 X := ⟨h.1, h.2.1, ⟨hc, h.2.2.1.2⟩, h.2.2.2⟩
theorem x_pos {n : Nat} {X : zM} (h : xQ n X) (c : ¬ nI (zc (X 1 0)) ≤ nI (zc (X 1 1))) : zc (X 1 1) < zc (X 1 0) ∧ zc (X 1 1) < 100 := by
  have h1 := h.1.1
  have h2 := h.2.1.1
  have h3 : zc (X 1 1) < zc (X 1 0) := Nat.lt_of_not_le (fun q => c (nI_le q (by omega)))
  exact ⟨h3, by omega⟩
theorem x_posI {n : Nat} {X : zM} (h : xQ n X) (c : ¬ nI (zc (X 1 0)) ≤ nI (zc (X 1 1))) : zIn (nI (zc (X 1 1) + 1)) 101 := by
  have h1 := x_pos h c
  exact zIn_nI (by omega) (by decide)

def h_X4_add (ch : Int32)  (X : zM) : zM := if (nI 100) ≤ (nI (zc (X 1 0))) then X else zu (zu X 2 (zc (X 1 0)) (vp_nar .char ch)) 1 0 (nI (zc (X 1 0) + 1))
set_option maxHeartbeats 4000000 in
set_option maxRecDepth 100000 in
theorem ct_X4_add (l : Launch) (D : va_G) (a : Nat → Nat) (ca : Nat → ClassId) (hJ : zJ a) (Z : Nat → zM) (X : zM) (ch : Int32) (hX : xQ 51 X) : zCv l yX4_add wsX4_add ({ frames := 0, cells := 0, slots := 0, locals := 0 } : Room) D a ca [.ref (a 117), .int ch] (va_up Z 6 X) (va_up Z 6 (h_X4_add ch X)) := by
  have hiX4 : ∀ w ∈ wsX40, w ∈ wsX4_add := by decide +kernel
  refine z_ofv (cc := cX4_add) (maxL := 2) (own := RX4) (by decide) rfl (Nat.le_of_ble_eq_true rfl) rfl (fun p e s m below meth c ls hx hb hr hml hts hown hlk hl hK hP hS => ?_)
  have hl : lv_has ls 2 [(0, .ref (a 117)), (1, .int ch)] := hl
  refine lv_aload_n hx hb dX4_add_0 rfl (lv_at hl 0 rfl) ?_
  refine zgx1 hx hb hts hiX4 hown hK hP  (hts (.fieldLink RX4 22 "BarrelProcessor$Text" "length" "I") (by decide +kernel)) dX4_add_1 ?_
  refine z_val (z := nI (zc (X 1 0))) hX.1.2 ?_
  refine lv_bipush (v := nI 100) hx hb dX4_add_4 (by decide) ?_
  refine lv_icmp_ge (tgt := 29) hx hb dX4_add_6 (by decide) (fun c6_1 => ?_) (fun c6_1 => ?_)
  · exact z_retv hx hb hr hlk hP hS dX4_add_29 (congrArg (va_up Z 6) (by simp only [h_X4_add, if_pos c6_1]))
  · have bx : zc (X 1 0) < 100 := Nat.lt_of_not_le (fun q => c6_1 (nI_le q (by have h9 := hX.1.1; omega)))
    refine lv_aload_n hx hb dX4_add_9 rfl (lv_at hl 0 rfl) ?_
    refine zgx0 hx hb hts hiX4 hown hK hP  (hts (.fieldLink RX4 11 "BarrelProcessor$Text" "characters" "[C") (by decide +kernel)) dX4_add_10 ?_
    refine lv_aload_n hx hb dX4_add_13 rfl (lv_at hl 0 rfl) ?_
    refine zgx1 hx hb hts hiX4 hown hK hP  (hts (.fieldLink RX4 22 "BarrelProcessor$Text" "length" "I") (by decide +kernel)) dX4_add_14 ?_
    refine z_val (z := nI (zc (X 1 0))) hX.1.2 ?_
    refine lv_iload_n hx hb dX4_add_17 rfl (lv_at hl 1 rfl) ?_
    refine z_cast (Z' := va_up Z 6 (zu X 2 (zc (X 1 0)) (vp_nar .char ch))) hx hb hK hP hJ hS zG_ch (j := zc (X 1 0)) bx (by decide) dX4_add_18 zS_ch (fun H locs hP hS => ?_)
    refine lv_aload_n hx hb dX4_add_19 rfl (lv_at hl 0 rfl) ?_
    refine lv_dup hx hb dX4_add_20 rfl ?_
    refine zgx1 hx hb hts hiX4 hown hK hP  (hts (.fieldLink RX4 22 "BarrelProcessor$Text" "length" "I") (by decide +kernel)) dX4_add_21 ?_
    refine z_val (z := nI (zc (X 1 0))) hX.1.2 ?_
    refine lv_iconst (v := nI 1) hx hb dX4_add_24 (by decide) ?_
    refine lv_iadd hx hb dX4_add_25 ?_
    refine z_val (z := nI (zc (X 1 0) + 1)) (nI_add _ _) ?_
    refine zpx1 hx hb hts hiX4 hown hK hP hJ hS  (hts (.fieldLink RX4 22 "BarrelProcessor$Text" "length" "I") (by decide +kernel)) dX4_add_26 (fun H locs hP hS => ?_)
    exact z_retv hx hb hr hlk hP hS dX4_add_29 (congrArg (va_up Z 6) (by simp only [h_X4_add, if_neg c6_1]))

def g_X4_readSign (sign : Int32)  (X : zM) : Int32 := if (nI (zc (X 1 0))) ≤ (nI (zc (X 1 1))) then nI 0 else if (X 2 (zc (X 1 1))) = sign then nI 1 else nI 0
def h_X4_readSign (sign : Int32)  (X : zM) : zM := if (nI (zc (X 1 0))) ≤ (nI (zc (X 1 1))) then X else if (X 2 (zc (X 1 1))) = sign then zu X 1 1 (nI (zc (X 1 1) + 1)) else X
set_option maxHeartbeats 4000000 in
set_option maxRecDepth 100000 in
theorem ct_X4_readSign (l : Launch) (D : va_G) (a : Nat → Nat) (ca : Nat → ClassId) (hJ : zJ a) (Z : Nat → zM) (X : zM) (sign : Int32) (n : Nat) (hX : xQ n X) : zCi l yX4_readSign wsX4_readSign ({ frames := 0, cells := 0, slots := 0, locals := 0 } : Room) D a ca [.ref (a 117), .int sign] (va_up Z 6 X) (g_X4_readSign sign X) (va_up Z 6 (h_X4_readSign sign X)) := by
  have hiX4 : ∀ w ∈ wsX40, w ∈ wsX4_readSign := by decide +kernel
  refine z_ofi (cc := cX4_readSign) (maxL := 2) (own := RX4) (by decide) rfl (Nat.le_of_ble_eq_true rfl) rfl (fun p e s m below meth c ls hx hb hr hml hts hown hlk hl hK hP hS => ?_)
  have hl : lv_has ls 2 [(0, .ref (a 117)), (1, .int sign)] := hl
  refine lv_aload_n hx hb dX4_readSign_0 rfl (lv_at hl 0 rfl) ?_
  refine zgx2 hx hb hts hiX4 hown hK hP  (hts (.fieldLink RX4 26 "BarrelProcessor$Text" "position" "I") (by decide +kernel)) dX4_readSign_1 ?_
  refine z_val (z := nI (zc (X 1 1))) hX.2.1.2 ?_
  refine lv_aload_n hx hb dX4_readSign_4 rfl (lv_at hl 0 rfl) ?_
  refine zgx1 hx hb hts hiX4 hown hK hP  (hts (.fieldLink RX4 22 "BarrelProcessor$Text" "length" "I") (by decide +kernel)) dX4_readSign_5 ?_
  refine z_val (z := nI (zc (X 1 0))) hX.1.2 ?_
  refine lv_icmp_ge (tgt := 24) hx hb dX4_readSign_8 (by decide) (fun c8_1 => ?_) (fun c8_1 => ?_)
  · refine lv_iconst (v := nI 0) hx hb dX4_readSign_24 (by decide) ?_
    exact z_reti hx hb hr hlk (by first | rfl | decide) hP hS dX4_readSign_25 (by simp only [g_X4_readSign, if_pos c8_1]) (congrArg (va_up Z 6) (by simp only [h_X4_readSign, if_pos c8_1]))
  · have bx := c8_1
    refine lv_aload_n hx hb dX4_readSign_11 rfl (lv_at hl 0 rfl) ?_
    refine zgx0 hx hb hts hiX4 hown hK hP  (hts (.fieldLink RX4 11 "BarrelProcessor$Text" "characters" "[C") (by decide +kernel)) dX4_readSign_12 ?_
    refine lv_aload_n hx hb dX4_readSign_15 rfl (lv_at hl 0 rfl) ?_
    refine zgx2 hx hb hts hiX4 hown hK hP  (hts (.fieldLink RX4 26 "BarrelProcessor$Text" "position" "I") (by decide +kernel)) dX4_readSign_16 ?_
    refine z_val (z := nI (zc (X 1 1))) hX.2.1.2 ?_
    refine z_cald hx hb hK hP zG_ch (j := zc (X 1 1)) (by have h9 := x_pos hX bx; omega) (by decide) dX4_readSign_19 ?_
    refine lv_iload_n hx hb dX4_readSign_20 rfl (lv_at hl 1 rfl) ?_
    refine lv_icmp_eq (tgt := 26) hx hb dX4_readSign_21 (by decide) (fun c21_2 => ?_) (fun c21_2 => ?_)
    · refine lv_aload_n hx hb dX4_readSign_26 rfl (lv_at hl 0 rfl) ?_
      refine lv_dup hx hb dX4_readSign_27 rfl ?_
      refine zgx2 hx hb hts hiX4 hown hK hP  (hts (.fieldLink RX4 26 "BarrelProcessor$Text" "position" "I") (by decide +kernel)) dX4_readSign_28 ?_
      refine z_val (z := nI (zc (X 1 1))) hX.2.1.2 ?_
      refine lv_iconst (v := nI 1) hx hb dX4_readSign_31 (by decide) ?_
      refine lv_iadd hx hb dX4_readSign_32 ?_
      refine z_val (z := nI (zc (X 1 1) + 1)) (nI_add _ _) ?_
      refine zpx2 hx hb hts hiX4 hown hK hP hJ hS  (hts (.fieldLink RX4 26 "BarrelProcessor$Text" "position" "I") (by decide +kernel)) dX4_readSign_33 (fun H locs hP hS => ?_)
      refine lv_iconst (v := nI 1) hx hb dX4_readSign_36 (by decide) ?_
      exact z_reti hx hb hr hlk (by first | rfl | decide) hP hS dX4_readSign_37 (by simp only [g_X4_readSign, if_neg c8_1, if_pos c21_2]) (congrArg (va_up Z 6) (by simp only [h_X4_readSign, if_neg c8_1, if_pos c21_2]))
    · refine lv_iconst (v := nI 0) hx hb dX4_readSign_24 (by decide) ?_
      exact z_reti hx hb hr hlk (by first | rfl | decide) hP hS dX4_readSign_25 (by simp only [g_X4_readSign, if_neg c8_1, if_neg c21_2]) (congrArg (va_up Z 6) (by simp only [h_X4_readSign, if_neg c8_1, if_neg c21_2]))

def g_X4_isDigit (lowest : Int32) (highest : Int32)  (X : zM) : Int32 := if (nI (zc (X 1 0))) ≤ (nI (zc (X 1 1))) then nI 0 else if (g_X6_isWithin ((X 2 (zc (X 1 1))) - (nI 48)) lowest highest) = 0 then nI 0 else nI 1
set_option maxHeartbeats 4000000 in
set_option maxRecDepth 100000 in
theorem ct_X4_isDigit (l : Launch) (D : va_G) (a : Nat → Nat) (ca : Nat → ClassId) (hJ : zJ a) (Z : Nat → zM) (X : zM) (lowest : Int32) (highest : Int32) (n : Nat) (hX : xQ n X) : zCi l yX4_isDigit wsX4_isDigit ({ frames := 1, cells := 0, slots := 0, locals := 22 } : Room) D a ca [.ref (a 117), .int lowest, .int highest] (va_up Z 6 X) (g_X4_isDigit lowest highest X) (va_up Z 6 X) := by
  have hiX4 : ∀ w ∈ wsX40, w ∈ wsX4_isDigit := by decide +kernel
  refine z_ofi (cc := cX4_isDigit) (maxL := 3) (own := RX4) (by decide) rfl (Nat.le_of_ble_eq_true rfl) rfl (fun p e s m below meth c ls hx hb hr hml hts hown hlk hl hK hP hS => ?_)
  have hl : lv_has ls 3 [(0, .ref (a 117)), (1, .int lowest), (2, .int highest)] := hl
  refine lv_aload_n hx hb dX4_isDigit_0 rfl (lv_at hl 0 rfl) ?_
  refine zgx2 hx hb hts hiX4 hown hK hP  (hts (.fieldLink RX4 26 "BarrelProcessor$Text" "position" "I") (by decide +kernel)) dX4_isDigit_1 ?_
  refine z_val (z := nI (zc (X 1 1))) hX.2.1.2 ?_
  refine lv_aload_n hx hb dX4_isDigit_4 rfl (lv_at hl 0 rfl) ?_
  refine zgx1 hx hb hts hiX4 hown hK hP  (hts (.fieldLink RX4 22 "BarrelProcessor$Text" "length" "I") (by decide +kernel)) dX4_isDigit_5 ?_
  refine z_val (z := nI (zc (X 1 0))) hX.1.2 ?_
  refine lv_icmp_ge (tgt := 35) hx hb dX4_isDigit_8 (by decide) (fun c8_1 => ?_) (fun c8_1 => ?_)
  · refine lv_iconst (v := nI 0) hx hb dX4_isDigit_35 (by decide) ?_
    exact z_reti hx hb hr hlk (by first | rfl | decide) hP hS dX4_isDigit_36 (by simp only [g_X4_isDigit, if_pos c8_1]) rfl
  · have bx := c8_1
    refine lv_aload_n hx hb dX4_isDigit_11 rfl (lv_at hl 0 rfl) ?_
    refine zgx0 hx hb hts hiX4 hown hK hP  (hts (.fieldLink RX4 11 "BarrelProcessor$Text" "characters" "[C") (by decide +kernel)) dX4_isDigit_12 ?_
    refine lv_aload_n hx hb dX4_isDigit_15 rfl (lv_at hl 0 rfl) ?_
    refine zgx2 hx hb hts hiX4 hown hK hP  (hts (.fieldLink RX4 26 "BarrelProcessor$Text" "position" "I") (by decide +kernel)) dX4_isDigit_16 ?_
    refine z_val (z := nI (zc (X 1 1))) hX.2.1.2 ?_
    refine z_cald hx hb hK hP zG_ch (j := zc (X 1 1)) (by have h9 := x_pos hX bx; omega) (by decide) dX4_isDigit_19 ?_
    refine lv_bipush (v := nI 48) hx hb dX4_isDigit_20 (by decide) ?_
    refine lv_isub hx hb dX4_isDigit_22 ?_
    refine lv_iload_n hx hb dX4_isDigit_23 rfl (lv_at hl 1 rfl) ?_
    refine lv_iload_n hx hb dX4_isDigit_24 rfl (lv_at hl 2 rfl) ?_
    refine z_cNi (As := [.int ((X 2 (zc (X 1 1))) - (nI 48)), .int lowest, .int highest]) (rest := []) ⟨hx, hb, hml, hown, hts⟩ (ct_X6_isWithin l D a ca hJ (va_up Z 6 X) ((X 2 (zc (X 1 1))) - (nI 48)) lowest highest) ⟨va_cnB 3 hts gX4_isDigit_X6_isWithin_n76 rfl rfl rfl (zn_RX4_76 hK) (hts (.initialized RX6) (by decide +kernel)) (by decide +kernel) ⟨Nat.le_of_ble_eq_true rfl, Nat.le_of_ble_eq_true rfl⟩, hts (.static yX6_isWithin) (by decide +kernel), trivial⟩ hK hP hS rfl hl.1 rfl (Nat.le_of_ble_eq_true rfl) dX4_isDigit_25 ⟨Nat.zero_le _, Nat.zero_le _⟩ (fun H locs hP hS => ?_)
    refine lv_if_eq (tgt := 35) hx hb dX4_isDigit_28 (by decide) (fun c28_2 => ?_) (fun c28_2 => ?_)
    · refine lv_iconst (v := nI 0) hx hb dX4_isDigit_35 (by decide) ?_
      exact z_reti hx hb hr hlk (by first | rfl | decide) hP hS dX4_isDigit_36 (by simp only [g_X4_isDigit, if_neg c8_1, if_pos c28_2]) rfl
    · refine lv_iconst (v := nI 1) hx hb dX4_isDigit_31 (by decide) ?_
      refine lv_goto (tgt := 36) hx hb dX4_isDigit_32 (by decide) ?_
      exact z_reti hx hb hr hlk (by first | rfl | decide) hP hS dX4_isDigit_36 (by simp only [g_X4_isDigit, if_neg c8_1, if_neg c28_2]) rfl

def g_X4_takeDigit  (X : zM) : Int32 := if (nI (zc (X 1 1))) < (nI (zc (X 1 0))) then (X 2 (zc (X 1 1))) - (nI 48) else nI 0
def h_X4_takeDigit  (X : zM) : zM := if (nI (zc (X 1 1))) < (nI (zc (X 1 0))) then zu X 1 1 (nI (zc (X 1 1) + 1)) else X
set_option maxHeartbeats 4000000 in
set_option maxRecDepth 100000 in
theorem ct_X4_takeDigit (l : Launch) (D : va_G) (a : Nat → Nat) (ca : Nat → ClassId) (hJ : zJ a) (Z : Nat → zM) (X : zM) (n : Nat) (hX : xQ n X) : zCi l yX4_takeDigit wsX4_takeDigit ({ frames := 0, cells := 0, slots := 0, locals := 0 } : Room) D a ca [.ref (a 117)] (va_up Z 6 X) (g_X4_takeDigit X) (va_up Z 6 (h_X4_takeDigit X)) := by
  have hiX4 : ∀ w ∈ wsX40, w ∈ wsX4_takeDigit := by decide +kernel
  refine z_ofi (cc := cX4_takeDigit) (maxL := 2) (own := RX4) (by decide) rfl (Nat.le_of_ble_eq_true rfl) rfl (fun p e s m below meth c ls hx hb hr hml hts hown hlk hl hK hP hS => ?_)
  have hl : lv_has ls 2 [(0, .ref (a 117))] := hl
  refine lv_aload_n hx hb dX4_takeDigit_0 rfl (lv_at hl 0 rfl) ?_
  refine zgx2 hx hb hts hiX4 hown hK hP  (hts (.fieldLink RX4 26 "BarrelProcessor$Text" "position" "I") (by decide +kernel)) dX4_takeDigit_1 ?_
  refine z_val (z := nI (zc (X 1 1))) hX.2.1.2 ?_
  refine lv_aload_n hx hb dX4_takeDigit_4 rfl (lv_at hl 0 rfl) ?_
  refine zgx1 hx hb hts hiX4 hown hK hP  (hts (.fieldLink RX4 22 "BarrelProcessor$Text" "length" "I") (by decide +kernel)) dX4_takeDigit_5 ?_
  refine z_val (z := nI (zc (X 1 0))) hX.1.2 ?_
  refine lv_icmp_lt (tgt := 13) hx hb dX4_takeDigit_8 (by decide) (fun c8_1 => ?_) (fun c8_1 => ?_)
  · have bx : ¬ nI (zc (X 1 0)) ≤ nI (zc (X 1 1)) := fun q => absurd q (nI_ge ((nI_ltI (by have h9 := hX.2.1.1; omega) (by have h9 := hX.1.1; omega)).mp c8_1) (by have h9 := hX.1.1; omega))
    refine lv_aload_n hx hb dX4_takeDigit_13 rfl (lv_at hl 0 rfl) ?_
    refine zgx0 hx hb hts hiX4 hown hK hP  (hts (.fieldLink RX4 11 "BarrelProcessor$Text" "characters" "[C") (by decide +kernel)) dX4_takeDigit_14 ?_
    refine lv_aload_n hx hb dX4_takeDigit_17 rfl (lv_at hl 0 rfl) ?_
    refine zgx2 hx hb hts hiX4 hown hK hP  (hts (.fieldLink RX4 26 "BarrelProcessor$Text" "position" "I") (by decide +kernel)) dX4_takeDigit_18 ?_
    refine z_val (z := nI (zc (X 1 1))) hX.2.1.2 ?_
    refine z_cald hx hb hK hP zG_ch (j := zc (X 1 1)) (by have h9 := x_pos hX bx; omega) (by decide) dX4_takeDigit_21 ?_
    refine lv_bipush (v := nI 48) hx hb dX4_takeDigit_22 (by decide) ?_
    refine lv_isub hx hb dX4_takeDigit_24 ?_
    refine lv_istore_n (lv' := [(1, .int ((X 2 (zc (X 1 1))) - (nI 48))), (0, .ref (a 117))]) hx hb dX4_takeDigit_25 rfl hl (by decide) rfl (fun ls hl => ?_)
    refine lv_aload_n hx hb dX4_takeDigit_26 rfl (lv_at hl 1 rfl) ?_
    refine lv_dup hx hb dX4_takeDigit_27 rfl ?_
    refine zgx2 hx hb hts hiX4 hown hK hP  (hts (.fieldLink RX4 26 "BarrelProcessor$Text" "position" "I") (by decide +kernel)) dX4_takeDigit_28 ?_
    refine z_val (z := nI (zc (X 1 1))) hX.2.1.2 ?_
    refine lv_iconst (v := nI 1) hx hb dX4_takeDigit_31 (by decide) ?_
    refine lv_iadd hx hb dX4_takeDigit_32 ?_
    refine z_val (z := nI (zc (X 1 1) + 1)) (nI_add _ _) ?_
    refine zpx2 hx hb hts hiX4 hown hK hP hJ hS  (hts (.fieldLink RX4 26 "BarrelProcessor$Text" "position" "I") (by decide +kernel)) dX4_takeDigit_33 (fun H locs hP hS => ?_)
    refine lv_iload_n hx hb dX4_takeDigit_36 rfl (lv_at hl 0 rfl) ?_
    exact z_reti hx hb hr hlk rfl hP hS dX4_takeDigit_37 (by simp only [g_X4_takeDigit, if_pos c8_1]) (congrArg (va_up Z 6) (by simp only [h_X4_takeDigit, if_pos c8_1]))
  · refine lv_iconst (v := nI 0) hx hb dX4_takeDigit_11 (by decide) ?_
    exact z_reti hx hb hr hlk rfl hP hS dX4_takeDigit_12 (by simp only [g_X4_takeDigit, if_neg c8_1]) (congrArg (va_up Z 6) (by simp only [h_X4_takeDigit, if_neg c8_1]))

theorem xQ_add {n : Nat} {X : zM} {ch : Int32} (h : xQ n X) : xQ n (h_X4_add ch X) := by
  have h1 := h.1.1
  unfold h_X4_add
  refine z_ite (P := fun Y => xQ n Y) (fun _ => h) (fun c => ?_)
  have h2 : zc (X 1 0) < 100 := Nat.lt_of_not_le (fun q => c (nI_le q (by omega)))
  exact xQ_0 (zIn_nI (by omega) (by decide)) (xQ_u (by decide) h)
theorem xQ_readSign {n : Nat} {X : zM} {sign : Int32} (h : xQ n X) : xQ n (h_X4_readSign sign X) := by
  unfold h_X4_readSign
  refine z_ite (P := fun Y => xQ n Y) (fun _ => h) (fun c => ?_)
  exact z_ite (P := fun Y => xQ n Y) (fun _ => xQ_1 (x_posI h c) h) (fun _ => h)
theorem xQ_takeDigit {n : Nat} {X : zM} (h : xQ n X) : xQ n (h_X4_takeDigit X) := by
  have h1 := h.1.1
  have h2 := h.2.1.1
  unfold h_X4_takeDigit
  refine z_ite (P := fun Y => xQ n Y) (fun c => ?_) (fun _ => h)
  exact xQ_1 (zIn_nI (by have h3 := (nI_ltI (by omega) (by omega)).mp c; omega) (by decide)) h

def h_X4_beginRow (op : Int32)  (X : zM) : zM := zu (zu (zu (zu X 3 (zc (X 1 2)) op) 4 ((zc (X 1 2)) * 2) (-100005)) 4 ((zc (X 1 2)) * 2 + 1) (-100005)) 1 3 (nI 0)
set_option maxHeartbeats 4000000 in
set_option maxRecDepth 100000 in
theorem ct_X4_beginRow (l : Launch) (D : va_G) (a : Nat → Nat) (ca : Nat → ClassId) (hJ : zJ a) (Z : Nat → zM) (X : zM) (op : Int32) (hX : xQ 50 X) : zCv l yX4_beginRow wsX4_beginRow ({ frames := 0, cells := 0, slots := 0, locals := 0 } : Room) D a ca [.ref (a 117), .int op] (va_up Z 6 X) (va_up Z 6 (h_X4_beginRow op X)) := by
  have hiX2 : ∀ w ∈ wsX20, w ∈ wsX4_beginRow := by decide +kernel
  have hiX4 : ∀ w ∈ wsX40, w ∈ wsX4_beginRow := by decide +kernel
  refine z_ofv (cc := cX4_beginRow) (maxL := 2) (own := RX4) (by decide) rfl (Nat.le_of_ble_eq_true rfl) rfl (fun p e s m below meth c ls hx hb hr hml hts hown hlk hl hK hP hS => ?_)
  have hl : lv_has ls 2 [(0, .ref (a 117)), (1, .int op)] := hl
  refine lv_aload_n hx hb dX4_beginRow_0 rfl (lv_at hl 0 rfl) ?_
  refine zgx3 hx hb hts hiX4 hown hK hP  (hts (.fieldLink RX4 18 "BarrelProcessor$Text" "instructions" "LBarrelProcessor$Instructions;") (by decide +kernel)) dX4_beginRow_1 ?_
  refine zni0 hx hb hts hiX2 hown hK hP  (zn_RX4_57 hK) dX4_beginRow_4 ?_
  refine lv_aload_n hx hb dX4_beginRow_7 rfl (lv_at hl 0 rfl) ?_
  refine zgx4 hx hb hts hiX4 hown hK hP  (hts (.fieldLink RX4 29 "BarrelProcessor$Text" "instructionCount" "I") (by decide +kernel)) dX4_beginRow_8 ?_
  refine z_val (z := nI (zc (X 1 2))) hX.2.2.1.2 ?_
  refine lv_iload_n hx hb dX4_beginRow_11 rfl (lv_at hl 1 rfl) ?_
  refine z_iast (Z' := va_up Z 6 (zu X 3 (zc (X 1 2)) op)) hx hb hK hP hJ hS zG_xo (j := zc (X 1 2)) hX.2.2.1.1 (by decide) dX4_beginRow_12 zS_xo (fun H locs hP hS => ?_)
  refine lv_aload_n hx hb dX4_beginRow_13 rfl (lv_at hl 0 rfl) ?_
  refine zgx3 hx hb hts hiX4 hown hK hP  (hts (.fieldLink RX4 18 "BarrelProcessor$Text" "instructions" "LBarrelProcessor$Instructions;") (by decide +kernel)) dX4_beginRow_14 ?_
  refine zni1 hx hb hts hiX2 hown hK hP  (zn_RX4_61 hK) dX4_beginRow_17 ?_
  refine lv_aload_n hx hb dX4_beginRow_20 rfl (lv_at hl 0 rfl) ?_
  refine zgx4 hx hb hts hiX4 hown hK hP  (hts (.fieldLink RX4 29 "BarrelProcessor$Text" "instructionCount" "I") (by decide +kernel)) dX4_beginRow_21 ?_
  refine z_val (z := nI (zc (X 1 2))) hX.2.2.1.2 ?_
  refine lv_iconst (v := nI 2) hx hb dX4_beginRow_24 (by decide) ?_
  refine lv_imul hx hb dX4_beginRow_25 ?_
  refine z_val (z := nI ((zc (X 1 2)) * 2)) (pk_mul _ _) ?_
  refine lv_ldc (v := (-100005)) hx hb hown (hts (.constant RX4 40 (-100005)) (by decide +kernel)) dX4_beginRow_26 ?_
  refine z_iast (Z' := va_up Z 6 (zu (zu X 3 (zc (X 1 2)) op) 4 ((zc (X 1 2)) * 2) (-100005))) hx hb hK hP hJ hS zG_xd (j := (zc (X 1 2)) * 2) (by have h9 := hX.2.2.1.1; omega) (by decide) dX4_beginRow_28 zS_xd (fun H locs hP hS => ?_)
  refine lv_aload_n hx hb dX4_beginRow_29 rfl (lv_at hl 0 rfl) ?_
  refine zgx3 hx hb hts hiX4 hown hK hP  (hts (.fieldLink RX4 18 "BarrelProcessor$Text" "instructions" "LBarrelProcessor$Instructions;") (by decide +kernel)) dX4_beginRow_30 ?_
  refine zni1 hx hb hts hiX2 hown hK hP  (zn_RX4_61 hK) dX4_beginRow_33 ?_
  refine lv_aload_n hx hb dX4_beginRow_36 rfl (lv_at hl 0 rfl) ?_
  refine zgx4 hx hb hts hiX4 hown hK hP  (hts (.fieldLink RX4 29 "BarrelProcessor$Text" "instructionCount" "I") (by decide +kernel)) dX4_beginRow_37 ?_
  refine z_val (z := nI (zc (X 1 2))) hX.2.2.1.2 ?_
  refine lv_iconst (v := nI 2) hx hb dX4_beginRow_40 (by decide) ?_
  refine lv_imul hx hb dX4_beginRow_41 ?_
  refine z_val (z := nI ((zc (X 1 2)) * 2)) (pk_mul _ _) ?_
  refine lv_iconst (v := nI 1) hx hb dX4_beginRow_42 (by decide) ?_
  refine lv_iadd hx hb dX4_beginRow_43 ?_
  refine z_val (z := nI ((zc (X 1 2)) * 2 + 1)) (nI_add _ _) ?_
  refine lv_ldc (v := (-100005)) hx hb hown (hts (.constant RX4 40 (-100005)) (by decide +kernel)) dX4_beginRow_44 ?_
  refine z_iast (Z' := va_up Z 6 (zu (zu (zu X 3 (zc (X 1 2)) op) 4 ((zc (X 1 2)) * 2) (-100005)) 4 ((zc (X 1 2)) * 2 + 1) (-100005))) hx hb hK hP hJ hS zG_xd (j := (zc (X 1 2)) * 2 + 1) (by have h9 := hX.2.2.1.1; omega) (by decide) dX4_beginRow_46 zS_xd (fun H locs hP hS => ?_)
  refine lv_aload_n hx hb dX4_beginRow_47 rfl (lv_at hl 0 rfl) ?_
  refine lv_iconst (v := nI 0) hx hb dX4_beginRow_48 (by decide) ?_
  refine zpx5 hx hb hts hiX4 hown hK hP hJ hS  (hts (.fieldLink RX4 64 "BarrelProcessor$Text" "operandCount" "I") (by decide +kernel)) dX4_beginRow_49 (fun H locs hP hS => ?_)
  exact z_retv hx hb hr hlk hP hS dX4_beginRow_52 (congrArg (va_up Z 6) (by first | rfl | simp only [h_X4_beginRow]))

def h_X4_keepOperand (value : Int32)  (X : zM) : zM := if (nI 2) ≤ (nI (zc (X 1 3))) then X else zu (zu X 4 ((zc (X 1 2)) * 2 + (zc (X 1 3))) value) 1 3 (nI (zc (X 1 3) + 1))
set_option maxHeartbeats 4000000 in
set_option maxRecDepth 100000 in
theorem ct_X4_keepOperand (l : Launch) (D : va_G) (a : Nat → Nat) (ca : Nat → ClassId) (hJ : zJ a) (Z : Nat → zM) (X : zM) (value : Int32) (hX : xQ 50 X) : zCv l yX4_keepOperand wsX4_keepOperand ({ frames := 0, cells := 0, slots := 0, locals := 0 } : Room) D a ca [.ref (a 117), .int value] (va_up Z 6 X) (va_up Z 6 (h_X4_keepOperand value X)) := by
  have hiX2 : ∀ w ∈ wsX20, w ∈ wsX4_keepOperand := by decide +kernel
  have hiX4 : ∀ w ∈ wsX40, w ∈ wsX4_keepOperand := by decide +kernel
  refine z_ofv (cc := cX4_keepOperand) (maxL := 2) (own := RX4) (by decide) rfl (Nat.le_of_ble_eq_true rfl) rfl (fun p e s m below meth c ls hx hb hr hml hts hown hlk hl hK hP hS => ?_)
  have hl : lv_has ls 2 [(0, .ref (a 117)), (1, .int value)] := hl
  refine lv_aload_n hx hb dX4_keepOperand_0 rfl (lv_at hl 0 rfl) ?_
  refine zgx5 hx hb hts hiX4 hown hK hP  (hts (.fieldLink RX4 64 "BarrelProcessor$Text" "operandCount" "I") (by decide +kernel)) dX4_keepOperand_1 ?_
  refine z_val (z := nI (zc (X 1 3))) hX.2.2.2.2 ?_
  refine lv_iconst (v := nI 2) hx hb dX4_keepOperand_4 (by decide) ?_
  refine lv_icmp_ge (tgt := 38) hx hb dX4_keepOperand_5 (by decide) (fun c5_1 => ?_) (fun c5_1 => ?_)
  · exact z_retv hx hb hr hlk hP hS dX4_keepOperand_38 (congrArg (va_up Z 6) (by simp only [h_X4_keepOperand, if_pos c5_1]))
  · have bo : zc (X 1 3) < 2 := Nat.lt_of_not_le (fun q => c5_1 (nI_le q (by have h9 := hX.2.2.2.1; omega)))
    refine lv_aload_n hx hb dX4_keepOperand_8 rfl (lv_at hl 0 rfl) ?_
    refine zgx3 hx hb hts hiX4 hown hK hP  (hts (.fieldLink RX4 18 "BarrelProcessor$Text" "instructions" "LBarrelProcessor$Instructions;") (by decide +kernel)) dX4_keepOperand_9 ?_
    refine zni1 hx hb hts hiX2 hown hK hP  (zn_RX4_61 hK) dX4_keepOperand_12 ?_
    refine lv_aload_n hx hb dX4_keepOperand_15 rfl (lv_at hl 0 rfl) ?_
    refine zgx4 hx hb hts hiX4 hown hK hP  (hts (.fieldLink RX4 29 "BarrelProcessor$Text" "instructionCount" "I") (by decide +kernel)) dX4_keepOperand_16 ?_
    refine z_val (z := nI (zc (X 1 2))) hX.2.2.1.2 ?_
    refine lv_iconst (v := nI 2) hx hb dX4_keepOperand_19 (by decide) ?_
    refine lv_imul hx hb dX4_keepOperand_20 ?_
    refine z_val (z := nI ((zc (X 1 2)) * 2)) (pk_mul _ _) ?_
    refine lv_aload_n hx hb dX4_keepOperand_21 rfl (lv_at hl 0 rfl) ?_
    refine zgx5 hx hb hts hiX4 hown hK hP  (hts (.fieldLink RX4 64 "BarrelProcessor$Text" "operandCount" "I") (by decide +kernel)) dX4_keepOperand_22 ?_
    refine z_val (z := nI (zc (X 1 3))) hX.2.2.2.2 ?_
    refine lv_iadd hx hb dX4_keepOperand_25 ?_
    refine z_val (z := nI ((zc (X 1 2)) * 2 + (zc (X 1 3)))) (nI_add _ _) ?_
    refine lv_iload_n hx hb dX4_keepOperand_26 rfl (lv_at hl 1 rfl) ?_
    refine z_iast (Z' := va_up Z 6 (zu X 4 ((zc (X 1 2)) * 2 + (zc (X 1 3))) value)) hx hb hK hP hJ hS zG_xd (j := (zc (X 1 2)) * 2 + (zc (X 1 3))) (by have h9 := hX.2.2.1.1; omega) (by decide) dX4_keepOperand_27 zS_xd (fun H locs hP hS => ?_)
    refine lv_aload_n hx hb dX4_keepOperand_28 rfl (lv_at hl 0 rfl) ?_
    refine lv_dup hx hb dX4_keepOperand_29 rfl ?_
    refine zgx5 hx hb hts hiX4 hown hK hP  (hts (.fieldLink RX4 64 "BarrelProcessor$Text" "operandCount" "I") (by decide +kernel)) dX4_keepOperand_30 ?_
    refine z_val (z := nI (zc (X 1 3))) hX.2.2.2.2 ?_
    refine lv_iconst (v := nI 1) hx hb dX4_keepOperand_33 (by decide) ?_
    refine lv_iadd hx hb dX4_keepOperand_34 ?_
    refine z_val (z := nI (zc (X 1 3) + 1)) (nI_add _ _) ?_
    refine zpx5 hx hb hts hiX4 hown hK hP hJ hS  (hts (.fieldLink RX4 64 "BarrelProcessor$Text" "operandCount" "I") (by decide +kernel)) dX4_keepOperand_35 (fun H locs hP hS => ?_)
    exact z_retv hx hb hr hlk hP hS dX4_keepOperand_38 (congrArg (va_up Z 6) (by simp only [h_X4_keepOperand, if_neg c5_1]))

theorem xQ_beginRow {n : Nat} {X : zM} {op : Int32} (h : xQ n X) : xQ n (h_X4_beginRow op X) := by
  unfold h_X4_beginRow
  exact xQ_3 (zIn_nI (by decide) (by decide)) (xQ_u (by decide) (xQ_u (by decide) (xQ_u (by decide) h)))
theorem xQ_keepOperand {n : Nat} {X : zM} {v : Int32} (h : xQ n X) : xQ n (h_X4_keepOperand v X) := by
  have h1 := h.2.2.2.1
  unfold h_X4_keepOperand
  refine z_ite (P := fun Y => xQ n Y) (fun _ => h) (fun c => ?_)
  have h2 : zc (X 1 3) < 2 := Nat.lt_of_not_le (fun q => c (nI_le q (by omega)))
  exact xQ_3 (zIn_nI (by omega) (by decide)) (xQ_u (by decide) h)

def g_X4_readRegister  (X : zM) : Int32 := if (g_X4_isDigit (nI 0) (nI 3) X) = 0 then nI 0 else nI 1
def h_X4_readRegister  (X : zM) : zM := if (g_X4_isDigit (nI 0) (nI 3) X) = 0 then X else h_X4_keepOperand (g_X4_takeDigit X) (h_X4_takeDigit X)
set_option maxHeartbeats 4000000 in
set_option maxRecDepth 100000 in
theorem ct_X4_readRegister (l : Launch) (D : va_G) (a : Nat → Nat) (ca : Nat → ClassId) (hJ : zJ a) (Z : Nat → zM) (X : zM) (hX : xQ 50 X) : zCi l yX4_readRegister wsX4_readRegister ({ frames := 2, cells := 0, slots := 0, locals := 44 } : Room) D a ca [.ref (a 117)] (va_up Z 6 X) (g_X4_readRegister X) (va_up Z 6 (h_X4_readRegister X)) := by
  refine z_ofi (cc := cX4_readRegister) (maxL := 1) (own := RX4) (by decide) rfl (Nat.le_of_ble_eq_true rfl) rfl (fun p e s m below meth c ls hx hb hr hml hts hown hlk hl hK hP hS => ?_)
  have hl : lv_has ls 1 [(0, .ref (a 117))] := hl
  refine lv_aload_n hx hb dX4_readRegister_0 rfl (lv_at hl 0 rfl) ?_
  refine lv_iconst (v := nI 0) hx hb dX4_readRegister_1 (by decide) ?_
  refine lv_iconst (v := nI 3) hx hb dX4_readRegister_2 (by decide) ?_
  refine z_cVi (As := [.int (nI 0), .int (nI 3)]) (rest := []) ⟨hx, hb, hml, hown, hts⟩ (ct_X4_isDigit l D a ca hJ Z X (nI 0) (nI 3) _ hX) (cwV 2 hts gX4_readRegister_X4_isDigit rfl rfl rfl (by decide +kernel) ⟨Nat.le_of_ble_eq_true rfl, Nat.le_of_ble_eq_true rfl⟩) hK hP hS (va_recv (ci := 4) hK.1 hP rfl zG_x) rfl hl.1 rfl (Nat.le_of_ble_eq_true rfl) dX4_readRegister_3 ⟨Nat.zero_le _, Nat.zero_le _⟩ (fun H locs hP hS => ?_)
  refine lv_if_ne (tgt := 11) hx hb dX4_readRegister_6 (by decide) (fun c6_1 => ?_) (fun c6_1 => ?_)
  · refine lv_aload_n hx hb dX4_readRegister_11 rfl (lv_at hl 0 rfl) ?_
    refine lv_aload_n hx hb dX4_readRegister_12 rfl (lv_at hl 0 rfl) ?_
    refine z_cVi (As := []) (rest := [.ref (a 117)]) ⟨hx, hb, hml, hown, hts⟩ (ct_X4_takeDigit l D a ca hJ Z X _ hX) (cwV 0 hts gX4_readRegister_X4_takeDigit rfl rfl rfl (by decide +kernel) ⟨Nat.le_of_ble_eq_true rfl, Nat.le_of_ble_eq_true rfl⟩) hK hP hS (va_recv (ci := 4) hK.1 hP rfl zG_x) rfl hl.1 rfl (Nat.le_of_ble_eq_true rfl) dX4_readRegister_13 ⟨Nat.zero_le _, Nat.zero_le _⟩ (fun H locs hP hS => ?_)
    refine z_cVv (As := [.int (g_X4_takeDigit X)]) (rest := []) ⟨hx, hb, hml, hown, hts⟩ (ct_X4_keepOperand l D a ca hJ Z (h_X4_takeDigit X) (g_X4_takeDigit X) (xQ_takeDigit hX)) (cwV 1 hts gX4_readRegister_X4_keepOperand rfl rfl rfl (by decide +kernel) ⟨Nat.le_of_ble_eq_true rfl, Nat.le_of_ble_eq_true rfl⟩) hK hP hS (va_recv (ci := 4) hK.1 hP rfl zG_x) rfl hl.1 rfl (Nat.le_of_ble_eq_true rfl) dX4_readRegister_16 ⟨Nat.zero_le _, Nat.zero_le _⟩ (fun H locs hP hS => ?_)
    refine lv_iconst (v := nI 1) hx hb dX4_readRegister_19 (by decide) ?_
    exact z_reti hx hb hr hlk (by first | rfl | decide) hP hS dX4_readRegister_20 (by simp only [g_X4_readRegister, if_neg c6_1]) (congrArg (va_up Z 6) (by simp only [h_X4_readRegister, if_neg c6_1]))
  · refine lv_iconst (v := nI 0) hx hb dX4_readRegister_9 (by decide) ?_
    exact z_reti hx hb hr hlk (by first | rfl | decide) hP hS dX4_readRegister_10 (by simp only [g_X4_readRegister, if_pos c6_1]) (congrArg (va_up Z 6) (by simp only [h_X4_readRegister, if_pos c6_1]))

def g_X4_readNumber  (X : zM) : Int32 := if (g_X4_readSign (nI 45) X) = 0 then if (g_X4_isDigit (nI 0) (nI 9) (h_X4_readSign (nI 45) X)) = 0 then nI 0 else if (g_X4_takeDigit (h_X4_readSign (nI 45) X)) = 0 then nI 1 else if (g_X4_isDigit (nI 0) (nI 9) (h_X4_takeDigit (h_X4_readSign (nI 45) X))) = 0 then nI 1 else nI 1 else if (g_X4_isDigit (nI 1) (nI 9) (h_X4_readSign (nI 45) X)) = 0 then nI 0 else if (g_X4_takeDigit (h_X4_readSign (nI 45) X)) = 0 then nI 1 else if (g_X4_isDigit (nI 0) (nI 9) (h_X4_takeDigit (h_X4_readSign (nI 45) X))) = 0 then nI 1 else nI 1
def h_X4_readNumber  (X : zM) : zM := if (g_X4_readSign (nI 45) X) = 0 then if (g_X4_isDigit (nI 0) (nI 9) (h_X4_readSign (nI 45) X)) = 0 then h_X4_readSign (nI 45) X else if (g_X4_takeDigit (h_X4_readSign (nI 45) X)) = 0 then h_X4_keepOperand (g_X4_takeDigit (h_X4_readSign (nI 45) X)) (h_X4_takeDigit (h_X4_readSign (nI 45) X)) else if (g_X4_isDigit (nI 0) (nI 9) (h_X4_takeDigit (h_X4_readSign (nI 45) X))) = 0 then h_X4_keepOperand (g_X4_takeDigit (h_X4_readSign (nI 45) X)) (h_X4_takeDigit (h_X4_readSign (nI 45) X)) else h_X4_keepOperand (((g_X4_takeDigit (h_X4_readSign (nI 45) X)) * (nI 10)) + (g_X4_takeDigit (h_X4_takeDigit (h_X4_readSign (nI 45) X)))) (h_X4_takeDigit (h_X4_takeDigit (h_X4_readSign (nI 45) X))) else if (g_X4_isDigit (nI 1) (nI 9) (h_X4_readSign (nI 45) X)) = 0 then h_X4_readSign (nI 45) X else if (g_X4_takeDigit (h_X4_readSign (nI 45) X)) = 0 then h_X4_keepOperand (-(g_X4_takeDigit (h_X4_readSign (nI 45) X))) (h_X4_takeDigit (h_X4_readSign (nI 45) X)) else if (g_X4_isDigit (nI 0) (nI 9) (h_X4_takeDigit (h_X4_readSign (nI 45) X))) = 0 then h_X4_keepOperand (-(g_X4_takeDigit (h_X4_readSign (nI 45) X))) (h_X4_takeDigit (h_X4_readSign (nI 45) X)) else h_X4_keepOperand (-(((g_X4_takeDigit (h_X4_readSign (nI 45) X)) * (nI 10)) + (g_X4_takeDigit (h_X4_takeDigit (h_X4_readSign (nI 45) X))))) (h_X4_takeDigit (h_X4_takeDigit (h_X4_readSign (nI 45) X)))
set_option maxHeartbeats 4000000 in
set_option maxRecDepth 100000 in
theorem ct_X4_readNumber (l : Launch) (D : va_G) (a : Nat → Nat) (ca : Nat → ClassId) (hJ : zJ a) (Z : Nat → zM) (X : zM) (hX : xQ 50 X) : zCi l yX4_readNumber wsX4_readNumber ({ frames := 2, cells := 0, slots := 0, locals := 44 } : Room) D a ca [.ref (a 117)] (va_up Z 6 X) (g_X4_readNumber X) (va_up Z 6 (h_X4_readNumber X)) := by
  refine z_ofi (cc := cX4_readNumber) (maxL := 3) (own := RX4) (by decide) rfl (Nat.le_of_ble_eq_true rfl) rfl (fun p e s m below meth c ls hx hb hr hml hts hown hlk hl hK hP hS => ?_)
  have hl : lv_has ls 3 [(0, .ref (a 117))] := hl
  refine lv_aload_n hx hb dX4_readNumber_0 rfl (lv_at hl 0 rfl) ?_
  refine lv_bipush (v := nI 45) hx hb dX4_readNumber_1 (by decide) ?_
  refine z_cVi (As := [.int (nI 45)]) (rest := []) ⟨hx, hb, hml, hown, hts⟩ (ct_X4_readSign l D a ca hJ Z X (nI 45) _ hX) (cwV 1 hts gX4_readNumber_X4_readSign rfl rfl rfl (by decide +kernel) ⟨Nat.le_of_ble_eq_true rfl, Nat.le_of_ble_eq_true rfl⟩) hK hP hS (va_recv (ci := 4) hK.1 hP rfl zG_x) rfl hl.1 rfl (Nat.le_of_ble_eq_true rfl) dX4_readNumber_3 ⟨Nat.zero_le _, Nat.zero_le _⟩ (fun H locs hP hS => ?_)
  refine lv_istore_n (lv' := [(1, .int (g_X4_readSign (nI 45) X)), (0, .ref (a 117))]) hx hb dX4_readNumber_6 rfl hl (by decide) rfl (fun ls hl => ?_)
  refine lv_aload_n hx hb dX4_readNumber_7 rfl (lv_at hl 1 rfl) ?_
  refine lv_iload_n hx hb dX4_readNumber_8 rfl (lv_at hl 0 rfl) ?_
  refine lv_if_eq (tgt := 16) hx hb dX4_readNumber_9 (by decide) (fun c9_1 => ?_) (fun c9_1 => ?_)
  · refine lv_iconst (v := nI 0) hx hb dX4_readNumber_16 (by decide) ?_
    refine lv_bipush (v := nI 9) hx hb dX4_readNumber_17 (by decide) ?_
    refine z_cVi (As := [.int (nI 0), .int (nI 9)]) (rest := []) ⟨hx, hb, hml, hown, hts⟩ (ct_X4_isDigit l D a ca hJ Z (h_X4_readSign (nI 45) X) (nI 0) (nI 9) _ (xQ_readSign (sign := nI 45) hX)) (cwV 2 hts gX4_readNumber_X4_isDigit rfl rfl rfl (by decide +kernel) ⟨Nat.le_of_ble_eq_true rfl, Nat.le_of_ble_eq_true rfl⟩) hK hP hS (va_recv (ci := 4) hK.1 hP rfl zG_x) rfl hl.1 rfl (Nat.le_of_ble_eq_true rfl) dX4_readNumber_19 ⟨Nat.zero_le _, Nat.zero_le _⟩ (fun H locs hP hS => ?_)
    refine lv_if_ne (tgt := 27) hx hb dX4_readNumber_22 (by decide) (fun c22_2 => ?_) (fun c22_2 => ?_)
    · refine lv_aload_n hx hb dX4_readNumber_27 rfl (lv_at hl 1 rfl) ?_
      refine z_cVi (As := []) (rest := []) ⟨hx, hb, hml, hown, hts⟩ (ct_X4_takeDigit l D a ca hJ Z (h_X4_readSign (nI 45) X) _ (xQ_readSign (sign := nI 45) hX)) (cwV 0 hts gX4_readNumber_X4_takeDigit rfl rfl rfl (by decide +kernel) ⟨Nat.le_of_ble_eq_true rfl, Nat.le_of_ble_eq_true rfl⟩) hK hP hS (va_recv (ci := 4) hK.1 hP rfl zG_x) rfl hl.1 rfl (Nat.le_of_ble_eq_true rfl) dX4_readNumber_28 ⟨Nat.zero_le _, Nat.zero_le _⟩ (fun H locs hP hS => ?_)
      refine lv_istore_n (lv' := [(2, .int (g_X4_takeDigit (h_X4_readSign (nI 45) X))), (1, .int (g_X4_readSign (nI 45) X)), (0, .ref (a 117))]) hx hb dX4_readNumber_31 rfl hl (by decide) rfl (fun ls hl => ?_)
      refine lv_iload_n hx hb dX4_readNumber_32 rfl (lv_at hl 0 rfl) ?_
      refine lv_if_eq (tgt := 56) hx hb dX4_readNumber_33 (by decide) (fun c33_3 => ?_) (fun c33_3 => ?_)
      · have hk := xQ_takeDigit (xQ_readSign (sign := nI 45) hX)
        refine lv_aload_n hx hb dX4_readNumber_56 rfl (lv_at hl 2 rfl) ?_
        refine lv_iload_n hx hb dX4_readNumber_57 rfl (lv_at hl 1 rfl) ?_
        refine lv_if_eq (tgt := 66) hx hb dX4_readNumber_58 (by decide) (fun c58_4 => ?_) (fun c58_4 => absurd c9_1 c58_4)
        refine lv_iload_n hx hb dX4_readNumber_66 rfl (lv_at hl 0 rfl) ?_
        refine z_cVv (As := [.int (g_X4_takeDigit (h_X4_readSign (nI 45) X))]) (rest := []) ⟨hx, hb, hml, hown, hts⟩ (ct_X4_keepOperand l D a ca hJ Z (h_X4_takeDigit (h_X4_readSign (nI 45) X)) (g_X4_takeDigit (h_X4_readSign (nI 45) X)) hk) (cwV 1 hts gX4_readNumber_X4_keepOperand rfl rfl rfl (by decide +kernel) ⟨Nat.le_of_ble_eq_true rfl, Nat.le_of_ble_eq_true rfl⟩) hK hP hS (va_recv (ci := 4) hK.1 hP rfl zG_x) rfl hl.1 rfl (Nat.le_of_ble_eq_true rfl) dX4_readNumber_67 ⟨Nat.zero_le _, Nat.zero_le _⟩ (fun H locs hP hS => ?_)
        refine lv_iconst (v := nI 1) hx hb dX4_readNumber_70 (by decide) ?_
        exact z_reti hx hb hr hlk (by first | rfl | decide) hP hS dX4_readNumber_71 (by simp only [g_X4_readNumber, if_pos c9_1, if_neg c22_2, if_pos c33_3]) (congrArg (va_up Z 6) (by simp only [h_X4_readNumber, if_pos c9_1, if_neg c22_2, if_pos c33_3]))
      · refine lv_aload_n hx hb dX4_readNumber_36 rfl (lv_at hl 2 rfl) ?_
        refine lv_iconst (v := nI 0) hx hb dX4_readNumber_37 (by decide) ?_
        refine lv_bipush (v := nI 9) hx hb dX4_readNumber_38 (by decide) ?_
        refine z_cVi (As := [.int (nI 0), .int (nI 9)]) (rest := []) ⟨hx, hb, hml, hown, hts⟩ (ct_X4_isDigit l D a ca hJ Z (h_X4_takeDigit (h_X4_readSign (nI 45) X)) (nI 0) (nI 9) _ (xQ_takeDigit (xQ_readSign (sign := nI 45) hX))) (cwV 2 hts gX4_readNumber_X4_isDigit rfl rfl rfl (by decide +kernel) ⟨Nat.le_of_ble_eq_true rfl, Nat.le_of_ble_eq_true rfl⟩) hK hP hS (va_recv (ci := 4) hK.1 hP rfl zG_x) rfl hl.1 rfl (Nat.le_of_ble_eq_true rfl) dX4_readNumber_40 ⟨Nat.zero_le _, Nat.zero_le _⟩ (fun H locs hP hS => ?_)
        refine lv_if_eq (tgt := 56) hx hb dX4_readNumber_43 (by decide) (fun c43_5 => ?_) (fun c43_5 => ?_)
        · have hk := xQ_takeDigit (xQ_readSign (sign := nI 45) hX)
          refine lv_aload_n hx hb dX4_readNumber_56 rfl (lv_at hl 2 rfl) ?_
          refine lv_iload_n hx hb dX4_readNumber_57 rfl (lv_at hl 1 rfl) ?_
          refine lv_if_eq (tgt := 66) hx hb dX4_readNumber_58 (by decide) (fun c58_6 => ?_) (fun c58_6 => absurd c9_1 c58_6)
          refine lv_iload_n hx hb dX4_readNumber_66 rfl (lv_at hl 0 rfl) ?_
          refine z_cVv (As := [.int (g_X4_takeDigit (h_X4_readSign (nI 45) X))]) (rest := []) ⟨hx, hb, hml, hown, hts⟩ (ct_X4_keepOperand l D a ca hJ Z (h_X4_takeDigit (h_X4_readSign (nI 45) X)) (g_X4_takeDigit (h_X4_readSign (nI 45) X)) hk) (cwV 1 hts gX4_readNumber_X4_keepOperand rfl rfl rfl (by decide +kernel) ⟨Nat.le_of_ble_eq_true rfl, Nat.le_of_ble_eq_true rfl⟩) hK hP hS (va_recv (ci := 4) hK.1 hP rfl zG_x) rfl hl.1 rfl (Nat.le_of_ble_eq_true rfl) dX4_readNumber_67 ⟨Nat.zero_le _, Nat.zero_le _⟩ (fun H locs hP hS => ?_)
          refine lv_iconst (v := nI 1) hx hb dX4_readNumber_70 (by decide) ?_
          exact z_reti hx hb hr hlk (by first | rfl | decide) hP hS dX4_readNumber_71 (by simp only [g_X4_readNumber, if_pos c9_1, if_neg c22_2, if_neg c33_3, if_pos c43_5]) (congrArg (va_up Z 6) (by simp only [h_X4_readNumber, if_pos c9_1, if_neg c22_2, if_neg c33_3, if_pos c43_5]))
        · have hk := xQ_takeDigit (xQ_takeDigit (xQ_readSign (sign := nI 45) hX))
          refine lv_iload_n hx hb dX4_readNumber_46 rfl (lv_at hl 0 rfl) ?_
          refine lv_bipush (v := nI 10) hx hb dX4_readNumber_47 (by decide) ?_
          refine lv_imul hx hb dX4_readNumber_49 ?_
          refine lv_aload_n hx hb dX4_readNumber_50 rfl (lv_at hl 2 rfl) ?_
          refine z_cVi (As := []) (rest := [.int ((g_X4_takeDigit (h_X4_readSign (nI 45) X)) * (nI 10))]) ⟨hx, hb, hml, hown, hts⟩ (ct_X4_takeDigit l D a ca hJ Z (h_X4_takeDigit (h_X4_readSign (nI 45) X)) _ (xQ_takeDigit (xQ_readSign (sign := nI 45) hX))) (cwV 0 hts gX4_readNumber_X4_takeDigit rfl rfl rfl (by decide +kernel) ⟨Nat.le_of_ble_eq_true rfl, Nat.le_of_ble_eq_true rfl⟩) hK hP hS (va_recv (ci := 4) hK.1 hP rfl zG_x) rfl hl.1 rfl (Nat.le_of_ble_eq_true rfl) dX4_readNumber_51 ⟨Nat.zero_le _, Nat.zero_le _⟩ (fun H locs hP hS => ?_)
          refine lv_iadd hx hb dX4_readNumber_54 ?_
          refine lv_istore_n (lv' := [(2, .int (((g_X4_takeDigit (h_X4_readSign (nI 45) X)) * (nI 10)) + (g_X4_takeDigit (h_X4_takeDigit (h_X4_readSign (nI 45) X))))), (1, .int (g_X4_readSign (nI 45) X)), (0, .ref (a 117))]) hx hb dX4_readNumber_55 rfl hl (by decide) rfl (fun ls hl => ?_)
          refine lv_aload_n hx hb dX4_readNumber_56 rfl (lv_at hl 2 rfl) ?_
          refine lv_iload_n hx hb dX4_readNumber_57 rfl (lv_at hl 1 rfl) ?_
          refine lv_if_eq (tgt := 66) hx hb dX4_readNumber_58 (by decide) (fun c58_7 => ?_) (fun c58_7 => absurd c9_1 c58_7)
          refine lv_iload_n hx hb dX4_readNumber_66 rfl (lv_at hl 0 rfl) ?_
          refine z_cVv (As := [.int (((g_X4_takeDigit (h_X4_readSign (nI 45) X)) * (nI 10)) + (g_X4_takeDigit (h_X4_takeDigit (h_X4_readSign (nI 45) X))))]) (rest := []) ⟨hx, hb, hml, hown, hts⟩ (ct_X4_keepOperand l D a ca hJ Z (h_X4_takeDigit (h_X4_takeDigit (h_X4_readSign (nI 45) X))) (((g_X4_takeDigit (h_X4_readSign (nI 45) X)) * (nI 10)) + (g_X4_takeDigit (h_X4_takeDigit (h_X4_readSign (nI 45) X)))) hk) (cwV 1 hts gX4_readNumber_X4_keepOperand rfl rfl rfl (by decide +kernel) ⟨Nat.le_of_ble_eq_true rfl, Nat.le_of_ble_eq_true rfl⟩) hK hP hS (va_recv (ci := 4) hK.1 hP rfl zG_x) rfl hl.1 rfl (Nat.le_of_ble_eq_true rfl) dX4_readNumber_67 ⟨Nat.zero_le _, Nat.zero_le _⟩ (fun H locs hP hS => ?_)
          refine lv_iconst (v := nI 1) hx hb dX4_readNumber_70 (by decide) ?_
          exact z_reti hx hb hr hlk (by first | rfl | decide) hP hS dX4_readNumber_71 (by simp only [g_X4_readNumber, if_pos c9_1, if_neg c22_2, if_neg c33_3, if_neg c43_5]) (congrArg (va_up Z 6) (by simp only [h_X4_readNumber, if_pos c9_1, if_neg c22_2, if_neg c33_3, if_neg c43_5]))
    · refine lv_iconst (v := nI 0) hx hb dX4_readNumber_25 (by decide) ?_
      exact z_reti hx hb hr hlk (by first | rfl | decide) hP hS dX4_readNumber_26 (by simp only [g_X4_readNumber, if_pos c9_1, if_pos c22_2]) (congrArg (va_up Z 6) (by simp only [h_X4_readNumber, if_pos c9_1, if_pos c22_2]))
  · refine lv_iconst (v := nI 1) hx hb dX4_readNumber_12 (by decide) ?_
    refine lv_goto (tgt := 17) hx hb dX4_readNumber_13 (by decide) ?_
    refine lv_bipush (v := nI 9) hx hb dX4_readNumber_17 (by decide) ?_
    refine z_cVi (As := [.int (nI 1), .int (nI 9)]) (rest := []) ⟨hx, hb, hml, hown, hts⟩ (ct_X4_isDigit l D a ca hJ Z (h_X4_readSign (nI 45) X) (nI 1) (nI 9) _ (xQ_readSign (sign := nI 45) hX)) (cwV 2 hts gX4_readNumber_X4_isDigit rfl rfl rfl (by decide +kernel) ⟨Nat.le_of_ble_eq_true rfl, Nat.le_of_ble_eq_true rfl⟩) hK hP hS (va_recv (ci := 4) hK.1 hP rfl zG_x) rfl hl.1 rfl (Nat.le_of_ble_eq_true rfl) dX4_readNumber_19 ⟨Nat.zero_le _, Nat.zero_le _⟩ (fun H locs hP hS => ?_)
    refine lv_if_ne (tgt := 27) hx hb dX4_readNumber_22 (by decide) (fun c22_8 => ?_) (fun c22_8 => ?_)
    · refine lv_aload_n hx hb dX4_readNumber_27 rfl (lv_at hl 1 rfl) ?_
      refine z_cVi (As := []) (rest := []) ⟨hx, hb, hml, hown, hts⟩ (ct_X4_takeDigit l D a ca hJ Z (h_X4_readSign (nI 45) X) _ (xQ_readSign (sign := nI 45) hX)) (cwV 0 hts gX4_readNumber_X4_takeDigit rfl rfl rfl (by decide +kernel) ⟨Nat.le_of_ble_eq_true rfl, Nat.le_of_ble_eq_true rfl⟩) hK hP hS (va_recv (ci := 4) hK.1 hP rfl zG_x) rfl hl.1 rfl (Nat.le_of_ble_eq_true rfl) dX4_readNumber_28 ⟨Nat.zero_le _, Nat.zero_le _⟩ (fun H locs hP hS => ?_)
      refine lv_istore_n (lv' := [(2, .int (g_X4_takeDigit (h_X4_readSign (nI 45) X))), (1, .int (g_X4_readSign (nI 45) X)), (0, .ref (a 117))]) hx hb dX4_readNumber_31 rfl hl (by decide) rfl (fun ls hl => ?_)
      refine lv_iload_n hx hb dX4_readNumber_32 rfl (lv_at hl 0 rfl) ?_
      refine lv_if_eq (tgt := 56) hx hb dX4_readNumber_33 (by decide) (fun c33_9 => ?_) (fun c33_9 => ?_)
      · have hk := xQ_takeDigit (xQ_readSign (sign := nI 45) hX)
        refine lv_aload_n hx hb dX4_readNumber_56 rfl (lv_at hl 2 rfl) ?_
        refine lv_iload_n hx hb dX4_readNumber_57 rfl (lv_at hl 1 rfl) ?_
        refine lv_if_eq (tgt := 66) hx hb dX4_readNumber_58 (by decide) (fun c58_10 => absurd c58_10 c9_1) (fun c58_10 => ?_)
        refine lv_iload_n hx hb dX4_readNumber_61 rfl (lv_at hl 0 rfl) ?_
        refine lv_ineg hx hb dX4_readNumber_62 ?_
        refine lv_goto (tgt := 67) hx hb dX4_readNumber_63 (by decide) ?_
        refine z_cVv (As := [.int (-(g_X4_takeDigit (h_X4_readSign (nI 45) X)))]) (rest := []) ⟨hx, hb, hml, hown, hts⟩ (ct_X4_keepOperand l D a ca hJ Z (h_X4_takeDigit (h_X4_readSign (nI 45) X)) (-(g_X4_takeDigit (h_X4_readSign (nI 45) X))) hk) (cwV 1 hts gX4_readNumber_X4_keepOperand rfl rfl rfl (by decide +kernel) ⟨Nat.le_of_ble_eq_true rfl, Nat.le_of_ble_eq_true rfl⟩) hK hP hS (va_recv (ci := 4) hK.1 hP rfl zG_x) rfl hl.1 rfl (Nat.le_of_ble_eq_true rfl) dX4_readNumber_67 ⟨Nat.zero_le _, Nat.zero_le _⟩ (fun H locs hP hS => ?_)
        refine lv_iconst (v := nI 1) hx hb dX4_readNumber_70 (by decide) ?_
        exact z_reti hx hb hr hlk (by first | rfl | decide) hP hS dX4_readNumber_71 (by simp only [g_X4_readNumber, if_neg c9_1, if_neg c22_8, if_pos c33_9]) (congrArg (va_up Z 6) (by simp only [h_X4_readNumber, if_neg c9_1, if_neg c22_8, if_pos c33_9]))
      · refine lv_aload_n hx hb dX4_readNumber_36 rfl (lv_at hl 2 rfl) ?_
        refine lv_iconst (v := nI 0) hx hb dX4_readNumber_37 (by decide) ?_
        refine lv_bipush (v := nI 9) hx hb dX4_readNumber_38 (by decide) ?_
        refine z_cVi (As := [.int (nI 0), .int (nI 9)]) (rest := []) ⟨hx, hb, hml, hown, hts⟩ (ct_X4_isDigit l D a ca hJ Z (h_X4_takeDigit (h_X4_readSign (nI 45) X)) (nI 0) (nI 9) _ (xQ_takeDigit (xQ_readSign (sign := nI 45) hX))) (cwV 2 hts gX4_readNumber_X4_isDigit rfl rfl rfl (by decide +kernel) ⟨Nat.le_of_ble_eq_true rfl, Nat.le_of_ble_eq_true rfl⟩) hK hP hS (va_recv (ci := 4) hK.1 hP rfl zG_x) rfl hl.1 rfl (Nat.le_of_ble_eq_true rfl) dX4_readNumber_40 ⟨Nat.zero_le _, Nat.zero_le _⟩ (fun H locs hP hS => ?_)
        refine lv_if_eq (tgt := 56) hx hb dX4_readNumber_43 (by decide) (fun c43_11 => ?_) (fun c43_11 => ?_)
        · have hk := xQ_takeDigit (xQ_readSign (sign := nI 45) hX)
          refine lv_aload_n hx hb dX4_readNumber_56 rfl (lv_at hl 2 rfl) ?_
          refine lv_iload_n hx hb dX4_readNumber_57 rfl (lv_at hl 1 rfl) ?_
          refine lv_if_eq (tgt := 66) hx hb dX4_readNumber_58 (by decide) (fun c58_12 => absurd c58_12 c9_1) (fun c58_12 => ?_)
          refine lv_iload_n hx hb dX4_readNumber_61 rfl (lv_at hl 0 rfl) ?_
          refine lv_ineg hx hb dX4_readNumber_62 ?_
          refine lv_goto (tgt := 67) hx hb dX4_readNumber_63 (by decide) ?_
          refine z_cVv (As := [.int (-(g_X4_takeDigit (h_X4_readSign (nI 45) X)))]) (rest := []) ⟨hx, hb, hml, hown, hts⟩ (ct_X4_keepOperand l D a ca hJ Z (h_X4_takeDigit (h_X4_readSign (nI 45) X)) (-(g_X4_takeDigit (h_X4_readSign (nI 45) X))) hk) (cwV 1 hts gX4_readNumber_X4_keepOperand rfl rfl rfl (by decide +kernel) ⟨Nat.le_of_ble_eq_true rfl, Nat.le_of_ble_eq_true rfl⟩) hK hP hS (va_recv (ci := 4) hK.1 hP rfl zG_x) rfl hl.1 rfl (Nat.le_of_ble_eq_true rfl) dX4_readNumber_67 ⟨Nat.zero_le _, Nat.zero_le _⟩ (fun H locs hP hS => ?_)
          refine lv_iconst (v := nI 1) hx hb dX4_readNumber_70 (by decide) ?_
          exact z_reti hx hb hr hlk (by first | rfl | decide) hP hS dX4_readNumber_71 (by simp only [g_X4_readNumber, if_neg c9_1, if_neg c22_8, if_neg c33_9, if_pos c43_11]) (congrArg (va_up Z 6) (by simp only [h_X4_readNumber, if_neg c9_1, if_neg c22_8, if_neg c33_9, if_pos c43_11]))
        · have hk := xQ_takeDigit (xQ_takeDigit (xQ_readSign (sign := nI 45) hX))
          refine lv_iload_n hx hb dX4_readNumber_46 rfl (lv_at hl 0 rfl) ?_
          refine lv_bipush (v := nI 10) hx hb dX4_readNumber_47 (by decide) ?_
          refine lv_imul hx hb dX4_readNumber_49 ?_
          refine lv_aload_n hx hb dX4_readNumber_50 rfl (lv_at hl 2 rfl) ?_
          refine z_cVi (As := []) (rest := [.int ((g_X4_takeDigit (h_X4_readSign (nI 45) X)) * (nI 10))]) ⟨hx, hb, hml, hown, hts⟩ (ct_X4_takeDigit l D a ca hJ Z (h_X4_takeDigit (h_X4_readSign (nI 45) X)) _ (xQ_takeDigit (xQ_readSign (sign := nI 45) hX))) (cwV 0 hts gX4_readNumber_X4_takeDigit rfl rfl rfl (by decide +kernel) ⟨Nat.le_of_ble_eq_true rfl, Nat.le_of_ble_eq_true rfl⟩) hK hP hS (va_recv (ci := 4) hK.1 hP rfl zG_x) rfl hl.1 rfl (Nat.le_of_ble_eq_true rfl) dX4_readNumber_51 ⟨Nat.zero_le _, Nat.zero_le _⟩ (fun H locs hP hS => ?_)
          refine lv_iadd hx hb dX4_readNumber_54 ?_
          refine lv_istore_n (lv' := [(2, .int (((g_X4_takeDigit (h_X4_readSign (nI 45) X)) * (nI 10)) + (g_X4_takeDigit (h_X4_takeDigit (h_X4_readSign (nI 45) X))))), (1, .int (g_X4_readSign (nI 45) X)), (0, .ref (a 117))]) hx hb dX4_readNumber_55 rfl hl (by decide) rfl (fun ls hl => ?_)
          refine lv_aload_n hx hb dX4_readNumber_56 rfl (lv_at hl 2 rfl) ?_
          refine lv_iload_n hx hb dX4_readNumber_57 rfl (lv_at hl 1 rfl) ?_
          refine lv_if_eq (tgt := 66) hx hb dX4_readNumber_58 (by decide) (fun c58_13 => absurd c58_13 c9_1) (fun c58_13 => ?_)
          refine lv_iload_n hx hb dX4_readNumber_61 rfl (lv_at hl 0 rfl) ?_
          refine lv_ineg hx hb dX4_readNumber_62 ?_
          refine lv_goto (tgt := 67) hx hb dX4_readNumber_63 (by decide) ?_
          refine z_cVv (As := [.int (-(((g_X4_takeDigit (h_X4_readSign (nI 45) X)) * (nI 10)) + (g_X4_takeDigit (h_X4_takeDigit (h_X4_readSign (nI 45) X)))))]) (rest := []) ⟨hx, hb, hml, hown, hts⟩ (ct_X4_keepOperand l D a ca hJ Z (h_X4_takeDigit (h_X4_takeDigit (h_X4_readSign (nI 45) X))) (-(((g_X4_takeDigit (h_X4_readSign (nI 45) X)) * (nI 10)) + (g_X4_takeDigit (h_X4_takeDigit (h_X4_readSign (nI 45) X))))) hk) (cwV 1 hts gX4_readNumber_X4_keepOperand rfl rfl rfl (by decide +kernel) ⟨Nat.le_of_ble_eq_true rfl, Nat.le_of_ble_eq_true rfl⟩) hK hP hS (va_recv (ci := 4) hK.1 hP rfl zG_x) rfl hl.1 rfl (Nat.le_of_ble_eq_true rfl) dX4_readNumber_67 ⟨Nat.zero_le _, Nat.zero_le _⟩ (fun H locs hP hS => ?_)
          refine lv_iconst (v := nI 1) hx hb dX4_readNumber_70 (by decide) ?_
          exact z_reti hx hb hr hlk (by first | rfl | decide) hP hS dX4_readNumber_71 (by simp only [g_X4_readNumber, if_neg c9_1, if_neg c22_8, if_neg c33_9, if_neg c43_11]) (congrArg (va_up Z 6) (by simp only [h_X4_readNumber, if_neg c9_1, if_neg c22_8, if_neg c33_9, if_neg c43_11]))
    · refine lv_iconst (v := nI 0) hx hb dX4_readNumber_25 (by decide) ?_
      exact z_reti hx hb hr hlk (by first | rfl | decide) hP hS dX4_readNumber_26 (by simp only [g_X4_readNumber, if_neg c9_1, if_pos c22_8]) (congrArg (va_up Z 6) (by simp only [h_X4_readNumber, if_neg c9_1, if_pos c22_8]))

def g_X4_readPlace  (X : zM) : Int32 := if (g_X4_isDigit (nI 0) (nI 9) X) = 0 then nI 0 else if (g_X4_takeDigit X) = 0 then nI 1 else if (g_X4_isDigit (nI 0) (if ((nI 47) - ((g_X4_takeDigit X) * (nI 10))) < (nI 9) then ((nI 47) - ((g_X4_takeDigit X) * (nI 10))) else (nI 9)) (h_X4_takeDigit X)) = 0 then nI 1 else nI 1
def h_X4_readPlace  (X : zM) : zM := if (g_X4_isDigit (nI 0) (nI 9) X) = 0 then X else if (g_X4_takeDigit X) = 0 then h_X4_keepOperand (g_X4_takeDigit X) (h_X4_takeDigit X) else if (g_X4_isDigit (nI 0) (if ((nI 47) - ((g_X4_takeDigit X) * (nI 10))) < (nI 9) then ((nI 47) - ((g_X4_takeDigit X) * (nI 10))) else (nI 9)) (h_X4_takeDigit X)) = 0 then h_X4_keepOperand (g_X4_takeDigit X) (h_X4_takeDigit X) else h_X4_keepOperand (((g_X4_takeDigit X) * (nI 10)) + (g_X4_takeDigit (h_X4_takeDigit X))) (h_X4_takeDigit (h_X4_takeDigit X))
set_option maxHeartbeats 4000000 in
set_option maxRecDepth 100000 in
theorem ct_X4_readPlace (l : Launch) (D : va_G) (a : Nat → Nat) (ca : Nat → ClassId) (hJ : zJ a) (Z : Nat → zM) (X : zM) (hX : xQ 50 X) : zCi l yX4_readPlace wsX4_readPlace ({ frames := 2, cells := 0, slots := 0, locals := 44 } : Room) D a ca [.ref (a 117)] (va_up Z 6 X) (g_X4_readPlace X) (va_up Z 6 (h_X4_readPlace X)) := by
  refine z_ofi (cc := cX4_readPlace) (maxL := 3) (own := RX4) (by decide) rfl (Nat.le_of_ble_eq_true rfl) rfl (fun p e s m below meth c ls hx hb hr hml hts hown hlk hl hK hP hS => ?_)
  have hl : lv_has ls 3 [(0, .ref (a 117))] := hl
  refine lv_aload_n hx hb dX4_readPlace_0 rfl (lv_at hl 0 rfl) ?_
  refine lv_iconst (v := nI 0) hx hb dX4_readPlace_1 (by decide) ?_
  refine lv_bipush (v := nI 9) hx hb dX4_readPlace_2 (by decide) ?_
  refine z_cVi (As := [.int (nI 0), .int (nI 9)]) (rest := []) ⟨hx, hb, hml, hown, hts⟩ (ct_X4_isDigit l D a ca hJ Z X (nI 0) (nI 9) _ hX) (cwV 2 hts gX4_readPlace_X4_isDigit rfl rfl rfl (by decide +kernel) ⟨Nat.le_of_ble_eq_true rfl, Nat.le_of_ble_eq_true rfl⟩) hK hP hS (va_recv (ci := 4) hK.1 hP rfl zG_x) rfl hl.1 rfl (Nat.le_of_ble_eq_true rfl) dX4_readPlace_4 ⟨Nat.zero_le _, Nat.zero_le _⟩ (fun H locs hP hS => ?_)
  refine lv_if_ne (tgt := 12) hx hb dX4_readPlace_7 (by decide) (fun c7_1 => ?_) (fun c7_1 => ?_)
  · refine lv_aload_n hx hb dX4_readPlace_12 rfl (lv_at hl 0 rfl) ?_
    refine z_cVi (As := []) (rest := []) ⟨hx, hb, hml, hown, hts⟩ (ct_X4_takeDigit l D a ca hJ Z X _ hX) (cwV 0 hts gX4_readPlace_X4_takeDigit rfl rfl rfl (by decide +kernel) ⟨Nat.le_of_ble_eq_true rfl, Nat.le_of_ble_eq_true rfl⟩) hK hP hS (va_recv (ci := 4) hK.1 hP rfl zG_x) rfl hl.1 rfl (Nat.le_of_ble_eq_true rfl) dX4_readPlace_13 ⟨Nat.zero_le _, Nat.zero_le _⟩ (fun H locs hP hS => ?_)
    refine lv_istore_n (lv' := [(1, .int (g_X4_takeDigit X)), (0, .ref (a 117))]) hx hb dX4_readPlace_16 rfl hl (by decide) rfl (fun ls hl => ?_)
    refine lv_bipush (v := nI 9) hx hb dX4_readPlace_17 (by decide) ?_
    refine lv_bipush (v := nI 47) hx hb dX4_readPlace_19 (by decide) ?_
    refine lv_iload_n hx hb dX4_readPlace_21 rfl (lv_at hl 0 rfl) ?_
    refine lv_bipush (v := nI 10) hx hb dX4_readPlace_22 (by decide) ?_
    refine lv_imul hx hb dX4_readPlace_24 ?_
    refine lv_isub hx hb dX4_readPlace_25 ?_
    refine va_mmin hx hb (hml.trans hl.1.symm) hown (hts (.methodLink RX4 91 Lib.Math.min.name) (by decide +kernel)) (hts (.static Lib.Math.min.name) (by decide +kernel)) (hts (.initialized "java/lang/Math") (by decide +kernel)) (hts (.code Lib.Math.min.name Lib.Math.min.code 2 (some .int)) (by decide +kernel)) (Nat.le_of_ble_eq_true rfl) (Nat.le_of_ble_eq_true rfl) (Nat.zero_le _) (Nat.zero_le _) dX4_readPlace_26 ?_
    refine lv_istore_n (lv' := [(2, .int (if ((nI 47) - ((g_X4_takeDigit X) * (nI 10))) < (nI 9) then ((nI 47) - ((g_X4_takeDigit X) * (nI 10))) else (nI 9))), (1, .int (g_X4_takeDigit X)), (0, .ref (a 117))]) hx hb dX4_readPlace_29 rfl hl (by decide) rfl (fun ls hl => ?_)
    refine lv_iload_n hx hb dX4_readPlace_30 rfl (lv_at hl 1 rfl) ?_
    refine lv_if_eq (tgt := 53) hx hb dX4_readPlace_31 (by decide) (fun c31_2 => ?_) (fun c31_2 => ?_)
    · have hk := (xQ_takeDigit hX)
      refine lv_aload_n hx hb dX4_readPlace_53 rfl (lv_at hl 2 rfl) ?_
      refine lv_iload_n hx hb dX4_readPlace_54 rfl (lv_at hl 1 rfl) ?_
      refine z_cVv (As := [.int (g_X4_takeDigit X)]) (rest := []) ⟨hx, hb, hml, hown, hts⟩ (ct_X4_keepOperand l D a ca hJ Z (h_X4_takeDigit X) (g_X4_takeDigit X) hk) (cwV 1 hts gX4_readPlace_X4_keepOperand rfl rfl rfl (by decide +kernel) ⟨Nat.le_of_ble_eq_true rfl, Nat.le_of_ble_eq_true rfl⟩) hK hP hS (va_recv (ci := 4) hK.1 hP rfl zG_x) rfl hl.1 rfl (Nat.le_of_ble_eq_true rfl) dX4_readPlace_55 ⟨Nat.zero_le _, Nat.zero_le _⟩ (fun H locs hP hS => ?_)
      refine lv_iconst (v := nI 1) hx hb dX4_readPlace_58 (by decide) ?_
      exact z_reti hx hb hr hlk (by first | rfl | decide) hP hS dX4_readPlace_59 (by simp only [g_X4_readPlace, if_neg c7_1, if_pos c31_2]) (congrArg (va_up Z 6) (by simp only [h_X4_readPlace, if_neg c7_1, if_pos c31_2]))
    · refine lv_aload_n hx hb dX4_readPlace_34 rfl (lv_at hl 2 rfl) ?_
      refine lv_iconst (v := nI 0) hx hb dX4_readPlace_35 (by decide) ?_
      refine lv_iload_n hx hb dX4_readPlace_36 rfl (lv_at hl 0 rfl) ?_
      refine z_cVi (As := [.int (nI 0), .int (if ((nI 47) - ((g_X4_takeDigit X) * (nI 10))) < (nI 9) then ((nI 47) - ((g_X4_takeDigit X) * (nI 10))) else (nI 9))]) (rest := []) ⟨hx, hb, hml, hown, hts⟩ (ct_X4_isDigit l D a ca hJ Z (h_X4_takeDigit X) (nI 0) (if ((nI 47) - ((g_X4_takeDigit X) * (nI 10))) < (nI 9) then ((nI 47) - ((g_X4_takeDigit X) * (nI 10))) else (nI 9)) _ (xQ_takeDigit hX)) (cwV 2 hts gX4_readPlace_X4_isDigit rfl rfl rfl (by decide +kernel) ⟨Nat.le_of_ble_eq_true rfl, Nat.le_of_ble_eq_true rfl⟩) hK hP hS (va_recv (ci := 4) hK.1 hP rfl zG_x) rfl hl.1 rfl (Nat.le_of_ble_eq_true rfl) dX4_readPlace_37 ⟨Nat.zero_le _, Nat.zero_le _⟩ (fun H locs hP hS => ?_)
      refine lv_if_eq (tgt := 53) hx hb dX4_readPlace_40 (by decide) (fun c40_3 => ?_) (fun c40_3 => ?_)
      · have hk := (xQ_takeDigit hX)
        refine lv_aload_n hx hb dX4_readPlace_53 rfl (lv_at hl 2 rfl) ?_
        refine lv_iload_n hx hb dX4_readPlace_54 rfl (lv_at hl 1 rfl) ?_
        refine z_cVv (As := [.int (g_X4_takeDigit X)]) (rest := []) ⟨hx, hb, hml, hown, hts⟩ (ct_X4_keepOperand l D a ca hJ Z (h_X4_takeDigit X) (g_X4_takeDigit X) hk) (cwV 1 hts gX4_readPlace_X4_keepOperand rfl rfl rfl (by decide +kernel) ⟨Nat.le_of_ble_eq_true rfl, Nat.le_of_ble_eq_true rfl⟩) hK hP hS (va_recv (ci := 4) hK.1 hP rfl zG_x) rfl hl.1 rfl (Nat.le_of_ble_eq_true rfl) dX4_readPlace_55 ⟨Nat.zero_le _, Nat.zero_le _⟩ (fun H locs hP hS => ?_)
        refine lv_iconst (v := nI 1) hx hb dX4_readPlace_58 (by decide) ?_
        exact z_reti hx hb hr hlk (by first | rfl | decide) hP hS dX4_readPlace_59 (by simp only [g_X4_readPlace, if_neg c7_1, if_neg c31_2, if_pos c40_3]) (congrArg (va_up Z 6) (by simp only [h_X4_readPlace, if_neg c7_1, if_neg c31_2, if_pos c40_3]))
      · have hk := xQ_takeDigit (xQ_takeDigit hX)
        refine lv_iload_n hx hb dX4_readPlace_43 rfl (lv_at hl 1 rfl) ?_
        refine lv_bipush (v := nI 10) hx hb dX4_readPlace_44 (by decide) ?_
        refine lv_imul hx hb dX4_readPlace_46 ?_
        refine lv_aload_n hx hb dX4_readPlace_47 rfl (lv_at hl 2 rfl) ?_
        refine z_cVi (As := []) (rest := [.int ((g_X4_takeDigit X) * (nI 10))]) ⟨hx, hb, hml, hown, hts⟩ (ct_X4_takeDigit l D a ca hJ Z (h_X4_takeDigit X) _ (xQ_takeDigit hX)) (cwV 0 hts gX4_readPlace_X4_takeDigit rfl rfl rfl (by decide +kernel) ⟨Nat.le_of_ble_eq_true rfl, Nat.le_of_ble_eq_true rfl⟩) hK hP hS (va_recv (ci := 4) hK.1 hP rfl zG_x) rfl hl.1 rfl (Nat.le_of_ble_eq_true rfl) dX4_readPlace_48 ⟨Nat.zero_le _, Nat.zero_le _⟩ (fun H locs hP hS => ?_)
        refine lv_iadd hx hb dX4_readPlace_51 ?_
        refine lv_istore_n (lv' := [(1, .int (((g_X4_takeDigit X) * (nI 10)) + (g_X4_takeDigit (h_X4_takeDigit X)))), (2, .int (if ((nI 47) - ((g_X4_takeDigit X) * (nI 10))) < (nI 9) then ((nI 47) - ((g_X4_takeDigit X) * (nI 10))) else (nI 9))), (0, .ref (a 117))]) hx hb dX4_readPlace_52 rfl hl (by decide) rfl (fun ls hl => ?_)
        refine lv_aload_n hx hb dX4_readPlace_53 rfl (lv_at hl 2 rfl) ?_
        refine lv_iload_n hx hb dX4_readPlace_54 rfl (lv_at hl 0 rfl) ?_
        refine z_cVv (As := [.int (((g_X4_takeDigit X) * (nI 10)) + (g_X4_takeDigit (h_X4_takeDigit X)))]) (rest := []) ⟨hx, hb, hml, hown, hts⟩ (ct_X4_keepOperand l D a ca hJ Z (h_X4_takeDigit (h_X4_takeDigit X)) (((g_X4_takeDigit X) * (nI 10)) + (g_X4_takeDigit (h_X4_takeDigit X))) hk) (cwV 1 hts gX4_readPlace_X4_keepOperand rfl rfl rfl (by decide +kernel) ⟨Nat.le_of_ble_eq_true rfl, Nat.le_of_ble_eq_true rfl⟩) hK hP hS (va_recv (ci := 4) hK.1 hP rfl zG_x) rfl hl.1 rfl (Nat.le_of_ble_eq_true rfl) dX4_readPlace_55 ⟨Nat.zero_le _, Nat.zero_le _⟩ (fun H locs hP hS => ?_)
        refine lv_iconst (v := nI 1) hx hb dX4_readPlace_58 (by decide) ?_
        exact z_reti hx hb hr hlk (by first | rfl | decide) hP hS dX4_readPlace_59 (by simp only [g_X4_readPlace, if_neg c7_1, if_neg c31_2, if_neg c40_3]) (congrArg (va_up Z 6) (by simp only [h_X4_readPlace, if_neg c7_1, if_neg c31_2, if_neg c40_3]))
  · refine lv_iconst (v := nI 0) hx hb dX4_readPlace_10 (by decide) ?_
    exact z_reti hx hb hr hlk (by first | rfl | decide) hP hS dX4_readPlace_11 (by simp only [g_X4_readPlace, if_pos c7_1]) (congrArg (va_up Z 6) (by simp only [h_X4_readPlace, if_pos c7_1]))

theorem xQ_readRegister {n : Nat} {X : zM} (h : xQ n X) : xQ n (h_X4_readRegister X) := by
  unfold h_X4_readRegister
  exact z_ite (P := fun Y => xQ n Y) (fun _ => h) (fun _ => xQ_keepOperand (xQ_takeDigit h))
theorem xQ_readNumber {n : Nat} {X : zM} (h : xQ n X) : xQ n (h_X4_readNumber X) := by
  have h1 : xQ n (h_X4_readSign (nI 45) X) := xQ_readSign h
  have h2 : xQ n (h_X4_takeDigit (h_X4_readSign (nI 45) X)) := xQ_takeDigit h1
  have h3 : xQ n (h_X4_takeDigit (h_X4_takeDigit (h_X4_readSign (nI 45) X))) := xQ_takeDigit h2
  have k2 : ∀ v, xQ n (h_X4_keepOperand v (h_X4_takeDigit (h_X4_readSign (nI 45) X))) := fun v => xQ_keepOperand h2
  have k3 : ∀ v, xQ n (h_X4_keepOperand v (h_X4_takeDigit (h_X4_takeDigit (h_X4_readSign (nI 45) X)))) := fun v => xQ_keepOperand h3
  unfold h_X4_readNumber
  exact z_ite (P := fun Y => xQ n Y) (fun _ => z_ite (P := fun Y => xQ n Y) (fun _ => h1) (fun _ => z_ite (P := fun Y => xQ n Y) (fun _ => k2 _) (fun _ => z_ite (P := fun Y => xQ n Y) (fun _ => k2 _) (fun _ => k3 _)))) (fun _ => z_ite (P := fun Y => xQ n Y) (fun _ => h1) (fun _ => z_ite (P := fun Y => xQ n Y) (fun _ => k2 _) (fun _ => z_ite (P := fun Y => xQ n Y) (fun _ => k2 _) (fun _ => k3 _))))
theorem xQ_readPlace {n : Nat} {X : zM} (h : xQ n X) : xQ n (h_X4_readPlace X) := by
  have h2 : xQ n (h_X4_takeDigit X) := xQ_takeDigit h
  have h3 : xQ n (h_X4_takeDigit (h_X4_takeDigit X)) := xQ_takeDigit h2
  have k2 : ∀ v, xQ n (h_X4_keepOperand v (h_X4_takeDigit X)) := fun v => xQ_keepOperand h2
  have k3 : ∀ v, xQ n (h_X4_keepOperand v (h_X4_takeDigit (h_X4_takeDigit X))) := fun v => xQ_keepOperand h3
  unfold h_X4_readPlace
  exact z_ite (P := fun Y => xQ n Y) (fun _ => h) (fun _ => z_ite (P := fun Y => xQ n Y) (fun _ => k2 _) (fun _ => z_ite (P := fun Y => xQ n Y) (fun _ => k2 _) (fun _ => k3 _)))
