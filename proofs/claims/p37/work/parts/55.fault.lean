theorem xQ_readOperands {n : Nat} {X : zM} {op : Int32} (h : xQ n X) : xQ n (h_X4_readOperands op X) := by
  have r1 : xQ n (h_X4_readRegister X) := xQ_readRegister h
  have rr : xQ n (h_X4_readRegister (h_X4_readRegister X)) := xQ_readRegister r1
  have s1 : ∀ v, xQ n (h_X4_readSign v (h_X4_readRegister X)) := fun v => xQ_readSign r1
  have n1 : ∀ v, xQ n (h_X4_readNumber (h_X4_readSign v (h_X4_readRegister X))) := fun v => xQ_readNumber (s1 v)
  have p1 : ∀ v, xQ n (h_X4_readPlace (h_X4_readSign v (h_X4_readRegister X))) := fun v => xQ_readPlace (s1 v)
  have p0 : xQ n (h_X4_readPlace X) := xQ_readPlace h
  unfold h_X4_readOperands
  exact (z_ite (P := fun Y => xQ n Y) (fun _ => (z_ite (P := fun Y => xQ n Y) (fun _ => r1) (fun _ => (z_ite (P := fun Y => xQ n Y) (fun _ => (s1 (nI 61))) (fun _ => (z_ite (P := fun Y => xQ n Y) (fun _ => (n1 (nI 61))) (fun _ => (n1 (nI 61))))))))) (fun _ => (z_ite (P := fun Y => xQ n Y) (fun _ => (z_ite (P := fun Y => xQ n Y) (fun _ => r1) (fun _ => (z_ite (P := fun Y => xQ n Y) (fun _ => rr) (fun _ => rr))))) (fun _ => (z_ite (P := fun Y => xQ n Y) (fun _ => (z_ite (P := fun Y => xQ n Y) (fun _ => r1) (fun _ => (z_ite (P := fun Y => xQ n Y) (fun _ => rr) (fun _ => rr))))) (fun _ => (z_ite (P := fun Y => xQ n Y) (fun _ => (z_ite (P := fun Y => xQ n Y) (fun _ => r1) (fun _ => (z_ite (P := fun Y => xQ n Y) (fun _ => rr) (fun _ => rr))))) (fun _ => (z_ite (P := fun Y => xQ n Y) (fun _ => (z_ite (P := fun Y => xQ n Y) (fun _ => r1) (fun _ => (z_ite (P := fun Y => xQ n Y) (fun _ => rr) (fun _ => rr))))) (fun _ => (z_ite (P := fun Y => xQ n Y) (fun _ => (z_ite (P := fun Y => xQ n Y) (fun _ => r1) (fun _ => (z_ite (P := fun Y => xQ n Y) (fun _ => rr) (fun _ => rr))))) (fun _ => (z_ite (P := fun Y => xQ n Y) (fun _ => (z_ite (P := fun Y => xQ n Y) (fun _ => r1) (fun _ => (z_ite (P := fun Y => xQ n Y) (fun _ => rr) (fun _ => rr))))) (fun _ => (z_ite (P := fun Y => xQ n Y) (fun _ => p0) (fun _ => (z_ite (P := fun Y => xQ n Y) (fun _ => (z_ite (P := fun Y => xQ n Y) (fun _ => r1) (fun _ => (z_ite (P := fun Y => xQ n Y) (fun _ => (s1 (nI 62))) (fun _ => (z_ite (P := fun Y => xQ n Y) (fun _ => (p1 (nI 62))) (fun _ => (p1 (nI 62))))))))) (fun _ => (z_ite (P := fun Y => xQ n Y) (fun _ => (z_ite (P := fun Y => xQ n Y) (fun _ => r1) (fun _ => (z_ite (P := fun Y => xQ n Y) (fun _ => (s1 (nI 62))) (fun _ => (z_ite (P := fun Y => xQ n Y) (fun _ => (p1 (nI 62))) (fun _ => (p1 (nI 62))))))))) (fun _ => (z_ite (P := fun Y => xQ n Y) (fun _ => h) (fun _ => (z_ite (P := fun Y => xQ n Y) (fun _ => h) (fun _ => (z_ite (P := fun Y => xQ n Y) (fun _ => r1) (fun _ => (z_ite (P := fun Y => xQ n Y) (fun _ => rr) (fun _ => rr))))))))))))))))))))))))))))

def g_X4_readInstruction  (X : zM) : Int32 := if (nI (zc (X 1 0))) ≤ (nI (zc (X 1 1))) then nI 0 else if (nI (zc (X 1 2))) < (nI 50) then if 0 ≤ (g_J0_indexOf_0f7a4 (X 2 (zc (X 1 1)))) then if (g_X4_readOperands (g_J0_indexOf_0f7a4 (X 2 (zc (X 1 1)))) (h_X4_beginRow (g_J0_indexOf_0f7a4 (X 2 (zc (X 1 1)))) (zu X 1 1 (nI (zc (X 1 1) + 1))))) = 0 then nI 0 else nI 1 else nI 0 else nI 0
def h_X4_readInstruction  (X : zM) : zM := if (nI (zc (X 1 0))) ≤ (nI (zc (X 1 1))) then X else if (nI (zc (X 1 2))) < (nI 50) then if 0 ≤ (g_J0_indexOf_0f7a4 (X 2 (zc (X 1 1)))) then if (g_X4_readOperands (g_J0_indexOf_0f7a4 (X 2 (zc (X 1 1)))) (h_X4_beginRow (g_J0_indexOf_0f7a4 (X 2 (zc (X 1 1)))) (zu X 1 1 (nI (zc (X 1 1) + 1))))) = 0 then h_X4_readOperands (g_J0_indexOf_0f7a4 (X 2 (zc (X 1 1)))) (h_X4_beginRow (g_J0_indexOf_0f7a4 (X 2 (zc (X 1 1)))) (zu X 1 1 (nI (zc (X 1 1) + 1)))) else zu (h_X4_readOperands (g_J0_indexOf_0f7a4 (X 2 (zc (X 1 1)))) (h_X4_beginRow (g_J0_indexOf_0f7a4 (X 2 (zc (X 1 1)))) (zu X 1 1 (nI (zc (X 1 1) + 1))))) 1 2 (nI (zc ((h_X4_readOperands (g_J0_indexOf_0f7a4 (X 2 (zc (X 1 1)))) (h_X4_beginRow (g_J0_indexOf_0f7a4 (X 2 (zc (X 1 1)))) (zu X 1 1 (nI (zc (X 1 1) + 1))))) 1 2) + 1)) else X else X
set_option maxHeartbeats 4000000 in
set_option maxRecDepth 100000 in
theorem ct_X4_readInstruction (l : Launch) (D : va_G) (a : Nat → Nat) (ca : Nat → ClassId) (hJ : zJ a) (qs qv : Nat) (Z : Nat → zM) (X : zM) (hX : xQ 51 X) : zTi l yX4_readInstruction wsX4_readInstruction ({ frames := 4, cells := 0, slots := 0, locals := 91 } : Room) D a ca qs qv [.ref (a 117)] (va_up Z 6 X) (g_X4_readInstruction X) (va_up Z 6 (h_X4_readInstruction X)) := by
  have hiX4 : ∀ w ∈ wsX40, w ∈ wsX4_readInstruction := by decide +kernel
  refine t_ofi (cc := cX4_readInstruction) (maxL := 2) (own := RX4) (by decide) rfl (Nat.le_of_ble_eq_true rfl) rfl (fun p e s m below meth c ls hx hb hr hml hts hown hlk hl hK hE hP hS => ?_)
  have hl : lv_has ls 2 [(0, .ref (a 117))] := hl
  refine lv_aload_n hx hb dX4_readInstruction_0 rfl (lv_at hl 0 rfl) ?_
  refine zgx2 hx hb hts hiX4 hown hK hP  (hts (.fieldLink RX4 26 "BarrelProcessor$Text" "position" "I") (by decide +kernel)) dX4_readInstruction_1 ?_
  refine z_val (z := nI (zc (X 1 1))) hX.2.1.2 ?_
  refine lv_aload_n hx hb dX4_readInstruction_4 rfl (lv_at hl 0 rfl) ?_
  refine zgx1 hx hb hts hiX4 hown hK hP  (hts (.fieldLink RX4 22 "BarrelProcessor$Text" "length" "I") (by decide +kernel)) dX4_readInstruction_5 ?_
  refine z_val (z := nI (zc (X 1 0))) hX.1.2 ?_
  refine lv_icmp_ge (tgt := 20) hx hb dX4_readInstruction_8 (by decide) (fun c8_1 => ?_) (fun c8_1 => ?_)
  · refine lv_iconst (v := nI 0) hx hb dX4_readInstruction_20 (by decide) ?_
    exact z_reti hx hb hr hlk (by first | rfl | decide) hP hS dX4_readInstruction_21 (by simp only [g_X4_readInstruction, if_pos c8_1]) (congrArg (va_up Z 6) (by simp only [h_X4_readInstruction, if_pos c8_1]))
  · have bx := c8_1
    refine lv_aload_n hx hb dX4_readInstruction_11 rfl (lv_at hl 0 rfl) ?_
    refine zgx4 hx hb hts hiX4 hown hK hP  (hts (.fieldLink RX4 29 "BarrelProcessor$Text" "instructionCount" "I") (by decide +kernel)) dX4_readInstruction_12 ?_
    refine z_val (z := nI (zc (X 1 2))) hX.2.2.1.2 ?_
    refine lv_bipush (v := nI 50) hx hb dX4_readInstruction_15 (by decide) ?_
    refine lv_icmp_lt (tgt := 22) hx hb dX4_readInstruction_17 (by decide) (fun c17_2 => ?_) (fun c17_2 => ?_)
    · have hQ : xQ 50 X := xQ_in hX ((nI_ltI (by have h9 := hX.2.2.1.1; omega) (by decide)).mp c17_2)
      refine va_ldcS hx hb hown hE.1 dX4_readInstruction_22 ?_
      refine lv_aload_n hx hb dX4_readInstruction_24 rfl (lv_at hl 0 rfl) ?_
      refine zgx0 hx hb hts hiX4 hown hK hP  (hts (.fieldLink RX4 11 "BarrelProcessor$Text" "characters" "[C") (by decide +kernel)) dX4_readInstruction_25 ?_
      refine lv_aload_n hx hb dX4_readInstruction_28 rfl (lv_at hl 0 rfl) ?_
      refine zgx2 hx hb hts hiX4 hown hK hP  (hts (.fieldLink RX4 26 "BarrelProcessor$Text" "position" "I") (by decide +kernel)) dX4_readInstruction_29 ?_
      refine z_val (z := nI (zc (X 1 1))) hX.2.1.2 ?_
      refine z_cald hx hb hK hP zG_ch (j := zc (X 1 1)) (by have h9 := x_pos hX bx; omega) (by decide) dX4_readInstruction_32 ?_
      refine z_cJ (As := [.int (X 2 (zc (X 1 1)))]) (rest := []) ⟨hx, hb, hml, hown, hts⟩ (fun Hh => ct_J0_indexOf_0f7a4 l qs qv Hh (X 2 (zc (X 1 1)))) (cwV 1 hts gX4_readInstruction_J0_indexOf_0f7a4 rfl rfl rfl (by decide +kernel) ⟨Nat.le_of_ble_eq_true rfl, Nat.le_of_ble_eq_true rfl⟩) hE hP hS rfl hl.1 rfl (Nat.le_of_ble_eq_true rfl) dX4_readInstruction_33 ⟨Nat.zero_le _, Nat.zero_le _⟩ (fun H locs hP hS => ?_)
      refine lv_istore_n (lv' := [(1, .int (g_J0_indexOf_0f7a4 (X 2 (zc (X 1 1))))), (0, .ref (a 117))]) hx hb dX4_readInstruction_36 rfl hl (by decide) rfl (fun ls hl => ?_)
      refine lv_iload_n hx hb dX4_readInstruction_37 rfl (lv_at hl 0 rfl) ?_
      refine lv_if_ge (tgt := 43) hx hb dX4_readInstruction_38 (by decide) (fun c38_3 => ?_) (fun c38_3 => ?_)
      · refine lv_aload_n hx hb dX4_readInstruction_43 rfl (lv_at hl 1 rfl) ?_
        refine lv_dup hx hb dX4_readInstruction_44 rfl ?_
        refine zgx2 hx hb hts hiX4 hown hK hP  (hts (.fieldLink RX4 26 "BarrelProcessor$Text" "position" "I") (by decide +kernel)) dX4_readInstruction_45 ?_
        refine z_val (z := nI (zc (X 1 1))) hX.2.1.2 ?_
        refine lv_iconst (v := nI 1) hx hb dX4_readInstruction_48 (by decide) ?_
        refine lv_iadd hx hb dX4_readInstruction_49 ?_
        refine z_val (z := nI (zc (X 1 1) + 1)) (nI_add _ _) ?_
        refine zpx2 hx hb hts hiX4 hown hK hP hJ hS  (hts (.fieldLink RX4 26 "BarrelProcessor$Text" "position" "I") (by decide +kernel)) dX4_readInstruction_50 (fun H locs hP hS => ?_)
        refine lv_aload_n hx hb dX4_readInstruction_53 rfl (lv_at hl 1 rfl) ?_
        refine lv_iload_n hx hb dX4_readInstruction_54 rfl (lv_at hl 0 rfl) ?_
        refine z_cVv (As := [.int (g_J0_indexOf_0f7a4 (X 2 (zc (X 1 1))))]) (rest := []) ⟨hx, hb, hml, hown, hts⟩ (ct_X4_beginRow l D a ca hJ Z (zu X 1 1 (nI (zc (X 1 1) + 1))) (g_J0_indexOf_0f7a4 (X 2 (zc (X 1 1)))) (xQ_1 (x_posI hX bx) hQ)) (cwV 1 hts gX4_readInstruction_X4_beginRow rfl rfl rfl (by decide +kernel) ⟨Nat.le_of_ble_eq_true rfl, Nat.le_of_ble_eq_true rfl⟩) hK hP hS (va_recv (ci := 4) hK.1 hP rfl zG_x) rfl hl.1 rfl (Nat.le_of_ble_eq_true rfl) dX4_readInstruction_55 ⟨Nat.zero_le _, Nat.zero_le _⟩ (fun H locs hP hS => ?_)
        refine lv_aload_n hx hb dX4_readInstruction_58 rfl (lv_at hl 1 rfl) ?_
        refine lv_iload_n hx hb dX4_readInstruction_59 rfl (lv_at hl 0 rfl) ?_
        refine z_cVi (As := [.int (g_J0_indexOf_0f7a4 (X 2 (zc (X 1 1))))]) (rest := []) ⟨hx, hb, hml, hown, hts⟩ (ct_X4_readOperands l D a ca hJ Z (h_X4_beginRow (g_J0_indexOf_0f7a4 (X 2 (zc (X 1 1)))) (zu X 1 1 (nI (zc (X 1 1) + 1)))) (g_J0_indexOf_0f7a4 (X 2 (zc (X 1 1)))) (xQ_beginRow (xQ_1 (x_posI hX bx) hQ))) (cwV 1 hts gX4_readInstruction_X4_readOperands rfl rfl rfl (by decide +kernel) ⟨Nat.le_of_ble_eq_true rfl, Nat.le_of_ble_eq_true rfl⟩) hK hP hS (va_recv (ci := 4) hK.1 hP rfl zG_x) rfl hl.1 rfl (Nat.le_of_ble_eq_true rfl) dX4_readInstruction_60 ⟨Nat.zero_le _, Nat.zero_le _⟩ (fun H locs hP hS => ?_)
        refine lv_if_ne (tgt := 68) hx hb dX4_readInstruction_63 (by decide) (fun c63_4 => ?_) (fun c63_4 => ?_)
        · refine lv_aload_n hx hb dX4_readInstruction_68 rfl (lv_at hl 1 rfl) ?_
          refine lv_dup hx hb dX4_readInstruction_69 rfl ?_
          refine zgx4 hx hb hts hiX4 hown hK hP  (hts (.fieldLink RX4 29 "BarrelProcessor$Text" "instructionCount" "I") (by decide +kernel)) dX4_readInstruction_70 ?_
          refine z_val (z := nI (zc ((h_X4_readOperands (g_J0_indexOf_0f7a4 (X 2 (zc (X 1 1)))) (h_X4_beginRow (g_J0_indexOf_0f7a4 (X 2 (zc (X 1 1)))) (zu X 1 1 (nI (zc (X 1 1) + 1))))) 1 2))) (xQ_readOperands (xQ_beginRow (xQ_1 (x_posI hX bx) hQ))).2.2.1.2 ?_
          refine lv_iconst (v := nI 1) hx hb dX4_readInstruction_73 (by decide) ?_
          refine lv_iadd hx hb dX4_readInstruction_74 ?_
          refine z_val (z := nI (zc ((h_X4_readOperands (g_J0_indexOf_0f7a4 (X 2 (zc (X 1 1)))) (h_X4_beginRow (g_J0_indexOf_0f7a4 (X 2 (zc (X 1 1)))) (zu X 1 1 (nI (zc (X 1 1) + 1))))) 1 2) + 1)) (nI_add _ _) ?_
          refine zpx4 hx hb hts hiX4 hown hK hP hJ hS  (hts (.fieldLink RX4 29 "BarrelProcessor$Text" "instructionCount" "I") (by decide +kernel)) dX4_readInstruction_75 (fun H locs hP hS => ?_)
          refine lv_iconst (v := nI 1) hx hb dX4_readInstruction_78 (by decide) ?_
          exact z_reti hx hb hr hlk (by first | rfl | decide) hP hS dX4_readInstruction_79 (by simp only [g_X4_readInstruction, if_neg c8_1, if_pos c17_2, if_pos c38_3, if_neg c63_4]) (congrArg (va_up Z 6) (by simp only [h_X4_readInstruction, if_neg c8_1, if_pos c17_2, if_pos c38_3, if_neg c63_4]))
        · refine lv_iconst (v := nI 0) hx hb dX4_readInstruction_66 (by decide) ?_
          exact z_reti hx hb hr hlk (by first | rfl | decide) hP hS dX4_readInstruction_67 (by simp only [g_X4_readInstruction, if_neg c8_1, if_pos c17_2, if_pos c38_3, if_pos c63_4]) (congrArg (va_up Z 6) (by simp only [h_X4_readInstruction, if_neg c8_1, if_pos c17_2, if_pos c38_3, if_pos c63_4]))
      · refine lv_iconst (v := nI 0) hx hb dX4_readInstruction_41 (by decide) ?_
        exact z_reti hx hb hr hlk (by first | rfl | decide) hP hS dX4_readInstruction_42 (by simp only [g_X4_readInstruction, if_neg c8_1, if_pos c17_2, if_neg c38_3]) (congrArg (va_up Z 6) (by simp only [h_X4_readInstruction, if_neg c8_1, if_pos c17_2, if_neg c38_3]))
    · refine lv_iconst (v := nI 0) hx hb dX4_readInstruction_20 (by decide) ?_
      exact z_reti hx hb hr hlk (by first | rfl | decide) hP hS dX4_readInstruction_21 (by simp only [g_X4_readInstruction, if_neg c8_1, if_neg c17_2]) (congrArg (va_up Z 6) (by simp only [h_X4_readInstruction, if_neg c8_1, if_neg c17_2]))

theorem xQ_readInstruction {X : zM} (h : xQ 51 X) : xQ 51 (h_X4_readInstruction X) := by
  have h9 := h.2.2.1.1
  unfold h_X4_readInstruction
  refine z_ite (P := fun Y => xQ 51 Y) (fun _ => h) (fun c => ?_)
  refine z_ite (P := fun Y => xQ 51 Y) (fun c2 => ?_) (fun _ => h)
  have hQ : xQ 50 X := xQ_in h ((nI_ltI (by omega) (by decide)).mp c2)
  refine z_ite (P := fun Y => xQ 51 Y) (fun _ => ?_) (fun _ => h)
  have k0 := xQ_1 (x_posI h c) hQ
  have k : ∀ v, xQ 50 (h_X4_readOperands v (h_X4_beginRow v (zu X 1 1 (nI (zc (X 1 1) + 1))))) := fun v => xQ_readOperands (xQ_beginRow k0)
  refine z_ite (P := fun Y => xQ 51 Y) (fun _ => xQ_up (k _) (by decide)) (fun _ => ?_)
  have k2 := (k (g_J0_indexOf_0f7a4 (X 2 (zc (X 1 1))))).2.2.1.1
  exact xQ_2 (zIn_nI (by omega) (by decide)) (k _)

def g_X4_findFault_lp  : Nat → Int32 → Nat → zM → Int32
  | 0, one, i, X => if one = 0 then X 1 1 else (-100005)
  | n + 1, one, i, X => if one = 0 then X 1 1 else if (nI (zc (X 1 0))) ≤ (nI (zc (X 1 1))) then (-100005) else if (g_X4_readSign (nI 59) X) = 0 then g_X4_findFault_lp n (nI 0) (i + 1) (h_X4_readSign (nI 59) X) else if (g_X4_readInstruction (h_X4_readSign (nI 59) X)) = 0 then g_X4_findFault_lp n (nI 0) (i + 1) (h_X4_readInstruction (h_X4_readSign (nI 59) X)) else g_X4_findFault_lp n (nI 1) (i + 1) (h_X4_readInstruction (h_X4_readSign (nI 59) X))
def h_X4_findFault_lp  : Nat → Int32 → Nat → zM → zM
  | 0, one, i, X => if one = 0 then X else X
  | n + 1, one, i, X => if one = 0 then X else if (nI (zc (X 1 0))) ≤ (nI (zc (X 1 1))) then X else if (g_X4_readSign (nI 59) X) = 0 then h_X4_findFault_lp n (nI 0) (i + 1) (h_X4_readSign (nI 59) X) else if (g_X4_readInstruction (h_X4_readSign (nI 59) X)) = 0 then h_X4_findFault_lp n (nI 0) (i + 1) (h_X4_readInstruction (h_X4_readSign (nI 59) X)) else h_X4_findFault_lp n (nI 1) (i + 1) (h_X4_readInstruction (h_X4_readSign (nI 59) X))
def g_X4_findFault  (X : zM) : Int32 := g_X4_findFault_lp 100 (g_X4_readInstruction (zu (zu X 1 1 (nI 0)) 1 2 (nI 0))) 0 (h_X4_readInstruction (zu (zu X 1 1 (nI 0)) 1 2 (nI 0)))
def h_X4_findFault  (X : zM) : zM := h_X4_findFault_lp 100 (g_X4_readInstruction (zu (zu X 1 1 (nI 0)) 1 2 (nI 0))) 0 (h_X4_readInstruction (zu (zu X 1 1 (nI 0)) 1 2 (nI 0)))
set_option maxHeartbeats 4000000 in
set_option maxRecDepth 100000 in
theorem ct_X4_findFault (l : Launch) (D : va_G) (a : Nat → Nat) (ca : Nat → ClassId) (hJ : zJ a) (qs qv : Nat) (Z : Nat → zM) (X : zM) (hX : xQ 51 X) : zTi l yX4_findFault wsX4_findFault ({ frames := 5, cells := 0, slots := 0, locals := 112 } : Room) D a ca qs qv [.ref (a 117)] (va_up Z 6 X) (g_X4_findFault X) (va_up Z 6 (h_X4_findFault X)) := by
  have hiX4 : ∀ w ∈ wsX40, w ∈ wsX4_findFault := by decide +kernel
  refine t_ofi (cc := cX4_findFault) (maxL := 3) (own := RX4) (by decide) rfl (Nat.le_of_ble_eq_true rfl) rfl (fun p e s m below meth c ls hx hb hr hml hts hown hlk hl hK hE hP hS => ?_)
  have hl : lv_has ls 3 [(0, .ref (a 117))] := hl
  have lp17 : ∀ (n : Nat) (one : Int32) (i : Nat) (X : zM) (H : Heap) (locs : List Loc) (ls : Array Slot) (hn : i + n = 100) (hX : xQ 51 X) (hl : lv_has ls 3 [(0, .ref (a 117)), (1, .int one), (2, .int (nI i))]) (hP : va_P D vwCl (zW a ca (va_up Z 6 X)) H) (hS : va_S (zA a) s.heap H locs), W p l e ({ frames := 5, cells := 0, slots := 0, locals := 112 } : Room) s m ([.ref (a 117)] : List Value).toArray below meth c H locs 0 0 (zQi below D a ca [.ref (a 117)] s (g_X4_findFault_lp n one i X) (va_up Z 6 (h_X4_findFault_lp n one i X))) (F0 m 17 ls []) := by
    intro n
    induction n with
    | zero =>
      intro one i X H locs ls hn hX hl hP hS
      refine lv_iload_n hx hb dX4_findFault_17 rfl (lv_at hl 2 rfl) ?_
      refine lv_bipush (v := nI 100) hx hb dX4_findFault_18 (by decide) ?_
      refine lv_icmp_ge (tgt := 66) hx hb dX4_findFault_20 (by decide) (fun c20_1 => ?_) (fun c20_1 => absurd (nI_le (by omega) (by omega)) c20_1)
      refine lv_iload_n hx hb dX4_findFault_66 rfl (lv_at hl 1 rfl) ?_
      refine lv_if_eq (tgt := 75) hx hb dX4_findFault_67 (by decide) (fun c67_2 => ?_) (fun c67_2 => ?_)
      · refine lv_aload_n hx hb dX4_findFault_75 rfl (lv_at hl 0 rfl) ?_
        refine zgx2 hx hb hts hiX4 hown hK hP  (hts (.fieldLink RX4 26 "BarrelProcessor$Text" "position" "I") (by decide +kernel)) dX4_findFault_76 ?_
        exact z_reti hx hb hr hlk rfl hP hS dX4_findFault_79 (by simp only [g_X4_findFault_lp, if_pos c67_2]) (congrArg (va_up Z 6) (by simp only [h_X4_findFault_lp, if_pos c67_2]))
      · refine lv_ldc (v := (-100005)) hx hb hown (hts (.constant RX4 40 (-100005)) (by decide +kernel)) dX4_findFault_70 ?_
        refine lv_goto (tgt := 79) hx hb dX4_findFault_72 (by decide) ?_
        exact z_reti hx hb hr hlk rfl hP hS dX4_findFault_79 (by simp only [g_X4_findFault_lp, if_neg c67_2]) (congrArg (va_up Z 6) (by simp only [h_X4_findFault_lp, if_neg c67_2]))
    | succ n ih =>
      intro one i X H locs ls hn hX hl hP hS
      refine lv_iload_n hx hb dX4_findFault_17 rfl (lv_at hl 2 rfl) ?_
      refine lv_bipush (v := nI 100) hx hb dX4_findFault_18 (by decide) ?_
      refine lv_icmp_ge (tgt := 66) hx hb dX4_findFault_20 (by decide) (fun c20_3 => absurd c20_3 (nI_ge (by omega) (by decide))) (fun c20_3 => ?_)
      refine lv_iload_n hx hb dX4_findFault_23 rfl (lv_at hl 1 rfl) ?_
      refine lv_if_eq (tgt := 66) hx hb dX4_findFault_24 (by decide) (fun c24_4 => ?_) (fun c24_4 => ?_)
      · refine lv_iload_n hx hb dX4_findFault_66 rfl (lv_at hl 1 rfl) ?_
        refine lv_if_eq (tgt := 75) hx hb dX4_findFault_67 (by decide) (fun c67_5 => ?_) (fun c67_5 => absurd c24_4 c67_5)
        refine lv_aload_n hx hb dX4_findFault_75 rfl (lv_at hl 0 rfl) ?_
        refine zgx2 hx hb hts hiX4 hown hK hP  (hts (.fieldLink RX4 26 "BarrelProcessor$Text" "position" "I") (by decide +kernel)) dX4_findFault_76 ?_
        exact z_reti hx hb hr hlk rfl hP hS dX4_findFault_79 (by simp only [g_X4_findFault_lp, if_pos c24_4]) (congrArg (va_up Z 6) (by simp only [h_X4_findFault_lp, if_pos c24_4]))
      · refine lv_aload_n hx hb dX4_findFault_27 rfl (lv_at hl 0 rfl) ?_
        refine zgx2 hx hb hts hiX4 hown hK hP  (hts (.fieldLink RX4 26 "BarrelProcessor$Text" "position" "I") (by decide +kernel)) dX4_findFault_28 ?_
        refine z_val (z := nI (zc (X 1 1))) hX.2.1.2 ?_
        refine lv_aload_n hx hb dX4_findFault_31 rfl (lv_at hl 0 rfl) ?_
        refine zgx1 hx hb hts hiX4 hown hK hP  (hts (.fieldLink RX4 22 "BarrelProcessor$Text" "length" "I") (by decide +kernel)) dX4_findFault_32 ?_
        refine z_val (z := nI (zc (X 1 0))) hX.1.2 ?_
        refine lv_icmp_ge (tgt := 66) hx hb dX4_findFault_35 (by decide) (fun c35_6 => ?_) (fun c35_6 => ?_)
        · refine lv_iload_n hx hb dX4_findFault_66 rfl (lv_at hl 1 rfl) ?_
          refine lv_if_eq (tgt := 75) hx hb dX4_findFault_67 (by decide) (fun c67_7 => absurd c67_7 c24_4) (fun c67_7 => ?_)
          refine lv_ldc (v := (-100005)) hx hb hown (hts (.constant RX4 40 (-100005)) (by decide +kernel)) dX4_findFault_70 ?_
          refine lv_goto (tgt := 79) hx hb dX4_findFault_72 (by decide) ?_
          exact z_reti hx hb hr hlk rfl hP hS dX4_findFault_79 (by simp only [g_X4_findFault_lp, if_neg c24_4, if_pos c35_6]) (congrArg (va_up Z 6) (by simp only [h_X4_findFault_lp, if_neg c24_4, if_pos c35_6]))
        · refine lv_aload_n hx hb dX4_findFault_38 rfl (lv_at hl 0 rfl) ?_
          refine lv_bipush (v := nI 59) hx hb dX4_findFault_39 (by decide) ?_
          refine z_cVi (As := [.int (nI 59)]) (rest := []) ⟨hx, hb, hml, hown, hts⟩ (ct_X4_readSign l D a ca hJ Z X (nI 59) _ hX) (cwV 1 hts gX4_findFault_X4_readSign rfl rfl rfl (by decide +kernel) ⟨Nat.le_of_ble_eq_true rfl, Nat.le_of_ble_eq_true rfl⟩) hK hP hS (va_recv (ci := 4) hK.1 hP rfl zG_x) rfl hl.1 rfl (Nat.le_of_ble_eq_true rfl) dX4_findFault_41 ⟨Nat.zero_le _, Nat.zero_le _⟩ (fun H locs hP hS => ?_)
          refine lv_if_eq (tgt := 58) hx hb dX4_findFault_44 (by decide) (fun c44_8 => ?_) (fun c44_8 => ?_)
          · have hk := (xQ_readSign (sign := nI 59) hX)
            refine lv_iconst (v := nI 0) hx hb dX4_findFault_58 (by decide) ?_
            refine lv_istore_n (lv' := [(1, .int (nI 0)), (0, .ref (a 117)), (2, .int (nI i))]) hx hb dX4_findFault_59 rfl hl (by decide) rfl (fun ls hl => ?_)
            refine lv_iinc (v := nI (i + 1)) (lv' := [(2, .int (nI (i + 1))), (1, .int (nI 0)), (0, .ref (a 117))]) hx hb dX4_findFault_60 hl (k := 2) rfl (nI_add _ _) (by decide) rfl (fun ls hl => ?_)
            refine lv_goto (tgt := 17) hx hb dX4_findFault_63 (by decide) ?_
            refine z_toi (r2 := g_X4_findFault_lp n (nI 0) (i + 1) (h_X4_readSign (nI 59) X)) (Z2 := va_up Z 6 (h_X4_findFault_lp n (nI 0) (i + 1) (h_X4_readSign (nI 59) X))) (by simp only [g_X4_findFault_lp, if_neg c24_4, if_neg c35_6, if_pos c44_8]) (congrArg (va_up Z 6) (by simp only [h_X4_findFault_lp, if_neg c24_4, if_neg c35_6, if_pos c44_8])) ?_
            exact ih (nI 0) (i + 1) (h_X4_readSign (nI 59) X) _ _ _ (by omega) hk (lv_sub hl [2, 1, 0] rfl) hP hS
          · have hk := xQ_readInstruction (xQ_readSign (sign := nI 59) hX)
            refine lv_aload_n hx hb dX4_findFault_47 rfl (lv_at hl 0 rfl) ?_
            refine t_cVi (As := []) (rest := []) ⟨hx, hb, hml, hown, hts⟩ (ct_X4_readInstruction l D a ca hJ qs qv Z (h_X4_readSign (nI 59) X) (xQ_readSign (sign := nI 59) hX)) (cwV 0 hts gX4_findFault_X4_readInstruction rfl rfl rfl (by decide +kernel) ⟨Nat.le_of_ble_eq_true rfl, Nat.le_of_ble_eq_true rfl⟩) hE hK hP hS (va_recv (ci := 4) hK.1 hP rfl zG_x) rfl hl.1 rfl (Nat.le_of_ble_eq_true rfl) dX4_findFault_48 ⟨Nat.zero_le _, Nat.zero_le _⟩ (fun H locs hP hS => ?_)
            refine lv_if_eq (tgt := 58) hx hb dX4_findFault_51 (by decide) (fun c51_9 => ?_) (fun c51_9 => ?_)
            · refine lv_iconst (v := nI 0) hx hb dX4_findFault_58 (by decide) ?_
              refine lv_istore_n (lv' := [(1, .int (nI 0)), (0, .ref (a 117)), (2, .int (nI i))]) hx hb dX4_findFault_59 rfl hl (by decide) rfl (fun ls hl => ?_)
              refine lv_iinc (v := nI (i + 1)) (lv' := [(2, .int (nI (i + 1))), (1, .int (nI 0)), (0, .ref (a 117))]) hx hb dX4_findFault_60 hl (k := 2) rfl (nI_add _ _) (by decide) rfl (fun ls hl => ?_)
              refine lv_goto (tgt := 17) hx hb dX4_findFault_63 (by decide) ?_
              refine z_toi (r2 := g_X4_findFault_lp n (nI 0) (i + 1) (h_X4_readInstruction (h_X4_readSign (nI 59) X))) (Z2 := va_up Z 6 (h_X4_findFault_lp n (nI 0) (i + 1) (h_X4_readInstruction (h_X4_readSign (nI 59) X)))) (by simp only [g_X4_findFault_lp, if_neg c24_4, if_neg c35_6, if_neg c44_8, if_pos c51_9]) (congrArg (va_up Z 6) (by simp only [h_X4_findFault_lp, if_neg c24_4, if_neg c35_6, if_neg c44_8, if_pos c51_9])) ?_
              exact ih (nI 0) (i + 1) (h_X4_readInstruction (h_X4_readSign (nI 59) X)) _ _ _ (by omega) hk (lv_sub hl [2, 1, 0] rfl) hP hS
            · refine lv_iconst (v := nI 1) hx hb dX4_findFault_54 (by decide) ?_
              refine lv_goto (tgt := 59) hx hb dX4_findFault_55 (by decide) ?_
              refine lv_istore_n (lv' := [(1, .int (nI 1)), (0, .ref (a 117)), (2, .int (nI i))]) hx hb dX4_findFault_59 rfl hl (by decide) rfl (fun ls hl => ?_)
              refine lv_iinc (v := nI (i + 1)) (lv' := [(2, .int (nI (i + 1))), (1, .int (nI 1)), (0, .ref (a 117))]) hx hb dX4_findFault_60 hl (k := 2) rfl (nI_add _ _) (by decide) rfl (fun ls hl => ?_)
              refine lv_goto (tgt := 17) hx hb dX4_findFault_63 (by decide) ?_
              refine z_toi (r2 := g_X4_findFault_lp n (nI 1) (i + 1) (h_X4_readInstruction (h_X4_readSign (nI 59) X))) (Z2 := va_up Z 6 (h_X4_findFault_lp n (nI 1) (i + 1) (h_X4_readInstruction (h_X4_readSign (nI 59) X)))) (by simp only [g_X4_findFault_lp, if_neg c24_4, if_neg c35_6, if_neg c44_8, if_neg c51_9]) (congrArg (va_up Z 6) (by simp only [h_X4_findFault_lp, if_neg c24_4, if_neg c35_6, if_neg c44_8, if_neg c51_9])) ?_
              exact ih (nI 1) (i + 1) (h_X4_readInstruction (h_X4_readSign (nI 59) X)) _ _ _ (by omega) hk (lv_sub hl [2, 1, 0] rfl) hP hS
  refine lv_aload_n hx hb dX4_findFault_0 rfl (lv_at hl 0 rfl) ?_
  refine lv_iconst (v := nI 0) hx hb dX4_findFault_1 (by decide) ?_
  refine zpx2 hx hb hts hiX4 hown hK hP hJ hS  (hts (.fieldLink RX4 26 "BarrelProcessor$Text" "position" "I") (by decide +kernel)) dX4_findFault_2 (fun H locs hP hS => ?_)
  refine lv_aload_n hx hb dX4_findFault_5 rfl (lv_at hl 0 rfl) ?_
  refine lv_iconst (v := nI 0) hx hb dX4_findFault_6 (by decide) ?_
  refine zpx4 hx hb hts hiX4 hown hK hP hJ hS  (hts (.fieldLink RX4 29 "BarrelProcessor$Text" "instructionCount" "I") (by decide +kernel)) dX4_findFault_7 (fun H locs hP hS => ?_)
  refine lv_aload_n hx hb dX4_findFault_10 rfl (lv_at hl 0 rfl) ?_
  refine t_cVi (As := []) (rest := []) ⟨hx, hb, hml, hown, hts⟩ (ct_X4_readInstruction l D a ca hJ qs qv Z (zu (zu X 1 1 (nI 0)) 1 2 (nI 0)) (xQ_2 (zIn_nI (by decide) (by decide)) (xQ_1 (zIn_nI (by decide) (by decide)) hX))) (cwV 0 hts gX4_findFault_X4_readInstruction rfl rfl rfl (by decide +kernel) ⟨Nat.le_of_ble_eq_true rfl, Nat.le_of_ble_eq_true rfl⟩) hE hK hP hS (va_recv (ci := 4) hK.1 hP rfl zG_x) rfl hl.1 rfl (Nat.le_of_ble_eq_true rfl) dX4_findFault_11 ⟨Nat.zero_le _, Nat.zero_le _⟩ (fun H locs hP hS => ?_)
  refine lv_istore_n (lv' := [(1, .int (g_X4_readInstruction (zu (zu X 1 1 (nI 0)) 1 2 (nI 0)))), (0, .ref (a 117))]) hx hb dX4_findFault_14 rfl hl (by decide) rfl (fun ls hl => ?_)
  refine lv_iconst (v := nI 0) hx hb dX4_findFault_15 (by decide) ?_
  refine lv_istore_n (lv' := [(2, .int (nI 0)), (1, .int (g_X4_readInstruction (zu (zu X 1 1 (nI 0)) 1 2 (nI 0)))), (0, .ref (a 117))]) hx hb dX4_findFault_16 rfl hl (by decide) rfl (fun ls hl => ?_)
  refine z_toi (r2 := g_X4_findFault_lp 100 (g_X4_readInstruction (zu (zu X 1 1 (nI 0)) 1 2 (nI 0))) 0 (h_X4_readInstruction (zu (zu X 1 1 (nI 0)) 1 2 (nI 0)))) (Z2 := va_up Z 6 (h_X4_findFault_lp 100 (g_X4_readInstruction (zu (zu X 1 1 (nI 0)) 1 2 (nI 0))) 0 (h_X4_readInstruction (zu (zu X 1 1 (nI 0)) 1 2 (nI 0))))) (by first | rfl | simp only [g_X4_findFault]) (congrArg (va_up Z 6) (by first | rfl | simp only [h_X4_findFault])) ?_
  exact lp17 100 (g_X4_readInstruction (zu (zu X 1 1 (nI 0)) 1 2 (nI 0))) 0 (h_X4_readInstruction (zu (zu X 1 1 (nI 0)) 1 2 (nI 0))) _ _ _ (by omega) (xQ_readInstruction (xQ_2 (zIn_nI (by decide) (by decide)) (xQ_1 (zIn_nI (by decide) (by decide)) hX))) (lv_sub hl [2, 1, 0] rfl) hP hS

theorem xQ_findFault_lp : ∀ (n : Nat) (one : Int32) (i : Nat) (X : zM), xQ 51 X → xQ 51 (h_X4_findFault_lp n one i X) := by
  intro n
  induction n with
  | zero =>
    intro one i X h
    simp only [h_X4_findFault_lp]
    exact z_ite (P := fun Y => xQ 51 Y) (fun _ => h) (fun _ => h)
  | succ n ih =>
    intro one i X h
    have hk : xQ 51 (h_X4_readSign (nI 59) X) := xQ_readSign h
    have hk2 := xQ_readInstruction hk
    simp only [h_X4_findFault_lp]
    refine z_ite (P := fun Y => xQ 51 Y) (fun _ => h) (fun _ => ?_)
    refine z_ite (P := fun Y => xQ 51 Y) (fun _ => h) (fun _ => ?_)
    refine z_ite (P := fun Y => xQ 51 Y) (fun _ => ih _ _ _ hk) (fun _ => ?_)
    exact z_ite (P := fun Y => xQ 51 Y) (fun _ => ih _ _ _ hk2) (fun _ => ih _ _ _ hk2)
theorem xQ_findFault {X : zM} (h : xQ 51 X) : xQ 51 (h_X4_findFault X) :=
  xQ_findFault_lp _ _ _ _ (xQ_readInstruction (xQ_2 (zIn_nI (by decide) (by decide)) (xQ_1 (zIn_nI (by decide) (by decide)) h)))
