/-! the law's own methods that type: the letter, a number, an instruction -/
def g_L_letter (op : Int32) : Int32 := if nI 8 ≤ op then ((2054054504 : Int64) >>> ((nI 88 - nI 8 * op).toInt64 &&& 63)).toInt32 &&& nI 255 else ((8314036808236628074 : Int64) >>> ((nI 56 - nI 8 * op).toInt64 &&& 63)).toInt32 &&& nI 255
set_option maxHeartbeats 4000000 in
set_option maxRecDepth 100000 in
theorem ct_L_letter (l : Launch) (D : va_G) (a : Nat → Nat) (ca : Nat → ClassId) (hJ : zJ a) (Z : Nat → zM) (op : Int32) : zCi l yL_letter wsL_letter ({ frames := 0, cells := 0, slots := 0, locals := 0 } : Room) D a ca [.int op] Z (g_L_letter op) (Z) := by
  refine z_ofi (cc := cL_letter) (maxL := 1) (own := RL) (by decide) rfl (Nat.le_of_ble_eq_true rfl) rfl (fun p e s m below meth c ls hx hb hr hml hts hown hlk hl hK hP hS => ?_)
  have hl : lv_has ls 1 [(0, .int op)] := hl
  refine lv_iload_n hx hb dL_letter_0 rfl (lv_at hl 0 rfl) ?_
  refine lv_bipush (v := nI 8) hx hb dL_letter_1 (by decide) ?_
  refine lv_icmp_ge (tgt := 20) hx hb dL_letter_3 (by decide) (fun c3_1 => ?_) (fun c3_1 => ?_)
  · refine lv_ldc2 (v := 2054054504) hx hb hown (hts (.constantLong RL 11 (2054054504)) (by decide +kernel)) dL_letter_20 ?_
    refine lv_bipush (v := nI 88) hx hb dL_letter_23 (by decide) ?_
    refine lv_bipush (v := nI 8) hx hb dL_letter_25 (by decide) ?_
    refine lv_iload_n hx hb dL_letter_27 rfl (lv_at hl 0 rfl) ?_
    refine lv_imul hx hb dL_letter_28 ?_
    refine lv_isub hx hb dL_letter_29 ?_
    refine lv_lshr (v := (2054054504 : Int64) >>> (((nI 88) - ((nI 8) * op)).toInt64 &&& 63)) hx hb dL_letter_30 rfl ?_
    refine lv_l2i (v := ((2054054504 : Int64) >>> (((nI 88) - ((nI 8) * op)).toInt64 &&& 63)).toInt32) hx hb dL_letter_31 rfl ?_
    refine lv_sipush (v := nI 255) hx hb dL_letter_32 (by decide) ?_
    refine lv_iand hx hb dL_letter_35 ?_
    exact z_reti hx hb hr hlk rfl hP hS dL_letter_36 (by simp only [g_L_letter, if_pos c3_1]) rfl
  · refine lv_ldc2 (v := 8314036808236628074) hx hb hown (hts (.constantLong RL 9 (8314036808236628074)) (by decide +kernel)) dL_letter_6 ?_
    refine lv_bipush (v := nI 56) hx hb dL_letter_9 (by decide) ?_
    refine lv_bipush (v := nI 8) hx hb dL_letter_11 (by decide) ?_
    refine lv_iload_n hx hb dL_letter_13 rfl (lv_at hl 0 rfl) ?_
    refine lv_imul hx hb dL_letter_14 ?_
    refine lv_isub hx hb dL_letter_15 ?_
    refine lv_lshr (v := (8314036808236628074 : Int64) >>> (((nI 56) - ((nI 8) * op)).toInt64 &&& 63)) hx hb dL_letter_16 rfl ?_
    refine lv_goto (tgt := 31) hx hb dL_letter_17 (by decide) ?_
    refine lv_l2i (v := ((8314036808236628074 : Int64) >>> (((nI 56) - ((nI 8) * op)).toInt64 &&& 63)).toInt32) hx hb dL_letter_31 rfl ?_
    refine lv_sipush (v := nI 255) hx hb dL_letter_32 (by decide) ?_
    refine lv_iand hx hb dL_letter_35 ?_
    exact z_reti hx hb hr hlk rfl hP hS dL_letter_36 (by simp only [g_L_letter, if_neg c3_1]) rfl
theorem xq_app {Z : Nat → zM} {x : Int32} (h : xQ 51 (Z 6)) : xQ 51 ((h_X6_append Z x) 6) := by
  unfold h_X6_append
  refine z_ite (P := fun Y : Nat → zM => xQ 51 (Y 6)) (fun _ => h) (fun _ => z_ite (P := fun Y : Nat → zM => xQ 51 (Y 6)) (fun _ => ?_) (fun _ => h))
  rw [va_up_self]
  exact xQ_add h
def nm_s (n : Int32) : Int32 := if 0 ≤ n then n else -n
def nb_1 (Z : Nat → zM) (n : Int32) : Nat → zM := if 0 ≤ n then Z else h_X6_append Z (nI 45)
def nb_2 (Z : Nat → zM) (n : Int32) : Nat → zM := if nm_s n ≤ nI 9 then nb_1 Z n else h_X6_append (nb_1 Z n) (nI 48 + nm_s n / nI 10)
def g_L_number (Z : Nat → zM) (n : Int32) : Int32 := g_X6_append (nb_2 Z n) (nI 48 + (nm_s n - nm_s n / nI 10 * nI 10))
def h_L_number (Z : Nat → zM) (n : Int32) : Nat → zM := h_X6_append (nb_2 Z n) (nI 48 + (nm_s n - nm_s n / nI 10 * nI 10))
theorem xq_number {Z : Nat → zM} {n : Int32} (h : xQ 51 (Z 6)) : xQ 51 ((h_L_number Z n) 6) := by
  unfold h_L_number nb_2 nb_1
  refine xq_app (z_ite (P := fun Y : Nat → zM => xQ 51 (Y 6)) (fun _ => ?_) (fun _ => xq_app ?_))
  · exact z_ite (P := fun Y : Nat → zM => xQ 51 (Y 6)) (fun _ => h) (fun _ => xq_app h)
  · exact z_ite (P := fun Y : Nat → zM => xQ 51 (Y 6)) (fun _ => h) (fun _ => xq_app h)
set_option maxHeartbeats 4000000 in
set_option maxRecDepth 100000 in
theorem ct_L_number (l : Launch) (D : va_G) (a : Nat → Nat) (ca : Nat → ClassId) (hJ : zJ a) (Z : Nat → zM) (n : Int32) (hX : xQ 51 (Z 6)) : zCi l yL_number wsL_number ({ frames := 2, cells := 0, slots := 0, locals := 43 } : Room) D a ca [.ref (a 114), .int n] Z (g_L_number Z n) (h_L_number Z n) := by
  refine z_ofi (cc := cL_number) (maxL := 4) (own := RL) (by decide) rfl (Nat.le_of_ble_eq_true rfl) rfl (fun p e s m below meth c ls hx hb hr hml hts hown hlk hl hK hP hS => ?_)
  have hl : lv_has ls 4 [(0, .ref (a 114)), (1, .int n)] := hl
  refine lv_iload_n hx hb dL_number_0 rfl (lv_at hl 1 rfl) ?_
  refine lv_if_ge (tgt := 13) hx hb dL_number_1 (by decide) (fun c1_1 => ?_) (fun c1_1 => ?_)
  · refine lv_iconst (v := nI 0) hx hb dL_number_13 (by decide) ?_
    refine lv_istore_n (lv' := [(2, .int (nI 0)), (0, .ref (a 114)), (1, .int n)]) hx hb dL_number_14 rfl hl (by decide) rfl (fun ls hl => ?_)
    refine lv_iload_n hx hb dL_number_15 rfl (lv_at hl 2 rfl) ?_
    refine lv_if_ge (tgt := 24) hx hb dL_number_16 (by decide) (fun _ => ?_) (fun c16_2 => absurd c1_1 c16_2)
    refine lv_iload_n hx hb dL_number_24 rfl (lv_at hl 2 rfl) ?_
    refine lv_istore_n (lv' := [(3, .int n), (2, .int (nI 0)), (0, .ref (a 114)), (1, .int n)]) hx hb dL_number_25 rfl hl (by decide) rfl (fun ls hl => ?_)
    refine lv_iload_n hx hb dL_number_26 rfl (lv_at hl 0 rfl) ?_
    refine lv_bipush (v := nI 9) hx hb dL_number_27 (by decide) ?_
    refine lv_icmp_le (tgt := 46) hx hb dL_number_29 (by decide) (fun c29_3 => ?_) (fun c29_3 => ?_)
    · refine lv_iload_n hx hb dL_number_46 rfl (lv_at hl 1 rfl) ?_
      refine lv_istore_n (lv' := [(2, .int (nI 0)), (3, .int n), (0, .ref (a 114)), (1, .int n)]) hx hb dL_number_47 rfl hl (by decide) rfl (fun ls hl => ?_)
      refine lv_aload_n hx hb dL_number_48 rfl (lv_at hl 2 rfl) ?_
      refine lv_bipush (v := nI 48) hx hb dL_number_49 (by decide) ?_
      refine lv_iload_n hx hb dL_number_51 rfl (lv_at hl 1 rfl) ?_
      refine lv_bipush (v := nI 10) hx hb dL_number_52 (by decide) ?_
      refine lv_irem hx hb dL_number_54 (by decide) ?_
      refine lv_iadd hx hb dL_number_55 ?_
      refine z_cVi (As := [.int ((nI 48) + (n - n / (nI 10) * (nI 10)))]) (rest := []) ⟨hx, hb, hml, hown, hts⟩ (ct_X6_append l D a ca hJ Z ((nI 48) + (n - n / (nI 10) * (nI 10))) hX) (cwV 1 hts gL_number_X6_append rfl rfl rfl (by decide +kernel) ⟨Nat.le_of_ble_eq_true rfl, Nat.le_of_ble_eq_true rfl⟩) hK hP hS (va_recv (ci := 6) hK.1 hP rfl zW_b) rfl hl.1 rfl (Nat.le_of_ble_eq_true rfl) dL_number_56 ⟨Nat.zero_le _, Nat.zero_le _⟩ (fun H locs hP hS => ?_)
      exact z_reti hx hb hr hlk rfl hP hS dL_number_59 (by simp only [g_L_number, h_L_number, nb_2, nb_1, nm_s, if_pos c1_1, if_pos c29_3]) (by simp only [g_L_number, h_L_number, nb_2, nb_1, nm_s, if_pos c1_1, if_pos c29_3])
    · refine lv_aload_n hx hb dL_number_32 rfl (lv_at hl 2 rfl) ?_
      refine lv_bipush (v := nI 48) hx hb dL_number_33 (by decide) ?_
      refine lv_iload_n hx hb dL_number_35 rfl (lv_at hl 0 rfl) ?_
      refine lv_bipush (v := nI 10) hx hb dL_number_36 (by decide) ?_
      refine lv_idiv hx hb dL_number_38 (by decide) ?_
      refine lv_iadd hx hb dL_number_39 ?_
      refine z_cVi (As := [.int ((nI 48) + (n / (nI 10)))]) (rest := []) ⟨hx, hb, hml, hown, hts⟩ (ct_X6_append l D a ca hJ Z ((nI 48) + (n / (nI 10))) hX) (cwV 1 hts gL_number_X6_append rfl rfl rfl (by decide +kernel) ⟨Nat.le_of_ble_eq_true rfl, Nat.le_of_ble_eq_true rfl⟩) hK hP hS (va_recv (ci := 6) hK.1 hP rfl zW_b) rfl hl.1 rfl (Nat.le_of_ble_eq_true rfl) dL_number_40 ⟨Nat.zero_le _, Nat.zero_le _⟩ (fun H locs hP hS => ?_)
      refine lv_goto (tgt := 47) hx hb dL_number_43 (by decide) ?_
      refine lv_istore_n (lv' := [(2, .int (g_X6_append Z ((nI 48) + (n / (nI 10))))), (3, .int n), (0, .ref (a 114)), (1, .int n)]) hx hb dL_number_47 rfl hl (by decide) rfl (fun ls hl => ?_)
      refine lv_aload_n hx hb dL_number_48 rfl (lv_at hl 2 rfl) ?_
      refine lv_bipush (v := nI 48) hx hb dL_number_49 (by decide) ?_
      refine lv_iload_n hx hb dL_number_51 rfl (lv_at hl 1 rfl) ?_
      refine lv_bipush (v := nI 10) hx hb dL_number_52 (by decide) ?_
      refine lv_irem hx hb dL_number_54 (by decide) ?_
      refine lv_iadd hx hb dL_number_55 ?_
      refine z_cVi (As := [.int ((nI 48) + (n - n / (nI 10) * (nI 10)))]) (rest := []) ⟨hx, hb, hml, hown, hts⟩ (ct_X6_append l D a ca hJ (h_X6_append Z ((nI 48) + (n / (nI 10)))) ((nI 48) + (n - n / (nI 10) * (nI 10))) (xq_app hX)) (cwV 1 hts gL_number_X6_append rfl rfl rfl (by decide +kernel) ⟨Nat.le_of_ble_eq_true rfl, Nat.le_of_ble_eq_true rfl⟩) hK hP hS (va_recv (ci := 6) hK.1 hP rfl zW_b) rfl hl.1 rfl (Nat.le_of_ble_eq_true rfl) dL_number_56 ⟨Nat.zero_le _, Nat.zero_le _⟩ (fun H locs hP hS => ?_)
      exact z_reti hx hb hr hlk rfl hP hS dL_number_59 (by simp only [g_L_number, h_L_number, nb_2, nb_1, nm_s, if_pos c1_1, if_neg c29_3]) (by simp only [g_L_number, h_L_number, nb_2, nb_1, nm_s, if_pos c1_1, if_neg c29_3])
  · refine lv_aload_n hx hb dL_number_4 rfl (lv_at hl 0 rfl) ?_
    refine lv_bipush (v := nI 45) hx hb dL_number_5 (by decide) ?_
    refine z_cVi (As := [.int (nI 45)]) (rest := []) ⟨hx, hb, hml, hown, hts⟩ (ct_X6_append l D a ca hJ Z (nI 45) hX) (cwV 1 hts gL_number_X6_append rfl rfl rfl (by decide +kernel) ⟨Nat.le_of_ble_eq_true rfl, Nat.le_of_ble_eq_true rfl⟩) hK hP hS (va_recv (ci := 6) hK.1 hP rfl zW_b) rfl hl.1 rfl (Nat.le_of_ble_eq_true rfl) dL_number_7 ⟨Nat.zero_le _, Nat.zero_le _⟩ (fun H locs hP hS => ?_)
    refine lv_goto (tgt := 14) hx hb dL_number_10 (by decide) ?_
    refine lv_istore_n (lv' := [(2, .int (g_X6_append Z (nI 45))), (0, .ref (a 114)), (1, .int n)]) hx hb dL_number_14 rfl hl (by decide) rfl (fun ls hl => ?_)
    refine lv_iload_n hx hb dL_number_15 rfl (lv_at hl 2 rfl) ?_
    refine lv_if_ge (tgt := 24) hx hb dL_number_16 (by decide) (fun c16_4 => absurd c16_4 c1_1) (fun _ => ?_)
    refine lv_iload_n hx hb dL_number_19 rfl (lv_at hl 2 rfl) ?_
    refine lv_ineg hx hb dL_number_20 ?_
    refine lv_goto (tgt := 25) hx hb dL_number_21 (by decide) ?_
    refine lv_istore_n (lv' := [(3, .int (-n)), (2, .int (g_X6_append Z (nI 45))), (0, .ref (a 114)), (1, .int n)]) hx hb dL_number_25 rfl hl (by decide) rfl (fun ls hl => ?_)
    refine lv_iload_n hx hb dL_number_26 rfl (lv_at hl 0 rfl) ?_
    refine lv_bipush (v := nI 9) hx hb dL_number_27 (by decide) ?_
    refine lv_icmp_le (tgt := 46) hx hb dL_number_29 (by decide) (fun c29_5 => ?_) (fun c29_5 => ?_)
    · refine lv_iload_n hx hb dL_number_46 rfl (lv_at hl 1 rfl) ?_
      refine lv_istore_n (lv' := [(2, .int (g_X6_append Z (nI 45))), (3, .int (-n)), (0, .ref (a 114)), (1, .int n)]) hx hb dL_number_47 rfl hl (by decide) rfl (fun ls hl => ?_)
      refine lv_aload_n hx hb dL_number_48 rfl (lv_at hl 2 rfl) ?_
      refine lv_bipush (v := nI 48) hx hb dL_number_49 (by decide) ?_
      refine lv_iload_n hx hb dL_number_51 rfl (lv_at hl 1 rfl) ?_
      refine lv_bipush (v := nI 10) hx hb dL_number_52 (by decide) ?_
      refine lv_irem hx hb dL_number_54 (by decide) ?_
      refine lv_iadd hx hb dL_number_55 ?_
      refine z_cVi (As := [.int ((nI 48) + ((-n) - (-n) / (nI 10) * (nI 10)))]) (rest := []) ⟨hx, hb, hml, hown, hts⟩ (ct_X6_append l D a ca hJ (h_X6_append Z (nI 45)) ((nI 48) + ((-n) - (-n) / (nI 10) * (nI 10))) (xq_app hX)) (cwV 1 hts gL_number_X6_append rfl rfl rfl (by decide +kernel) ⟨Nat.le_of_ble_eq_true rfl, Nat.le_of_ble_eq_true rfl⟩) hK hP hS (va_recv (ci := 6) hK.1 hP rfl zW_b) rfl hl.1 rfl (Nat.le_of_ble_eq_true rfl) dL_number_56 ⟨Nat.zero_le _, Nat.zero_le _⟩ (fun H locs hP hS => ?_)
      exact z_reti hx hb hr hlk rfl hP hS dL_number_59 (by simp only [g_L_number, h_L_number, nb_2, nb_1, nm_s, if_neg c1_1, if_pos c29_5]) (by simp only [g_L_number, h_L_number, nb_2, nb_1, nm_s, if_neg c1_1, if_pos c29_5])
    · refine lv_aload_n hx hb dL_number_32 rfl (lv_at hl 2 rfl) ?_
      refine lv_bipush (v := nI 48) hx hb dL_number_33 (by decide) ?_
      refine lv_iload_n hx hb dL_number_35 rfl (lv_at hl 0 rfl) ?_
      refine lv_bipush (v := nI 10) hx hb dL_number_36 (by decide) ?_
      refine lv_idiv hx hb dL_number_38 (by decide) ?_
      refine lv_iadd hx hb dL_number_39 ?_
      refine z_cVi (As := [.int ((nI 48) + ((-n) / (nI 10)))]) (rest := []) ⟨hx, hb, hml, hown, hts⟩ (ct_X6_append l D a ca hJ (h_X6_append Z (nI 45)) ((nI 48) + ((-n) / (nI 10))) (xq_app hX)) (cwV 1 hts gL_number_X6_append rfl rfl rfl (by decide +kernel) ⟨Nat.le_of_ble_eq_true rfl, Nat.le_of_ble_eq_true rfl⟩) hK hP hS (va_recv (ci := 6) hK.1 hP rfl zW_b) rfl hl.1 rfl (Nat.le_of_ble_eq_true rfl) dL_number_40 ⟨Nat.zero_le _, Nat.zero_le _⟩ (fun H locs hP hS => ?_)
      refine lv_goto (tgt := 47) hx hb dL_number_43 (by decide) ?_
      refine lv_istore_n (lv' := [(2, .int (g_X6_append (h_X6_append Z (nI 45)) ((nI 48) + ((-n) / (nI 10))))), (3, .int (-n)), (0, .ref (a 114)), (1, .int n)]) hx hb dL_number_47 rfl hl (by decide) rfl (fun ls hl => ?_)
      refine lv_aload_n hx hb dL_number_48 rfl (lv_at hl 2 rfl) ?_
      refine lv_bipush (v := nI 48) hx hb dL_number_49 (by decide) ?_
      refine lv_iload_n hx hb dL_number_51 rfl (lv_at hl 1 rfl) ?_
      refine lv_bipush (v := nI 10) hx hb dL_number_52 (by decide) ?_
      refine lv_irem hx hb dL_number_54 (by decide) ?_
      refine lv_iadd hx hb dL_number_55 ?_
      refine z_cVi (As := [.int ((nI 48) + ((-n) - (-n) / (nI 10) * (nI 10)))]) (rest := []) ⟨hx, hb, hml, hown, hts⟩ (ct_X6_append l D a ca hJ (h_X6_append (h_X6_append Z (nI 45)) ((nI 48) + ((-n) / (nI 10)))) ((nI 48) + ((-n) - (-n) / (nI 10) * (nI 10))) (xq_app (xq_app hX))) (cwV 1 hts gL_number_X6_append rfl rfl rfl (by decide +kernel) ⟨Nat.le_of_ble_eq_true rfl, Nat.le_of_ble_eq_true rfl⟩) hK hP hS (va_recv (ci := 6) hK.1 hP rfl zW_b) rfl hl.1 rfl (Nat.le_of_ble_eq_true rfl) dL_number_56 ⟨Nat.zero_le _, Nat.zero_le _⟩ (fun H locs hP hS => ?_)
      exact z_reti hx hb hr hlk rfl hP hS dL_number_59 (by simp only [g_L_number, h_L_number, nb_2, nb_1, nm_s, if_neg c1_1, if_neg c29_5]) (by simp only [g_L_number, h_L_number, nb_2, nb_1, nm_s, if_neg c1_1, if_neg c29_5])
def ty_1 (Z : Nat → zM) (op : Int32) : Nat → zM := h_X6_append Z (g_L_letter op)
def ty_2 (Z : Nat → zM) (op x : Int32) : Nat → zM := h_X6_append (ty_1 Z op) (nI 48 + x)
def g_L_types (Z : Nat → zM) (op x y : Int32) : Int32 := if op = nI 7 then g_L_number (ty_1 Z op) x else if op ≤ nI 9 then (if op = 0 then g_L_number (h_X6_append (ty_2 Z op x) (nI 61)) y else if op ≤ nI 7 then g_X6_append (ty_2 Z op x) (nI 48 + y) else g_L_number (h_X6_append (ty_2 Z op x) (nI 62)) y) else g_X6_append Z (g_L_letter op)
def h_L_types (Z : Nat → zM) (op x y : Int32) : Nat → zM := if op = nI 7 then h_L_number (ty_1 Z op) x else if op ≤ nI 9 then (if op = 0 then h_L_number (h_X6_append (ty_2 Z op x) (nI 61)) y else if op ≤ nI 7 then h_X6_append (ty_2 Z op x) (nI 48 + y) else h_L_number (h_X6_append (ty_2 Z op x) (nI 62)) y) else ty_1 Z op
theorem xq_types {Z : Nat → zM} {op x y : Int32} (h : xQ 51 (Z 6)) : xQ 51 ((h_L_types Z op x y) 6) := by
  have h1 : xQ 51 ((ty_1 Z op) 6) := xq_app h
  have h2 : xQ 51 ((ty_2 Z op x) 6) := xq_app h1
  unfold h_L_types
  exact z_ite (P := fun Y : Nat → zM => xQ 51 (Y 6)) (fun _ => xq_number h1) (fun _ => z_ite (P := fun Y : Nat → zM => xQ 51 (Y 6)) (fun _ => z_ite (P := fun Y : Nat → zM => xQ 51 (Y 6)) (fun _ => xq_number (xq_app h2)) (fun _ => z_ite (P := fun Y : Nat → zM => xQ 51 (Y 6)) (fun _ => xq_app h2) (fun _ => xq_number (xq_app h2)))) (fun _ => h1))
set_option maxHeartbeats 4000000 in
set_option maxRecDepth 100000 in
theorem ct_L_types (l : Launch) (D : va_G) (a : Nat → Nat) (ca : Nat → ClassId) (hJ : zJ a) (Z : Nat → zM) (op x y : Int32) (hX : xQ 51 (Z 6)) : zCi l yL_types wsL_types ({ frames := 3, cells := 0, slots := 0, locals := 66 } : Room) D a ca [.ref (a 114), .int op, .int x, .int y] Z (g_L_types Z op x y) (h_L_types Z op x y) := by
  refine z_ofi (cc := cL_types) (maxL := 5) (own := RL) (by decide) rfl (Nat.le_of_ble_eq_true rfl) rfl (fun p e s m below meth c ls hx hb hr hml hts hown hlk hl hK hP hS => ?_)
  have hl : lv_has ls 5 [(0, .ref (a 114)), (1, .int op), (2, .int x), (3, .int y)] := hl
  refine lv_aload_n hx hb dL_types_0 rfl (lv_at hl 0 rfl) ?_
  refine lv_iload_n hx hb dL_types_1 rfl (lv_at hl 1 rfl) ?_
  refine z_cSi (As := [.int op]) (rest := [.ref (a 114)]) ⟨hx, hb, hml, hown, hts⟩ (ct_L_letter l D a ca hJ Z op) (va_cwS 1 hts gL_types_L_letter rfl rfl rfl (by decide +kernel) ⟨Nat.le_of_ble_eq_true rfl, Nat.le_of_ble_eq_true rfl⟩) hK hP hS rfl hl.1 rfl (Nat.le_of_ble_eq_true rfl) dL_types_2 ⟨Nat.zero_le _, Nat.zero_le _⟩ (fun H locs hP hS => ?_)
  refine z_cVi (As := [.int (g_L_letter op)]) (rest := []) ⟨hx, hb, hml, hown, hts⟩ (ct_X6_append l D a ca hJ Z (g_L_letter op) hX) (cwV 1 hts gL_types_X6_append rfl rfl rfl (by decide +kernel) ⟨Nat.le_of_ble_eq_true rfl, Nat.le_of_ble_eq_true rfl⟩) hK hP hS (va_recv (ci := 6) hK.1 hP rfl zW_b) rfl hl.1 rfl (Nat.le_of_ble_eq_true rfl) dL_types_5 ⟨Nat.zero_le _, Nat.zero_le _⟩ (fun H locs hP hS => ?_)
  refine lv_istore (lv' := [(4, .int (g_X6_append Z (g_L_letter op))), (0, .ref (a 114)), (1, .int op), (2, .int x), (3, .int y)]) hx hb dL_types_8 hl (by decide) rfl (fun ls hl => ?_)
  refine lv_iload_n hx hb dL_types_10 rfl (lv_at hl 2 rfl) ?_
  refine lv_bipush (v := nI 7) hx hb dL_types_11 (by decide) ?_
  refine lv_icmp_ne (tgt := 22) hx hb dL_types_13 (by decide) (fun c13_1 => ?_) (fun c13_1 => ?_)
  · refine lv_iload_n hx hb dL_types_22 rfl (lv_at hl 2 rfl) ?_
    refine lv_bipush (v := nI 9) hx hb dL_types_23 (by decide) ?_
    refine lv_icmp_le (tgt := 31) hx hb dL_types_25 (by decide) (fun c25_2 => ?_) (fun c25_2 => ?_)
    · refine lv_aload_n hx hb dL_types_31 rfl (lv_at hl 1 rfl) ?_
      refine lv_bipush (v := nI 48) hx hb dL_types_32 (by decide) ?_
      refine lv_iload_n hx hb dL_types_34 rfl (lv_at hl 3 rfl) ?_
      refine lv_iadd hx hb dL_types_35 ?_
      refine z_cVi (As := [.int ((nI 48) + x)]) (rest := []) ⟨hx, hb, hml, hown, hts⟩ (ct_X6_append l D a ca hJ (h_X6_append Z (g_L_letter op)) ((nI 48) + x) (xq_app hX)) (cwV 1 hts gL_types_X6_append rfl rfl rfl (by decide +kernel) ⟨Nat.le_of_ble_eq_true rfl, Nat.le_of_ble_eq_true rfl⟩) hK hP hS (va_recv (ci := 6) hK.1 hP rfl zW_b) rfl hl.1 rfl (Nat.le_of_ble_eq_true rfl) dL_types_36 ⟨Nat.zero_le _, Nat.zero_le _⟩ (fun H locs hP hS => ?_)
      refine lv_istore (lv' := [(4, .int (g_X6_append (h_X6_append Z (g_L_letter op)) ((nI 48) + x))), (0, .ref (a 114)), (1, .int op), (2, .int x), (3, .int y)]) hx hb dL_types_39 hl (by decide) rfl (fun ls hl => ?_)
      refine lv_iload_n hx hb dL_types_41 rfl (lv_at hl 2 rfl) ?_
      refine lv_if_eq (tgt := 51) hx hb dL_types_42 (by decide) (fun c42_3 => ?_) (fun c42_3 => ?_)
      · refine lv_aload_n hx hb dL_types_51 rfl (lv_at hl 1 rfl) ?_
        refine lv_iload_n hx hb dL_types_52 rfl (lv_at hl 2 rfl) ?_
        refine lv_if_ne (tgt := 61) hx hb dL_types_53 (by decide) (fun c53_4 => absurd c42_3 c53_4) (fun _ => ?_)
        refine lv_bipush (v := nI 61) hx hb dL_types_56 (by decide) ?_
        refine lv_goto (tgt := 63) hx hb dL_types_58 (by decide) ?_
        refine z_cVi (As := [.int (nI 61)]) (rest := []) ⟨hx, hb, hml, hown, hts⟩ (ct_X6_append l D a ca hJ (h_X6_append (h_X6_append Z (g_L_letter op)) ((nI 48) + x)) (nI 61) (xq_app (xq_app hX))) (cwV 1 hts gL_types_X6_append rfl rfl rfl (by decide +kernel) ⟨Nat.le_of_ble_eq_true rfl, Nat.le_of_ble_eq_true rfl⟩) hK hP hS (va_recv (ci := 6) hK.1 hP rfl zW_b) rfl hl.1 rfl (Nat.le_of_ble_eq_true rfl) dL_types_63 ⟨Nat.zero_le _, Nat.zero_le _⟩ (fun H locs hP hS => ?_)
        refine lv_istore (lv' := [(4, .int (g_X6_append (h_X6_append (h_X6_append Z (g_L_letter op)) ((nI 48) + x)) (nI 61))), (0, .ref (a 114)), (1, .int op), (2, .int x), (3, .int y)]) hx hb dL_types_66 hl (by decide) rfl (fun ls hl => ?_)
        refine lv_aload_n hx hb dL_types_68 rfl (lv_at hl 1 rfl) ?_
        refine lv_iload_n hx hb dL_types_69 rfl (lv_at hl 4 rfl) ?_
        refine z_cSi (As := [.ref (a 114), .int y]) (rest := []) ⟨hx, hb, hml, hown, hts⟩ (ct_L_number l D a ca hJ (h_X6_append (h_X6_append (h_X6_append Z (g_L_letter op)) ((nI 48) + x)) (nI 61)) y (xq_app (xq_app (xq_app hX)))) (va_cwS 2 hts gL_types_L_number rfl rfl rfl (by decide +kernel) ⟨Nat.le_of_ble_eq_true rfl, Nat.le_of_ble_eq_true rfl⟩) hK hP hS rfl hl.1 rfl (Nat.le_of_ble_eq_true rfl) dL_types_70 ⟨Nat.zero_le _, Nat.zero_le _⟩ (fun H locs hP hS => ?_)
        exact z_reti hx hb hr hlk rfl hP hS dL_types_73 (by simp only [g_L_types, h_L_types, ty_2, ty_1, if_neg c13_1, if_pos c25_2, if_pos c42_3]) (by simp only [g_L_types, h_L_types, ty_2, ty_1, if_neg c13_1, if_pos c25_2, if_pos c42_3])
      · refine lv_iload_n hx hb dL_types_45 rfl (lv_at hl 2 rfl) ?_
        refine lv_bipush (v := nI 7) hx hb dL_types_46 (by decide) ?_
        refine lv_icmp_le (tgt := 74) hx hb dL_types_48 (by decide) (fun c48_5 => ?_) (fun c48_5 => ?_)
        · refine lv_aload_n hx hb dL_types_74 rfl (lv_at hl 1 rfl) ?_
          refine lv_bipush (v := nI 48) hx hb dL_types_75 (by decide) ?_
          refine lv_iload_n hx hb dL_types_77 rfl (lv_at hl 4 rfl) ?_
          refine lv_iadd hx hb dL_types_78 ?_
          refine z_cVi (As := [.int ((nI 48) + y)]) (rest := []) ⟨hx, hb, hml, hown, hts⟩ (ct_X6_append l D a ca hJ (h_X6_append (h_X6_append Z (g_L_letter op)) ((nI 48) + x)) ((nI 48) + y) (xq_app (xq_app hX))) (cwV 1 hts gL_types_X6_append rfl rfl rfl (by decide +kernel) ⟨Nat.le_of_ble_eq_true rfl, Nat.le_of_ble_eq_true rfl⟩) hK hP hS (va_recv (ci := 6) hK.1 hP rfl zW_b) rfl hl.1 rfl (Nat.le_of_ble_eq_true rfl) dL_types_79 ⟨Nat.zero_le _, Nat.zero_le _⟩ (fun H locs hP hS => ?_)
          exact z_reti hx hb hr hlk rfl hP hS dL_types_82 (by simp only [g_L_types, h_L_types, ty_2, ty_1, if_neg c13_1, if_pos c25_2, if_neg c42_3, if_pos c48_5]) (by simp only [g_L_types, h_L_types, ty_2, ty_1, if_neg c13_1, if_pos c25_2, if_neg c42_3, if_pos c48_5])
        · refine lv_aload_n hx hb dL_types_51 rfl (lv_at hl 1 rfl) ?_
          refine lv_iload_n hx hb dL_types_52 rfl (lv_at hl 2 rfl) ?_
          refine lv_if_ne (tgt := 61) hx hb dL_types_53 (by decide) (fun _ => ?_) (fun c53_6 => absurd c53_6 c42_3)
          refine lv_bipush (v := nI 62) hx hb dL_types_61 (by decide) ?_
          refine z_cVi (As := [.int (nI 62)]) (rest := []) ⟨hx, hb, hml, hown, hts⟩ (ct_X6_append l D a ca hJ (h_X6_append (h_X6_append Z (g_L_letter op)) ((nI 48) + x)) (nI 62) (xq_app (xq_app hX))) (cwV 1 hts gL_types_X6_append rfl rfl rfl (by decide +kernel) ⟨Nat.le_of_ble_eq_true rfl, Nat.le_of_ble_eq_true rfl⟩) hK hP hS (va_recv (ci := 6) hK.1 hP rfl zW_b) rfl hl.1 rfl (Nat.le_of_ble_eq_true rfl) dL_types_63 ⟨Nat.zero_le _, Nat.zero_le _⟩ (fun H locs hP hS => ?_)
          refine lv_istore (lv' := [(4, .int (g_X6_append (h_X6_append (h_X6_append Z (g_L_letter op)) ((nI 48) + x)) (nI 62))), (0, .ref (a 114)), (1, .int op), (2, .int x), (3, .int y)]) hx hb dL_types_66 hl (by decide) rfl (fun ls hl => ?_)
          refine lv_aload_n hx hb dL_types_68 rfl (lv_at hl 1 rfl) ?_
          refine lv_iload_n hx hb dL_types_69 rfl (lv_at hl 4 rfl) ?_
          refine z_cSi (As := [.ref (a 114), .int y]) (rest := []) ⟨hx, hb, hml, hown, hts⟩ (ct_L_number l D a ca hJ (h_X6_append (h_X6_append (h_X6_append Z (g_L_letter op)) ((nI 48) + x)) (nI 62)) y (xq_app (xq_app (xq_app hX)))) (va_cwS 2 hts gL_types_L_number rfl rfl rfl (by decide +kernel) ⟨Nat.le_of_ble_eq_true rfl, Nat.le_of_ble_eq_true rfl⟩) hK hP hS rfl hl.1 rfl (Nat.le_of_ble_eq_true rfl) dL_types_70 ⟨Nat.zero_le _, Nat.zero_le _⟩ (fun H locs hP hS => ?_)
          exact z_reti hx hb hr hlk rfl hP hS dL_types_73 (by simp only [g_L_types, h_L_types, ty_2, ty_1, if_neg c13_1, if_pos c25_2, if_neg c42_3, if_neg c48_5]) (by simp only [g_L_types, h_L_types, ty_2, ty_1, if_neg c13_1, if_pos c25_2, if_neg c42_3, if_neg c48_5])
    · refine lv_iload hx hb dL_types_28 (lv_at hl 0 rfl) ?_
      exact z_reti hx hb hr hlk rfl hP hS dL_types_30 (by simp only [g_L_types, h_L_types, ty_2, ty_1, if_neg c13_1, if_neg c25_2]) (by simp only [g_L_types, h_L_types, ty_2, ty_1, if_neg c13_1, if_neg c25_2])
  · refine lv_aload_n hx hb dL_types_16 rfl (lv_at hl 1 rfl) ?_
    refine lv_iload_n hx hb dL_types_17 rfl (lv_at hl 3 rfl) ?_
    refine z_cSi (As := [.ref (a 114), .int x]) (rest := []) ⟨hx, hb, hml, hown, hts⟩ (ct_L_number l D a ca hJ (h_X6_append Z (g_L_letter op)) x (xq_app hX)) (va_cwS 2 hts gL_types_L_number rfl rfl rfl (by decide +kernel) ⟨Nat.le_of_ble_eq_true rfl, Nat.le_of_ble_eq_true rfl⟩) hK hP hS rfl hl.1 rfl (Nat.le_of_ble_eq_true rfl) dL_types_18 ⟨Nat.zero_le _, Nat.zero_le _⟩ (fun H locs hP hS => ?_)
    exact z_reti hx hb hr hlk rfl hP hS dL_types_21 (by simp only [g_L_types, h_L_types, ty_2, ty_1, if_pos c13_1]) (by simp only [g_L_types, h_L_types, ty_2, ty_1, if_pos c13_1])
/-! the trial machine has no word in them; they keep what holds -/
theorem pe_number {T : zM} {Z : Nat → zM} (n : Int32) : g_L_number (va_up Z 1 T) n = g_L_number Z n ∧ h_L_number (va_up Z 1 T) n = va_up (h_L_number Z n) 1 T := by
  have e1 : nb_1 (va_up Z 1 T) n = va_up (nb_1 Z n) 1 T := by
    unfold nb_1
    rw [(pe_append _).2, tz_ite]
  have e2 : nb_2 (va_up Z 1 T) n = va_up (nb_2 Z n) 1 T := by
    unfold nb_2
    rw [e1, (pe_append _).2, tz_ite]
  unfold g_L_number h_L_number
  rw [e2, (pe_append _).1, (pe_append _).2]
  exact ⟨rfl, rfl⟩
theorem pe_types {T : zM} {Z : Nat → zM} (op x y : Int32) : g_L_types (va_up Z 1 T) op x y = g_L_types Z op x y ∧ h_L_types (va_up Z 1 T) op x y = va_up (h_L_types Z op x y) 1 T := by
  have e1 : ty_1 (va_up Z 1 T) op = va_up (ty_1 Z op) 1 T := (pe_append _).2
  have e2 : ty_2 (va_up Z 1 T) op x = va_up (ty_2 Z op x) 1 T := by
    unfold ty_2
    rw [e1, (pe_append _).2]
  unfold g_L_types h_L_types
  rw [e1, e2, (pe_number _).1, (pe_number _).2, (pe_append _).2, (pe_append _).2, (pe_append _).2, (pe_append _).1, (pe_append _).1, (pe_number _).1, (pe_number _).1, (pe_number _).2, (pe_number _).2, tz_ite, tz_ite, tz_ite, tz_ite]
  exact ⟨rfl, rfl⟩
theorem pa_number {B : Nat} {Z : Nat → zM} (h : IVp B Z) (n : Int32) : IVp B (h_L_number Z n) := by
  unfold h_L_number nb_2 nb_1
  have k : IVp B (if 0 ≤ n then Z else h_X6_append Z (nI 45)) := z_ite (P := IVp B) (fun _ => h) (fun _ => pa_append h _)
  exact pa_append (z_ite (P := IVp B) (fun _ => k) (fun _ => pa_append k _)) _
theorem pa_types {B : Nat} {Z : Nat → zM} (h : IVp B Z) (op x y : Int32) : IVp B (h_L_types Z op x y) := by
  have h1 : IVp B (ty_1 Z op) := pa_append h _
  have h2 : IVp B (ty_2 Z op x) := pa_append h1 _
  unfold h_L_types
  exact z_ite (P := IVp B) (fun _ => pa_number h1 _) (fun _ => z_ite (P := IVp B) (fun _ => z_ite (P := IVp B) (fun _ => pa_number (pa_append h2 _) _) (fun _ => z_ite (P := IVp B) (fun _ => pa_append h2 _) (fun _ => pa_number (pa_append h2 _) _))) (fun _ => h1))
