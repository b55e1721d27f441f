/-! calls that are refused -/
theorem wo_lo {v lo hi : Int32} (h : v < lo) : g_X6_isWithin v lo hi = 0 := by
  unfold g_X6_isWithin
  rw [if_pos h]
  rfl
theorem wo_hi {k j n : Nat} {lo : Int32} (h : n < k + j) (hk : k + j < 2 ^ 31) : g_X6_isWithin (nI (k + j)) lo (nI n) = 0 := by
  unfold g_X6_isWithin
  by_cases c : nI (k + j) < lo
  · rw [if_pos c]
    rfl
  · rw [if_neg c, if_pos (nI_lt h hk)]
    rfl
theorem lt_n {c lo : Int32} {i k : Int} {j : Nat} (hc : c.toInt = i) (hl : lo.toInt = k) (hi : -100000 < i ∧ i < 100000) (hj : j < 100000) (h : i - (j : Int) < k) : c - nI j < lo := by
  rw [Int32.lt_iff_toInt_lt, Int32.toInt_sub, hc, hl, nI_toInt (by omega), Int.bmod_eq_of_le (by omega) (by omega)]
  exact h
set_option maxHeartbeats 8000000 in
set_option maxRecDepth 100000 in
theorem ct_L_refuses (l : Launch) (D : va_G) (a : Nat → Nat) (ca : Nat → ClassId) (hJ : zJ a) (qs qv : Nat) (Z : Nat → zM) (B : Nat) (j : Nat) (hj : j < 100000) (hV : IVp B Z) : hTi l yL_refuses wsL_refuses ({ frames := 7, cells := 0, slots := 0, locals := 161 } : Room) D a ca qs qv [.ref (a 114), .int (nI j)] Z := by
  refine h_ofi (cc := cL_refuses) (maxL := 5) (own := RL) (by decide) rfl (Nat.le_of_ble_eq_true rfl) rfl (fun p e s m below meth c ls hx hb hr hml hts hown hlk hl hK hE hP hS => ?_)
  have hl : lv_has ls 5 [(0, .ref (a 114)), (1, .int (nI j))] := hl
  have k33 : ∀ (no off : Int32) (hno : g_X6_isThread no = 0) (hnr : g_X6_isRegister no = 0) (hoff : g_X6_isPlace off = 0) (ls : Array Slot) (hl : lv_has ls 5 [(3, .int off), (2, .int no), (0, .ref (a 114)), (1, .int (nI j))]), W p l e ({ frames := 7, cells := 0, slots := 0, locals := 161 } : Room) s m ([.ref (a 114), .int (nI j)] : List Value).toArray below meth c s.heap [] 0 0 (hQi below D a ca [.ref (a 114), .int (nI j)] s Z) (F0 m 33 ls []) := by
    intro no off hno hnr hoff ls hl
    refine lv_aload_n hx hb dL_refuses_33 rfl (lv_at hl 2 rfl) ?_
    refine lv_iload_n hx hb dL_refuses_34 rfl (lv_at hl 0 rfl) ?_
    have k35 := ct_assemble2 l D a ca hJ qs qv Z off hV.2.2.2.2 hV.2.2.1 hV.2.2.2.1 hV.1
    rw [show g_assemble2 Z off = (-100001) from (if_pos hoff), show h_assemble2 Z off = Z from (if_pos hoff)] at k35
    refine t_cVi (As := [.int off]) (rest := []) ⟨hx, hb, hml, hown, hts⟩ (k35) (cwV 1 hts gL_refuses_X6_assemble rfl rfl rfl (by decide +kernel) ⟨Nat.le_of_ble_eq_true rfl, Nat.le_of_ble_eq_true rfl⟩) hE hK hP hS (va_recv (ci := 6) hK.1 hP rfl zW_b) rfl hl.1 rfl (Nat.le_of_ble_eq_true rfl) dL_refuses_35 ⟨Nat.zero_le _, Nat.zero_le _⟩ (fun H locs hP hS => ?_)
    refine lv_ldc (v := (-100001)) hx hb hown (hts (.constant RL 98 (-100001)) (by decide +kernel)) dL_refuses_38 ?_
    refine lv_icmp_ne (tgt := 322) hx hb dL_refuses_40 (by decide) (fun c40_1 => absurd rfl c40_1) (fun _ => ?_)
    refine lv_aload_n hx hb dL_refuses_43 rfl (lv_at hl 2 rfl) ?_
    refine lv_iload_n hx hb dL_refuses_44 rfl (lv_at hl 1 rfl) ?_
    refine lv_iconst (v := nI 0) hx hb dL_refuses_45 (by decide) ?_
    have k46 := ct_start2 l D a ca hJ Z no (nI 0) hV.2.2.1 hV.2.2.2.1 hV.1
    rw [show g_start2 Z no (nI 0) = (-100001) from (if_pos hno), show h_start2 Z no (nI 0) = Z from (if_pos hno)] at k46
    refine z_cVi (As := [.int no, .int (nI 0)]) (rest := []) ⟨hx, hb, hml, hown, hts⟩ (k46) (cwV 2 hts gL_refuses_X6_start rfl rfl rfl (by decide +kernel) ⟨Nat.le_of_ble_eq_true rfl, Nat.le_of_ble_eq_true rfl⟩) hK hP hS (va_recv (ci := 6) hK.1 hP rfl zW_b) rfl hl.1 rfl (Nat.le_of_ble_eq_true rfl) dL_refuses_46 ⟨Nat.zero_le _, Nat.zero_le _⟩ (fun H locs hP hS => ?_)
    refine lv_ldc (v := (-100001)) hx hb hown (hts (.constant RL 98 (-100001)) (by decide +kernel)) dL_refuses_49 ?_
    refine lv_icmp_ne (tgt := 322) hx hb dL_refuses_51 (by decide) (fun c51_2 => absurd rfl c51_2) (fun _ => ?_)
    refine lv_aload_n hx hb dL_refuses_54 rfl (lv_at hl 2 rfl) ?_
    refine lv_iconst (v := nI 0) hx hb dL_refuses_55 (by decide) ?_
    refine lv_iload_n hx hb dL_refuses_56 rfl (lv_at hl 0 rfl) ?_
    have k57 := ct_start2 l D a ca hJ Z (nI 0) off hV.2.2.1 hV.2.2.2.1 hV.1
    rw [show g_start2 Z (nI 0) off = (-100001) from ((if_neg (by decide)).trans (if_pos hoff)), show h_start2 Z (nI 0) off = Z from ((if_neg (by decide)).trans (if_pos hoff))] at k57
    refine z_cVi (As := [.int (nI 0), .int off]) (rest := []) ⟨hx, hb, hml, hown, hts⟩ (k57) (cwV 2 hts gL_refuses_X6_start rfl rfl rfl (by decide +kernel) ⟨Nat.le_of_ble_eq_true rfl, Nat.le_of_ble_eq_true rfl⟩) hK hP hS (va_recv (ci := 6) hK.1 hP rfl zW_b) rfl hl.1 rfl (Nat.le_of_ble_eq_true rfl) dL_refuses_57 ⟨Nat.zero_le _, Nat.zero_le _⟩ (fun H locs hP hS => ?_)
    refine lv_ldc (v := (-100001)) hx hb hown (hts (.constant RL 98 (-100001)) (by decide +kernel)) dL_refuses_60 ?_
    refine lv_icmp_ne (tgt := 322) hx hb dL_refuses_62 (by decide) (fun c62_3 => absurd rfl c62_3) (fun _ => ?_)
    refine lv_aload_n hx hb dL_refuses_65 rfl (lv_at hl 2 rfl) ?_
    refine lv_iload_n hx hb dL_refuses_66 rfl (lv_at hl 1 rfl) ?_
    have k67 := ct_halt2 l D a ca hJ Z no hV.2.2.1 hV.2.2.2.1 hV.1
    rw [show g_halt2 Z no = (-100001) from (if_pos hno), show h_halt2 Z no = Z from (if_pos hno)] at k67
    refine z_cVi (As := [.int no]) (rest := []) ⟨hx, hb, hml, hown, hts⟩ (k67) (cwV 1 hts gL_refuses_X6_halt rfl rfl rfl (by decide +kernel) ⟨Nat.le_of_ble_eq_true rfl, Nat.le_of_ble_eq_true rfl⟩) hK hP hS (va_recv (ci := 6) hK.1 hP rfl zW_b) rfl hl.1 rfl (Nat.le_of_ble_eq_true rfl) dL_refuses_67 ⟨Nat.zero_le _, Nat.zero_le _⟩ (fun H locs hP hS => ?_)
    refine lv_ldc (v := (-100001)) hx hb hown (hts (.constant RL 98 (-100001)) (by decide +kernel)) dL_refuses_70 ?_
    refine lv_icmp_ne (tgt := 322) hx hb dL_refuses_72 (by decide) (fun c72_4 => absurd rfl c72_4) (fun _ => ?_)
    refine lv_aload_n hx hb dL_refuses_75 rfl (lv_at hl 2 rfl) ?_
    refine lv_iload_n hx hb dL_refuses_76 rfl (lv_at hl 1 rfl) ?_
    refine lv_iconst (v := nI 0) hx hb dL_refuses_77 (by decide) ?_
    refine lv_ldc (v := nI 40000) hx hb hown (hts (.constant RL 128 (nI 40000)) (by decide +kernel)) dL_refuses_78 ?_
    have k80 := ct_setRegister2 l D a ca hJ Z no (nI 0) (nI 40000) hV.2.2.1 hV.2.2.2.1 hV.1
    rw [show g_setRegister2 Z no (nI 0) (nI 40000) = (-100001) from (if_pos hno), show h_setRegister2 Z no (nI 0) (nI 40000) = Z from (if_pos hno)] at k80
    refine z_cVi (As := [.int no, .int (nI 0), .int (nI 40000)]) (rest := []) ⟨hx, hb, hml, hown, hts⟩ (k80) (cwV 3 hts gL_refuses_X6_setRegister rfl rfl rfl (by decide +kernel) ⟨Nat.le_of_ble_eq_true rfl, Nat.le_of_ble_eq_true rfl⟩) hK hP hS (va_recv (ci := 6) hK.1 hP rfl zW_b) rfl hl.1 rfl (Nat.le_of_ble_eq_true rfl) dL_refuses_80 ⟨Nat.zero_le _, Nat.zero_le _⟩ (fun H locs hP hS => ?_)
    refine lv_ldc (v := (-100001)) hx hb hown (hts (.constant RL 98 (-100001)) (by decide +kernel)) dL_refuses_83 ?_
    refine lv_icmp_ne (tgt := 322) hx hb dL_refuses_85 (by decide) (fun c85_5 => absurd rfl c85_5) (fun _ => ?_)
    refine lv_aload_n hx hb dL_refuses_88 rfl (lv_at hl 2 rfl) ?_
    refine lv_iconst (v := nI 0) hx hb dL_refuses_89 (by decide) ?_
    refine lv_iload_n hx hb dL_refuses_90 rfl (lv_at hl 1 rfl) ?_
    refine lv_iconst (v := nI 0) hx hb dL_refuses_91 (by decide) ?_
    have k92 := ct_setRegister2 l D a ca hJ Z (nI 0) no (nI 0) hV.2.2.1 hV.2.2.2.1 hV.1
    rw [show g_setRegister2 Z (nI 0) no (nI 0) = (-100001) from ((if_neg (by decide)).trans (if_pos hno)), show h_setRegister2 Z (nI 0) no (nI 0) = Z from ((if_neg (by decide)).trans (if_pos hno))] at k92
    refine z_cVi (As := [.int (nI 0), .int no, .int (nI 0)]) (rest := []) ⟨hx, hb, hml, hown, hts⟩ (k92) (cwV 3 hts gL_refuses_X6_setRegister rfl rfl rfl (by decide +kernel) ⟨Nat.le_of_ble_eq_true rfl, Nat.le_of_ble_eq_true rfl⟩) hK hP hS (va_recv (ci := 6) hK.1 hP rfl zW_b) rfl hl.1 rfl (Nat.le_of_ble_eq_true rfl) dL_refuses_92 ⟨Nat.zero_le _, Nat.zero_le _⟩ (fun H locs hP hS => ?_)
    refine lv_ldc (v := (-100001)) hx hb hown (hts (.constant RL 98 (-100001)) (by decide +kernel)) dL_refuses_95 ?_
    refine lv_icmp_ne (tgt := 322) hx hb dL_refuses_97 (by decide) (fun c97_6 => absurd rfl c97_6) (fun _ => ?_)
    refine lv_aload_n hx hb dL_refuses_100 rfl (lv_at hl 2 rfl) ?_
    refine lv_iconst (v := nI 0) hx hb dL_refuses_101 (by decide) ?_
    refine lv_iconst (v := nI 0) hx hb dL_refuses_102 (by decide) ?_
    refine lv_ldc (v := nI 32768) hx hb hown (hts (.constant RL 36 (nI 32768)) (by decide +kernel)) dL_refuses_103 ?_
    refine lv_iload_n hx hb dL_refuses_105 rfl (lv_at hl 3 rfl) ?_
    refine lv_iadd hx hb dL_refuses_106 ?_
    refine z_val (z := nI (32768 + j)) (nI_add _ _) ?_
    have k107 := ct_setRegister2 l D a ca hJ Z (nI 0) (nI 0) (nI (32768 + j)) hV.2.2.1 hV.2.2.2.1 hV.1
    rw [show g_setRegister2 Z (nI 0) (nI 0) (nI (32768 + j)) = (-100002) from ((if_neg (by decide)).trans ((if_neg (by decide)).trans (if_pos (wo_hi (n := 32767) (by omega) (by omega))))), show h_setRegister2 Z (nI 0) (nI 0) (nI (32768 + j)) = Z from ((if_neg (by decide)).trans ((if_neg (by decide)).trans (if_pos (wo_hi (n := 32767) (by omega) (by omega)))))] at k107
    refine z_cVi (As := [.int (nI 0), .int (nI 0), .int (nI (32768 + j))]) (rest := []) ⟨hx, hb, hml, hown, hts⟩ (k107) (cwV 3 hts gL_refuses_X6_setRegister rfl rfl rfl (by decide +kernel) ⟨Nat.le_of_ble_eq_true rfl, Nat.le_of_ble_eq_true rfl⟩) hK hP hS (va_recv (ci := 6) hK.1 hP rfl zW_b) rfl hl.1 rfl (Nat.le_of_ble_eq_true rfl) dL_refuses_107 ⟨Nat.zero_le _, Nat.zero_le _⟩ (fun H locs hP hS => ?_)
    refine lv_ldc (v := (-100002)) hx hb hown (hts (.constant RL 129 (-100002)) (by decide +kernel)) dL_refuses_110 ?_
    refine lv_icmp_ne (tgt := 322) hx hb dL_refuses_112 (by decide) (fun c112_7 => absurd rfl c112_7) (fun _ => ?_)
    refine lv_aload_n hx hb dL_refuses_115 rfl (lv_at hl 2 rfl) ?_
    refine lv_iconst (v := nI 0) hx hb dL_refuses_116 (by decide) ?_
    refine lv_iconst (v := nI 0) hx hb dL_refuses_117 (by decide) ?_
    refine lv_ldc (v := (-32769)) hx hb hown (hts (.constant RL 130 (-32769)) (by decide +kernel)) dL_refuses_118 ?_
    refine lv_iload_n hx hb dL_refuses_120 rfl (lv_at hl 3 rfl) ?_
    refine lv_isub hx hb dL_refuses_121 ?_
    have k122 := ct_setRegister2 l D a ca hJ Z (nI 0) (nI 0) ((-32769) - (nI j)) hV.2.2.1 hV.2.2.2.1 hV.1
    rw [show g_setRegister2 Z (nI 0) (nI 0) ((-32769) - (nI j)) = (-100002) from ((if_neg (by decide)).trans ((if_neg (by decide)).trans (if_pos (wo_lo (lt_n (i := (-32769)) (k := (-32768)) (c := (-32769)) (lo := (-32768)) (by decide) (by decide) (by decide) hj (by omega)))))), show h_setRegister2 Z (nI 0) (nI 0) ((-32769) - (nI j)) = Z from ((if_neg (by decide)).trans ((if_neg (by decide)).trans (if_pos (wo_lo (lt_n (i := (-32769)) (k := (-32768)) (c := (-32769)) (lo := (-32768)) (by decide) (by decide) (by decide) hj (by omega))))))] at k122
    refine z_cVi (As := [.int (nI 0), .int (nI 0), .int ((-32769) - (nI j))]) (rest := []) ⟨hx, hb, hml, hown, hts⟩ (k122) (cwV 3 hts gL_refuses_X6_setRegister rfl rfl rfl (by decide +kernel) ⟨Nat.le_of_ble_eq_true rfl, Nat.le_of_ble_eq_true rfl⟩) hK hP hS (va_recv (ci := 6) hK.1 hP rfl zW_b) rfl hl.1 rfl (Nat.le_of_ble_eq_true rfl) dL_refuses_122 ⟨Nat.zero_le _, Nat.zero_le _⟩ (fun H locs hP hS => ?_)
    refine lv_ldc (v := (-100002)) hx hb hown (hts (.constant RL 129 (-100002)) (by decide +kernel)) dL_refuses_125 ?_
    refine lv_icmp_ne (tgt := 322) hx hb dL_refuses_127 (by decide) (fun c127_8 => absurd rfl c127_8) (fun _ => ?_)
    refine lv_aload_n hx hb dL_refuses_130 rfl (lv_at hl 2 rfl) ?_
    refine lv_bipush (v := nI 32) hx hb dL_refuses_131 (by decide) ?_
    refine lv_iload_n hx hb dL_refuses_133 rfl (lv_at hl 3 rfl) ?_
    refine lv_iadd hx hb dL_refuses_134 ?_
    refine z_val (z := nI (32 + j)) (nI_add _ _) ?_
    refine lv_ldc (v := nI 40000) hx hb hown (hts (.constant RL 128 (nI 40000)) (by decide +kernel)) dL_refuses_135 ?_
    have k137 := ct_setWord2 l D a ca hJ Z (nI (32 + j)) (nI 40000) hV.2.2.1 hV.2.2.2.1 hV.1
    rw [show g_setWord2 Z (nI (32 + j)) (nI 40000) = (-100001) from (if_pos (wo_hi (n := 31) (by omega) (by omega))), show h_setWord2 Z (nI (32 + j)) (nI 40000) = Z from (if_pos (wo_hi (n := 31) (by omega) (by omega)))] at k137
    refine z_cVi (As := [.int (nI (32 + j)), .int (nI 40000)]) (rest := []) ⟨hx, hb, hml, hown, hts⟩ (k137) (cwV 2 hts gL_refuses_X6_setWord rfl rfl rfl (by decide +kernel) ⟨Nat.le_of_ble_eq_true rfl, Nat.le_of_ble_eq_true rfl⟩) hK hP hS (va_recv (ci := 6) hK.1 hP rfl zW_b) rfl hl.1 rfl (Nat.le_of_ble_eq_true rfl) dL_refuses_137 ⟨Nat.zero_le _, Nat.zero_le _⟩ (fun H locs hP hS => ?_)
    refine lv_ldc (v := (-100001)) hx hb hown (hts (.constant RL 98 (-100001)) (by decide +kernel)) dL_refuses_140 ?_
    refine lv_icmp_ne (tgt := 322) hx hb dL_refuses_142 (by decide) (fun c142_9 => absurd rfl c142_9) (fun _ => ?_)
    refine lv_aload_n hx hb dL_refuses_145 rfl (lv_at hl 2 rfl) ?_
    refine lv_iconst (v := (-1)) hx hb dL_refuses_146 (by decide) ?_
    refine lv_iload_n hx hb dL_refuses_147 rfl (lv_at hl 3 rfl) ?_
    refine lv_isub hx hb dL_refuses_148 ?_
    refine lv_iconst (v := nI 0) hx hb dL_refuses_149 (by decide) ?_
    have k150 := ct_setWord2 l D a ca hJ Z ((-1) - (nI j)) (nI 0) hV.2.2.1 hV.2.2.2.1 hV.1
    rw [show g_setWord2 Z ((-1) - (nI j)) (nI 0) = (-100001) from (if_pos (wo_lo (lt_n (i := (-1)) (k := 0) (c := (-1)) (lo := (nI 0)) (by decide) (by decide) (by decide) hj (by omega)))), show h_setWord2 Z ((-1) - (nI j)) (nI 0) = Z from (if_pos (wo_lo (lt_n (i := (-1)) (k := 0) (c := (-1)) (lo := (nI 0)) (by decide) (by decide) (by decide) hj (by omega))))] at k150
    refine z_cVi (As := [.int ((-1) - (nI j)), .int (nI 0)]) (rest := []) ⟨hx, hb, hml, hown, hts⟩ (k150) (cwV 2 hts gL_refuses_X6_setWord rfl rfl rfl (by decide +kernel) ⟨Nat.le_of_ble_eq_true rfl, Nat.le_of_ble_eq_true rfl⟩) hK hP hS (va_recv (ci := 6) hK.1 hP rfl zW_b) rfl hl.1 rfl (Nat.le_of_ble_eq_true rfl) dL_refuses_150 ⟨Nat.zero_le _, Nat.zero_le _⟩ (fun H locs hP hS => ?_)
    refine lv_ldc (v := (-100001)) hx hb hown (hts (.constant RL 98 (-100001)) (by decide +kernel)) dL_refuses_153 ?_
    refine lv_icmp_ne (tgt := 322) hx hb dL_refuses_155 (by decide) (fun c155_10 => absurd rfl c155_10) (fun _ => ?_)
    refine lv_aload_n hx hb dL_refuses_158 rfl (lv_at hl 2 rfl) ?_
    refine lv_iconst (v := nI 0) hx hb dL_refuses_159 (by decide) ?_
    refine lv_ldc (v := nI 32768) hx hb hown (hts (.constant RL 36 (nI 32768)) (by decide +kernel)) dL_refuses_160 ?_
    refine lv_iload_n hx hb dL_refuses_162 rfl (lv_at hl 3 rfl) ?_
    refine lv_iadd hx hb dL_refuses_163 ?_
    refine z_val (z := nI (32768 + j)) (nI_add _ _) ?_
    have k164 := ct_setWord2 l D a ca hJ Z (nI 0) (nI (32768 + j)) hV.2.2.1 hV.2.2.2.1 hV.1
    rw [show g_setWord2 Z (nI 0) (nI (32768 + j)) = (-100002) from ((if_neg (by decide)).trans (if_pos (wo_hi (n := 32767) (by omega) (by omega)))), show h_setWord2 Z (nI 0) (nI (32768 + j)) = Z from ((if_neg (by decide)).trans (if_pos (wo_hi (n := 32767) (by omega) (by omega))))] at k164
    refine z_cVi (As := [.int (nI 0), .int (nI (32768 + j))]) (rest := []) ⟨hx, hb, hml, hown, hts⟩ (k164) (cwV 2 hts gL_refuses_X6_setWord rfl rfl rfl (by decide +kernel) ⟨Nat.le_of_ble_eq_true rfl, Nat.le_of_ble_eq_true rfl⟩) hK hP hS (va_recv (ci := 6) hK.1 hP rfl zW_b) rfl hl.1 rfl (Nat.le_of_ble_eq_true rfl) dL_refuses_164 ⟨Nat.zero_le _, Nat.zero_le _⟩ (fun H locs hP hS => ?_)
    refine lv_ldc (v := (-100002)) hx hb hown (hts (.constant RL 129 (-100002)) (by decide +kernel)) dL_refuses_167 ?_
    refine lv_icmp_ne (tgt := 322) hx hb dL_refuses_169 (by decide) (fun c169_11 => absurd rfl c169_11) (fun _ => ?_)
    refine lv_aload_n hx hb dL_refuses_172 rfl (lv_at hl 2 rfl) ?_
    refine lv_bipush (v := nI 8) hx hb dL_refuses_173 (by decide) ?_
    refine lv_iload_n hx hb dL_refuses_175 rfl (lv_at hl 3 rfl) ?_
    refine lv_iadd hx hb dL_refuses_176 ?_
    refine z_val (z := nI (8 + j)) (nI_add _ _) ?_
    refine lv_iconst (v := nI 0) hx hb dL_refuses_177 (by decide) ?_
    have k178 := ct_setSlot2 l D a ca hJ Z (nI (8 + j)) (nI 0) hV.2.2.1 hV.2.2.2.1 hV.1
    rw [show g_setSlot2 Z (nI (8 + j)) (nI 0) = (-100001) from (if_pos (wo_hi (n := 7) (by omega) (by omega))), show h_setSlot2 Z (nI (8 + j)) (nI 0) = Z from (if_pos (wo_hi (n := 7) (by omega) (by omega)))] at k178
    refine z_cVi (As := [.int (nI (8 + j)), .int (nI 0)]) (rest := []) ⟨hx, hb, hml, hown, hts⟩ (k178) (cwV 2 hts gL_refuses_X6_setSlot rfl rfl rfl (by decide +kernel) ⟨Nat.le_of_ble_eq_true rfl, Nat.le_of_ble_eq_true rfl⟩) hK hP hS (va_recv (ci := 6) hK.1 hP rfl zW_b) rfl hl.1 rfl (Nat.le_of_ble_eq_true rfl) dL_refuses_178 ⟨Nat.zero_le _, Nat.zero_le _⟩ (fun H locs hP hS => ?_)
    refine lv_ldc (v := (-100001)) hx hb hown (hts (.constant RL 98 (-100001)) (by decide +kernel)) dL_refuses_181 ?_
    refine lv_icmp_ne (tgt := 322) hx hb dL_refuses_183 (by decide) (fun c183_12 => absurd rfl c183_12) (fun _ => ?_)
    refine lv_aload_n hx hb dL_refuses_186 rfl (lv_at hl 2 rfl) ?_
    refine lv_iconst (v := nI 0) hx hb dL_refuses_187 (by decide) ?_
    refine lv_iload_n hx hb dL_refuses_188 rfl (lv_at hl 1 rfl) ?_
    have k189 := ct_setSlot2 l D a ca hJ Z (nI 0) no hV.2.2.1 hV.2.2.2.1 hV.1
    rw [show g_setSlot2 Z (nI 0) no = (-100001) from ((if_neg (by decide)).trans (if_pos hno)), show h_setSlot2 Z (nI 0) no = Z from ((if_neg (by decide)).trans (if_pos hno))] at k189
    refine z_cVi (As := [.int (nI 0), .int no]) (rest := []) ⟨hx, hb, hml, hown, hts⟩ (k189) (cwV 2 hts gL_refuses_X6_setSlot rfl rfl rfl (by decide +kernel) ⟨Nat.le_of_ble_eq_true rfl, Nat.le_of_ble_eq_true rfl⟩) hK hP hS (va_recv (ci := 6) hK.1 hP rfl zW_b) rfl hl.1 rfl (Nat.le_of_ble_eq_true rfl) dL_refuses_189 ⟨Nat.zero_le _, Nat.zero_le _⟩ (fun H locs hP hS => ?_)
    refine lv_ldc (v := (-100001)) hx hb hown (hts (.constant RL 98 (-100001)) (by decide +kernel)) dL_refuses_192 ?_
    refine lv_icmp_ne (tgt := 322) hx hb dL_refuses_194 (by decide) (fun c194_13 => absurd rfl c194_13) (fun _ => ?_)
    refine lv_aload_n hx hb dL_refuses_197 rfl (lv_at hl 2 rfl) ?_
    refine lv_iconst (v := nI 2) hx hb dL_refuses_198 (by decide) ?_
    refine lv_iload_n hx hb dL_refuses_199 rfl (lv_at hl 3 rfl) ?_
    refine lv_iadd hx hb dL_refuses_200 ?_
    refine z_val (z := nI (2 + j)) (nI_add _ _) ?_
    refine lv_iconst (v := nI 0) hx hb dL_refuses_201 (by decide) ?_
    have k202 := ct_set2 l D a ca hJ Z (nI (2 + j)) (nI 0) hV.2.2.1 hV.2.2.2.1 hV.1
    rw [show g_set2 Z (nI (2 + j)) (nI 0) = (-100001) from (if_pos (wo_hi (n := 1) (by omega) (by omega))), show h_set2 Z (nI (2 + j)) (nI 0) = Z from (if_pos (wo_hi (n := 1) (by omega) (by omega)))] at k202
    refine z_cVi (As := [.int (nI (2 + j)), .int (nI 0)]) (rest := []) ⟨hx, hb, hml, hown, hts⟩ (k202) (cwV 2 hts gL_refuses_X6_set rfl rfl rfl (by decide +kernel) ⟨Nat.le_of_ble_eq_true rfl, Nat.le_of_ble_eq_true rfl⟩) hK hP hS (va_recv (ci := 6) hK.1 hP rfl zW_b) rfl hl.1 rfl (Nat.le_of_ble_eq_true rfl) dL_refuses_202 ⟨Nat.zero_le _, Nat.zero_le _⟩ (fun H locs hP hS => ?_)
    refine lv_ldc (v := (-100001)) hx hb hown (hts (.constant RL 98 (-100001)) (by decide +kernel)) dL_refuses_205 ?_
    refine lv_icmp_ne (tgt := 322) hx hb dL_refuses_207 (by decide) (fun c207_14 => absurd rfl c207_14) (fun _ => ?_)
    refine lv_aload_n hx hb dL_refuses_210 rfl (lv_at hl 2 rfl) ?_
    refine lv_iconst (v := (-1)) hx hb dL_refuses_211 (by decide) ?_
    refine lv_iconst (v := nI 0) hx hb dL_refuses_212 (by decide) ?_
    have k213 := ct_set2 l D a ca hJ Z (-1) (nI 0) hV.2.2.1 hV.2.2.2.1 hV.1
    rw [show g_set2 Z (-1) (nI 0) = (-100001) from (if_pos (by decide)), show h_set2 Z (-1) (nI 0) = Z from (if_pos (by decide))] at k213
    refine z_cVi (As := [.int (-1), .int (nI 0)]) (rest := []) ⟨hx, hb, hml, hown, hts⟩ (k213) (cwV 2 hts gL_refuses_X6_set rfl rfl rfl (by decide +kernel) ⟨Nat.le_of_ble_eq_true rfl, Nat.le_of_ble_eq_true rfl⟩) hK hP hS (va_recv (ci := 6) hK.1 hP rfl zW_b) rfl hl.1 rfl (Nat.le_of_ble_eq_true rfl) dL_refuses_213 ⟨Nat.zero_le _, Nat.zero_le _⟩ (fun H locs hP hS => ?_)
    refine lv_ldc (v := (-100001)) hx hb hown (hts (.constant RL 98 (-100001)) (by decide +kernel)) dL_refuses_216 ?_
    refine lv_icmp_ne (tgt := 322) hx hb dL_refuses_218 (by decide) (fun c218_15 => absurd rfl c218_15) (fun _ => ?_)
    refine lv_aload_n hx hb dL_refuses_221 rfl (lv_at hl 2 rfl) ?_
    refine lv_iconst (v := nI 0) hx hb dL_refuses_222 (by decide) ?_
    refine lv_bipush (v := nI 21) hx hb dL_refuses_223 (by decide) ?_
    refine lv_iload_n hx hb dL_refuses_225 rfl (lv_at hl 3 rfl) ?_
    refine lv_iadd hx hb dL_refuses_226 ?_
    refine z_val (z := nI (21 + j)) (nI_add _ _) ?_
    have k227 := ct_set2 l D a ca hJ Z (nI 0) (nI (21 + j)) hV.2.2.1 hV.2.2.2.1 hV.1
    rw [show g_set2 Z (nI 0) (nI (21 + j)) = (-100002) from ((if_neg (by decide)).trans ((if_pos rfl).trans (if_pos (wo_hi (n := 20) (by omega) (by omega))))), show h_set2 Z (nI 0) (nI (21 + j)) = Z from ((if_neg (by decide)).trans ((if_pos rfl).trans (if_pos (wo_hi (n := 20) (by omega) (by omega)))))] at k227
    refine z_cVi (As := [.int (nI 0), .int (nI (21 + j))]) (rest := []) ⟨hx, hb, hml, hown, hts⟩ (k227) (cwV 2 hts gL_refuses_X6_set rfl rfl rfl (by decide +kernel) ⟨Nat.le_of_ble_eq_true rfl, Nat.le_of_ble_eq_true rfl⟩) hK hP hS (va_recv (ci := 6) hK.1 hP rfl zW_b) rfl hl.1 rfl (Nat.le_of_ble_eq_true rfl) dL_refuses_227 ⟨Nat.zero_le _, Nat.zero_le _⟩ (fun H locs hP hS => ?_)
    refine lv_ldc (v := (-100002)) hx hb hown (hts (.constant RL 129 (-100002)) (by decide +kernel)) dL_refuses_230 ?_
    refine lv_icmp_ne (tgt := 322) hx hb dL_refuses_232 (by decide) (fun c232_16 => absurd rfl c232_16) (fun _ => ?_)
    refine lv_aload_n hx hb dL_refuses_235 rfl (lv_at hl 2 rfl) ?_
    refine lv_iconst (v := nI 1) hx hb dL_refuses_236 (by decide) ?_
    refine lv_iconst (v := nI 3) hx hb dL_refuses_237 (by decide) ?_
    have k238 := ct_set2 l D a ca hJ Z (nI 1) (nI 3) hV.2.2.1 hV.2.2.2.1 hV.1
    rw [show g_set2 Z (nI 1) (nI 3) = (-100002) from ((if_neg (by decide)).trans ((if_neg (by decide)).trans (if_pos (by decide)))), show h_set2 Z (nI 1) (nI 3) = Z from ((if_neg (by decide)).trans ((if_neg (by decide)).trans (if_pos (by decide))))] at k238
    refine z_cVi (As := [.int (nI 1), .int (nI 3)]) (rest := []) ⟨hx, hb, hml, hown, hts⟩ (k238) (cwV 2 hts gL_refuses_X6_set rfl rfl rfl (by decide +kernel) ⟨Nat.le_of_ble_eq_true rfl, Nat.le_of_ble_eq_true rfl⟩) hK hP hS (va_recv (ci := 6) hK.1 hP rfl zW_b) rfl hl.1 rfl (Nat.le_of_ble_eq_true rfl) dL_refuses_238 ⟨Nat.zero_le _, Nat.zero_le _⟩ (fun H locs hP hS => ?_)
    refine lv_ldc (v := (-100002)) hx hb hown (hts (.constant RL 129 (-100002)) (by decide +kernel)) dL_refuses_241 ?_
    refine lv_icmp_ne (tgt := 322) hx hb dL_refuses_243 (by decide) (fun c243_17 => absurd rfl c243_17) (fun _ => ?_)
    refine lv_aload_n hx hb dL_refuses_246 rfl (lv_at hl 2 rfl) ?_
    refine lv_iconst (v := nI 1) hx hb dL_refuses_247 (by decide) ?_
    refine lv_iconst (v := (-1)) hx hb dL_refuses_248 (by decide) ?_
    have k249 := ct_set2 l D a ca hJ Z (nI 1) (-1) hV.2.2.1 hV.2.2.2.1 hV.1
    rw [show g_set2 Z (nI 1) (-1) = (-100002) from ((if_neg (by decide)).trans ((if_neg (by decide)).trans (if_pos (by decide)))), show h_set2 Z (nI 1) (-1) = Z from ((if_neg (by decide)).trans ((if_neg (by decide)).trans (if_pos (by decide))))] at k249
    refine z_cVi (As := [.int (nI 1), .int (-1)]) (rest := []) ⟨hx, hb, hml, hown, hts⟩ (k249) (cwV 2 hts gL_refuses_X6_set rfl rfl rfl (by decide +kernel) ⟨Nat.le_of_ble_eq_true rfl, Nat.le_of_ble_eq_true rfl⟩) hK hP hS (va_recv (ci := 6) hK.1 hP rfl zW_b) rfl hl.1 rfl (Nat.le_of_ble_eq_true rfl) dL_refuses_249 ⟨Nat.zero_le _, Nat.zero_le _⟩ (fun H locs hP hS => ?_)
    refine lv_ldc (v := (-100002)) hx hb hown (hts (.constant RL 129 (-100002)) (by decide +kernel)) dL_refuses_252 ?_
    refine lv_icmp_ne (tgt := 322) hx hb dL_refuses_254 (by decide) (fun c254_18 => absurd rfl c254_18) (fun _ => ?_)
    refine lv_aload_n hx hb dL_refuses_257 rfl (lv_at hl 2 rfl) ?_
    refine lv_iload_n hx hb dL_refuses_258 rfl (lv_at hl 0 rfl) ?_
    refine lv_iconst (v := nI 1) hx hb dL_refuses_259 (by decide) ?_
    have k260 := ct_setBreakpoint2 l D a ca hJ Z off (nI 1) hV.2.2.1 hV.2.2.2.1 hV.1
    rw [show g_setBreakpoint2 Z off (nI 1) = (-100001) from (if_pos hoff), show h_setBreakpoint2 Z off (nI 1) = Z from (if_pos hoff)] at k260
    refine z_cVi (As := [.int off, .int (nI 1)]) (rest := []) ⟨hx, hb, hml, hown, hts⟩ (k260) (cwV 2 hts gL_refuses_X6_setBreakpoint rfl rfl rfl (by decide +kernel) ⟨Nat.le_of_ble_eq_true rfl, Nat.le_of_ble_eq_true rfl⟩) hK hP hS (va_recv (ci := 6) hK.1 hP rfl zW_b) rfl hl.1 rfl (Nat.le_of_ble_eq_true rfl) dL_refuses_260 ⟨Nat.zero_le _, Nat.zero_le _⟩ (fun H locs hP hS => ?_)
    refine lv_ldc (v := (-100001)) hx hb hown (hts (.constant RL 98 (-100001)) (by decide +kernel)) dL_refuses_263 ?_
    refine lv_icmp_ne (tgt := 322) hx hb dL_refuses_265 (by decide) (fun c265_19 => absurd rfl c265_19) (fun _ => ?_)
    refine lv_aload_n hx hb dL_refuses_268 rfl (lv_at hl 2 rfl) ?_
    refine lv_iconst (v := nI 0) hx hb dL_refuses_269 (by decide) ?_
    have k270 := ct_run2 l D a ca hJ Z (nI 0) hV.2.2.1 hV.2.2.2.1 hV.1 (ivp_z hV)
    rw [show g_run2 Z (nI 0) = (-100002) from (if_pos (by decide)), show h_run2 Z (nI 0) = Z from (if_pos (by decide))] at k270
    refine z_cVi (As := [.int (nI 0)]) (rest := []) ⟨hx, hb, hml, hown, hts⟩ (k270) (cwV 1 hts gL_refuses_X6_run rfl rfl rfl (by decide +kernel) ⟨Nat.le_of_ble_eq_true rfl, Nat.le_of_ble_eq_true rfl⟩) hK hP hS (va_recv (ci := 6) hK.1 hP rfl zW_b) rfl hl.1 rfl (Nat.le_of_ble_eq_true rfl) dL_refuses_270 ⟨Nat.zero_le _, Nat.zero_le _⟩ (fun H locs hP hS => ?_)
    refine lv_ldc (v := (-100002)) hx hb hown (hts (.constant RL 129 (-100002)) (by decide +kernel)) dL_refuses_273 ?_
    refine lv_icmp_ne (tgt := 322) hx hb dL_refuses_275 (by decide) (fun c275_20 => absurd rfl c275_20) (fun _ => ?_)
    refine lv_aload_n hx hb dL_refuses_278 rfl (lv_at hl 2 rfl) ?_
    refine lv_sipush (v := nI 201) hx hb dL_refuses_279 (by decide) ?_
    refine lv_iload_n hx hb dL_refuses_282 rfl (lv_at hl 3 rfl) ?_
    refine lv_iadd hx hb dL_refuses_283 ?_
    refine z_val (z := nI (201 + j)) (nI_add _ _) ?_
    have k284 := ct_run2 l D a ca hJ Z (nI (201 + j)) hV.2.2.1 hV.2.2.2.1 hV.1 (ivp_z hV)
    rw [show g_run2 Z (nI (201 + j)) = (-100002) from (if_pos (wo_hi (n := 200) (by omega) (by omega))), show h_run2 Z (nI (201 + j)) = Z from (if_pos (wo_hi (n := 200) (by omega) (by omega)))] at k284
    refine z_cVi (As := [.int (nI (201 + j))]) (rest := []) ⟨hx, hb, hml, hown, hts⟩ (k284) (cwV 1 hts gL_refuses_X6_run rfl rfl rfl (by decide +kernel) ⟨Nat.le_of_ble_eq_true rfl, Nat.le_of_ble_eq_true rfl⟩) hK hP hS (va_recv (ci := 6) hK.1 hP rfl zW_b) rfl hl.1 rfl (Nat.le_of_ble_eq_true rfl) dL_refuses_284 ⟨Nat.zero_le _, Nat.zero_le _⟩ (fun H locs hP hS => ?_)
    refine lv_ldc (v := (-100002)) hx hb hown (hts (.constant RL 129 (-100002)) (by decide +kernel)) dL_refuses_287 ?_
    refine lv_icmp_ne (tgt := 322) hx hb dL_refuses_289 (by decide) (fun c289_21 => absurd rfl c289_21) (fun _ => ?_)
    refine lv_aload_n hx hb dL_refuses_292 rfl (lv_at hl 2 rfl) ?_
    refine lv_bipush (v := nI 31) hx hb dL_refuses_293 (by decide) ?_
    refine lv_iload_n hx hb dL_refuses_295 rfl (lv_at hl 3 rfl) ?_
    refine lv_isub hx hb dL_refuses_296 ?_
    have k297 := ct_X6_append l D a ca hJ Z ((nI 31) - (nI j)) hV.2.2.2.2
    rw [show g_X6_append Z ((nI 31) - (nI j)) = (-100002) from (if_pos (wo_lo (lt_n (i := 31) (k := 32) (c := (nI 31)) (lo := (nI 32)) (by decide) (by decide) (by decide) hj (by omega)))), show h_X6_append Z ((nI 31) - (nI j)) = Z from (if_pos (wo_lo (lt_n (i := 31) (k := 32) (c := (nI 31)) (lo := (nI 32)) (by decide) (by decide) (by decide) hj (by omega))))] at k297
    refine z_cVi (As := [.int ((nI 31) - (nI j))]) (rest := []) ⟨hx, hb, hml, hown, hts⟩ (k297) (cwV 1 hts gL_refuses_X6_append rfl rfl rfl (by decide +kernel) ⟨Nat.le_of_ble_eq_true rfl, Nat.le_of_ble_eq_true rfl⟩) hK hP hS (va_recv (ci := 6) hK.1 hP rfl zW_b) rfl hl.1 rfl (Nat.le_of_ble_eq_true rfl) dL_refuses_297 ⟨Nat.zero_le _, Nat.zero_le _⟩ (fun H locs hP hS => ?_)
    refine lv_ldc (v := (-100002)) hx hb hown (hts (.constant RL 129 (-100002)) (by decide +kernel)) dL_refuses_300 ?_
    refine lv_icmp_ne (tgt := 322) hx hb dL_refuses_302 (by decide) (fun c302_22 => absurd rfl c302_22) (fun _ => ?_)
    refine lv_aload_n hx hb dL_refuses_305 rfl (lv_at hl 2 rfl) ?_
    refine lv_bipush (v := nI 127) hx hb dL_refuses_306 (by decide) ?_
    refine lv_iload_n hx hb dL_refuses_308 rfl (lv_at hl 3 rfl) ?_
    refine lv_iadd hx hb dL_refuses_309 ?_
    refine z_val (z := nI (127 + j)) (nI_add _ _) ?_
    have k310 := ct_X6_append l D a ca hJ Z (nI (127 + j)) hV.2.2.2.2
    rw [show g_X6_append Z (nI (127 + j)) = (-100002) from (if_pos (wo_hi (n := 126) (by omega) (by omega))), show h_X6_append Z (nI (127 + j)) = Z from (if_pos (wo_hi (n := 126) (by omega) (by omega)))] at k310
    refine z_cVi (As := [.int (nI (127 + j))]) (rest := []) ⟨hx, hb, hml, hown, hts⟩ (k310) (cwV 1 hts gL_refuses_X6_append rfl rfl rfl (by decide +kernel) ⟨Nat.le_of_ble_eq_true rfl, Nat.le_of_ble_eq_true rfl⟩) hK hP hS (va_recv (ci := 6) hK.1 hP rfl zW_b) rfl hl.1 rfl (Nat.le_of_ble_eq_true rfl) dL_refuses_310 ⟨Nat.zero_le _, Nat.zero_le _⟩ (fun H locs hP hS => ?_)
    refine lv_ldc (v := (-100002)) hx hb hown (hts (.constant RL 129 (-100002)) (by decide +kernel)) dL_refuses_313 ?_
    refine lv_icmp_ne (tgt := 322) hx hb dL_refuses_315 (by decide) (fun c315_23 => absurd rfl c315_23) (fun _ => ?_)
    refine lv_iconst (v := nI 1) hx hb dL_refuses_318 (by decide) ?_
    refine lv_goto (tgt := 323) hx hb dL_refuses_319 (by decide) ?_
    refine lv_istore (lv' := [(4, .int (nI 1)), (3, .int off), (2, .int no), (0, .ref (a 114)), (1, .int (nI j))]) hx hb dL_refuses_323 hl (by decide) rfl (fun ls hl => ?_)
    refine lv_iload hx hb dL_refuses_325 (lv_at hl 0 rfl) ?_
    refine lv_if_eq (tgt := 529) hx hb dL_refuses_327 (by decide) (fun c327_24 => absurd c327_24 (by decide)) (fun _ => ?_)
    refine lv_aload_n hx hb dL_refuses_330 rfl (lv_at hl 3 rfl) ?_
    refine lv_iload_n hx hb dL_refuses_331 rfl (lv_at hl 2 rfl) ?_
    have k332 := ct_X6_state l D a ca hJ Z no
    rw [show g_X6_state Z no = (-100001) from (if_pos hno)] at k332
    refine z_cVi (As := [.int no]) (rest := []) ⟨hx, hb, hml, hown, hts⟩ (k332) (cwV 1 hts gL_refuses_X6_state rfl rfl rfl (by decide +kernel) ⟨Nat.le_of_ble_eq_true rfl, Nat.le_of_ble_eq_true rfl⟩) hK hP hS (va_recv (ci := 6) hK.1 hP rfl zW_b) rfl hl.1 rfl (Nat.le_of_ble_eq_true rfl) dL_refuses_332 ⟨Nat.zero_le _, Nat.zero_le _⟩ (fun H locs hP hS => ?_)
    refine lv_ldc (v := (-100001)) hx hb hown (hts (.constant RL 98 (-100001)) (by decide +kernel)) dL_refuses_335 ?_
    refine lv_icmp_ne (tgt := 529) hx hb dL_refuses_337 (by decide) (fun c337_25 => absurd rfl c337_25) (fun _ => ?_)
    refine lv_aload_n hx hb dL_refuses_340 rfl (lv_at hl 3 rfl) ?_
    refine lv_iload_n hx hb dL_refuses_341 rfl (lv_at hl 2 rfl) ?_
    have k342 := ct_X6_programCounter l D a ca hJ Z no
    rw [show g_X6_programCounter Z no = (-100001) from (if_pos hno)] at k342
    refine z_cVi (As := [.int no]) (rest := []) ⟨hx, hb, hml, hown, hts⟩ (k342) (cwV 1 hts gL_refuses_X6_programCounter rfl rfl rfl (by decide +kernel) ⟨Nat.le_of_ble_eq_true rfl, Nat.le_of_ble_eq_true rfl⟩) hK hP hS (va_recv (ci := 6) hK.1 hP rfl zW_b) rfl hl.1 rfl (Nat.le_of_ble_eq_true rfl) dL_refuses_342 ⟨Nat.zero_le _, Nat.zero_le _⟩ (fun H locs hP hS => ?_)
    refine lv_ldc (v := (-100001)) hx hb hown (hts (.constant RL 98 (-100001)) (by decide +kernel)) dL_refuses_345 ?_
    refine lv_icmp_ne (tgt := 529) hx hb dL_refuses_347 (by decide) (fun c347_26 => absurd rfl c347_26) (fun _ => ?_)
    refine lv_aload_n hx hb dL_refuses_350 rfl (lv_at hl 3 rfl) ?_
    refine lv_iload_n hx hb dL_refuses_351 rfl (lv_at hl 2 rfl) ?_
    refine lv_iconst (v := nI 0) hx hb dL_refuses_352 (by decide) ?_
    have k353 := ct_X6_register l D a ca hJ Z no (nI 0)
    rw [show g_X6_register Z no (nI 0) = (-100001) from (if_pos hno)] at k353
    refine z_cVi (As := [.int no, .int (nI 0)]) (rest := []) ⟨hx, hb, hml, hown, hts⟩ (k353) (cwV 2 hts gL_refuses_X6_register rfl rfl rfl (by decide +kernel) ⟨Nat.le_of_ble_eq_true rfl, Nat.le_of_ble_eq_true rfl⟩) hK hP hS (va_recv (ci := 6) hK.1 hP rfl zW_b) rfl hl.1 rfl (Nat.le_of_ble_eq_true rfl) dL_refuses_353 ⟨Nat.zero_le _, Nat.zero_le _⟩ (fun H locs hP hS => ?_)
    refine lv_ldc (v := (-100001)) hx hb hown (hts (.constant RL 98 (-100001)) (by decide +kernel)) dL_refuses_356 ?_
    refine lv_icmp_ne (tgt := 529) hx hb dL_refuses_358 (by decide) (fun c358_27 => absurd rfl c358_27) (fun _ => ?_)
    refine lv_aload_n hx hb dL_refuses_361 rfl (lv_at hl 3 rfl) ?_
    refine lv_bipush (v := nI 32) hx hb dL_refuses_362 (by decide) ?_
    refine lv_iload_n hx hb dL_refuses_364 rfl (lv_at hl 4 rfl) ?_
    refine lv_iadd hx hb dL_refuses_365 ?_
    refine z_val (z := nI (32 + j)) (nI_add _ _) ?_
    have k366 := ct_X6_word l D a ca hJ Z (nI (32 + j))
    rw [show g_X6_word Z (nI (32 + j)) = (-100001) from (if_pos (wo_hi (n := 31) (by omega) (by omega)))] at k366
    refine z_cVi (As := [.int (nI (32 + j))]) (rest := []) ⟨hx, hb, hml, hown, hts⟩ (k366) (cwV 1 hts gL_refuses_X6_word rfl rfl rfl (by decide +kernel) ⟨Nat.le_of_ble_eq_true rfl, Nat.le_of_ble_eq_true rfl⟩) hK hP hS (va_recv (ci := 6) hK.1 hP rfl zW_b) rfl hl.1 rfl (Nat.le_of_ble_eq_true rfl) dL_refuses_366 ⟨Nat.zero_le _, Nat.zero_le _⟩ (fun H locs hP hS => ?_)
    refine lv_ldc (v := (-100001)) hx hb hown (hts (.constant RL 98 (-100001)) (by decide +kernel)) dL_refuses_369 ?_
    refine lv_icmp_ne (tgt := 529) hx hb dL_refuses_371 (by decide) (fun c371_28 => absurd rfl c371_28) (fun _ => ?_)
    refine lv_aload_n hx hb dL_refuses_374 rfl (lv_at hl 3 rfl) ?_
    refine lv_iload_n hx hb dL_refuses_375 rfl (lv_at hl 1 rfl) ?_
    have k376 := ct_X6_operation l D a ca hJ Z off
    rw [show g_X6_operation Z off = (-100001) from (if_pos hoff)] at k376
    refine z_cVi (As := [.int off]) (rest := []) ⟨hx, hb, hml, hown, hts⟩ (k376) (cwV 1 hts gL_refuses_X6_operation rfl rfl rfl (by decide +kernel) ⟨Nat.le_of_ble_eq_true rfl, Nat.le_of_ble_eq_true rfl⟩) hK hP hS (va_recv (ci := 6) hK.1 hP rfl zW_b) rfl hl.1 rfl (Nat.le_of_ble_eq_true rfl) dL_refuses_376 ⟨Nat.zero_le _, Nat.zero_le _⟩ (fun H locs hP hS => ?_)
    refine lv_ldc (v := (-100001)) hx hb hown (hts (.constant RL 98 (-100001)) (by decide +kernel)) dL_refuses_379 ?_
    refine lv_icmp_ne (tgt := 529) hx hb dL_refuses_381 (by decide) (fun c381_29 => absurd rfl c381_29) (fun _ => ?_)
    refine lv_aload_n hx hb dL_refuses_384 rfl (lv_at hl 3 rfl) ?_
    refine lv_iload_n hx hb dL_refuses_385 rfl (lv_at hl 1 rfl) ?_
    refine lv_iconst (v := nI 2) hx hb dL_refuses_386 (by decide) ?_
    have k387 := ct_X6_operand l D a ca hJ Z off (nI 2)
    rw [show g_X6_operand Z off (nI 2) = (-100001) from (if_pos hoff)] at k387
    refine z_cVi (As := [.int off, .int (nI 2)]) (rest := []) ⟨hx, hb, hml, hown, hts⟩ (k387) (cwV 2 hts gL_refuses_X6_operand rfl rfl rfl (by decide +kernel) ⟨Nat.le_of_ble_eq_true rfl, Nat.le_of_ble_eq_true rfl⟩) hK hP hS (va_recv (ci := 6) hK.1 hP rfl zW_b) rfl hl.1 rfl (Nat.le_of_ble_eq_true rfl) dL_refuses_387 ⟨Nat.zero_le _, Nat.zero_le _⟩ (fun H locs hP hS => ?_)
    refine lv_ldc (v := (-100001)) hx hb hown (hts (.constant RL 98 (-100001)) (by decide +kernel)) dL_refuses_390 ?_
    refine lv_icmp_ne (tgt := 529) hx hb dL_refuses_392 (by decide) (fun c392_30 => absurd rfl c392_30) (fun _ => ?_)
    refine lv_aload_n hx hb dL_refuses_395 rfl (lv_at hl 3 rfl) ?_
    refine lv_iconst (v := nI 0) hx hb dL_refuses_396 (by decide) ?_
    refine lv_iconst (v := nI 2) hx hb dL_refuses_397 (by decide) ?_
    refine lv_iload_n hx hb dL_refuses_398 rfl (lv_at hl 4 rfl) ?_
    refine lv_iadd hx hb dL_refuses_399 ?_
    refine z_val (z := nI (2 + j)) (nI_add _ _) ?_
    have k400 := ct_X6_operand l D a ca hJ Z (nI 0) (nI (2 + j))
    rw [show g_X6_operand Z (nI 0) (nI (2 + j)) = (-100002) from ((if_neg (by decide)).trans (if_pos (wo_hi (n := 1) (by omega) (by omega))))] at k400
    refine z_cVi (As := [.int (nI 0), .int (nI (2 + j))]) (rest := []) ⟨hx, hb, hml, hown, hts⟩ (k400) (cwV 2 hts gL_refuses_X6_operand rfl rfl rfl (by decide +kernel) ⟨Nat.le_of_ble_eq_true rfl, Nat.le_of_ble_eq_true rfl⟩) hK hP hS (va_recv (ci := 6) hK.1 hP rfl zW_b) rfl hl.1 rfl (Nat.le_of_ble_eq_true rfl) dL_refuses_400 ⟨Nat.zero_le _, Nat.zero_le _⟩ (fun H locs hP hS => ?_)
    refine lv_ldc (v := (-100002)) hx hb hown (hts (.constant RL 129 (-100002)) (by decide +kernel)) dL_refuses_403 ?_
    refine lv_icmp_ne (tgt := 529) hx hb dL_refuses_405 (by decide) (fun c405_31 => absurd rfl c405_31) (fun _ => ?_)
    refine lv_aload_n hx hb dL_refuses_408 rfl (lv_at hl 3 rfl) ?_
    refine lv_iconst (v := (-1)) hx hb dL_refuses_409 (by decide) ?_
    refine lv_iload_n hx hb dL_refuses_410 rfl (lv_at hl 4 rfl) ?_
    refine lv_isub hx hb dL_refuses_411 ?_
    have k412 := ct_X6_slot l D a ca hJ Z ((-1) - (nI j))
    rw [show g_X6_slot Z ((-1) - (nI j)) = (-100001) from (if_pos (wo_lo (lt_n (i := (-1)) (k := 0) (c := (-1)) (lo := (nI 0)) (by decide) (by decide) (by decide) hj (by omega))))] at k412
    refine z_cVi (As := [.int ((-1) - (nI j))]) (rest := []) ⟨hx, hb, hml, hown, hts⟩ (k412) (cwV 1 hts gL_refuses_X6_slot rfl rfl rfl (by decide +kernel) ⟨Nat.le_of_ble_eq_true rfl, Nat.le_of_ble_eq_true rfl⟩) hK hP hS (va_recv (ci := 6) hK.1 hP rfl zW_b) rfl hl.1 rfl (Nat.le_of_ble_eq_true rfl) dL_refuses_412 ⟨Nat.zero_le _, Nat.zero_le _⟩ (fun H locs hP hS => ?_)
    refine lv_ldc (v := (-100001)) hx hb hown (hts (.constant RL 98 (-100001)) (by decide +kernel)) dL_refuses_415 ?_
    refine lv_icmp_ne (tgt := 529) hx hb dL_refuses_417 (by decide) (fun c417_32 => absurd rfl c417_32) (fun _ => ?_)
    refine lv_aload_n hx hb dL_refuses_420 rfl (lv_at hl 3 rfl) ?_
    refine lv_iconst (v := nI 2) hx hb dL_refuses_421 (by decide) ?_
    refine lv_iload_n hx hb dL_refuses_422 rfl (lv_at hl 4 rfl) ?_
    refine lv_iadd hx hb dL_refuses_423 ?_
    refine z_val (z := nI (2 + j)) (nI_add _ _) ?_
    have k424 := ct_X6_setting l D a ca hJ Z (nI (2 + j))
    rw [show g_X6_setting Z (nI (2 + j)) = (-100001) from (if_pos (wo_hi (n := 1) (by omega) (by omega)))] at k424
    refine z_cVi (As := [.int (nI (2 + j))]) (rest := []) ⟨hx, hb, hml, hown, hts⟩ (k424) (cwV 1 hts gL_refuses_X6_setting rfl rfl rfl (by decide +kernel) ⟨Nat.le_of_ble_eq_true rfl, Nat.le_of_ble_eq_true rfl⟩) hK hP hS (va_recv (ci := 6) hK.1 hP rfl zW_b) rfl hl.1 rfl (Nat.le_of_ble_eq_true rfl) dL_refuses_424 ⟨Nat.zero_le _, Nat.zero_le _⟩ (fun H locs hP hS => ?_)
    refine lv_ldc (v := (-100001)) hx hb hown (hts (.constant RL 98 (-100001)) (by decide +kernel)) dL_refuses_427 ?_
    refine lv_icmp_ne (tgt := 529) hx hb dL_refuses_429 (by decide) (fun c429_33 => absurd rfl c429_33) (fun _ => ?_)
    refine lv_aload_n hx hb dL_refuses_432 rfl (lv_at hl 3 rfl) ?_
    refine lv_iload_n hx hb dL_refuses_433 rfl (lv_at hl 1 rfl) ?_
    have k434 := ct_X6_breakpoint l D a ca hJ Z off
    rw [show g_X6_breakpoint Z off = (-100001) from (if_pos hoff)] at k434
    refine z_cVi (As := [.int off]) (rest := []) ⟨hx, hb, hml, hown, hts⟩ (k434) (cwV 1 hts gL_refuses_X6_breakpoint rfl rfl rfl (by decide +kernel) ⟨Nat.le_of_ble_eq_true rfl, Nat.le_of_ble_eq_true rfl⟩) hK hP hS (va_recv (ci := 6) hK.1 hP rfl zW_b) rfl hl.1 rfl (Nat.le_of_ble_eq_true rfl) dL_refuses_434 ⟨Nat.zero_le _, Nat.zero_le _⟩ (fun H locs hP hS => ?_)
    refine lv_ldc (v := (-100001)) hx hb hown (hts (.constant RL 98 (-100001)) (by decide +kernel)) dL_refuses_437 ?_
    refine lv_icmp_ne (tgt := 529) hx hb dL_refuses_439 (by decide) (fun c439_34 => absurd rfl c439_34) (fun _ => ?_)
    refine lv_aload_n hx hb dL_refuses_442 rfl (lv_at hl 3 rfl) ?_
    refine lv_iload_n hx hb dL_refuses_443 rfl (lv_at hl 2 rfl) ?_
    have k444 := ct_X6_executed l D a ca hJ Z no
    rw [show g_X6_executed Z no = (-100001) from (if_pos hno)] at k444
    refine z_cVi (As := [.int no]) (rest := []) ⟨hx, hb, hml, hown, hts⟩ (k444) (cwV 1 hts gL_refuses_X6_executed rfl rfl rfl (by decide +kernel) ⟨Nat.le_of_ble_eq_true rfl, Nat.le_of_ble_eq_true rfl⟩) hK hP hS (va_recv (ci := 6) hK.1 hP rfl zW_b) rfl hl.1 rfl (Nat.le_of_ble_eq_true rfl) dL_refuses_444 ⟨Nat.zero_le _, Nat.zero_le _⟩ (fun H locs hP hS => ?_)
    refine lv_ldc (v := (-100001)) hx hb hown (hts (.constant RL 98 (-100001)) (by decide +kernel)) dL_refuses_447 ?_
    refine lv_icmp_ne (tgt := 529) hx hb dL_refuses_449 (by decide) (fun c449_35 => absurd rfl c449_35) (fun _ => ?_)
    refine lv_aload_n hx hb dL_refuses_452 rfl (lv_at hl 3 rfl) ?_
    refine lv_iload_n hx hb dL_refuses_453 rfl (lv_at hl 2 rfl) ?_
    have k454 := ct_X6_lent l D a ca hJ Z no
    rw [show g_X6_lent Z no = (-100001) from (if_pos hno)] at k454
    refine z_cVi (As := [.int no]) (rest := []) ⟨hx, hb, hml, hown, hts⟩ (k454) (cwV 1 hts gL_refuses_X6_lent rfl rfl rfl (by decide +kernel) ⟨Nat.le_of_ble_eq_true rfl, Nat.le_of_ble_eq_true rfl⟩) hK hP hS (va_recv (ci := 6) hK.1 hP rfl zW_b) rfl hl.1 rfl (Nat.le_of_ble_eq_true rfl) dL_refuses_454 ⟨Nat.zero_le _, Nat.zero_le _⟩ (fun H locs hP hS => ?_)
    refine lv_ldc (v := (-100001)) hx hb hown (hts (.constant RL 98 (-100001)) (by decide +kernel)) dL_refuses_457 ?_
    refine lv_icmp_ne (tgt := 529) hx hb dL_refuses_459 (by decide) (fun c459_36 => absurd rfl c459_36) (fun _ => ?_)
    refine lv_aload_n hx hb dL_refuses_462 rfl (lv_at hl 3 rfl) ?_
    refine lv_iload_n hx hb dL_refuses_463 rfl (lv_at hl 2 rfl) ?_
    have k464 := ct_X6_starved l D a ca hJ Z no
    rw [show g_X6_starved Z no = (-100001) from (if_pos hno)] at k464
    refine z_cVi (As := [.int no]) (rest := []) ⟨hx, hb, hml, hown, hts⟩ (k464) (cwV 1 hts gL_refuses_X6_starved rfl rfl rfl (by decide +kernel) ⟨Nat.le_of_ble_eq_true rfl, Nat.le_of_ble_eq_true rfl⟩) hK hP hS (va_recv (ci := 6) hK.1 hP rfl zW_b) rfl hl.1 rfl (Nat.le_of_ble_eq_true rfl) dL_refuses_464 ⟨Nat.zero_le _, Nat.zero_le _⟩ (fun H locs hP hS => ?_)
    refine lv_ldc (v := (-100001)) hx hb hown (hts (.constant RL 98 (-100001)) (by decide +kernel)) dL_refuses_467 ?_
    refine lv_icmp_ne (tgt := 529) hx hb dL_refuses_469 (by decide) (fun c469_37 => absurd rfl c469_37) (fun _ => ?_)
    refine lv_aload_n hx hb dL_refuses_472 rfl (lv_at hl 3 rfl) ?_
    refine lv_iconst (v := (-1)) hx hb dL_refuses_473 (by decide) ?_
    refine lv_iload_n hx hb dL_refuses_474 rfl (lv_at hl 4 rfl) ?_
    refine lv_isub hx hb dL_refuses_475 ?_
    refine lv_iconst (v := nI 0) hx hb dL_refuses_476 (by decide) ?_
    have k477 := ct_X6_trace l D a ca hJ Z ((-1) - (nI j)) (nI 0) (ivp_z hV)
    rw [show g_X6_trace Z ((-1) - (nI j)) (nI 0) = (-100002) from (if_pos (lt_n (i := (-1)) (k := 0) (c := (-1)) (lo := 0) (by decide) (by decide) (by decide) hj (by omega)))] at k477
    refine z_cVi (As := [.int ((-1) - (nI j)), .int (nI 0)]) (rest := []) ⟨hx, hb, hml, hown, hts⟩ (k477) (cwV 2 hts gL_refuses_X6_trace rfl rfl rfl (by decide +kernel) ⟨Nat.le_of_ble_eq_true rfl, Nat.le_of_ble_eq_true rfl⟩) hK hP hS (va_recv (ci := 6) hK.1 hP rfl zW_b) rfl hl.1 rfl (Nat.le_of_ble_eq_true rfl) dL_refuses_477 ⟨Nat.zero_le _, Nat.zero_le _⟩ (fun H locs hP hS => ?_)
    refine lv_ldc (v := (-100002)) hx hb hown (hts (.constant RL 129 (-100002)) (by decide +kernel)) dL_refuses_480 ?_
    refine lv_icmp_ne (tgt := 529) hx hb dL_refuses_482 (by decide) (fun c482_38 => absurd rfl c482_38) (fun _ => ?_)
    refine lv_aload_n hx hb dL_refuses_485 rfl (lv_at hl 3 rfl) ?_
    refine lv_iconst (v := nI 0) hx hb dL_refuses_486 (by decide) ?_
    refine lv_iconst (v := nI 3) hx hb dL_refuses_487 (by decide) ?_
    refine lv_iload_n hx hb dL_refuses_488 rfl (lv_at hl 4 rfl) ?_
    refine lv_iadd hx hb dL_refuses_489 ?_
    refine z_val (z := nI (3 + j)) (nI_add _ _) ?_
    have k490 := ct_X6_trace l D a ca hJ Z (nI 0) (nI (3 + j)) (ivp_z hV)
    rw [show g_X6_trace Z (nI 0) (nI (3 + j)) = (-100002) from ((if_neg (by decide)).trans (if_pos (wo_hi (n := 2) (by omega) (by omega))))] at k490
    refine z_cVi (As := [.int (nI 0), .int (nI (3 + j))]) (rest := []) ⟨hx, hb, hml, hown, hts⟩ (k490) (cwV 2 hts gL_refuses_X6_trace rfl rfl rfl (by decide +kernel) ⟨Nat.le_of_ble_eq_true rfl, Nat.le_of_ble_eq_true rfl⟩) hK hP hS (va_recv (ci := 6) hK.1 hP rfl zW_b) rfl hl.1 rfl (Nat.le_of_ble_eq_true rfl) dL_refuses_490 ⟨Nat.zero_le _, Nat.zero_le _⟩ (fun H locs hP hS => ?_)
    refine lv_ldc (v := (-100002)) hx hb hown (hts (.constant RL 129 (-100002)) (by decide +kernel)) dL_refuses_493 ?_
    refine lv_icmp_ne (tgt := 529) hx hb dL_refuses_495 (by decide) (fun c495_39 => absurd rfl c495_39) (fun _ => ?_)
    refine lv_aload_n hx hb dL_refuses_498 rfl (lv_at hl 3 rfl) ?_
    refine lv_bipush (v := nI 21) hx hb dL_refuses_499 (by decide) ?_
    refine lv_iload_n hx hb dL_refuses_501 rfl (lv_at hl 4 rfl) ?_
    refine lv_iadd hx hb dL_refuses_502 ?_
    refine z_val (z := nI (21 + j)) (nI_add _ _) ?_
    refine lv_iconst (v := nI 0) hx hb dL_refuses_503 (by decide) ?_
    have k504 := ct_cyclesIf2 l D a ca hJ Z (nI (21 + j)) (nI 0) (ivp_z hV) hV.1
    rw [show g_cyclesIf2 Z (nI (21 + j)) (nI 0) = (-100002) from (if_pos (wo_hi (n := 20) (by omega) (by omega))), show h_cyclesIf2 Z (nI (21 + j)) (nI 0) = Z from (if_pos (wo_hi (n := 20) (by omega) (by omega)))] at k504
    refine z_cVi (As := [.int (nI (21 + j)), .int (nI 0)]) (rest := []) ⟨hx, hb, hml, hown, hts⟩ (k504) (cwV 2 hts gL_refuses_X6_cyclesIf rfl rfl rfl (by decide +kernel) ⟨Nat.le_of_ble_eq_true rfl, Nat.le_of_ble_eq_true rfl⟩) hK hP hS (va_recv (ci := 6) hK.1 hP rfl zW_b) rfl hl.1 rfl (Nat.le_of_ble_eq_true rfl) dL_refuses_504 ⟨Nat.zero_le _, Nat.zero_le _⟩ (fun H locs hP hS => ?_)
    refine lv_ldc (v := (-100002)) hx hb hown (hts (.constant RL 129 (-100002)) (by decide +kernel)) dL_refuses_507 ?_
    refine lv_icmp_ne (tgt := 529) hx hb dL_refuses_509 (by decide) (fun c509_40 => absurd rfl c509_40) (fun _ => ?_)
    refine lv_aload_n hx hb dL_refuses_512 rfl (lv_at hl 3 rfl) ?_
    refine lv_bipush (v := nI 32) hx hb dL_refuses_513 (by decide) ?_
    refine lv_iload_n hx hb dL_refuses_515 rfl (lv_at hl 4 rfl) ?_
    refine lv_iadd hx hb dL_refuses_516 ?_
    refine z_val (z := nI (32 + j)) (nI_add _ _) ?_
    have k517 := ct_finalWord2 l D a ca hJ Z (nI (32 + j)) (ivp_z hV) hV.1
    rw [show g_finalWord2 Z (nI (32 + j)) = (-100001) from (if_pos (wo_hi (n := 31) (by omega) (by omega))), show h_finalWord2 Z (nI (32 + j)) = Z from (if_pos (wo_hi (n := 31) (by omega) (by omega)))] at k517
    refine z_cVi (As := [.int (nI (32 + j))]) (rest := []) ⟨hx, hb, hml, hown, hts⟩ (k517) (cwV 1 hts gL_refuses_X6_finalWord rfl rfl rfl (by decide +kernel) ⟨Nat.le_of_ble_eq_true rfl, Nat.le_of_ble_eq_true rfl⟩) hK hP hS (va_recv (ci := 6) hK.1 hP rfl zW_b) rfl hl.1 rfl (Nat.le_of_ble_eq_true rfl) dL_refuses_517 ⟨Nat.zero_le _, Nat.zero_le _⟩ (fun H locs hP hS => ?_)
    refine lv_ldc (v := (-100001)) hx hb hown (hts (.constant RL 98 (-100001)) (by decide +kernel)) dL_refuses_520 ?_
    refine lv_icmp_ne (tgt := 529) hx hb dL_refuses_522 (by decide) (fun c522_41 => absurd rfl c522_41) (fun _ => ?_)
    refine lv_iconst (v := nI 1) hx hb dL_refuses_525 (by decide) ?_
    refine lv_goto (tgt := 530) hx hb dL_refuses_526 (by decide) ?_
    exact h_reti hx hb hr hlk (by first | rfl | decide) hP hS dL_refuses_530 rfl (hV.1 1 (by decide)) (zfoc rfl).symm
  refine lv_iload_n hx hb dL_refuses_0 rfl (lv_at hl 1 rfl) ?_
  refine lv_iconst (v := nI 2) hx hb dL_refuses_1 (by decide) ?_
  refine lv_irem hx hb dL_refuses_2 (by decide) ?_
  refine z_val (z := nI (j % 2)) (pk_rem (by omega) (by decide) (by decide)) ?_
  refine lv_if_ne (tgt := 12) hx hb dL_refuses_3 (by decide) (fun c3_1 => ?_) (fun c3_1 => ?_)
  · refine lv_iconst (v := (-1)) hx hb dL_refuses_12 (by decide) ?_
    refine lv_iload_n hx hb dL_refuses_13 rfl (lv_at hl 1 rfl) ?_
    refine lv_isub hx hb dL_refuses_14 ?_
    refine lv_istore_n (lv' := [(2, .int ((-1) - (nI j))), (0, .ref (a 114)), (1, .int (nI j))]) hx hb dL_refuses_15 rfl hl (by decide) rfl (fun ls hl => ?_)
    refine lv_iload_n hx hb dL_refuses_16 rfl (lv_at hl 2 rfl) ?_
    refine lv_iconst (v := nI 2) hx hb dL_refuses_17 (by decide) ?_
    refine lv_irem hx hb dL_refuses_18 (by decide) ?_
    refine z_val (z := nI (j % 2)) (pk_rem (by omega) (by decide) (by decide)) ?_
    refine lv_if_ne (tgt := 29) hx hb dL_refuses_19 (by decide) (fun _ => ?_) (fun c19_2 => absurd c19_2 c3_1)
    refine lv_iconst (v := (-1)) hx hb dL_refuses_29 (by decide) ?_
    refine lv_iload_n hx hb dL_refuses_30 rfl (lv_at hl 2 rfl) ?_
    refine lv_isub hx hb dL_refuses_31 ?_
    refine lv_istore_n (lv' := [(3, .int ((-1) - (nI j))), (2, .int ((-1) - (nI j))), (0, .ref (a 114)), (1, .int (nI j))]) hx hb dL_refuses_32 rfl hl (by decide) rfl (fun ls hl => ?_)
    exact k33 _ _ (wo_lo (lt_n (i := (-1)) (k := 0) (c := (-1)) (lo := (nI 0)) (by decide) (by decide) (by decide) hj (by omega))) (wo_lo (lt_n (i := (-1)) (k := 0) (c := (-1)) (lo := (nI 0)) (by decide) (by decide) (by decide) hj (by omega))) (wo_lo (lt_n (i := (-1)) (k := 0) (c := (-1)) (lo := (nI 0)) (by decide) (by decide) (by decide) hj (by omega))) _ (lv_sub hl [0, 1, 2, 3] rfl)
  · refine lv_iconst (v := nI 4) hx hb dL_refuses_6 (by decide) ?_
    refine lv_iload_n hx hb dL_refuses_7 rfl (lv_at hl 1 rfl) ?_
    refine lv_iadd hx hb dL_refuses_8 ?_
    refine z_val (z := nI (4 + j)) (nI_add _ _) ?_
    refine lv_goto (tgt := 15) hx hb dL_refuses_9 (by decide) ?_
    refine lv_istore_n (lv' := [(2, .int (nI (4 + j))), (0, .ref (a 114)), (1, .int (nI j))]) hx hb dL_refuses_15 rfl hl (by decide) rfl (fun ls hl => ?_)
    refine lv_iload_n hx hb dL_refuses_16 rfl (lv_at hl 2 rfl) ?_
    refine lv_iconst (v := nI 2) hx hb dL_refuses_17 (by decide) ?_
    refine lv_irem hx hb dL_refuses_18 (by decide) ?_
    refine z_val (z := nI (j % 2)) (pk_rem (by omega) (by decide) (by decide)) ?_
    refine lv_if_ne (tgt := 29) hx hb dL_refuses_19 (by decide) (fun c19_3 => absurd c3_1 c19_3) (fun _ => ?_)
    refine lv_bipush (v := nI 48) hx hb dL_refuses_22 (by decide) ?_
    refine lv_iload_n hx hb dL_refuses_24 rfl (lv_at hl 2 rfl) ?_
    refine lv_iadd hx hb dL_refuses_25 ?_
    refine z_val (z := nI (48 + j)) (nI_add _ _) ?_
    refine lv_goto (tgt := 32) hx hb dL_refuses_26 (by decide) ?_
    refine lv_istore_n (lv' := [(3, .int (nI (48 + j))), (2, .int (nI (4 + j))), (0, .ref (a 114)), (1, .int (nI j))]) hx hb dL_refuses_32 rfl hl (by decide) rfl (fun ls hl => ?_)
    exact k33 _ _ (wo_hi (n := 3) (by omega) (by omega)) (wo_hi (n := 3) (by omega) (by omega)) (wo_hi (n := 47) (by omega) (by omega)) _ (lv_sub hl [0, 1, 2, 3] rfl)
