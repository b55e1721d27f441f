/-! two objects whose machines are alike tell the same -/
section EQ
variable {Y Y2 : Nat → zM}
theorem eq_cycle (h : Y 0 = Y2 0) : g_X6_cycle Y = g_X6_cycle Y2 := by
  unfold g_X6_cycle
  rw [h]
theorem eq_idle (h : Y 0 = Y2 0) : g_X6_idle Y = g_X6_idle Y2 := by
  unfold g_X6_idle
  rw [h]
theorem eq_setting (h : Y 0 = Y2 0) (x : Int32) : g_X6_setting Y x = g_X6_setting Y2 x := by
  unfold g_X6_setting
  rw [h]
theorem eq_nextThread (h : Y 0 = Y2 0) : g_X6_nextThread Y = g_X6_nextThread Y2 := by
  unfold g_X6_nextThread
  rw [h]
theorem eq_operation (h : Y 0 = Y2 0) (x : Int32) : g_X6_operation Y x = g_X6_operation Y2 x := by
  unfold g_X6_operation
  rw [h]
theorem eq_operand (h : Y 0 = Y2 0) (x y : Int32) : g_X6_operand Y x y = g_X6_operand Y2 x y := by
  unfold g_X6_operand
  rw [h]
theorem eq_breakpoint (h : Y 0 = Y2 0) (x : Int32) : g_X6_breakpoint Y x = g_X6_breakpoint Y2 x := by
  unfold g_X6_breakpoint
  rw [h]
theorem eq_word (h : Y 0 = Y2 0) (x : Int32) : g_X6_word Y x = g_X6_word Y2 x := by
  unfold g_X6_word
  rw [h]
theorem eq_register (h : Y 0 = Y2 0) (x y : Int32) : g_X6_register Y x y = g_X6_register Y2 x y := by
  unfold g_X6_register
  rw [h]
theorem eq_state (h : Y 0 = Y2 0) (x : Int32) : g_X6_state Y x = g_X6_state Y2 x := by
  unfold g_X6_state
  rw [h]
theorem eq_programCounter (h : Y 0 = Y2 0) (x : Int32) : g_X6_programCounter Y x = g_X6_programCounter Y2 x := by
  unfold g_X6_programCounter
  rw [h]
theorem eq_executed (h : Y 0 = Y2 0) (x : Int32) : g_X6_executed Y x = g_X6_executed Y2 x := by
  unfold g_X6_executed
  rw [h]
theorem eq_lent (h : Y 0 = Y2 0) (x : Int32) : g_X6_lent Y x = g_X6_lent Y2 x := by
  unfold g_X6_lent
  rw [h]
theorem eq_starved (h : Y 0 = Y2 0) (x : Int32) : g_X6_starved Y x = g_X6_starved Y2 x := by
  unfold g_X6_starved
  rw [h]
theorem eq_slot (h : Y 0 = Y2 0) (x : Int32) : g_X6_slot Y x = g_X6_slot Y2 x := by
  unfold g_X6_slot
  rw [h]
theorem eq_trace (h : Y 0 = Y2 0) (x y : Int32) : g_X6_trace Y x y = g_X6_trace Y2 x y := by
  unfold g_X6_trace
  rw [h]
end EQ
theorem cl_two (l : Launch) (D : va_G) (a a2 : Nat → Nat) (ca : Nat → ClassId) (hJ : zJ a) (hJ2 : zJ a2) {Z Z2 : Nat → zM} (h0 : Z 0 = Z2 0) (hI : zOK (Z 0)) (hXR : ∀ k, k < 6 → xR (Z k)) (hXR2 : ∀ k, k < 6 → xR (Z2 k)) : ∃ (T T2 : zM) (w : Int32), xR T ∧ xR T2 ∧ zCi l yX6_cyclesLeft wsX6_cyclesLeft ({ frames := 6, cells := 0, slots := 0, locals := 139 } : Room) D a ca [.ref (a 114)] Z w (va_up Z 1 T) ∧ zCi l yX6_cyclesLeft wsX6_cyclesLeft ({ frames := 6, cells := 0, slots := 0, locals := 139 } : Room) D a2 ca [.ref (a2 114)] Z2 w (va_up Z2 1 T2) := by
  have k := ct_cyclesLeft2 l D a ca hJ Z hI hXR
  have k2 := ct_cyclesLeft2 l D a2 ca hJ2 Z2 (by rw [← h0]; exact hI) hXR2
  have x0 := hXR 0 (by decide)
  unfold g_cyclesLeft2 h_cyclesLeft2 g_tryOut2 h_tryOut2 at k k2
  rw [← h0] at k2
  rw [zu_self, zu_self] at k k2
  exact ⟨_, _, _, xR_end _ _ _ x0, xR_end _ _ _ x0, k, k2⟩
set_option maxHeartbeats 8000000 in
set_option maxRecDepth 100000 in
theorem ct_L_same (l : Launch) (D : va_G) (a a2 : Nat → Nat) (ca : Nat → ClassId) (hJ : zJ a) (hJ2 : zJ a2) (hd : ∀ q, zA a2 q → ¬ zA a q) (Z Z2 : Nat → zM) (h0 : Z 0 = Z2 0) (hz : zOK (Z 0)) (hXR : ∀ k, k < 6 → xR (Z k)) (hXR2 : ∀ k, k < 6 → xR (Z2 k)) : sTi l yL_same wsL_same ({ frames := 7, cells := 0, slots := 0, locals := 159 } : Room) D a a2 ca [.ref (a 114), .ref (a2 114)] Z Z2 := by
  refine s_ofi (cc := cL_same) (maxL := 5) (own := RL) (by decide) rfl (Nat.le_of_ble_eq_true rfl) rfl (fun p e s m below meth c ls hx hb hr hml hts hown hlk hl hK hP hQ hS => ?_)
  have hl : lv_has ls 5 [(0, .ref (a 114)), (1, .ref (a2 114))] := hl
  have hd2 : ∀ q, zA a q → ¬ zA a2 q := fun q h1 h2 => hd q h2 h1
  have hz1 : ∀ q, zA a q → zB a a2 q := fun q h => Or.inl h
  have hz2 : ∀ q, zA a2 q → zB a a2 q := fun q h => Or.inr h
  have hzz : zOK (Z2 0) := by
    rw [← h0]
    exact hz
  obtain ⟨T, T2, lf, hT, hT2, kc1, kc2⟩ := cl_two l D a a2 ca hJ hJ2 h0 hz hXR hXR2
  have hT0 : (va_up Z 1 T) 0 = (va_up Z2 1 T2) 0 := by
    rw [tz_n0, tz_n0]
    exact h0
  have hzT1 : zOK ((va_up Z 1 T) 0) := by
    rw [tz_n0]
    exact hz
  have hzT2 : zOK ((va_up Z2 1 T2) 0) := by
    rw [tz_n0]
    exact hzz
  have lp : ∀ (n k : Nat) (H : Heap) (locs : List Loc) (ls : Array Slot) (hn : k + n = 48) (hl : lv_has ls 5 [(3, .int (nI k)), (2, .int (nI 1)), (1, .ref (a2 114)), (0, .ref (a 114))]) (hP : va_P D vwCl (zW a ca (va_up Z 1 T)) H) (hQ : va_P D vwCl (zW a2 ca (va_up Z2 1 T2)) H) (hS : va_S (zB a a2) s.heap H locs), W p l e ({ frames := 7, cells := 0, slots := 0, locals := 159 } : Room) s m ([.ref (a 114), .ref (a2 114)] : List Value).toArray below meth c H locs 0 0 (sQi below D a a2 ca [.ref (a 114), .ref (a2 114)] s Z Z2) (F0 m 78 ls []) := by
    intro n
    induction n with
    | zero =>
      intro k H locs ls hn hl hP hQ hS
      refine lv_iload_n hx hb dL_same_78 rfl (lv_at hl 0 rfl) ?_
      refine lv_bipush (v := nI 48) hx hb dL_same_79 (by decide) ?_
      refine lv_icmp_ge (tgt := 319) hx hb dL_same_81 (by decide) (fun _ => ?_) (fun c81_1 => absurd (nI_le (by omega) (by omega)) c81_1)
      refine lv_iload_n hx hb dL_same_319 rfl (lv_at hl 1 rfl) ?_
      exact s_reti hx hb hr hlk (by first | rfl | decide) hP hQ hS dL_same_320 rfl hT hT2
    | succ n ih =>
      intro k H locs ls hn hl hP hQ hS
      refine lv_iload_n hx hb dL_same_78 rfl (lv_at hl 0 rfl) ?_
      refine lv_bipush (v := nI 48) hx hb dL_same_79 (by decide) ?_
      refine lv_icmp_ge (tgt := 319) hx hb dL_same_81 (by decide) (fun c81_1 => absurd c81_1 (nI_ge (show k < 48 by omega) (by decide))) (fun _ => ?_)
      refine lv_iload_n hx hb dL_same_84 rfl (lv_at hl 1 rfl) ?_
      refine lv_if_eq (tgt := 319) hx hb dL_same_85 (by decide) (fun c85_2 => absurd c85_2 (by decide)) (fun _ => ?_)
      refine lv_iload_n hx hb dL_same_88 rfl (lv_at hl 0 rfl) ?_
      refine lv_bipush (v := nI 12) hx hb dL_same_89 (by decide) ?_
      refine lv_idiv hx hb dL_same_91 (by decide) ?_
      refine lv_istore (lv' := [(4, .int ((nI k) / (nI 12))), (3, .int (nI k)), (2, .int (nI 1)), (1, .ref (a2 114)), (0, .ref (a 114))]) hx hb dL_same_92 hl (by decide) rfl (fun ls hl => ?_)
      refine lv_aload_n hx hb dL_same_94 rfl (lv_at hl 4 rfl) ?_
      refine lv_iload_n hx hb dL_same_95 rfl (lv_at hl 1 rfl) ?_
      refine w2_i (As := [.int (nI k)]) (rest := []) ⟨hx, hb, hml, hown, hts⟩ (ct_X6_operation l D a ca hJ (va_up Z 1 T) (nI k)) (cwV 1 hts gL_same_X6_operation rfl rfl rfl (by decide +kernel) ⟨Nat.le_of_ble_eq_true rfl, Nat.le_of_ble_eq_true rfl⟩) hK hP hQ hS hz1 hd (va_recv (ci := 6) hK.1 hP rfl zW_b) rfl hl.1 rfl (Nat.le_of_ble_eq_true rfl) dL_same_96 ⟨Nat.zero_le _, Nat.zero_le _⟩ (fun H locs hP hQ hS => ?_)
      refine lv_aload_n hx hb dL_same_99 rfl (lv_at hl 3 rfl) ?_
      refine lv_iload_n hx hb dL_same_100 rfl (lv_at hl 1 rfl) ?_
      refine w2_i (As := [.int (nI k)]) (rest := [.int (g_X6_operation (va_up Z 1 T) (nI k))]) ⟨hx, hb, hml, hown, hts⟩ (ct_X6_operation l D a2 ca hJ2 (va_up Z2 1 T2) (nI k)) (cwV 1 hts gL_same_X6_operation rfl rfl rfl (by decide +kernel) ⟨Nat.le_of_ble_eq_true rfl, Nat.le_of_ble_eq_true rfl⟩) hK hQ hP hS hz2 hd2 (va_recv (ci := 6) hK.1 hQ rfl zW_b) rfl hl.1 rfl (Nat.le_of_ble_eq_true rfl) dL_same_101 ⟨Nat.zero_le _, Nat.zero_le _⟩ (fun H locs hQ hP hS => ?_)
      refine lv_icmp_ne (tgt := 311) hx hb dL_same_104 (by decide) (fun c104_3 => absurd (eq_operation hT0 _) c104_3) (fun _ => ?_)
      refine lv_aload_n hx hb dL_same_107 rfl (lv_at hl 4 rfl) ?_
      refine lv_iload_n hx hb dL_same_108 rfl (lv_at hl 1 rfl) ?_
      refine lv_iconst (v := nI 0) hx hb dL_same_109 (by decide) ?_
      refine w2_i (As := [.int (nI k), .int (nI 0)]) (rest := []) ⟨hx, hb, hml, hown, hts⟩ (ct_X6_operand l D a ca hJ (va_up Z 1 T) (nI k) (nI 0)) (cwV 2 hts gL_same_X6_operand rfl rfl rfl (by decide +kernel) ⟨Nat.le_of_ble_eq_true rfl, Nat.le_of_ble_eq_true rfl⟩) hK hP hQ hS hz1 hd (va_recv (ci := 6) hK.1 hP rfl zW_b) rfl hl.1 rfl (Nat.le_of_ble_eq_true rfl) dL_same_110 ⟨Nat.zero_le _, Nat.zero_le _⟩ (fun H locs hP hQ hS => ?_)
      refine lv_aload_n hx hb dL_same_113 rfl (lv_at hl 3 rfl) ?_
      refine lv_iload_n hx hb dL_same_114 rfl (lv_at hl 1 rfl) ?_
      refine lv_iconst (v := nI 0) hx hb dL_same_115 (by decide) ?_
      refine w2_i (As := [.int (nI k), .int (nI 0)]) (rest := [.int (g_X6_operand (va_up Z 1 T) (nI k) (nI 0))]) ⟨hx, hb, hml, hown, hts⟩ (ct_X6_operand l D a2 ca hJ2 (va_up Z2 1 T2) (nI k) (nI 0)) (cwV 2 hts gL_same_X6_operand rfl rfl rfl (by decide +kernel) ⟨Nat.le_of_ble_eq_true rfl, Nat.le_of_ble_eq_true rfl⟩) hK hQ hP hS hz2 hd2 (va_recv (ci := 6) hK.1 hQ rfl zW_b) rfl hl.1 rfl (Nat.le_of_ble_eq_true rfl) dL_same_116 ⟨Nat.zero_le _, Nat.zero_le _⟩ (fun H locs hQ hP hS => ?_)
      refine lv_icmp_ne (tgt := 311) hx hb dL_same_119 (by decide) (fun c119_4 => absurd (eq_operand hT0 _ _) c119_4) (fun _ => ?_)
      refine lv_aload_n hx hb dL_same_122 rfl (lv_at hl 4 rfl) ?_
      refine lv_iload_n hx hb dL_same_123 rfl (lv_at hl 1 rfl) ?_
      refine lv_iconst (v := nI 1) hx hb dL_same_124 (by decide) ?_
      refine w2_i (As := [.int (nI k), .int (nI 1)]) (rest := []) ⟨hx, hb, hml, hown, hts⟩ (ct_X6_operand l D a ca hJ (va_up Z 1 T) (nI k) (nI 1)) (cwV 2 hts gL_same_X6_operand rfl rfl rfl (by decide +kernel) ⟨Nat.le_of_ble_eq_true rfl, Nat.le_of_ble_eq_true rfl⟩) hK hP hQ hS hz1 hd (va_recv (ci := 6) hK.1 hP rfl zW_b) rfl hl.1 rfl (Nat.le_of_ble_eq_true rfl) dL_same_125 ⟨Nat.zero_le _, Nat.zero_le _⟩ (fun H locs hP hQ hS => ?_)
      refine lv_aload_n hx hb dL_same_128 rfl (lv_at hl 3 rfl) ?_
      refine lv_iload_n hx hb dL_same_129 rfl (lv_at hl 1 rfl) ?_
      refine lv_iconst (v := nI 1) hx hb dL_same_130 (by decide) ?_
      refine w2_i (As := [.int (nI k), .int (nI 1)]) (rest := [.int (g_X6_operand (va_up Z 1 T) (nI k) (nI 1))]) ⟨hx, hb, hml, hown, hts⟩ (ct_X6_operand l D a2 ca hJ2 (va_up Z2 1 T2) (nI k) (nI 1)) (cwV 2 hts gL_same_X6_operand rfl rfl rfl (by decide +kernel) ⟨Nat.le_of_ble_eq_true rfl, Nat.le_of_ble_eq_true rfl⟩) hK hQ hP hS hz2 hd2 (va_recv (ci := 6) hK.1 hQ rfl zW_b) rfl hl.1 rfl (Nat.le_of_ble_eq_true rfl) dL_same_131 ⟨Nat.zero_le _, Nat.zero_le _⟩ (fun H locs hQ hP hS => ?_)
      refine lv_icmp_ne (tgt := 311) hx hb dL_same_134 (by decide) (fun c134_5 => absurd (eq_operand hT0 _ _) c134_5) (fun _ => ?_)
      refine lv_aload_n hx hb dL_same_137 rfl (lv_at hl 4 rfl) ?_
      refine lv_iload_n hx hb dL_same_138 rfl (lv_at hl 1 rfl) ?_
      refine w2_i (As := [.int (nI k)]) (rest := []) ⟨hx, hb, hml, hown, hts⟩ (ct_X6_breakpoint l D a ca hJ (va_up Z 1 T) (nI k)) (cwV 1 hts gL_same_X6_breakpoint rfl rfl rfl (by decide +kernel) ⟨Nat.le_of_ble_eq_true rfl, Nat.le_of_ble_eq_true rfl⟩) hK hP hQ hS hz1 hd (va_recv (ci := 6) hK.1 hP rfl zW_b) rfl hl.1 rfl (Nat.le_of_ble_eq_true rfl) dL_same_139 ⟨Nat.zero_le _, Nat.zero_le _⟩ (fun H locs hP hQ hS => ?_)
      refine lv_aload_n hx hb dL_same_142 rfl (lv_at hl 3 rfl) ?_
      refine lv_iload_n hx hb dL_same_143 rfl (lv_at hl 1 rfl) ?_
      refine w2_i (As := [.int (nI k)]) (rest := [.int (g_X6_breakpoint (va_up Z 1 T) (nI k))]) ⟨hx, hb, hml, hown, hts⟩ (ct_X6_breakpoint l D a2 ca hJ2 (va_up Z2 1 T2) (nI k)) (cwV 1 hts gL_same_X6_breakpoint rfl rfl rfl (by decide +kernel) ⟨Nat.le_of_ble_eq_true rfl, Nat.le_of_ble_eq_true rfl⟩) hK hQ hP hS hz2 hd2 (va_recv (ci := 6) hK.1 hQ rfl zW_b) rfl hl.1 rfl (Nat.le_of_ble_eq_true rfl) dL_same_144 ⟨Nat.zero_le _, Nat.zero_le _⟩ (fun H locs hQ hP hS => ?_)
      refine lv_icmp_ne (tgt := 311) hx hb dL_same_147 (by decide) (fun c147_6 => absurd (eq_breakpoint hT0 _) c147_6) (fun _ => ?_)
      refine lv_aload_n hx hb dL_same_150 rfl (lv_at hl 4 rfl) ?_
      refine lv_iload_n hx hb dL_same_151 rfl (lv_at hl 1 rfl) ?_
      refine lv_bipush (v := nI 32) hx hb dL_same_152 (by decide) ?_
      refine lv_irem hx hb dL_same_154 (by decide) ?_
      refine w2_i (As := [.int ((nI k) - (nI k) / (nI 32) * (nI 32))]) (rest := []) ⟨hx, hb, hml, hown, hts⟩ (ct_X6_word l D a ca hJ (va_up Z 1 T) ((nI k) - (nI k) / (nI 32) * (nI 32))) (cwV 1 hts gL_same_X6_word rfl rfl rfl (by decide +kernel) ⟨Nat.le_of_ble_eq_true rfl, Nat.le_of_ble_eq_true rfl⟩) hK hP hQ hS hz1 hd (va_recv (ci := 6) hK.1 hP rfl zW_b) rfl hl.1 rfl (Nat.le_of_ble_eq_true rfl) dL_same_155 ⟨Nat.zero_le _, Nat.zero_le _⟩ (fun H locs hP hQ hS => ?_)
      refine lv_aload_n hx hb dL_same_158 rfl (lv_at hl 3 rfl) ?_
      refine lv_iload_n hx hb dL_same_159 rfl (lv_at hl 1 rfl) ?_
      refine lv_bipush (v := nI 32) hx hb dL_same_160 (by decide) ?_
      refine lv_irem hx hb dL_same_162 (by decide) ?_
      refine w2_i (As := [.int ((nI k) - (nI k) / (nI 32) * (nI 32))]) (rest := [.int (g_X6_word (va_up Z 1 T) ((nI k) - (nI k) / (nI 32) * (nI 32)))]) ⟨hx, hb, hml, hown, hts⟩ (ct_X6_word l D a2 ca hJ2 (va_up Z2 1 T2) ((nI k) - (nI k) / (nI 32) * (nI 32))) (cwV 1 hts gL_same_X6_word rfl rfl rfl (by decide +kernel) ⟨Nat.le_of_ble_eq_true rfl, Nat.le_of_ble_eq_true rfl⟩) hK hQ hP hS hz2 hd2 (va_recv (ci := 6) hK.1 hQ rfl zW_b) rfl hl.1 rfl (Nat.le_of_ble_eq_true rfl) dL_same_163 ⟨Nat.zero_le _, Nat.zero_le _⟩ (fun H locs hQ hP hS => ?_)
      refine lv_icmp_ne (tgt := 311) hx hb dL_same_166 (by decide) (fun c166_7 => absurd (eq_word hT0 _) c166_7) (fun _ => ?_)
      refine lv_aload_n hx hb dL_same_169 rfl (lv_at hl 4 rfl) ?_
      refine lv_iload hx hb dL_same_170 (lv_at hl 0 rfl) ?_
      refine lv_iload_n hx hb dL_same_172 rfl (lv_at hl 1 rfl) ?_
      refine lv_iconst (v := nI 4) hx hb dL_same_173 (by decide) ?_
      refine lv_irem hx hb dL_same_174 (by decide) ?_
      refine w2_i (As := [.int ((nI k) / (nI 12)), .int ((nI k) - (nI k) / (nI 4) * (nI 4))]) (rest := []) ⟨hx, hb, hml, hown, hts⟩ (ct_X6_register l D a ca hJ (va_up Z 1 T) ((nI k) / (nI 12)) ((nI k) - (nI k) / (nI 4) * (nI 4))) (cwV 2 hts gL_same_X6_register rfl rfl rfl (by decide +kernel) ⟨Nat.le_of_ble_eq_true rfl, Nat.le_of_ble_eq_true rfl⟩) hK hP hQ hS hz1 hd (va_recv (ci := 6) hK.1 hP rfl zW_b) rfl hl.1 rfl (Nat.le_of_ble_eq_true rfl) dL_same_175 ⟨Nat.zero_le _, Nat.zero_le _⟩ (fun H locs hP hQ hS => ?_)
      refine lv_aload_n hx hb dL_same_178 rfl (lv_at hl 3 rfl) ?_
      refine lv_iload hx hb dL_same_179 (lv_at hl 0 rfl) ?_
      refine lv_iload_n hx hb dL_same_181 rfl (lv_at hl 1 rfl) ?_
      refine lv_iconst (v := nI 4) hx hb dL_same_182 (by decide) ?_
      refine lv_irem hx hb dL_same_183 (by decide) ?_
      refine w2_i (As := [.int ((nI k) / (nI 12)), .int ((nI k) - (nI k) / (nI 4) * (nI 4))]) (rest := [.int (g_X6_register (va_up Z 1 T) ((nI k) / (nI 12)) ((nI k) - (nI k) / (nI 4) * (nI 4)))]) ⟨hx, hb, hml, hown, hts⟩ (ct_X6_register l D a2 ca hJ2 (va_up Z2 1 T2) ((nI k) / (nI 12)) ((nI k) - (nI k) / (nI 4) * (nI 4))) (cwV 2 hts gL_same_X6_register rfl rfl rfl (by decide +kernel) ⟨Nat.le_of_ble_eq_true rfl, Nat.le_of_ble_eq_true rfl⟩) hK hQ hP hS hz2 hd2 (va_recv (ci := 6) hK.1 hQ rfl zW_b) rfl hl.1 rfl (Nat.le_of_ble_eq_true rfl) dL_same_184 ⟨Nat.zero_le _, Nat.zero_le _⟩ (fun H locs hQ hP hS => ?_)
      refine lv_icmp_ne (tgt := 311) hx hb dL_same_187 (by decide) (fun c187_8 => absurd (eq_register hT0 _ _) c187_8) (fun _ => ?_)
      refine lv_aload_n hx hb dL_same_190 rfl (lv_at hl 4 rfl) ?_
      refine lv_iload hx hb dL_same_191 (lv_at hl 0 rfl) ?_
      refine w2_i (As := [.int ((nI k) / (nI 12))]) (rest := []) ⟨hx, hb, hml, hown, hts⟩ (ct_X6_state l D a ca hJ (va_up Z 1 T) ((nI k) / (nI 12))) (cwV 1 hts gL_same_X6_state rfl rfl rfl (by decide +kernel) ⟨Nat.le_of_ble_eq_true rfl, Nat.le_of_ble_eq_true rfl⟩) hK hP hQ hS hz1 hd (va_recv (ci := 6) hK.1 hP rfl zW_b) rfl hl.1 rfl (Nat.le_of_ble_eq_true rfl) dL_same_193 ⟨Nat.zero_le _, Nat.zero_le _⟩ (fun H locs hP hQ hS => ?_)
      refine lv_aload_n hx hb dL_same_196 rfl (lv_at hl 3 rfl) ?_
      refine lv_iload hx hb dL_same_197 (lv_at hl 0 rfl) ?_
      refine w2_i (As := [.int ((nI k) / (nI 12))]) (rest := [.int (g_X6_state (va_up Z 1 T) ((nI k) / (nI 12)))]) ⟨hx, hb, hml, hown, hts⟩ (ct_X6_state l D a2 ca hJ2 (va_up Z2 1 T2) ((nI k) / (nI 12))) (cwV 1 hts gL_same_X6_state rfl rfl rfl (by decide +kernel) ⟨Nat.le_of_ble_eq_true rfl, Nat.le_of_ble_eq_true rfl⟩) hK hQ hP hS hz2 hd2 (va_recv (ci := 6) hK.1 hQ rfl zW_b) rfl hl.1 rfl (Nat.le_of_ble_eq_true rfl) dL_same_199 ⟨Nat.zero_le _, Nat.zero_le _⟩ (fun H locs hQ hP hS => ?_)
      refine lv_icmp_ne (tgt := 311) hx hb dL_same_202 (by decide) (fun c202_9 => absurd (eq_state hT0 _) c202_9) (fun _ => ?_)
      refine lv_aload_n hx hb dL_same_205 rfl (lv_at hl 4 rfl) ?_
      refine lv_iload hx hb dL_same_206 (lv_at hl 0 rfl) ?_
      refine w2_i (As := [.int ((nI k) / (nI 12))]) (rest := []) ⟨hx, hb, hml, hown, hts⟩ (ct_X6_programCounter l D a ca hJ (va_up Z 1 T) ((nI k) / (nI 12))) (cwV 1 hts gL_same_X6_programCounter rfl rfl rfl (by decide +kernel) ⟨Nat.le_of_ble_eq_true rfl, Nat.le_of_ble_eq_true rfl⟩) hK hP hQ hS hz1 hd (va_recv (ci := 6) hK.1 hP rfl zW_b) rfl hl.1 rfl (Nat.le_of_ble_eq_true rfl) dL_same_208 ⟨Nat.zero_le _, Nat.zero_le _⟩ (fun H locs hP hQ hS => ?_)
      refine lv_aload_n hx hb dL_same_211 rfl (lv_at hl 3 rfl) ?_
      refine lv_iload hx hb dL_same_212 (lv_at hl 0 rfl) ?_
      refine w2_i (As := [.int ((nI k) / (nI 12))]) (rest := [.int (g_X6_programCounter (va_up Z 1 T) ((nI k) / (nI 12)))]) ⟨hx, hb, hml, hown, hts⟩ (ct_X6_programCounter l D a2 ca hJ2 (va_up Z2 1 T2) ((nI k) / (nI 12))) (cwV 1 hts gL_same_X6_programCounter rfl rfl rfl (by decide +kernel) ⟨Nat.le_of_ble_eq_true rfl, Nat.le_of_ble_eq_true rfl⟩) hK hQ hP hS hz2 hd2 (va_recv (ci := 6) hK.1 hQ rfl zW_b) rfl hl.1 rfl (Nat.le_of_ble_eq_true rfl) dL_same_214 ⟨Nat.zero_le _, Nat.zero_le _⟩ (fun H locs hQ hP hS => ?_)
      refine lv_icmp_ne (tgt := 311) hx hb dL_same_217 (by decide) (fun c217_10 => absurd (eq_programCounter hT0 _) c217_10) (fun _ => ?_)
      refine lv_aload_n hx hb dL_same_220 rfl (lv_at hl 4 rfl) ?_
      refine lv_iload hx hb dL_same_221 (lv_at hl 0 rfl) ?_
      refine w2_i (As := [.int ((nI k) / (nI 12))]) (rest := []) ⟨hx, hb, hml, hown, hts⟩ (ct_X6_executed l D a ca hJ (va_up Z 1 T) ((nI k) / (nI 12))) (cwV 1 hts gL_same_X6_executed rfl rfl rfl (by decide +kernel) ⟨Nat.le_of_ble_eq_true rfl, Nat.le_of_ble_eq_true rfl⟩) hK hP hQ hS hz1 hd (va_recv (ci := 6) hK.1 hP rfl zW_b) rfl hl.1 rfl (Nat.le_of_ble_eq_true rfl) dL_same_223 ⟨Nat.zero_le _, Nat.zero_le _⟩ (fun H locs hP hQ hS => ?_)
      refine lv_aload_n hx hb dL_same_226 rfl (lv_at hl 3 rfl) ?_
      refine lv_iload hx hb dL_same_227 (lv_at hl 0 rfl) ?_
      refine w2_i (As := [.int ((nI k) / (nI 12))]) (rest := [.int (g_X6_executed (va_up Z 1 T) ((nI k) / (nI 12)))]) ⟨hx, hb, hml, hown, hts⟩ (ct_X6_executed l D a2 ca hJ2 (va_up Z2 1 T2) ((nI k) / (nI 12))) (cwV 1 hts gL_same_X6_executed rfl rfl rfl (by decide +kernel) ⟨Nat.le_of_ble_eq_true rfl, Nat.le_of_ble_eq_true rfl⟩) hK hQ hP hS hz2 hd2 (va_recv (ci := 6) hK.1 hQ rfl zW_b) rfl hl.1 rfl (Nat.le_of_ble_eq_true rfl) dL_same_229 ⟨Nat.zero_le _, Nat.zero_le _⟩ (fun H locs hQ hP hS => ?_)
      refine lv_icmp_ne (tgt := 311) hx hb dL_same_232 (by decide) (fun c232_11 => absurd (eq_executed hT0 _) c232_11) (fun _ => ?_)
      refine lv_aload_n hx hb dL_same_235 rfl (lv_at hl 4 rfl) ?_
      refine lv_iload hx hb dL_same_236 (lv_at hl 0 rfl) ?_
      refine w2_i (As := [.int ((nI k) / (nI 12))]) (rest := []) ⟨hx, hb, hml, hown, hts⟩ (ct_X6_lent l D a ca hJ (va_up Z 1 T) ((nI k) / (nI 12))) (cwV 1 hts gL_same_X6_lent rfl rfl rfl (by decide +kernel) ⟨Nat.le_of_ble_eq_true rfl, Nat.le_of_ble_eq_true rfl⟩) hK hP hQ hS hz1 hd (va_recv (ci := 6) hK.1 hP rfl zW_b) rfl hl.1 rfl (Nat.le_of_ble_eq_true rfl) dL_same_238 ⟨Nat.zero_le _, Nat.zero_le _⟩ (fun H locs hP hQ hS => ?_)
      refine lv_aload_n hx hb dL_same_241 rfl (lv_at hl 3 rfl) ?_
      refine lv_iload hx hb dL_same_242 (lv_at hl 0 rfl) ?_
      refine w2_i (As := [.int ((nI k) / (nI 12))]) (rest := [.int (g_X6_lent (va_up Z 1 T) ((nI k) / (nI 12)))]) ⟨hx, hb, hml, hown, hts⟩ (ct_X6_lent l D a2 ca hJ2 (va_up Z2 1 T2) ((nI k) / (nI 12))) (cwV 1 hts gL_same_X6_lent rfl rfl rfl (by decide +kernel) ⟨Nat.le_of_ble_eq_true rfl, Nat.le_of_ble_eq_true rfl⟩) hK hQ hP hS hz2 hd2 (va_recv (ci := 6) hK.1 hQ rfl zW_b) rfl hl.1 rfl (Nat.le_of_ble_eq_true rfl) dL_same_244 ⟨Nat.zero_le _, Nat.zero_le _⟩ (fun H locs hQ hP hS => ?_)
      refine lv_icmp_ne (tgt := 311) hx hb dL_same_247 (by decide) (fun c247_12 => absurd (eq_lent hT0 _) c247_12) (fun _ => ?_)
      refine lv_aload_n hx hb dL_same_250 rfl (lv_at hl 4 rfl) ?_
      refine lv_iload hx hb dL_same_251 (lv_at hl 0 rfl) ?_
      refine w2_i (As := [.int ((nI k) / (nI 12))]) (rest := []) ⟨hx, hb, hml, hown, hts⟩ (ct_X6_starved l D a ca hJ (va_up Z 1 T) ((nI k) / (nI 12))) (cwV 1 hts gL_same_X6_starved rfl rfl rfl (by decide +kernel) ⟨Nat.le_of_ble_eq_true rfl, Nat.le_of_ble_eq_true rfl⟩) hK hP hQ hS hz1 hd (va_recv (ci := 6) hK.1 hP rfl zW_b) rfl hl.1 rfl (Nat.le_of_ble_eq_true rfl) dL_same_253 ⟨Nat.zero_le _, Nat.zero_le _⟩ (fun H locs hP hQ hS => ?_)
      refine lv_aload_n hx hb dL_same_256 rfl (lv_at hl 3 rfl) ?_
      refine lv_iload hx hb dL_same_257 (lv_at hl 0 rfl) ?_
      refine w2_i (As := [.int ((nI k) / (nI 12))]) (rest := [.int (g_X6_starved (va_up Z 1 T) ((nI k) / (nI 12)))]) ⟨hx, hb, hml, hown, hts⟩ (ct_X6_starved l D a2 ca hJ2 (va_up Z2 1 T2) ((nI k) / (nI 12))) (cwV 1 hts gL_same_X6_starved rfl rfl rfl (by decide +kernel) ⟨Nat.le_of_ble_eq_true rfl, Nat.le_of_ble_eq_true rfl⟩) hK hQ hP hS hz2 hd2 (va_recv (ci := 6) hK.1 hQ rfl zW_b) rfl hl.1 rfl (Nat.le_of_ble_eq_true rfl) dL_same_259 ⟨Nat.zero_le _, Nat.zero_le _⟩ (fun H locs hQ hP hS => ?_)
      refine lv_icmp_ne (tgt := 311) hx hb dL_same_262 (by decide) (fun c262_13 => absurd (eq_starved hT0 _) c262_13) (fun _ => ?_)
      refine lv_aload_n hx hb dL_same_265 rfl (lv_at hl 4 rfl) ?_
      refine lv_iload_n hx hb dL_same_266 rfl (lv_at hl 1 rfl) ?_
      refine lv_bipush (v := nI 8) hx hb dL_same_267 (by decide) ?_
      refine lv_irem hx hb dL_same_269 (by decide) ?_
      refine w2_i (As := [.int ((nI k) - (nI k) / (nI 8) * (nI 8))]) (rest := []) ⟨hx, hb, hml, hown, hts⟩ (ct_X6_slot l D a ca hJ (va_up Z 1 T) ((nI k) - (nI k) / (nI 8) * (nI 8))) (cwV 1 hts gL_same_X6_slot rfl rfl rfl (by decide +kernel) ⟨Nat.le_of_ble_eq_true rfl, Nat.le_of_ble_eq_true rfl⟩) hK hP hQ hS hz1 hd (va_recv (ci := 6) hK.1 hP rfl zW_b) rfl hl.1 rfl (Nat.le_of_ble_eq_true rfl) dL_same_270 ⟨Nat.zero_le _, Nat.zero_le _⟩ (fun H locs hP hQ hS => ?_)
      refine lv_aload_n hx hb dL_same_273 rfl (lv_at hl 3 rfl) ?_
      refine lv_iload_n hx hb dL_same_274 rfl (lv_at hl 1 rfl) ?_
      refine lv_bipush (v := nI 8) hx hb dL_same_275 (by decide) ?_
      refine lv_irem hx hb dL_same_277 (by decide) ?_
      refine w2_i (As := [.int ((nI k) - (nI k) / (nI 8) * (nI 8))]) (rest := [.int (g_X6_slot (va_up Z 1 T) ((nI k) - (nI k) / (nI 8) * (nI 8)))]) ⟨hx, hb, hml, hown, hts⟩ (ct_X6_slot l D a2 ca hJ2 (va_up Z2 1 T2) ((nI k) - (nI k) / (nI 8) * (nI 8))) (cwV 1 hts gL_same_X6_slot rfl rfl rfl (by decide +kernel) ⟨Nat.le_of_ble_eq_true rfl, Nat.le_of_ble_eq_true rfl⟩) hK hQ hP hS hz2 hd2 (va_recv (ci := 6) hK.1 hQ rfl zW_b) rfl hl.1 rfl (Nat.le_of_ble_eq_true rfl) dL_same_278 ⟨Nat.zero_le _, Nat.zero_le _⟩ (fun H locs hQ hP hS => ?_)
      refine lv_icmp_ne (tgt := 311) hx hb dL_same_281 (by decide) (fun c281_14 => absurd (eq_slot hT0 _) c281_14) (fun _ => ?_)
      refine lv_aload_n hx hb dL_same_284 rfl (lv_at hl 4 rfl) ?_
      refine lv_iload_n hx hb dL_same_285 rfl (lv_at hl 1 rfl) ?_
      refine lv_iconst (v := nI 3) hx hb dL_same_286 (by decide) ?_
      refine lv_idiv hx hb dL_same_287 (by decide) ?_
      refine lv_iload_n hx hb dL_same_288 rfl (lv_at hl 1 rfl) ?_
      refine lv_iconst (v := nI 3) hx hb dL_same_289 (by decide) ?_
      refine lv_irem hx hb dL_same_290 (by decide) ?_
      refine w2_i (As := [.int ((nI k) / (nI 3)), .int ((nI k) - (nI k) / (nI 3) * (nI 3))]) (rest := []) ⟨hx, hb, hml, hown, hts⟩ (ct_X6_trace l D a ca hJ (va_up Z 1 T) ((nI k) / (nI 3)) ((nI k) - (nI k) / (nI 3) * (nI 3)) hzT1) (cwV 2 hts gL_same_X6_trace rfl rfl rfl (by decide +kernel) ⟨Nat.le_of_ble_eq_true rfl, Nat.le_of_ble_eq_true rfl⟩) hK hP hQ hS hz1 hd (va_recv (ci := 6) hK.1 hP rfl zW_b) rfl hl.1 rfl (Nat.le_of_ble_eq_true rfl) dL_same_291 ⟨Nat.zero_le _, Nat.zero_le _⟩ (fun H locs hP hQ hS => ?_)
      refine lv_aload_n hx hb dL_same_294 rfl (lv_at hl 3 rfl) ?_
      refine lv_iload_n hx hb dL_same_295 rfl (lv_at hl 1 rfl) ?_
      refine lv_iconst (v := nI 3) hx hb dL_same_296 (by decide) ?_
      refine lv_idiv hx hb dL_same_297 (by decide) ?_
      refine lv_iload_n hx hb dL_same_298 rfl (lv_at hl 1 rfl) ?_
      refine lv_iconst (v := nI 3) hx hb dL_same_299 (by decide) ?_
      refine lv_irem hx hb dL_same_300 (by decide) ?_
      refine w2_i (As := [.int ((nI k) / (nI 3)), .int ((nI k) - (nI k) / (nI 3) * (nI 3))]) (rest := [.int (g_X6_trace (va_up Z 1 T) ((nI k) / (nI 3)) ((nI k) - (nI k) / (nI 3) * (nI 3)))]) ⟨hx, hb, hml, hown, hts⟩ (ct_X6_trace l D a2 ca hJ2 (va_up Z2 1 T2) ((nI k) / (nI 3)) ((nI k) - (nI k) / (nI 3) * (nI 3)) hzT2) (cwV 2 hts gL_same_X6_trace rfl rfl rfl (by decide +kernel) ⟨Nat.le_of_ble_eq_true rfl, Nat.le_of_ble_eq_true rfl⟩) hK hQ hP hS hz2 hd2 (va_recv (ci := 6) hK.1 hQ rfl zW_b) rfl hl.1 rfl (Nat.le_of_ble_eq_true rfl) dL_same_301 ⟨Nat.zero_le _, Nat.zero_le _⟩ (fun H locs hQ hP hS => ?_)
      refine lv_icmp_ne (tgt := 311) hx hb dL_same_304 (by decide) (fun c304_15 => absurd (eq_trace hT0 _ _) c304_15) (fun _ => ?_)
      refine lv_iconst (v := nI 1) hx hb dL_same_307 (by decide) ?_
      refine lv_goto (tgt := 312) hx hb dL_same_308 (by decide) ?_
      refine lv_istore_n (lv' := [(2, .int (nI 1)), (4, .int ((nI k) / (nI 12))), (3, .int (nI k)), (1, .ref (a2 114)), (0, .ref (a 114))]) hx hb dL_same_312 rfl hl (by decide) rfl (fun ls hl => ?_)
      refine lv_iinc (v := nI (k + 1)) (lv' := [(3, .int (nI (k + 1))), (2, .int (nI 1)), (4, .int ((nI k) / (nI 12))), (1, .ref (a2 114)), (0, .ref (a 114))]) hx hb dL_same_313 hl (k := 2) rfl (nI_add _ _) (by decide) rfl (fun ls hl => ?_)
      refine lv_goto (tgt := 78) hx hb dL_same_316 (by decide) ?_
      exact ih (k + 1) _ _ _ (by omega) (lv_sub hl [0, 1, 3, 4] rfl) hP hQ hS
  refine lv_aload_n hx hb dL_same_0 rfl (lv_at hl 0 rfl) ?_
  refine w2_i (As := []) (rest := []) ⟨hx, hb, hml, hown, hts⟩ (ct_X6_cycle l D a ca hJ Z) (cwV 0 hts gL_same_X6_cycle rfl rfl rfl (by decide +kernel) ⟨Nat.le_of_ble_eq_true rfl, Nat.le_of_ble_eq_true rfl⟩) hK hP hQ hS hz1 hd (va_recv (ci := 6) hK.1 hP rfl zW_b) rfl hl.1 rfl (Nat.le_of_ble_eq_true rfl) dL_same_1 ⟨Nat.zero_le _, Nat.zero_le _⟩ (fun H locs hP hQ hS => ?_)
  refine lv_aload_n hx hb dL_same_4 rfl (lv_at hl 1 rfl) ?_
  refine w2_i (As := []) (rest := [.int (g_X6_cycle Z)]) ⟨hx, hb, hml, hown, hts⟩ (ct_X6_cycle l D a2 ca hJ2 Z2) (cwV 0 hts gL_same_X6_cycle rfl rfl rfl (by decide +kernel) ⟨Nat.le_of_ble_eq_true rfl, Nat.le_of_ble_eq_true rfl⟩) hK hQ hP hS hz2 hd2 (va_recv (ci := 6) hK.1 hQ rfl zW_b) rfl hl.1 rfl (Nat.le_of_ble_eq_true rfl) dL_same_5 ⟨Nat.zero_le _, Nat.zero_le _⟩ (fun H locs hQ hP hS => ?_)
  refine lv_icmp_ne (tgt := 74) hx hb dL_same_8 (by decide) (fun c8_1 => absurd (eq_cycle h0) c8_1) (fun _ => ?_)
  refine lv_aload_n hx hb dL_same_11 rfl (lv_at hl 0 rfl) ?_
  refine w2_i (As := []) (rest := []) ⟨hx, hb, hml, hown, hts⟩ (ct_X6_idle l D a ca hJ Z) (cwV 0 hts gL_same_X6_idle rfl rfl rfl (by decide +kernel) ⟨Nat.le_of_ble_eq_true rfl, Nat.le_of_ble_eq_true rfl⟩) hK hP hQ hS hz1 hd (va_recv (ci := 6) hK.1 hP rfl zW_b) rfl hl.1 rfl (Nat.le_of_ble_eq_true rfl) dL_same_12 ⟨Nat.zero_le _, Nat.zero_le _⟩ (fun H locs hP hQ hS => ?_)
  refine lv_aload_n hx hb dL_same_15 rfl (lv_at hl 1 rfl) ?_
  refine w2_i (As := []) (rest := [.int (g_X6_idle Z)]) ⟨hx, hb, hml, hown, hts⟩ (ct_X6_idle l D a2 ca hJ2 Z2) (cwV 0 hts gL_same_X6_idle rfl rfl rfl (by decide +kernel) ⟨Nat.le_of_ble_eq_true rfl, Nat.le_of_ble_eq_true rfl⟩) hK hQ hP hS hz2 hd2 (va_recv (ci := 6) hK.1 hQ rfl zW_b) rfl hl.1 rfl (Nat.le_of_ble_eq_true rfl) dL_same_16 ⟨Nat.zero_le _, Nat.zero_le _⟩ (fun H locs hQ hP hS => ?_)
  refine lv_icmp_ne (tgt := 74) hx hb dL_same_19 (by decide) (fun c19_2 => absurd (eq_idle h0) c19_2) (fun _ => ?_)
  refine lv_aload_n hx hb dL_same_22 rfl (lv_at hl 0 rfl) ?_
  refine lv_iconst (v := nI 0) hx hb dL_same_23 (by decide) ?_
  refine w2_i (As := [.int (nI 0)]) (rest := []) ⟨hx, hb, hml, hown, hts⟩ (ct_X6_setting l D a ca hJ Z (nI 0)) (cwV 1 hts gL_same_X6_setting rfl rfl rfl (by decide +kernel) ⟨Nat.le_of_ble_eq_true rfl, Nat.le_of_ble_eq_true rfl⟩) hK hP hQ hS hz1 hd (va_recv (ci := 6) hK.1 hP rfl zW_b) rfl hl.1 rfl (Nat.le_of_ble_eq_true rfl) dL_same_24 ⟨Nat.zero_le _, Nat.zero_le _⟩ (fun H locs hP hQ hS => ?_)
  refine lv_aload_n hx hb dL_same_27 rfl (lv_at hl 1 rfl) ?_
  refine lv_iconst (v := nI 0) hx hb dL_same_28 (by decide) ?_
  refine w2_i (As := [.int (nI 0)]) (rest := [.int (g_X6_setting Z (nI 0))]) ⟨hx, hb, hml, hown, hts⟩ (ct_X6_setting l D a2 ca hJ2 Z2 (nI 0)) (cwV 1 hts gL_same_X6_setting rfl rfl rfl (by decide +kernel) ⟨Nat.le_of_ble_eq_true rfl, Nat.le_of_ble_eq_true rfl⟩) hK hQ hP hS hz2 hd2 (va_recv (ci := 6) hK.1 hQ rfl zW_b) rfl hl.1 rfl (Nat.le_of_ble_eq_true rfl) dL_same_29 ⟨Nat.zero_le _, Nat.zero_le _⟩ (fun H locs hQ hP hS => ?_)
  refine lv_icmp_ne (tgt := 74) hx hb dL_same_32 (by decide) (fun c32_3 => absurd (eq_setting h0 _) c32_3) (fun _ => ?_)
  refine lv_aload_n hx hb dL_same_35 rfl (lv_at hl 0 rfl) ?_
  refine lv_iconst (v := nI 1) hx hb dL_same_36 (by decide) ?_
  refine w2_i (As := [.int (nI 1)]) (rest := []) ⟨hx, hb, hml, hown, hts⟩ (ct_X6_setting l D a ca hJ Z (nI 1)) (cwV 1 hts gL_same_X6_setting rfl rfl rfl (by decide +kernel) ⟨Nat.le_of_ble_eq_true rfl, Nat.le_of_ble_eq_true rfl⟩) hK hP hQ hS hz1 hd (va_recv (ci := 6) hK.1 hP rfl zW_b) rfl hl.1 rfl (Nat.le_of_ble_eq_true rfl) dL_same_37 ⟨Nat.zero_le _, Nat.zero_le _⟩ (fun H locs hP hQ hS => ?_)
  refine lv_aload_n hx hb dL_same_40 rfl (lv_at hl 1 rfl) ?_
  refine lv_iconst (v := nI 1) hx hb dL_same_41 (by decide) ?_
  refine w2_i (As := [.int (nI 1)]) (rest := [.int (g_X6_setting Z (nI 1))]) ⟨hx, hb, hml, hown, hts⟩ (ct_X6_setting l D a2 ca hJ2 Z2 (nI 1)) (cwV 1 hts gL_same_X6_setting rfl rfl rfl (by decide +kernel) ⟨Nat.le_of_ble_eq_true rfl, Nat.le_of_ble_eq_true rfl⟩) hK hQ hP hS hz2 hd2 (va_recv (ci := 6) hK.1 hQ rfl zW_b) rfl hl.1 rfl (Nat.le_of_ble_eq_true rfl) dL_same_42 ⟨Nat.zero_le _, Nat.zero_le _⟩ (fun H locs hQ hP hS => ?_)
  refine lv_icmp_ne (tgt := 74) hx hb dL_same_45 (by decide) (fun c45_4 => absurd (eq_setting h0 _) c45_4) (fun _ => ?_)
  refine lv_aload_n hx hb dL_same_48 rfl (lv_at hl 0 rfl) ?_
  refine w2_i (As := []) (rest := []) ⟨hx, hb, hml, hown, hts⟩ (ct_X6_nextThread l D a ca hJ Z) (cwV 0 hts gL_same_X6_nextThread rfl rfl rfl (by decide +kernel) ⟨Nat.le_of_ble_eq_true rfl, Nat.le_of_ble_eq_true rfl⟩) hK hP hQ hS hz1 hd (va_recv (ci := 6) hK.1 hP rfl zW_b) rfl hl.1 rfl (Nat.le_of_ble_eq_true rfl) dL_same_49 ⟨Nat.zero_le _, Nat.zero_le _⟩ (fun H locs hP hQ hS => ?_)
  refine lv_aload_n hx hb dL_same_52 rfl (lv_at hl 1 rfl) ?_
  refine w2_i (As := []) (rest := [.int (g_X6_nextThread Z)]) ⟨hx, hb, hml, hown, hts⟩ (ct_X6_nextThread l D a2 ca hJ2 Z2) (cwV 0 hts gL_same_X6_nextThread rfl rfl rfl (by decide +kernel) ⟨Nat.le_of_ble_eq_true rfl, Nat.le_of_ble_eq_true rfl⟩) hK hQ hP hS hz2 hd2 (va_recv (ci := 6) hK.1 hQ rfl zW_b) rfl hl.1 rfl (Nat.le_of_ble_eq_true rfl) dL_same_53 ⟨Nat.zero_le _, Nat.zero_le _⟩ (fun H locs hQ hP hS => ?_)
  refine lv_icmp_ne (tgt := 74) hx hb dL_same_56 (by decide) (fun c56_5 => absurd (eq_nextThread h0) c56_5) (fun _ => ?_)
  refine lv_aload_n hx hb dL_same_59 rfl (lv_at hl 0 rfl) ?_
  refine w2_i (As := []) (rest := []) ⟨hx, hb, hml, hown, hts⟩ (kc1) (cwV 0 hts gL_same_X6_cyclesLeft rfl rfl rfl (by decide +kernel) ⟨Nat.le_of_ble_eq_true rfl, Nat.le_of_ble_eq_true rfl⟩) hK hP hQ hS hz1 hd (va_recv (ci := 6) hK.1 hP rfl zW_b) rfl hl.1 rfl (Nat.le_of_ble_eq_true rfl) dL_same_60 ⟨Nat.zero_le _, Nat.zero_le _⟩ (fun H locs hP hQ hS => ?_)
  refine lv_aload_n hx hb dL_same_63 rfl (lv_at hl 1 rfl) ?_
  refine w2_i (As := []) (rest := [.int lf]) ⟨hx, hb, hml, hown, hts⟩ (kc2) (cwV 0 hts gL_same_X6_cyclesLeft rfl rfl rfl (by decide +kernel) ⟨Nat.le_of_ble_eq_true rfl, Nat.le_of_ble_eq_true rfl⟩) hK hQ hP hS hz2 hd2 (va_recv (ci := 6) hK.1 hQ rfl zW_b) rfl hl.1 rfl (Nat.le_of_ble_eq_true rfl) dL_same_64 ⟨Nat.zero_le _, Nat.zero_le _⟩ (fun H locs hQ hP hS => ?_)
  refine lv_icmp_ne (tgt := 74) hx hb dL_same_67 (by decide) (fun c67_6 => absurd rfl c67_6) (fun _ => ?_)
  refine lv_iconst (v := nI 1) hx hb dL_same_70 (by decide) ?_
  refine lv_goto (tgt := 75) hx hb dL_same_71 (by decide) ?_
  refine lv_istore_n (lv' := [(2, .int (nI 1)), (0, .ref (a 114)), (1, .ref (a2 114))]) hx hb dL_same_75 rfl hl (by decide) rfl (fun ls hl => ?_)
  refine lv_iconst (v := nI 0) hx hb dL_same_76 (by decide) ?_
  refine lv_istore_n (lv' := [(3, .int (nI 0)), (2, .int (nI 1)), (0, .ref (a 114)), (1, .ref (a2 114))]) hx hb dL_same_77 rfl hl (by decide) rfl (fun ls hl => ?_)
  exact lp 48 0 _ _ _ rfl (lv_sub hl [0, 1, 3, 2] rfl) hP hQ hS
