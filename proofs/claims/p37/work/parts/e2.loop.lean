section LV
variable {p : Program} {l : Launch} {e : Env} {s : State} {m : MethodId} {below : List Frame} {meth : Method} {c : Code} {cells slots : Nat} {D : va_G} {a a2 : Nat → Nat} {ca : Nat → ClassId} {qs qv b L : Nat} {xs : Nat → Int32}
set_option maxHeartbeats 8000000 in
set_option maxRecDepth 100000 in
theorem law_l1 (C0 : lw_At p s m meth c b L xs) (X0 : LX p s m c b L xs D a a2 ca qs qv) (hf0 : cells ≤ 600000 ∧ slots ≤ 7302250) (hf : cells ≤ room_1.cells ∧ slots ≤ room_1.slots) : ∀ (n k : Nat) (Z : Nat → zM) (T T2 : zM) (H : Heap) (locs : List Loc) (ls : Array Slot) (hn : k + n = 36) (hV : IVp (200 * k) Z) (hT : xR T) (hT2 : xR T2) (hl : lv_has ls 7 [(4, .int (nI k)), (3, .int (nI 1)), (2, .ref (a2 114)), (1, .ref (a 114)), (0, .ref b)]) (hP : va_P D vwCl (zW a ca (va_up Z 1 T)) H) (hQ : va_P D vwCl (zW a2 ca (va_up Z 1 T2)) H) (hS : va_S (lA s) s.heap H locs), W p l e room_1 s m #[Value.ref b] below meth c H locs cells slots (lw_Z below #[Value.ref b] s) (F0 m 91 ls []) := by
  obtain ⟨hx, hb, hml, hown, hts, hX, hbl, hL, hJ, hJ2, hK, hE1, hE2, hJA, hz1, hz2, hd⟩ := id X0
  have hd2 : ∀ q, zA a q → ¬ zA a2 q := fun q h1 h2 => hd q h2 h1
  have hbA : ¬ lA s b := Nat.not_le.mpr hbl
  intro n
  induction n with
  | zero =>
    intro k Z T T2 H locs ls hn hV hT hT2 hl hP hQ hS
    refine lv_iload hx hb dL_law_91 (lv_at hl 0 rfl) ?_
    refine lv_bipush (v := nI 36) hx hb dL_law_93 (by decide) ?_
    refine lv_icmp_ge (tgt := 193) hx hb dL_law_95 (by decide) (fun _ => ?_) (fun c95_1 => absurd (nI_le (by omega) (by omega)) c95_1)
    refine lv_iconst (v := nI 0) hx hb dL_law_193 (by decide) ?_
    refine lv_istore (lv' := [(4, .int (nI 0)), (3, .int (nI 1)), (2, .ref (a2 114)), (1, .ref (a 114)), (0, .ref b)]) hx hb dL_law_194 hl (by decide) rfl (fun ls hl => ?_)
    exact law_l2 C0 X0 hf0 hf (by omega) 48 0 Z T T2 _ _ _ rfl hV (fun p hp => absurd hp (Nat.not_lt_zero _)) hT hT2 (lv_sub hl [0, 1, 2, 3, 4] rfl) hP hQ hS
  | succ n ih =>
    intro k Z T T2 H locs ls hn hV hT hT2 hl hP hQ hS
    have hV1 : IVp (200 * k + 200) (h_L_acts Z (cv xs L k)) := pa_acts (by omega) hV _
    refine lv_iload hx hb dL_law_91 (lv_at hl 0 rfl) ?_
    refine lv_bipush (v := nI 36) hx hb dL_law_93 (by decide) ?_
    refine lv_icmp_ge (tgt := 193) hx hb dL_law_95 (by decide) (fun c95_1 => absurd c95_1 (nI_ge (show k < 36 by omega) (by decide))) (fun _ => ?_)
    refine lv_iload_n hx hb dL_law_98 rfl (lv_at hl 1 rfl) ?_
    refine lv_if_eq (tgt := 193) hx hb dL_law_99 (by decide) (fun c99_2 => absurd c99_2 (by decide)) (fun _ => ?_)
    refine lv_aload_n hx hb dL_law_102 rfl (lv_at hl 4 rfl) ?_
    refine lv_iload hx hb dL_law_103 (lv_at hl 0 rfl) ?_
    refine w2_x (As := [.ref b, .int (nI k)]) (rest := []) ⟨hx, hb, hml, hown, hts⟩ (ct_L_cell l b L xs k hL (by omega)) (va_cwS 2 hts gL_law_L_cell rfl rfl rfl (by decide +kernel) ⟨Nat.le_of_ble_eq_true rfl, Nat.le_of_ble_eq_true rfl⟩) hX hbl hbA hP hQ hS rfl hl.1 rfl (Nat.le_of_ble_eq_true rfl) dL_law_105 hf (fun H locs hP hQ hS => ?_)
    refine z_val (z := nI (cv xs L k)) rfl ?_
    refine lv_istore (lv' := [(5, .int (nI (cv xs L k))), (4, .int (nI k)), (3, .int (nI 1)), (2, .ref (a2 114)), (1, .ref (a 114)), (0, .ref b)]) hx hb dL_law_108 hl (by decide) rfl (fun ls hl => ?_)
    refine lv_aload_n hx hb dL_law_110 rfl (lv_at hl 4 rfl) ?_
    refine lv_iload hx hb dL_law_111 (lv_at hl 0 rfl) ?_
    have k113 := ct_L_acts l D a ca hJ qs qv (va_up Z 1 T) (200 * k) (cv xs L k) (cv_lt _ _ _) (ivp_t hV hT)
    rw [(pe_acts _).1, (pe_acts _).2] at k113
    refine w2_S (As := [.ref (a 114), .int (nI (cv xs L k))]) (rest := []) ⟨hx, hb, hml, hown, hts⟩ k113 (va_cwS 2 hts gL_law_L_acts rfl rfl rfl (by decide +kernel) ⟨Nat.le_of_ble_eq_true rfl, Nat.le_of_ble_eq_true rfl⟩) hE1 hJA hK hP hQ hS hz1 hd rfl hl.1 rfl (Nat.le_of_ble_eq_true rfl) dL_law_113 hf (fun H locs hP hQ hS => ?_)
    refine lv_istore (lv' := [(6, .int (g_L_acts Z (cv xs L k))), (5, .int (nI (cv xs L k))), (4, .int (nI k)), (3, .int (nI 1)), (2, .ref (a2 114)), (1, .ref (a 114)), (0, .ref b)]) hx hb dL_law_116 hl (by decide) rfl (fun ls hl => ?_)
    have k137 : ∀ (T2 : zM) (hT2 : xR T2) (H : Heap) (locs : List Loc) (hP : va_P D vwCl (zW a ca (va_up (h_L_acts Z (cv xs L k)) 1 T)) H) (hQ : va_P D vwCl (zW a2 ca (va_up Z 1 T2)) H) (hS : va_S (lA s) s.heap H locs), W p l e room_1 s m #[Value.ref b] below meth c H locs cells slots (lw_Z below #[Value.ref b] s) (F0 m 137 ls []) := by
      intro T2 hT2 H locs hP hQ hS
      refine lv_aload_n hx hb dL_law_137 rfl (lv_at hl 4 rfl) ?_
      refine lv_iload hx hb dL_law_138 (lv_at hl 1 rfl) ?_
      have k140 := ct_L_acts l D a2 ca hJ2 qs qv (va_up Z 1 T2) (200 * k) (cv xs L k) (cv_lt _ _ _) (ivp_t hV hT2)
      rw [(pe_acts _).1, (pe_acts _).2] at k140
      refine w2_S (As := [.ref (a2 114), .int (nI (cv xs L k))]) (rest := []) ⟨hx, hb, hml, hown, hts⟩ k140 (va_cwS 2 hts gL_law_L_acts rfl rfl rfl (by decide +kernel) ⟨Nat.le_of_ble_eq_true rfl, Nat.le_of_ble_eq_true rfl⟩) hE2 hJA hK hQ hP hS hz2 hd2 rfl hl.1 rfl (Nat.le_of_ble_eq_true rfl) dL_law_140 hf (fun H locs hQ hP hS => ?_)
      refine lv_iload hx hb dL_law_143 (lv_at hl 0 rfl) ?_
      refine lv_icmp_ne (tgt := 185) hx hb dL_law_145 (by decide) (fun c145_3 => absurd rfl c145_3) (fun _ => ?_)
      have k163 : ∀ (T T2 : zM) (hT : xR T) (hT2 : xR T2) (H : Heap) (locs : List Loc) (hP : va_P D vwCl (zW a ca (va_up (h_L_acts Z (cv xs L k)) 1 T)) H) (hQ : va_P D vwCl (zW a2 ca (va_up (h_L_acts Z (cv xs L k)) 1 T2)) H) (hS : va_S (lA s) s.heap H locs), W p l e room_1 s m #[Value.ref b] below meth c H locs cells slots (lw_Z below #[Value.ref b] s) (F0 m 163 ls [.int (nI 1)]) := by
        intro T T2 hT hT2 H locs hP hQ hS
        refine lv_if_eq (tgt := 185) hx hb dL_law_163 (by decide) (fun c163_4 => absurd c163_4 (by decide)) (fun _ => ?_)
        have k181 : ∀ (T T2 : zM) (hT : xR T) (hT2 : xR T2) (H : Heap) (locs : List Loc) (hP : va_P D vwCl (zW a ca (va_up (h_L_acts Z (cv xs L k)) 1 T)) H) (hQ : va_P D vwCl (zW a2 ca (va_up (h_L_acts Z (cv xs L k)) 1 T2)) H) (hS : va_S (lA s) s.heap H locs), W p l e room_1 s m #[Value.ref b] below meth c H locs cells slots (lw_Z below #[Value.ref b] s) (F0 m 181 ls []) := by
          intro T T2 hT hT2 H locs hP hQ hS
          refine lv_iconst (v := nI 1) hx hb dL_law_181 (by decide) ?_
          refine lv_goto (tgt := 186) hx hb dL_law_182 (by decide) ?_
          refine lv_istore_n (lv' := [(3, .int (nI 1)), (6, .int (g_L_acts Z (cv xs L k))), (5, .int (nI (cv xs L k))), (4, .int (nI k)), (2, .ref (a2 114)), (1, .ref (a 114)), (0, .ref b)]) hx hb dL_law_186 rfl hl (by decide) rfl (fun ls hl => ?_)
          refine lv_iinc (v := nI (k + 1)) (lv' := [(4, .int (nI (k + 1))), (3, .int (nI 1)), (6, .int (g_L_acts Z (cv xs L k))), (5, .int (nI (cv xs L k))), (2, .ref (a2 114)), (1, .ref (a 114)), (0, .ref b)]) hx hb dL_law_187 hl (k := 3) rfl (nI_add _ _) (by decide) rfl (fun ls hl => ?_)
          refine lv_goto (tgt := 91) hx hb dL_law_190 (by decide) ?_
          exact ih (k + 1) ((h_L_acts Z (cv xs L k))) T T2 _ _ _ (by omega) (by rw [show 200 * (k + 1) = 200 * k + 200 by omega]; exact hV1) hT hT2 (lv_sub hl [0, 1, 4, 5, 6] rfl) hP hQ hS
        refine lv_iload hx hb dL_law_166 (lv_at hl 2 rfl) ?_
        refine lv_iconst (v := nI 4) hx hb dL_law_168 (by decide) ?_
        refine lv_irem hx hb dL_law_169 (by decide) ?_
        refine z_val (z := nI (k % 4)) (pk_rem (by omega) (by decide) (by decide)) ?_
        refine lv_if_gt (tgt := 181) hx hb dL_law_170 (by decide) (fun c170_5 => ?_) (fun c170_5 => ?_)
        · exact k181 _ _ hT hT2 _ _ hP hQ hS
        · refine lv_aload_n hx hb dL_law_173 rfl (lv_at hl 5 rfl) ?_
          refine lv_aload_n hx hb dL_law_174 rfl (lv_at hl 4 rfl) ?_
          refine w2_s (As := [.ref (a 114), .ref (a2 114)]) (rest := []) ⟨hx, hb, hml, hown, hts⟩ (ct_L_same l D a a2 ca hJ hJ2 hd (va_up (h_L_acts Z (cv xs L k)) 1 T) (va_up (h_L_acts Z (cv xs L k)) 1 T2) (tz_n0.trans tz_n0.symm) (ivp_z (ivp_t hV1 hT)) (ivp_t hV1 hT).1 (ivp_t hV1 hT2).1) (va_cwS 2 hts gL_law_L_same rfl rfl rfl (by decide +kernel) ⟨Nat.le_of_ble_eq_true rfl, Nat.le_of_ble_eq_true rfl⟩) hK hP hQ hS hz1 hz2 rfl hl.1 rfl (Nat.le_of_ble_eq_true rfl) dL_law_175 hf (fun T T2 H locs hT hT2 hP hQ hS => ?_)
          rw [tz_t] at hP
          rw [tz_t] at hQ
          refine lv_if_eq (tgt := 185) hx hb dL_law_178 (by decide) (fun c178_6 => absurd c178_6 (by decide)) (fun _ => ?_)
          exact k181 _ _ hT hT2 _ _ hP hQ hS
      refine lv_iload hx hb dL_law_148 (lv_at hl 2 rfl) ?_
      refine lv_iconst (v := nI 2) hx hb dL_law_150 (by decide) ?_
      refine lv_irem hx hb dL_law_151 (by decide) ?_
      refine z_val (z := nI (k % 2)) (pk_rem (by omega) (by decide) (by decide)) ?_
      refine lv_if_ne (tgt := 159) hx hb dL_law_152 (by decide) (fun c152_7 => ?_) (fun c152_7 => ?_)
      · refine lv_aload_n hx hb dL_law_159 rfl (lv_at hl 4 rfl) ?_
        refine w2_h (As := [.ref (a2 114)]) (rest := []) ⟨hx, hb, hml, hown, hts⟩ (ct_L_hangs l D a2 ca hJ2 qs qv (va_up (h_L_acts Z (cv xs L k)) 1 T2) (((h_L_acts Z (cv xs L k))) 0) (200 * k + 200) tz_n0 (by omega) (ivp_0 hV1) (ivp_t hV1 hT2).1) (va_cwS 1 hts gL_law_L_hangs rfl rfl rfl (by decide +kernel) ⟨Nat.le_of_ble_eq_true rfl, Nat.le_of_ble_eq_true rfl⟩) hE2 hJA hK hQ hP hS hz2 hd2 rfl hl.1 rfl (Nat.le_of_ble_eq_true rfl) dL_law_160 hf (fun T2 H locs hT2 hQ hP hS => ?_)
        rw [tz_t] at hQ
        exact k163 _ _ hT hT2 _ _ hP hQ hS
      · refine lv_aload_n hx hb dL_law_155 rfl (lv_at hl 5 rfl) ?_
        refine lv_goto (tgt := 160) hx hb dL_law_156 (by decide) ?_
        refine w2_h (As := [.ref (a 114)]) (rest := []) ⟨hx, hb, hml, hown, hts⟩ (ct_L_hangs l D a ca hJ qs qv (va_up (h_L_acts Z (cv xs L k)) 1 T) (((h_L_acts Z (cv xs L k))) 0) (200 * k + 200) tz_n0 (by omega) (ivp_0 hV1) (ivp_t hV1 hT).1) (va_cwS 1 hts gL_law_L_hangs rfl rfl rfl (by decide +kernel) ⟨Nat.le_of_ble_eq_true rfl, Nat.le_of_ble_eq_true rfl⟩) hE1 hJA hK hP hQ hS hz1 hd rfl hl.1 rfl (Nat.le_of_ble_eq_true rfl) dL_law_160 hf (fun T H locs hT hP hQ hS => ?_)
        rw [tz_t] at hP
        exact k163 _ _ hT hT2 _ _ hP hQ hS
    refine lv_iload hx hb dL_law_118 (lv_at hl 2 rfl) ?_
    refine lv_iconst (v := nI 3) hx hb dL_law_120 (by decide) ?_
    refine lv_irem hx hb dL_law_121 (by decide) ?_
    refine z_val (z := nI (k % 3)) (pk_rem (by omega) (by decide) (by decide)) ?_
    refine lv_if_gt (tgt := 137) hx hb dL_law_122 (by decide) (fun c122_8 => ?_) (fun c122_8 => ?_)
    · exact k137 _ hT2 _ _ hP hQ hS
    · refine lv_aload_n hx hb dL_law_125 rfl (lv_at hl 4 rfl) ?_
      refine lv_iload hx hb dL_law_126 (lv_at hl 1 rfl) ?_
      refine lv_ldc (v := nI 100000) hx hb hown (hts (.constant RL 152 (nI 100000)) (by decide +kernel)) dL_law_128 ?_
      refine lv_irem hx hb dL_law_130 (by decide) ?_
      refine z_val (z := nI ((cv xs L k) % 100000)) (pk_rem (cv_lt _ _ _) (by decide) (by decide)) ?_
      refine w2_h (As := [.ref (a2 114), .int (nI ((cv xs L k) % 100000))]) (rest := []) ⟨hx, hb, hml, hown, hts⟩ (ct_L_refuses l D a2 ca hJ2 qs qv (va_up Z 1 T2) (200 * k) ((cv xs L k) % 100000) (Nat.mod_lt _ (by decide)) (ivp_t hV hT2)) (va_cwS 2 hts gL_law_L_refuses rfl rfl rfl (by decide +kernel) ⟨Nat.le_of_ble_eq_true rfl, Nat.le_of_ble_eq_true rfl⟩) hE2 hJA hK hQ hP hS hz2 hd2 rfl hl.1 rfl (Nat.le_of_ble_eq_true rfl) dL_law_131 hf (fun T2 H locs hT2 hQ hP hS => ?_)
      rw [tz_t] at hQ
      refine lv_if_eq (tgt := 185) hx hb dL_law_134 (by decide) (fun c134_9 => absurd c134_9 (by decide)) (fun _ => ?_)
      exact k137 _ hT2 _ _ hP hQ hS
set_option maxHeartbeats 8000000 in
set_option maxRecDepth 100000 in
theorem law_first {H : Heap} {locs : List Loc} {ls : Array Slot} (C0 : lw_At p s m meth c b L xs) (X0 : LX p s m c b L xs D a a2 ca qs qv) (hf0 : cells ≤ 600000 ∧ slots ≤ 7302250) (hf : cells ≤ room_1.cells ∧ slots ≤ room_1.slots) (hl : lv_has ls 7 [(2, .ref (a2 114)), (1, .ref (a 114)), (0, .ref b)]) (hP : va_P D vwCl (zW a ca zZ0) H) (hQ : va_P D vwCl (zW a2 ca zZ0) H) (hS : va_S (lA s) s.heap H locs) : W p l e room_1 s m #[Value.ref b] below meth c H locs cells slots (lw_Z below #[Value.ref b] s) (F0 m 16 ls []) := by
  obtain ⟨hx, hb, hml, hown, hts, hX, hbl, hL, hJ, hJ2, hK, hE1, hE2, hJA, hz1, hz2, hd⟩ := id X0
  have hd2 : ∀ q, zA a q → ¬ zA a2 q := fun q h1 h2 => hd q h2 h1
  have hbA : ¬ lA s b := Nat.not_le.mpr hbl
  refine lv_aload_n hx hb dL_law_16 rfl (lv_at hl 1 rfl) ?_
  have k17 := ct_undo2 l D a ca hJ zZ0 fr_iv.2.2.1 fr_iv.2.2.2.1 fr_iv.1
  rw [fr_undo.1, fr_undo.2] at k17
  refine w2_i (As := []) (rest := []) ⟨hx, hb, hml, hown, hts⟩ (k17) (cwV 0 hts gL_law_X6_undo rfl rfl rfl (by decide +kernel) ⟨Nat.le_of_ble_eq_true rfl, Nat.le_of_ble_eq_true rfl⟩) hK hP hQ hS hz1 hd (va_recv (ci := 6) hK.1 hP rfl zW_b) rfl hl.1 rfl (Nat.le_of_ble_eq_true rfl) dL_law_17 hf (fun H locs hP hQ hS => ?_)
  refine lv_ldc (v := (-100005)) hx hb hown (hts (.constant RL 102 (-100005)) (by decide +kernel)) dL_law_20 ?_
  refine lv_icmp_ne (tgt := 86) hx hb dL_law_22 (by decide) (fun c22_1 => absurd rfl c22_1) (fun _ => ?_)
  refine lv_aload_n hx hb dL_law_25 rfl (lv_at hl 1 rfl) ?_
  have k26 := ct_X6_fault l D a ca hJ qs qv zZ0 fr_iv.2.2.2.2
  rw [fr_fault.1, fr_fault.2] at k26
  refine w2_t (As := []) (rest := []) ⟨hx, hb, hml, hown, hts⟩ (k26) (cwV 0 hts gL_law_X6_fault rfl rfl rfl (by decide +kernel) ⟨Nat.le_of_ble_eq_true rfl, Nat.le_of_ble_eq_true rfl⟩) hE1 hJA hK hP hQ hS hz1 hd (va_recv (ci := 6) hK.1 hP rfl zW_b) rfl hl.1 rfl (Nat.le_of_ble_eq_true rfl) dL_law_26 hf (fun H locs hP hQ hS => ?_)
  refine lv_if_ne (tgt := 86) hx hb dL_law_29 (by decide) (fun c29_2 => absurd rfl c29_2) (fun _ => ?_)
  refine lv_aload_n hx hb dL_law_32 rfl (lv_at hl 1 rfl) ?_
  refine lv_iconst (v := nI 0) hx hb dL_law_33 (by decide) ?_
  have k34 := ct_X6_setting l D a ca hJ zZ0 (nI 0)
  rw [show g_X6_setting zZ0 (nI 0) = nI 3 by decide] at k34
  refine w2_i (As := [.int (nI 0)]) (rest := []) ⟨hx, hb, hml, hown, hts⟩ (k34) (cwV 1 hts gL_law_X6_setting rfl rfl rfl (by decide +kernel) ⟨Nat.le_of_ble_eq_true rfl, Nat.le_of_ble_eq_true rfl⟩) hK hP hQ hS hz1 hd (va_recv (ci := 6) hK.1 hP rfl zW_b) rfl hl.1 rfl (Nat.le_of_ble_eq_true rfl) dL_law_34 hf (fun H locs hP hQ hS => ?_)
  refine lv_iconst (v := nI 3) hx hb dL_law_37 (by decide) ?_
  refine lv_icmp_ne (tgt := 86) hx hb dL_law_38 (by decide) (fun c38_3 => absurd (by decide) c38_3) (fun _ => ?_)
  refine lv_aload_n hx hb dL_law_41 rfl (lv_at hl 1 rfl) ?_
  refine lv_iconst (v := nI 1) hx hb dL_law_42 (by decide) ?_
  have k43 := ct_X6_setting l D a ca hJ zZ0 (nI 1)
  rw [show g_X6_setting zZ0 (nI 1) = nI 0 by decide] at k43
  refine w2_i (As := [.int (nI 1)]) (rest := []) ⟨hx, hb, hml, hown, hts⟩ (k43) (cwV 1 hts gL_law_X6_setting rfl rfl rfl (by decide +kernel) ⟨Nat.le_of_ble_eq_true rfl, Nat.le_of_ble_eq_true rfl⟩) hK hP hQ hS hz1 hd (va_recv (ci := 6) hK.1 hP rfl zW_b) rfl hl.1 rfl (Nat.le_of_ble_eq_true rfl) dL_law_43 hf (fun H locs hP hQ hS => ?_)
  refine lv_if_ne (tgt := 86) hx hb dL_law_46 (by decide) (fun c46_4 => absurd (by decide) c46_4) (fun _ => ?_)
  refine lv_aload_n hx hb dL_law_49 rfl (lv_at hl 1 rfl) ?_
  refine lv_iconst (v := nI 5) hx hb dL_law_50 (by decide) ?_
  have k51 := ct_run2 l D a ca hJ zZ0 (nI 5) fr_iv.2.2.1 fr_iv.2.2.2.1 fr_iv.1 (ivp_z fr_iv)
  rw [fr_run.1, fr_run.2] at k51
  refine w2_i (As := [.int (nI 5)]) (rest := []) ⟨hx, hb, hml, hown, hts⟩ (k51) (cwV 1 hts gL_law_X6_run rfl rfl rfl (by decide +kernel) ⟨Nat.le_of_ble_eq_true rfl, Nat.le_of_ble_eq_true rfl⟩) hK hP hQ hS hz1 hd (va_recv (ci := 6) hK.1 hP rfl zW_b) rfl hl.1 rfl (Nat.le_of_ble_eq_true rfl) dL_law_51 hf (fun H locs hP hQ hS => ?_)
  refine lv_if_ne (tgt := 86) hx hb dL_law_54 (by decide) (fun c54_5 => absurd rfl c54_5) (fun _ => ?_)
  refine lv_aload_n hx hb dL_law_57 rfl (lv_at hl 1 rfl) ?_
  have iv1 : IVp 0 (va_up (h_remember2 zZ0) 0 zM0) := ivp_rem fr_iv (Nat.le_refl _) ⟨fr_st1, fr_ct1, xR_start⟩
  have k58 := ct_undo2 l D a ca hJ (va_up (h_remember2 zZ0) 0 zM0) iv1.2.2.1 iv1.2.2.2.1 iv1.1
  rw [fr_back.1, fr_back.2] at k58
  refine w2_i (As := []) (rest := []) ⟨hx, hb, hml, hown, hts⟩ (k58) (cwV 0 hts gL_law_X6_undo rfl rfl rfl (by decide +kernel) ⟨Nat.le_of_ble_eq_true rfl, Nat.le_of_ble_eq_true rfl⟩) hK hP hQ hS hz1 hd (va_recv (ci := 6) hK.1 hP rfl zW_b) rfl hl.1 rfl (Nat.le_of_ble_eq_true rfl) dL_law_58 hf (fun H locs hP hQ hS => ?_)
  refine lv_if_ne (tgt := 86) hx hb dL_law_61 (by decide) (fun c61_6 => absurd rfl c61_6) (fun _ => ?_)
  refine lv_aload_n hx hb dL_law_64 rfl (lv_at hl 1 rfl) ?_
  refine lv_bipush (v := nI 47) hx hb dL_law_65 (by decide) ?_
  have k67 := ct_X6_operation l D a ca hJ zZ0 (nI 47)
  rw [show g_X6_operation zZ0 (nI 47) = nI 11 by decide] at k67
  refine w2_i (As := [.int (nI 47)]) (rest := []) ⟨hx, hb, hml, hown, hts⟩ (k67) (cwV 1 hts gL_law_X6_operation rfl rfl rfl (by decide +kernel) ⟨Nat.le_of_ble_eq_true rfl, Nat.le_of_ble_eq_true rfl⟩) hK hP hQ hS hz1 hd (va_recv (ci := 6) hK.1 hP rfl zW_b) rfl hl.1 rfl (Nat.le_of_ble_eq_true rfl) dL_law_67 hf (fun H locs hP hQ hS => ?_)
  refine lv_bipush (v := nI 11) hx hb dL_law_70 (by decide) ?_
  refine lv_icmp_ne (tgt := 86) hx hb dL_law_72 (by decide) (fun c72_7 => absurd (by decide) c72_7) (fun _ => ?_)
  refine lv_aload_n hx hb dL_law_75 rfl (lv_at hl 1 rfl) ?_
  refine w2_h (As := [.ref (a 114)]) (rest := []) ⟨hx, hb, hml, hown, hts⟩ (ct_L_hangs l D a ca hJ qs qv zZ0 (zZ0 0) 0 rfl (by decide) (ivp_0 fr_iv) fr_iv.1) (va_cwS 1 hts gL_law_L_hangs rfl rfl rfl (by decide +kernel) ⟨Nat.le_of_ble_eq_true rfl, Nat.le_of_ble_eq_true rfl⟩) hE1 hJA hK hP hQ hS hz1 hd rfl hl.1 rfl (Nat.le_of_ble_eq_true rfl) dL_law_76 hf (fun T H locs hT hP hQ hS => ?_)
  refine lv_if_eq (tgt := 86) hx hb dL_law_79 (by decide) (fun c79_8 => absurd c79_8 (by decide)) (fun _ => ?_)
  refine lv_iconst (v := nI 1) hx hb dL_law_82 (by decide) ?_
  refine lv_goto (tgt := 87) hx hb dL_law_83 (by decide) ?_
  refine lv_istore_n (lv' := [(3, .int (nI 1)), (2, .ref (a2 114)), (1, .ref (a 114)), (0, .ref b)]) hx hb dL_law_87 rfl hl (by decide) rfl (fun ls hl => ?_)
  refine lv_iconst (v := nI 0) hx hb dL_law_88 (by decide) ?_
  refine lv_istore (lv' := [(4, .int (nI 0)), (3, .int (nI 1)), (2, .ref (a2 114)), (1, .ref (a 114)), (0, .ref b)]) hx hb dL_law_89 hl (by decide) rfl (fun ls hl => ?_)
  exact law_l1 C0 X0 hf0 hf 36 0 zZ0 T (zZ0 1) _ _ _ rfl fr_iv hT (fr_iv.1 1 (by decide)) (lv_sub hl [0, 1, 2, 3, 4] rfl) hP (zfoc_in rfl hQ) hS
end LV
