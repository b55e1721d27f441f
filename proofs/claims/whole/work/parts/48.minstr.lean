theorem dgI {X : zM} {a b : Int32} {i : Nat} (h2 : i ≠ 2) (h3 : i ≠ 3) : hX_X7_digit a b X 0 i = X 0 i := by
  unfold hX_X7_digit
  repeat' split
  all_goals rw [zu_i _ _ _ h2, zu_i _ _ _ h3]
theorem sgI {X : zM} {a : Int32} {i : Nat} (h2 : i ≠ 2) (h3 : i ≠ 3) : hX_X7_sign a X 0 i = X 0 i := by
  unfold hX_X7_sign
  repeat' split
  all_goals rw [zu_i _ _ _ h2, zu_i _ _ _ h3]
theorem utI {X : zM} {a b : Int32} {i : Nat} (h2 : i ≠ 2) (h3 : i ≠ 3) : hX_X7_upTo a b X 0 i = X 0 i := by
  unfold hX_X7_upTo
  repeat' split
  all_goals first | exact dgI h2 h3 | (rw [zu_i _ _ _ h2]; exact dgI h2 h3)
theorem nuI {X : zM} {i : Nat} (h2 : i ≠ 2) (h3 : i ≠ 3) : hX_X7_number X 0 i = X 0 i := by
  unfold hX_X7_number
  repeat' split
  all_goals first | exact utI h2 h3 | exact (utI h2 h3).trans (zu_i _ _ _ h2)
theorem tOK_records {S : Nat} {N P X : zM} (h : tOK S X) : tOK S (hX_X7_records N P X) := by
  have key : ∀ (n i : Nat) (N P X : zM), tOK S X → tOK S (hX_X7_records_lq n i N P X) := by
    intro n
    induction n with
    | zero =>
      intro i N P X h
      refine ⟨?_, ?_, ?_⟩
      · show zIn (zu X 0 0 _ 0 1) 101
        rw [zu_i _ _ _ (by decide)]
        exact h.1
      · show zIn (zu X 0 0 _ 0 2) S ∧ _
        rw [zu_i _ _ _ (by decide)]
        exact h.2.1
      · show (zu X 0 0 _ 0 3 = _) ∨ (zu X 0 0 _ 0 3 = _)
        rw [zu_i _ _ _ (by decide)]
        exact h.2.2
    | succ n ih =>
      intro i N P X h
      exact ih _ _ _ _ h
  have key2 : ∀ (n i : Nat) (N P X : zM), tOK S X → tOK S (hX_X7_records_lp n i N P X) := by
    intro n
    induction n with
    | zero =>
      intro i N P X h
      refine key _ _ _ _ _ ⟨?_, ?_, ?_⟩
      · rw [zu_i _ _ _ (by decide)]
        exact h.1
      · rw [zu_i _ _ _ (by decide)]
        exact h.2.1
      · rw [zu_i _ _ _ (by decide)]
        exact h.2.2
    | succ n ih =>
      intro i N P X h
      exact ih _ _ _ _ h
  unfold hX_X7_records
  split
  · exact key2 _ _ _ _ _ h
  · exact key _ _ _ _ _ h

def hX_X7_instruction  (X : zM) : zM := if (g_X7_operationOf (g_X7_next X)) = (-1) then zu (zu (zu (zu X 0 4 (g_X7_operationOf (g_X7_next X))) 0 5 (nI 0)) 0 6 (nI 0)) 0 3 (nI 1) else if (g_X7_operationOf (g_X7_next X)) = (nI 7) then zu (hX_X7_upTo (nI 0) (nI 47) (zu (zu (zu (zu X 0 4 (g_X7_operationOf (g_X7_next X))) 0 5 (nI 0)) 0 6 (nI 0)) 0 2 (nI (zc (X 0 2) + 1)))) 0 5 (g_X7_upTo (nI 0) (nI 47) (zu (zu (zu (zu X 0 4 (g_X7_operationOf (g_X7_next X))) 0 5 (nI 0)) 0 6 (nI 0)) 0 2 (nI (zc (X 0 2) + 1)))) else if (nI 10) ≤ (g_X7_operationOf (g_X7_next X)) then zu (zu (zu (zu X 0 4 (g_X7_operationOf (g_X7_next X))) 0 5 (nI 0)) 0 6 (nI 0)) 0 2 (nI (zc (X 0 2) + 1)) else if (g_X7_operationOf (g_X7_next X)) = 0 then zu (hX_X7_number (hX_X7_sign (nI 61) (zu (hX_X7_digit (nI 0) (nI 3) (zu (zu (zu (zu X 0 4 (g_X7_operationOf (g_X7_next X))) 0 5 (nI 0)) 0 6 (nI 0)) 0 2 (nI (zc (X 0 2) + 1)))) 0 5 (g_X7_digit (nI 0) (nI 3) (zu (zu (zu (zu X 0 4 (g_X7_operationOf (g_X7_next X))) 0 5 (nI 0)) 0 6 (nI 0)) 0 2 (nI (zc (X 0 2) + 1))))))) 0 6 (g_X7_number (hX_X7_sign (nI 61) (zu (hX_X7_digit (nI 0) (nI 3) (zu (zu (zu (zu X 0 4 (g_X7_operationOf (g_X7_next X))) 0 5 (nI 0)) 0 6 (nI 0)) 0 2 (nI (zc (X 0 2) + 1)))) 0 5 (g_X7_digit (nI 0) (nI 3) (zu (zu (zu (zu X 0 4 (g_X7_operationOf (g_X7_next X))) 0 5 (nI 0)) 0 6 (nI 0)) 0 2 (nI (zc (X 0 2) + 1))))))) else if (nI 7) ≤ (g_X7_operationOf (g_X7_next X)) then zu (hX_X7_upTo (nI 0) (nI 47) (hX_X7_sign (nI 62) (zu (hX_X7_digit (nI 0) (nI 3) (zu (zu (zu (zu X 0 4 (g_X7_operationOf (g_X7_next X))) 0 5 (nI 0)) 0 6 (nI 0)) 0 2 (nI (zc (X 0 2) + 1)))) 0 5 (g_X7_digit (nI 0) (nI 3) (zu (zu (zu (zu X 0 4 (g_X7_operationOf (g_X7_next X))) 0 5 (nI 0)) 0 6 (nI 0)) 0 2 (nI (zc (X 0 2) + 1))))))) 0 6 (g_X7_upTo (nI 0) (nI 47) (hX_X7_sign (nI 62) (zu (hX_X7_digit (nI 0) (nI 3) (zu (zu (zu (zu X 0 4 (g_X7_operationOf (g_X7_next X))) 0 5 (nI 0)) 0 6 (nI 0)) 0 2 (nI (zc (X 0 2) + 1)))) 0 5 (g_X7_digit (nI 0) (nI 3) (zu (zu (zu (zu X 0 4 (g_X7_operationOf (g_X7_next X))) 0 5 (nI 0)) 0 6 (nI 0)) 0 2 (nI (zc (X 0 2) + 1))))))) else zu (hX_X7_digit (nI 0) (nI 3) (zu (hX_X7_digit (nI 0) (nI 3) (zu (zu (zu (zu X 0 4 (g_X7_operationOf (g_X7_next X))) 0 5 (nI 0)) 0 6 (nI 0)) 0 2 (nI (zc (X 0 2) + 1)))) 0 5 (g_X7_digit (nI 0) (nI 3) (zu (zu (zu (zu X 0 4 (g_X7_operationOf (g_X7_next X))) 0 5 (nI 0)) 0 6 (nI 0)) 0 2 (nI (zc (X 0 2) + 1)))))) 0 6 (g_X7_digit (nI 0) (nI 3) (zu (hX_X7_digit (nI 0) (nI 3) (zu (zu (zu (zu X 0 4 (g_X7_operationOf (g_X7_next X))) 0 5 (nI 0)) 0 6 (nI 0)) 0 2 (nI (zc (X 0 2) + 1)))) 0 5 (g_X7_digit (nI 0) (nI 3) (zu (zu (zu (zu X 0 4 (g_X7_operationOf (g_X7_next X))) 0 5 (nI 0)) 0 6 (nI 0)) 0 2 (nI (zc (X 0 2) + 1))))))
set_option maxHeartbeats 4000000 in
set_option maxRecDepth 100000 in
theorem ct_X7_instruction (l : Launch) (D : va_G) (a : Nat → Nat) (cI : ClassId) (hJ : mJ a) (N A P X : zM) (S : Nat) (hT : tOK S X) (hS : S + 8 ≤ 1000000) : mCv l yX7_instruction wsX7_instruction ({ frames := 4, cells := 0, slots := 0, locals := 89 } : Room) D a cI [.ref (a 0)] (N, A, P, X) (N, A, P, hX_X7_instruction X) := by
  have hiX7 : ∀ w ∈ wsX70, w ∈ wsX7_instruction := by decide +kernel
  refine m_ofv (cc := cX7_instruction) (maxL := 1) (own := RX7) (by decide) rfl (Nat.le_of_ble_eq_true rfl) rfl (fun p e s m below meth c ls hx hb hr hml hts hown hlk hl hK hP hS => ?_)
  have hl : lv_has ls 1 [(0, .ref (a 0))] := hl
  refine lv_aload_n hx hb dX7_instruction_0 rfl (lv_at hl 0 rfl) ?_
  refine lv_aload_n hx hb dX7_instruction_1 rfl (lv_at hl 0 rfl) ?_
  refine m_cVi (As := []) (rest := [.ref (a 0)]) ⟨hx, hb, hml, hown, hts⟩ (ct_X7_next l D a cI hJ N A P X _ hT) (cwV 0 hts gX7_instruction_X7_next rfl rfl rfl (by decide +kernel) ⟨Nat.le_of_ble_eq_true rfl, Nat.le_of_ble_eq_true rfl⟩) hK hP hS (va_recv (ci := 7) hK hP rfl mG_O) rfl hl.1 rfl (Nat.le_of_ble_eq_true rfl) dX7_instruction_2 ⟨Nat.zero_le _, Nat.zero_le _⟩ (fun H locs hP hS => ?_)
  refine m_cSi (As := [.int (g_X7_next X)]) (rest := [.ref (a 0)]) ⟨hx, hb, hml, hown, hts⟩ (ct_X7_operationOf l D a cI hJ N A P X (g_X7_next X)) (va_cwS 1 hts gX7_instruction_X7_operationOf rfl rfl rfl (by decide +kernel) ⟨Nat.le_of_ble_eq_true rfl, Nat.le_of_ble_eq_true rfl⟩) hK hP hS rfl hl.1 rfl (Nat.le_of_ble_eq_true rfl) dX7_instruction_5 ⟨Nat.zero_le _, Nat.zero_le _⟩ (fun H locs hP hS => ?_)
  refine mpO8 hx hb hts hiX7 hown hK hP hJ hS (hts (.fieldLink RX7 94 "BarrelProcessorModel" "operation" "I") (by decide +kernel)) dX7_instruction_8 (fun H locs hP hS => ?_)
  refine lv_aload_n hx hb dX7_instruction_11 rfl (lv_at hl 0 rfl) ?_
  refine lv_iconst (v := nI 0) hx hb dX7_instruction_12 (by decide) ?_
  refine mpO9 hx hb hts hiX7 hown hK hP hJ hS (hts (.fieldLink RX7 97 "BarrelProcessorModel" "first" "I") (by decide +kernel)) dX7_instruction_13 (fun H locs hP hS => ?_)
  refine lv_aload_n hx hb dX7_instruction_16 rfl (lv_at hl 0 rfl) ?_
  refine lv_iconst (v := nI 0) hx hb dX7_instruction_17 (by decide) ?_
  refine mpO10 hx hb hts hiX7 hown hK hP hJ hS (hts (.fieldLink RX7 100 "BarrelProcessorModel" "second" "I") (by decide +kernel)) dX7_instruction_18 (fun H locs hP hS => ?_)
  refine lv_aload_n hx hb dX7_instruction_21 rfl (lv_at hl 0 rfl) ?_
  refine mgO8 hx hb hts hiX7 hown hK hP (hts (.fieldLink RX7 94 "BarrelProcessorModel" "operation" "I") (by decide +kernel)) dX7_instruction_22 ?_
  refine z_val (z := (g_X7_operationOf (g_X7_next X))) rfl ?_
  refine lv_iconst (v := (-1)) hx hb dX7_instruction_25 (by decide) ?_
  refine lv_icmp_ne (tgt := 35) hx hb dX7_instruction_26 (by decide) (fun c26_1 => ?_) (fun c26_1 => ?_)
  · refine lv_aload_n hx hb dX7_instruction_35 rfl (lv_at hl 0 rfl) ?_
    refine lv_dup hx hb dX7_instruction_36 rfl ?_
    refine mgO6 hx hb hts hiX7 hown hK hP (hts (.fieldLink RX7 88 "BarrelProcessorModel" "spot" "I") (by decide +kernel)) dX7_instruction_37 ?_
    refine z_val (z := X 0 2) rfl ?_
    refine z_val (z := nI (zc (X 0 2))) hT.2.1.1.2 ?_
    refine lv_iconst (v := nI 1) hx hb dX7_instruction_40 (by decide) ?_
    refine lv_iadd hx hb dX7_instruction_41 ?_
    refine z_val (z := nI (zc (X 0 2) + 1)) (nI_add _ _) ?_
    refine mpO6 hx hb hts hiX7 hown hK hP hJ hS (hts (.fieldLink RX7 88 "BarrelProcessorModel" "spot" "I") (by decide +kernel)) dX7_instruction_42 (fun H locs hP hS => ?_)
    refine lv_aload_n hx hb dX7_instruction_45 rfl (lv_at hl 0 rfl) ?_
    refine mgO8 hx hb hts hiX7 hown hK hP (hts (.fieldLink RX7 94 "BarrelProcessorModel" "operation" "I") (by decide +kernel)) dX7_instruction_46 ?_
    refine z_val (z := (g_X7_operationOf (g_X7_next X))) rfl ?_
    refine lv_bipush (v := nI 7) hx hb dX7_instruction_49 (by decide) ?_
    refine lv_icmp_ne (tgt := 68) hx hb dX7_instruction_51 (by decide) (fun c51_2 => ?_) (fun c51_2 => ?_)
    · refine lv_aload_n hx hb dX7_instruction_68 rfl (lv_at hl 0 rfl) ?_
      refine mgO8 hx hb hts hiX7 hown hK hP (hts (.fieldLink RX7 94 "BarrelProcessorModel" "operation" "I") (by decide +kernel)) dX7_instruction_69 ?_
      refine z_val (z := (g_X7_operationOf (g_X7_next X))) rfl ?_
      refine lv_bipush (v := nI 10) hx hb dX7_instruction_72 (by decide) ?_
      refine lv_icmp_ge (tgt := 150) hx hb dX7_instruction_74 (by decide) (fun c74_3 => ?_) (fun c74_3 => ?_)
      · exact m_retv hx hb hr hlk hP hS dX7_instruction_150 (m_eq rfl rfl rfl (by simp only [hX_X7_instruction, if_neg c26_1, if_neg c51_2, if_pos c74_3]))
      · refine lv_aload_n hx hb dX7_instruction_77 rfl (lv_at hl 0 rfl) ?_
        refine lv_aload_n hx hb dX7_instruction_78 rfl (lv_at hl 0 rfl) ?_
        refine lv_iconst (v := nI 0) hx hb dX7_instruction_79 (by decide) ?_
        refine lv_iconst (v := nI 3) hx hb dX7_instruction_80 (by decide) ?_
        refine m_cVi (As := [.int (nI 0), .int (nI 3)]) (rest := [.ref (a 0)]) ⟨hx, hb, hml, hown, hts⟩ (ct_X7_digit l D a cI hJ N A P (zu (zu (zu (zu X 0 4 (g_X7_operationOf (g_X7_next X))) 0 5 (nI 0)) 0 6 (nI 0)) 0 2 (nI (zc (X 0 2) + 1))) (nI 0) (nI 3) _ (tOK_2 (S' := S + 1) (tOK_i (tOK_i (tOK_i hT (by decide)) (by decide)) (by decide)) (by have h9 := hT.2.1.1.1; omega) (by omega))) (cwV 2 hts gX7_instruction_X7_digit rfl rfl rfl (by decide +kernel) ⟨Nat.le_of_ble_eq_true rfl, Nat.le_of_ble_eq_true rfl⟩) hK hP hS (va_recv (ci := 7) hK hP rfl mG_O) rfl hl.1 rfl (Nat.le_of_ble_eq_true rfl) dX7_instruction_81 ⟨Nat.zero_le _, Nat.zero_le _⟩ (fun H locs hP hS => ?_)
        refine mpO9 hx hb hts hiX7 hown hK hP hJ hS (hts (.fieldLink RX7 97 "BarrelProcessorModel" "first" "I") (by decide +kernel)) dX7_instruction_84 (fun H locs hP hS => ?_)
        refine lv_aload_n hx hb dX7_instruction_87 rfl (lv_at hl 0 rfl) ?_
        refine mgO8 hx hb hts hiX7 hown hK hP (hts (.fieldLink RX7 94 "BarrelProcessorModel" "operation" "I") (by decide +kernel)) dX7_instruction_88 ?_
        refine z_val (z := (hX_X7_digit (nI 0) (nI 3) (zu (zu (zu (zu X 0 4 (g_X7_operationOf (g_X7_next X))) 0 5 (nI 0)) 0 6 (nI 0)) 0 2 (nI (zc (X 0 2) + 1)))) 0 4) rfl ?_
        refine z_val (z := (g_X7_operationOf (g_X7_next X))) (dgI (by decide) (by decide)) ?_
        refine lv_if_ne (tgt := 111) hx hb dX7_instruction_91 (by decide) (fun c91_4 => ?_) (fun c91_4 => ?_)
        · refine lv_aload_n hx hb dX7_instruction_111 rfl (lv_at hl 0 rfl) ?_
          refine mgO8 hx hb hts hiX7 hown hK hP (hts (.fieldLink RX7 94 "BarrelProcessorModel" "operation" "I") (by decide +kernel)) dX7_instruction_112 ?_
          refine z_val (z := (hX_X7_digit (nI 0) (nI 3) (zu (zu (zu (zu X 0 4 (g_X7_operationOf (g_X7_next X))) 0 5 (nI 0)) 0 6 (nI 0)) 0 2 (nI (zc (X 0 2) + 1)))) 0 4) rfl ?_
          refine z_val (z := (g_X7_operationOf (g_X7_next X))) (dgI (by decide) (by decide)) ?_
          refine lv_bipush (v := nI 7) hx hb dX7_instruction_115 (by decide) ?_
          refine lv_icmp_ge (tgt := 133) hx hb dX7_instruction_117 (by decide) (fun c117_5 => ?_) (fun c117_5 => ?_)
          · refine lv_aload_n hx hb dX7_instruction_133 rfl (lv_at hl 0 rfl) ?_
            refine lv_bipush (v := nI 62) hx hb dX7_instruction_134 (by decide) ?_
            refine m_cVv (As := [.int (nI 62)]) (rest := []) ⟨hx, hb, hml, hown, hts⟩ (ct_X7_sign l D a cI hJ N A P (zu (hX_X7_digit (nI 0) (nI 3) (zu (zu (zu (zu X 0 4 (g_X7_operationOf (g_X7_next X))) 0 5 (nI 0)) 0 6 (nI 0)) 0 2 (nI (zc (X 0 2) + 1)))) 0 5 (g_X7_digit (nI 0) (nI 3) (zu (zu (zu (zu X 0 4 (g_X7_operationOf (g_X7_next X))) 0 5 (nI 0)) 0 6 (nI 0)) 0 2 (nI (zc (X 0 2) + 1))))) (nI 62) _ (tOK_i (tOK_digit (tOK_2 (S' := S + 1) (tOK_i (tOK_i (tOK_i hT (by decide)) (by decide)) (by decide)) (by have h9 := hT.2.1.1.1; omega) (by omega)) (by omega)) (by decide))) (cwV 1 hts gX7_instruction_X7_sign rfl rfl rfl (by decide +kernel) ⟨Nat.le_of_ble_eq_true rfl, Nat.le_of_ble_eq_true rfl⟩) hK hP hS (va_recv (ci := 7) hK hP rfl mG_O) rfl hl.1 rfl (Nat.le_of_ble_eq_true rfl) dX7_instruction_136 ⟨Nat.zero_le _, Nat.zero_le _⟩ (fun H locs hP hS => ?_)
            refine lv_aload_n hx hb dX7_instruction_139 rfl (lv_at hl 0 rfl) ?_
            refine lv_aload_n hx hb dX7_instruction_140 rfl (lv_at hl 0 rfl) ?_
            refine lv_iconst (v := nI 0) hx hb dX7_instruction_141 (by decide) ?_
            refine lv_bipush (v := nI 47) hx hb dX7_instruction_142 (by decide) ?_
            refine m_cVi (As := [.int (nI 0), .int (nI 47)]) (rest := [.ref (a 0)]) ⟨hx, hb, hml, hown, hts⟩ (ct_X7_upTo l D a cI hJ N A P (hX_X7_sign (nI 62) (zu (hX_X7_digit (nI 0) (nI 3) (zu (zu (zu (zu X 0 4 (g_X7_operationOf (g_X7_next X))) 0 5 (nI 0)) 0 6 (nI 0)) 0 2 (nI (zc (X 0 2) + 1)))) 0 5 (g_X7_digit (nI 0) (nI 3) (zu (zu (zu (zu X 0 4 (g_X7_operationOf (g_X7_next X))) 0 5 (nI 0)) 0 6 (nI 0)) 0 2 (nI (zc (X 0 2) + 1)))))) (nI 0) (nI 47) _ (tOK_sign (tOK_i (tOK_digit (tOK_2 (S' := S + 1) (tOK_i (tOK_i (tOK_i hT (by decide)) (by decide)) (by decide)) (by have h9 := hT.2.1.1.1; omega) (by omega)) (by omega)) (by decide)) (by omega)) (by omega)) (cwV 2 hts gX7_instruction_X7_upTo rfl rfl rfl (by decide +kernel) ⟨Nat.le_of_ble_eq_true rfl, Nat.le_of_ble_eq_true rfl⟩) hK hP hS (va_recv (ci := 7) hK hP rfl mG_O) rfl hl.1 rfl (Nat.le_of_ble_eq_true rfl) dX7_instruction_144 ⟨Nat.zero_le _, Nat.zero_le _⟩ (fun H locs hP hS => ?_)
            refine mpO10 hx hb hts hiX7 hown hK hP hJ hS (hts (.fieldLink RX7 100 "BarrelProcessorModel" "second" "I") (by decide +kernel)) dX7_instruction_147 (fun H locs hP hS => ?_)
            exact m_retv hx hb hr hlk hP hS dX7_instruction_150 (m_eq rfl rfl rfl (by simp only [hX_X7_instruction, if_neg c26_1, if_neg c51_2, if_neg c74_3, if_neg c91_4, if_pos c117_5]))
          · refine lv_aload_n hx hb dX7_instruction_120 rfl (lv_at hl 0 rfl) ?_
            refine lv_aload_n hx hb dX7_instruction_121 rfl (lv_at hl 0 rfl) ?_
            refine lv_iconst (v := nI 0) hx hb dX7_instruction_122 (by decide) ?_
            refine lv_iconst (v := nI 3) hx hb dX7_instruction_123 (by decide) ?_
            refine m_cVi (As := [.int (nI 0), .int (nI 3)]) (rest := [.ref (a 0)]) ⟨hx, hb, hml, hown, hts⟩ (ct_X7_digit l D a cI hJ N A P (zu (hX_X7_digit (nI 0) (nI 3) (zu (zu (zu (zu X 0 4 (g_X7_operationOf (g_X7_next X))) 0 5 (nI 0)) 0 6 (nI 0)) 0 2 (nI (zc (X 0 2) + 1)))) 0 5 (g_X7_digit (nI 0) (nI 3) (zu (zu (zu (zu X 0 4 (g_X7_operationOf (g_X7_next X))) 0 5 (nI 0)) 0 6 (nI 0)) 0 2 (nI (zc (X 0 2) + 1))))) (nI 0) (nI 3) _ (tOK_i (tOK_digit (tOK_2 (S' := S + 1) (tOK_i (tOK_i (tOK_i hT (by decide)) (by decide)) (by decide)) (by have h9 := hT.2.1.1.1; omega) (by omega)) (by omega)) (by decide))) (cwV 2 hts gX7_instruction_X7_digit rfl rfl rfl (by decide +kernel) ⟨Nat.le_of_ble_eq_true rfl, Nat.le_of_ble_eq_true rfl⟩) hK hP hS (va_recv (ci := 7) hK hP rfl mG_O) rfl hl.1 rfl (Nat.le_of_ble_eq_true rfl) dX7_instruction_124 ⟨Nat.zero_le _, Nat.zero_le _⟩ (fun H locs hP hS => ?_)
            refine mpO10 hx hb hts hiX7 hown hK hP hJ hS (hts (.fieldLink RX7 100 "BarrelProcessorModel" "second" "I") (by decide +kernel)) dX7_instruction_127 (fun H locs hP hS => ?_)
            refine lv_goto (tgt := 150) hx hb dX7_instruction_130 (by decide) ?_
            exact m_retv hx hb hr hlk hP hS dX7_instruction_150 (m_eq rfl rfl rfl (by simp only [hX_X7_instruction, if_neg c26_1, if_neg c51_2, if_neg c74_3, if_neg c91_4, if_neg c117_5]))
        · refine lv_aload_n hx hb dX7_instruction_94 rfl (lv_at hl 0 rfl) ?_
          refine lv_bipush (v := nI 61) hx hb dX7_instruction_95 (by decide) ?_
          refine m_cVv (As := [.int (nI 61)]) (rest := []) ⟨hx, hb, hml, hown, hts⟩ (ct_X7_sign l D a cI hJ N A P (zu (hX_X7_digit (nI 0) (nI 3) (zu (zu (zu (zu X 0 4 (g_X7_operationOf (g_X7_next X))) 0 5 (nI 0)) 0 6 (nI 0)) 0 2 (nI (zc (X 0 2) + 1)))) 0 5 (g_X7_digit (nI 0) (nI 3) (zu (zu (zu (zu X 0 4 (g_X7_operationOf (g_X7_next X))) 0 5 (nI 0)) 0 6 (nI 0)) 0 2 (nI (zc (X 0 2) + 1))))) (nI 61) _ (tOK_i (tOK_digit (tOK_2 (S' := S + 1) (tOK_i (tOK_i (tOK_i hT (by decide)) (by decide)) (by decide)) (by have h9 := hT.2.1.1.1; omega) (by omega)) (by omega)) (by decide))) (cwV 1 hts gX7_instruction_X7_sign rfl rfl rfl (by decide +kernel) ⟨Nat.le_of_ble_eq_true rfl, Nat.le_of_ble_eq_true rfl⟩) hK hP hS (va_recv (ci := 7) hK hP rfl mG_O) rfl hl.1 rfl (Nat.le_of_ble_eq_true rfl) dX7_instruction_97 ⟨Nat.zero_le _, Nat.zero_le _⟩ (fun H locs hP hS => ?_)
          refine lv_aload_n hx hb dX7_instruction_100 rfl (lv_at hl 0 rfl) ?_
          refine lv_aload_n hx hb dX7_instruction_101 rfl (lv_at hl 0 rfl) ?_
          refine m_cVi (As := []) (rest := [.ref (a 0)]) ⟨hx, hb, hml, hown, hts⟩ (ct_X7_number l D a cI hJ N A P (hX_X7_sign (nI 61) (zu (hX_X7_digit (nI 0) (nI 3) (zu (zu (zu (zu X 0 4 (g_X7_operationOf (g_X7_next X))) 0 5 (nI 0)) 0 6 (nI 0)) 0 2 (nI (zc (X 0 2) + 1)))) 0 5 (g_X7_digit (nI 0) (nI 3) (zu (zu (zu (zu X 0 4 (g_X7_operationOf (g_X7_next X))) 0 5 (nI 0)) 0 6 (nI 0)) 0 2 (nI (zc (X 0 2) + 1)))))) _ (tOK_sign (tOK_i (tOK_digit (tOK_2 (S' := S + 1) (tOK_i (tOK_i (tOK_i hT (by decide)) (by decide)) (by decide)) (by have h9 := hT.2.1.1.1; omega) (by omega)) (by omega)) (by decide)) (by omega)) (by omega)) (cwV 0 hts gX7_instruction_X7_number rfl rfl rfl (by decide +kernel) ⟨Nat.le_of_ble_eq_true rfl, Nat.le_of_ble_eq_true rfl⟩) hK hP hS (va_recv (ci := 7) hK hP rfl mG_O) rfl hl.1 rfl (Nat.le_of_ble_eq_true rfl) dX7_instruction_102 ⟨Nat.zero_le _, Nat.zero_le _⟩ (fun H locs hP hS => ?_)
          refine mpO10 hx hb hts hiX7 hown hK hP hJ hS (hts (.fieldLink RX7 100 "BarrelProcessorModel" "second" "I") (by decide +kernel)) dX7_instruction_105 (fun H locs hP hS => ?_)
          refine lv_goto (tgt := 150) hx hb dX7_instruction_108 (by decide) ?_
          exact m_retv hx hb hr hlk hP hS dX7_instruction_150 (m_eq rfl rfl rfl (by simp only [hX_X7_instruction, if_neg c26_1, if_neg c51_2, if_neg c74_3, if_pos c91_4]))
    · refine lv_aload_n hx hb dX7_instruction_54 rfl (lv_at hl 0 rfl) ?_
      refine lv_aload_n hx hb dX7_instruction_55 rfl (lv_at hl 0 rfl) ?_
      refine lv_iconst (v := nI 0) hx hb dX7_instruction_56 (by decide) ?_
      refine lv_bipush (v := nI 47) hx hb dX7_instruction_57 (by decide) ?_
      refine m_cVi (As := [.int (nI 0), .int (nI 47)]) (rest := [.ref (a 0)]) ⟨hx, hb, hml, hown, hts⟩ (ct_X7_upTo l D a cI hJ N A P (zu (zu (zu (zu X 0 4 (g_X7_operationOf (g_X7_next X))) 0 5 (nI 0)) 0 6 (nI 0)) 0 2 (nI (zc (X 0 2) + 1))) (nI 0) (nI 47) _ (tOK_2 (S' := S + 1) (tOK_i (tOK_i (tOK_i hT (by decide)) (by decide)) (by decide)) (by have h9 := hT.2.1.1.1; omega) (by omega)) (by omega)) (cwV 2 hts gX7_instruction_X7_upTo rfl rfl rfl (by decide +kernel) ⟨Nat.le_of_ble_eq_true rfl, Nat.le_of_ble_eq_true rfl⟩) hK hP hS (va_recv (ci := 7) hK hP rfl mG_O) rfl hl.1 rfl (Nat.le_of_ble_eq_true rfl) dX7_instruction_59 ⟨Nat.zero_le _, Nat.zero_le _⟩ (fun H locs hP hS => ?_)
      refine mpO9 hx hb hts hiX7 hown hK hP hJ hS (hts (.fieldLink RX7 97 "BarrelProcessorModel" "first" "I") (by decide +kernel)) dX7_instruction_62 (fun H locs hP hS => ?_)
      refine lv_goto (tgt := 150) hx hb dX7_instruction_65 (by decide) ?_
      exact m_retv hx hb hr hlk hP hS dX7_instruction_150 (m_eq rfl rfl rfl (by simp only [hX_X7_instruction, if_neg c26_1, if_pos c51_2]))
  · refine lv_aload_n hx hb dX7_instruction_29 rfl (lv_at hl 0 rfl) ?_
    refine lv_iconst (v := nI 1) hx hb dX7_instruction_30 (by decide) ?_
    refine mpO7 hx hb hts hiX7 hown hK hP hJ hS (by first | exact Or.inl rfl | exact Or.inr rfl | exact hw) (hts (.fieldLink RX7 125 "BarrelProcessorModel" "isWrong" "Z") (by decide +kernel)) dX7_instruction_31 (fun H locs hP hS => ?_)
    exact m_retv hx hb hr hlk hP hS dX7_instruction_34 (m_eq rfl rfl rfl (by simp only [hX_X7_instruction, if_pos c26_1]))

theorem tOK_instruction {S : Nat} {X : zM} (hT : tOK S X) (hS : S + 8 ≤ 1000000) : tOK (S + 8) (hX_X7_instruction X) := by
  have h4 : tOK (S + 1) (zu (zu (zu (zu X 0 4 (g_X7_operationOf (g_X7_next X))) 0 5 (nI 0)) 0 6 (nI 0)) 0 2 (nI (zc (X 0 2) + 1))) := (tOK_2 (S' := S + 1) (tOK_i (tOK_i (tOK_i hT (by decide)) (by decide)) (by decide)) (by have h9 := hT.2.1.1.1; omega) (by omega))
  have h3 : tOK S (zu (zu (zu X 0 4 (g_X7_operationOf (g_X7_next X))) 0 5 (nI 0)) 0 6 (nI 0)) := tOK_i (tOK_i (tOK_i hT (by decide)) (by decide)) (by decide)
  unfold hX_X7_instruction
  generalize zu (zu (zu (zu X 0 4 (g_X7_operationOf (g_X7_next X))) 0 5 (nI 0)) 0 6 (nI 0)) 0 2 (nI (zc (X 0 2) + 1)) = Y at h4 ⊢
  generalize zu (zu (zu X 0 4 (g_X7_operationOf (g_X7_next X))) 0 5 (nI 0)) 0 6 (nI 0) = U at h3 ⊢
  have hd : ∀ x, tOK (S + 1 + 1) (zu (hX_X7_digit (nI 0) (nI 3) Y) 0 5 x) := fun x => tOK_i (tOK_digit h4 (by omega)) (by decide)
  generalize g_X7_digit (nI 0) (nI 3) Y = d1
  have hd := hd d1
  generalize zu (hX_X7_digit (nI 0) (nI 3) Y) 0 5 d1 = V at hd ⊢
  refine z_ite (P := tOK (S + 8)) (fun _ => tOK_up (tOK_3 h3 (Or.inr rfl)) (by omega) hS) (fun _ => ?_)
  refine z_ite (P := tOK (S + 8)) (fun _ => tOK_up (tOK_i (tOK_upTo h4 (by omega)) (by decide)) (by omega) hS) (fun _ => ?_)
  refine z_ite (P := tOK (S + 8)) (fun _ => tOK_up h4 (by omega) hS) (fun _ => ?_)
  refine z_ite (P := tOK (S + 8)) (fun _ => tOK_up (tOK_i (tOK_number (tOK_sign hd (by omega)) (by omega)) (by decide)) (by omega) hS) (fun _ => ?_)
  refine z_ite (P := tOK (S + 8)) (fun _ => tOK_up (tOK_i (tOK_upTo (tOK_sign hd (by omega)) (by omega)) (by decide)) (by omega) hS) (fun _ => ?_)
  exact tOK_up (tOK_i (tOK_digit hd (by omega)) (by decide)) (by omega) hS
