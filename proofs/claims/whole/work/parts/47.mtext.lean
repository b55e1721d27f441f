def g_X7_append (character : Int32) (X : zM) : Int32 := if (g_X7_in character (nI 32) (nI 126)) = 0 then (-100002) else if (nI (zc (X 0 1))) = (nI 100) then (-100004) else nI (zc (X 0 1) + 1)
def hX_X7_append (character : Int32) (X : zM) : zM := if (g_X7_in character (nI 32) (nI 126)) = 0 then X else if (nI (zc (X 0 1))) = (nI 100) then X else zu (zu X 1 (zc (X 0 1)) character) 0 1 (nI (zc (X 0 1) + 1))
set_option maxHeartbeats 4000000 in
set_option maxRecDepth 100000 in
theorem ct_X7_append (l : Launch) (D : va_G) (a : Nat → Nat) (cI : ClassId) (hJ : mJ a) (N A P X : zM) (character : Int32) (hL : zIn (X 0 1) 101) : mCi l yX7_append wsX7_append ({ frames := 1, cells := 0, slots := 0, locals := 22 } : Room) D a cI [.ref (a 0), .int character] (N, A, P, X) (g_X7_append character X) (N, A, P, hX_X7_append character X) := by
  have hiX7 : ∀ w ∈ wsX70, w ∈ wsX7_append := by decide +kernel
  refine m_ofi (cc := cX7_append) (maxL := 2) (own := RX7) (by decide) rfl (Nat.le_of_ble_eq_true rfl) rfl (fun p e s m below meth c ls hx hb hr hml hts hown hlk hl hK hP hS => ?_)
  have hl : lv_has ls 2 [(0, .ref (a 0)), (1, .int character)] := hl
  refine lv_iload_n hx hb dX7_append_0 rfl (lv_at hl 1 rfl) ?_
  refine lv_bipush (v := nI 32) hx hb dX7_append_1 (by decide) ?_
  refine lv_bipush (v := nI 126) hx hb dX7_append_3 (by decide) ?_
  refine m_cSi (As := [.int character, .int (nI 32), .int (nI 126)]) (rest := []) ⟨hx, hb, hml, hown, hts⟩ (ct_X7_in l D a cI hJ N A P X character (nI 32) (nI 126)) (va_cwS 3 hts gX7_append_X7_in rfl rfl rfl (by decide +kernel) ⟨Nat.le_of_ble_eq_true rfl, Nat.le_of_ble_eq_true rfl⟩) hK hP hS rfl hl.1 rfl (Nat.le_of_ble_eq_true rfl) dX7_append_5 ⟨Nat.zero_le _, Nat.zero_le _⟩ (fun H locs hP hS => ?_)
  refine lv_if_ne (tgt := 14) hx hb dX7_append_8 (by decide) (fun c8_1 => ?_) (fun c8_1 => ?_)
  · refine lv_aload_n hx hb dX7_append_14 rfl (lv_at hl 0 rfl) ?_
    refine mgO5 hx hb hts hiX7 hown hK hP (hts (.fieldLink RX7 81 "BarrelProcessorModel" "length" "I") (by decide +kernel)) dX7_append_15 ?_
    refine z_val (z := nI (zc (X 0 1))) hL.2 ?_
    refine lv_bipush (v := nI 100) hx hb dX7_append_18 (by decide) ?_
    refine lv_icmp_ne (tgt := 26) hx hb dX7_append_20 (by decide) (fun c20_2 => ?_) (fun c20_2 => ?_)
    · have b0 := hL.1
      have b1 : zc (X 0 1) < 100 := Nat.lt_of_le_of_ne (by omega) (fun e => c20_2 (by rw [e]))
      refine lv_aload_n hx hb dX7_append_26 rfl (lv_at hl 0 rfl) ?_
      refine mgO4 hx hb hts hiX7 hown hK hP (hts (.fieldLink RX7 19 "BarrelProcessorModel" "text" "[I") (by decide +kernel)) dX7_append_27 ?_
      refine lv_aload_n hx hb dX7_append_30 rfl (lv_at hl 0 rfl) ?_
      refine mgO5 hx hb hts hiX7 hown hK hP (hts (.fieldLink RX7 81 "BarrelProcessorModel" "length" "I") (by decide +kernel)) dX7_append_31 ?_
      refine z_val (z := nI (zc (X 0 1))) hL.2 ?_
      refine lv_iload_n hx hb dX7_append_34 rfl (lv_at hl 1 rfl) ?_
      refine m_iast (Z' := (N, A, P, zu X 1 (zc (X 0 1)) character)) hx hb hK hP hJ hS mG_tx (j := zc (X 0 1)) (by omega) (by decide) dX7_append_35 mS_tx (fun H locs hP hS => ?_)
      refine lv_aload_n hx hb dX7_append_36 rfl (lv_at hl 0 rfl) ?_
      refine lv_dup hx hb dX7_append_37 rfl ?_
      refine mgO5 hx hb hts hiX7 hown hK hP (hts (.fieldLink RX7 81 "BarrelProcessorModel" "length" "I") (by decide +kernel)) dX7_append_38 ?_
      refine z_val (z := X 0 1) rfl ?_
      refine z_val (z := nI (zc (X 0 1))) hL.2 ?_
      refine lv_iconst (v := nI 1) hx hb dX7_append_41 (by decide) ?_
      refine lv_iadd hx hb dX7_append_42 ?_
      refine z_val (z := nI (zc (X 0 1) + 1)) (nI_add _ _) ?_
      refine mpO5 hx hb hts hiX7 hown hK hP hJ hS (hts (.fieldLink RX7 81 "BarrelProcessorModel" "length" "I") (by decide +kernel)) dX7_append_43 (fun H locs hP hS => ?_)
      refine lv_aload_n hx hb dX7_append_46 rfl (lv_at hl 0 rfl) ?_
      refine mgO5 hx hb hts hiX7 hown hK hP (hts (.fieldLink RX7 81 "BarrelProcessorModel" "length" "I") (by decide +kernel)) dX7_append_47 ?_
      refine z_val (z := (nI (zc (X 0 1) + 1))) rfl ?_
      exact m_reti hx hb hr hlk rfl hP hS dX7_append_50 (by simp only [g_X7_append, if_neg c8_1, if_neg c20_2]) (m_eq rfl rfl rfl (by simp only [hX_X7_append, if_neg c8_1, if_neg c20_2]))
    · refine lv_ldc (v := (-100004)) hx hb hown (hts (.constant RX7 84 (-100004)) (by decide +kernel)) dX7_append_23 ?_
      exact m_reti hx hb hr hlk rfl hP hS dX7_append_25 (by simp only [g_X7_append, if_neg c8_1, if_pos c20_2]) (m_eq rfl rfl rfl (by simp only [hX_X7_append, if_neg c8_1, if_pos c20_2]))
  · refine lv_ldc (v := (-100002)) hx hb hown (hts (.constant RX7 109 (-100002)) (by decide +kernel)) dX7_append_11 ?_
    exact m_reti hx hb hr hlk rfl hP hS dX7_append_13 (by simp only [g_X7_append, if_pos c8_1]) (m_eq rfl rfl rfl (by simp only [hX_X7_append, if_pos c8_1]))

def g_X7_clearText  (X : zM) : Int32 := X 0 1
def hX_X7_clearText  (X : zM) : zM := zu X 0 1 (nI 0)
set_option maxHeartbeats 4000000 in
set_option maxRecDepth 100000 in
theorem ct_X7_clearText (l : Launch) (D : va_G) (a : Nat → Nat) (cI : ClassId) (hJ : mJ a) (N A P X : zM)  : mCi l yX7_clearText wsX7_clearText ({ frames := 0, cells := 0, slots := 0, locals := 0 } : Room) D a cI [.ref (a 0)] (N, A, P, X) (g_X7_clearText X) (N, A, P, hX_X7_clearText X) := by
  have hiX7 : ∀ w ∈ wsX70, w ∈ wsX7_clearText := by decide +kernel
  refine m_ofi (cc := cX7_clearText) (maxL := 2) (own := RX7) (by decide) rfl (Nat.le_of_ble_eq_true rfl) rfl (fun p e s m below meth c ls hx hb hr hml hts hown hlk hl hK hP hS => ?_)
  have hl : lv_has ls 2 [(0, .ref (a 0))] := hl
  refine lv_aload_n hx hb dX7_clearText_0 rfl (lv_at hl 0 rfl) ?_
  refine mgO5 hx hb hts hiX7 hown hK hP (hts (.fieldLink RX7 81 "BarrelProcessorModel" "length" "I") (by decide +kernel)) dX7_clearText_1 ?_
  refine lv_istore_n (lv' := [(1, .int (X 0 1)), (0, .ref (a 0))]) hx hb dX7_clearText_4 rfl hl (by decide) rfl (fun ls hl => ?_)
  refine lv_aload_n hx hb dX7_clearText_5 rfl (lv_at hl 1 rfl) ?_
  refine lv_iconst (v := nI 0) hx hb dX7_clearText_6 (by decide) ?_
  refine mpO5 hx hb hts hiX7 hown hK hP hJ hS (hts (.fieldLink RX7 81 "BarrelProcessorModel" "length" "I") (by decide +kernel)) dX7_clearText_7 (fun H locs hP hS => ?_)
  refine lv_iload_n hx hb dX7_clearText_10 rfl (lv_at hl 0 rfl) ?_
  exact m_reti hx hb hr hlk rfl hP hS dX7_clearText_11 (by first | rfl | simp only [g_X7_clearText]) (m_eq rfl rfl rfl (by first | rfl | simp only [hX_X7_clearText]))

/-- what the text's numbers keep: its length, the spot (below S), whether it is wrong -/
def tOK (S : Nat) (X : zM) : Prop := zIn (X 0 1) 101 ∧ (zIn (X 0 2) S ∧ S ≤ 1000000) ∧ (X 0 3 = nI 0 ∨ X 0 3 = nI 1)
theorem tOK_23 {S S' : Nat} {X : zM} {w : Int32} {n : Nat} (h : tOK S X) (hn : n < S') (hS : S' ≤ 1000000) (hw : w = nI 0 ∨ w = nI 1) : tOK S' (zu (zu X 0 3 w) 0 2 (nI n)) := by
  refine ⟨?_, ⟨?_, hS⟩, ?_⟩
  · rw [zu_i _ _ _ (by decide), zu_i _ _ _ (by decide)]
    exact h.1
  · rw [zu_s]
    exact zIn_nI hn (by omega)
  · rw [zu_i _ _ _ (by decide), zu_s]
    exact hw
theorem tOK_2 {S S' : Nat} {X : zM} {n : Nat} (h : tOK S X) (hn : n < S') (hS : S' ≤ 1000000) : tOK S' (zu X 0 2 (nI n)) := by
  refine ⟨?_, ⟨?_, hS⟩, ?_⟩
  · rw [zu_i _ _ _ (by decide)]
    exact h.1
  · rw [zu_s]
    exact zIn_nI hn (by omega)
  · rw [zu_i _ _ _ (by decide)]
    exact h.2.2
theorem tOK_3 {S : Nat} {X : zM} {w : Int32} (h : tOK S X) (hw : w = nI 0 ∨ w = nI 1) : tOK S (zu X 0 3 w) := by
  refine ⟨?_, ?_, ?_⟩
  · rw [zu_i _ _ _ (by decide)]
    exact h.1
  · rw [zu_i _ _ _ (by decide)]
    exact h.2.1
  · rw [zu_s]
    exact hw
theorem tOK_i {S : Nat} {X : zM} {i : Nat} {w : Int32} (h : tOK S X) (hi : 3 < i) : tOK S (zu X 0 i w) := by
  refine ⟨?_, ?_, ?_⟩
  · rw [zu_i _ _ _ (by omega)]
    exact h.1
  · rw [zu_i _ _ _ (by omega)]
    exact h.2.1
  · rw [zu_i _ _ _ (by omega)]
    exact h.2.2
theorem tOK_up {S S' : Nat} {X : zM} (h : tOK S X) (hS : S ≤ S') (h2 : S' ≤ 1000000) : tOK S' X := ⟨h.1, ⟨zIn_up h.2.1.1 hS, h2⟩, h.2.2⟩

def g_X7_next  (X : zM) : Int32 := if (nI (zc (X 0 1))) ≤ (nI (zc (X 0 2))) then nI 0 else X 1 (zc (X 0 2))
set_option maxHeartbeats 4000000 in
set_option maxRecDepth 100000 in
theorem ct_X7_next (l : Launch) (D : va_G) (a : Nat → Nat) (cI : ClassId) (hJ : mJ a) (N A P X : zM) (S : Nat) (hT : tOK S X) : mCi l yX7_next wsX7_next ({ frames := 0, cells := 0, slots := 0, locals := 0 } : Room) D a cI [.ref (a 0)] (N, A, P, X) (g_X7_next X) (N, A, P, X) := by
  have hiX7 : ∀ w ∈ wsX70, w ∈ wsX7_next := by decide +kernel
  refine m_ofi (cc := cX7_next) (maxL := 1) (own := RX7) (by decide) rfl (Nat.le_of_ble_eq_true rfl) rfl (fun p e s m below meth c ls hx hb hr hml hts hown hlk hl hK hP hS => ?_)
  have hl : lv_has ls 1 [(0, .ref (a 0))] := hl
  refine lv_aload_n hx hb dX7_next_0 rfl (lv_at hl 0 rfl) ?_
  refine mgO6 hx hb hts hiX7 hown hK hP (hts (.fieldLink RX7 88 "BarrelProcessorModel" "spot" "I") (by decide +kernel)) dX7_next_1 ?_
  refine z_val (z := nI (zc (X 0 2))) hT.2.1.1.2 ?_
  refine lv_aload_n hx hb dX7_next_4 rfl (lv_at hl 0 rfl) ?_
  refine mgO5 hx hb hts hiX7 hown hK hP (hts (.fieldLink RX7 81 "BarrelProcessorModel" "length" "I") (by decide +kernel)) dX7_next_5 ?_
  refine z_val (z := nI (zc (X 0 1))) hT.1.2 ?_
  refine lv_icmp_ge (tgt := 23) hx hb dX7_next_8 (by decide) (fun c8_1 => ?_) (fun c8_1 => ?_)
  · refine lv_iconst (v := nI 0) hx hb dX7_next_23 (by decide) ?_
    exact m_reti hx hb hr hlk rfl hP hS dX7_next_24 (by simp only [g_X7_next, if_pos c8_1]) rfl
  · have b1 : zc (X 0 2) < zc (X 0 1) := Nat.lt_of_not_le (fun q => c8_1 (nI_le q (by have h9 := hT.2.1.1.1; have h8 := hT.2.1.2; omega)))
    have b2 := hT.1.1
    refine lv_aload_n hx hb dX7_next_11 rfl (lv_at hl 0 rfl) ?_
    refine mgO4 hx hb hts hiX7 hown hK hP (hts (.fieldLink RX7 19 "BarrelProcessorModel" "text" "[I") (by decide +kernel)) dX7_next_12 ?_
    refine lv_aload_n hx hb dX7_next_15 rfl (lv_at hl 0 rfl) ?_
    refine mgO6 hx hb hts hiX7 hown hK hP (hts (.fieldLink RX7 88 "BarrelProcessorModel" "spot" "I") (by decide +kernel)) dX7_next_16 ?_
    refine z_val (z := nI (zc (X 0 2))) hT.2.1.1.2 ?_
    refine m_iald hx hb hK hP mG_tx (j := zc (X 0 2)) (by omega) (by decide) dX7_next_19 ?_
    refine lv_goto (tgt := 24) hx hb dX7_next_20 (by decide) ?_
    exact m_reti hx hb hr hlk rfl hP hS dX7_next_24 (by simp only [g_X7_next, if_neg c8_1]) rfl

def hX_X7_sign (ch : Int32) (X : zM) : zM := if (X 0 3) = 0 then if (g_X7_next X) = ch then zu (zu X 0 3 (nI 0)) 0 2 (nI (zc (X 0 2) + 1)) else zu (zu X 0 3 (nI 1)) 0 2 (nI (zc (X 0 2))) else zu (zu X 0 3 (nI 1)) 0 2 (nI (zc (X 0 2)))
set_option maxHeartbeats 4000000 in
set_option maxRecDepth 100000 in
theorem ct_X7_sign (l : Launch) (D : va_G) (a : Nat → Nat) (cI : ClassId) (hJ : mJ a) (N A P X : zM) (ch : Int32) (S : Nat) (hT : tOK S X) : mCv l yX7_sign wsX7_sign ({ frames := 1, cells := 0, slots := 0, locals := 20 } : Room) D a cI [.ref (a 0), .int ch] (N, A, P, X) (N, A, P, hX_X7_sign ch X) := by
  have hiX7 : ∀ w ∈ wsX70, w ∈ wsX7_sign := by decide +kernel
  refine m_ofv (cc := cX7_sign) (maxL := 2) (own := RX7) (by decide) rfl (Nat.le_of_ble_eq_true rfl) rfl (fun p e s m below meth c ls hx hb hr hml hts hown hlk hl hK hP hS => ?_)
  have hl : lv_has ls 2 [(0, .ref (a 0)), (1, .int ch)] := hl
  refine lv_aload_n hx hb dX7_sign_0 rfl (lv_at hl 0 rfl) ?_
  refine lv_aload_n hx hb dX7_sign_1 rfl (lv_at hl 0 rfl) ?_
  refine mgO7 hx hb hts hiX7 hown hK hP (hts (.fieldLink RX7 125 "BarrelProcessorModel" "isWrong" "Z") (by decide +kernel)) dX7_sign_2 ?_
  refine lv_if_ne (tgt := 16) hx hb dX7_sign_5 (by decide) (fun c5_1 => ?_) (fun c5_1 => ?_)
  · refine lv_iconst (v := nI 1) hx hb dX7_sign_16 (by decide) ?_
    refine lv_goto (tgt := 21) hx hb dX7_sign_17 (by decide) ?_
    refine mpO7 hx hb hts hiX7 hown hK hP hJ hS (by first | exact Or.inl rfl | exact Or.inr rfl | exact hw) (hts (.fieldLink RX7 125 "BarrelProcessorModel" "isWrong" "Z") (by decide +kernel)) dX7_sign_21 (fun H locs hP hS => ?_)
    refine lv_aload_n hx hb dX7_sign_24 rfl (lv_at hl 0 rfl) ?_
    refine lv_dup hx hb dX7_sign_25 rfl ?_
    refine mgO6 hx hb hts hiX7 hown hK hP (hts (.fieldLink RX7 88 "BarrelProcessorModel" "spot" "I") (by decide +kernel)) dX7_sign_26 ?_
    refine z_val (z := X 0 2) rfl ?_
    refine z_val (z := nI (zc (X 0 2))) hT.2.1.1.2 ?_
    refine lv_aload_n hx hb dX7_sign_29 rfl (lv_at hl 0 rfl) ?_
    refine mgO7 hx hb hts hiX7 hown hK hP (hts (.fieldLink RX7 125 "BarrelProcessorModel" "isWrong" "Z") (by decide +kernel)) dX7_sign_30 ?_
    refine z_val (z := (nI 1)) rfl ?_
    refine lv_if_eq (tgt := 40) hx hb dX7_sign_33 (by decide) (fun c33_2 => absurd c33_2 (by decide)) (fun c33_2 => ?_)
    refine lv_iconst (v := nI 0) hx hb dX7_sign_36 (by decide) ?_
    refine lv_goto (tgt := 41) hx hb dX7_sign_37 (by decide) ?_
    refine lv_iadd hx hb dX7_sign_41 ?_
    refine z_val (z := nI (zc (X 0 2))) (nI_add _ _) ?_
    refine mpO6 hx hb hts hiX7 hown hK hP hJ hS (hts (.fieldLink RX7 88 "BarrelProcessorModel" "spot" "I") (by decide +kernel)) dX7_sign_42 (fun H locs hP hS => ?_)
    exact m_retv hx hb hr hlk hP hS dX7_sign_45 (m_eq rfl rfl rfl (by simp only [hX_X7_sign, if_neg c5_1]))
  · refine lv_aload_n hx hb dX7_sign_8 rfl (lv_at hl 0 rfl) ?_
    refine m_cVi (As := []) (rest := [.ref (a 0)]) ⟨hx, hb, hml, hown, hts⟩ (ct_X7_next l D a cI hJ N A P X _ hT) (cwV 0 hts gX7_sign_X7_next rfl rfl rfl (by decide +kernel) ⟨Nat.le_of_ble_eq_true rfl, Nat.le_of_ble_eq_true rfl⟩) hK hP hS (va_recv (ci := 7) hK hP rfl mG_O) rfl hl.1 rfl (Nat.le_of_ble_eq_true rfl) dX7_sign_9 ⟨Nat.zero_le _, Nat.zero_le _⟩ (fun H locs hP hS => ?_)
    refine lv_iload_n hx hb dX7_sign_12 rfl (lv_at hl 1 rfl) ?_
    refine lv_icmp_eq (tgt := 20) hx hb dX7_sign_13 (by decide) (fun c13_3 => ?_) (fun c13_3 => ?_)
    · refine lv_iconst (v := nI 0) hx hb dX7_sign_20 (by decide) ?_
      refine mpO7 hx hb hts hiX7 hown hK hP hJ hS (by first | exact Or.inl rfl | exact Or.inr rfl | exact hw) (hts (.fieldLink RX7 125 "BarrelProcessorModel" "isWrong" "Z") (by decide +kernel)) dX7_sign_21 (fun H locs hP hS => ?_)
      refine lv_aload_n hx hb dX7_sign_24 rfl (lv_at hl 0 rfl) ?_
      refine lv_dup hx hb dX7_sign_25 rfl ?_
      refine mgO6 hx hb hts hiX7 hown hK hP (hts (.fieldLink RX7 88 "BarrelProcessorModel" "spot" "I") (by decide +kernel)) dX7_sign_26 ?_
      refine z_val (z := X 0 2) rfl ?_
      refine z_val (z := nI (zc (X 0 2))) hT.2.1.1.2 ?_
      refine lv_aload_n hx hb dX7_sign_29 rfl (lv_at hl 0 rfl) ?_
      refine mgO7 hx hb hts hiX7 hown hK hP (hts (.fieldLink RX7 125 "BarrelProcessorModel" "isWrong" "Z") (by decide +kernel)) dX7_sign_30 ?_
      refine z_val (z := (nI 0)) rfl ?_
      refine lv_if_eq (tgt := 40) hx hb dX7_sign_33 (by decide) (fun c33_4 => ?_) (fun c33_4 => absurd (by decide) c33_4)
      refine lv_iconst (v := nI 1) hx hb dX7_sign_40 (by decide) ?_
      refine lv_iadd hx hb dX7_sign_41 ?_
      refine z_val (z := nI (zc (X 0 2) + 1)) (nI_add _ _) ?_
      refine mpO6 hx hb hts hiX7 hown hK hP hJ hS (hts (.fieldLink RX7 88 "BarrelProcessorModel" "spot" "I") (by decide +kernel)) dX7_sign_42 (fun H locs hP hS => ?_)
      exact m_retv hx hb hr hlk hP hS dX7_sign_45 (m_eq rfl rfl rfl (by simp only [hX_X7_sign, if_pos c5_1, if_pos c13_3]))
    · refine lv_iconst (v := nI 1) hx hb dX7_sign_16 (by decide) ?_
      refine lv_goto (tgt := 21) hx hb dX7_sign_17 (by decide) ?_
      refine mpO7 hx hb hts hiX7 hown hK hP hJ hS (by first | exact Or.inl rfl | exact Or.inr rfl | exact hw) (hts (.fieldLink RX7 125 "BarrelProcessorModel" "isWrong" "Z") (by decide +kernel)) dX7_sign_21 (fun H locs hP hS => ?_)
      refine lv_aload_n hx hb dX7_sign_24 rfl (lv_at hl 0 rfl) ?_
      refine lv_dup hx hb dX7_sign_25 rfl ?_
      refine mgO6 hx hb hts hiX7 hown hK hP (hts (.fieldLink RX7 88 "BarrelProcessorModel" "spot" "I") (by decide +kernel)) dX7_sign_26 ?_
      refine z_val (z := X 0 2) rfl ?_
      refine z_val (z := nI (zc (X 0 2))) hT.2.1.1.2 ?_
      refine lv_aload_n hx hb dX7_sign_29 rfl (lv_at hl 0 rfl) ?_
      refine mgO7 hx hb hts hiX7 hown hK hP (hts (.fieldLink RX7 125 "BarrelProcessorModel" "isWrong" "Z") (by decide +kernel)) dX7_sign_30 ?_
      refine z_val (z := (nI 1)) rfl ?_
      refine lv_if_eq (tgt := 40) hx hb dX7_sign_33 (by decide) (fun c33_5 => absurd c33_5 (by decide)) (fun c33_5 => ?_)
      refine lv_iconst (v := nI 0) hx hb dX7_sign_36 (by decide) ?_
      refine lv_goto (tgt := 41) hx hb dX7_sign_37 (by decide) ?_
      refine lv_iadd hx hb dX7_sign_41 ?_
      refine z_val (z := nI (zc (X 0 2))) (nI_add _ _) ?_
      refine mpO6 hx hb hts hiX7 hown hK hP hJ hS (hts (.fieldLink RX7 88 "BarrelProcessorModel" "spot" "I") (by decide +kernel)) dX7_sign_42 (fun H locs hP hS => ?_)
      exact m_retv hx hb hr hlk hP hS dX7_sign_45 (m_eq rfl rfl rfl (by simp only [hX_X7_sign, if_pos c5_1, if_neg c13_3]))

def g_X7_digit (low : Int32) (high : Int32) (X : zM) : Int32 := if (X 0 3) = 0 then if (g_X7_in ((g_X7_next X) - (nI 48)) low high) = 0 then (g_X7_next X) - (nI 48) else (g_X7_next X) - (nI 48) else (g_X7_next X) - (nI 48)
def hX_X7_digit (low : Int32) (high : Int32) (X : zM) : zM := if (X 0 3) = 0 then if (g_X7_in ((g_X7_next X) - (nI 48)) low high) = 0 then zu (zu X 0 3 (nI 1)) 0 2 (nI (zc (X 0 2))) else zu (zu X 0 3 (nI 0)) 0 2 (nI (zc (X 0 2) + 1)) else zu (zu X 0 3 (nI 1)) 0 2 (nI (zc (X 0 2)))
set_option maxHeartbeats 4000000 in
set_option maxRecDepth 100000 in
theorem ct_X7_digit (l : Launch) (D : va_G) (a : Nat → Nat) (cI : ClassId) (hJ : mJ a) (N A P X : zM) (low : Int32) (high : Int32) (S : Nat) (hT : tOK S X) : mCi l yX7_digit wsX7_digit ({ frames := 1, cells := 0, slots := 0, locals := 22 } : Room) D a cI [.ref (a 0), .int low, .int high] (N, A, P, X) (g_X7_digit low high X) (N, A, P, hX_X7_digit low high X) := by
  have hiX7 : ∀ w ∈ wsX70, w ∈ wsX7_digit := by decide +kernel
  refine m_ofi (cc := cX7_digit) (maxL := 4) (own := RX7) (by decide) rfl (Nat.le_of_ble_eq_true rfl) rfl (fun p e s m below meth c ls hx hb hr hml hts hown hlk hl hK hP hS => ?_)
  have hl : lv_has ls 4 [(0, .ref (a 0)), (1, .int low), (2, .int high)] := hl
  refine lv_aload_n hx hb dX7_digit_0 rfl (lv_at hl 0 rfl) ?_
  refine m_cVi (As := []) (rest := []) ⟨hx, hb, hml, hown, hts⟩ (ct_X7_next l D a cI hJ N A P X _ hT) (cwV 0 hts gX7_digit_X7_next rfl rfl rfl (by decide +kernel) ⟨Nat.le_of_ble_eq_true rfl, Nat.le_of_ble_eq_true rfl⟩) hK hP hS (va_recv (ci := 7) hK hP rfl mG_O) rfl hl.1 rfl (Nat.le_of_ble_eq_true rfl) dX7_digit_1 ⟨Nat.zero_le _, Nat.zero_le _⟩ (fun H locs hP hS => ?_)
  refine lv_bipush (v := nI 48) hx hb dX7_digit_4 (by decide) ?_
  refine lv_isub hx hb dX7_digit_6 ?_
  refine lv_istore_n (lv' := [(3, .int ((g_X7_next X) - (nI 48))), (0, .ref (a 0)), (1, .int low), (2, .int high)]) hx hb dX7_digit_7 rfl hl (by decide) rfl (fun ls hl => ?_)
  refine lv_aload_n hx hb dX7_digit_8 rfl (lv_at hl 1 rfl) ?_
  refine lv_aload_n hx hb dX7_digit_9 rfl (lv_at hl 1 rfl) ?_
  refine mgO7 hx hb hts hiX7 hown hK hP (hts (.fieldLink RX7 125 "BarrelProcessorModel" "isWrong" "Z") (by decide +kernel)) dX7_digit_10 ?_
  refine lv_if_ne (tgt := 25) hx hb dX7_digit_13 (by decide) (fun c13_1 => ?_) (fun c13_1 => ?_)
  · refine lv_iconst (v := nI 1) hx hb dX7_digit_25 (by decide) ?_
    refine lv_goto (tgt := 30) hx hb dX7_digit_26 (by decide) ?_
    refine mpO7 hx hb hts hiX7 hown hK hP hJ hS (by first | exact Or.inl rfl | exact Or.inr rfl | exact hw) (hts (.fieldLink RX7 125 "BarrelProcessorModel" "isWrong" "Z") (by decide +kernel)) dX7_digit_30 (fun H locs hP hS => ?_)
    refine lv_aload_n hx hb dX7_digit_33 rfl (lv_at hl 1 rfl) ?_
    refine lv_dup hx hb dX7_digit_34 rfl ?_
    refine mgO6 hx hb hts hiX7 hown hK hP (hts (.fieldLink RX7 88 "BarrelProcessorModel" "spot" "I") (by decide +kernel)) dX7_digit_35 ?_
    refine z_val (z := X 0 2) rfl ?_
    refine z_val (z := nI (zc (X 0 2))) hT.2.1.1.2 ?_
    refine lv_aload_n hx hb dX7_digit_38 rfl (lv_at hl 1 rfl) ?_
    refine mgO7 hx hb hts hiX7 hown hK hP (hts (.fieldLink RX7 125 "BarrelProcessorModel" "isWrong" "Z") (by decide +kernel)) dX7_digit_39 ?_
    refine z_val (z := (nI 1)) rfl ?_
    refine lv_if_eq (tgt := 49) hx hb dX7_digit_42 (by decide) (fun c42_2 => absurd c42_2 (by decide)) (fun c42_2 => ?_)
    refine lv_iconst (v := nI 0) hx hb dX7_digit_45 (by decide) ?_
    refine lv_goto (tgt := 50) hx hb dX7_digit_46 (by decide) ?_
    refine lv_iadd hx hb dX7_digit_50 ?_
    refine z_val (z := nI (zc (X 0 2))) (nI_add _ _) ?_
    refine mpO6 hx hb hts hiX7 hown hK hP hJ hS (hts (.fieldLink RX7 88 "BarrelProcessorModel" "spot" "I") (by decide +kernel)) dX7_digit_51 (fun H locs hP hS => ?_)
    refine lv_iload_n hx hb dX7_digit_54 rfl (lv_at hl 0 rfl) ?_
    exact m_reti hx hb hr hlk rfl hP hS dX7_digit_55 (by simp only [g_X7_digit, if_neg c13_1]) (m_eq rfl rfl rfl (by simp only [hX_X7_digit, if_neg c13_1]))
  · refine lv_iload_n hx hb dX7_digit_16 rfl (lv_at hl 0 rfl) ?_
    refine lv_iload_n hx hb dX7_digit_17 rfl (lv_at hl 2 rfl) ?_
    refine lv_iload_n hx hb dX7_digit_18 rfl (lv_at hl 3 rfl) ?_
    refine m_cSi (As := [.int ((g_X7_next X) - (nI 48)), .int low, .int high]) (rest := [.ref (a 0)]) ⟨hx, hb, hml, hown, hts⟩ (ct_X7_in l D a cI hJ N A P X ((g_X7_next X) - (nI 48)) low high) (va_cwS 3 hts gX7_digit_X7_in rfl rfl rfl (by decide +kernel) ⟨Nat.le_of_ble_eq_true rfl, Nat.le_of_ble_eq_true rfl⟩) hK hP hS rfl hl.1 rfl (Nat.le_of_ble_eq_true rfl) dX7_digit_19 ⟨Nat.zero_le _, Nat.zero_le _⟩ (fun H locs hP hS => ?_)
    refine lv_if_ne (tgt := 29) hx hb dX7_digit_22 (by decide) (fun c22_3 => ?_) (fun c22_3 => ?_)
    · refine lv_iconst (v := nI 0) hx hb dX7_digit_29 (by decide) ?_
      refine mpO7 hx hb hts hiX7 hown hK hP hJ hS (by first | exact Or.inl rfl | exact Or.inr rfl | exact hw) (hts (.fieldLink RX7 125 "BarrelProcessorModel" "isWrong" "Z") (by decide +kernel)) dX7_digit_30 (fun H locs hP hS => ?_)
      refine lv_aload_n hx hb dX7_digit_33 rfl (lv_at hl 1 rfl) ?_
      refine lv_dup hx hb dX7_digit_34 rfl ?_
      refine mgO6 hx hb hts hiX7 hown hK hP (hts (.fieldLink RX7 88 "BarrelProcessorModel" "spot" "I") (by decide +kernel)) dX7_digit_35 ?_
      refine z_val (z := X 0 2) rfl ?_
      refine z_val (z := nI (zc (X 0 2))) hT.2.1.1.2 ?_
      refine lv_aload_n hx hb dX7_digit_38 rfl (lv_at hl 1 rfl) ?_
      refine mgO7 hx hb hts hiX7 hown hK hP (hts (.fieldLink RX7 125 "BarrelProcessorModel" "isWrong" "Z") (by decide +kernel)) dX7_digit_39 ?_
      refine z_val (z := (nI 0)) rfl ?_
      refine lv_if_eq (tgt := 49) hx hb dX7_digit_42 (by decide) (fun c42_4 => ?_) (fun c42_4 => absurd (by decide) c42_4)
      refine lv_iconst (v := nI 1) hx hb dX7_digit_49 (by decide) ?_
      refine lv_iadd hx hb dX7_digit_50 ?_
      refine z_val (z := nI (zc (X 0 2) + 1)) (nI_add _ _) ?_
      refine mpO6 hx hb hts hiX7 hown hK hP hJ hS (hts (.fieldLink RX7 88 "BarrelProcessorModel" "spot" "I") (by decide +kernel)) dX7_digit_51 (fun H locs hP hS => ?_)
      refine lv_iload_n hx hb dX7_digit_54 rfl (lv_at hl 0 rfl) ?_
      exact m_reti hx hb hr hlk rfl hP hS dX7_digit_55 (by simp only [g_X7_digit, if_pos c13_1, if_neg c22_3]) (m_eq rfl rfl rfl (by simp only [hX_X7_digit, if_pos c13_1, if_neg c22_3]))
    · refine lv_iconst (v := nI 1) hx hb dX7_digit_25 (by decide) ?_
      refine lv_goto (tgt := 30) hx hb dX7_digit_26 (by decide) ?_
      refine mpO7 hx hb hts hiX7 hown hK hP hJ hS (by first | exact Or.inl rfl | exact Or.inr rfl | exact hw) (hts (.fieldLink RX7 125 "BarrelProcessorModel" "isWrong" "Z") (by decide +kernel)) dX7_digit_30 (fun H locs hP hS => ?_)
      refine lv_aload_n hx hb dX7_digit_33 rfl (lv_at hl 1 rfl) ?_
      refine lv_dup hx hb dX7_digit_34 rfl ?_
      refine mgO6 hx hb hts hiX7 hown hK hP (hts (.fieldLink RX7 88 "BarrelProcessorModel" "spot" "I") (by decide +kernel)) dX7_digit_35 ?_
      refine z_val (z := X 0 2) rfl ?_
      refine z_val (z := nI (zc (X 0 2))) hT.2.1.1.2 ?_
      refine lv_aload_n hx hb dX7_digit_38 rfl (lv_at hl 1 rfl) ?_
      refine mgO7 hx hb hts hiX7 hown hK hP (hts (.fieldLink RX7 125 "BarrelProcessorModel" "isWrong" "Z") (by decide +kernel)) dX7_digit_39 ?_
      refine z_val (z := (nI 1)) rfl ?_
      refine lv_if_eq (tgt := 49) hx hb dX7_digit_42 (by decide) (fun c42_5 => absurd c42_5 (by decide)) (fun c42_5 => ?_)
      refine lv_iconst (v := nI 0) hx hb dX7_digit_45 (by decide) ?_
      refine lv_goto (tgt := 50) hx hb dX7_digit_46 (by decide) ?_
      refine lv_iadd hx hb dX7_digit_50 ?_
      refine z_val (z := nI (zc (X 0 2))) (nI_add _ _) ?_
      refine mpO6 hx hb hts hiX7 hown hK hP hJ hS (hts (.fieldLink RX7 88 "BarrelProcessorModel" "spot" "I") (by decide +kernel)) dX7_digit_51 (fun H locs hP hS => ?_)
      refine lv_iload_n hx hb dX7_digit_54 rfl (lv_at hl 0 rfl) ?_
      exact m_reti hx hb hr hlk rfl hP hS dX7_digit_55 (by simp only [g_X7_digit, if_pos c13_1, if_pos c22_3]) (m_eq rfl rfl rfl (by simp only [hX_X7_digit, if_pos c13_1, if_pos c22_3]))

theorem tOK_sign {S : Nat} {X : zM} {ch : Int32} (h : tOK S X) (hS : S + 1 ≤ 1000000) : tOK (S + 1) (hX_X7_sign ch X) := by
  have h1 := h.2.1.1.1
  unfold hX_X7_sign
  repeat' split
  all_goals exact tOK_23 h (by omega) hS (by first | exact Or.inl rfl | exact Or.inr rfl)
theorem tOK_digit {S : Nat} {X : zM} {a b : Int32} (h : tOK S X) (hS : S + 1 ≤ 1000000) : tOK (S + 1) (hX_X7_digit a b X) := by
  have h1 := h.2.1.1.1
  unfold hX_X7_digit
  repeat' split
  all_goals exact tOK_23 h (by omega) hS (by first | exact Or.inl rfl | exact Or.inr rfl)

def g_X7_upTo (low : Int32) (most : Int32) (X : zM) : Int32 := if ((hX_X7_digit low (nI 9) X) 0 3) = 0 then if (g_X7_digit low (nI 9) X) ≤ 0 then (g_X7_digit low (nI 9) X) else if (g_X7_in (g_X7_next (hX_X7_digit low (nI 9) X)) (nI 48) (nI 57)) = 0 then (g_X7_digit low (nI 9) X) else if most < ((((nI 10) * (g_X7_digit low (nI 9) X)) + (g_X7_next (hX_X7_digit low (nI 9) X))) - (nI 48)) then (g_X7_digit low (nI 9) X) else (((nI 10) * (g_X7_digit low (nI 9) X)) + (g_X7_next (hX_X7_digit low (nI 9) X))) - (nI 48) else (g_X7_digit low (nI 9) X)
def hX_X7_upTo (low : Int32) (most : Int32) (X : zM) : zM := if ((hX_X7_digit low (nI 9) X) 0 3) = 0 then if (g_X7_digit low (nI 9) X) ≤ 0 then hX_X7_digit low (nI 9) X else if (g_X7_in (g_X7_next (hX_X7_digit low (nI 9) X)) (nI 48) (nI 57)) = 0 then hX_X7_digit low (nI 9) X else if most < ((((nI 10) * (g_X7_digit low (nI 9) X)) + (g_X7_next (hX_X7_digit low (nI 9) X))) - (nI 48)) then hX_X7_digit low (nI 9) X else zu (hX_X7_digit low (nI 9) X) 0 2 (nI (zc ((hX_X7_digit low (nI 9) X) 0 2) + 1)) else hX_X7_digit low (nI 9) X
set_option maxHeartbeats 4000000 in
set_option maxRecDepth 100000 in
theorem ct_X7_upTo (l : Launch) (D : va_G) (a : Nat → Nat) (cI : ClassId) (hJ : mJ a) (N A P X : zM) (low : Int32) (most : Int32) (S : Nat) (hT : tOK S X) (hS : S + 2 ≤ 1000000) : mCi l yX7_upTo wsX7_upTo ({ frames := 2, cells := 0, slots := 0, locals := 45 } : Room) D a cI [.ref (a 0), .int low, .int most] (N, A, P, X) (g_X7_upTo low most X) (N, A, P, hX_X7_upTo low most X) := by
  have hiX7 : ∀ w ∈ wsX70, w ∈ wsX7_upTo := by decide +kernel
  refine m_ofi (cc := cX7_upTo) (maxL := 5) (own := RX7) (by decide) rfl (Nat.le_of_ble_eq_true rfl) rfl (fun p e s m below meth c ls hx hb hr hml hts hown hlk hl hK hP hS => ?_)
  have hl : lv_has ls 5 [(0, .ref (a 0)), (1, .int low), (2, .int most)] := hl
  have hD := tOK_digit (a := low) (b := nI 9) hT (by omega)
  refine lv_aload_n hx hb dX7_upTo_0 rfl (lv_at hl 0 rfl) ?_
  refine lv_iload_n hx hb dX7_upTo_1 rfl (lv_at hl 1 rfl) ?_
  refine lv_bipush (v := nI 9) hx hb dX7_upTo_2 (by decide) ?_
  refine m_cVi (As := [.int low, .int (nI 9)]) (rest := []) ⟨hx, hb, hml, hown, hts⟩ (ct_X7_digit l D a cI hJ N A P X low (nI 9) _ hT) (cwV 2 hts gX7_upTo_X7_digit rfl rfl rfl (by decide +kernel) ⟨Nat.le_of_ble_eq_true rfl, Nat.le_of_ble_eq_true rfl⟩) hK hP hS (va_recv (ci := 7) hK hP rfl mG_O) rfl hl.1 rfl (Nat.le_of_ble_eq_true rfl) dX7_upTo_4 ⟨Nat.zero_le _, Nat.zero_le _⟩ (fun H locs hP hS => ?_)
  refine lv_istore_n (lv' := [(3, .int (g_X7_digit low (nI 9) X)), (0, .ref (a 0)), (1, .int low), (2, .int most)]) hx hb dX7_upTo_7 rfl hl (by decide) rfl (fun ls hl => ?_)
  refine lv_bipush (v := nI 10) hx hb dX7_upTo_8 (by decide) ?_
  refine lv_iload_n hx hb dX7_upTo_10 rfl (lv_at hl 0 rfl) ?_
  refine lv_imul hx hb dX7_upTo_11 ?_
  refine lv_aload_n hx hb dX7_upTo_12 rfl (lv_at hl 1 rfl) ?_
  refine m_cVi (As := []) (rest := [.int ((nI 10) * (g_X7_digit low (nI 9) X))]) ⟨hx, hb, hml, hown, hts⟩ (ct_X7_next l D a cI hJ N A P (hX_X7_digit low (nI 9) X) _ hD) (cwV 0 hts gX7_upTo_X7_next rfl rfl rfl (by decide +kernel) ⟨Nat.le_of_ble_eq_true rfl, Nat.le_of_ble_eq_true rfl⟩) hK hP hS (va_recv (ci := 7) hK hP rfl mG_O) rfl hl.1 rfl (Nat.le_of_ble_eq_true rfl) dX7_upTo_13 ⟨Nat.zero_le _, Nat.zero_le _⟩ (fun H locs hP hS => ?_)
  refine lv_iadd hx hb dX7_upTo_16 ?_
  refine lv_bipush (v := nI 48) hx hb dX7_upTo_17 (by decide) ?_
  refine lv_isub hx hb dX7_upTo_19 ?_
  refine lv_istore (lv' := [(4, .int ((((nI 10) * (g_X7_digit low (nI 9) X)) + (g_X7_next (hX_X7_digit low (nI 9) X))) - (nI 48))), (3, .int (g_X7_digit low (nI 9) X)), (0, .ref (a 0)), (1, .int low), (2, .int most)]) hx hb dX7_upTo_20 hl (by decide) rfl (fun ls hl => ?_)
  refine lv_aload_n hx hb dX7_upTo_22 rfl (lv_at hl 2 rfl) ?_
  refine mgO7 hx hb hts hiX7 hown hK hP (hts (.fieldLink RX7 125 "BarrelProcessorModel" "isWrong" "Z") (by decide +kernel)) dX7_upTo_23 ?_
  refine lv_if_ne (tgt := 66) hx hb dX7_upTo_26 (by decide) (fun c26_1 => ?_) (fun c26_1 => ?_)
  · refine lv_iload_n hx hb dX7_upTo_66 rfl (lv_at hl 1 rfl) ?_
    exact m_reti hx hb hr hlk rfl hP hS dX7_upTo_67 (by simp only [g_X7_upTo, if_neg c26_1]) (m_eq rfl rfl rfl (by simp only [hX_X7_upTo, if_neg c26_1]))
  · refine lv_iload_n hx hb dX7_upTo_29 rfl (lv_at hl 1 rfl) ?_
    refine lv_if_le (tgt := 66) hx hb dX7_upTo_30 (by decide) (fun c30_2 => ?_) (fun c30_2 => ?_)
    · refine lv_iload_n hx hb dX7_upTo_66 rfl (lv_at hl 1 rfl) ?_
      exact m_reti hx hb hr hlk rfl hP hS dX7_upTo_67 (by simp only [g_X7_upTo, if_pos c26_1, if_pos c30_2]) (m_eq rfl rfl rfl (by simp only [hX_X7_upTo, if_pos c26_1, if_pos c30_2]))
    · refine lv_aload_n hx hb dX7_upTo_33 rfl (lv_at hl 2 rfl) ?_
      refine m_cVi (As := []) (rest := []) ⟨hx, hb, hml, hown, hts⟩ (ct_X7_next l D a cI hJ N A P (hX_X7_digit low (nI 9) X) _ hD) (cwV 0 hts gX7_upTo_X7_next rfl rfl rfl (by decide +kernel) ⟨Nat.le_of_ble_eq_true rfl, Nat.le_of_ble_eq_true rfl⟩) hK hP hS (va_recv (ci := 7) hK hP rfl mG_O) rfl hl.1 rfl (Nat.le_of_ble_eq_true rfl) dX7_upTo_34 ⟨Nat.zero_le _, Nat.zero_le _⟩ (fun H locs hP hS => ?_)
      refine lv_bipush (v := nI 48) hx hb dX7_upTo_37 (by decide) ?_
      refine lv_bipush (v := nI 57) hx hb dX7_upTo_39 (by decide) ?_
      refine m_cSi (As := [.int (g_X7_next (hX_X7_digit low (nI 9) X)), .int (nI 48), .int (nI 57)]) (rest := []) ⟨hx, hb, hml, hown, hts⟩ (ct_X7_in l D a cI hJ N A P (hX_X7_digit low (nI 9) X) (g_X7_next (hX_X7_digit low (nI 9) X)) (nI 48) (nI 57)) (va_cwS 3 hts gX7_upTo_X7_in rfl rfl rfl (by decide +kernel) ⟨Nat.le_of_ble_eq_true rfl, Nat.le_of_ble_eq_true rfl⟩) hK hP hS rfl hl.1 rfl (Nat.le_of_ble_eq_true rfl) dX7_upTo_41 ⟨Nat.zero_le _, Nat.zero_le _⟩ (fun H locs hP hS => ?_)
      refine lv_if_eq (tgt := 66) hx hb dX7_upTo_44 (by decide) (fun c44_3 => ?_) (fun c44_3 => ?_)
      · refine lv_iload_n hx hb dX7_upTo_66 rfl (lv_at hl 1 rfl) ?_
        exact m_reti hx hb hr hlk rfl hP hS dX7_upTo_67 (by simp only [g_X7_upTo, if_pos c26_1, if_neg c30_2, if_pos c44_3]) (m_eq rfl rfl rfl (by simp only [hX_X7_upTo, if_pos c26_1, if_neg c30_2, if_pos c44_3]))
      · refine lv_iload hx hb dX7_upTo_47 (lv_at hl 0 rfl) ?_
        refine lv_iload_n hx hb dX7_upTo_49 rfl (lv_at hl 4 rfl) ?_
        refine lv_icmp_gt (tgt := 66) hx hb dX7_upTo_50 (by decide) (fun c50_4 => ?_) (fun c50_4 => ?_)
        · refine lv_iload_n hx hb dX7_upTo_66 rfl (lv_at hl 1 rfl) ?_
          exact m_reti hx hb hr hlk rfl hP hS dX7_upTo_67 (by simp only [g_X7_upTo, if_pos c26_1, if_neg c30_2, if_neg c44_3, if_pos c50_4]) (m_eq rfl rfl rfl (by simp only [hX_X7_upTo, if_pos c26_1, if_neg c30_2, if_neg c44_3, if_pos c50_4]))
        · refine lv_aload_n hx hb dX7_upTo_53 rfl (lv_at hl 2 rfl) ?_
          refine lv_dup hx hb dX7_upTo_54 rfl ?_
          refine mgO6 hx hb hts hiX7 hown hK hP (hts (.fieldLink RX7 88 "BarrelProcessorModel" "spot" "I") (by decide +kernel)) dX7_upTo_55 ?_
          refine z_val (z := nI (zc ((hX_X7_digit low (nI 9) X) 0 2))) hD.2.1.1.2 ?_
          refine lv_iconst (v := nI 1) hx hb dX7_upTo_58 (by decide) ?_
          refine lv_iadd hx hb dX7_upTo_59 ?_
          refine z_val (z := nI (zc ((hX_X7_digit low (nI 9) X) 0 2) + 1)) (nI_add _ _) ?_
          refine mpO6 hx hb hts hiX7 hown hK hP hJ hS (hts (.fieldLink RX7 88 "BarrelProcessorModel" "spot" "I") (by decide +kernel)) dX7_upTo_60 (fun H locs hP hS => ?_)
          refine lv_iload hx hb dX7_upTo_63 (lv_at hl 0 rfl) ?_
          exact m_reti hx hb hr hlk rfl hP hS dX7_upTo_65 (by simp only [g_X7_upTo, if_pos c26_1, if_neg c30_2, if_neg c44_3, if_neg c50_4]) (m_eq rfl rfl rfl (by simp only [hX_X7_upTo, if_pos c26_1, if_neg c30_2, if_neg c44_3, if_neg c50_4]))

theorem tOK_upTo {S : Nat} {X : zM} {a b : Int32} (h : tOK S X) (hS : S + 2 ≤ 1000000) : tOK (S + 2) (hX_X7_upTo a b X) := by
  have h0 : tOK (S + 1) (hX_X7_digit a (nI 9) X) := tOK_digit h (by omega)
  have h1 := h0.2.1.1.1
  have h2 : tOK (S + 2) (hX_X7_digit a (nI 9) X) := tOK_up h0 (by omega) hS
  unfold hX_X7_upTo
  repeat' split
  all_goals first | exact h2 | exact tOK_2 h2 (by omega) hS

def g_X7_number  (X : zM) : Int32 := if (X 0 3) = 0 then if (g_X7_next X) = (nI 45) then -(g_X7_upTo (nI 1) (nI 99) (zu X 0 2 (nI (zc (X 0 2) + 1)))) else (g_X7_upTo (nI 0) (nI 99) X) else (g_X7_upTo (nI 0) (nI 99) X)
def hX_X7_number  (X : zM) : zM := if (X 0 3) = 0 then if (g_X7_next X) = (nI 45) then hX_X7_upTo (nI 1) (nI 99) (zu X 0 2 (nI (zc (X 0 2) + 1))) else hX_X7_upTo (nI 0) (nI 99) X else hX_X7_upTo (nI 0) (nI 99) X
set_option maxHeartbeats 4000000 in
set_option maxRecDepth 100000 in
theorem ct_X7_number (l : Launch) (D : va_G) (a : Nat → Nat) (cI : ClassId) (hJ : mJ a) (N A P X : zM) (S : Nat) (hT : tOK S X) (hS : S + 3 ≤ 1000000) : mCi l yX7_number wsX7_number ({ frames := 3, cells := 0, slots := 0, locals := 69 } : Room) D a cI [.ref (a 0)] (N, A, P, X) (g_X7_number X) (N, A, P, hX_X7_number X) := by
  have hiX7 : ∀ w ∈ wsX70, w ∈ wsX7_number := by decide +kernel
  refine m_ofi (cc := cX7_number) (maxL := 1) (own := RX7) (by decide) rfl (Nat.le_of_ble_eq_true rfl) rfl (fun p e s m below meth c ls hx hb hr hml hts hown hlk hl hK hP hS => ?_)
  have hl : lv_has ls 1 [(0, .ref (a 0))] := hl
  refine lv_aload_n hx hb dX7_number_0 rfl (lv_at hl 0 rfl) ?_
  refine mgO7 hx hb hts hiX7 hown hK hP (hts (.fieldLink RX7 125 "BarrelProcessorModel" "isWrong" "Z") (by decide +kernel)) dX7_number_1 ?_
  refine lv_if_ne (tgt := 35) hx hb dX7_number_4 (by decide) (fun c4_1 => ?_) (fun c4_1 => ?_)
  · refine lv_aload_n hx hb dX7_number_35 rfl (lv_at hl 0 rfl) ?_
    refine lv_iconst (v := nI 0) hx hb dX7_number_36 (by decide) ?_
    refine lv_bipush (v := nI 99) hx hb dX7_number_37 (by decide) ?_
    refine m_cVi (As := [.int (nI 0), .int (nI 99)]) (rest := []) ⟨hx, hb, hml, hown, hts⟩ (ct_X7_upTo l D a cI hJ N A P X (nI 0) (nI 99) _ hT (by omega)) (cwV 2 hts gX7_number_X7_upTo rfl rfl rfl (by decide +kernel) ⟨Nat.le_of_ble_eq_true rfl, Nat.le_of_ble_eq_true rfl⟩) hK hP hS (va_recv (ci := 7) hK hP rfl mG_O) rfl hl.1 rfl (Nat.le_of_ble_eq_true rfl) dX7_number_39 ⟨Nat.zero_le _, Nat.zero_le _⟩ (fun H locs hP hS => ?_)
    exact m_reti hx hb hr hlk rfl hP hS dX7_number_42 (by simp only [g_X7_number, if_neg c4_1]) (m_eq rfl rfl rfl (by simp only [hX_X7_number, if_neg c4_1]))
  · refine lv_aload_n hx hb dX7_number_7 rfl (lv_at hl 0 rfl) ?_
    refine m_cVi (As := []) (rest := []) ⟨hx, hb, hml, hown, hts⟩ (ct_X7_next l D a cI hJ N A P X _ hT) (cwV 0 hts gX7_number_X7_next rfl rfl rfl (by decide +kernel) ⟨Nat.le_of_ble_eq_true rfl, Nat.le_of_ble_eq_true rfl⟩) hK hP hS (va_recv (ci := 7) hK hP rfl mG_O) rfl hl.1 rfl (Nat.le_of_ble_eq_true rfl) dX7_number_8 ⟨Nat.zero_le _, Nat.zero_le _⟩ (fun H locs hP hS => ?_)
    refine lv_bipush (v := nI 45) hx hb dX7_number_11 (by decide) ?_
    refine lv_icmp_ne (tgt := 35) hx hb dX7_number_13 (by decide) (fun c13_2 => ?_) (fun c13_2 => ?_)
    · refine lv_aload_n hx hb dX7_number_35 rfl (lv_at hl 0 rfl) ?_
      refine lv_iconst (v := nI 0) hx hb dX7_number_36 (by decide) ?_
      refine lv_bipush (v := nI 99) hx hb dX7_number_37 (by decide) ?_
      refine m_cVi (As := [.int (nI 0), .int (nI 99)]) (rest := []) ⟨hx, hb, hml, hown, hts⟩ (ct_X7_upTo l D a cI hJ N A P X (nI 0) (nI 99) _ hT (by omega)) (cwV 2 hts gX7_number_X7_upTo rfl rfl rfl (by decide +kernel) ⟨Nat.le_of_ble_eq_true rfl, Nat.le_of_ble_eq_true rfl⟩) hK hP hS (va_recv (ci := 7) hK hP rfl mG_O) rfl hl.1 rfl (Nat.le_of_ble_eq_true rfl) dX7_number_39 ⟨Nat.zero_le _, Nat.zero_le _⟩ (fun H locs hP hS => ?_)
      exact m_reti hx hb hr hlk rfl hP hS dX7_number_42 (by simp only [g_X7_number, if_pos c4_1, if_neg c13_2]) (m_eq rfl rfl rfl (by simp only [hX_X7_number, if_pos c4_1, if_neg c13_2]))
    · refine lv_aload_n hx hb dX7_number_16 rfl (lv_at hl 0 rfl) ?_
      refine lv_dup hx hb dX7_number_17 rfl ?_
      refine mgO6 hx hb hts hiX7 hown hK hP (hts (.fieldLink RX7 88 "BarrelProcessorModel" "spot" "I") (by decide +kernel)) dX7_number_18 ?_
      refine z_val (z := nI (zc (X 0 2))) hT.2.1.1.2 ?_
      refine lv_iconst (v := nI 1) hx hb dX7_number_21 (by decide) ?_
      refine lv_iadd hx hb dX7_number_22 ?_
      refine z_val (z := nI (zc (X 0 2) + 1)) (nI_add _ _) ?_
      refine mpO6 hx hb hts hiX7 hown hK hP hJ hS (hts (.fieldLink RX7 88 "BarrelProcessorModel" "spot" "I") (by decide +kernel)) dX7_number_23 (fun H locs hP hS => ?_)
      refine lv_aload_n hx hb dX7_number_26 rfl (lv_at hl 0 rfl) ?_
      refine lv_iconst (v := nI 1) hx hb dX7_number_27 (by decide) ?_
      refine lv_bipush (v := nI 99) hx hb dX7_number_28 (by decide) ?_
      refine m_cVi (As := [.int (nI 1), .int (nI 99)]) (rest := []) ⟨hx, hb, hml, hown, hts⟩ (ct_X7_upTo l D a cI hJ N A P (zu X 0 2 (nI (zc (X 0 2) + 1))) (nI 1) (nI 99) (S + 1) (tOK_2 hT (by have h9 := hT.2.1.1.1; omega) (by omega)) (by omega)) (cwV 2 hts gX7_number_X7_upTo rfl rfl rfl (by decide +kernel) ⟨Nat.le_of_ble_eq_true rfl, Nat.le_of_ble_eq_true rfl⟩) hK hP hS (va_recv (ci := 7) hK hP rfl mG_O) rfl hl.1 rfl (Nat.le_of_ble_eq_true rfl) dX7_number_30 ⟨Nat.zero_le _, Nat.zero_le _⟩ (fun H locs hP hS => ?_)
      refine lv_ineg hx hb dX7_number_33 ?_
      exact m_reti hx hb hr hlk rfl hP hS dX7_number_34 (by simp only [g_X7_number, if_pos c4_1, if_pos c13_2]) (m_eq rfl rfl rfl (by simp only [hX_X7_number, if_pos c4_1, if_pos c13_2]))

theorem tOK_number {S : Nat} {X : zM} (h : tOK S X) (hS : S + 3 ≤ 1000000) : tOK (S + 3) (hX_X7_number X) := by
  have h1 := h.2.1.1.1
  have h2 : tOK (S + 1) (zu X 0 2 (nI (zc (X 0 2) + 1))) := tOK_2 h (by omega) (by omega)
  unfold hX_X7_number
  repeat' split
  all_goals first | exact tOK_upTo h2 (by omega) | exact tOK_up (tOK_upTo h (by omega)) (by omega) hS

def g_X7_operationOf (ch : Int32) : Int32 := if ch = nI 97 then nI 1 else if ch = nI 98 then nI 10 else if ch = nI 99 then (-1) else if ch = nI 100 then nI 2 else if ch = nI 101 then (-1) else if ch = nI 102 then (-1) else if ch = nI 103 then (-1) else if ch = nI 104 then nI 11 else if ch = nI 105 then (-1) else if ch = nI 106 then nI 7 else if ch = nI 107 then (-1) else if ch = nI 108 then nI 4 else if ch = nI 109 then nI 3 else if ch = nI 110 then nI 9 else if ch = nI 111 then (-1) else if ch = nI 112 then (-1) else if ch = nI 113 then (-1) else if ch = nI 114 then (-1) else if ch = nI 115 then nI 0 else if ch = nI 116 then (-1) else if ch = nI 117 then (-1) else if ch = nI 118 then (-1) else if ch = nI 119 then nI 5 else if ch = nI 120 then nI 6 else if ch = nI 121 then (-1) else if ch = nI 122 then nI 8 else (-1)
set_option maxHeartbeats 4000000 in
set_option maxRecDepth 100000 in
theorem ct_X7_operationOf (l : Launch) (D : va_G) (a : Nat → Nat) (cI : ClassId) (hJ : mJ a) (N A P X : zM) (ch : Int32) : mCi l yX7_operationOf wsX7_operationOf ({ frames := 0, cells := 0, slots := 0, locals := 0 } : Room) D a cI [.int ch] (N, A, P, X) (g_X7_operationOf ch) (N, A, P, X) := by
  refine m_ofi (cc := cX7_operationOf) (maxL := 1) (own := RX7) (by decide) rfl (Nat.le_of_ble_eq_true rfl) rfl (fun p e s m below meth c ls hx hb hr hml hts hown hlk hl hK hP hS => ?_)
  have hl : lv_has ls 1 [(0, .int ch)] := hl
  refine lv_iload_n hx hb dX7_operationOf_0 rfl (lv_at hl 0 rfl) ?_
  by_cases c1_1 : ch = nI 97
  · refine lv_tableIn (tgt := 122) (off := 121) hx hb dX7_operationOf_1 (by rw [c1_1]; decide) (by rw [c1_1]; decide) (by rw [c1_1]; rfl) (by decide) ?_
    refine lv_iconst (v := nI 1) hx hb dX7_operationOf_122 (by decide) ?_
    exact m_reti hx hb hr hlk rfl hP hS dX7_operationOf_123 (by simp only [g_X7_operationOf, if_pos c1_1]) rfl
  · by_cases c1_2 : ch = nI 98
    · refine lv_tableIn (tgt := 144) (off := 143) hx hb dX7_operationOf_1 (by rw [c1_2]; decide) (by rw [c1_2]; decide) (by rw [c1_2]; rfl) (by decide) ?_
      refine lv_bipush (v := nI 10) hx hb dX7_operationOf_144 (by decide) ?_
      exact m_reti hx hb hr hlk rfl hP hS dX7_operationOf_146 (by simp only [g_X7_operationOf, if_neg c1_1, if_pos c1_2]) rfl
    · by_cases c1_3 : ch = nI 99
      · refine lv_tableIn (tgt := 150) (off := 149) hx hb dX7_operationOf_1 (by rw [c1_3]; decide) (by rw [c1_3]; decide) (by rw [c1_3]; rfl) (by decide) ?_
        refine lv_iconst (v := (-1)) hx hb dX7_operationOf_150 (by decide) ?_
        exact m_reti hx hb hr hlk rfl hP hS dX7_operationOf_151 (by simp only [g_X7_operationOf, if_neg c1_1, if_neg c1_2, if_pos c1_3]) rfl
      · by_cases c1_4 : ch = nI 100
        · refine lv_tableIn (tgt := 124) (off := 123) hx hb dX7_operationOf_1 (by rw [c1_4]; decide) (by rw [c1_4]; decide) (by rw [c1_4]; rfl) (by decide) ?_
          refine lv_iconst (v := nI 2) hx hb dX7_operationOf_124 (by decide) ?_
          exact m_reti hx hb hr hlk rfl hP hS dX7_operationOf_125 (by simp only [g_X7_operationOf, if_neg c1_1, if_neg c1_2, if_neg c1_3, if_pos c1_4]) rfl
        · by_cases c1_5 : ch = nI 101
          · refine lv_tableIn (tgt := 150) (off := 149) hx hb dX7_operationOf_1 (by rw [c1_5]; decide) (by rw [c1_5]; decide) (by rw [c1_5]; rfl) (by decide) ?_
            refine lv_iconst (v := (-1)) hx hb dX7_operationOf_150 (by decide) ?_
            exact m_reti hx hb hr hlk rfl hP hS dX7_operationOf_151 (by simp only [g_X7_operationOf, if_neg c1_1, if_neg c1_2, if_neg c1_3, if_neg c1_4, if_pos c1_5]) rfl
          · by_cases c1_6 : ch = nI 102
            · refine lv_tableIn (tgt := 150) (off := 149) hx hb dX7_operationOf_1 (by rw [c1_6]; decide) (by rw [c1_6]; decide) (by rw [c1_6]; rfl) (by decide) ?_
              refine lv_iconst (v := (-1)) hx hb dX7_operationOf_150 (by decide) ?_
              exact m_reti hx hb hr hlk rfl hP hS dX7_operationOf_151 (by simp only [g_X7_operationOf, if_neg c1_1, if_neg c1_2, if_neg c1_3, if_neg c1_4, if_neg c1_5, if_pos c1_6]) rfl
            · by_cases c1_7 : ch = nI 103
              · refine lv_tableIn (tgt := 150) (off := 149) hx hb dX7_operationOf_1 (by rw [c1_7]; decide) (by rw [c1_7]; decide) (by rw [c1_7]; rfl) (by decide) ?_
                refine lv_iconst (v := (-1)) hx hb dX7_operationOf_150 (by decide) ?_
                exact m_reti hx hb hr hlk rfl hP hS dX7_operationOf_151 (by simp only [g_X7_operationOf, if_neg c1_1, if_neg c1_2, if_neg c1_3, if_neg c1_4, if_neg c1_5, if_neg c1_6, if_pos c1_7]) rfl
              · by_cases c1_8 : ch = nI 104
                · refine lv_tableIn (tgt := 147) (off := 146) hx hb dX7_operationOf_1 (by rw [c1_8]; decide) (by rw [c1_8]; decide) (by rw [c1_8]; rfl) (by decide) ?_
                  refine lv_bipush (v := nI 11) hx hb dX7_operationOf_147 (by decide) ?_
                  exact m_reti hx hb hr hlk rfl hP hS dX7_operationOf_149 (by simp only [g_X7_operationOf, if_neg c1_1, if_neg c1_2, if_neg c1_3, if_neg c1_4, if_neg c1_5, if_neg c1_6, if_neg c1_7, if_pos c1_8]) rfl
                · by_cases c1_9 : ch = nI 105
                  · refine lv_tableIn (tgt := 150) (off := 149) hx hb dX7_operationOf_1 (by rw [c1_9]; decide) (by rw [c1_9]; decide) (by rw [c1_9]; rfl) (by decide) ?_
                    refine lv_iconst (v := (-1)) hx hb dX7_operationOf_150 (by decide) ?_
                    exact m_reti hx hb hr hlk rfl hP hS dX7_operationOf_151 (by simp only [g_X7_operationOf, if_neg c1_1, if_neg c1_2, if_neg c1_3, if_neg c1_4, if_neg c1_5, if_neg c1_6, if_neg c1_7, if_neg c1_8, if_pos c1_9]) rfl
                  · by_cases c1_10 : ch = nI 106
                    · refine lv_tableIn (tgt := 135) (off := 134) hx hb dX7_operationOf_1 (by rw [c1_10]; decide) (by rw [c1_10]; decide) (by rw [c1_10]; rfl) (by decide) ?_
                      refine lv_bipush (v := nI 7) hx hb dX7_operationOf_135 (by decide) ?_
                      exact m_reti hx hb hr hlk rfl hP hS dX7_operationOf_137 (by simp only [g_X7_operationOf, if_neg c1_1, if_neg c1_2, if_neg c1_3, if_neg c1_4, if_neg c1_5, if_neg c1_6, if_neg c1_7, if_neg c1_8, if_neg c1_9, if_pos c1_10]) rfl
                    · by_cases c1_11 : ch = nI 107
                      · refine lv_tableIn (tgt := 150) (off := 149) hx hb dX7_operationOf_1 (by rw [c1_11]; decide) (by rw [c1_11]; decide) (by rw [c1_11]; rfl) (by decide) ?_
                        refine lv_iconst (v := (-1)) hx hb dX7_operationOf_150 (by decide) ?_
                        exact m_reti hx hb hr hlk rfl hP hS dX7_operationOf_151 (by simp only [g_X7_operationOf, if_neg c1_1, if_neg c1_2, if_neg c1_3, if_neg c1_4, if_neg c1_5, if_neg c1_6, if_neg c1_7, if_neg c1_8, if_neg c1_9, if_neg c1_10, if_pos c1_11]) rfl
                      · by_cases c1_12 : ch = nI 108
                        · refine lv_tableIn (tgt := 128) (off := 127) hx hb dX7_operationOf_1 (by rw [c1_12]; decide) (by rw [c1_12]; decide) (by rw [c1_12]; rfl) (by decide) ?_
                          refine lv_iconst (v := nI 4) hx hb dX7_operationOf_128 (by decide) ?_
                          exact m_reti hx hb hr hlk rfl hP hS dX7_operationOf_129 (by simp only [g_X7_operationOf, if_neg c1_1, if_neg c1_2, if_neg c1_3, if_neg c1_4, if_neg c1_5, if_neg c1_6, if_neg c1_7, if_neg c1_8, if_neg c1_9, if_neg c1_10, if_neg c1_11, if_pos c1_12]) rfl
                        · by_cases c1_13 : ch = nI 109
                          · refine lv_tableIn (tgt := 126) (off := 125) hx hb dX7_operationOf_1 (by rw [c1_13]; decide) (by rw [c1_13]; decide) (by rw [c1_13]; rfl) (by decide) ?_
                            refine lv_iconst (v := nI 3) hx hb dX7_operationOf_126 (by decide) ?_
                            exact m_reti hx hb hr hlk rfl hP hS dX7_operationOf_127 (by simp only [g_X7_operationOf, if_neg c1_1, if_neg c1_2, if_neg c1_3, if_neg c1_4, if_neg c1_5, if_neg c1_6, if_neg c1_7, if_neg c1_8, if_neg c1_9, if_neg c1_10, if_neg c1_11, if_neg c1_12, if_pos c1_13]) rfl
                          · by_cases c1_14 : ch = nI 110
                            · refine lv_tableIn (tgt := 141) (off := 140) hx hb dX7_operationOf_1 (by rw [c1_14]; decide) (by rw [c1_14]; decide) (by rw [c1_14]; rfl) (by decide) ?_
                              refine lv_bipush (v := nI 9) hx hb dX7_operationOf_141 (by decide) ?_
                              exact m_reti hx hb hr hlk rfl hP hS dX7_operationOf_143 (by simp only [g_X7_operationOf, if_neg c1_1, if_neg c1_2, if_neg c1_3, if_neg c1_4, if_neg c1_5, if_neg c1_6, if_neg c1_7, if_neg c1_8, if_neg c1_9, if_neg c1_10, if_neg c1_11, if_neg c1_12, if_neg c1_13, if_pos c1_14]) rfl
                            · by_cases c1_15 : ch = nI 111
                              · refine lv_tableIn (tgt := 150) (off := 149) hx hb dX7_operationOf_1 (by rw [c1_15]; decide) (by rw [c1_15]; decide) (by rw [c1_15]; rfl) (by decide) ?_
                                refine lv_iconst (v := (-1)) hx hb dX7_operationOf_150 (by decide) ?_
                                exact m_reti hx hb hr hlk rfl hP hS dX7_operationOf_151 (by simp only [g_X7_operationOf, if_neg c1_1, if_neg c1_2, if_neg c1_3, if_neg c1_4, if_neg c1_5, if_neg c1_6, if_neg c1_7, if_neg c1_8, if_neg c1_9, if_neg c1_10, if_neg c1_11, if_neg c1_12, if_neg c1_13, if_neg c1_14, if_pos c1_15]) rfl
                              · by_cases c1_16 : ch = nI 112
                                · refine lv_tableIn (tgt := 150) (off := 149) hx hb dX7_operationOf_1 (by rw [c1_16]; decide) (by rw [c1_16]; decide) (by rw [c1_16]; rfl) (by decide) ?_
                                  refine lv_iconst (v := (-1)) hx hb dX7_operationOf_150 (by decide) ?_
                                  exact m_reti hx hb hr hlk rfl hP hS dX7_operationOf_151 (by simp only [g_X7_operationOf, if_neg c1_1, if_neg c1_2, if_neg c1_3, if_neg c1_4, if_neg c1_5, if_neg c1_6, if_neg c1_7, if_neg c1_8, if_neg c1_9, if_neg c1_10, if_neg c1_11, if_neg c1_12, if_neg c1_13, if_neg c1_14, if_neg c1_15, if_pos c1_16]) rfl
                                · by_cases c1_17 : ch = nI 113
                                  · refine lv_tableIn (tgt := 150) (off := 149) hx hb dX7_operationOf_1 (by rw [c1_17]; decide) (by rw [c1_17]; decide) (by rw [c1_17]; rfl) (by decide) ?_
                                    refine lv_iconst (v := (-1)) hx hb dX7_operationOf_150 (by decide) ?_
                                    exact m_reti hx hb hr hlk rfl hP hS dX7_operationOf_151 (by simp only [g_X7_operationOf, if_neg c1_1, if_neg c1_2, if_neg c1_3, if_neg c1_4, if_neg c1_5, if_neg c1_6, if_neg c1_7, if_neg c1_8, if_neg c1_9, if_neg c1_10, if_neg c1_11, if_neg c1_12, if_neg c1_13, if_neg c1_14, if_neg c1_15, if_neg c1_16, if_pos c1_17]) rfl
                                  · by_cases c1_18 : ch = nI 114
                                    · refine lv_tableIn (tgt := 150) (off := 149) hx hb dX7_operationOf_1 (by rw [c1_18]; decide) (by rw [c1_18]; decide) (by rw [c1_18]; rfl) (by decide) ?_
                                      refine lv_iconst (v := (-1)) hx hb dX7_operationOf_150 (by decide) ?_
                                      exact m_reti hx hb hr hlk rfl hP hS dX7_operationOf_151 (by simp only [g_X7_operationOf, if_neg c1_1, if_neg c1_2, if_neg c1_3, if_neg c1_4, if_neg c1_5, if_neg c1_6, if_neg c1_7, if_neg c1_8, if_neg c1_9, if_neg c1_10, if_neg c1_11, if_neg c1_12, if_neg c1_13, if_neg c1_14, if_neg c1_15, if_neg c1_16, if_neg c1_17, if_pos c1_18]) rfl
                                    · by_cases c1_19 : ch = nI 115
                                      · refine lv_tableIn (tgt := 120) (off := 119) hx hb dX7_operationOf_1 (by rw [c1_19]; decide) (by rw [c1_19]; decide) (by rw [c1_19]; rfl) (by decide) ?_
                                        refine lv_iconst (v := nI 0) hx hb dX7_operationOf_120 (by decide) ?_
                                        exact m_reti hx hb hr hlk rfl hP hS dX7_operationOf_121 (by simp only [g_X7_operationOf, if_neg c1_1, if_neg c1_2, if_neg c1_3, if_neg c1_4, if_neg c1_5, if_neg c1_6, if_neg c1_7, if_neg c1_8, if_neg c1_9, if_neg c1_10, if_neg c1_11, if_neg c1_12, if_neg c1_13, if_neg c1_14, if_neg c1_15, if_neg c1_16, if_neg c1_17, if_neg c1_18, if_pos c1_19]) rfl
                                      · by_cases c1_20 : ch = nI 116
                                        · refine lv_tableIn (tgt := 150) (off := 149) hx hb dX7_operationOf_1 (by rw [c1_20]; decide) (by rw [c1_20]; decide) (by rw [c1_20]; rfl) (by decide) ?_
                                          refine lv_iconst (v := (-1)) hx hb dX7_operationOf_150 (by decide) ?_
                                          exact m_reti hx hb hr hlk rfl hP hS dX7_operationOf_151 (by simp only [g_X7_operationOf, if_neg c1_1, if_neg c1_2, if_neg c1_3, if_neg c1_4, if_neg c1_5, if_neg c1_6, if_neg c1_7, if_neg c1_8, if_neg c1_9, if_neg c1_10, if_neg c1_11, if_neg c1_12, if_neg c1_13, if_neg c1_14, if_neg c1_15, if_neg c1_16, if_neg c1_17, if_neg c1_18, if_neg c1_19, if_pos c1_20]) rfl
                                        · by_cases c1_21 : ch = nI 117
                                          · refine lv_tableIn (tgt := 150) (off := 149) hx hb dX7_operationOf_1 (by rw [c1_21]; decide) (by rw [c1_21]; decide) (by rw [c1_21]; rfl) (by decide) ?_
                                            refine lv_iconst (v := (-1)) hx hb dX7_operationOf_150 (by decide) ?_
                                            exact m_reti hx hb hr hlk rfl hP hS dX7_operationOf_151 (by simp only [g_X7_operationOf, if_neg c1_1, if_neg c1_2, if_neg c1_3, if_neg c1_4, if_neg c1_5, if_neg c1_6, if_neg c1_7, if_neg c1_8, if_neg c1_9, if_neg c1_10, if_neg c1_11, if_neg c1_12, if_neg c1_13, if_neg c1_14, if_neg c1_15, if_neg c1_16, if_neg c1_17, if_neg c1_18, if_neg c1_19, if_neg c1_20, if_pos c1_21]) rfl
                                          · by_cases c1_22 : ch = nI 118
                                            · refine lv_tableIn (tgt := 150) (off := 149) hx hb dX7_operationOf_1 (by rw [c1_22]; decide) (by rw [c1_22]; decide) (by rw [c1_22]; rfl) (by decide) ?_
                                              refine lv_iconst (v := (-1)) hx hb dX7_operationOf_150 (by decide) ?_
                                              exact m_reti hx hb hr hlk rfl hP hS dX7_operationOf_151 (by simp only [g_X7_operationOf, if_neg c1_1, if_neg c1_2, if_neg c1_3, if_neg c1_4, if_neg c1_5, if_neg c1_6, if_neg c1_7, if_neg c1_8, if_neg c1_9, if_neg c1_10, if_neg c1_11, if_neg c1_12, if_neg c1_13, if_neg c1_14, if_neg c1_15, if_neg c1_16, if_neg c1_17, if_neg c1_18, if_neg c1_19, if_neg c1_20, if_neg c1_21, if_pos c1_22]) rfl
                                            · by_cases c1_23 : ch = nI 119
                                              · refine lv_tableIn (tgt := 130) (off := 129) hx hb dX7_operationOf_1 (by rw [c1_23]; decide) (by rw [c1_23]; decide) (by rw [c1_23]; rfl) (by decide) ?_
                                                refine lv_iconst (v := nI 5) hx hb dX7_operationOf_130 (by decide) ?_
                                                exact m_reti hx hb hr hlk rfl hP hS dX7_operationOf_131 (by simp only [g_X7_operationOf, if_neg c1_1, if_neg c1_2, if_neg c1_3, if_neg c1_4, if_neg c1_5, if_neg c1_6, if_neg c1_7, if_neg c1_8, if_neg c1_9, if_neg c1_10, if_neg c1_11, if_neg c1_12, if_neg c1_13, if_neg c1_14, if_neg c1_15, if_neg c1_16, if_neg c1_17, if_neg c1_18, if_neg c1_19, if_neg c1_20, if_neg c1_21, if_neg c1_22, if_pos c1_23]) rfl
                                              · by_cases c1_24 : ch = nI 120
                                                · refine lv_tableIn (tgt := 132) (off := 131) hx hb dX7_operationOf_1 (by rw [c1_24]; decide) (by rw [c1_24]; decide) (by rw [c1_24]; rfl) (by decide) ?_
                                                  refine lv_bipush (v := nI 6) hx hb dX7_operationOf_132 (by decide) ?_
                                                  exact m_reti hx hb hr hlk rfl hP hS dX7_operationOf_134 (by simp only [g_X7_operationOf, if_neg c1_1, if_neg c1_2, if_neg c1_3, if_neg c1_4, if_neg c1_5, if_neg c1_6, if_neg c1_7, if_neg c1_8, if_neg c1_9, if_neg c1_10, if_neg c1_11, if_neg c1_12, if_neg c1_13, if_neg c1_14, if_neg c1_15, if_neg c1_16, if_neg c1_17, if_neg c1_18, if_neg c1_19, if_neg c1_20, if_neg c1_21, if_neg c1_22, if_neg c1_23, if_pos c1_24]) rfl
                                                · by_cases c1_25 : ch = nI 121
                                                  · refine lv_tableIn (tgt := 150) (off := 149) hx hb dX7_operationOf_1 (by rw [c1_25]; decide) (by rw [c1_25]; decide) (by rw [c1_25]; rfl) (by decide) ?_
                                                    refine lv_iconst (v := (-1)) hx hb dX7_operationOf_150 (by decide) ?_
                                                    exact m_reti hx hb hr hlk rfl hP hS dX7_operationOf_151 (by simp only [g_X7_operationOf, if_neg c1_1, if_neg c1_2, if_neg c1_3, if_neg c1_4, if_neg c1_5, if_neg c1_6, if_neg c1_7, if_neg c1_8, if_neg c1_9, if_neg c1_10, if_neg c1_11, if_neg c1_12, if_neg c1_13, if_neg c1_14, if_neg c1_15, if_neg c1_16, if_neg c1_17, if_neg c1_18, if_neg c1_19, if_neg c1_20, if_neg c1_21, if_neg c1_22, if_neg c1_23, if_neg c1_24, if_pos c1_25]) rfl
                                                  · by_cases c1_26 : ch = nI 122
                                                    · refine lv_tableIn (tgt := 138) (off := 137) hx hb dX7_operationOf_1 (by rw [c1_26]; decide) (by rw [c1_26]; decide) (by rw [c1_26]; rfl) (by decide) ?_
                                                      refine lv_bipush (v := nI 8) hx hb dX7_operationOf_138 (by decide) ?_
                                                      exact m_reti hx hb hr hlk rfl hP hS dX7_operationOf_140 (by simp only [g_X7_operationOf, if_neg c1_1, if_neg c1_2, if_neg c1_3, if_neg c1_4, if_neg c1_5, if_neg c1_6, if_neg c1_7, if_neg c1_8, if_neg c1_9, if_neg c1_10, if_neg c1_11, if_neg c1_12, if_neg c1_13, if_neg c1_14, if_neg c1_15, if_neg c1_16, if_neg c1_17, if_neg c1_18, if_neg c1_19, if_neg c1_20, if_neg c1_21, if_neg c1_22, if_neg c1_23, if_neg c1_24, if_neg c1_25, if_pos c1_26]) rfl
                                                    · have w97_1 := lv_neT c1_1 (k := nI 97) (a := 97) (by decide)
                                                      have w98_1 := lv_neT c1_2 (k := nI 98) (a := 98) (by decide)
                                                      have w99_1 := lv_neT c1_3 (k := nI 99) (a := 99) (by decide)
                                                      have w100_1 := lv_neT c1_4 (k := nI 100) (a := 100) (by decide)
                                                      have w101_1 := lv_neT c1_5 (k := nI 101) (a := 101) (by decide)
                                                      have w102_1 := lv_neT c1_6 (k := nI 102) (a := 102) (by decide)
                                                      have w103_1 := lv_neT c1_7 (k := nI 103) (a := 103) (by decide)
                                                      have w104_1 := lv_neT c1_8 (k := nI 104) (a := 104) (by decide)
                                                      have w105_1 := lv_neT c1_9 (k := nI 105) (a := 105) (by decide)
                                                      have w106_1 := lv_neT c1_10 (k := nI 106) (a := 106) (by decide)
                                                      have w107_1 := lv_neT c1_11 (k := nI 107) (a := 107) (by decide)
                                                      have w108_1 := lv_neT c1_12 (k := nI 108) (a := 108) (by decide)
                                                      have w109_1 := lv_neT c1_13 (k := nI 109) (a := 109) (by decide)
                                                      have w110_1 := lv_neT c1_14 (k := nI 110) (a := 110) (by decide)
                                                      have w111_1 := lv_neT c1_15 (k := nI 111) (a := 111) (by decide)
                                                      have w112_1 := lv_neT c1_16 (k := nI 112) (a := 112) (by decide)
                                                      have w113_1 := lv_neT c1_17 (k := nI 113) (a := 113) (by decide)
                                                      have w114_1 := lv_neT c1_18 (k := nI 114) (a := 114) (by decide)
                                                      have w115_1 := lv_neT c1_19 (k := nI 115) (a := 115) (by decide)
                                                      have w116_1 := lv_neT c1_20 (k := nI 116) (a := 116) (by decide)
                                                      have w117_1 := lv_neT c1_21 (k := nI 117) (a := 117) (by decide)
                                                      have w118_1 := lv_neT c1_22 (k := nI 118) (a := 118) (by decide)
                                                      have w119_1 := lv_neT c1_23 (k := nI 119) (a := 119) (by decide)
                                                      have w120_1 := lv_neT c1_24 (k := nI 120) (a := 120) (by decide)
                                                      have w121_1 := lv_neT c1_25 (k := nI 121) (a := 121) (by decide)
                                                      have w122_1 := lv_neT c1_26 (k := nI 122) (a := 122) (by decide)
                                                      refine lv_tableOut (tgt := 150) hx hb dX7_operationOf_1 (by omega) (by decide) ?_
                                                      refine lv_iconst (v := (-1)) hx hb dX7_operationOf_150 (by decide) ?_
                                                      exact m_reti hx hb hr hlk rfl hP hS dX7_operationOf_151 (by simp only [g_X7_operationOf, if_neg c1_1, if_neg c1_2, if_neg c1_3, if_neg c1_4, if_neg c1_5, if_neg c1_6, if_neg c1_7, if_neg c1_8, if_neg c1_9, if_neg c1_10, if_neg c1_11, if_neg c1_12, if_neg c1_13, if_neg c1_14, if_neg c1_15, if_neg c1_16, if_neg c1_17, if_neg c1_18, if_neg c1_19, if_neg c1_20, if_neg c1_21, if_neg c1_22, if_neg c1_23, if_neg c1_24, if_neg c1_25, if_neg c1_26]) rfl
