theorem tOK_isFaulty_lp : ∀ (n S : Nat) (more : Int32) (X : zM), tOK S X → S + 9 * n ≤ 1000000 → tOK (S + 9 * n) (hX_X7_isFaulty_lp n more X) := by
  intro n
  induction n with
  | zero =>
    intro S more X h _
    exact h
  | succ n ih =>
    intro S more X h hS
    have h1 : tOK (S + 8) (hX_X7_instruction X) := tOK_instruction h (by omega)
    have h2 : tOK (S + 9) (hX_X7_sign (nI 59) (hX_X7_instruction X)) := tOK_sign h1 (by omega)
    have h3 : tOK (S + 9) (hX_X7_instruction X) := tOK_up h1 (by omega) (by omega)
    have e : S + 9 * (n + 1) = S + 9 + 9 * n := by omega
    rw [e] at hS ⊢
    simp only [hX_X7_isFaulty_lp]
    refine z_ite (P := fun Y => tOK (S + 9 + 9 * n) Y) (fun _ => tOK_up h (by omega) hS) (fun _ => ?_)
    refine z_ite (P := fun Y => tOK (S + 9 + 9 * n) Y) (fun _ => ?_) (fun _ => ih _ _ _ h3 hS)
    refine z_ite (P := fun Y => tOK (S + 9 + 9 * n) Y) (fun _ => ih _ _ _ h3 hS) (fun _ => ?_)
    exact z_ite (P := fun Y => tOK (S + 9 + 9 * n) Y) (fun _ => ih _ _ _ h2 hS) (fun _ => ih _ _ _ h2 hS)
theorem tOK_isFaulty {S : Nat} {X : zM} (hT : tOK S X) : tOK 1000 (hX_X7_isFaulty X) := by
  unfold hX_X7_isFaulty
  exact tOK_up (tOK_isFaulty_lp 103 1 _ _ (tOK_3 (tOK_2 (S' := 1) hT (by decide) (by decide)) (Or.inl rfl)) (by decide)) (by decide) (by decide)
theorem isf_I_lp {i : Nat} (hi : i < 2) : ∀ (n : Nat) (more : Int32) (X : zM), hX_X7_isFaulty_lp n more X 0 i = X 0 i := by
  intro n
  induction n with
  | zero =>
    intro more X
    rfl
  | succ n ih =>
    intro more X
    have h1 : hX_X7_instruction X 0 i = X 0 i := inI (by omega) (by omega) (by omega)
    have h2 : hX_X7_sign (nI 59) (hX_X7_instruction X) 0 i = X 0 i := (sgI (by omega) (by omega)).trans h1
    simp only [hX_X7_isFaulty_lp]
    refine z_ite (P := fun Y : zM => Y 0 i = X 0 i) (fun _ => rfl) (fun _ => ?_)
    refine z_ite (P := fun Y : zM => Y 0 i = X 0 i) (fun _ => ?_) (fun _ => (ih _ _).trans h1)
    refine z_ite (P := fun Y : zM => Y 0 i = X 0 i) (fun _ => (ih _ _).trans h1) (fun _ => ?_)
    exact z_ite (P := fun Y : zM => Y 0 i = X 0 i) (fun _ => (ih _ _).trans h2) (fun _ => (ih _ _).trans h2)
theorem isf_I {X : zM} {i : Nat} (hi : i < 2) : hX_X7_isFaulty X 0 i = X 0 i := by
  unfold hX_X7_isFaulty
  rw [isf_I_lp hi, zu_i _ _ _ (by omega), zu_i _ _ _ (by omega)]

def g_X7_fault  (X : zM) : Int32 := if (g_X7_isFaulty X) = 0 then (-100005) else (hX_X7_isFaulty X) 0 2
def hX_X7_fault  (X : zM) : zM := if (g_X7_isFaulty X) = 0 then hX_X7_isFaulty X else hX_X7_isFaulty X
set_option maxHeartbeats 4000000 in
set_option maxRecDepth 100000 in
theorem ct_X7_fault (l : Launch) (D : va_G) (a : Nat → Nat) (cI : ClassId) (hJ : mJ a) (N A P X : zM) (S : Nat) (hT : tOK S X) : mCi l yX7_fault wsX7_fault ({ frames := 6, cells := 0, slots := 0, locals := 130 } : Room) D a cI [.ref (a 0)] (N, A, P, X) (g_X7_fault X) (N, A, P, hX_X7_fault X) := by
  have hiX7 : ∀ w ∈ wsX70, w ∈ wsX7_fault := by decide +kernel
  refine m_ofi (cc := cX7_fault) (maxL := 1) (own := RX7) (by decide) rfl (Nat.le_of_ble_eq_true rfl) rfl (fun p e s m below meth c ls hx hb hr hml hts hown hlk hl hK hP hS => ?_)
  have hl : lv_has ls 1 [(0, .ref (a 0))] := hl
  refine lv_aload_n hx hb dX7_fault_0 rfl (lv_at hl 0 rfl) ?_
  refine m_cVi (As := []) (rest := []) ⟨hx, hb, hml, hown, hts⟩ (ct_X7_isFaulty l D a cI hJ N A P X _ hT) (cwV 0 hts gX7_fault_X7_isFaulty rfl rfl rfl (by decide +kernel) ⟨Nat.le_of_ble_eq_true rfl, Nat.le_of_ble_eq_true rfl⟩) hK hP hS (va_recv (ci := 7) hK hP rfl mG_O) rfl hl.1 rfl (Nat.le_of_ble_eq_true rfl) dX7_fault_1 ⟨Nat.zero_le _, Nat.zero_le _⟩ (fun H locs hP hS => ?_)
  refine lv_if_eq (tgt := 14) hx hb dX7_fault_4 (by decide) (fun c4_1 => ?_) (fun c4_1 => ?_)
  · refine lv_ldc (v := (-100005)) hx hb hown (hts (.constant RX7 147 (-100005)) (by decide +kernel)) dX7_fault_14 ?_
    exact m_reti hx hb hr hlk rfl hP hS dX7_fault_16 (by simp only [g_X7_fault, if_pos c4_1]) (m_eq rfl rfl rfl (by simp only [hX_X7_fault, if_pos c4_1]))
  · refine lv_aload_n hx hb dX7_fault_7 rfl (lv_at hl 0 rfl) ?_
    refine mgO6 hx hb hts hiX7 hown hK hP (hts (.fieldLink RX7 88 "BarrelProcessorModel" "spot" "I") (by decide +kernel)) dX7_fault_8 ?_
    refine lv_goto (tgt := 16) hx hb dX7_fault_11 (by decide) ?_
    exact m_reti hx hb hr hlk rfl hP hS dX7_fault_16 (by simp only [g_X7_fault, if_neg c4_1]) (m_eq rfl rfl rfl (by simp only [hX_X7_fault, if_neg c4_1]))

def g_X7_assemble_lq (place : Int32) : Nat → Nat → Nat → zM → zM → zM → Int32
  | 0, w, i, N, P, X => nI w
  | n + 1, w, i, N, P, X => g_X7_assemble_lq place n w (i + 1) (zu (zu (zu N 10 (zc place + i) ((hX_X7_instruction X) 0 4)) 11 (2 * (zc place + i)) ((hX_X7_instruction X) 0 5)) 11 (2 * (zc place + i) + 1) ((hX_X7_instruction X) 0 6)) P (zu (hX_X7_instruction X) 0 2 (nI (zc ((hX_X7_instruction X) 0 2) + 1)))
def hN_X7_assemble_lq (place : Int32) : Nat → Nat → Nat → zM → zM → zM → zM
  | 0, w, i, N, P, X => N
  | n + 1, w, i, N, P, X => hN_X7_assemble_lq place n w (i + 1) (zu (zu (zu N 10 (zc place + i) ((hX_X7_instruction X) 0 4)) 11 (2 * (zc place + i)) ((hX_X7_instruction X) 0 5)) 11 (2 * (zc place + i) + 1) ((hX_X7_instruction X) 0 6)) P (zu (hX_X7_instruction X) 0 2 (nI (zc ((hX_X7_instruction X) 0 2) + 1)))
def hP_X7_assemble_lq (place : Int32) : Nat → Nat → Nat → zM → zM → zM → zM
  | 0, w, i, N, P, X => P
  | n + 1, w, i, N, P, X => hP_X7_assemble_lq place n w (i + 1) (zu (zu (zu N 10 (zc place + i) ((hX_X7_instruction X) 0 4)) 11 (2 * (zc place + i)) ((hX_X7_instruction X) 0 5)) 11 (2 * (zc place + i) + 1) ((hX_X7_instruction X) 0 6)) P (zu (hX_X7_instruction X) 0 2 (nI (zc ((hX_X7_instruction X) 0 2) + 1)))
def hX_X7_assemble_lq (place : Int32) : Nat → Nat → Nat → zM → zM → zM → zM
  | 0, w, i, N, P, X => X
  | n + 1, w, i, N, P, X => hX_X7_assemble_lq place n w (i + 1) (zu (zu (zu N 10 (zc place + i) ((hX_X7_instruction X) 0 4)) 11 (2 * (zc place + i)) ((hX_X7_instruction X) 0 5)) 11 (2 * (zc place + i) + 1) ((hX_X7_instruction X) 0 6)) P (zu (hX_X7_instruction X) 0 2 (nI (zc ((hX_X7_instruction X) 0 2) + 1)))
def g_X7_assemble_lp (place : Int32) : Nat → Nat → Nat → zM → zM → zM → Int32
  | 0, w, i, N, P, X => if (nI (zc place + w)) ≤ (nI 48) then g_X7_assemble_lq place w w 0 N (hP_X7_records N P X) (zu (hX_X7_records N P X) 0 2 (nI 0)) else (-100004)
  | n + 1, w, i, N, P, X => if (X 1 i) = (nI 59) then g_X7_assemble_lp place n (w + 1) (i + 1) N P X else g_X7_assemble_lp place n w (i + 1) N P X
def hN_X7_assemble_lp (place : Int32) : Nat → Nat → Nat → zM → zM → zM → zM
  | 0, w, i, N, P, X => if (nI (zc place + w)) ≤ (nI 48) then hN_X7_assemble_lq place w w 0 N (hP_X7_records N P X) (zu (hX_X7_records N P X) 0 2 (nI 0)) else N
  | n + 1, w, i, N, P, X => if (X 1 i) = (nI 59) then hN_X7_assemble_lp place n (w + 1) (i + 1) N P X else hN_X7_assemble_lp place n w (i + 1) N P X
def hP_X7_assemble_lp (place : Int32) : Nat → Nat → Nat → zM → zM → zM → zM
  | 0, w, i, N, P, X => if (nI (zc place + w)) ≤ (nI 48) then hP_X7_assemble_lq place w w 0 N (hP_X7_records N P X) (zu (hX_X7_records N P X) 0 2 (nI 0)) else P
  | n + 1, w, i, N, P, X => if (X 1 i) = (nI 59) then hP_X7_assemble_lp place n (w + 1) (i + 1) N P X else hP_X7_assemble_lp place n w (i + 1) N P X
def hX_X7_assemble_lp (place : Int32) : Nat → Nat → Nat → zM → zM → zM → zM
  | 0, w, i, N, P, X => if (nI (zc place + w)) ≤ (nI 48) then hX_X7_assemble_lq place w w 0 N (hP_X7_records N P X) (zu (hX_X7_records N P X) 0 2 (nI 0)) else X
  | n + 1, w, i, N, P, X => if (X 1 i) = (nI 59) then hX_X7_assemble_lp place n (w + 1) (i + 1) N P X else hX_X7_assemble_lp place n w (i + 1) N P X
def g_X7_assemble (place : Int32) (N P X : zM) : Int32 := if (g_X7_isPlace place) = 0 then (-100001) else if (g_X7_isFaulty X) = 0 then g_X7_assemble_lp place (zc ((hX_X7_isFaulty X) 0 1)) 1 0 N P (hX_X7_isFaulty X) else (-100003)
def hN_X7_assemble (place : Int32) (N P X : zM) : zM := if (g_X7_isPlace place) = 0 then N else if (g_X7_isFaulty X) = 0 then hN_X7_assemble_lp place (zc ((hX_X7_isFaulty X) 0 1)) 1 0 N P (hX_X7_isFaulty X) else N
def hP_X7_assemble (place : Int32) (N P X : zM) : zM := if (g_X7_isPlace place) = 0 then P else if (g_X7_isFaulty X) = 0 then hP_X7_assemble_lp place (zc ((hX_X7_isFaulty X) 0 1)) 1 0 N P (hX_X7_isFaulty X) else P
def hX_X7_assemble (place : Int32) (N P X : zM) : zM := if (g_X7_isPlace place) = 0 then X else if (g_X7_isFaulty X) = 0 then hX_X7_assemble_lp place (zc ((hX_X7_isFaulty X) 0 1)) 1 0 N P (hX_X7_isFaulty X) else hX_X7_isFaulty X
set_option maxHeartbeats 4000000 in
set_option maxRecDepth 100000 in
theorem ct_X7_assemble (l : Launch) (D : va_G) (a : Nat → Nat) (cI : ClassId) (hJ : mJ a) (N A P X : zM) (place : Int32) (S : Nat) (hT : tOK S X) (hX : zIn (X 0 0) 5) : mCi l yX7_assemble wsX7_assemble ({ frames := 6, cells := 0, slots := 0, locals := 130 } : Room) D a cI [.ref (a 0), .int place] (N, A, P, X) (g_X7_assemble place N P X) (hN_X7_assemble place N P X, A, hP_X7_assemble place N P X, hX_X7_assemble place N P X) := by
  have hiX7 : ∀ w ∈ wsX70, w ∈ wsX7_assemble := by decide +kernel
  refine m_ofi (cc := cX7_assemble) (maxL := 4) (own := RX7) (by decide) rfl (Nat.le_of_ble_eq_true rfl) rfl (fun p e s m below meth c ls hx hb hr hml hts hown hlk hl hK hP hS => ?_)
  have hl : lv_has ls 4 [(0, .ref (a 0)), (1, .int place)] := hl
  have lp79 : ∀ (n : Nat) (w : Nat) (i : Nat) (N : zM) (P : zM) (X : zM) (H : Heap) (locs : List Loc) (ls : Array Slot) (hn : i + n = w) (bp : zIn place 48) (bp1 : zc place < 48) (b4 : zc place + w ≤ 48) (hT : tOK (10 * (i + 1)) X) (hl : lv_has ls 4 [(0, .ref (a 0)), (1, .int place), (2, .int (nI w)), (3, .int (nI i))]) (hP : va_P D vwCl (mW a cI (N, A, P, X)) H) (hS : va_S (mA a) s.heap H locs), W p l e ({ frames := 6, cells := 0, slots := 0, locals := 130 } : Room) s m ([.ref (a 0), .int place] : List Value).toArray below meth c H locs 0 0 (mQi below D a cI [.ref (a 0), .int place] s (g_X7_assemble_lq place n w i N P X) (hN_X7_assemble_lq place n w i N P X, A, hP_X7_assemble_lq place n w i N P X, hX_X7_assemble_lq place n w i N P X)) (F0 m 79 ls []) := by
    intro n
    induction n with
    | zero =>
      intro w i N P X H locs ls hn bp bp1 b4 hT hl hP hS
      refine lv_iload_n hx hb dX7_assemble_79 rfl (lv_at hl 3 rfl) ?_
      refine lv_iload_n hx hb dX7_assemble_80 rfl (lv_at hl 2 rfl) ?_
      refine lv_icmp_ge (tgt := 159) hx hb dX7_assemble_81 (by decide) (fun c81_1 => ?_) (fun c81_1 => absurd (nI_le (by omega) (by omega)) c81_1)
      refine lv_iload_n hx hb dX7_assemble_159 rfl (lv_at hl 2 rfl) ?_
      exact m_reti hx hb hr hlk rfl hP hS dX7_assemble_160 (by first | rfl | simp only [g_X7_assemble_lq]) (m_eq (by first | rfl | simp only [hN_X7_assemble_lq]) rfl (by first | rfl | simp only [hP_X7_assemble_lq]) (by first | rfl | simp only [hX_X7_assemble_lq]))
    | succ n ih =>
      intro w i N P X H locs ls hn bp bp1 b4 hT hl hP hS
      refine lv_iload_n hx hb dX7_assemble_79 rfl (lv_at hl 3 rfl) ?_
      refine lv_iload_n hx hb dX7_assemble_80 rfl (lv_at hl 2 rfl) ?_
      refine lv_icmp_ge (tgt := 159) hx hb dX7_assemble_81 (by decide) (fun c81_2 => absurd c81_2 (nI_ge (by omega) (by omega))) (fun c81_2 => ?_)
      refine lv_aload_n hx hb dX7_assemble_84 rfl (lv_at hl 0 rfl) ?_
      refine m_cVv (As := []) (rest := []) ⟨hx, hb, hml, hown, hts⟩ (ct_X7_instruction l D a cI hJ N A P X _ hT (by omega)) (cwV 0 hts gX7_assemble_X7_instruction rfl rfl rfl (by decide +kernel) ⟨Nat.le_of_ble_eq_true rfl, Nat.le_of_ble_eq_true rfl⟩) hK hP hS (va_recv (ci := 7) hK hP rfl mG_O) rfl hl.1 rfl (Nat.le_of_ble_eq_true rfl) dX7_assemble_85 ⟨Nat.zero_le _, Nat.zero_le _⟩ (fun H locs hP hS => ?_)
      refine lv_aload_n hx hb dX7_assemble_88 rfl (lv_at hl 0 rfl) ?_
      refine lv_dup hx hb dX7_assemble_89 rfl ?_
      refine mgO6 hx hb hts hiX7 hown hK hP (hts (.fieldLink RX7 88 "BarrelProcessorModel" "spot" "I") (by decide +kernel)) dX7_assemble_90 ?_
      refine z_val (z := nI (zc ((hX_X7_instruction X) 0 2))) (tOK_instruction hT (by omega)).2.1.1.2 ?_
      refine lv_iconst (v := nI 1) hx hb dX7_assemble_93 (by decide) ?_
      refine lv_iadd hx hb dX7_assemble_94 ?_
      refine z_val (z := nI (zc ((hX_X7_instruction X) 0 2) + 1)) (nI_add _ _) ?_
      refine mpO6 hx hb hts hiX7 hown hK hP hJ hS (hts (.fieldLink RX7 88 "BarrelProcessorModel" "spot" "I") (by decide +kernel)) dX7_assemble_95 (fun H locs hP hS => ?_)
      refine lv_aload_n hx hb dX7_assemble_98 rfl (lv_at hl 0 rfl) ?_
      refine mgO0 hx hb hts hiX7 hown hK hP (hts (.fieldLink RX7 7 "BarrelProcessorModel" "s" "[I") (by decide +kernel)) dX7_assemble_99 ?_
      refine lv_bipush (v := nI 56) hx hb dX7_assemble_102 (by decide) ?_
      refine lv_iconst (v := nI 3) hx hb dX7_assemble_104 (by decide) ?_
      refine lv_iload_n hx hb dX7_assemble_105 rfl (lv_at hl 1 rfl) ?_
      refine z_val (z := nI (zc place)) bp.2 ?_
      refine lv_iload_n hx hb dX7_assemble_106 rfl (lv_at hl 3 rfl) ?_
      refine lv_iadd hx hb dX7_assemble_107 ?_
      refine z_val (z := nI (zc place + i)) (nI_add _ _) ?_
      refine lv_imul hx hb dX7_assemble_108 ?_
      refine z_val (z := nI (3 * (zc place + i))) (pk_mul _ _) ?_
      refine lv_iadd hx hb dX7_assemble_109 ?_
      refine z_val (z := nI (56 + (3 * (zc place + i)))) (nI_add _ _) ?_
      refine lv_aload_n hx hb dX7_assemble_110 rfl (lv_at hl 0 rfl) ?_
      refine mgO8 hx hb hts hiX7 hown hK hP (hts (.fieldLink RX7 94 "BarrelProcessorModel" "operation" "I") (by decide +kernel)) dX7_assemble_111 ?_
      refine z_val (z := (hX_X7_instruction X) 0 4) rfl ?_
      rw [show 56 + (3 * (zc place + i)) = 56 + 3 * (zc place + i) by omega]
      refine m_iast (Z' := (zu N 10 (zc place + i) ((hX_X7_instruction X) 0 4), A, P, zu (hX_X7_instruction X) 0 2 (nI (zc ((hX_X7_instruction X) 0 2) + 1)))) hx hb hK hP hJ hS mG_s (j := 56 + 3 * (zc place + i)) (by omega) (by decide) dX7_assemble_114 (mS_s (zf_op (by omega))) (fun H locs hP hS => ?_)
      refine lv_aload_n hx hb dX7_assemble_115 rfl (lv_at hl 0 rfl) ?_
      refine mgO0 hx hb hts hiX7 hown hK hP (hts (.fieldLink RX7 7 "BarrelProcessorModel" "s" "[I") (by decide +kernel)) dX7_assemble_116 ?_
      refine lv_bipush (v := nI 56) hx hb dX7_assemble_119 (by decide) ?_
      refine lv_iconst (v := nI 3) hx hb dX7_assemble_121 (by decide) ?_
      refine lv_iload_n hx hb dX7_assemble_122 rfl (lv_at hl 1 rfl) ?_
      refine z_val (z := nI (zc place)) bp.2 ?_
      refine lv_iload_n hx hb dX7_assemble_123 rfl (lv_at hl 3 rfl) ?_
      refine lv_iadd hx hb dX7_assemble_124 ?_
      refine z_val (z := nI (zc place + i)) (nI_add _ _) ?_
      refine lv_imul hx hb dX7_assemble_125 ?_
      refine z_val (z := nI (3 * (zc place + i))) (pk_mul _ _) ?_
      refine lv_iadd hx hb dX7_assemble_126 ?_
      refine z_val (z := nI (56 + (3 * (zc place + i)))) (nI_add _ _) ?_
      refine lv_iconst (v := nI 1) hx hb dX7_assemble_127 (by decide) ?_
      refine lv_iadd hx hb dX7_assemble_128 ?_
      refine z_val (z := nI (56 + (3 * (zc place + i)) + 1)) (nI_add _ _) ?_
      refine lv_aload_n hx hb dX7_assemble_129 rfl (lv_at hl 0 rfl) ?_
      refine mgO9 hx hb hts hiX7 hown hK hP (hts (.fieldLink RX7 97 "BarrelProcessorModel" "first" "I") (by decide +kernel)) dX7_assemble_130 ?_
      refine z_val (z := (hX_X7_instruction X) 0 5) rfl ?_
      rw [show 56 + (3 * (zc place + i)) + 1 = 56 + 3 * (zc place + i) + 1 by omega]
      refine m_iast (Z' := (zu (zu N 10 (zc place + i) ((hX_X7_instruction X) 0 4)) 11 (2 * (zc place + i)) ((hX_X7_instruction X) 0 5), A, P, zu (hX_X7_instruction X) 0 2 (nI (zc ((hX_X7_instruction X) 0 2) + 1)))) hx hb hK hP hJ hS mG_s (j := 56 + 3 * (zc place + i) + 1) (by omega) (by decide) dX7_assemble_133 (mS_s (zf_o1 (by omega))) (fun H locs hP hS => ?_)
      refine lv_aload_n hx hb dX7_assemble_134 rfl (lv_at hl 0 rfl) ?_
      refine mgO0 hx hb hts hiX7 hown hK hP (hts (.fieldLink RX7 7 "BarrelProcessorModel" "s" "[I") (by decide +kernel)) dX7_assemble_135 ?_
      refine lv_bipush (v := nI 56) hx hb dX7_assemble_138 (by decide) ?_
      refine lv_iconst (v := nI 3) hx hb dX7_assemble_140 (by decide) ?_
      refine lv_iload_n hx hb dX7_assemble_141 rfl (lv_at hl 1 rfl) ?_
      refine z_val (z := nI (zc place)) bp.2 ?_
      refine lv_iload_n hx hb dX7_assemble_142 rfl (lv_at hl 3 rfl) ?_
      refine lv_iadd hx hb dX7_assemble_143 ?_
      refine z_val (z := nI (zc place + i)) (nI_add _ _) ?_
      refine lv_imul hx hb dX7_assemble_144 ?_
      refine z_val (z := nI (3 * (zc place + i))) (pk_mul _ _) ?_
      refine lv_iadd hx hb dX7_assemble_145 ?_
      refine z_val (z := nI (56 + (3 * (zc place + i)))) (nI_add _ _) ?_
      refine lv_iconst (v := nI 2) hx hb dX7_assemble_146 (by decide) ?_
      refine lv_iadd hx hb dX7_assemble_147 ?_
      refine z_val (z := nI (56 + (3 * (zc place + i)) + 2)) (nI_add _ _) ?_
      refine lv_aload_n hx hb dX7_assemble_148 rfl (lv_at hl 0 rfl) ?_
      refine mgO10 hx hb hts hiX7 hown hK hP (hts (.fieldLink RX7 100 "BarrelProcessorModel" "second" "I") (by decide +kernel)) dX7_assemble_149 ?_
      refine z_val (z := (hX_X7_instruction X) 0 6) rfl ?_
      rw [show 56 + (3 * (zc place + i)) + 2 = 56 + 3 * (zc place + i) + 2 by omega]
      refine m_iast (Z' := (zu (zu (zu N 10 (zc place + i) ((hX_X7_instruction X) 0 4)) 11 (2 * (zc place + i)) ((hX_X7_instruction X) 0 5)) 11 (2 * (zc place + i) + 1) ((hX_X7_instruction X) 0 6), A, P, zu (hX_X7_instruction X) 0 2 (nI (zc ((hX_X7_instruction X) 0 2) + 1)))) hx hb hK hP hJ hS mG_s (j := 56 + 3 * (zc place + i) + 2) (by omega) (by decide) dX7_assemble_152 (mS_s (zf_o2 (by omega))) (fun H locs hP hS => ?_)
      refine lv_iinc (v := nI (i + 1)) (lv' := [(3, .int (nI (i + 1))), (0, .ref (a 0)), (1, .int place), (2, .int (nI w))]) hx hb dX7_assemble_153 hl (k := 3) rfl (nI_add _ _) (by decide) rfl (fun ls hl => ?_)
      refine lv_goto (tgt := 79) hx hb dX7_assemble_156 (by decide) ?_
      refine m_toi (r2 := g_X7_assemble_lq place n w (i + 1) (zu (zu (zu N 10 (zc place + i) ((hX_X7_instruction X) 0 4)) 11 (2 * (zc place + i)) ((hX_X7_instruction X) 0 5)) 11 (2 * (zc place + i) + 1) ((hX_X7_instruction X) 0 6)) P (zu (hX_X7_instruction X) 0 2 (nI (zc ((hX_X7_instruction X) 0 2) + 1)))) (Z2 := (hN_X7_assemble_lq place n w (i + 1) (zu (zu (zu N 10 (zc place + i) ((hX_X7_instruction X) 0 4)) 11 (2 * (zc place + i)) ((hX_X7_instruction X) 0 5)) 11 (2 * (zc place + i) + 1) ((hX_X7_instruction X) 0 6)) P (zu (hX_X7_instruction X) 0 2 (nI (zc ((hX_X7_instruction X) 0 2) + 1))), A, hP_X7_assemble_lq place n w (i + 1) (zu (zu (zu N 10 (zc place + i) ((hX_X7_instruction X) 0 4)) 11 (2 * (zc place + i)) ((hX_X7_instruction X) 0 5)) 11 (2 * (zc place + i) + 1) ((hX_X7_instruction X) 0 6)) P (zu (hX_X7_instruction X) 0 2 (nI (zc ((hX_X7_instruction X) 0 2) + 1))), hX_X7_assemble_lq place n w (i + 1) (zu (zu (zu N 10 (zc place + i) ((hX_X7_instruction X) 0 4)) 11 (2 * (zc place + i)) ((hX_X7_instruction X) 0 5)) 11 (2 * (zc place + i) + 1) ((hX_X7_instruction X) 0 6)) P (zu (hX_X7_instruction X) 0 2 (nI (zc ((hX_X7_instruction X) 0 2) + 1))))) (by first | rfl | simp only [g_X7_assemble_lq]) (m_eq (by first | rfl | simp only [hN_X7_assemble_lq]) rfl (by first | rfl | simp only [hP_X7_assemble_lq]) (by first | rfl | simp only [hX_X7_assemble_lq])) ?_
      exact ih w (i + 1) (zu (zu (zu N 10 (zc place + i) ((hX_X7_instruction X) 0 4)) 11 (2 * (zc place + i)) ((hX_X7_instruction X) 0 5)) 11 (2 * (zc place + i) + 1) ((hX_X7_instruction X) 0 6)) P (zu (hX_X7_instruction X) 0 2 (nI (zc ((hX_X7_instruction X) 0 2) + 1))) _ _ _ (by omega) bp bp1 b4 (tOK_2 (S' := 10 * (i + 1 + 1)) (tOK_instruction hT (by omega)) (by have h9 := (tOK_instruction hT (by omega)).2.1.1.1; omega) (by omega)) (lv_sub hl [1, 2, 3, 0] rfl) hP hS
  have lp24 : ∀ (n : Nat) (w : Nat) (i : Nat) (N : zM) (P : zM) (X : zM) (H : Heap) (locs : List Loc) (ls : Array Slot) (hn : i + n = zc (X 0 1)) (bp : zIn place 48) (bp1 : zc place < 48) (hT : tOK 1000 X) (hX : zIn (X 0 0) 5) (hw : w ≤ i + 1) (hl : lv_has ls 4 [(0, .ref (a 0)), (1, .int place), (2, .int (nI w)), (3, .int (nI i))]) (hP : va_P D vwCl (mW a cI (N, A, P, X)) H) (hS : va_S (mA a) s.heap H locs), W p l e ({ frames := 6, cells := 0, slots := 0, locals := 130 } : Room) s m ([.ref (a 0), .int place] : List Value).toArray below meth c H locs 0 0 (mQi below D a cI [.ref (a 0), .int place] s (g_X7_assemble_lp place n w i N P X) (hN_X7_assemble_lp place n w i N P X, A, hP_X7_assemble_lp place n w i N P X, hX_X7_assemble_lp place n w i N P X)) (F0 m 24 ls []) := by
    intro n
    induction n with
    | zero =>
      intro w i N P X H locs ls hn bp bp1 hT hX hw hl hP hS
      refine lv_iload_n hx hb dX7_assemble_24 rfl (lv_at hl 3 rfl) ?_
      refine lv_aload_n hx hb dX7_assemble_25 rfl (lv_at hl 0 rfl) ?_
      refine mgO5 hx hb hts hiX7 hown hK hP (hts (.fieldLink RX7 81 "BarrelProcessorModel" "length" "I") (by decide +kernel)) dX7_assemble_26 ?_
      refine z_val (z := nI (zc (X 0 1))) hT.1.2 ?_
      refine lv_icmp_ge (tgt := 57) hx hb dX7_assemble_29 (by decide) (fun c29_3 => ?_) (fun c29_3 => absurd (nI_le (by omega) (by have h9 := hT.1.1; omega)) c29_3)
      refine lv_iload_n hx hb dX7_assemble_57 rfl (lv_at hl 1 rfl) ?_
      refine z_val (z := nI (zc place)) bp.2 ?_
      refine lv_iload_n hx hb dX7_assemble_58 rfl (lv_at hl 2 rfl) ?_
      refine lv_iadd hx hb dX7_assemble_59 ?_
      refine z_val (z := nI (zc place + w)) (nI_add _ _) ?_
      refine lv_bipush (v := nI 48) hx hb dX7_assemble_60 (by decide) ?_
      refine lv_icmp_le (tgt := 68) hx hb dX7_assemble_62 (by decide) (fun c62_4 => ?_) (fun c62_4 => ?_)
      · have h9 := hT.1.1
        have b4 : zc place + w ≤ 48 := (nI_leI (by omega) (by decide)).mp c62_4
        refine lv_aload_n hx hb dX7_assemble_68 rfl (lv_at hl 0 rfl) ?_
        refine m_cVv (As := []) (rest := []) ⟨hx, hb, hml, hown, hts⟩ (ct_X7_records l D a cI hJ N A P X hX) (cwV 0 hts gX7_assemble_X7_records rfl rfl rfl (by decide +kernel) ⟨Nat.le_of_ble_eq_true rfl, Nat.le_of_ble_eq_true rfl⟩) hK hP hS (va_recv (ci := 7) hK hP rfl mG_O) rfl hl.1 rfl (Nat.le_of_ble_eq_true rfl) dX7_assemble_69 ⟨Nat.zero_le _, Nat.zero_le _⟩ (fun H locs hP hS => ?_)
        refine lv_aload_n hx hb dX7_assemble_72 rfl (lv_at hl 0 rfl) ?_
        refine lv_iconst (v := nI 0) hx hb dX7_assemble_73 (by decide) ?_
        refine mpO6 hx hb hts hiX7 hown hK hP hJ hS (hts (.fieldLink RX7 88 "BarrelProcessorModel" "spot" "I") (by decide +kernel)) dX7_assemble_74 (fun H locs hP hS => ?_)
        refine lv_iconst (v := nI 0) hx hb dX7_assemble_77 (by decide) ?_
        refine lv_istore_n (lv' := [(3, .int (nI 0)), (0, .ref (a 0)), (1, .int place), (2, .int (nI w))]) hx hb dX7_assemble_78 rfl hl (by decide) rfl (fun ls hl => ?_)
        refine m_toi (r2 := g_X7_assemble_lq place w w 0 N (hP_X7_records N P X) (zu (hX_X7_records N P X) 0 2 (nI 0))) (Z2 := (hN_X7_assemble_lq place w w 0 N (hP_X7_records N P X) (zu (hX_X7_records N P X) 0 2 (nI 0)), A, hP_X7_assemble_lq place w w 0 N (hP_X7_records N P X) (zu (hX_X7_records N P X) 0 2 (nI 0)), hX_X7_assemble_lq place w w 0 N (hP_X7_records N P X) (zu (hX_X7_records N P X) 0 2 (nI 0)))) (by simp only [g_X7_assemble_lp, if_pos c62_4]) (m_eq (by simp only [hN_X7_assemble_lp, if_pos c62_4]) rfl (by simp only [hP_X7_assemble_lp, if_pos c62_4]) (by simp only [hX_X7_assemble_lp, if_pos c62_4])) ?_
        exact lp79 w w 0 N (hP_X7_records N P X) (zu (hX_X7_records N P X) 0 2 (nI 0)) _ _ _ (by omega) bp bp1 b4 (tOK_2 (S' := 10 * (0 + 1)) (tOK_records hT) (by decide) (by decide)) (lv_sub hl [1, 2, 3, 0] rfl) hP hS
      · refine lv_ldc (v := (-100004)) hx hb hown (hts (.constant RX7 84 (-100004)) (by decide +kernel)) dX7_assemble_65 ?_
        exact m_reti hx hb hr hlk rfl hP hS dX7_assemble_67 (by simp only [g_X7_assemble_lp, if_neg c62_4]) (m_eq (by simp only [hN_X7_assemble_lp, if_neg c62_4]) rfl (by simp only [hP_X7_assemble_lp, if_neg c62_4]) (by simp only [hX_X7_assemble_lp, if_neg c62_4]))
    | succ n ih =>
      intro w i N P X H locs ls hn bp bp1 hT hX hw hl hP hS
      refine lv_iload_n hx hb dX7_assemble_24 rfl (lv_at hl 3 rfl) ?_
      refine lv_aload_n hx hb dX7_assemble_25 rfl (lv_at hl 0 rfl) ?_
      refine mgO5 hx hb hts hiX7 hown hK hP (hts (.fieldLink RX7 81 "BarrelProcessorModel" "length" "I") (by decide +kernel)) dX7_assemble_26 ?_
      refine z_val (z := nI (zc (X 0 1))) hT.1.2 ?_
      refine lv_icmp_ge (tgt := 57) hx hb dX7_assemble_29 (by decide) (fun c29_5 => absurd c29_5 (nI_ge (by omega) (by have h9 := hT.1.1; omega))) (fun c29_5 => ?_)
      refine lv_iload_n hx hb dX7_assemble_32 rfl (lv_at hl 2 rfl) ?_
      refine lv_aload_n hx hb dX7_assemble_33 rfl (lv_at hl 0 rfl) ?_
      refine mgO4 hx hb hts hiX7 hown hK hP (hts (.fieldLink RX7 19 "BarrelProcessorModel" "text" "[I") (by decide +kernel)) dX7_assemble_34 ?_
      refine lv_iload_n hx hb dX7_assemble_37 rfl (lv_at hl 3 rfl) ?_
      refine m_iald hx hb hK hP mG_tx (j := i) (by have h9 := hT.1.1; omega) (by decide) dX7_assemble_38 ?_
      refine lv_bipush (v := nI 59) hx hb dX7_assemble_39 (by decide) ?_
      refine lv_icmp_ne (tgt := 48) hx hb dX7_assemble_41 (by decide) (fun c41_6 => ?_) (fun c41_6 => ?_)
      · refine lv_iconst (v := nI 0) hx hb dX7_assemble_48 (by decide) ?_
        refine lv_iadd hx hb dX7_assemble_49 ?_
        refine z_val (z := nI w) (nI_add _ _) ?_
        refine lv_istore_n (lv' := [(2, .int (nI w)), (0, .ref (a 0)), (1, .int place), (3, .int (nI i))]) hx hb dX7_assemble_50 rfl hl (by decide) rfl (fun ls hl => ?_)
        refine lv_iinc (v := nI (i + 1)) (lv' := [(3, .int (nI (i + 1))), (2, .int (nI w)), (0, .ref (a 0)), (1, .int place)]) hx hb dX7_assemble_51 hl (k := 3) rfl (nI_add _ _) (by decide) rfl (fun ls hl => ?_)
        refine lv_goto (tgt := 24) hx hb dX7_assemble_54 (by decide) ?_
        refine m_toi (r2 := g_X7_assemble_lp place n w (i + 1) N P X) (Z2 := (hN_X7_assemble_lp place n w (i + 1) N P X, A, hP_X7_assemble_lp place n w (i + 1) N P X, hX_X7_assemble_lp place n w (i + 1) N P X)) (by simp only [g_X7_assemble_lp, if_neg c41_6]) (m_eq (by simp only [hN_X7_assemble_lp, if_neg c41_6]) rfl (by simp only [hP_X7_assemble_lp, if_neg c41_6]) (by simp only [hX_X7_assemble_lp, if_neg c41_6])) ?_
        exact ih w (i + 1) N P X _ _ _ (by omega) bp bp1 hT hX (by omega) (lv_sub hl [2, 3, 1, 0] rfl) hP hS
      · refine lv_iconst (v := nI 1) hx hb dX7_assemble_44 (by decide) ?_
        refine lv_goto (tgt := 49) hx hb dX7_assemble_45 (by decide) ?_
        refine lv_iadd hx hb dX7_assemble_49 ?_
        refine z_val (z := nI (w + 1)) (nI_add _ _) ?_
        refine lv_istore_n (lv' := [(2, .int (nI (w + 1))), (0, .ref (a 0)), (1, .int place), (3, .int (nI i))]) hx hb dX7_assemble_50 rfl hl (by decide) rfl (fun ls hl => ?_)
        refine lv_iinc (v := nI (i + 1)) (lv' := [(3, .int (nI (i + 1))), (2, .int (nI (w + 1))), (0, .ref (a 0)), (1, .int place)]) hx hb dX7_assemble_51 hl (k := 3) rfl (nI_add _ _) (by decide) rfl (fun ls hl => ?_)
        refine lv_goto (tgt := 24) hx hb dX7_assemble_54 (by decide) ?_
        refine m_toi (r2 := g_X7_assemble_lp place n (w + 1) (i + 1) N P X) (Z2 := (hN_X7_assemble_lp place n (w + 1) (i + 1) N P X, A, hP_X7_assemble_lp place n (w + 1) (i + 1) N P X, hX_X7_assemble_lp place n (w + 1) (i + 1) N P X)) (by simp only [g_X7_assemble_lp, if_pos c41_6]) (m_eq (by simp only [hN_X7_assemble_lp, if_pos c41_6]) rfl (by simp only [hP_X7_assemble_lp, if_pos c41_6]) (by simp only [hX_X7_assemble_lp, if_pos c41_6])) ?_
        exact ih (w + 1) (i + 1) N P X _ _ _ (by omega) bp bp1 hT hX (by omega) (lv_sub hl [2, 3, 1, 0] rfl) hP hS
  refine lv_iload_n hx hb dX7_assemble_0 rfl (lv_at hl 1 rfl) ?_
  refine m_cSi (As := [.int place]) (rest := []) ⟨hx, hb, hml, hown, hts⟩ (ct_X7_isPlace l D a cI hJ N A P X place) (va_cwS 1 hts gX7_assemble_X7_isPlace rfl rfl rfl (by decide +kernel) ⟨Nat.le_of_ble_eq_true rfl, Nat.le_of_ble_eq_true rfl⟩) hK hP hS rfl hl.1 rfl (Nat.le_of_ble_eq_true rfl) dX7_assemble_1 ⟨Nat.zero_le _, Nat.zero_le _⟩ (fun H locs hP hS => ?_)
  refine lv_if_ne (tgt := 10) hx hb dX7_assemble_4 (by decide) (fun c4_7 => ?_) (fun c4_7 => ?_)
  · have bp := m_isPlace c4_7
    have bp1 := bp.1
    refine lv_aload_n hx hb dX7_assemble_10 rfl (lv_at hl 0 rfl) ?_
    refine m_cVi (As := []) (rest := []) ⟨hx, hb, hml, hown, hts⟩ (ct_X7_isFaulty l D a cI hJ N A P X _ hT) (cwV 0 hts gX7_assemble_X7_isFaulty rfl rfl rfl (by decide +kernel) ⟨Nat.le_of_ble_eq_true rfl, Nat.le_of_ble_eq_true rfl⟩) hK hP hS (va_recv (ci := 7) hK hP rfl mG_O) rfl hl.1 rfl (Nat.le_of_ble_eq_true rfl) dX7_assemble_11 ⟨Nat.zero_le _, Nat.zero_le _⟩ (fun H locs hP hS => ?_)
    refine lv_if_eq (tgt := 20) hx hb dX7_assemble_14 (by decide) (fun c14_8 => ?_) (fun c14_8 => ?_)
    · have hT1 : tOK 1000 (hX_X7_isFaulty X) := tOK_isFaulty hT
      have hX1 : zIn ((hX_X7_isFaulty X) 0 0) 5 := by rw [isf_I (by decide)]; exact hX
      refine lv_iconst (v := nI 1) hx hb dX7_assemble_20 (by decide) ?_
      refine lv_istore_n (lv' := [(2, .int (nI 1)), (0, .ref (a 0)), (1, .int place)]) hx hb dX7_assemble_21 rfl hl (by decide) rfl (fun ls hl => ?_)
      refine lv_iconst (v := nI 0) hx hb dX7_assemble_22 (by decide) ?_
      refine lv_istore_n (lv' := [(3, .int (nI 0)), (2, .int (nI 1)), (0, .ref (a 0)), (1, .int place)]) hx hb dX7_assemble_23 rfl hl (by decide) rfl (fun ls hl => ?_)
      refine m_toi (r2 := g_X7_assemble_lp place (zc ((hX_X7_isFaulty X) 0 1)) 1 0 N P (hX_X7_isFaulty X)) (Z2 := (hN_X7_assemble_lp place (zc ((hX_X7_isFaulty X) 0 1)) 1 0 N P (hX_X7_isFaulty X), A, hP_X7_assemble_lp place (zc ((hX_X7_isFaulty X) 0 1)) 1 0 N P (hX_X7_isFaulty X), hX_X7_assemble_lp place (zc ((hX_X7_isFaulty X) 0 1)) 1 0 N P (hX_X7_isFaulty X))) (by simp only [g_X7_assemble, if_neg c4_7, if_pos c14_8]) (m_eq (by simp only [hN_X7_assemble, if_neg c4_7, if_pos c14_8]) rfl (by simp only [hP_X7_assemble, if_neg c4_7, if_pos c14_8]) (by simp only [hX_X7_assemble, if_neg c4_7, if_pos c14_8])) ?_
      exact lp24 (zc ((hX_X7_isFaulty X) 0 1)) 1 0 N P (hX_X7_isFaulty X) _ _ _ (by omega) bp bp1 hT1 hX1 (by decide) (lv_sub hl [2, 3, 1, 0] rfl) hP hS
    · refine lv_ldc (v := (-100003)) hx hb hown (hts (.constant RX7 80 (-100003)) (by decide +kernel)) dX7_assemble_17 ?_
      exact m_reti hx hb hr hlk rfl hP hS dX7_assemble_19 (by simp only [g_X7_assemble, if_neg c4_7, if_neg c14_8]) (m_eq (by simp only [hN_X7_assemble, if_neg c4_7, if_neg c14_8]) rfl (by simp only [hP_X7_assemble, if_neg c4_7, if_neg c14_8]) (by simp only [hX_X7_assemble, if_neg c4_7, if_neg c14_8]))
  · refine lv_ldc (v := (-100001)) hx hb hown (hts (.constant RX7 75 (-100001)) (by decide +kernel)) dX7_assemble_7 ?_
    exact m_reti hx hb hr hlk rfl hP hS dX7_assemble_9 (by simp only [g_X7_assemble, if_pos c4_7]) (m_eq (by simp only [hN_X7_assemble, if_pos c4_7]) rfl (by simp only [hP_X7_assemble, if_pos c4_7]) (by simp only [hX_X7_assemble, if_pos c4_7]))
