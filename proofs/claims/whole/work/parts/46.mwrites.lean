def g_X7_start_lp (thread : Int32) (place : Int32) : Nat → Int32 → Nat → zM → zM → zM → Int32
  | 0, had, i, N, P, X => had
  | n + 1, had, i, N, P, X => g_X7_start_lp thread place n had (i + 1) (zu N ((zc thread) + 20) i (nI 0)) P X
def hN_X7_start_lp (thread : Int32) (place : Int32) : Nat → Int32 → Nat → zM → zM → zM → zM
  | 0, had, i, N, P, X => zu (zu N 5 (zc thread) (-1)) 8 (zc thread) (nI 0)
  | n + 1, had, i, N, P, X => hN_X7_start_lp thread place n had (i + 1) (zu N ((zc thread) + 20) i (nI 0)) P X
def hP_X7_start_lp (thread : Int32) (place : Int32) : Nat → Int32 → Nat → zM → zM → zM → zM
  | 0, had, i, N, P, X => P
  | n + 1, had, i, N, P, X => hP_X7_start_lp thread place n had (i + 1) (zu N ((zc thread) + 20) i (nI 0)) P X
def hX_X7_start_lp (thread : Int32) (place : Int32) : Nat → Int32 → Nat → zM → zM → zM → zM
  | 0, had, i, N, P, X => X
  | n + 1, had, i, N, P, X => hX_X7_start_lp thread place n had (i + 1) (zu N ((zc thread) + 20) i (nI 0)) P X
def g_X7_start (thread : Int32) (place : Int32) (N P X : zM) : Int32 := if (g_X7_isThread thread) = 0 then (-100001) else if (g_X7_isPlace place) = 0 then (-100001) else g_X7_start_lp thread place 4 (N 0 (zc thread)) 0 (zu (zu N 0 (zc thread) (nI 1)) 1 (zc thread) place) (hP_X7_records N P X) (hX_X7_records N P X)
def hN_X7_start (thread : Int32) (place : Int32) (N P X : zM) : zM := if (g_X7_isThread thread) = 0 then N else if (g_X7_isPlace place) = 0 then N else hN_X7_start_lp thread place 4 (N 0 (zc thread)) 0 (zu (zu N 0 (zc thread) (nI 1)) 1 (zc thread) place) (hP_X7_records N P X) (hX_X7_records N P X)
def hP_X7_start (thread : Int32) (place : Int32) (N P X : zM) : zM := if (g_X7_isThread thread) = 0 then P else if (g_X7_isPlace place) = 0 then P else hP_X7_start_lp thread place 4 (N 0 (zc thread)) 0 (zu (zu N 0 (zc thread) (nI 1)) 1 (zc thread) place) (hP_X7_records N P X) (hX_X7_records N P X)
def hX_X7_start (thread : Int32) (place : Int32) (N P X : zM) : zM := if (g_X7_isThread thread) = 0 then X else if (g_X7_isPlace place) = 0 then X else hX_X7_start_lp thread place 4 (N 0 (zc thread)) 0 (zu (zu N 0 (zc thread) (nI 1)) 1 (zc thread) place) (hP_X7_records N P X) (hX_X7_records N P X)
set_option maxHeartbeats 4000000 in
set_option maxRecDepth 100000 in
theorem ct_X7_start (l : Launch) (D : va_G) (a : Nat → Nat) (cI : ClassId) (hJ : mJ a) (N A P X : zM) (thread : Int32) (place : Int32) (hX : zIn (X 0 0) 5) : mCi l yX7_start wsX7_start ({ frames := 2, cells := 0, slots := 0, locals := 42 } : Room) D a cI [.ref (a 0), .int thread, .int place] (N, A, P, X) (g_X7_start thread place N P X) (hN_X7_start thread place N P X, A, hP_X7_start thread place N P X, hX_X7_start thread place N P X) := by
  have hiX7 : ∀ w ∈ wsX70, w ∈ wsX7_start := by decide +kernel
  refine m_ofi (cc := cX7_start) (maxL := 5) (own := RX7) (by decide) rfl (Nat.le_of_ble_eq_true rfl) rfl (fun p e s m below meth c ls hx hb hr hml hts hown hlk hl hK hP hS => ?_)
  have hl : lv_has ls 5 [(0, .ref (a 0)), (1, .int thread), (2, .int place)] := hl
  have lp57 : ∀ (n : Nat) (had : Int32) (i : Nat) (N : zM) (P : zM) (X : zM) (H : Heap) (locs : List Loc) (ls : Array Slot) (hn : i + n = 4) (btt : zIn thread 4) (btt1 : zc thread < 4) (hl : lv_has ls 5 [(0, .ref (a 0)), (1, .int thread), (2, .int place), (3, .int had), (4, .int (nI i))]) (hP : va_P D vwCl (mW a cI (N, A, P, X)) H) (hS : va_S (mA a) s.heap H locs), W p l e ({ frames := 2, cells := 0, slots := 0, locals := 42 } : Room) s m ([.ref (a 0), .int thread, .int place] : List Value).toArray below meth c H locs 0 0 (mQi below D a cI [.ref (a 0), .int thread, .int place] s (g_X7_start_lp thread place n had i N P X) (hN_X7_start_lp thread place n had i N P X, A, hP_X7_start_lp thread place n had i N P X, hX_X7_start_lp thread place n had i N P X)) (F0 m 57 ls []) := by
    intro n
    induction n with
    | zero =>
      intro had i N P X H locs ls hn btt btt1 hl hP hS
      refine lv_iload hx hb dX7_start_57 (lv_at hl 4 rfl) ?_
      refine lv_iconst (v := nI 4) hx hb dX7_start_59 (by decide) ?_
      refine lv_icmp_ge (tgt := 83) hx hb dX7_start_60 (by decide) (fun c60_1 => ?_) (fun c60_1 => absurd (nI_le (by omega) (by omega)) c60_1)
      refine lv_aload_n hx hb dX7_start_83 rfl (lv_at hl 0 rfl) ?_
      refine mgO0 hx hb hts hiX7 hown hK hP (hts (.fieldLink RX7 7 "BarrelProcessorModel" "s" "[I") (by decide +kernel)) dX7_start_84 ?_
      refine lv_iload_n hx hb dX7_start_87 rfl (lv_at hl 1 rfl) ?_
      refine z_val (z := nI (zc thread)) btt.2 ?_
      refine lv_bipush (v := nI 9) hx hb dX7_start_88 (by decide) ?_
      refine m_cSi (As := [.int (nI (zc thread)), .int (nI 9)]) (rest := [.ref (a 1)]) ⟨hx, hb, hml, hown, hts⟩ (ct_X7_at l D a cI hJ N A P X (nI (zc thread)) (nI 9)) (va_cwS 2 hts gX7_start_X7_at rfl rfl rfl (by decide +kernel) ⟨Nat.le_of_ble_eq_true rfl, Nat.le_of_ble_eq_true rfl⟩) hK hP hS rfl hl.1 rfl (Nat.le_of_ble_eq_true rfl) dX7_start_90 ⟨Nat.zero_le _, Nat.zero_le _⟩ (fun H locs hP hS => ?_)
      refine z_val (z := nI (14 * (zc thread) + 9)) (z_at _ _) ?_
      refine lv_iconst (v := (-1)) hx hb dX7_start_93 (by decide) ?_
      refine m_iast (Z' := (zu N 5 (zc thread) (-1), A, P, X)) hx hb hK hP hJ hS mG_s (j := 14 * (zc thread) + 9) (by omega) (by decide) dX7_start_94 (mS_s (zf_t9 (by omega))) (fun H locs hP hS => ?_)
      refine lv_aload_n hx hb dX7_start_95 rfl (lv_at hl 0 rfl) ?_
      refine mgO0 hx hb hts hiX7 hown hK hP (hts (.fieldLink RX7 7 "BarrelProcessorModel" "s" "[I") (by decide +kernel)) dX7_start_96 ?_
      refine lv_iload_n hx hb dX7_start_99 rfl (lv_at hl 1 rfl) ?_
      refine z_val (z := nI (zc thread)) btt.2 ?_
      refine lv_bipush (v := nI 10) hx hb dX7_start_100 (by decide) ?_
      refine m_cSi (As := [.int (nI (zc thread)), .int (nI 10)]) (rest := [.ref (a 1)]) ⟨hx, hb, hml, hown, hts⟩ (ct_X7_at l D a cI hJ (zu N 5 (zc thread) (-1)) A P X (nI (zc thread)) (nI 10)) (va_cwS 2 hts gX7_start_X7_at rfl rfl rfl (by decide +kernel) ⟨Nat.le_of_ble_eq_true rfl, Nat.le_of_ble_eq_true rfl⟩) hK hP hS rfl hl.1 rfl (Nat.le_of_ble_eq_true rfl) dX7_start_102 ⟨Nat.zero_le _, Nat.zero_le _⟩ (fun H locs hP hS => ?_)
      refine z_val (z := nI (14 * (zc thread) + 10)) (z_at _ _) ?_
      refine lv_iconst (v := nI 0) hx hb dX7_start_105 (by decide) ?_
      refine m_iast (Z' := (zu (zu N 5 (zc thread) (-1)) 8 (zc thread) (nI 0), A, P, X)) hx hb hK hP hJ hS mG_s (j := 14 * (zc thread) + 10) (by omega) (by decide) dX7_start_106 (mS_s (zf_t10 (by omega))) (fun H locs hP hS => ?_)
      refine lv_iload_n hx hb dX7_start_107 rfl (lv_at hl 3 rfl) ?_
      exact m_reti hx hb hr hlk rfl hP hS dX7_start_108 (by first | rfl | simp only [g_X7_start_lp]) (m_eq (by first | rfl | simp only [hN_X7_start_lp]) rfl (by first | rfl | simp only [hP_X7_start_lp]) (by first | rfl | simp only [hX_X7_start_lp]))
    | succ n ih =>
      intro had i N P X H locs ls hn btt btt1 hl hP hS
      refine lv_iload hx hb dX7_start_57 (lv_at hl 4 rfl) ?_
      refine lv_iconst (v := nI 4) hx hb dX7_start_59 (by decide) ?_
      refine lv_icmp_ge (tgt := 83) hx hb dX7_start_60 (by decide) (fun c60_2 => absurd c60_2 (nI_ge (by omega) (by decide))) (fun c60_2 => ?_)
      refine lv_aload_n hx hb dX7_start_63 rfl (lv_at hl 0 rfl) ?_
      refine mgO0 hx hb hts hiX7 hown hK hP (hts (.fieldLink RX7 7 "BarrelProcessorModel" "s" "[I") (by decide +kernel)) dX7_start_64 ?_
      refine lv_iload_n hx hb dX7_start_67 rfl (lv_at hl 1 rfl) ?_
      refine z_val (z := nI (zc thread)) btt.2 ?_
      refine lv_iconst (v := nI 2) hx hb dX7_start_68 (by decide) ?_
      refine lv_iload hx hb dX7_start_69 (lv_at hl 4 rfl) ?_
      refine lv_iadd hx hb dX7_start_71 ?_
      refine z_val (z := nI (2 + i)) (nI_add _ _) ?_
      refine m_cSi (As := [.int (nI (zc thread)), .int (nI (2 + i))]) (rest := [.ref (a 1)]) ⟨hx, hb, hml, hown, hts⟩ (ct_X7_at l D a cI hJ N A P X (nI (zc thread)) (nI (2 + i))) (va_cwS 2 hts gX7_start_X7_at rfl rfl rfl (by decide +kernel) ⟨Nat.le_of_ble_eq_true rfl, Nat.le_of_ble_eq_true rfl⟩) hK hP hS rfl hl.1 rfl (Nat.le_of_ble_eq_true rfl) dX7_start_72 ⟨Nat.zero_le _, Nat.zero_le _⟩ (fun H locs hP hS => ?_)
      refine z_val (z := nI (14 * (zc thread) + (2 + i))) (z_at _ _) ?_
      refine lv_iconst (v := nI 0) hx hb dX7_start_75 (by decide) ?_
      refine m_iast (Z' := (zu N ((zc thread) + 20) i (nI 0), A, P, X)) hx hb hK hP hJ hS mG_s (j := 14 * (zc thread) + (2 + i)) (by omega) (by decide) dX7_start_76 (mS_s (zf_rg (by omega) (by omega))) (fun H locs hP hS => ?_)
      refine lv_iinc (v := nI (i + 1)) (lv' := [(4, .int (nI (i + 1))), (0, .ref (a 0)), (1, .int thread), (2, .int place), (3, .int had)]) hx hb dX7_start_77 hl (k := 4) rfl (nI_add _ _) (by decide) rfl (fun ls hl => ?_)
      refine lv_goto (tgt := 57) hx hb dX7_start_80 (by decide) ?_
      refine m_toi (r2 := g_X7_start_lp thread place n had (i + 1) (zu N ((zc thread) + 20) i (nI 0)) P X) (Z2 := (hN_X7_start_lp thread place n had (i + 1) (zu N ((zc thread) + 20) i (nI 0)) P X, A, hP_X7_start_lp thread place n had (i + 1) (zu N ((zc thread) + 20) i (nI 0)) P X, hX_X7_start_lp thread place n had (i + 1) (zu N ((zc thread) + 20) i (nI 0)) P X)) (by first | rfl | simp only [g_X7_start_lp]) (m_eq (by first | rfl | simp only [hN_X7_start_lp]) rfl (by first | rfl | simp only [hP_X7_start_lp]) (by first | rfl | simp only [hX_X7_start_lp])) ?_
      exact ih had (i + 1) (zu N ((zc thread) + 20) i (nI 0)) P X _ _ _ (by omega) btt btt1 (lv_sub hl [1, 2, 3, 4, 0] rfl) hP hS
  refine lv_iload_n hx hb dX7_start_0 rfl (lv_at hl 1 rfl) ?_
  refine m_cSi (As := [.int thread]) (rest := []) ⟨hx, hb, hml, hown, hts⟩ (ct_X7_isThread l D a cI hJ N A P X thread) (va_cwS 1 hts gX7_start_X7_isThread rfl rfl rfl (by decide +kernel) ⟨Nat.le_of_ble_eq_true rfl, Nat.le_of_ble_eq_true rfl⟩) hK hP hS rfl hl.1 rfl (Nat.le_of_ble_eq_true rfl) dX7_start_1 ⟨Nat.zero_le _, Nat.zero_le _⟩ (fun H locs hP hS => ?_)
  refine lv_if_eq (tgt := 14) hx hb dX7_start_4 (by decide) (fun c4_3 => ?_) (fun c4_3 => ?_)
  · refine lv_ldc (v := (-100001)) hx hb hown (hts (.constant RX7 75 (-100001)) (by decide +kernel)) dX7_start_14 ?_
    exact m_reti hx hb hr hlk rfl hP hS dX7_start_16 (by simp only [g_X7_start, if_pos c4_3]) (m_eq (by simp only [hN_X7_start, if_pos c4_3]) rfl (by simp only [hP_X7_start, if_pos c4_3]) (by simp only [hX_X7_start, if_pos c4_3]))
  · have bt := m_isThread c4_3
    have bt1 := bt.1
    refine lv_iload_n hx hb dX7_start_7 rfl (lv_at hl 2 rfl) ?_
    refine m_cSi (As := [.int place]) (rest := []) ⟨hx, hb, hml, hown, hts⟩ (ct_X7_isPlace l D a cI hJ N A P X place) (va_cwS 1 hts gX7_start_X7_isPlace rfl rfl rfl (by decide +kernel) ⟨Nat.le_of_ble_eq_true rfl, Nat.le_of_ble_eq_true rfl⟩) hK hP hS rfl hl.1 rfl (Nat.le_of_ble_eq_true rfl) dX7_start_8 ⟨Nat.zero_le _, Nat.zero_le _⟩ (fun H locs hP hS => ?_)
    refine lv_if_ne (tgt := 17) hx hb dX7_start_11 (by decide) (fun c11_4 => ?_) (fun c11_4 => ?_)
    · have bp := m_isPlace c11_4
      refine lv_aload_n hx hb dX7_start_17 rfl (lv_at hl 0 rfl) ?_
      refine m_cVv (As := []) (rest := []) ⟨hx, hb, hml, hown, hts⟩ (ct_X7_records l D a cI hJ N A P X hX) (cwV 0 hts gX7_start_X7_records rfl rfl rfl (by decide +kernel) ⟨Nat.le_of_ble_eq_true rfl, Nat.le_of_ble_eq_true rfl⟩) hK hP hS (va_recv (ci := 7) hK hP rfl mG_O) rfl hl.1 rfl (Nat.le_of_ble_eq_true rfl) dX7_start_18 ⟨Nat.zero_le _, Nat.zero_le _⟩ (fun H locs hP hS => ?_)
      refine lv_aload_n hx hb dX7_start_21 rfl (lv_at hl 0 rfl) ?_
      refine mgO0 hx hb hts hiX7 hown hK hP (hts (.fieldLink RX7 7 "BarrelProcessorModel" "s" "[I") (by decide +kernel)) dX7_start_22 ?_
      refine lv_iload_n hx hb dX7_start_25 rfl (lv_at hl 1 rfl) ?_
      refine z_val (z := nI (zc thread)) bt.2 ?_
      refine lv_iconst (v := nI 0) hx hb dX7_start_26 (by decide) ?_
      refine m_cSi (As := [.int (nI (zc thread)), .int (nI 0)]) (rest := [.ref (a 1)]) ⟨hx, hb, hml, hown, hts⟩ (ct_X7_at l D a cI hJ N A (hP_X7_records N P X) (hX_X7_records N P X) (nI (zc thread)) (nI 0)) (va_cwS 2 hts gX7_start_X7_at rfl rfl rfl (by decide +kernel) ⟨Nat.le_of_ble_eq_true rfl, Nat.le_of_ble_eq_true rfl⟩) hK hP hS rfl hl.1 rfl (Nat.le_of_ble_eq_true rfl) dX7_start_27 ⟨Nat.zero_le _, Nat.zero_le _⟩ (fun H locs hP hS => ?_)
      refine z_val (z := nI (14 * (zc thread) + 0)) (z_at _ _) ?_
      refine m_iald hx hb hK hP mG_s (j := 14 * (zc thread) + 0) (by omega) (by decide) dX7_start_30 ?_
      refine z_val (z := N 0 (zc thread)) (zen_of (zf_t0 (by omega))) ?_
      refine lv_istore_n (lv' := [(3, .int (N 0 (zc thread))), (0, .ref (a 0)), (1, .int thread), (2, .int place)]) hx hb dX7_start_31 rfl hl (by decide) rfl (fun ls hl => ?_)
      refine lv_aload_n hx hb dX7_start_32 rfl (lv_at hl 1 rfl) ?_
      refine mgO0 hx hb hts hiX7 hown hK hP (hts (.fieldLink RX7 7 "BarrelProcessorModel" "s" "[I") (by decide +kernel)) dX7_start_33 ?_
      refine lv_iload_n hx hb dX7_start_36 rfl (lv_at hl 2 rfl) ?_
      refine z_val (z := nI (zc thread)) bt.2 ?_
      refine lv_iconst (v := nI 0) hx hb dX7_start_37 (by decide) ?_
      refine m_cSi (As := [.int (nI (zc thread)), .int (nI 0)]) (rest := [.ref (a 1)]) ⟨hx, hb, hml, hown, hts⟩ (ct_X7_at l D a cI hJ N A (hP_X7_records N P X) (hX_X7_records N P X) (nI (zc thread)) (nI 0)) (va_cwS 2 hts gX7_start_X7_at rfl rfl rfl (by decide +kernel) ⟨Nat.le_of_ble_eq_true rfl, Nat.le_of_ble_eq_true rfl⟩) hK hP hS rfl hl.1 rfl (Nat.le_of_ble_eq_true rfl) dX7_start_38 ⟨Nat.zero_le _, Nat.zero_le _⟩ (fun H locs hP hS => ?_)
      refine z_val (z := nI (14 * (zc thread) + 0)) (z_at _ _) ?_
      refine lv_iconst (v := nI 1) hx hb dX7_start_41 (by decide) ?_
      refine m_iast (Z' := (zu N 0 (zc thread) (nI 1), A, hP_X7_records N P X, hX_X7_records N P X)) hx hb hK hP hJ hS mG_s (j := 14 * (zc thread) + 0) (by omega) (by decide) dX7_start_42 (mS_s (zf_t0 (by omega))) (fun H locs hP hS => ?_)
      refine lv_aload_n hx hb dX7_start_43 rfl (lv_at hl 1 rfl) ?_
      refine mgO0 hx hb hts hiX7 hown hK hP (hts (.fieldLink RX7 7 "BarrelProcessorModel" "s" "[I") (by decide +kernel)) dX7_start_44 ?_
      refine lv_iload_n hx hb dX7_start_47 rfl (lv_at hl 2 rfl) ?_
      refine z_val (z := nI (zc thread)) bt.2 ?_
      refine lv_iconst (v := nI 1) hx hb dX7_start_48 (by decide) ?_
      refine m_cSi (As := [.int (nI (zc thread)), .int (nI 1)]) (rest := [.ref (a 1)]) ⟨hx, hb, hml, hown, hts⟩ (ct_X7_at l D a cI hJ (zu N 0 (zc thread) (nI 1)) A (hP_X7_records N P X) (hX_X7_records N P X) (nI (zc thread)) (nI 1)) (va_cwS 2 hts gX7_start_X7_at rfl rfl rfl (by decide +kernel) ⟨Nat.le_of_ble_eq_true rfl, Nat.le_of_ble_eq_true rfl⟩) hK hP hS rfl hl.1 rfl (Nat.le_of_ble_eq_true rfl) dX7_start_49 ⟨Nat.zero_le _, Nat.zero_le _⟩ (fun H locs hP hS => ?_)
      refine z_val (z := nI (14 * (zc thread) + 1)) (z_at _ _) ?_
      refine lv_iload_n hx hb dX7_start_52 rfl (lv_at hl 3 rfl) ?_
      refine m_iast (Z' := (zu (zu N 0 (zc thread) (nI 1)) 1 (zc thread) place, A, hP_X7_records N P X, hX_X7_records N P X)) hx hb hK hP hJ hS mG_s (j := 14 * (zc thread) + 1) (by omega) (by decide) dX7_start_53 (mS_s (zf_t1 (by omega))) (fun H locs hP hS => ?_)
      refine lv_iconst (v := nI 0) hx hb dX7_start_54 (by decide) ?_
      refine lv_istore (lv' := [(4, .int (nI 0)), (3, .int (N 0 (zc thread))), (0, .ref (a 0)), (1, .int thread), (2, .int place)]) hx hb dX7_start_55 hl (by decide) rfl (fun ls hl => ?_)
      refine m_toi (r2 := g_X7_start_lp thread place 4 (N 0 (zc thread)) 0 (zu (zu N 0 (zc thread) (nI 1)) 1 (zc thread) place) (hP_X7_records N P X) (hX_X7_records N P X)) (Z2 := (hN_X7_start_lp thread place 4 (N 0 (zc thread)) 0 (zu (zu N 0 (zc thread) (nI 1)) 1 (zc thread) place) (hP_X7_records N P X) (hX_X7_records N P X), A, hP_X7_start_lp thread place 4 (N 0 (zc thread)) 0 (zu (zu N 0 (zc thread) (nI 1)) 1 (zc thread) place) (hP_X7_records N P X) (hX_X7_records N P X), hX_X7_start_lp thread place 4 (N 0 (zc thread)) 0 (zu (zu N 0 (zc thread) (nI 1)) 1 (zc thread) place) (hP_X7_records N P X) (hX_X7_records N P X))) (by simp only [g_X7_start, if_neg c4_3, if_neg c11_4]) (m_eq (by simp only [hN_X7_start, if_neg c4_3, if_neg c11_4]) rfl (by simp only [hP_X7_start, if_neg c4_3, if_neg c11_4]) (by simp only [hX_X7_start, if_neg c4_3, if_neg c11_4])) ?_
      exact lp57 4 (N 0 (zc thread)) 0 (zu (zu N 0 (zc thread) (nI 1)) 1 (zc thread) place) (hP_X7_records N P X) (hX_X7_records N P X) _ _ _ (by omega) bt bt.1 (lv_sub hl [2, 3, 4, 1, 0] rfl) hP hS
    · refine lv_ldc (v := (-100001)) hx hb hown (hts (.constant RX7 75 (-100001)) (by decide +kernel)) dX7_start_14 ?_
      exact m_reti hx hb hr hlk rfl hP hS dX7_start_16 (by simp only [g_X7_start, if_neg c4_3, if_pos c11_4]) (m_eq (by simp only [hN_X7_start, if_neg c4_3, if_pos c11_4]) rfl (by simp only [hP_X7_start, if_neg c4_3, if_pos c11_4]) (by simp only [hX_X7_start, if_neg c4_3, if_pos c11_4]))

def g_X7_halt (thread : Int32) (N P X : zM) : Int32 := if (g_X7_isThread thread) = 0 then (-100001) else N 0 (zc thread)
def hN_X7_halt (thread : Int32) (N P X : zM) : zM := if (g_X7_isThread thread) = 0 then N else zu (zu N 0 (zc thread) (nI 0)) 8 (zc thread) (nI 0)
def hP_X7_halt (thread : Int32) (N P X : zM) : zM := if (g_X7_isThread thread) = 0 then P else hP_X7_records N P X
def hX_X7_halt (thread : Int32) (N P X : zM) : zM := if (g_X7_isThread thread) = 0 then X else hX_X7_records N P X
set_option maxHeartbeats 4000000 in
set_option maxRecDepth 100000 in
theorem ct_X7_halt (l : Launch) (D : va_G) (a : Nat → Nat) (cI : ClassId) (hJ : mJ a) (N A P X : zM) (thread : Int32) (hX : zIn (X 0 0) 5) : mCi l yX7_halt wsX7_halt ({ frames := 2, cells := 0, slots := 0, locals := 42 } : Room) D a cI [.ref (a 0), .int thread] (N, A, P, X) (g_X7_halt thread N P X) (hN_X7_halt thread N P X, A, hP_X7_halt thread N P X, hX_X7_halt thread N P X) := by
  have hiX7 : ∀ w ∈ wsX70, w ∈ wsX7_halt := by decide +kernel
  refine m_ofi (cc := cX7_halt) (maxL := 3) (own := RX7) (by decide) rfl (Nat.le_of_ble_eq_true rfl) rfl (fun p e s m below meth c ls hx hb hr hml hts hown hlk hl hK hP hS => ?_)
  have hl : lv_has ls 3 [(0, .ref (a 0)), (1, .int thread)] := hl
  refine lv_iload_n hx hb dX7_halt_0 rfl (lv_at hl 1 rfl) ?_
  refine m_cSi (As := [.int thread]) (rest := []) ⟨hx, hb, hml, hown, hts⟩ (ct_X7_isThread l D a cI hJ N A P X thread) (va_cwS 1 hts gX7_halt_X7_isThread rfl rfl rfl (by decide +kernel) ⟨Nat.le_of_ble_eq_true rfl, Nat.le_of_ble_eq_true rfl⟩) hK hP hS rfl hl.1 rfl (Nat.le_of_ble_eq_true rfl) dX7_halt_1 ⟨Nat.zero_le _, Nat.zero_le _⟩ (fun H locs hP hS => ?_)
  refine lv_if_ne (tgt := 10) hx hb dX7_halt_4 (by decide) (fun c4_1 => ?_) (fun c4_1 => ?_)
  · have bt := m_isThread c4_1
    have bt1 := bt.1
    refine lv_aload_n hx hb dX7_halt_10 rfl (lv_at hl 0 rfl) ?_
    refine m_cVv (As := []) (rest := []) ⟨hx, hb, hml, hown, hts⟩ (ct_X7_records l D a cI hJ N A P X hX) (cwV 0 hts gX7_halt_X7_records rfl rfl rfl (by decide +kernel) ⟨Nat.le_of_ble_eq_true rfl, Nat.le_of_ble_eq_true rfl⟩) hK hP hS (va_recv (ci := 7) hK hP rfl mG_O) rfl hl.1 rfl (Nat.le_of_ble_eq_true rfl) dX7_halt_11 ⟨Nat.zero_le _, Nat.zero_le _⟩ (fun H locs hP hS => ?_)
    refine lv_aload_n hx hb dX7_halt_14 rfl (lv_at hl 0 rfl) ?_
    refine mgO0 hx hb hts hiX7 hown hK hP (hts (.fieldLink RX7 7 "BarrelProcessorModel" "s" "[I") (by decide +kernel)) dX7_halt_15 ?_
    refine lv_iload_n hx hb dX7_halt_18 rfl (lv_at hl 1 rfl) ?_
    refine z_val (z := nI (zc thread)) bt.2 ?_
    refine lv_iconst (v := nI 0) hx hb dX7_halt_19 (by decide) ?_
    refine m_cSi (As := [.int (nI (zc thread)), .int (nI 0)]) (rest := [.ref (a 1)]) ⟨hx, hb, hml, hown, hts⟩ (ct_X7_at l D a cI hJ N A (hP_X7_records N P X) (hX_X7_records N P X) (nI (zc thread)) (nI 0)) (va_cwS 2 hts gX7_halt_X7_at rfl rfl rfl (by decide +kernel) ⟨Nat.le_of_ble_eq_true rfl, Nat.le_of_ble_eq_true rfl⟩) hK hP hS rfl hl.1 rfl (Nat.le_of_ble_eq_true rfl) dX7_halt_20 ⟨Nat.zero_le _, Nat.zero_le _⟩ (fun H locs hP hS => ?_)
    refine z_val (z := nI (14 * (zc thread) + 0)) (z_at _ _) ?_
    refine m_iald hx hb hK hP mG_s (j := 14 * (zc thread) + 0) (by omega) (by decide) dX7_halt_23 ?_
    refine z_val (z := N 0 (zc thread)) (zen_of (zf_t0 (by omega))) ?_
    refine lv_istore_n (lv' := [(2, .int (N 0 (zc thread))), (0, .ref (a 0)), (1, .int thread)]) hx hb dX7_halt_24 rfl hl (by decide) rfl (fun ls hl => ?_)
    refine lv_aload_n hx hb dX7_halt_25 rfl (lv_at hl 1 rfl) ?_
    refine mgO0 hx hb hts hiX7 hown hK hP (hts (.fieldLink RX7 7 "BarrelProcessorModel" "s" "[I") (by decide +kernel)) dX7_halt_26 ?_
    refine lv_iload_n hx hb dX7_halt_29 rfl (lv_at hl 2 rfl) ?_
    refine z_val (z := nI (zc thread)) bt.2 ?_
    refine lv_iconst (v := nI 0) hx hb dX7_halt_30 (by decide) ?_
    refine m_cSi (As := [.int (nI (zc thread)), .int (nI 0)]) (rest := [.ref (a 1)]) ⟨hx, hb, hml, hown, hts⟩ (ct_X7_at l D a cI hJ N A (hP_X7_records N P X) (hX_X7_records N P X) (nI (zc thread)) (nI 0)) (va_cwS 2 hts gX7_halt_X7_at rfl rfl rfl (by decide +kernel) ⟨Nat.le_of_ble_eq_true rfl, Nat.le_of_ble_eq_true rfl⟩) hK hP hS rfl hl.1 rfl (Nat.le_of_ble_eq_true rfl) dX7_halt_31 ⟨Nat.zero_le _, Nat.zero_le _⟩ (fun H locs hP hS => ?_)
    refine z_val (z := nI (14 * (zc thread) + 0)) (z_at _ _) ?_
    refine lv_iconst (v := nI 0) hx hb dX7_halt_34 (by decide) ?_
    refine m_iast (Z' := (zu N 0 (zc thread) (nI 0), A, hP_X7_records N P X, hX_X7_records N P X)) hx hb hK hP hJ hS mG_s (j := 14 * (zc thread) + 0) (by omega) (by decide) dX7_halt_35 (mS_s (zf_t0 (by omega))) (fun H locs hP hS => ?_)
    refine lv_aload_n hx hb dX7_halt_36 rfl (lv_at hl 1 rfl) ?_
    refine mgO0 hx hb hts hiX7 hown hK hP (hts (.fieldLink RX7 7 "BarrelProcessorModel" "s" "[I") (by decide +kernel)) dX7_halt_37 ?_
    refine lv_iload_n hx hb dX7_halt_40 rfl (lv_at hl 2 rfl) ?_
    refine z_val (z := nI (zc thread)) bt.2 ?_
    refine lv_bipush (v := nI 10) hx hb dX7_halt_41 (by decide) ?_
    refine m_cSi (As := [.int (nI (zc thread)), .int (nI 10)]) (rest := [.ref (a 1)]) ⟨hx, hb, hml, hown, hts⟩ (ct_X7_at l D a cI hJ (zu N 0 (zc thread) (nI 0)) A (hP_X7_records N P X) (hX_X7_records N P X) (nI (zc thread)) (nI 10)) (va_cwS 2 hts gX7_halt_X7_at rfl rfl rfl (by decide +kernel) ⟨Nat.le_of_ble_eq_true rfl, Nat.le_of_ble_eq_true rfl⟩) hK hP hS rfl hl.1 rfl (Nat.le_of_ble_eq_true rfl) dX7_halt_43 ⟨Nat.zero_le _, Nat.zero_le _⟩ (fun H locs hP hS => ?_)
    refine z_val (z := nI (14 * (zc thread) + 10)) (z_at _ _) ?_
    refine lv_iconst (v := nI 0) hx hb dX7_halt_46 (by decide) ?_
    refine m_iast (Z' := (zu (zu N 0 (zc thread) (nI 0)) 8 (zc thread) (nI 0), A, hP_X7_records N P X, hX_X7_records N P X)) hx hb hK hP hJ hS mG_s (j := 14 * (zc thread) + 10) (by omega) (by decide) dX7_halt_47 (mS_s (zf_t10 (by omega))) (fun H locs hP hS => ?_)
    refine lv_iload_n hx hb dX7_halt_48 rfl (lv_at hl 0 rfl) ?_
    exact m_reti hx hb hr hlk rfl hP hS dX7_halt_49 (by simp only [g_X7_halt, if_neg c4_1]) (m_eq (by simp only [hN_X7_halt, if_neg c4_1]) rfl (by simp only [hP_X7_halt, if_neg c4_1]) (by simp only [hX_X7_halt, if_neg c4_1]))
  · refine lv_ldc (v := (-100001)) hx hb hown (hts (.constant RX7 75 (-100001)) (by decide +kernel)) dX7_halt_7 ?_
    exact m_reti hx hb hr hlk rfl hP hS dX7_halt_9 (by simp only [g_X7_halt, if_pos c4_1]) (m_eq (by simp only [hN_X7_halt, if_pos c4_1]) rfl (by simp only [hP_X7_halt, if_pos c4_1]) (by simp only [hX_X7_halt, if_pos c4_1]))

def g_X7_setRegister (thread : Int32) (register : Int32) (value : Int32) (N P X : zM) : Int32 := if (g_X7_isThread thread) = 0 then (-100001) else if (g_X7_in register (nI 0) (nI 3)) = 0 then (-100001) else if (g_X7_isShort value) = 0 then (-100002) else (g_X7_register0 (zc thread) (zc register) N)
def hN_X7_setRegister (thread : Int32) (register : Int32) (value : Int32) (N P X : zM) : zM := if (g_X7_isThread thread) = 0 then N else if (g_X7_in register (nI 0) (nI 3)) = 0 then N else if (g_X7_isShort value) = 0 then N else hN_X7_puts (zc thread) (zc register) value N
def hP_X7_setRegister (thread : Int32) (register : Int32) (value : Int32) (N P X : zM) : zM := if (g_X7_isThread thread) = 0 then P else if (g_X7_in register (nI 0) (nI 3)) = 0 then P else if (g_X7_isShort value) = 0 then P else hP_X7_records N P X
def hX_X7_setRegister (thread : Int32) (register : Int32) (value : Int32) (N P X : zM) : zM := if (g_X7_isThread thread) = 0 then X else if (g_X7_in register (nI 0) (nI 3)) = 0 then X else if (g_X7_isShort value) = 0 then X else hX_X7_records N P X
set_option maxHeartbeats 4000000 in
set_option maxRecDepth 100000 in
theorem ct_X7_setRegister (l : Launch) (D : va_G) (a : Nat → Nat) (cI : ClassId) (hJ : mJ a) (N A P X : zM) (thread : Int32) (register : Int32) (value : Int32) (hX : zIn (X 0 0) 5) : mCi l yX7_setRegister wsX7_setRegister ({ frames := 2, cells := 0, slots := 0, locals := 44 } : Room) D a cI [.ref (a 0), .int thread, .int register, .int value] (N, A, P, X) (g_X7_setRegister thread register value N P X) (hN_X7_setRegister thread register value N P X, A, hP_X7_setRegister thread register value N P X, hX_X7_setRegister thread register value N P X) := by
  refine m_ofi (cc := cX7_setRegister) (maxL := 5) (own := RX7) (by decide) rfl (Nat.le_of_ble_eq_true rfl) rfl (fun p e s m below meth c ls hx hb hr hml hts hown hlk hl hK hP hS => ?_)
  have hl : lv_has ls 5 [(0, .ref (a 0)), (1, .int thread), (2, .int register), (3, .int value)] := hl
  refine lv_iload_n hx hb dX7_setRegister_0 rfl (lv_at hl 1 rfl) ?_
  refine m_cSi (As := [.int thread]) (rest := []) ⟨hx, hb, hml, hown, hts⟩ (ct_X7_isThread l D a cI hJ N A P X thread) (va_cwS 1 hts gX7_setRegister_X7_isThread rfl rfl rfl (by decide +kernel) ⟨Nat.le_of_ble_eq_true rfl, Nat.le_of_ble_eq_true rfl⟩) hK hP hS rfl hl.1 rfl (Nat.le_of_ble_eq_true rfl) dX7_setRegister_1 ⟨Nat.zero_le _, Nat.zero_le _⟩ (fun H locs hP hS => ?_)
  refine lv_if_eq (tgt := 16) hx hb dX7_setRegister_4 (by decide) (fun c4_1 => ?_) (fun c4_1 => ?_)
  · refine lv_ldc (v := (-100001)) hx hb hown (hts (.constant RX7 75 (-100001)) (by decide +kernel)) dX7_setRegister_16 ?_
    exact m_reti hx hb hr hlk rfl hP hS dX7_setRegister_18 (by simp only [g_X7_setRegister, if_pos c4_1]) (m_eq (by simp only [hN_X7_setRegister, if_pos c4_1]) rfl (by simp only [hP_X7_setRegister, if_pos c4_1]) (by simp only [hX_X7_setRegister, if_pos c4_1]))
  · have bt := m_isThread c4_1
    have bt1 := bt.1
    refine lv_iload_n hx hb dX7_setRegister_7 rfl (lv_at hl 2 rfl) ?_
    refine lv_iconst (v := nI 0) hx hb dX7_setRegister_8 (by decide) ?_
    refine lv_iconst (v := nI 3) hx hb dX7_setRegister_9 (by decide) ?_
    refine m_cSi (As := [.int register, .int (nI 0), .int (nI 3)]) (rest := []) ⟨hx, hb, hml, hown, hts⟩ (ct_X7_in l D a cI hJ N A P X register (nI 0) (nI 3)) (va_cwS 3 hts gX7_setRegister_X7_in rfl rfl rfl (by decide +kernel) ⟨Nat.le_of_ble_eq_true rfl, Nat.le_of_ble_eq_true rfl⟩) hK hP hS rfl hl.1 rfl (Nat.le_of_ble_eq_true rfl) dX7_setRegister_10 ⟨Nat.zero_le _, Nat.zero_le _⟩ (fun H locs hP hS => ?_)
    refine lv_if_ne (tgt := 19) hx hb dX7_setRegister_13 (by decide) (fun c13_2 => ?_) (fun c13_2 => ?_)
    · have br := m_within (n := 3) (by decide) c13_2
      have br1 := br.1
      refine lv_iload_n hx hb dX7_setRegister_19 rfl (lv_at hl 3 rfl) ?_
      refine m_cSi (As := [.int value]) (rest := []) ⟨hx, hb, hml, hown, hts⟩ (ct_X7_isShort l D a cI hJ N A P X value) (va_cwS 1 hts gX7_setRegister_X7_isShort rfl rfl rfl (by decide +kernel) ⟨Nat.le_of_ble_eq_true rfl, Nat.le_of_ble_eq_true rfl⟩) hK hP hS rfl hl.1 rfl (Nat.le_of_ble_eq_true rfl) dX7_setRegister_20 ⟨Nat.zero_le _, Nat.zero_le _⟩ (fun H locs hP hS => ?_)
      refine lv_if_ne (tgt := 29) hx hb dX7_setRegister_23 (by decide) (fun c23_3 => ?_) (fun c23_3 => ?_)
      · refine lv_aload_n hx hb dX7_setRegister_29 rfl (lv_at hl 0 rfl) ?_
        refine m_cVv (As := []) (rest := []) ⟨hx, hb, hml, hown, hts⟩ (ct_X7_records l D a cI hJ N A P X hX) (cwV 0 hts gX7_setRegister_X7_records rfl rfl rfl (by decide +kernel) ⟨Nat.le_of_ble_eq_true rfl, Nat.le_of_ble_eq_true rfl⟩) hK hP hS (va_recv (ci := 7) hK hP rfl mG_O) rfl hl.1 rfl (Nat.le_of_ble_eq_true rfl) dX7_setRegister_30 ⟨Nat.zero_le _, Nat.zero_le _⟩ (fun H locs hP hS => ?_)
        refine lv_aload_n hx hb dX7_setRegister_33 rfl (lv_at hl 0 rfl) ?_
        refine lv_iload_n hx hb dX7_setRegister_34 rfl (lv_at hl 1 rfl) ?_
        refine z_val (z := nI (zc thread)) bt.2 ?_
        refine lv_iload_n hx hb dX7_setRegister_35 rfl (lv_at hl 2 rfl) ?_
        refine z_val (z := nI (zc register)) br.2 ?_
        refine m_cVi (As := [.int (nI (zc thread)), .int (nI (zc register))]) (rest := []) ⟨hx, hb, hml, hown, hts⟩ (ct_X7_register0 l D a cI hJ N A (hP_X7_records N P X) (hX_X7_records N P X) (zc thread) (zc register) (by omega) (by omega)) (cwV 2 hts gX7_setRegister_X7_register0 rfl rfl rfl (by decide +kernel) ⟨Nat.le_of_ble_eq_true rfl, Nat.le_of_ble_eq_true rfl⟩) hK hP hS (va_recv (ci := 7) hK hP rfl mG_O) rfl hl.1 rfl (Nat.le_of_ble_eq_true rfl) dX7_setRegister_36 ⟨Nat.zero_le _, Nat.zero_le _⟩ (fun H locs hP hS => ?_)
        refine lv_istore (lv' := [(4, .int (g_X7_register0 (zc thread) (zc register) N)), (0, .ref (a 0)), (1, .int thread), (2, .int register), (3, .int value)]) hx hb dX7_setRegister_39 hl (by decide) rfl (fun ls hl => ?_)
        refine lv_aload_n hx hb dX7_setRegister_41 rfl (lv_at hl 1 rfl) ?_
        refine lv_iload_n hx hb dX7_setRegister_42 rfl (lv_at hl 2 rfl) ?_
        refine z_val (z := nI (zc thread)) bt.2 ?_
        refine lv_iload_n hx hb dX7_setRegister_43 rfl (lv_at hl 3 rfl) ?_
        refine z_val (z := nI (zc register)) br.2 ?_
        refine lv_iload_n hx hb dX7_setRegister_44 rfl (lv_at hl 4 rfl) ?_
        refine m_cVv (As := [.int (nI (zc thread)), .int (nI (zc register)), .int value]) (rest := []) ⟨hx, hb, hml, hown, hts⟩ (ct_X7_puts l D a cI hJ N A (hP_X7_records N P X) (hX_X7_records N P X) (zc thread) (zc register) value (by omega) (by omega)) (cwV 3 hts gX7_setRegister_X7_puts rfl rfl rfl (by decide +kernel) ⟨Nat.le_of_ble_eq_true rfl, Nat.le_of_ble_eq_true rfl⟩) hK hP hS (va_recv (ci := 7) hK hP rfl mG_O) rfl hl.1 rfl (Nat.le_of_ble_eq_true rfl) dX7_setRegister_45 ⟨Nat.zero_le _, Nat.zero_le _⟩ (fun H locs hP hS => ?_)
        refine lv_iload hx hb dX7_setRegister_48 (lv_at hl 0 rfl) ?_
        exact m_reti hx hb hr hlk rfl hP hS dX7_setRegister_50 (by simp only [g_X7_setRegister, if_neg c4_1, if_neg c13_2, if_neg c23_3]) (m_eq (by simp only [hN_X7_setRegister, if_neg c4_1, if_neg c13_2, if_neg c23_3]) rfl (by simp only [hP_X7_setRegister, if_neg c4_1, if_neg c13_2, if_neg c23_3]) (by simp only [hX_X7_setRegister, if_neg c4_1, if_neg c13_2, if_neg c23_3]))
      · refine lv_ldc (v := (-100002)) hx hb hown (hts (.constant RX7 109 (-100002)) (by decide +kernel)) dX7_setRegister_26 ?_
        exact m_reti hx hb hr hlk rfl hP hS dX7_setRegister_28 (by simp only [g_X7_setRegister, if_neg c4_1, if_neg c13_2, if_pos c23_3]) (m_eq (by simp only [hN_X7_setRegister, if_neg c4_1, if_neg c13_2, if_pos c23_3]) rfl (by simp only [hP_X7_setRegister, if_neg c4_1, if_neg c13_2, if_pos c23_3]) (by simp only [hX_X7_setRegister, if_neg c4_1, if_neg c13_2, if_pos c23_3]))
    · refine lv_ldc (v := (-100001)) hx hb hown (hts (.constant RX7 75 (-100001)) (by decide +kernel)) dX7_setRegister_16 ?_
      exact m_reti hx hb hr hlk rfl hP hS dX7_setRegister_18 (by simp only [g_X7_setRegister, if_neg c4_1, if_pos c13_2]) (m_eq (by simp only [hN_X7_setRegister, if_neg c4_1, if_pos c13_2]) rfl (by simp only [hP_X7_setRegister, if_neg c4_1, if_pos c13_2]) (by simp only [hX_X7_setRegister, if_neg c4_1, if_pos c13_2]))

def g_X7_setWord (word : Int32) (value : Int32) (N P X : zM) : Int32 := if (g_X7_in word (nI 0) (nI 31)) = 0 then (-100001) else if (g_X7_isShort value) = 0 then (-100002) else N 13 (zc word)
def hN_X7_setWord (word : Int32) (value : Int32) (N P X : zM) : zM := if (g_X7_in word (nI 0) (nI 31)) = 0 then N else if (g_X7_isShort value) = 0 then N else zu N 13 (zc word) value
def hP_X7_setWord (word : Int32) (value : Int32) (N P X : zM) : zM := if (g_X7_in word (nI 0) (nI 31)) = 0 then P else if (g_X7_isShort value) = 0 then P else hP_X7_records N P X
def hX_X7_setWord (word : Int32) (value : Int32) (N P X : zM) : zM := if (g_X7_in word (nI 0) (nI 31)) = 0 then X else if (g_X7_isShort value) = 0 then X else hX_X7_records N P X
set_option maxHeartbeats 4000000 in
set_option maxRecDepth 100000 in
theorem ct_X7_setWord (l : Launch) (D : va_G) (a : Nat → Nat) (cI : ClassId) (hJ : mJ a) (N A P X : zM) (word : Int32) (value : Int32) (hX : zIn (X 0 0) 5) : mCi l yX7_setWord wsX7_setWord ({ frames := 2, cells := 0, slots := 0, locals := 42 } : Room) D a cI [.ref (a 0), .int word, .int value] (N, A, P, X) (g_X7_setWord word value N P X) (hN_X7_setWord word value N P X, A, hP_X7_setWord word value N P X, hX_X7_setWord word value N P X) := by
  have hiX7 : ∀ w ∈ wsX70, w ∈ wsX7_setWord := by decide +kernel
  refine m_ofi (cc := cX7_setWord) (maxL := 4) (own := RX7) (by decide) rfl (Nat.le_of_ble_eq_true rfl) rfl (fun p e s m below meth c ls hx hb hr hml hts hown hlk hl hK hP hS => ?_)
  have hl : lv_has ls 4 [(0, .ref (a 0)), (1, .int word), (2, .int value)] := hl
  refine lv_iload_n hx hb dX7_setWord_0 rfl (lv_at hl 1 rfl) ?_
  refine lv_iconst (v := nI 0) hx hb dX7_setWord_1 (by decide) ?_
  refine lv_bipush (v := nI 31) hx hb dX7_setWord_2 (by decide) ?_
  refine m_cSi (As := [.int word, .int (nI 0), .int (nI 31)]) (rest := []) ⟨hx, hb, hml, hown, hts⟩ (ct_X7_in l D a cI hJ N A P X word (nI 0) (nI 31)) (va_cwS 3 hts gX7_setWord_X7_in rfl rfl rfl (by decide +kernel) ⟨Nat.le_of_ble_eq_true rfl, Nat.le_of_ble_eq_true rfl⟩) hK hP hS rfl hl.1 rfl (Nat.le_of_ble_eq_true rfl) dX7_setWord_4 ⟨Nat.zero_le _, Nat.zero_le _⟩ (fun H locs hP hS => ?_)
  refine lv_if_ne (tgt := 13) hx hb dX7_setWord_7 (by decide) (fun c7_1 => ?_) (fun c7_1 => ?_)
  · have bw := m_within (n := 31) (by decide) c7_1
    have bw1 := bw.1
    refine lv_iload_n hx hb dX7_setWord_13 rfl (lv_at hl 2 rfl) ?_
    refine m_cSi (As := [.int value]) (rest := []) ⟨hx, hb, hml, hown, hts⟩ (ct_X7_isShort l D a cI hJ N A P X value) (va_cwS 1 hts gX7_setWord_X7_isShort rfl rfl rfl (by decide +kernel) ⟨Nat.le_of_ble_eq_true rfl, Nat.le_of_ble_eq_true rfl⟩) hK hP hS rfl hl.1 rfl (Nat.le_of_ble_eq_true rfl) dX7_setWord_14 ⟨Nat.zero_le _, Nat.zero_le _⟩ (fun H locs hP hS => ?_)
    refine lv_if_ne (tgt := 23) hx hb dX7_setWord_17 (by decide) (fun c17_2 => ?_) (fun c17_2 => ?_)
    · refine lv_aload_n hx hb dX7_setWord_23 rfl (lv_at hl 0 rfl) ?_
      refine m_cVv (As := []) (rest := []) ⟨hx, hb, hml, hown, hts⟩ (ct_X7_records l D a cI hJ N A P X hX) (cwV 0 hts gX7_setWord_X7_records rfl rfl rfl (by decide +kernel) ⟨Nat.le_of_ble_eq_true rfl, Nat.le_of_ble_eq_true rfl⟩) hK hP hS (va_recv (ci := 7) hK hP rfl mG_O) rfl hl.1 rfl (Nat.le_of_ble_eq_true rfl) dX7_setWord_24 ⟨Nat.zero_le _, Nat.zero_le _⟩ (fun H locs hP hS => ?_)
      refine lv_aload_n hx hb dX7_setWord_27 rfl (lv_at hl 0 rfl) ?_
      refine mgO0 hx hb hts hiX7 hown hK hP (hts (.fieldLink RX7 7 "BarrelProcessorModel" "s" "[I") (by decide +kernel)) dX7_setWord_28 ?_
      refine lv_sipush (v := nI 200) hx hb dX7_setWord_31 (by decide) ?_
      refine lv_iload_n hx hb dX7_setWord_34 rfl (lv_at hl 1 rfl) ?_
      refine z_val (z := nI (zc word)) bw.2 ?_
      refine lv_iadd hx hb dX7_setWord_35 ?_
      refine z_val (z := nI (200 + (zc word))) (nI_add _ _) ?_
      refine m_iald hx hb hK hP mG_s (j := 200 + (zc word)) (by omega) (by decide) dX7_setWord_36 ?_
      refine z_val (z := N 13 (zc word)) (zen_of (zf_wd (by omega))) ?_
      refine lv_istore_n (lv' := [(3, .int (N 13 (zc word))), (0, .ref (a 0)), (1, .int word), (2, .int value)]) hx hb dX7_setWord_37 rfl hl (by decide) rfl (fun ls hl => ?_)
      refine lv_aload_n hx hb dX7_setWord_38 rfl (lv_at hl 1 rfl) ?_
      refine mgO0 hx hb hts hiX7 hown hK hP (hts (.fieldLink RX7 7 "BarrelProcessorModel" "s" "[I") (by decide +kernel)) dX7_setWord_39 ?_
      refine lv_sipush (v := nI 200) hx hb dX7_setWord_42 (by decide) ?_
      refine lv_iload_n hx hb dX7_setWord_45 rfl (lv_at hl 2 rfl) ?_
      refine z_val (z := nI (zc word)) bw.2 ?_
      refine lv_iadd hx hb dX7_setWord_46 ?_
      refine z_val (z := nI (200 + (zc word))) (nI_add _ _) ?_
      refine lv_iload_n hx hb dX7_setWord_47 rfl (lv_at hl 3 rfl) ?_
      refine m_iast (Z' := (zu N 13 (zc word) value, A, hP_X7_records N P X, hX_X7_records N P X)) hx hb hK hP hJ hS mG_s (j := 200 + (zc word)) (by omega) (by decide) dX7_setWord_48 (mS_s (zf_wd (by omega))) (fun H locs hP hS => ?_)
      refine lv_iload_n hx hb dX7_setWord_49 rfl (lv_at hl 0 rfl) ?_
      exact m_reti hx hb hr hlk rfl hP hS dX7_setWord_50 (by simp only [g_X7_setWord, if_neg c7_1, if_neg c17_2]) (m_eq (by simp only [hN_X7_setWord, if_neg c7_1, if_neg c17_2]) rfl (by simp only [hP_X7_setWord, if_neg c7_1, if_neg c17_2]) (by simp only [hX_X7_setWord, if_neg c7_1, if_neg c17_2]))
    · refine lv_ldc (v := (-100002)) hx hb hown (hts (.constant RX7 109 (-100002)) (by decide +kernel)) dX7_setWord_20 ?_
      exact m_reti hx hb hr hlk rfl hP hS dX7_setWord_22 (by simp only [g_X7_setWord, if_neg c7_1, if_pos c17_2]) (m_eq (by simp only [hN_X7_setWord, if_neg c7_1, if_pos c17_2]) rfl (by simp only [hP_X7_setWord, if_neg c7_1, if_pos c17_2]) (by simp only [hX_X7_setWord, if_neg c7_1, if_pos c17_2]))
  · refine lv_ldc (v := (-100001)) hx hb hown (hts (.constant RX7 75 (-100001)) (by decide +kernel)) dX7_setWord_10 ?_
    exact m_reti hx hb hr hlk rfl hP hS dX7_setWord_12 (by simp only [g_X7_setWord, if_pos c7_1]) (m_eq (by simp only [hN_X7_setWord, if_pos c7_1]) rfl (by simp only [hP_X7_setWord, if_pos c7_1]) (by simp only [hX_X7_setWord, if_pos c7_1]))

def g_X7_setSlot (slot : Int32) (thread : Int32) (N P X : zM) : Int32 := if (g_X7_in slot (nI 0) (nI 7)) = 0 then (-100001) else if (g_X7_isThread thread) = 0 then (-100001) else N 14 (zc slot)
def hN_X7_setSlot (slot : Int32) (thread : Int32) (N P X : zM) : zM := if (g_X7_in slot (nI 0) (nI 7)) = 0 then N else if (g_X7_isThread thread) = 0 then N else zu N 14 (zc slot) thread
def hP_X7_setSlot (slot : Int32) (thread : Int32) (N P X : zM) : zM := if (g_X7_in slot (nI 0) (nI 7)) = 0 then P else if (g_X7_isThread thread) = 0 then P else hP_X7_records N P X
def hX_X7_setSlot (slot : Int32) (thread : Int32) (N P X : zM) : zM := if (g_X7_in slot (nI 0) (nI 7)) = 0 then X else if (g_X7_isThread thread) = 0 then X else hX_X7_records N P X
set_option maxHeartbeats 4000000 in
set_option maxRecDepth 100000 in
theorem ct_X7_setSlot (l : Launch) (D : va_G) (a : Nat → Nat) (cI : ClassId) (hJ : mJ a) (N A P X : zM) (slot : Int32) (thread : Int32) (hX : zIn (X 0 0) 5) : mCi l yX7_setSlot wsX7_setSlot ({ frames := 2, cells := 0, slots := 0, locals := 42 } : Room) D a cI [.ref (a 0), .int slot, .int thread] (N, A, P, X) (g_X7_setSlot slot thread N P X) (hN_X7_setSlot slot thread N P X, A, hP_X7_setSlot slot thread N P X, hX_X7_setSlot slot thread N P X) := by
  have hiX7 : ∀ w ∈ wsX70, w ∈ wsX7_setSlot := by decide +kernel
  refine m_ofi (cc := cX7_setSlot) (maxL := 4) (own := RX7) (by decide) rfl (Nat.le_of_ble_eq_true rfl) rfl (fun p e s m below meth c ls hx hb hr hml hts hown hlk hl hK hP hS => ?_)
  have hl : lv_has ls 4 [(0, .ref (a 0)), (1, .int slot), (2, .int thread)] := hl
  refine lv_iload_n hx hb dX7_setSlot_0 rfl (lv_at hl 1 rfl) ?_
  refine lv_iconst (v := nI 0) hx hb dX7_setSlot_1 (by decide) ?_
  refine lv_bipush (v := nI 7) hx hb dX7_setSlot_2 (by decide) ?_
  refine m_cSi (As := [.int slot, .int (nI 0), .int (nI 7)]) (rest := []) ⟨hx, hb, hml, hown, hts⟩ (ct_X7_in l D a cI hJ N A P X slot (nI 0) (nI 7)) (va_cwS 3 hts gX7_setSlot_X7_in rfl rfl rfl (by decide +kernel) ⟨Nat.le_of_ble_eq_true rfl, Nat.le_of_ble_eq_true rfl⟩) hK hP hS rfl hl.1 rfl (Nat.le_of_ble_eq_true rfl) dX7_setSlot_4 ⟨Nat.zero_le _, Nat.zero_le _⟩ (fun H locs hP hS => ?_)
  refine lv_if_eq (tgt := 17) hx hb dX7_setSlot_7 (by decide) (fun c7_1 => ?_) (fun c7_1 => ?_)
  · refine lv_ldc (v := (-100001)) hx hb hown (hts (.constant RX7 75 (-100001)) (by decide +kernel)) dX7_setSlot_17 ?_
    exact m_reti hx hb hr hlk rfl hP hS dX7_setSlot_19 (by simp only [g_X7_setSlot, if_pos c7_1]) (m_eq (by simp only [hN_X7_setSlot, if_pos c7_1]) rfl (by simp only [hP_X7_setSlot, if_pos c7_1]) (by simp only [hX_X7_setSlot, if_pos c7_1]))
  · have bs := m_within (n := 7) (by decide) c7_1
    have bs1 := bs.1
    refine lv_iload_n hx hb dX7_setSlot_10 rfl (lv_at hl 2 rfl) ?_
    refine m_cSi (As := [.int thread]) (rest := []) ⟨hx, hb, hml, hown, hts⟩ (ct_X7_isThread l D a cI hJ N A P X thread) (va_cwS 1 hts gX7_setSlot_X7_isThread rfl rfl rfl (by decide +kernel) ⟨Nat.le_of_ble_eq_true rfl, Nat.le_of_ble_eq_true rfl⟩) hK hP hS rfl hl.1 rfl (Nat.le_of_ble_eq_true rfl) dX7_setSlot_11 ⟨Nat.zero_le _, Nat.zero_le _⟩ (fun H locs hP hS => ?_)
    refine lv_if_ne (tgt := 20) hx hb dX7_setSlot_14 (by decide) (fun c14_2 => ?_) (fun c14_2 => ?_)
    · refine lv_aload_n hx hb dX7_setSlot_20 rfl (lv_at hl 0 rfl) ?_
      refine m_cVv (As := []) (rest := []) ⟨hx, hb, hml, hown, hts⟩ (ct_X7_records l D a cI hJ N A P X hX) (cwV 0 hts gX7_setSlot_X7_records rfl rfl rfl (by decide +kernel) ⟨Nat.le_of_ble_eq_true rfl, Nat.le_of_ble_eq_true rfl⟩) hK hP hS (va_recv (ci := 7) hK hP rfl mG_O) rfl hl.1 rfl (Nat.le_of_ble_eq_true rfl) dX7_setSlot_21 ⟨Nat.zero_le _, Nat.zero_le _⟩ (fun H locs hP hS => ?_)
      refine lv_aload_n hx hb dX7_setSlot_24 rfl (lv_at hl 0 rfl) ?_
      refine mgO0 hx hb hts hiX7 hown hK hP (hts (.fieldLink RX7 7 "BarrelProcessorModel" "s" "[I") (by decide +kernel)) dX7_setSlot_25 ?_
      refine lv_sipush (v := nI 234) hx hb dX7_setSlot_28 (by decide) ?_
      refine lv_iload_n hx hb dX7_setSlot_31 rfl (lv_at hl 1 rfl) ?_
      refine z_val (z := nI (zc slot)) bs.2 ?_
      refine lv_iadd hx hb dX7_setSlot_32 ?_
      refine z_val (z := nI (234 + (zc slot))) (nI_add _ _) ?_
      refine m_iald hx hb hK hP mG_s (j := 234 + (zc slot)) (by omega) (by decide) dX7_setSlot_33 ?_
      refine z_val (z := N 14 (zc slot)) (zen_of (zf_sl (by omega))) ?_
      refine lv_istore_n (lv' := [(3, .int (N 14 (zc slot))), (0, .ref (a 0)), (1, .int slot), (2, .int thread)]) hx hb dX7_setSlot_34 rfl hl (by decide) rfl (fun ls hl => ?_)
      refine lv_aload_n hx hb dX7_setSlot_35 rfl (lv_at hl 1 rfl) ?_
      refine mgO0 hx hb hts hiX7 hown hK hP (hts (.fieldLink RX7 7 "BarrelProcessorModel" "s" "[I") (by decide +kernel)) dX7_setSlot_36 ?_
      refine lv_sipush (v := nI 234) hx hb dX7_setSlot_39 (by decide) ?_
      refine lv_iload_n hx hb dX7_setSlot_42 rfl (lv_at hl 2 rfl) ?_
      refine z_val (z := nI (zc slot)) bs.2 ?_
      refine lv_iadd hx hb dX7_setSlot_43 ?_
      refine z_val (z := nI (234 + (zc slot))) (nI_add _ _) ?_
      refine lv_iload_n hx hb dX7_setSlot_44 rfl (lv_at hl 3 rfl) ?_
      refine m_iast (Z' := (zu N 14 (zc slot) thread, A, hP_X7_records N P X, hX_X7_records N P X)) hx hb hK hP hJ hS mG_s (j := 234 + (zc slot)) (by omega) (by decide) dX7_setSlot_45 (mS_s (zf_sl (by omega))) (fun H locs hP hS => ?_)
      refine lv_iload_n hx hb dX7_setSlot_46 rfl (lv_at hl 0 rfl) ?_
      exact m_reti hx hb hr hlk rfl hP hS dX7_setSlot_47 (by simp only [g_X7_setSlot, if_neg c7_1, if_neg c14_2]) (m_eq (by simp only [hN_X7_setSlot, if_neg c7_1, if_neg c14_2]) rfl (by simp only [hP_X7_setSlot, if_neg c7_1, if_neg c14_2]) (by simp only [hX_X7_setSlot, if_neg c7_1, if_neg c14_2]))
    · refine lv_ldc (v := (-100001)) hx hb hown (hts (.constant RX7 75 (-100001)) (by decide +kernel)) dX7_setSlot_17 ?_
      exact m_reti hx hb hr hlk rfl hP hS dX7_setSlot_19 (by simp only [g_X7_setSlot, if_neg c7_1, if_pos c14_2]) (m_eq (by simp only [hN_X7_setSlot, if_neg c7_1, if_pos c14_2]) rfl (by simp only [hP_X7_setSlot, if_neg c7_1, if_pos c14_2]) (by simp only [hX_X7_setSlot, if_neg c7_1, if_pos c14_2]))

def g_X7_set (setting : Int32) (value : Int32) (N P X : zM) : Int32 := if (g_X7_in setting (nI 0) (nI 1)) = 0 then (-100001) else if setting = 0 then if (g_X7_in value (nI 0) (nI 20)) = 0 then (-100002) else N 15 (zc setting) else if (g_X7_in value (nI 0) (nI 2)) = 0 then (-100002) else N 15 (zc setting)
def hN_X7_set (setting : Int32) (value : Int32) (N P X : zM) : zM := if (g_X7_in setting (nI 0) (nI 1)) = 0 then N else if setting = 0 then if (g_X7_in value (nI 0) (nI 20)) = 0 then N else zu N 15 (zc setting) value else if (g_X7_in value (nI 0) (nI 2)) = 0 then N else zu N 15 (zc setting) value
def hP_X7_set (setting : Int32) (value : Int32) (N P X : zM) : zM := if (g_X7_in setting (nI 0) (nI 1)) = 0 then P else if setting = 0 then if (g_X7_in value (nI 0) (nI 20)) = 0 then P else hP_X7_records N P X else if (g_X7_in value (nI 0) (nI 2)) = 0 then P else hP_X7_records N P X
def hX_X7_set (setting : Int32) (value : Int32) (N P X : zM) : zM := if (g_X7_in setting (nI 0) (nI 1)) = 0 then X else if setting = 0 then if (g_X7_in value (nI 0) (nI 20)) = 0 then X else hX_X7_records N P X else if (g_X7_in value (nI 0) (nI 2)) = 0 then X else hX_X7_records N P X
set_option maxHeartbeats 4000000 in
set_option maxRecDepth 100000 in
theorem ct_X7_set (l : Launch) (D : va_G) (a : Nat → Nat) (cI : ClassId) (hJ : mJ a) (N A P X : zM) (setting : Int32) (value : Int32) (hX : zIn (X 0 0) 5) : mCi l yX7_set wsX7_set ({ frames := 1, cells := 0, slots := 0, locals := 22 } : Room) D a cI [.ref (a 0), .int setting, .int value] (N, A, P, X) (g_X7_set setting value N P X) (hN_X7_set setting value N P X, A, hP_X7_set setting value N P X, hX_X7_set setting value N P X) := by
  have hiX7 : ∀ w ∈ wsX70, w ∈ wsX7_set := by decide +kernel
  refine m_ofi (cc := cX7_set) (maxL := 4) (own := RX7) (by decide) rfl (Nat.le_of_ble_eq_true rfl) rfl (fun p e s m below meth c ls hx hb hr hml hts hown hlk hl hK hP hS => ?_)
  have hl : lv_has ls 4 [(0, .ref (a 0)), (1, .int setting), (2, .int value)] := hl
  refine lv_iload_n hx hb dX7_set_0 rfl (lv_at hl 1 rfl) ?_
  refine lv_iconst (v := nI 0) hx hb dX7_set_1 (by decide) ?_
  refine lv_iconst (v := nI 1) hx hb dX7_set_2 (by decide) ?_
  refine m_cSi (As := [.int setting, .int (nI 0), .int (nI 1)]) (rest := []) ⟨hx, hb, hml, hown, hts⟩ (ct_X7_in l D a cI hJ N A P X setting (nI 0) (nI 1)) (va_cwS 3 hts gX7_set_X7_in rfl rfl rfl (by decide +kernel) ⟨Nat.le_of_ble_eq_true rfl, Nat.le_of_ble_eq_true rfl⟩) hK hP hS rfl hl.1 rfl (Nat.le_of_ble_eq_true rfl) dX7_set_3 ⟨Nat.zero_le _, Nat.zero_le _⟩ (fun H locs hP hS => ?_)
  refine lv_if_ne (tgt := 12) hx hb dX7_set_6 (by decide) (fun c6_1 => ?_) (fun c6_1 => ?_)
  · have bs := m_within (n := 1) (by decide) c6_1
    have bs1 := bs.1
    refine lv_iload_n hx hb dX7_set_12 rfl (lv_at hl 2 rfl) ?_
    refine lv_iconst (v := nI 0) hx hb dX7_set_13 (by decide) ?_
    refine lv_iload_n hx hb dX7_set_14 rfl (lv_at hl 1 rfl) ?_
    refine lv_if_ne (tgt := 23) hx hb dX7_set_15 (by decide) (fun c15_2 => ?_) (fun c15_2 => ?_)
    · refine lv_iconst (v := nI 2) hx hb dX7_set_23 (by decide) ?_
      refine m_cSi (As := [.int value, .int (nI 0), .int (nI 2)]) (rest := []) ⟨hx, hb, hml, hown, hts⟩ (ct_X7_in l D a cI hJ N A P X value (nI 0) (nI 2)) (va_cwS 3 hts gX7_set_X7_in rfl rfl rfl (by decide +kernel) ⟨Nat.le_of_ble_eq_true rfl, Nat.le_of_ble_eq_true rfl⟩) hK hP hS rfl hl.1 rfl (Nat.le_of_ble_eq_true rfl) dX7_set_24 ⟨Nat.zero_le _, Nat.zero_le _⟩ (fun H locs hP hS => ?_)
      refine lv_if_ne (tgt := 33) hx hb dX7_set_27 (by decide) (fun c27_3 => ?_) (fun c27_3 => ?_)
      · refine lv_aload_n hx hb dX7_set_33 rfl (lv_at hl 0 rfl) ?_
        refine m_cVv (As := []) (rest := []) ⟨hx, hb, hml, hown, hts⟩ (ct_X7_records l D a cI hJ N A P X hX) (cwV 0 hts gX7_set_X7_records rfl rfl rfl (by decide +kernel) ⟨Nat.le_of_ble_eq_true rfl, Nat.le_of_ble_eq_true rfl⟩) hK hP hS (va_recv (ci := 7) hK hP rfl mG_O) rfl hl.1 rfl (Nat.le_of_ble_eq_true rfl) dX7_set_34 ⟨Nat.zero_le _, Nat.zero_le _⟩ (fun H locs hP hS => ?_)
        refine lv_aload_n hx hb dX7_set_37 rfl (lv_at hl 0 rfl) ?_
        refine mgO0 hx hb hts hiX7 hown hK hP (hts (.fieldLink RX7 7 "BarrelProcessorModel" "s" "[I") (by decide +kernel)) dX7_set_38 ?_
        refine lv_sipush (v := nI 242) hx hb dX7_set_41 (by decide) ?_
        refine lv_iload_n hx hb dX7_set_44 rfl (lv_at hl 1 rfl) ?_
        refine z_val (z := nI (zc setting)) bs.2 ?_
        refine lv_iadd hx hb dX7_set_45 ?_
        refine z_val (z := nI (242 + (zc setting))) (nI_add _ _) ?_
        refine m_iald hx hb hK hP mG_s (j := 242 + (zc setting)) (by omega) (by decide) dX7_set_46 ?_
        refine z_val (z := N 15 (zc setting)) (zen_of (zf_se (by omega))) ?_
        refine lv_istore_n (lv' := [(3, .int (N 15 (zc setting))), (0, .ref (a 0)), (1, .int setting), (2, .int value)]) hx hb dX7_set_47 rfl hl (by decide) rfl (fun ls hl => ?_)
        refine lv_aload_n hx hb dX7_set_48 rfl (lv_at hl 1 rfl) ?_
        refine mgO0 hx hb hts hiX7 hown hK hP (hts (.fieldLink RX7 7 "BarrelProcessorModel" "s" "[I") (by decide +kernel)) dX7_set_49 ?_
        refine lv_sipush (v := nI 242) hx hb dX7_set_52 (by decide) ?_
        refine lv_iload_n hx hb dX7_set_55 rfl (lv_at hl 2 rfl) ?_
        refine z_val (z := nI (zc setting)) bs.2 ?_
        refine lv_iadd hx hb dX7_set_56 ?_
        refine z_val (z := nI (242 + (zc setting))) (nI_add _ _) ?_
        refine lv_iload_n hx hb dX7_set_57 rfl (lv_at hl 3 rfl) ?_
        refine m_iast (Z' := (zu N 15 (zc setting) value, A, hP_X7_records N P X, hX_X7_records N P X)) hx hb hK hP hJ hS mG_s (j := 242 + (zc setting)) (by omega) (by decide) dX7_set_58 (mS_s (zf_se (by omega))) (fun H locs hP hS => ?_)
        refine lv_iload_n hx hb dX7_set_59 rfl (lv_at hl 0 rfl) ?_
        exact m_reti hx hb hr hlk rfl hP hS dX7_set_60 (by simp only [g_X7_set, if_neg c6_1, if_neg c15_2, if_neg c27_3]) (m_eq (by simp only [hN_X7_set, if_neg c6_1, if_neg c15_2, if_neg c27_3]) rfl (by simp only [hP_X7_set, if_neg c6_1, if_neg c15_2, if_neg c27_3]) (by simp only [hX_X7_set, if_neg c6_1, if_neg c15_2, if_neg c27_3]))
      · refine lv_ldc (v := (-100002)) hx hb hown (hts (.constant RX7 109 (-100002)) (by decide +kernel)) dX7_set_30 ?_
        exact m_reti hx hb hr hlk rfl hP hS dX7_set_32 (by simp only [g_X7_set, if_neg c6_1, if_neg c15_2, if_pos c27_3]) (m_eq (by simp only [hN_X7_set, if_neg c6_1, if_neg c15_2, if_pos c27_3]) rfl (by simp only [hP_X7_set, if_neg c6_1, if_neg c15_2, if_pos c27_3]) (by simp only [hX_X7_set, if_neg c6_1, if_neg c15_2, if_pos c27_3]))
    · refine lv_bipush (v := nI 20) hx hb dX7_set_18 (by decide) ?_
      refine lv_goto (tgt := 24) hx hb dX7_set_20 (by decide) ?_
      refine m_cSi (As := [.int value, .int (nI 0), .int (nI 20)]) (rest := []) ⟨hx, hb, hml, hown, hts⟩ (ct_X7_in l D a cI hJ N A P X value (nI 0) (nI 20)) (va_cwS 3 hts gX7_set_X7_in rfl rfl rfl (by decide +kernel) ⟨Nat.le_of_ble_eq_true rfl, Nat.le_of_ble_eq_true rfl⟩) hK hP hS rfl hl.1 rfl (Nat.le_of_ble_eq_true rfl) dX7_set_24 ⟨Nat.zero_le _, Nat.zero_le _⟩ (fun H locs hP hS => ?_)
      refine lv_if_ne (tgt := 33) hx hb dX7_set_27 (by decide) (fun c27_4 => ?_) (fun c27_4 => ?_)
      · refine lv_aload_n hx hb dX7_set_33 rfl (lv_at hl 0 rfl) ?_
        refine m_cVv (As := []) (rest := []) ⟨hx, hb, hml, hown, hts⟩ (ct_X7_records l D a cI hJ N A P X hX) (cwV 0 hts gX7_set_X7_records rfl rfl rfl (by decide +kernel) ⟨Nat.le_of_ble_eq_true rfl, Nat.le_of_ble_eq_true rfl⟩) hK hP hS (va_recv (ci := 7) hK hP rfl mG_O) rfl hl.1 rfl (Nat.le_of_ble_eq_true rfl) dX7_set_34 ⟨Nat.zero_le _, Nat.zero_le _⟩ (fun H locs hP hS => ?_)
        refine lv_aload_n hx hb dX7_set_37 rfl (lv_at hl 0 rfl) ?_
        refine mgO0 hx hb hts hiX7 hown hK hP (hts (.fieldLink RX7 7 "BarrelProcessorModel" "s" "[I") (by decide +kernel)) dX7_set_38 ?_
        refine lv_sipush (v := nI 242) hx hb dX7_set_41 (by decide) ?_
        refine lv_iload_n hx hb dX7_set_44 rfl (lv_at hl 1 rfl) ?_
        refine z_val (z := nI (zc setting)) bs.2 ?_
        refine lv_iadd hx hb dX7_set_45 ?_
        refine z_val (z := nI (242 + (zc setting))) (nI_add _ _) ?_
        refine m_iald hx hb hK hP mG_s (j := 242 + (zc setting)) (by omega) (by decide) dX7_set_46 ?_
        refine z_val (z := N 15 (zc setting)) (zen_of (zf_se (by omega))) ?_
        refine lv_istore_n (lv' := [(3, .int (N 15 (zc setting))), (0, .ref (a 0)), (1, .int setting), (2, .int value)]) hx hb dX7_set_47 rfl hl (by decide) rfl (fun ls hl => ?_)
        refine lv_aload_n hx hb dX7_set_48 rfl (lv_at hl 1 rfl) ?_
        refine mgO0 hx hb hts hiX7 hown hK hP (hts (.fieldLink RX7 7 "BarrelProcessorModel" "s" "[I") (by decide +kernel)) dX7_set_49 ?_
        refine lv_sipush (v := nI 242) hx hb dX7_set_52 (by decide) ?_
        refine lv_iload_n hx hb dX7_set_55 rfl (lv_at hl 2 rfl) ?_
        refine z_val (z := nI (zc setting)) bs.2 ?_
        refine lv_iadd hx hb dX7_set_56 ?_
        refine z_val (z := nI (242 + (zc setting))) (nI_add _ _) ?_
        refine lv_iload_n hx hb dX7_set_57 rfl (lv_at hl 3 rfl) ?_
        refine m_iast (Z' := (zu N 15 (zc setting) value, A, hP_X7_records N P X, hX_X7_records N P X)) hx hb hK hP hJ hS mG_s (j := 242 + (zc setting)) (by omega) (by decide) dX7_set_58 (mS_s (zf_se (by omega))) (fun H locs hP hS => ?_)
        refine lv_iload_n hx hb dX7_set_59 rfl (lv_at hl 0 rfl) ?_
        exact m_reti hx hb hr hlk rfl hP hS dX7_set_60 (by simp only [g_X7_set, if_neg c6_1, if_pos c15_2, if_neg c27_4]) (m_eq (by simp only [hN_X7_set, if_neg c6_1, if_pos c15_2, if_neg c27_4]) rfl (by simp only [hP_X7_set, if_neg c6_1, if_pos c15_2, if_neg c27_4]) (by simp only [hX_X7_set, if_neg c6_1, if_pos c15_2, if_neg c27_4]))
      · refine lv_ldc (v := (-100002)) hx hb hown (hts (.constant RX7 109 (-100002)) (by decide +kernel)) dX7_set_30 ?_
        exact m_reti hx hb hr hlk rfl hP hS dX7_set_32 (by simp only [g_X7_set, if_neg c6_1, if_pos c15_2, if_pos c27_4]) (m_eq (by simp only [hN_X7_set, if_neg c6_1, if_pos c15_2, if_pos c27_4]) rfl (by simp only [hP_X7_set, if_neg c6_1, if_pos c15_2, if_pos c27_4]) (by simp only [hX_X7_set, if_neg c6_1, if_pos c15_2, if_pos c27_4]))
  · refine lv_ldc (v := (-100001)) hx hb hown (hts (.constant RX7 75 (-100001)) (by decide +kernel)) dX7_set_9 ?_
    exact m_reti hx hb hr hlk rfl hP hS dX7_set_11 (by simp only [g_X7_set, if_pos c6_1]) (m_eq (by simp only [hN_X7_set, if_pos c6_1]) rfl (by simp only [hP_X7_set, if_pos c6_1]) (by simp only [hX_X7_set, if_pos c6_1]))

def g_X7_setBreakpoint_lp (place : Int32) (isSet : Int32) : Nat → Int32 → Nat → zM → zM → zM → Int32
  | 0, cnt, i, N, P, X => cnt
  | n + 1, cnt, i, N, P, X => g_X7_setBreakpoint_lp place isSet n (cnt + (N 12 i)) (i + 1) N P X
def hN_X7_setBreakpoint_lp (place : Int32) (isSet : Int32) : Nat → Int32 → Nat → zM → zM → zM → zM
  | 0, cnt, i, N, P, X => N
  | n + 1, cnt, i, N, P, X => hN_X7_setBreakpoint_lp place isSet n (cnt + (N 12 i)) (i + 1) N P X
def hP_X7_setBreakpoint_lp (place : Int32) (isSet : Int32) : Nat → Int32 → Nat → zM → zM → zM → zM
  | 0, cnt, i, N, P, X => P
  | n + 1, cnt, i, N, P, X => hP_X7_setBreakpoint_lp place isSet n (cnt + (N 12 i)) (i + 1) N P X
def hX_X7_setBreakpoint_lp (place : Int32) (isSet : Int32) : Nat → Int32 → Nat → zM → zM → zM → zM
  | 0, cnt, i, N, P, X => X
  | n + 1, cnt, i, N, P, X => hX_X7_setBreakpoint_lp place isSet n (cnt + (N 12 i)) (i + 1) N P X
def g_X7_setBreakpoint (place : Int32) (isSet : Int32) (N P X : zM) : Int32 := if (g_X7_isPlace place) = 0 then (-100001) else if isSet = 0 then g_X7_setBreakpoint_lp place isSet 48 (nI 0) 0 (zu N 12 (zc place) (nI 0)) (hP_X7_records N P X) (hX_X7_records N P X) else g_X7_setBreakpoint_lp place isSet 48 (nI 0) 0 (zu N 12 (zc place) (nI 1)) (hP_X7_records N P X) (hX_X7_records N P X)
def hN_X7_setBreakpoint (place : Int32) (isSet : Int32) (N P X : zM) : zM := if (g_X7_isPlace place) = 0 then N else if isSet = 0 then hN_X7_setBreakpoint_lp place isSet 48 (nI 0) 0 (zu N 12 (zc place) (nI 0)) (hP_X7_records N P X) (hX_X7_records N P X) else hN_X7_setBreakpoint_lp place isSet 48 (nI 0) 0 (zu N 12 (zc place) (nI 1)) (hP_X7_records N P X) (hX_X7_records N P X)
def hP_X7_setBreakpoint (place : Int32) (isSet : Int32) (N P X : zM) : zM := if (g_X7_isPlace place) = 0 then P else if isSet = 0 then hP_X7_setBreakpoint_lp place isSet 48 (nI 0) 0 (zu N 12 (zc place) (nI 0)) (hP_X7_records N P X) (hX_X7_records N P X) else hP_X7_setBreakpoint_lp place isSet 48 (nI 0) 0 (zu N 12 (zc place) (nI 1)) (hP_X7_records N P X) (hX_X7_records N P X)
def hX_X7_setBreakpoint (place : Int32) (isSet : Int32) (N P X : zM) : zM := if (g_X7_isPlace place) = 0 then X else if isSet = 0 then hX_X7_setBreakpoint_lp place isSet 48 (nI 0) 0 (zu N 12 (zc place) (nI 0)) (hP_X7_records N P X) (hX_X7_records N P X) else hX_X7_setBreakpoint_lp place isSet 48 (nI 0) 0 (zu N 12 (zc place) (nI 1)) (hP_X7_records N P X) (hX_X7_records N P X)
set_option maxHeartbeats 4000000 in
set_option maxRecDepth 100000 in
theorem ct_X7_setBreakpoint (l : Launch) (D : va_G) (a : Nat → Nat) (cI : ClassId) (hJ : mJ a) (N A P X : zM) (place : Int32) (isSet : Int32) (hX : zIn (X 0 0) 5) : mCi l yX7_setBreakpoint wsX7_setBreakpoint ({ frames := 2, cells := 0, slots := 0, locals := 42 } : Room) D a cI [.ref (a 0), .int place, .int isSet] (N, A, P, X) (g_X7_setBreakpoint place isSet N P X) (hN_X7_setBreakpoint place isSet N P X, A, hP_X7_setBreakpoint place isSet N P X, hX_X7_setBreakpoint place isSet N P X) := by
  have hiX7 : ∀ w ∈ wsX70, w ∈ wsX7_setBreakpoint := by decide +kernel
  refine m_ofi (cc := cX7_setBreakpoint) (maxL := 5) (own := RX7) (by decide) rfl (Nat.le_of_ble_eq_true rfl) rfl (fun p e s m below meth c ls hx hb hr hml hts hown hlk hl hK hP hS => ?_)
  have hl : lv_has ls 5 [(0, .ref (a 0)), (1, .int place), (2, .int isSet)] := hl
  have lp38 : ∀ (n : Nat) (cnt : Int32) (i : Nat) (N : zM) (P : zM) (X : zM) (H : Heap) (locs : List Loc) (ls : Array Slot) (hn : i + n = 48) (hl : lv_has ls 5 [(0, .ref (a 0)), (1, .int place), (2, .int isSet), (3, .int cnt), (4, .int (nI i))]) (hP : va_P D vwCl (mW a cI (N, A, P, X)) H) (hS : va_S (mA a) s.heap H locs), W p l e ({ frames := 2, cells := 0, slots := 0, locals := 42 } : Room) s m ([.ref (a 0), .int place, .int isSet] : List Value).toArray below meth c H locs 0 0 (mQi below D a cI [.ref (a 0), .int place, .int isSet] s (g_X7_setBreakpoint_lp place isSet n cnt i N P X) (hN_X7_setBreakpoint_lp place isSet n cnt i N P X, A, hP_X7_setBreakpoint_lp place isSet n cnt i N P X, hX_X7_setBreakpoint_lp place isSet n cnt i N P X)) (F0 m 38 ls []) := by
    intro n
    induction n with
    | zero =>
      intro cnt i N P X H locs ls hn hl hP hS
      refine lv_iload hx hb dX7_setBreakpoint_38 (lv_at hl 4 rfl) ?_
      refine lv_bipush (v := nI 48) hx hb dX7_setBreakpoint_40 (by decide) ?_
      refine lv_icmp_ge (tgt := 65) hx hb dX7_setBreakpoint_42 (by decide) (fun c42_1 => ?_) (fun c42_1 => absurd (nI_le (by omega) (by omega)) c42_1)
      refine lv_iload_n hx hb dX7_setBreakpoint_65 rfl (lv_at hl 3 rfl) ?_
      exact m_reti hx hb hr hlk rfl hP hS dX7_setBreakpoint_66 (by first | rfl | simp only [g_X7_setBreakpoint_lp]) (m_eq (by first | rfl | simp only [hN_X7_setBreakpoint_lp]) rfl (by first | rfl | simp only [hP_X7_setBreakpoint_lp]) (by first | rfl | simp only [hX_X7_setBreakpoint_lp]))
    | succ n ih =>
      intro cnt i N P X H locs ls hn hl hP hS
      refine lv_iload hx hb dX7_setBreakpoint_38 (lv_at hl 4 rfl) ?_
      refine lv_bipush (v := nI 48) hx hb dX7_setBreakpoint_40 (by decide) ?_
      refine lv_icmp_ge (tgt := 65) hx hb dX7_setBreakpoint_42 (by decide) (fun c42_2 => absurd c42_2 (nI_ge (by omega) (by decide))) (fun c42_2 => ?_)
      refine lv_iload_n hx hb dX7_setBreakpoint_45 rfl (lv_at hl 3 rfl) ?_
      refine lv_aload_n hx hb dX7_setBreakpoint_46 rfl (lv_at hl 0 rfl) ?_
      refine mgO0 hx hb hts hiX7 hown hK hP (hts (.fieldLink RX7 7 "BarrelProcessorModel" "s" "[I") (by decide +kernel)) dX7_setBreakpoint_47 ?_
      refine lv_sipush (v := nI 244) hx hb dX7_setBreakpoint_50 (by decide) ?_
      refine lv_iload hx hb dX7_setBreakpoint_53 (lv_at hl 4 rfl) ?_
      refine lv_iadd hx hb dX7_setBreakpoint_55 ?_
      refine z_val (z := nI (244 + i)) (nI_add _ _) ?_
      refine m_iald hx hb hK hP mG_s (j := 244 + i) (by omega) (by decide) dX7_setBreakpoint_56 ?_
      refine z_val (z := N 12 i) (zen_of (zf_bk (by omega))) ?_
      refine lv_iadd hx hb dX7_setBreakpoint_57 ?_
      refine lv_istore_n (lv' := [(3, .int (cnt + (N 12 i))), (0, .ref (a 0)), (1, .int place), (2, .int isSet), (4, .int (nI i))]) hx hb dX7_setBreakpoint_58 rfl hl (by decide) rfl (fun ls hl => ?_)
      refine lv_iinc (v := nI (i + 1)) (lv' := [(4, .int (nI (i + 1))), (3, .int (cnt + (N 12 i))), (0, .ref (a 0)), (1, .int place), (2, .int isSet)]) hx hb dX7_setBreakpoint_59 hl (k := 4) rfl (nI_add _ _) (by decide) rfl (fun ls hl => ?_)
      refine lv_goto (tgt := 38) hx hb dX7_setBreakpoint_62 (by decide) ?_
      refine m_toi (r2 := g_X7_setBreakpoint_lp place isSet n (cnt + (N 12 i)) (i + 1) N P X) (Z2 := (hN_X7_setBreakpoint_lp place isSet n (cnt + (N 12 i)) (i + 1) N P X, A, hP_X7_setBreakpoint_lp place isSet n (cnt + (N 12 i)) (i + 1) N P X, hX_X7_setBreakpoint_lp place isSet n (cnt + (N 12 i)) (i + 1) N P X)) (by first | rfl | simp only [g_X7_setBreakpoint_lp]) (m_eq (by first | rfl | simp only [hN_X7_setBreakpoint_lp]) rfl (by first | rfl | simp only [hP_X7_setBreakpoint_lp]) (by first | rfl | simp only [hX_X7_setBreakpoint_lp])) ?_
      exact ih (cnt + (N 12 i)) (i + 1) N P X _ _ _ (by omega) (lv_sub hl [2, 3, 4, 1, 0] rfl) hP hS
  refine lv_iload_n hx hb dX7_setBreakpoint_0 rfl (lv_at hl 1 rfl) ?_
  refine m_cSi (As := [.int place]) (rest := []) ⟨hx, hb, hml, hown, hts⟩ (ct_X7_isPlace l D a cI hJ N A P X place) (va_cwS 1 hts gX7_setBreakpoint_X7_isPlace rfl rfl rfl (by decide +kernel) ⟨Nat.le_of_ble_eq_true rfl, Nat.le_of_ble_eq_true rfl⟩) hK hP hS rfl hl.1 rfl (Nat.le_of_ble_eq_true rfl) dX7_setBreakpoint_1 ⟨Nat.zero_le _, Nat.zero_le _⟩ (fun H locs hP hS => ?_)
  refine lv_if_ne (tgt := 10) hx hb dX7_setBreakpoint_4 (by decide) (fun c4_3 => ?_) (fun c4_3 => ?_)
  · have bp := m_isPlace c4_3
    have bp1 := bp.1
    refine lv_aload_n hx hb dX7_setBreakpoint_10 rfl (lv_at hl 0 rfl) ?_
    refine m_cVv (As := []) (rest := []) ⟨hx, hb, hml, hown, hts⟩ (ct_X7_records l D a cI hJ N A P X hX) (cwV 0 hts gX7_setBreakpoint_X7_records rfl rfl rfl (by decide +kernel) ⟨Nat.le_of_ble_eq_true rfl, Nat.le_of_ble_eq_true rfl⟩) hK hP hS (va_recv (ci := 7) hK hP rfl mG_O) rfl hl.1 rfl (Nat.le_of_ble_eq_true rfl) dX7_setBreakpoint_11 ⟨Nat.zero_le _, Nat.zero_le _⟩ (fun H locs hP hS => ?_)
    refine lv_aload_n hx hb dX7_setBreakpoint_14 rfl (lv_at hl 0 rfl) ?_
    refine mgO0 hx hb hts hiX7 hown hK hP (hts (.fieldLink RX7 7 "BarrelProcessorModel" "s" "[I") (by decide +kernel)) dX7_setBreakpoint_15 ?_
    refine lv_sipush (v := nI 244) hx hb dX7_setBreakpoint_18 (by decide) ?_
    refine lv_iload_n hx hb dX7_setBreakpoint_21 rfl (lv_at hl 1 rfl) ?_
    refine z_val (z := nI (zc place)) bp.2 ?_
    refine lv_iadd hx hb dX7_setBreakpoint_22 ?_
    refine z_val (z := nI (244 + (zc place))) (nI_add _ _) ?_
    refine lv_iload_n hx hb dX7_setBreakpoint_23 rfl (lv_at hl 2 rfl) ?_
    refine lv_if_eq (tgt := 31) hx hb dX7_setBreakpoint_24 (by decide) (fun c24_4 => ?_) (fun c24_4 => ?_)
    · refine lv_iconst (v := nI 0) hx hb dX7_setBreakpoint_31 (by decide) ?_
      refine m_iast (Z' := (zu N 12 (zc place) (nI 0), A, hP_X7_records N P X, hX_X7_records N P X)) hx hb hK hP hJ hS mG_s (j := 244 + (zc place)) (by omega) (by decide) dX7_setBreakpoint_32 (mS_s (zf_bk (by omega))) (fun H locs hP hS => ?_)
      refine lv_iconst (v := nI 0) hx hb dX7_setBreakpoint_33 (by decide) ?_
      refine lv_istore_n (lv' := [(3, .int (nI 0)), (0, .ref (a 0)), (1, .int place), (2, .int isSet)]) hx hb dX7_setBreakpoint_34 rfl hl (by decide) rfl (fun ls hl => ?_)
      refine lv_iconst (v := nI 0) hx hb dX7_setBreakpoint_35 (by decide) ?_
      refine lv_istore (lv' := [(4, .int (nI 0)), (3, .int (nI 0)), (0, .ref (a 0)), (1, .int place), (2, .int isSet)]) hx hb dX7_setBreakpoint_36 hl (by decide) rfl (fun ls hl => ?_)
      refine m_toi (r2 := g_X7_setBreakpoint_lp place isSet 48 (nI 0) 0 (zu N 12 (zc place) (nI 0)) (hP_X7_records N P X) (hX_X7_records N P X)) (Z2 := (hN_X7_setBreakpoint_lp place isSet 48 (nI 0) 0 (zu N 12 (zc place) (nI 0)) (hP_X7_records N P X) (hX_X7_records N P X), A, hP_X7_setBreakpoint_lp place isSet 48 (nI 0) 0 (zu N 12 (zc place) (nI 0)) (hP_X7_records N P X) (hX_X7_records N P X), hX_X7_setBreakpoint_lp place isSet 48 (nI 0) 0 (zu N 12 (zc place) (nI 0)) (hP_X7_records N P X) (hX_X7_records N P X))) (by simp only [g_X7_setBreakpoint, if_neg c4_3, if_pos c24_4]) (m_eq (by simp only [hN_X7_setBreakpoint, if_neg c4_3, if_pos c24_4]) rfl (by simp only [hP_X7_setBreakpoint, if_neg c4_3, if_pos c24_4]) (by simp only [hX_X7_setBreakpoint, if_neg c4_3, if_pos c24_4])) ?_
      exact lp38 48 (nI 0) 0 (zu N 12 (zc place) (nI 0)) (hP_X7_records N P X) (hX_X7_records N P X) _ _ _ (by omega) (lv_sub hl [2, 3, 4, 1, 0] rfl) hP hS
    · refine lv_iconst (v := nI 1) hx hb dX7_setBreakpoint_27 (by decide) ?_
      refine lv_goto (tgt := 32) hx hb dX7_setBreakpoint_28 (by decide) ?_
      refine m_iast (Z' := (zu N 12 (zc place) (nI 1), A, hP_X7_records N P X, hX_X7_records N P X)) hx hb hK hP hJ hS mG_s (j := 244 + (zc place)) (by omega) (by decide) dX7_setBreakpoint_32 (mS_s (zf_bk (by omega))) (fun H locs hP hS => ?_)
      refine lv_iconst (v := nI 0) hx hb dX7_setBreakpoint_33 (by decide) ?_
      refine lv_istore_n (lv' := [(3, .int (nI 0)), (0, .ref (a 0)), (1, .int place), (2, .int isSet)]) hx hb dX7_setBreakpoint_34 rfl hl (by decide) rfl (fun ls hl => ?_)
      refine lv_iconst (v := nI 0) hx hb dX7_setBreakpoint_35 (by decide) ?_
      refine lv_istore (lv' := [(4, .int (nI 0)), (3, .int (nI 0)), (0, .ref (a 0)), (1, .int place), (2, .int isSet)]) hx hb dX7_setBreakpoint_36 hl (by decide) rfl (fun ls hl => ?_)
      refine m_toi (r2 := g_X7_setBreakpoint_lp place isSet 48 (nI 0) 0 (zu N 12 (zc place) (nI 1)) (hP_X7_records N P X) (hX_X7_records N P X)) (Z2 := (hN_X7_setBreakpoint_lp place isSet 48 (nI 0) 0 (zu N 12 (zc place) (nI 1)) (hP_X7_records N P X) (hX_X7_records N P X), A, hP_X7_setBreakpoint_lp place isSet 48 (nI 0) 0 (zu N 12 (zc place) (nI 1)) (hP_X7_records N P X) (hX_X7_records N P X), hX_X7_setBreakpoint_lp place isSet 48 (nI 0) 0 (zu N 12 (zc place) (nI 1)) (hP_X7_records N P X) (hX_X7_records N P X))) (by simp only [g_X7_setBreakpoint, if_neg c4_3, if_neg c24_4]) (m_eq (by simp only [hN_X7_setBreakpoint, if_neg c4_3, if_neg c24_4]) rfl (by simp only [hP_X7_setBreakpoint, if_neg c4_3, if_neg c24_4]) (by simp only [hX_X7_setBreakpoint, if_neg c4_3, if_neg c24_4])) ?_
      exact lp38 48 (nI 0) 0 (zu N 12 (zc place) (nI 1)) (hP_X7_records N P X) (hX_X7_records N P X) _ _ _ (by omega) (lv_sub hl [2, 3, 4, 1, 0] rfl) hP hS
  · refine lv_ldc (v := (-100001)) hx hb hown (hts (.constant RX7 75 (-100001)) (by decide +kernel)) dX7_setBreakpoint_7 ?_
    exact m_reti hx hb hr hlk rfl hP hS dX7_setBreakpoint_9 (by simp only [g_X7_setBreakpoint, if_pos c4_3]) (m_eq (by simp only [hN_X7_setBreakpoint, if_pos c4_3]) rfl (by simp only [hP_X7_setBreakpoint, if_pos c4_3]) (by simp only [hX_X7_setBreakpoint, if_pos c4_3]))
