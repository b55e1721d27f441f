theorem rOK_tick {B : Nat} {N : zM} (h : rOK B N) (hB : B + 1 < 1000000) : rOK (B + 1) (zu N 16 0 (N 16 0 + nI 1)) := by
  have h1 := h.2.2.2.2.1.1
  refine rOK_16 h ?_ hB
  rw [h1.2, nI_add]
  exact zIn_nI (by have h9 := h1.1; omega) (by omega)
theorem rOK_cycles_lp {B : Nat} (hB : B + 1 < 1000000) (own iss : Int32) (hF : iss = -1 ∨ zIn iss 4) : ∀ (n i : Nat) (N : zM), rOK B N → rOK (B + 1) (hN_X7_cycles_lp n own iss i N) := by
  intro n
  induction n with
  | zero =>
    intro i N h
    simp only [hN_X7_cycles_lp]
    refine z_ite (P := rOK (B + 1)) (fun _ => ?_) (fun _ => ?_)
    · exact rOK_tick (rOK_u h (by decide) (by decide) (by decide) (by decide) (by decide) (by decide) (by decide) (by decide) (by decide)) hB
    · have b9 := (hF.resolve_left ‹_›).1
      refine z_ite (P := rOK (B + 1)) (fun _ => ?_) (fun _ => ?_)
      · exact rOK_tick (rOK_executes (rOK_u (rOK_u (rOK_u h (by decide) (by decide) (by decide) (by decide) (by decide) (by decide) (by decide) (by decide) (by decide)) (by decide) (by decide) (by decide) (by decide) (by decide) (by decide) (by decide) (by decide) (by decide)) (by decide) (by decide) (by decide) (by decide) (by decide) (by decide) (by decide) (by decide) (by decide)) b9) hB
      · exact rOK_tick (rOK_executes (rOK_u (rOK_u (rOK_u h (by decide) (by decide) (by decide) (by decide) (by decide) (by decide) (by decide) (by decide) (by decide)) (by decide) (by decide) (by decide) (by decide) (by decide) (by decide) (by decide) (by decide) (by decide)) (by decide) (by decide) (by decide) (by decide) (by decide) (by decide) (by decide) (by decide) (by decide)) b9) hB
  | succ n ih =>
    intro i N h
    simp only [hN_X7_cycles_lp]
    refine z_ite (P := rOK (B + 1)) (fun _ => ?_) (fun _ => ?_)
    · refine z_ite (P := rOK (B + 1)) (fun _ => ?_) (fun _ => ?_)
      · exact ih _ _ (rOK_u (rOK_u h (by decide) (by decide) (by decide) (by decide) (by decide) (by decide) (by decide) (by decide) (by decide)) (by decide) (by decide) (by decide) (by decide) (by decide) (by decide) (by decide) (by decide) (by decide))
      · exact ih _ _ (rOK_u (rOK_u h (by decide) (by decide) (by decide) (by decide) (by decide) (by decide) (by decide) (by decide) (by decide)) (by decide) (by decide) (by decide) (by decide) (by decide) (by decide) (by decide) (by decide) (by decide))
    · refine z_ite (P := rOK (B + 1)) (fun _ => ?_) (fun _ => ?_)
      · refine z_ite (P := rOK (B + 1)) (fun _ => ?_) (fun _ => ?_)
        · exact ih _ _ (rOK_u (rOK_u h (by decide) (by decide) (by decide) (by decide) (by decide) (by decide) (by decide) (by decide) (by decide)) (by decide) (by decide) (by decide) (by decide) (by decide) (by decide) (by decide) (by decide) (by decide))
        · exact ih _ _ (rOK_u (rOK_u h (by decide) (by decide) (by decide) (by decide) (by decide) (by decide) (by decide) (by decide) (by decide)) (by decide) (by decide) (by decide) (by decide) (by decide) (by decide) (by decide) (by decide) (by decide))
      · refine z_ite (P := rOK (B + 1)) (fun _ => ?_) (fun _ => ?_)
        · exact ih _ _ (rOK_u (rOK_u h (by decide) (by decide) (by decide) (by decide) (by decide) (by decide) (by decide) (by decide) (by decide)) (by decide) (by decide) (by decide) (by decide) (by decide) (by decide) (by decide) (by decide) (by decide))
        · exact ih _ _ (rOK_u (rOK_u h (by decide) (by decide) (by decide) (by decide) (by decide) (by decide) (by decide) (by decide) (by decide)) (by decide) (by decide) (by decide) (by decide) (by decide) (by decide) (by decide) (by decide) (by decide))
theorem rOK_cycles {B : Nat} {N : zM} (h : rOK B N) (hB : B + 1 < 1000000) : rOK (B + 1) (hN_X7_cycles N) := rOK_cycles_lp hB _ _ (m_issuing (rOK_prepares h)) _ _ _ (rOK_prepares h)
theorem m_within1 {x : Int32} {n : Nat} (hn : n < 2 ^ 31) (h : ¬ g_X7_in x (nI 1) (nI n) = 0) : zIn x (n + 1) ∧ 1 ≤ zc x := by
  unfold g_X7_in at h
  by_cases c1 : x < nI 1
  · simp only [if_pos c1] at h
    exact absurd rfl h
  · by_cases c2 : nI n < x
    · simp only [if_neg c1, if_pos c2] at h
      exact absurd rfl h
    · have c0 : ¬ x < 0 := fun q => c1 (by
        have e1 := Int32.lt_iff_toInt_lt.mp q
        refine Int32.lt_iff_toInt_lt.mpr ?_
        have e2 : (nI 1).toInt = 1 := by decide
        have e3 : (0 : Int32).toInt = 0 := by decide
        omega)
      obtain ⟨j, h1, rfl⟩ := nI_of (x := x) c0
      have c3 : ¬ n < j := fun q => c2 (nI_lt q h1)
      have c4 : ¬ j < 1 := fun q => c1 (nI_lt q (by decide))
      refine ⟨zIn_nI (by omega) (by omega), ?_⟩
      rw [zc_nI h1]
      omega
theorem z_lt5 {x : Int32} (h : zIn x 5) (hc : ¬ x = nI 4) : zIn x 4 := by
  have e : zc x ≠ 4 := fun q => hc (by rw [h.2, q])
  exact ⟨by have h9 := h.1; omega, h.2⟩
theorem z_cpf {N : zM} {f : Nat → Int32} {i : Nat} (h : ∀ j, j < i → zen N j = f j) : ∀ j, j < i + 1 → zen (zde (upd (zen N) i (f i))) j = f j := by
  intro j hj
  rw [zen_zde]
  by_cases e : j = i
  · subst e
    rw [pk_us]
  · rw [pk_un e]
    exact h j (by omega)

def hP_X7_records_lq  : Nat → Nat → zM → zM → zM → zM
  | 0, i, N, P, X => P
  | n + 1, i, N, P, X => hP_X7_records_lq n (i + 1) N (zu P 0 (341 * (zc (X 0 0)) + i) (zen N i)) X
def hX_X7_records_lq  : Nat → Nat → zM → zM → zM → zM
  | 0, i, N, P, X => zu X 0 0 (nI (zc (X 0 0) + 1))
  | n + 1, i, N, P, X => hX_X7_records_lq n (i + 1) N (zu P 0 (341 * (zc (X 0 0)) + i) (zen N i)) X
def hP_X7_records_lp  : Nat → Nat → zM → zM → zM → zM
  | 0, i, N, P, X => hP_X7_records_lq 341 0 N P (zu X 0 0 (nI 3))
  | n + 1, i, N, P, X => hP_X7_records_lp n (i + 1) N (zu P 0 i (P 0 (341 + i))) X
def hX_X7_records_lp  : Nat → Nat → zM → zM → zM → zM
  | 0, i, N, P, X => hX_X7_records_lq 341 0 N P (zu X 0 0 (nI 3))
  | n + 1, i, N, P, X => hX_X7_records_lp n (i + 1) N (zu P 0 i (P 0 (341 + i))) X
def hP_X7_records  (N P X : zM) : zM := if (X 0 0) = (nI 4) then hP_X7_records_lp 1023 0 N P X else hP_X7_records_lq 341 0 N P X
def hX_X7_records  (N P X : zM) : zM := if (X 0 0) = (nI 4) then hX_X7_records_lp 1023 0 N P X else hX_X7_records_lq 341 0 N P X
set_option maxHeartbeats 4000000 in
set_option maxRecDepth 100000 in
theorem ct_X7_records (l : Launch) (D : va_G) (a : Nat → Nat) (cI : ClassId) (hJ : mJ a) (N A P X : zM) (hX : zIn (X 0 0) 5) : mCv l yX7_records wsX7_records ({ frames := 0, cells := 0, slots := 0, locals := 0 } : Room) D a cI [.ref (a 0)] (N, A, P, X) (N, A, hP_X7_records N P X, hX_X7_records N P X) := by
  have hiX7 : ∀ w ∈ wsX70, w ∈ wsX7_records := by decide +kernel
  refine m_ofv (cc := cX7_records) (maxL := 2) (own := RX7) (by decide) rfl (Nat.le_of_ble_eq_true rfl) rfl (fun p e s m below meth c ls hx hb hr hml hts hown hlk hl hK hP hS => ?_)
  have hl : lv_has ls 2 [(0, .ref (a 0))] := hl
  have lp51 : ∀ (n : Nat) (i : Nat) (P : zM) (X : zM) (H : Heap) (locs : List Loc) (ls : Array Slot) (hn : i + n = 341) (hX : zIn (X 0 0) 4) (hl : lv_has ls 2 [(0, .ref (a 0)), (1, .int (nI i))]) (hP : va_P D vwCl (mW a cI (N, A, P, X)) H) (hS : va_S (mA a) s.heap H locs), W p l e ({ frames := 0, cells := 0, slots := 0, locals := 0 } : Room) s m ([.ref (a 0)] : List Value).toArray below meth c H locs 0 0 (mQv below D a cI [.ref (a 0)] s (N, A, hP_X7_records_lq n i N P X, hX_X7_records_lq n i N P X)) (F0 m 51 ls []) := by
    intro n
    induction n with
    | zero =>
      intro i P X H locs ls hn hX hl hP hS
      refine lv_iload_n hx hb dX7_records_51 rfl (lv_at hl 1 rfl) ?_
      refine lv_sipush (v := nI 341) hx hb dX7_records_52 (by decide) ?_
      refine lv_icmp_ge (tgt := 85) hx hb dX7_records_55 (by decide) (fun c55_1 => ?_) (fun c55_1 => absurd (nI_le (by omega) (by omega)) c55_1)
      refine lv_aload_n hx hb dX7_records_85 rfl (lv_at hl 0 rfl) ?_
      refine lv_dup hx hb dX7_records_86 rfl ?_
      refine mgO3 hx hb hts hiX7 hown hK hP (hts (.fieldLink RX7 30 "BarrelProcessorModel" "pasts" "I") (by decide +kernel)) dX7_records_87 ?_
      refine z_val (z := nI (zc (X 0 0))) hX.2 ?_
      refine lv_iconst (v := nI 1) hx hb dX7_records_90 (by decide) ?_
      refine lv_iadd hx hb dX7_records_91 ?_
      refine z_val (z := nI (zc (X 0 0) + 1)) (nI_add _ _) ?_
      refine mpO3 hx hb hts hiX7 hown hK hP hJ hS (hts (.fieldLink RX7 30 "BarrelProcessorModel" "pasts" "I") (by decide +kernel)) dX7_records_92 (fun H locs hP hS => ?_)
      exact m_retv hx hb hr hlk hP hS dX7_records_95 (m_eq rfl rfl (by first | rfl | simp only [hP_X7_records_lq]) (by first | rfl | simp only [hX_X7_records_lq]))
    | succ n ih =>
      intro i P X H locs ls hn hX hl hP hS
      refine lv_iload_n hx hb dX7_records_51 rfl (lv_at hl 1 rfl) ?_
      refine lv_sipush (v := nI 341) hx hb dX7_records_52 (by decide) ?_
      refine lv_icmp_ge (tgt := 85) hx hb dX7_records_55 (by decide) (fun c55_2 => absurd c55_2 (nI_ge (by omega) (by decide))) (fun c55_2 => ?_)
      refine lv_aload_n hx hb dX7_records_58 rfl (lv_at hl 0 rfl) ?_
      refine mgO2 hx hb hts hiX7 hown hK hP (hts (.fieldLink RX7 16 "BarrelProcessorModel" "past" "[I") (by decide +kernel)) dX7_records_59 ?_
      refine lv_sipush (v := nI 341) hx hb dX7_records_62 (by decide) ?_
      refine lv_aload_n hx hb dX7_records_65 rfl (lv_at hl 0 rfl) ?_
      refine mgO3 hx hb hts hiX7 hown hK hP (hts (.fieldLink RX7 30 "BarrelProcessorModel" "pasts" "I") (by decide +kernel)) dX7_records_66 ?_
      refine z_val (z := nI (zc (X 0 0))) hX.2 ?_
      refine lv_imul hx hb dX7_records_69 ?_
      refine z_val (z := nI (341 * (zc (X 0 0)))) (pk_mul _ _) ?_
      refine lv_iload_n hx hb dX7_records_70 rfl (lv_at hl 1 rfl) ?_
      refine lv_iadd hx hb dX7_records_71 ?_
      refine z_val (z := nI (341 * (zc (X 0 0)) + i)) (nI_add _ _) ?_
      refine lv_aload_n hx hb dX7_records_72 rfl (lv_at hl 0 rfl) ?_
      refine mgO0 hx hb hts hiX7 hown hK hP (hts (.fieldLink RX7 7 "BarrelProcessorModel" "s" "[I") (by decide +kernel)) dX7_records_73 ?_
      refine lv_iload_n hx hb dX7_records_76 rfl (lv_at hl 1 rfl) ?_
      refine m_iald hx hb hK hP mG_s (j := i) (by omega) (by decide) dX7_records_77 ?_
      refine m_iast (Z' := (N, A, zu P 0 (341 * (zc (X 0 0)) + i) (zen N i), X)) hx hb hK hP hJ hS mG_pa (j := 341 * (zc (X 0 0)) + i) (by have h9 := hX.1; omega) (by decide) dX7_records_78 mS_pa (fun H locs hP hS => ?_)
      refine lv_iinc (v := nI (i + 1)) (lv' := [(1, .int (nI (i + 1))), (0, .ref (a 0))]) hx hb dX7_records_79 hl (k := 1) rfl (nI_add _ _) (by decide) rfl (fun ls hl => ?_)
      refine lv_goto (tgt := 51) hx hb dX7_records_82 (by decide) ?_
      refine m_tov (Z2 := (N, A, hP_X7_records_lq n (i + 1) N (zu P 0 (341 * (zc (X 0 0)) + i) (zen N i)) X, hX_X7_records_lq n (i + 1) N (zu P 0 (341 * (zc (X 0 0)) + i) (zen N i)) X)) (m_eq rfl rfl (by first | rfl | simp only [hP_X7_records_lq]) (by first | rfl | simp only [hX_X7_records_lq])) ?_
      exact ih (i + 1) (zu P 0 (341 * (zc (X 0 0)) + i) (zen N i)) X _ _ _ (by omega) hX (lv_sub hl [1, 0] rfl) hP hS
  have lp10 : ∀ (n : Nat) (i : Nat) (P : zM) (X : zM) (H : Heap) (locs : List Loc) (ls : Array Slot) (hn : i + n = 1023) (hX4 : X 0 0 = nI 4) (hl : lv_has ls 2 [(0, .ref (a 0)), (1, .int (nI i))]) (hP : va_P D vwCl (mW a cI (N, A, P, X)) H) (hS : va_S (mA a) s.heap H locs), W p l e ({ frames := 0, cells := 0, slots := 0, locals := 0 } : Room) s m ([.ref (a 0)] : List Value).toArray below meth c H locs 0 0 (mQv below D a cI [.ref (a 0)] s (N, A, hP_X7_records_lp n i N P X, hX_X7_records_lp n i N P X)) (F0 m 10 ls []) := by
    intro n
    induction n with
    | zero =>
      intro i P X H locs ls hn hX4 hl hP hS
      refine lv_iload_n hx hb dX7_records_10 rfl (lv_at hl 1 rfl) ?_
      refine lv_sipush (v := nI 1023) hx hb dX7_records_11 (by decide) ?_
      refine lv_icmp_ge (tgt := 39) hx hb dX7_records_14 (by decide) (fun c14_3 => ?_) (fun c14_3 => absurd (nI_le (by omega) (by omega)) c14_3)
      refine lv_aload_n hx hb dX7_records_39 rfl (lv_at hl 0 rfl) ?_
      refine lv_dup hx hb dX7_records_40 rfl ?_
      refine mgO3 hx hb hts hiX7 hown hK hP (hts (.fieldLink RX7 30 "BarrelProcessorModel" "pasts" "I") (by decide +kernel)) dX7_records_41 ?_
      refine z_val (z := nI 4) hX4 ?_
      refine lv_iconst (v := nI 1) hx hb dX7_records_44 (by decide) ?_
      refine lv_isub hx hb dX7_records_45 ?_
      refine z_val (z := nI 3) (pk_sub (by decide)) ?_
      refine mpO3 hx hb hts hiX7 hown hK hP hJ hS (hts (.fieldLink RX7 30 "BarrelProcessorModel" "pasts" "I") (by decide +kernel)) dX7_records_46 (fun H locs hP hS => ?_)
      refine lv_iconst (v := nI 0) hx hb dX7_records_49 (by decide) ?_
      refine lv_istore_n (lv' := [(1, .int (nI 0)), (0, .ref (a 0))]) hx hb dX7_records_50 rfl hl (by decide) rfl (fun ls hl => ?_)
      refine m_tov (Z2 := (N, A, hP_X7_records_lq 341 0 N P (zu X 0 0 (nI 3)), hX_X7_records_lq 341 0 N P (zu X 0 0 (nI 3)))) (m_eq rfl rfl (by first | rfl | simp only [hP_X7_records_lp]) (by first | rfl | simp only [hX_X7_records_lp])) ?_
      exact lp51 341 0 P (zu X 0 0 (nI 3)) _ _ _ (by omega) (by first | (rw [zu_s]; exact zIn_nI (by decide) (by decide)) | exact z_lt5 hX ‹_›) (lv_sub hl [1, 0] rfl) hP hS
    | succ n ih =>
      intro i P X H locs ls hn hX4 hl hP hS
      refine lv_iload_n hx hb dX7_records_10 rfl (lv_at hl 1 rfl) ?_
      refine lv_sipush (v := nI 1023) hx hb dX7_records_11 (by decide) ?_
      refine lv_icmp_ge (tgt := 39) hx hb dX7_records_14 (by decide) (fun c14_4 => absurd c14_4 (nI_ge (by omega) (by decide))) (fun c14_4 => ?_)
      refine lv_aload_n hx hb dX7_records_17 rfl (lv_at hl 0 rfl) ?_
      refine mgO2 hx hb hts hiX7 hown hK hP (hts (.fieldLink RX7 16 "BarrelProcessorModel" "past" "[I") (by decide +kernel)) dX7_records_18 ?_
      refine lv_iload_n hx hb dX7_records_21 rfl (lv_at hl 1 rfl) ?_
      refine lv_aload_n hx hb dX7_records_22 rfl (lv_at hl 0 rfl) ?_
      refine mgO2 hx hb hts hiX7 hown hK hP (hts (.fieldLink RX7 16 "BarrelProcessorModel" "past" "[I") (by decide +kernel)) dX7_records_23 ?_
      refine lv_sipush (v := nI 341) hx hb dX7_records_26 (by decide) ?_
      refine lv_iload_n hx hb dX7_records_29 rfl (lv_at hl 1 rfl) ?_
      refine lv_iadd hx hb dX7_records_30 ?_
      refine z_val (z := nI (341 + i)) (nI_add _ _) ?_
      refine m_iald hx hb hK hP mG_pa (j := 341 + i) (by omega) (by decide) dX7_records_31 ?_
      refine m_iast (Z' := (N, A, zu P 0 i (P 0 (341 + i)), X)) hx hb hK hP hJ hS mG_pa (j := i) (by omega) (by decide) dX7_records_32 mS_pa (fun H locs hP hS => ?_)
      refine lv_iinc (v := nI (i + 1)) (lv' := [(1, .int (nI (i + 1))), (0, .ref (a 0))]) hx hb dX7_records_33 hl (k := 1) rfl (nI_add _ _) (by decide) rfl (fun ls hl => ?_)
      refine lv_goto (tgt := 10) hx hb dX7_records_36 (by decide) ?_
      refine m_tov (Z2 := (N, A, hP_X7_records_lp n (i + 1) N (zu P 0 i (P 0 (341 + i))) X, hX_X7_records_lp n (i + 1) N (zu P 0 i (P 0 (341 + i))) X)) (m_eq rfl rfl (by first | rfl | simp only [hP_X7_records_lp]) (by first | rfl | simp only [hX_X7_records_lp])) ?_
      exact ih (i + 1) (zu P 0 i (P 0 (341 + i))) X _ _ _ (by omega) hX4 (lv_sub hl [1, 0] rfl) hP hS
  refine lv_aload_n hx hb dX7_records_0 rfl (lv_at hl 0 rfl) ?_
  refine mgO3 hx hb hts hiX7 hown hK hP (hts (.fieldLink RX7 30 "BarrelProcessorModel" "pasts" "I") (by decide +kernel)) dX7_records_1 ?_
  refine lv_iconst (v := nI 4) hx hb dX7_records_4 (by decide) ?_
  refine lv_icmp_ne (tgt := 49) hx hb dX7_records_5 (by decide) (fun c5_5 => ?_) (fun c5_5 => ?_)
  · refine lv_iconst (v := nI 0) hx hb dX7_records_49 (by decide) ?_
    refine lv_istore_n (lv' := [(1, .int (nI 0)), (0, .ref (a 0))]) hx hb dX7_records_50 rfl hl (by decide) rfl (fun ls hl => ?_)
    refine m_tov (Z2 := (N, A, hP_X7_records_lq 341 0 N P X, hX_X7_records_lq 341 0 N P X)) (m_eq rfl rfl (by simp only [hP_X7_records, if_neg c5_5]) (by simp only [hX_X7_records, if_neg c5_5])) ?_
    exact lp51 341 0 P X _ _ _ (by omega) (by first | (rw [zu_s]; exact zIn_nI (by decide) (by decide)) | exact z_lt5 hX ‹_›) (lv_sub hl [1, 0] rfl) hP hS
  · refine lv_iconst (v := nI 0) hx hb dX7_records_8 (by decide) ?_
    refine lv_istore_n (lv' := [(1, .int (nI 0)), (0, .ref (a 0))]) hx hb dX7_records_9 rfl hl (by decide) rfl (fun ls hl => ?_)
    refine m_tov (Z2 := (N, A, hP_X7_records_lp 1023 0 N P X, hX_X7_records_lp 1023 0 N P X)) (m_eq rfl rfl (by simp only [hP_X7_records, if_pos c5_5]) (by simp only [hX_X7_records, if_pos c5_5])) ?_
    exact lp10 1023 0 P X _ _ _ (by omega) ‹X 0 0 = nI 4› (lv_sub hl [1, 0] rfl) hP hS

def g_X7_undo0  : Int32 := (-100005)
set_option maxHeartbeats 4000000 in
set_option maxRecDepth 100000 in
theorem ct_X7_undo0 (l : Launch) (D : va_G) (a : Nat → Nat) (cI : ClassId) (hJ : mJ a) (N A P X : zM) (h0 : X 0 0 = 0) : mCi l yX7_undo wsX7_undo ({ frames := 0, cells := 0, slots := 0, locals := 0 } : Room) D a cI [.ref (a 0)] (N, A, P, X) (g_X7_undo0 ) (N, A, P, X) := by
  have hiX7 : ∀ w ∈ wsX70, w ∈ wsX7_undo := by decide +kernel
  refine m_ofi (cc := cX7_undo) (maxL := 2) (own := RX7) (by decide) rfl (Nat.le_of_ble_eq_true rfl) rfl (fun p e s m below meth c ls hx hb hr hml hts hown hlk hl hK hP hS => ?_)
  have hl : lv_has ls 2 [(0, .ref (a 0))] := hl
  refine lv_aload_n hx hb dX7_undo_0 rfl (lv_at hl 0 rfl) ?_
  refine mgO3 hx hb hts hiX7 hown hK hP (hts (.fieldLink RX7 30 "BarrelProcessorModel" "pasts" "I") (by decide +kernel)) dX7_undo_1 ?_
  refine lv_if_ne (tgt := 10) hx hb dX7_undo_4 (by decide) (fun c4_1 => absurd h0 c4_1) (fun c4_1 => ?_)
  refine lv_ldc (v := (-100005)) hx hb hown (hts (.constant RX7 147 (-100005)) (by decide +kernel)) dX7_undo_7 ?_
  exact m_reti hx hb hr hlk rfl hP hS dX7_undo_9 (by first | rfl | simp only [g_X7_undo0]) rfl

def g_X7_undo1_lp (pp : Nat) : Nat → Nat → zM → Int32
  | 0, i, X => nI pp
  | n + 1, i, X => g_X7_undo1_lp pp n (i + 1) X
def hX_X7_undo1_lp (pp : Nat) : Nat → Nat → zM → zM
  | 0, i, X => X
  | n + 1, i, X => hX_X7_undo1_lp pp n (i + 1) X
def g_X7_undo1 (pp : Nat) (X : zM) : Int32 := g_X7_undo1_lp pp 341 0 (zu X 0 0 (nI pp))
def hX_X7_undo1 (pp : Nat) (X : zM) : zM := hX_X7_undo1_lp pp 341 0 (zu X 0 0 (nI pp))
set_option maxHeartbeats 4000000 in
set_option maxRecDepth 100000 in
theorem ct_X7_undo1 (l : Launch) (D : va_G) (a : Nat → Nat) (cI : ClassId) (hJ : mJ a) (N A P X : zM) (S : zM) (pp : Nat) (hpp : X 0 0 = nI (pp + 1)) (hp4 : pp < 4) (hS0 : ∀ j, j < 341 → P 0 (341 * pp + j) = zen S j) : mCi l yX7_undo wsX7_undo ({ frames := 0, cells := 0, slots := 0, locals := 0 } : Room) D a cI [.ref (a 0)] (N, A, P, X) (g_X7_undo1 pp X) (S, A, P, hX_X7_undo1 pp X) := by
  have hiX7 : ∀ w ∈ wsX70, w ∈ wsX7_undo := by decide +kernel
  refine m_ofi (cc := cX7_undo) (maxL := 2) (own := RX7) (by decide) rfl (Nat.le_of_ble_eq_true rfl) rfl (fun p e s m below meth c ls hx hb hr hml hts hown hlk hl hK hP hS => ?_)
  have hl : lv_has ls 2 [(0, .ref (a 0))] := hl
  have lp22 : ∀ (n : Nat) (i : Nat) (N : zM) (X : zM) (H : Heap) (locs : List Loc) (ls : Array Slot) (hn : i + n = 341) (hX2 : X 0 0 = nI pp) (hN : ∀ j, j < i → zen N j = P 0 (341 * pp + j)) (hl : lv_has ls 2 [(0, .ref (a 0)), (1, .int (nI i))]) (hP : va_P D vwCl (mW a cI (N, A, P, X)) H) (hS : va_S (mA a) s.heap H locs), W p l e ({ frames := 0, cells := 0, slots := 0, locals := 0 } : Room) s m ([.ref (a 0)] : List Value).toArray below meth c H locs 0 0 (mQi below D a cI [.ref (a 0)] s (g_X7_undo1_lp pp n i X) (S, A, P, hX_X7_undo1_lp pp n i X)) (F0 m 22 ls []) := by
    intro n
    induction n with
    | zero =>
      intro i N X H locs ls hn hX2 hN hl hP hS
      refine lv_iload_n hx hb dX7_undo_22 rfl (lv_at hl 1 rfl) ?_
      refine lv_sipush (v := nI 341) hx hb dX7_undo_23 (by decide) ?_
      refine lv_icmp_ge (tgt := 56) hx hb dX7_undo_26 (by decide) (fun c26_1 => ?_) (fun c26_1 => absurd (nI_le (by omega) (by omega)) c26_1)
      refine lv_aload_n hx hb dX7_undo_56 rfl (lv_at hl 0 rfl) ?_
      refine mgO3 hx hb hts hiX7 hown hK hP (hts (.fieldLink RX7 30 "BarrelProcessorModel" "pasts" "I") (by decide +kernel)) dX7_undo_57 ?_
      refine z_val (z := nI pp) hX2 ?_
      exact m_reti hx hb hr hlk rfl (mP_congr (N' := S) (A' := A) (P' := P) (fun j hj => (hN j (by omega)).trans (hS0 j hj)) (fun _ _ => rfl) (fun _ _ => rfl) hP) hS dX7_undo_60 (by first | rfl | simp only [g_X7_undo1_lp]) (m_eq rfl rfl rfl (by first | rfl | simp only [hX_X7_undo1_lp]))
    | succ n ih =>
      intro i N X H locs ls hn hX2 hN hl hP hS
      refine lv_iload_n hx hb dX7_undo_22 rfl (lv_at hl 1 rfl) ?_
      refine lv_sipush (v := nI 341) hx hb dX7_undo_23 (by decide) ?_
      refine lv_icmp_ge (tgt := 56) hx hb dX7_undo_26 (by decide) (fun c26_2 => absurd c26_2 (nI_ge (by omega) (by decide))) (fun c26_2 => ?_)
      refine lv_aload_n hx hb dX7_undo_29 rfl (lv_at hl 0 rfl) ?_
      refine mgO0 hx hb hts hiX7 hown hK hP (hts (.fieldLink RX7 7 "BarrelProcessorModel" "s" "[I") (by decide +kernel)) dX7_undo_30 ?_
      refine lv_iload_n hx hb dX7_undo_33 rfl (lv_at hl 1 rfl) ?_
      refine lv_aload_n hx hb dX7_undo_34 rfl (lv_at hl 0 rfl) ?_
      refine mgO2 hx hb hts hiX7 hown hK hP (hts (.fieldLink RX7 16 "BarrelProcessorModel" "past" "[I") (by decide +kernel)) dX7_undo_35 ?_
      refine lv_sipush (v := nI 341) hx hb dX7_undo_38 (by decide) ?_
      refine lv_aload_n hx hb dX7_undo_41 rfl (lv_at hl 0 rfl) ?_
      refine mgO3 hx hb hts hiX7 hown hK hP (hts (.fieldLink RX7 30 "BarrelProcessorModel" "pasts" "I") (by decide +kernel)) dX7_undo_42 ?_
      refine z_val (z := nI pp) hX2 ?_
      refine lv_imul hx hb dX7_undo_45 ?_
      refine z_val (z := nI (341 * pp)) (pk_mul _ _) ?_
      refine lv_iload_n hx hb dX7_undo_46 rfl (lv_at hl 1 rfl) ?_
      refine lv_iadd hx hb dX7_undo_47 ?_
      refine z_val (z := nI (341 * pp + i)) (nI_add _ _) ?_
      refine m_iald hx hb hK hP mG_pa (j := 341 * pp + i) (by omega) (by decide) dX7_undo_48 ?_
      refine m_iast (Z' := (zde (upd (zen N) i (P 0 (341 * pp + i))), A, P, X)) hx hb hK hP hJ hS mG_s (j := i) (by omega) (by decide) dX7_undo_49 mS_sr (fun H locs hP hS => ?_)
      refine lv_iinc (v := nI (i + 1)) (lv' := [(1, .int (nI (i + 1))), (0, .ref (a 0))]) hx hb dX7_undo_50 hl (k := 1) rfl (nI_add _ _) (by decide) rfl (fun ls hl => ?_)
      refine lv_goto (tgt := 22) hx hb dX7_undo_53 (by decide) ?_
      refine m_toi (r2 := g_X7_undo1_lp pp n (i + 1) X) (Z2 := (S, A, P, hX_X7_undo1_lp pp n (i + 1) X)) (by first | rfl | simp only [g_X7_undo1_lp]) (m_eq rfl rfl rfl (by first | rfl | simp only [hX_X7_undo1_lp])) ?_
      exact ih (i + 1) (zde (upd (zen N) i (P 0 (341 * pp + i)))) X _ _ _ (by omega) hX2 (z_cpf hN) (lv_sub hl [1, 0] rfl) hP hS
  refine lv_aload_n hx hb dX7_undo_0 rfl (lv_at hl 0 rfl) ?_
  refine mgO3 hx hb hts hiX7 hown hK hP (hts (.fieldLink RX7 30 "BarrelProcessorModel" "pasts" "I") (by decide +kernel)) dX7_undo_1 ?_
  refine lv_if_ne (tgt := 10) hx hb dX7_undo_4 (by decide) (fun c4_3 => ?_) (fun c4_3 => absurd c4_3 (by rw [hpp]; exact nI_ne0 (by omega) (by omega)))
  refine lv_aload_n hx hb dX7_undo_10 rfl (lv_at hl 0 rfl) ?_
  refine lv_dup hx hb dX7_undo_11 rfl ?_
  refine mgO3 hx hb hts hiX7 hown hK hP (hts (.fieldLink RX7 30 "BarrelProcessorModel" "pasts" "I") (by decide +kernel)) dX7_undo_12 ?_
  refine z_val (z := nI (pp + 1)) hpp ?_
  refine lv_iconst (v := nI 1) hx hb dX7_undo_15 (by decide) ?_
  refine lv_isub hx hb dX7_undo_16 ?_
  refine z_val (z := nI pp) (pk_sub (by omega)) ?_
  refine mpO3 hx hb hts hiX7 hown hK hP hJ hS (hts (.fieldLink RX7 30 "BarrelProcessorModel" "pasts" "I") (by decide +kernel)) dX7_undo_17 (fun H locs hP hS => ?_)
  refine lv_iconst (v := nI 0) hx hb dX7_undo_20 (by decide) ?_
  refine lv_istore_n (lv' := [(1, .int (nI 0)), (0, .ref (a 0))]) hx hb dX7_undo_21 rfl hl (by decide) rfl (fun ls hl => ?_)
  refine m_toi (r2 := g_X7_undo1_lp pp 341 0 (zu X 0 0 (nI pp))) (Z2 := (S, A, P, hX_X7_undo1_lp pp 341 0 (zu X 0 0 (nI pp)))) (by first | rfl | simp only [g_X7_undo1]) (m_eq rfl rfl rfl (by first | rfl | simp only [hX_X7_undo1])) ?_
  exact lp22 341 0 N (zu X 0 0 (nI pp)) _ _ _ (by omega) (zu_s _ _ _ _) (fun j hj => absurd hj (Nat.not_lt_zero j)) (lv_sub hl [1, 0] rfl) hP hS

def g_X7_isStopped  (N : zM) : Int32 := if (g_X7_issuing (hN_X7_prepares N)) = (-1) then nI 0 else if (nI 48) ≤ (nI (zc ((hN_X7_prepares N) 1 (zc (g_X7_issuing (hN_X7_prepares N)))))) then nI 0 else if (N 12 (zc ((hN_X7_prepares N) 1 (zc (g_X7_issuing (hN_X7_prepares N)))))) = (nI 1) then nI 1 else nI 0
def hA_X7_isStopped  (N : zM) : zM := if (g_X7_issuing (hN_X7_prepares N)) = (-1) then N else if (nI 48) ≤ (nI (zc ((hN_X7_prepares N) 1 (zc (g_X7_issuing (hN_X7_prepares N)))))) then N else if (N 12 (zc ((hN_X7_prepares N) 1 (zc (g_X7_issuing (hN_X7_prepares N)))))) = (nI 1) then N else N
set_option maxHeartbeats 4000000 in
set_option maxRecDepth 100000 in
theorem ct_X7_isStopped (l : Launch) (D : va_G) (a : Nat → Nat) (cI : ClassId) (hJ : mJ a) (N A P X : zM) (B : Nat) (hI : rOK B N) : mCi l yX7_isStopped wsX7_isStopped ({ frames := 3, cells := 0, slots := 0, locals := 66 } : Room) D a cI [.ref (a 0)] (N, A, P, X) (g_X7_isStopped N) (N, hA_X7_isStopped N, P, X) := by
  have hiX7 : ∀ w ∈ wsX70, w ∈ wsX7_isStopped := by decide +kernel
  refine m_ofi (cc := cX7_isStopped) (maxL := 3) (own := RX7) (by decide) rfl (Nat.le_of_ble_eq_true rfl) rfl (fun p e s m below meth c ls hx hb hr hml hts hown hlk hl hK hP hS => ?_)
  have hl : lv_has ls 3 [(0, .ref (a 0))] := hl
  have hJ1 := rOK_prepares hI
  refine lv_aload_n hx hb dX7_isStopped_0 rfl (lv_at hl 0 rfl) ?_
  refine m_cVv (As := []) (rest := []) ⟨hx, hb, hml, hown, hts⟩ (ct_X7_putAside l D a cI hJ N A P X) (cwV 0 hts gX7_isStopped_X7_putAside rfl rfl rfl (by decide +kernel) ⟨Nat.le_of_ble_eq_true rfl, Nat.le_of_ble_eq_true rfl⟩) hK hP hS (va_recv (ci := 7) hK hP rfl mG_O) rfl hl.1 rfl (Nat.le_of_ble_eq_true rfl) dX7_isStopped_1 ⟨Nat.zero_le _, Nat.zero_le _⟩ (fun H locs hP hS => ?_)
  refine lv_aload_n hx hb dX7_isStopped_4 rfl (lv_at hl 0 rfl) ?_
  refine m_cVv (As := []) (rest := []) ⟨hx, hb, hml, hown, hts⟩ (ct_X7_prepares l D a cI hJ N N P X _ hI) (cwV 0 hts gX7_isStopped_X7_prepares rfl rfl rfl (by decide +kernel) ⟨Nat.le_of_ble_eq_true rfl, Nat.le_of_ble_eq_true rfl⟩) hK hP hS (va_recv (ci := 7) hK hP rfl mG_O) rfl hl.1 rfl (Nat.le_of_ble_eq_true rfl) dX7_isStopped_5 ⟨Nat.zero_le _, Nat.zero_le _⟩ (fun H locs hP hS => ?_)
  refine lv_aload_n hx hb dX7_isStopped_8 rfl (lv_at hl 0 rfl) ?_
  refine m_cVi (As := []) (rest := []) ⟨hx, hb, hml, hown, hts⟩ (ct_X7_issuing l D a cI hJ (hN_X7_prepares N) N P X _ hJ1) (cwV 0 hts gX7_isStopped_X7_issuing rfl rfl rfl (by decide +kernel) ⟨Nat.le_of_ble_eq_true rfl, Nat.le_of_ble_eq_true rfl⟩) hK hP hS (va_recv (ci := 7) hK hP rfl mG_O) rfl hl.1 rfl (Nat.le_of_ble_eq_true rfl) dX7_isStopped_9 ⟨Nat.zero_le _, Nat.zero_le _⟩ (fun H locs hP hS => ?_)
  refine lv_istore_n (lv' := [(1, .int (g_X7_issuing (hN_X7_prepares N))), (0, .ref (a 0))]) hx hb dX7_isStopped_12 rfl hl (by decide) rfl (fun ls hl => ?_)
  refine lv_iload_n hx hb dX7_isStopped_13 rfl (lv_at hl 0 rfl) ?_
  refine lv_iconst (v := (-1)) hx hb dX7_isStopped_14 (by decide) ?_
  refine lv_icmp_ne (tgt := 23) hx hb dX7_isStopped_15 (by decide) (fun c15_1 => ?_) (fun c15_1 => ?_)
  · have b9 := ((m_issuing hJ1).resolve_left c15_1)
    have b8 := b9.1
    have b6 := (hJ1.2.2.1 _ b8).1
    refine lv_aload_n hx hb dX7_isStopped_23 rfl (lv_at hl 1 rfl) ?_
    refine mgO0 hx hb hts hiX7 hown hK hP (hts (.fieldLink RX7 7 "BarrelProcessorModel" "s" "[I") (by decide +kernel)) dX7_isStopped_24 ?_
    refine lv_iload_n hx hb dX7_isStopped_27 rfl (lv_at hl 0 rfl) ?_
    refine z_val (z := nI (zc (g_X7_issuing (hN_X7_prepares N)))) b9.2 ?_
    refine lv_iconst (v := nI 1) hx hb dX7_isStopped_28 (by decide) ?_
    refine m_cSi (As := [.int (nI (zc (g_X7_issuing (hN_X7_prepares N)))), .int (nI 1)]) (rest := [.ref (a 1)]) ⟨hx, hb, hml, hown, hts⟩ (ct_X7_at l D a cI hJ (hN_X7_prepares N) N P X (nI (zc (g_X7_issuing (hN_X7_prepares N)))) (nI 1)) (va_cwS 2 hts gX7_isStopped_X7_at rfl rfl rfl (by decide +kernel) ⟨Nat.le_of_ble_eq_true rfl, Nat.le_of_ble_eq_true rfl⟩) hK hP hS rfl hl.1 rfl (Nat.le_of_ble_eq_true rfl) dX7_isStopped_29 ⟨Nat.zero_le _, Nat.zero_le _⟩ (fun H locs hP hS => ?_)
    refine z_val (z := nI (14 * (zc (g_X7_issuing (hN_X7_prepares N))) + 1)) (z_at _ _) ?_
    refine m_iald hx hb hK hP mG_s (j := 14 * (zc (g_X7_issuing (hN_X7_prepares N))) + 1) (by omega) (by decide) dX7_isStopped_32 ?_
    refine z_val (z := (hN_X7_prepares N) 1 (zc (g_X7_issuing (hN_X7_prepares N)))) (zen_of (zf_t1 (by omega))) ?_
    refine z_val (z := nI (zc ((hN_X7_prepares N) 1 (zc (g_X7_issuing (hN_X7_prepares N)))))) (hJ1.2.2.1 _ b8).2 ?_
    refine lv_istore_n (lv' := [(2, .int (nI (zc ((hN_X7_prepares N) 1 (zc (g_X7_issuing (hN_X7_prepares N))))))), (1, .int (g_X7_issuing (hN_X7_prepares N))), (0, .ref (a 0))]) hx hb dX7_isStopped_33 rfl hl (by decide) rfl (fun ls hl => ?_)
    refine lv_aload_n hx hb dX7_isStopped_34 rfl (lv_at hl 2 rfl) ?_
    refine m_cVv (As := []) (rest := []) ⟨hx, hb, hml, hown, hts⟩ (ct_X7_putBack l D a cI hJ (hN_X7_prepares N) N P X) (cwV 0 hts gX7_isStopped_X7_putBack rfl rfl rfl (by decide +kernel) ⟨Nat.le_of_ble_eq_true rfl, Nat.le_of_ble_eq_true rfl⟩) hK hP hS (va_recv (ci := 7) hK hP rfl mG_O) rfl hl.1 rfl (Nat.le_of_ble_eq_true rfl) dX7_isStopped_35 ⟨Nat.zero_le _, Nat.zero_le _⟩ (fun H locs hP hS => ?_)
    refine lv_iload_n hx hb dX7_isStopped_38 rfl (lv_at hl 0 rfl) ?_
    refine lv_bipush (v := nI 48) hx hb dX7_isStopped_39 (by decide) ?_
    refine lv_icmp_ge (tgt := 62) hx hb dX7_isStopped_41 (by decide) (fun c41_2 => ?_) (fun c41_2 => ?_)
    · refine lv_iconst (v := nI 0) hx hb dX7_isStopped_62 (by decide) ?_
      exact m_reti hx hb hr hlk (by first | rfl | decide) hP hS dX7_isStopped_63 (by simp only [g_X7_isStopped, if_neg c15_1, if_pos c41_2]) (m_eq rfl (by simp only [hA_X7_isStopped, if_neg c15_1, if_pos c41_2]) rfl rfl)
    · have b7 : zc ((hN_X7_prepares N) 1 (zc (g_X7_issuing (hN_X7_prepares N)))) < 48 := Nat.lt_of_not_le (fun q => c41_2 (nI_le q (by omega)))
      refine lv_aload_n hx hb dX7_isStopped_44 rfl (lv_at hl 2 rfl) ?_
      refine mgO0 hx hb hts hiX7 hown hK hP (hts (.fieldLink RX7 7 "BarrelProcessorModel" "s" "[I") (by decide +kernel)) dX7_isStopped_45 ?_
      refine lv_sipush (v := nI 244) hx hb dX7_isStopped_48 (by decide) ?_
      refine lv_iload_n hx hb dX7_isStopped_51 rfl (lv_at hl 0 rfl) ?_
      refine lv_iadd hx hb dX7_isStopped_52 ?_
      refine z_val (z := nI (244 + (zc ((hN_X7_prepares N) 1 (zc (g_X7_issuing (hN_X7_prepares N))))))) (nI_add _ _) ?_
      refine m_iald hx hb hK hP mG_s (j := 244 + (zc ((hN_X7_prepares N) 1 (zc (g_X7_issuing (hN_X7_prepares N)))))) (by omega) (by decide) dX7_isStopped_53 ?_
      refine z_val (z := N 12 (zc ((hN_X7_prepares N) 1 (zc (g_X7_issuing (hN_X7_prepares N)))))) (zen_of (zf_bk (by omega))) ?_
      refine lv_iconst (v := nI 1) hx hb dX7_isStopped_54 (by decide) ?_
      refine lv_icmp_ne (tgt := 62) hx hb dX7_isStopped_55 (by decide) (fun c55_3 => ?_) (fun c55_3 => ?_)
      · refine lv_iconst (v := nI 0) hx hb dX7_isStopped_62 (by decide) ?_
        exact m_reti hx hb hr hlk (by first | rfl | decide) hP hS dX7_isStopped_63 (by simp only [g_X7_isStopped, if_neg c15_1, if_neg c41_2, if_neg c55_3]) (m_eq rfl (by simp only [hA_X7_isStopped, if_neg c15_1, if_neg c41_2, if_neg c55_3]) rfl rfl)
      · refine lv_iconst (v := nI 1) hx hb dX7_isStopped_58 (by decide) ?_
        refine lv_goto (tgt := 63) hx hb dX7_isStopped_59 (by decide) ?_
        exact m_reti hx hb hr hlk (by first | rfl | decide) hP hS dX7_isStopped_63 (by simp only [g_X7_isStopped, if_neg c15_1, if_neg c41_2, if_pos c55_3]) (m_eq rfl (by simp only [hA_X7_isStopped, if_neg c15_1, if_neg c41_2, if_pos c55_3]) rfl rfl)
  · refine lv_bipush (v := nI 48) hx hb dX7_isStopped_18 (by decide) ?_
    refine lv_goto (tgt := 33) hx hb dX7_isStopped_20 (by decide) ?_
    refine lv_istore_n (lv' := [(2, .int (nI 48)), (1, .int (g_X7_issuing (hN_X7_prepares N))), (0, .ref (a 0))]) hx hb dX7_isStopped_33 rfl hl (by decide) rfl (fun ls hl => ?_)
    refine lv_aload_n hx hb dX7_isStopped_34 rfl (lv_at hl 2 rfl) ?_
    refine m_cVv (As := []) (rest := []) ⟨hx, hb, hml, hown, hts⟩ (ct_X7_putBack l D a cI hJ (hN_X7_prepares N) N P X) (cwV 0 hts gX7_isStopped_X7_putBack rfl rfl rfl (by decide +kernel) ⟨Nat.le_of_ble_eq_true rfl, Nat.le_of_ble_eq_true rfl⟩) hK hP hS (va_recv (ci := 7) hK hP rfl mG_O) rfl hl.1 rfl (Nat.le_of_ble_eq_true rfl) dX7_isStopped_35 ⟨Nat.zero_le _, Nat.zero_le _⟩ (fun H locs hP hS => ?_)
    refine lv_iload_n hx hb dX7_isStopped_38 rfl (lv_at hl 0 rfl) ?_
    refine lv_bipush (v := nI 48) hx hb dX7_isStopped_39 (by decide) ?_
    refine lv_icmp_ge (tgt := 62) hx hb dX7_isStopped_41 (by decide) (fun c41_4 => ?_) (fun c41_4 => absurd (by decide) c41_4)
    refine lv_iconst (v := nI 0) hx hb dX7_isStopped_62 (by decide) ?_
    exact m_reti hx hb hr hlk (by first | rfl | decide) hP hS dX7_isStopped_63 (by simp only [g_X7_isStopped, if_pos c15_1]) (m_eq rfl (by simp only [hA_X7_isStopped, if_pos c15_1]) rfl rfl)

def g_X7_runsOut_lp  : Nat → Nat → zM → Int32
  | 0, i, N => if (g_X7_isOver N) = 0 then (-100005) else nI i
  | n + 1, i, N => if (g_X7_isOver N) = 0 then g_X7_runsOut_lp n (i + 1) (hN_X7_cycles N) else nI i
def hN_X7_runsOut_lp  : Nat → Nat → zM → zM
  | 0, i, N => if (g_X7_isOver N) = 0 then N else N
  | n + 1, i, N => if (g_X7_isOver N) = 0 then hN_X7_runsOut_lp n (i + 1) (hN_X7_cycles N) else N
def g_X7_runsOut  (N : zM) : Int32 := g_X7_runsOut_lp 500 0 N
def hN_X7_runsOut  (N : zM) : zM := hN_X7_runsOut_lp 500 0 N
set_option maxHeartbeats 4000000 in
set_option maxRecDepth 100000 in
theorem ct_X7_runsOut (l : Launch) (D : va_G) (a : Nat → Nat) (cI : ClassId) (hJ : mJ a) (N A P X : zM) (B : Nat) (hI : rOK B N) (hB : B + 500 < 1000000) : mCi l yX7_runsOut wsX7_runsOut ({ frames := 5, cells := 0, slots := 0, locals := 115 } : Room) D a cI [.ref (a 0)] (N, A, P, X) (g_X7_runsOut N) (hN_X7_runsOut N, A, P, X) := by
  refine m_ofi (cc := cX7_runsOut) (maxL := 2) (own := RX7) (by decide) rfl (Nat.le_of_ble_eq_true rfl) rfl (fun p e s m below meth c ls hx hb hr hml hts hown hlk hl hK hP hS => ?_)
  have hl : lv_has ls 2 [(0, .ref (a 0))] := hl
  have lp2 : ∀ (n : Nat) (i : Nat) (N : zM) (H : Heap) (locs : List Loc) (ls : Array Slot) (hn : i + n = 500) (hI : rOK (B + i) N) (hl : lv_has ls 2 [(0, .ref (a 0)), (1, .int (nI i))]) (hP : va_P D vwCl (mW a cI (N, A, P, X)) H) (hS : va_S (mA a) s.heap H locs), W p l e ({ frames := 5, cells := 0, slots := 0, locals := 115 } : Room) s m ([.ref (a 0)] : List Value).toArray below meth c H locs 0 0 (mQi below D a cI [.ref (a 0)] s (g_X7_runsOut_lp n i N) (hN_X7_runsOut_lp n i N, A, P, X)) (F0 m 2 ls []) := by
    intro n
    induction n with
    | zero =>
      intro i N H locs ls hn hI hl hP hS
      refine lv_iload_n hx hb dX7_runsOut_2 rfl (lv_at hl 1 rfl) ?_
      refine lv_sipush (v := nI 500) hx hb dX7_runsOut_3 (by decide) ?_
      refine lv_icmp_ge (tgt := 26) hx hb dX7_runsOut_6 (by decide) (fun c6_1 => ?_) (fun c6_1 => absurd (nI_le (by omega) (by omega)) c6_1)
      refine lv_aload_n hx hb dX7_runsOut_26 rfl (lv_at hl 0 rfl) ?_
      refine m_cVi (As := []) (rest := []) ⟨hx, hb, hml, hown, hts⟩ (ct_X7_isOver l D a cI hJ N A P X) (cwV 0 hts gX7_runsOut_X7_isOver rfl rfl rfl (by decide +kernel) ⟨Nat.le_of_ble_eq_true rfl, Nat.le_of_ble_eq_true rfl⟩) hK hP hS (va_recv (ci := 7) hK hP rfl mG_O) rfl hl.1 rfl (Nat.le_of_ble_eq_true rfl) dX7_runsOut_27 ⟨Nat.zero_le _, Nat.zero_le _⟩ (fun H locs hP hS => ?_)
      refine lv_if_eq (tgt := 37) hx hb dX7_runsOut_30 (by decide) (fun c30_2 => ?_) (fun c30_2 => ?_)
      · refine lv_ldc (v := (-100005)) hx hb hown (hts (.constant RX7 147 (-100005)) (by decide +kernel)) dX7_runsOut_37 ?_
        exact m_reti hx hb hr hlk rfl hP hS dX7_runsOut_39 (by simp only [g_X7_runsOut_lp, if_pos c30_2]) (m_eq (by simp only [hN_X7_runsOut_lp, if_pos c30_2]) rfl rfl rfl)
      · refine lv_iload_n hx hb dX7_runsOut_33 rfl (lv_at hl 1 rfl) ?_
        refine lv_goto (tgt := 39) hx hb dX7_runsOut_34 (by decide) ?_
        exact m_reti hx hb hr hlk rfl hP hS dX7_runsOut_39 (by simp only [g_X7_runsOut_lp, if_neg c30_2]) (m_eq (by simp only [hN_X7_runsOut_lp, if_neg c30_2]) rfl rfl rfl)
    | succ n ih =>
      intro i N H locs ls hn hI hl hP hS
      refine lv_iload_n hx hb dX7_runsOut_2 rfl (lv_at hl 1 rfl) ?_
      refine lv_sipush (v := nI 500) hx hb dX7_runsOut_3 (by decide) ?_
      refine lv_icmp_ge (tgt := 26) hx hb dX7_runsOut_6 (by decide) (fun c6_3 => absurd c6_3 (nI_ge (by omega) (by decide))) (fun c6_3 => ?_)
      refine lv_aload_n hx hb dX7_runsOut_9 rfl (lv_at hl 0 rfl) ?_
      refine m_cVi (As := []) (rest := []) ⟨hx, hb, hml, hown, hts⟩ (ct_X7_isOver l D a cI hJ N A P X) (cwV 0 hts gX7_runsOut_X7_isOver rfl rfl rfl (by decide +kernel) ⟨Nat.le_of_ble_eq_true rfl, Nat.le_of_ble_eq_true rfl⟩) hK hP hS (va_recv (ci := 7) hK hP rfl mG_O) rfl hl.1 rfl (Nat.le_of_ble_eq_true rfl) dX7_runsOut_10 ⟨Nat.zero_le _, Nat.zero_le _⟩ (fun H locs hP hS => ?_)
      refine lv_if_ne (tgt := 26) hx hb dX7_runsOut_13 (by decide) (fun c13_4 => ?_) (fun c13_4 => ?_)
      · refine lv_aload_n hx hb dX7_runsOut_26 rfl (lv_at hl 0 rfl) ?_
        refine m_cVi (As := []) (rest := []) ⟨hx, hb, hml, hown, hts⟩ (ct_X7_isOver l D a cI hJ N A P X) (cwV 0 hts gX7_runsOut_X7_isOver rfl rfl rfl (by decide +kernel) ⟨Nat.le_of_ble_eq_true rfl, Nat.le_of_ble_eq_true rfl⟩) hK hP hS (va_recv (ci := 7) hK hP rfl mG_O) rfl hl.1 rfl (Nat.le_of_ble_eq_true rfl) dX7_runsOut_27 ⟨Nat.zero_le _, Nat.zero_le _⟩ (fun H locs hP hS => ?_)
        refine lv_if_eq (tgt := 37) hx hb dX7_runsOut_30 (by decide) (fun c30_5 => absurd c30_5 c13_4) (fun c30_5 => ?_)
        refine lv_iload_n hx hb dX7_runsOut_33 rfl (lv_at hl 1 rfl) ?_
        refine lv_goto (tgt := 39) hx hb dX7_runsOut_34 (by decide) ?_
        exact m_reti hx hb hr hlk rfl hP hS dX7_runsOut_39 (by simp only [g_X7_runsOut_lp, if_neg c13_4]) (m_eq (by simp only [hN_X7_runsOut_lp, if_neg c13_4]) rfl rfl rfl)
      · refine lv_aload_n hx hb dX7_runsOut_16 rfl (lv_at hl 0 rfl) ?_
        refine m_cVv (As := []) (rest := []) ⟨hx, hb, hml, hown, hts⟩ (ct_X7_cycles l D a cI hJ N A P X _ hI) (cwV 0 hts gX7_runsOut_X7_cycles rfl rfl rfl (by decide +kernel) ⟨Nat.le_of_ble_eq_true rfl, Nat.le_of_ble_eq_true rfl⟩) hK hP hS (va_recv (ci := 7) hK hP rfl mG_O) rfl hl.1 rfl (Nat.le_of_ble_eq_true rfl) dX7_runsOut_17 ⟨Nat.zero_le _, Nat.zero_le _⟩ (fun H locs hP hS => ?_)
        refine lv_iinc (v := nI (i + 1)) (lv' := [(1, .int (nI (i + 1))), (0, .ref (a 0))]) hx hb dX7_runsOut_20 hl (k := 1) rfl (nI_add _ _) (by decide) rfl (fun ls hl => ?_)
        refine lv_goto (tgt := 2) hx hb dX7_runsOut_23 (by decide) ?_
        refine m_toi (r2 := g_X7_runsOut_lp n (i + 1) (hN_X7_cycles N)) (Z2 := (hN_X7_runsOut_lp n (i + 1) (hN_X7_cycles N), A, P, X)) (by simp only [g_X7_runsOut_lp, if_pos c13_4]) (m_eq (by simp only [hN_X7_runsOut_lp, if_pos c13_4]) rfl rfl rfl) ?_
        exact ih (i + 1) (hN_X7_cycles N) _ _ _ (by omega) (rOK_cycles (B := B + i) hI (by omega)) (lv_sub hl [1, 0] rfl) hP hS
  refine lv_iconst (v := nI 0) hx hb dX7_runsOut_0 (by decide) ?_
  refine lv_istore_n (lv' := [(1, .int (nI 0)), (0, .ref (a 0))]) hx hb dX7_runsOut_1 rfl hl (by decide) rfl (fun ls hl => ?_)
  refine m_toi (r2 := g_X7_runsOut_lp 500 0 N) (Z2 := (hN_X7_runsOut_lp 500 0 N, A, P, X)) (by first | rfl | simp only [g_X7_runsOut]) (m_eq (by first | rfl | simp only [hN_X7_runsOut]) rfl rfl rfl) ?_
  exact lp2 500 0 N _ _ _ (by omega) hI (lv_sub hl [1, 0] rfl) hP hS

def g_X7_leftIf (latency : Int32) (lend : Int32) (N : zM) : Int32 := (g_X7_runsOut (zu (zu N 15 0 latency) 15 1 lend))
def hA_X7_leftIf (latency : Int32) (lend : Int32) (N : zM) : zM := N
set_option maxHeartbeats 4000000 in
set_option maxRecDepth 100000 in
theorem ct_X7_leftIf (l : Launch) (D : va_G) (a : Nat → Nat) (cI : ClassId) (hJ : mJ a) (N A P X : zM) (latency : Int32) (lend : Int32) (B : Nat) (hI : rOK B N) (hB : B + 500 < 1000000) : mCi l yX7_leftIf wsX7_leftIf ({ frames := 6, cells := 0, slots := 0, locals := 136 } : Room) D a cI [.ref (a 0), .int latency, .int lend] (N, A, P, X) (g_X7_leftIf latency lend N) (N, hA_X7_leftIf latency lend N, P, X) := by
  have hiX7 : ∀ w ∈ wsX70, w ∈ wsX7_leftIf := by decide +kernel
  refine m_ofi (cc := cX7_leftIf) (maxL := 4) (own := RX7) (by decide) rfl (Nat.le_of_ble_eq_true rfl) rfl (fun p e s m below meth c ls hx hb hr hml hts hown hlk hl hK hP hS => ?_)
  have hl : lv_has ls 4 [(0, .ref (a 0)), (1, .int latency), (2, .int lend)] := hl
  refine lv_aload_n hx hb dX7_leftIf_0 rfl (lv_at hl 0 rfl) ?_
  refine m_cVv (As := []) (rest := []) ⟨hx, hb, hml, hown, hts⟩ (ct_X7_putAside l D a cI hJ N A P X) (cwV 0 hts gX7_leftIf_X7_putAside rfl rfl rfl (by decide +kernel) ⟨Nat.le_of_ble_eq_true rfl, Nat.le_of_ble_eq_true rfl⟩) hK hP hS (va_recv (ci := 7) hK hP rfl mG_O) rfl hl.1 rfl (Nat.le_of_ble_eq_true rfl) dX7_leftIf_1 ⟨Nat.zero_le _, Nat.zero_le _⟩ (fun H locs hP hS => ?_)
  refine lv_aload_n hx hb dX7_leftIf_4 rfl (lv_at hl 0 rfl) ?_
  refine mgO0 hx hb hts hiX7 hown hK hP (hts (.fieldLink RX7 7 "BarrelProcessorModel" "s" "[I") (by decide +kernel)) dX7_leftIf_5 ?_
  refine lv_sipush (v := nI 242) hx hb dX7_leftIf_8 (by decide) ?_
  refine lv_iload_n hx hb dX7_leftIf_11 rfl (lv_at hl 1 rfl) ?_
  refine m_iast (Z' := (zu N 15 0 latency, N, P, X)) hx hb hK hP hJ hS mG_s (j := 242) (by omega) (by decide) dX7_leftIf_12 (mS_s zf_242) (fun H locs hP hS => ?_)
  refine lv_aload_n hx hb dX7_leftIf_13 rfl (lv_at hl 0 rfl) ?_
  refine mgO0 hx hb hts hiX7 hown hK hP (hts (.fieldLink RX7 7 "BarrelProcessorModel" "s" "[I") (by decide +kernel)) dX7_leftIf_14 ?_
  refine lv_sipush (v := nI 243) hx hb dX7_leftIf_17 (by decide) ?_
  refine lv_iload_n hx hb dX7_leftIf_20 rfl (lv_at hl 2 rfl) ?_
  refine m_iast (Z' := (zu (zu N 15 0 latency) 15 1 lend, N, P, X)) hx hb hK hP hJ hS mG_s (j := 243) (by omega) (by decide) dX7_leftIf_21 (mS_s zf_243) (fun H locs hP hS => ?_)
  refine lv_aload_n hx hb dX7_leftIf_22 rfl (lv_at hl 0 rfl) ?_
  refine m_cVi (As := []) (rest := []) ⟨hx, hb, hml, hown, hts⟩ (ct_X7_runsOut l D a cI hJ (zu (zu N 15 0 latency) 15 1 lend) N P X _ (rOK_u (rOK_u hI (by decide) (by decide) (by decide) (by decide) (by decide) (by decide) (by decide) (by decide) (by decide)) (by decide) (by decide) (by decide) (by decide) (by decide) (by decide) (by decide) (by decide) (by decide)) hB) (cwV 0 hts gX7_leftIf_X7_runsOut rfl rfl rfl (by decide +kernel) ⟨Nat.le_of_ble_eq_true rfl, Nat.le_of_ble_eq_true rfl⟩) hK hP hS (va_recv (ci := 7) hK hP rfl mG_O) rfl hl.1 rfl (Nat.le_of_ble_eq_true rfl) dX7_leftIf_23 ⟨Nat.zero_le _, Nat.zero_le _⟩ (fun H locs hP hS => ?_)
  refine lv_istore_n (lv' := [(3, .int (g_X7_runsOut (zu (zu N 15 0 latency) 15 1 lend))), (0, .ref (a 0)), (1, .int latency), (2, .int lend)]) hx hb dX7_leftIf_26 rfl hl (by decide) rfl (fun ls hl => ?_)
  refine lv_aload_n hx hb dX7_leftIf_27 rfl (lv_at hl 1 rfl) ?_
  refine m_cVv (As := []) (rest := []) ⟨hx, hb, hml, hown, hts⟩ (ct_X7_putBack l D a cI hJ (hN_X7_runsOut (zu (zu N 15 0 latency) 15 1 lend)) N P X) (cwV 0 hts gX7_leftIf_X7_putBack rfl rfl rfl (by decide +kernel) ⟨Nat.le_of_ble_eq_true rfl, Nat.le_of_ble_eq_true rfl⟩) hK hP hS (va_recv (ci := 7) hK hP rfl mG_O) rfl hl.1 rfl (Nat.le_of_ble_eq_true rfl) dX7_leftIf_28 ⟨Nat.zero_le _, Nat.zero_le _⟩ (fun H locs hP hS => ?_)
  refine lv_iload_n hx hb dX7_leftIf_31 rfl (lv_at hl 0 rfl) ?_
  exact m_reti hx hb hr hlk rfl hP hS dX7_leftIf_32 (by first | rfl | simp only [g_X7_leftIf]) (m_eq rfl (by first | rfl | simp only [hA_X7_leftIf]) rfl rfl)

def g_X7_cyclesLeft  (N : zM) : Int32 := (g_X7_leftIf (N 15 0) (N 15 1) N)
def hA_X7_cyclesLeft  (N : zM) : zM := hA_X7_leftIf (N 15 0) (N 15 1) N
set_option maxHeartbeats 4000000 in
set_option maxRecDepth 100000 in
theorem ct_X7_cyclesLeft (l : Launch) (D : va_G) (a : Nat → Nat) (cI : ClassId) (hJ : mJ a) (N A P X : zM) (B : Nat) (hI : rOK B N) (hB : B + 500 < 1000000) : mCi l yX7_cyclesLeft wsX7_cyclesLeft ({ frames := 7, cells := 0, slots := 0, locals := 159 } : Room) D a cI [.ref (a 0)] (N, A, P, X) (g_X7_cyclesLeft N) (N, hA_X7_cyclesLeft N, P, X) := by
  have hiX7 : ∀ w ∈ wsX70, w ∈ wsX7_cyclesLeft := by decide +kernel
  refine m_ofi (cc := cX7_cyclesLeft) (maxL := 1) (own := RX7) (by decide) rfl (Nat.le_of_ble_eq_true rfl) rfl (fun p e s m below meth c ls hx hb hr hml hts hown hlk hl hK hP hS => ?_)
  have hl : lv_has ls 1 [(0, .ref (a 0))] := hl
  refine lv_aload_n hx hb dX7_cyclesLeft_0 rfl (lv_at hl 0 rfl) ?_
  refine lv_aload_n hx hb dX7_cyclesLeft_1 rfl (lv_at hl 0 rfl) ?_
  refine mgO0 hx hb hts hiX7 hown hK hP (hts (.fieldLink RX7 7 "BarrelProcessorModel" "s" "[I") (by decide +kernel)) dX7_cyclesLeft_2 ?_
  refine lv_sipush (v := nI 242) hx hb dX7_cyclesLeft_5 (by decide) ?_
  refine m_iald hx hb hK hP mG_s (j := 242) (by omega) (by decide) dX7_cyclesLeft_8 ?_
  refine z_val (z := N 15 0) (zen_of zf_242) ?_
  refine lv_aload_n hx hb dX7_cyclesLeft_9 rfl (lv_at hl 0 rfl) ?_
  refine mgO0 hx hb hts hiX7 hown hK hP (hts (.fieldLink RX7 7 "BarrelProcessorModel" "s" "[I") (by decide +kernel)) dX7_cyclesLeft_10 ?_
  refine lv_sipush (v := nI 243) hx hb dX7_cyclesLeft_13 (by decide) ?_
  refine m_iald hx hb hK hP mG_s (j := 243) (by omega) (by decide) dX7_cyclesLeft_16 ?_
  refine z_val (z := N 15 1) (zen_of zf_243) ?_
  refine m_cVi (As := [.int (N 15 0), .int (N 15 1)]) (rest := []) ⟨hx, hb, hml, hown, hts⟩ (ct_X7_leftIf l D a cI hJ N A P X (N 15 0) (N 15 1) _ hI hB) (cwV 2 hts gX7_cyclesLeft_X7_leftIf rfl rfl rfl (by decide +kernel) ⟨Nat.le_of_ble_eq_true rfl, Nat.le_of_ble_eq_true rfl⟩) hK hP hS (va_recv (ci := 7) hK hP rfl mG_O) rfl hl.1 rfl (Nat.le_of_ble_eq_true rfl) dX7_cyclesLeft_17 ⟨Nat.zero_le _, Nat.zero_le _⟩ (fun H locs hP hS => ?_)
  exact m_reti hx hb hr hlk rfl hP hS dX7_cyclesLeft_20 (by first | rfl | simp only [g_X7_cyclesLeft]) (m_eq rfl (by first | rfl | simp only [hA_X7_cyclesLeft]) rfl rfl)

def g_X7_cyclesIf (latency : Int32) (lend : Int32) (N A : zM) : Int32 := if (g_X7_in latency (nI 0) (nI 20)) = 0 then (-100002) else if (g_X7_in lend (nI 0) (nI 2)) = 0 then (-100002) else (g_X7_leftIf latency lend N)
def hA_X7_cyclesIf (latency : Int32) (lend : Int32) (N A : zM) : zM := if (g_X7_in latency (nI 0) (nI 20)) = 0 then A else if (g_X7_in lend (nI 0) (nI 2)) = 0 then A else hA_X7_leftIf latency lend N
set_option maxHeartbeats 4000000 in
set_option maxRecDepth 100000 in
theorem ct_X7_cyclesIf (l : Launch) (D : va_G) (a : Nat → Nat) (cI : ClassId) (hJ : mJ a) (N A P X : zM) (latency : Int32) (lend : Int32) (B : Nat) (hI : rOK B N) (hB : B + 500 < 1000000) : mCi l yX7_cyclesIf wsX7_cyclesIf ({ frames := 7, cells := 0, slots := 0, locals := 159 } : Room) D a cI [.ref (a 0), .int latency, .int lend] (N, A, P, X) (g_X7_cyclesIf latency lend N A) (N, hA_X7_cyclesIf latency lend N A, P, X) := by
  refine m_ofi (cc := cX7_cyclesIf) (maxL := 3) (own := RX7) (by decide) rfl (Nat.le_of_ble_eq_true rfl) rfl (fun p e s m below meth c ls hx hb hr hml hts hown hlk hl hK hP hS => ?_)
  have hl : lv_has ls 3 [(0, .ref (a 0)), (1, .int latency), (2, .int lend)] := hl
  refine lv_iload_n hx hb dX7_cyclesIf_0 rfl (lv_at hl 1 rfl) ?_
  refine lv_iconst (v := nI 0) hx hb dX7_cyclesIf_1 (by decide) ?_
  refine lv_bipush (v := nI 20) hx hb dX7_cyclesIf_2 (by decide) ?_
  refine m_cSi (As := [.int latency, .int (nI 0), .int (nI 20)]) (rest := []) ⟨hx, hb, hml, hown, hts⟩ (ct_X7_in l D a cI hJ N A P X latency (nI 0) (nI 20)) (va_cwS 3 hts gX7_cyclesIf_X7_in rfl rfl rfl (by decide +kernel) ⟨Nat.le_of_ble_eq_true rfl, Nat.le_of_ble_eq_true rfl⟩) hK hP hS rfl hl.1 rfl (Nat.le_of_ble_eq_true rfl) dX7_cyclesIf_4 ⟨Nat.zero_le _, Nat.zero_le _⟩ (fun H locs hP hS => ?_)
  refine lv_if_eq (tgt := 28) hx hb dX7_cyclesIf_7 (by decide) (fun c7_1 => ?_) (fun c7_1 => ?_)
  · refine lv_ldc (v := (-100002)) hx hb hown (hts (.constant RX7 109 (-100002)) (by decide +kernel)) dX7_cyclesIf_28 ?_
    exact m_reti hx hb hr hlk rfl hP hS dX7_cyclesIf_30 (by simp only [g_X7_cyclesIf, if_pos c7_1]) (m_eq rfl (by simp only [hA_X7_cyclesIf, if_pos c7_1]) rfl rfl)
  · refine lv_iload_n hx hb dX7_cyclesIf_10 rfl (lv_at hl 2 rfl) ?_
    refine lv_iconst (v := nI 0) hx hb dX7_cyclesIf_11 (by decide) ?_
    refine lv_iconst (v := nI 2) hx hb dX7_cyclesIf_12 (by decide) ?_
    refine m_cSi (As := [.int lend, .int (nI 0), .int (nI 2)]) (rest := []) ⟨hx, hb, hml, hown, hts⟩ (ct_X7_in l D a cI hJ N A P X lend (nI 0) (nI 2)) (va_cwS 3 hts gX7_cyclesIf_X7_in rfl rfl rfl (by decide +kernel) ⟨Nat.le_of_ble_eq_true rfl, Nat.le_of_ble_eq_true rfl⟩) hK hP hS rfl hl.1 rfl (Nat.le_of_ble_eq_true rfl) dX7_cyclesIf_13 ⟨Nat.zero_le _, Nat.zero_le _⟩ (fun H locs hP hS => ?_)
    refine lv_if_eq (tgt := 28) hx hb dX7_cyclesIf_16 (by decide) (fun c16_2 => ?_) (fun c16_2 => ?_)
    · refine lv_ldc (v := (-100002)) hx hb hown (hts (.constant RX7 109 (-100002)) (by decide +kernel)) dX7_cyclesIf_28 ?_
      exact m_reti hx hb hr hlk rfl hP hS dX7_cyclesIf_30 (by simp only [g_X7_cyclesIf, if_neg c7_1, if_pos c16_2]) (m_eq rfl (by simp only [hA_X7_cyclesIf, if_neg c7_1, if_pos c16_2]) rfl rfl)
    · refine lv_aload_n hx hb dX7_cyclesIf_19 rfl (lv_at hl 0 rfl) ?_
      refine lv_iload_n hx hb dX7_cyclesIf_20 rfl (lv_at hl 1 rfl) ?_
      refine lv_iload_n hx hb dX7_cyclesIf_21 rfl (lv_at hl 2 rfl) ?_
      refine m_cVi (As := [.int latency, .int lend]) (rest := []) ⟨hx, hb, hml, hown, hts⟩ (ct_X7_leftIf l D a cI hJ N A P X latency lend _ hI hB) (cwV 2 hts gX7_cyclesIf_X7_leftIf rfl rfl rfl (by decide +kernel) ⟨Nat.le_of_ble_eq_true rfl, Nat.le_of_ble_eq_true rfl⟩) hK hP hS (va_recv (ci := 7) hK hP rfl mG_O) rfl hl.1 rfl (Nat.le_of_ble_eq_true rfl) dX7_cyclesIf_22 ⟨Nat.zero_le _, Nat.zero_le _⟩ (fun H locs hP hS => ?_)
      refine lv_goto (tgt := 30) hx hb dX7_cyclesIf_25 (by decide) ?_
      exact m_reti hx hb hr hlk rfl hP hS dX7_cyclesIf_30 (by simp only [g_X7_cyclesIf, if_neg c7_1, if_neg c16_2]) (m_eq rfl (by simp only [hA_X7_cyclesIf, if_neg c7_1, if_neg c16_2]) rfl rfl)

def g_X7_bestLend_lp  : Nat → Int32 → Int32 → Nat → zM → zM → Int32
  | 0, best, fewest, i, N, A => best
  | n + 1, best, fewest, i, N, A => if (g_X7_leftIf (N 15 0) (nI i) N) = (-100005) then g_X7_bestLend_lp n best fewest (i + 1) N (hA_X7_leftIf (N 15 0) (nI i) N) else if fewest ≤ (g_X7_leftIf (N 15 0) (nI i) N) then g_X7_bestLend_lp n best fewest (i + 1) N (hA_X7_leftIf (N 15 0) (nI i) N) else g_X7_bestLend_lp n (nI i) (g_X7_leftIf (N 15 0) (nI i) N) (i + 1) N (hA_X7_leftIf (N 15 0) (nI i) N)
def hA_X7_bestLend_lp  : Nat → Int32 → Int32 → Nat → zM → zM → zM
  | 0, best, fewest, i, N, A => A
  | n + 1, best, fewest, i, N, A => if (g_X7_leftIf (N 15 0) (nI i) N) = (-100005) then hA_X7_bestLend_lp n best fewest (i + 1) N (hA_X7_leftIf (N 15 0) (nI i) N) else if fewest ≤ (g_X7_leftIf (N 15 0) (nI i) N) then hA_X7_bestLend_lp n best fewest (i + 1) N (hA_X7_leftIf (N 15 0) (nI i) N) else hA_X7_bestLend_lp n (nI i) (g_X7_leftIf (N 15 0) (nI i) N) (i + 1) N (hA_X7_leftIf (N 15 0) (nI i) N)
def g_X7_bestLend  (N A : zM) : Int32 := g_X7_bestLend_lp 3 (-100005) (nI 501) 0 N A
def hA_X7_bestLend  (N A : zM) : zM := hA_X7_bestLend_lp 3 (-100005) (nI 501) 0 N A
set_option maxHeartbeats 4000000 in
set_option maxRecDepth 100000 in
theorem ct_X7_bestLend (l : Launch) (D : va_G) (a : Nat → Nat) (cI : ClassId) (hJ : mJ a) (N A P X : zM) (B : Nat) (hI : rOK B N) (hB : B + 500 < 1000000) : mCi l yX7_bestLend wsX7_bestLend ({ frames := 7, cells := 0, slots := 0, locals := 159 } : Room) D a cI [.ref (a 0)] (N, A, P, X) (g_X7_bestLend N A) (N, hA_X7_bestLend N A, P, X) := by
  have hiX7 : ∀ w ∈ wsX70, w ∈ wsX7_bestLend := by decide +kernel
  refine m_ofi (cc := cX7_bestLend) (maxL := 5) (own := RX7) (by decide) rfl (Nat.le_of_ble_eq_true rfl) rfl (fun p e s m below meth c ls hx hb hr hml hts hown hlk hl hK hP hS => ?_)
  have hl : lv_has ls 5 [(0, .ref (a 0))] := hl
  have lp9 : ∀ (n : Nat) (best : Int32) (fewest : Int32) (i : Nat) (A : zM) (H : Heap) (locs : List Loc) (ls : Array Slot) (hn : i + n = 3) (hl : lv_has ls 5 [(0, .ref (a 0)), (1, .int best), (2, .int fewest), (3, .int (nI i))]) (hP : va_P D vwCl (mW a cI (N, A, P, X)) H) (hS : va_S (mA a) s.heap H locs), W p l e ({ frames := 7, cells := 0, slots := 0, locals := 159 } : Room) s m ([.ref (a 0)] : List Value).toArray below meth c H locs 0 0 (mQi below D a cI [.ref (a 0)] s (g_X7_bestLend_lp n best fewest i N A) (N, hA_X7_bestLend_lp n best fewest i N A, P, X)) (F0 m 9 ls []) := by
    intro n
    induction n with
    | zero =>
      intro best fewest i A H locs ls hn hl hP hS
      refine lv_iload_n hx hb dX7_bestLend_9 rfl (lv_at hl 3 rfl) ?_
      refine lv_iconst (v := nI 3) hx hb dX7_bestLend_10 (by decide) ?_
      refine lv_icmp_ge (tgt := 53) hx hb dX7_bestLend_11 (by decide) (fun c11_1 => ?_) (fun c11_1 => absurd (nI_le (by omega) (by omega)) c11_1)
      refine lv_iload_n hx hb dX7_bestLend_53 rfl (lv_at hl 1 rfl) ?_
      exact m_reti hx hb hr hlk rfl hP hS dX7_bestLend_54 (by first | rfl | simp only [g_X7_bestLend_lp]) (m_eq rfl (by first | rfl | simp only [hA_X7_bestLend_lp]) rfl rfl)
    | succ n ih =>
      intro best fewest i A H locs ls hn hl hP hS
      refine lv_iload_n hx hb dX7_bestLend_9 rfl (lv_at hl 3 rfl) ?_
      refine lv_iconst (v := nI 3) hx hb dX7_bestLend_10 (by decide) ?_
      refine lv_icmp_ge (tgt := 53) hx hb dX7_bestLend_11 (by decide) (fun c11_2 => absurd c11_2 (nI_ge (by omega) (by decide))) (fun c11_2 => ?_)
      refine lv_aload_n hx hb dX7_bestLend_14 rfl (lv_at hl 0 rfl) ?_
      refine lv_aload_n hx hb dX7_bestLend_15 rfl (lv_at hl 0 rfl) ?_
      refine mgO0 hx hb hts hiX7 hown hK hP (hts (.fieldLink RX7 7 "BarrelProcessorModel" "s" "[I") (by decide +kernel)) dX7_bestLend_16 ?_
      refine lv_sipush (v := nI 242) hx hb dX7_bestLend_19 (by decide) ?_
      refine m_iald hx hb hK hP mG_s (j := 242) (by omega) (by decide) dX7_bestLend_22 ?_
      refine z_val (z := N 15 0) (zen_of zf_242) ?_
      refine lv_iload_n hx hb dX7_bestLend_23 rfl (lv_at hl 3 rfl) ?_
      refine m_cVi (As := [.int (N 15 0), .int (nI i)]) (rest := []) ⟨hx, hb, hml, hown, hts⟩ (ct_X7_leftIf l D a cI hJ N A P X (N 15 0) (nI i) _ hI hB) (cwV 2 hts gX7_bestLend_X7_leftIf rfl rfl rfl (by decide +kernel) ⟨Nat.le_of_ble_eq_true rfl, Nat.le_of_ble_eq_true rfl⟩) hK hP hS (va_recv (ci := 7) hK hP rfl mG_O) rfl hl.1 rfl (Nat.le_of_ble_eq_true rfl) dX7_bestLend_24 ⟨Nat.zero_le _, Nat.zero_le _⟩ (fun H locs hP hS => ?_)
      refine lv_istore (lv' := [(4, .int (g_X7_leftIf (N 15 0) (nI i) N)), (0, .ref (a 0)), (1, .int best), (2, .int fewest), (3, .int (nI i))]) hx hb dX7_bestLend_27 hl (by decide) rfl (fun ls hl => ?_)
      refine lv_iload hx hb dX7_bestLend_29 (lv_at hl 0 rfl) ?_
      refine lv_ldc (v := (-100005)) hx hb hown (hts (.constant RX7 147 (-100005)) (by decide +kernel)) dX7_bestLend_31 ?_
      refine lv_icmp_eq (tgt := 47) hx hb dX7_bestLend_33 (by decide) (fun c33_3 => ?_) (fun c33_3 => ?_)
      · refine lv_iinc (v := nI (i + 1)) (lv' := [(3, .int (nI (i + 1))), (4, .int (g_X7_leftIf (N 15 0) (nI i) N)), (0, .ref (a 0)), (1, .int best), (2, .int fewest)]) hx hb dX7_bestLend_47 hl (k := 4) rfl (nI_add _ _) (by decide) rfl (fun ls hl => ?_)
        refine lv_goto (tgt := 9) hx hb dX7_bestLend_50 (by decide) ?_
        refine m_toi (r2 := g_X7_bestLend_lp n best fewest (i + 1) N (hA_X7_leftIf (N 15 0) (nI i) N)) (Z2 := (N, hA_X7_bestLend_lp n best fewest (i + 1) N (hA_X7_leftIf (N 15 0) (nI i) N), P, X)) (by simp only [g_X7_bestLend_lp, if_pos c33_3]) (m_eq rfl (by simp only [hA_X7_bestLend_lp, if_pos c33_3]) rfl rfl) ?_
        exact ih best fewest (i + 1) (hA_X7_leftIf (N 15 0) (nI i) N) _ _ _ (by omega) (lv_sub hl [2, 3, 4, 0] rfl) hP hS
      · refine lv_iload hx hb dX7_bestLend_36 (lv_at hl 0 rfl) ?_
        refine lv_iload_n hx hb dX7_bestLend_38 rfl (lv_at hl 3 rfl) ?_
        refine lv_icmp_ge (tgt := 47) hx hb dX7_bestLend_39 (by decide) (fun c39_4 => ?_) (fun c39_4 => ?_)
        · refine lv_iinc (v := nI (i + 1)) (lv' := [(3, .int (nI (i + 1))), (4, .int (g_X7_leftIf (N 15 0) (nI i) N)), (0, .ref (a 0)), (1, .int best), (2, .int fewest)]) hx hb dX7_bestLend_47 hl (k := 4) rfl (nI_add _ _) (by decide) rfl (fun ls hl => ?_)
          refine lv_goto (tgt := 9) hx hb dX7_bestLend_50 (by decide) ?_
          refine m_toi (r2 := g_X7_bestLend_lp n best fewest (i + 1) N (hA_X7_leftIf (N 15 0) (nI i) N)) (Z2 := (N, hA_X7_bestLend_lp n best fewest (i + 1) N (hA_X7_leftIf (N 15 0) (nI i) N), P, X)) (by simp only [g_X7_bestLend_lp, if_neg c33_3, if_pos c39_4]) (m_eq rfl (by simp only [hA_X7_bestLend_lp, if_neg c33_3, if_pos c39_4]) rfl rfl) ?_
          exact ih best fewest (i + 1) (hA_X7_leftIf (N 15 0) (nI i) N) _ _ _ (by omega) (lv_sub hl [2, 3, 4, 0] rfl) hP hS
        · refine lv_iload_n hx hb dX7_bestLend_42 rfl (lv_at hl 4 rfl) ?_
          refine lv_istore_n (lv' := [(1, .int (nI i)), (4, .int (g_X7_leftIf (N 15 0) (nI i) N)), (0, .ref (a 0)), (2, .int fewest), (3, .int (nI i))]) hx hb dX7_bestLend_43 rfl hl (by decide) rfl (fun ls hl => ?_)
          refine lv_iload hx hb dX7_bestLend_44 (lv_at hl 1 rfl) ?_
          refine lv_istore_n (lv' := [(2, .int (g_X7_leftIf (N 15 0) (nI i) N)), (1, .int (nI i)), (4, .int (g_X7_leftIf (N 15 0) (nI i) N)), (0, .ref (a 0)), (3, .int (nI i))]) hx hb dX7_bestLend_46 rfl hl (by decide) rfl (fun ls hl => ?_)
          refine lv_iinc (v := nI (i + 1)) (lv' := [(3, .int (nI (i + 1))), (2, .int (g_X7_leftIf (N 15 0) (nI i) N)), (1, .int (nI i)), (4, .int (g_X7_leftIf (N 15 0) (nI i) N)), (0, .ref (a 0))]) hx hb dX7_bestLend_47 hl (k := 4) rfl (nI_add _ _) (by decide) rfl (fun ls hl => ?_)
          refine lv_goto (tgt := 9) hx hb dX7_bestLend_50 (by decide) ?_
          refine m_toi (r2 := g_X7_bestLend_lp n (nI i) (g_X7_leftIf (N 15 0) (nI i) N) (i + 1) N (hA_X7_leftIf (N 15 0) (nI i) N)) (Z2 := (N, hA_X7_bestLend_lp n (nI i) (g_X7_leftIf (N 15 0) (nI i) N) (i + 1) N (hA_X7_leftIf (N 15 0) (nI i) N), P, X)) (by simp only [g_X7_bestLend_lp, if_neg c33_3, if_neg c39_4]) (m_eq rfl (by simp only [hA_X7_bestLend_lp, if_neg c33_3, if_neg c39_4]) rfl rfl) ?_
          exact ih (nI i) (g_X7_leftIf (N 15 0) (nI i) N) (i + 1) (hA_X7_leftIf (N 15 0) (nI i) N) _ _ _ (by omega) (lv_sub hl [4, 2, 1, 0] rfl) hP hS
  refine lv_ldc (v := (-100005)) hx hb hown (hts (.constant RX7 147 (-100005)) (by decide +kernel)) dX7_bestLend_0 ?_
  refine lv_istore_n (lv' := [(1, .int (-100005)), (0, .ref (a 0))]) hx hb dX7_bestLend_2 rfl hl (by decide) rfl (fun ls hl => ?_)
  refine lv_sipush (v := nI 501) hx hb dX7_bestLend_3 (by decide) ?_
  refine lv_istore_n (lv' := [(2, .int (nI 501)), (1, .int (-100005)), (0, .ref (a 0))]) hx hb dX7_bestLend_6 rfl hl (by decide) rfl (fun ls hl => ?_)
  refine lv_iconst (v := nI 0) hx hb dX7_bestLend_7 (by decide) ?_
  refine lv_istore_n (lv' := [(3, .int (nI 0)), (2, .int (nI 501)), (1, .int (-100005)), (0, .ref (a 0))]) hx hb dX7_bestLend_8 rfl hl (by decide) rfl (fun ls hl => ?_)
  refine m_toi (r2 := g_X7_bestLend_lp 3 (-100005) (nI 501) 0 N A) (Z2 := (N, hA_X7_bestLend_lp 3 (-100005) (nI 501) 0 N A, P, X)) (by first | rfl | simp only [g_X7_bestLend]) (m_eq rfl (by first | rfl | simp only [hA_X7_bestLend]) rfl rfl) ?_
  exact lp9 3 (-100005) (nI 501) 0 A _ _ _ (by omega) (lv_sub hl [3, 2, 1, 0] rfl) hP hS

def g_X7_finalWord (word : Int32) (N A : zM) : Int32 := if (g_X7_in word (nI 0) (nI 31)) = 0 then (-100001) else if (g_X7_runsOut N) = (-100005) then (-100005) else (hN_X7_runsOut N) 13 (zc word)
def hA_X7_finalWord (word : Int32) (N A : zM) : zM := if (g_X7_in word (nI 0) (nI 31)) = 0 then A else if (g_X7_runsOut N) = (-100005) then N else N
set_option maxHeartbeats 4000000 in
set_option maxRecDepth 100000 in
theorem ct_X7_finalWord (l : Launch) (D : va_G) (a : Nat → Nat) (cI : ClassId) (hJ : mJ a) (N A P X : zM) (word : Int32) (B : Nat) (hI : rOK B N) (hB : B + 500 < 1000000) : mCi l yX7_finalWord wsX7_finalWord ({ frames := 6, cells := 0, slots := 0, locals := 136 } : Room) D a cI [.ref (a 0), .int word] (N, A, P, X) (g_X7_finalWord word N A) (N, hA_X7_finalWord word N A, P, X) := by
  have hiX7 : ∀ w ∈ wsX70, w ∈ wsX7_finalWord := by decide +kernel
  refine m_ofi (cc := cX7_finalWord) (maxL := 4) (own := RX7) (by decide) rfl (Nat.le_of_ble_eq_true rfl) rfl (fun p e s m below meth c ls hx hb hr hml hts hown hlk hl hK hP hS => ?_)
  have hl : lv_has ls 4 [(0, .ref (a 0)), (1, .int word)] := hl
  refine lv_iload_n hx hb dX7_finalWord_0 rfl (lv_at hl 1 rfl) ?_
  refine lv_iconst (v := nI 0) hx hb dX7_finalWord_1 (by decide) ?_
  refine lv_bipush (v := nI 31) hx hb dX7_finalWord_2 (by decide) ?_
  refine m_cSi (As := [.int word, .int (nI 0), .int (nI 31)]) (rest := []) ⟨hx, hb, hml, hown, hts⟩ (ct_X7_in l D a cI hJ N A P X word (nI 0) (nI 31)) (va_cwS 3 hts gX7_finalWord_X7_in rfl rfl rfl (by decide +kernel) ⟨Nat.le_of_ble_eq_true rfl, Nat.le_of_ble_eq_true rfl⟩) hK hP hS rfl hl.1 rfl (Nat.le_of_ble_eq_true rfl) dX7_finalWord_4 ⟨Nat.zero_le _, Nat.zero_le _⟩ (fun H locs hP hS => ?_)
  refine lv_if_ne (tgt := 13) hx hb dX7_finalWord_7 (by decide) (fun c7_1 => ?_) (fun c7_1 => ?_)
  · have bw := m_within (n := 31) (by decide) c7_1
    have bw1 := bw.1
    refine lv_aload_n hx hb dX7_finalWord_13 rfl (lv_at hl 0 rfl) ?_
    refine m_cVv (As := []) (rest := []) ⟨hx, hb, hml, hown, hts⟩ (ct_X7_putAside l D a cI hJ N A P X) (cwV 0 hts gX7_finalWord_X7_putAside rfl rfl rfl (by decide +kernel) ⟨Nat.le_of_ble_eq_true rfl, Nat.le_of_ble_eq_true rfl⟩) hK hP hS (va_recv (ci := 7) hK hP rfl mG_O) rfl hl.1 rfl (Nat.le_of_ble_eq_true rfl) dX7_finalWord_14 ⟨Nat.zero_le _, Nat.zero_le _⟩ (fun H locs hP hS => ?_)
    refine lv_aload_n hx hb dX7_finalWord_17 rfl (lv_at hl 0 rfl) ?_
    refine m_cVi (As := []) (rest := []) ⟨hx, hb, hml, hown, hts⟩ (ct_X7_runsOut l D a cI hJ N N P X _ hI hB) (cwV 0 hts gX7_finalWord_X7_runsOut rfl rfl rfl (by decide +kernel) ⟨Nat.le_of_ble_eq_true rfl, Nat.le_of_ble_eq_true rfl⟩) hK hP hS (va_recv (ci := 7) hK hP rfl mG_O) rfl hl.1 rfl (Nat.le_of_ble_eq_true rfl) dX7_finalWord_18 ⟨Nat.zero_le _, Nat.zero_le _⟩ (fun H locs hP hS => ?_)
    refine lv_istore_n (lv' := [(2, .int (g_X7_runsOut N)), (0, .ref (a 0)), (1, .int word)]) hx hb dX7_finalWord_21 rfl hl (by decide) rfl (fun ls hl => ?_)
    refine lv_aload_n hx hb dX7_finalWord_22 rfl (lv_at hl 1 rfl) ?_
    refine mgO0 hx hb hts hiX7 hown hK hP (hts (.fieldLink RX7 7 "BarrelProcessorModel" "s" "[I") (by decide +kernel)) dX7_finalWord_23 ?_
    refine lv_sipush (v := nI 200) hx hb dX7_finalWord_26 (by decide) ?_
    refine lv_iload_n hx hb dX7_finalWord_29 rfl (lv_at hl 2 rfl) ?_
    refine z_val (z := nI (zc word)) bw.2 ?_
    refine lv_iadd hx hb dX7_finalWord_30 ?_
    refine z_val (z := nI (200 + (zc word))) (nI_add _ _) ?_
    refine m_iald hx hb hK hP mG_s (j := 200 + (zc word)) (by omega) (by decide) dX7_finalWord_31 ?_
    refine z_val (z := (hN_X7_runsOut N) 13 (zc word)) (zen_of (zf_wd (by omega))) ?_
    refine lv_istore_n (lv' := [(3, .int ((hN_X7_runsOut N) 13 (zc word))), (2, .int (g_X7_runsOut N)), (0, .ref (a 0)), (1, .int word)]) hx hb dX7_finalWord_32 rfl hl (by decide) rfl (fun ls hl => ?_)
    refine lv_aload_n hx hb dX7_finalWord_33 rfl (lv_at hl 2 rfl) ?_
    refine m_cVv (As := []) (rest := []) ⟨hx, hb, hml, hown, hts⟩ (ct_X7_putBack l D a cI hJ (hN_X7_runsOut N) N P X) (cwV 0 hts gX7_finalWord_X7_putBack rfl rfl rfl (by decide +kernel) ⟨Nat.le_of_ble_eq_true rfl, Nat.le_of_ble_eq_true rfl⟩) hK hP hS (va_recv (ci := 7) hK hP rfl mG_O) rfl hl.1 rfl (Nat.le_of_ble_eq_true rfl) dX7_finalWord_34 ⟨Nat.zero_le _, Nat.zero_le _⟩ (fun H locs hP hS => ?_)
    refine lv_iload_n hx hb dX7_finalWord_37 rfl (lv_at hl 1 rfl) ?_
    refine lv_ldc (v := (-100005)) hx hb hown (hts (.constant RX7 147 (-100005)) (by decide +kernel)) dX7_finalWord_38 ?_
    refine lv_icmp_ne (tgt := 48) hx hb dX7_finalWord_40 (by decide) (fun c40_2 => ?_) (fun c40_2 => ?_)
    · refine lv_iload_n hx hb dX7_finalWord_48 rfl (lv_at hl 0 rfl) ?_
      exact m_reti hx hb hr hlk rfl hP hS dX7_finalWord_49 (by simp only [g_X7_finalWord, if_neg c7_1, if_neg c40_2]) (m_eq rfl (by simp only [hA_X7_finalWord, if_neg c7_1, if_neg c40_2]) rfl rfl)
    · refine lv_ldc (v := (-100005)) hx hb hown (hts (.constant RX7 147 (-100005)) (by decide +kernel)) dX7_finalWord_43 ?_
      refine lv_goto (tgt := 49) hx hb dX7_finalWord_45 (by decide) ?_
      exact m_reti hx hb hr hlk rfl hP hS dX7_finalWord_49 (by simp only [g_X7_finalWord, if_neg c7_1, if_pos c40_2]) (m_eq rfl (by simp only [hA_X7_finalWord, if_neg c7_1, if_pos c40_2]) rfl rfl)
  · refine lv_ldc (v := (-100001)) hx hb hown (hts (.constant RX7 75 (-100001)) (by decide +kernel)) dX7_finalWord_10 ?_
    exact m_reti hx hb hr hlk rfl hP hS dX7_finalWord_12 (by simp only [g_X7_finalWord, if_pos c7_1]) (m_eq rfl (by simp only [hA_X7_finalWord, if_pos c7_1]) rfl rfl)

def g_X7_nextThread  (N : zM) : Int32 := if (g_X7_issuing (hN_X7_prepares N)) = (-1) then (-100005) else (g_X7_issuing (hN_X7_prepares N))
def hA_X7_nextThread  (N : zM) : zM := if (g_X7_issuing (hN_X7_prepares N)) = (-1) then N else N
set_option maxHeartbeats 4000000 in
set_option maxRecDepth 100000 in
theorem ct_X7_nextThread (l : Launch) (D : va_G) (a : Nat → Nat) (cI : ClassId) (hJ : mJ a) (N A P X : zM) (B : Nat) (hI : rOK B N) : mCi l yX7_nextThread wsX7_nextThread ({ frames := 3, cells := 0, slots := 0, locals := 66 } : Room) D a cI [.ref (a 0)] (N, A, P, X) (g_X7_nextThread N) (N, hA_X7_nextThread N, P, X) := by
  refine m_ofi (cc := cX7_nextThread) (maxL := 2) (own := RX7) (by decide) rfl (Nat.le_of_ble_eq_true rfl) rfl (fun p e s m below meth c ls hx hb hr hml hts hown hlk hl hK hP hS => ?_)
  have hl : lv_has ls 2 [(0, .ref (a 0))] := hl
  have hJ1 := rOK_prepares hI
  refine lv_aload_n hx hb dX7_nextThread_0 rfl (lv_at hl 0 rfl) ?_
  refine m_cVv (As := []) (rest := []) ⟨hx, hb, hml, hown, hts⟩ (ct_X7_putAside l D a cI hJ N A P X) (cwV 0 hts gX7_nextThread_X7_putAside rfl rfl rfl (by decide +kernel) ⟨Nat.le_of_ble_eq_true rfl, Nat.le_of_ble_eq_true rfl⟩) hK hP hS (va_recv (ci := 7) hK hP rfl mG_O) rfl hl.1 rfl (Nat.le_of_ble_eq_true rfl) dX7_nextThread_1 ⟨Nat.zero_le _, Nat.zero_le _⟩ (fun H locs hP hS => ?_)
  refine lv_aload_n hx hb dX7_nextThread_4 rfl (lv_at hl 0 rfl) ?_
  refine m_cVv (As := []) (rest := []) ⟨hx, hb, hml, hown, hts⟩ (ct_X7_prepares l D a cI hJ N N P X _ hI) (cwV 0 hts gX7_nextThread_X7_prepares rfl rfl rfl (by decide +kernel) ⟨Nat.le_of_ble_eq_true rfl, Nat.le_of_ble_eq_true rfl⟩) hK hP hS (va_recv (ci := 7) hK hP rfl mG_O) rfl hl.1 rfl (Nat.le_of_ble_eq_true rfl) dX7_nextThread_5 ⟨Nat.zero_le _, Nat.zero_le _⟩ (fun H locs hP hS => ?_)
  refine lv_aload_n hx hb dX7_nextThread_8 rfl (lv_at hl 0 rfl) ?_
  refine m_cVi (As := []) (rest := []) ⟨hx, hb, hml, hown, hts⟩ (ct_X7_issuing l D a cI hJ (hN_X7_prepares N) N P X _ hJ1) (cwV 0 hts gX7_nextThread_X7_issuing rfl rfl rfl (by decide +kernel) ⟨Nat.le_of_ble_eq_true rfl, Nat.le_of_ble_eq_true rfl⟩) hK hP hS (va_recv (ci := 7) hK hP rfl mG_O) rfl hl.1 rfl (Nat.le_of_ble_eq_true rfl) dX7_nextThread_9 ⟨Nat.zero_le _, Nat.zero_le _⟩ (fun H locs hP hS => ?_)
  refine lv_istore_n (lv' := [(1, .int (g_X7_issuing (hN_X7_prepares N))), (0, .ref (a 0))]) hx hb dX7_nextThread_12 rfl hl (by decide) rfl (fun ls hl => ?_)
  refine lv_aload_n hx hb dX7_nextThread_13 rfl (lv_at hl 1 rfl) ?_
  refine m_cVv (As := []) (rest := []) ⟨hx, hb, hml, hown, hts⟩ (ct_X7_putBack l D a cI hJ (hN_X7_prepares N) N P X) (cwV 0 hts gX7_nextThread_X7_putBack rfl rfl rfl (by decide +kernel) ⟨Nat.le_of_ble_eq_true rfl, Nat.le_of_ble_eq_true rfl⟩) hK hP hS (va_recv (ci := 7) hK hP rfl mG_O) rfl hl.1 rfl (Nat.le_of_ble_eq_true rfl) dX7_nextThread_14 ⟨Nat.zero_le _, Nat.zero_le _⟩ (fun H locs hP hS => ?_)
  refine lv_iload_n hx hb dX7_nextThread_17 rfl (lv_at hl 0 rfl) ?_
  refine lv_iconst (v := (-1)) hx hb dX7_nextThread_18 (by decide) ?_
  refine lv_icmp_ne (tgt := 27) hx hb dX7_nextThread_19 (by decide) (fun c19_1 => ?_) (fun c19_1 => ?_)
  · refine lv_iload_n hx hb dX7_nextThread_27 rfl (lv_at hl 0 rfl) ?_
    exact m_reti hx hb hr hlk rfl hP hS dX7_nextThread_28 (by simp only [g_X7_nextThread, if_neg c19_1]) (m_eq rfl (by simp only [hA_X7_nextThread, if_neg c19_1]) rfl rfl)
  · refine lv_ldc (v := (-100005)) hx hb hown (hts (.constant RX7 147 (-100005)) (by decide +kernel)) dX7_nextThread_22 ?_
    refine lv_goto (tgt := 28) hx hb dX7_nextThread_24 (by decide) ?_
    exact m_reti hx hb hr hlk rfl hP hS dX7_nextThread_28 (by simp only [g_X7_nextThread, if_pos c19_1]) (m_eq rfl (by simp only [hA_X7_nextThread, if_pos c19_1]) rfl rfl)

def g_X7_run_lp (cycles : Int32) : Nat → Nat → zM → zM → zM → zM → Int32
  | 0, i, N, A, P, X => nI i
  | n + 1, i, N, A, P, X => if (g_X7_isOver N) = 0 then if (nI i) = 0 then g_X7_run_lp cycles n (i + 1) (hN_X7_cycles N) A P X else if (g_X7_isStopped N) = 0 then g_X7_run_lp cycles n (i + 1) (hN_X7_cycles N) (hA_X7_isStopped N) P X else nI i else nI i
def hN_X7_run_lp (cycles : Int32) : Nat → Nat → zM → zM → zM → zM → zM
  | 0, i, N, A, P, X => N
  | n + 1, i, N, A, P, X => if (g_X7_isOver N) = 0 then if (nI i) = 0 then hN_X7_run_lp cycles n (i + 1) (hN_X7_cycles N) A P X else if (g_X7_isStopped N) = 0 then hN_X7_run_lp cycles n (i + 1) (hN_X7_cycles N) (hA_X7_isStopped N) P X else N else N
def hA_X7_run_lp (cycles : Int32) : Nat → Nat → zM → zM → zM → zM → zM
  | 0, i, N, A, P, X => A
  | n + 1, i, N, A, P, X => if (g_X7_isOver N) = 0 then if (nI i) = 0 then hA_X7_run_lp cycles n (i + 1) (hN_X7_cycles N) A P X else if (g_X7_isStopped N) = 0 then hA_X7_run_lp cycles n (i + 1) (hN_X7_cycles N) (hA_X7_isStopped N) P X else hA_X7_isStopped N else A
def hP_X7_run_lp (cycles : Int32) : Nat → Nat → zM → zM → zM → zM → zM
  | 0, i, N, A, P, X => P
  | n + 1, i, N, A, P, X => if (g_X7_isOver N) = 0 then if (nI i) = 0 then hP_X7_run_lp cycles n (i + 1) (hN_X7_cycles N) A P X else if (g_X7_isStopped N) = 0 then hP_X7_run_lp cycles n (i + 1) (hN_X7_cycles N) (hA_X7_isStopped N) P X else P else P
def hX_X7_run_lp (cycles : Int32) : Nat → Nat → zM → zM → zM → zM → zM
  | 0, i, N, A, P, X => X
  | n + 1, i, N, A, P, X => if (g_X7_isOver N) = 0 then if (nI i) = 0 then hX_X7_run_lp cycles n (i + 1) (hN_X7_cycles N) A P X else if (g_X7_isStopped N) = 0 then hX_X7_run_lp cycles n (i + 1) (hN_X7_cycles N) (hA_X7_isStopped N) P X else X else X
def g_X7_run (cycles : Int32) (N A P X : zM) : Int32 := if (g_X7_in cycles (nI 1) (nI 200)) = 0 then (-100002) else g_X7_run_lp cycles (zc cycles) 0 N A (hP_X7_records N P X) (hX_X7_records N P X)
def hN_X7_run (cycles : Int32) (N A P X : zM) : zM := if (g_X7_in cycles (nI 1) (nI 200)) = 0 then N else hN_X7_run_lp cycles (zc cycles) 0 N A (hP_X7_records N P X) (hX_X7_records N P X)
def hA_X7_run (cycles : Int32) (N A P X : zM) : zM := if (g_X7_in cycles (nI 1) (nI 200)) = 0 then A else hA_X7_run_lp cycles (zc cycles) 0 N A (hP_X7_records N P X) (hX_X7_records N P X)
def hP_X7_run (cycles : Int32) (N A P X : zM) : zM := if (g_X7_in cycles (nI 1) (nI 200)) = 0 then P else hP_X7_run_lp cycles (zc cycles) 0 N A (hP_X7_records N P X) (hX_X7_records N P X)
def hX_X7_run (cycles : Int32) (N A P X : zM) : zM := if (g_X7_in cycles (nI 1) (nI 200)) = 0 then X else hX_X7_run_lp cycles (zc cycles) 0 N A (hP_X7_records N P X) (hX_X7_records N P X)
set_option maxHeartbeats 4000000 in
set_option maxRecDepth 100000 in
theorem ct_X7_run (l : Launch) (D : va_G) (a : Nat → Nat) (cI : ClassId) (hJ : mJ a) (N A P X : zM) (cycles : Int32) (B : Nat) (hI : rOK B N) (hB : B + 200 < 1000000) (hX : zIn (X 0 0) 5) : mCi l yX7_run wsX7_run ({ frames := 5, cells := 0, slots := 0, locals := 115 } : Room) D a cI [.ref (a 0), .int cycles] (N, A, P, X) (g_X7_run cycles N A P X) (hN_X7_run cycles N A P X, hA_X7_run cycles N A P X, hP_X7_run cycles N A P X, hX_X7_run cycles N A P X) := by
  refine m_ofi (cc := cX7_run) (maxL := 3) (own := RX7) (by decide) rfl (Nat.le_of_ble_eq_true rfl) rfl (fun p e s m below meth c ls hx hb hr hml hts hown hlk hl hK hP hS => ?_)
  have hl : lv_has ls 3 [(0, .ref (a 0)), (1, .int cycles)] := hl
  have lp20 : ∀ (n : Nat) (i : Nat) (N : zM) (A : zM) (P : zM) (X : zM) (H : Heap) (locs : List Loc) (ls : Array Slot) (hn : i + n = zc cycles) (hI : rOK (B + i) N) (bc : zIn cycles 201) (hl : lv_has ls 3 [(0, .ref (a 0)), (1, .int cycles), (2, .int (nI i))]) (hP : va_P D vwCl (mW a cI (N, A, P, X)) H) (hS : va_S (mA a) s.heap H locs), W p l e ({ frames := 5, cells := 0, slots := 0, locals := 115 } : Room) s m ([.ref (a 0), .int cycles] : List Value).toArray below meth c H locs 0 0 (mQi below D a cI [.ref (a 0), .int cycles] s (g_X7_run_lp cycles n i N A P X) (hN_X7_run_lp cycles n i N A P X, hA_X7_run_lp cycles n i N A P X, hP_X7_run_lp cycles n i N A P X, hX_X7_run_lp cycles n i N A P X)) (F0 m 20 ls []) := by
    intro n
    induction n with
    | zero =>
      intro i N A P X H locs ls hn hI bc hl hP hS
      refine lv_iload_n hx hb dX7_run_20 rfl (lv_at hl 2 rfl) ?_
      refine lv_iload_n hx hb dX7_run_21 rfl (lv_at hl 1 rfl) ?_
      refine z_val (z := nI (zc cycles)) bc.2 ?_
      refine lv_icmp_ge (tgt := 53) hx hb dX7_run_22 (by decide) (fun c22_1 => ?_) (fun c22_1 => absurd (nI_le (by omega) (by have h9 := bc.1; omega)) c22_1)
      refine lv_iload_n hx hb dX7_run_53 rfl (lv_at hl 2 rfl) ?_
      exact m_reti hx hb hr hlk rfl hP hS dX7_run_54 (by first | rfl | simp only [g_X7_run_lp]) (m_eq (by first | rfl | simp only [hN_X7_run_lp]) (by first | rfl | simp only [hA_X7_run_lp]) (by first | rfl | simp only [hP_X7_run_lp]) (by first | rfl | simp only [hX_X7_run_lp]))
    | succ n ih =>
      intro i N A P X H locs ls hn hI bc hl hP hS
      refine lv_iload_n hx hb dX7_run_20 rfl (lv_at hl 2 rfl) ?_
      refine lv_iload_n hx hb dX7_run_21 rfl (lv_at hl 1 rfl) ?_
      refine z_val (z := nI (zc cycles)) bc.2 ?_
      refine lv_icmp_ge (tgt := 53) hx hb dX7_run_22 (by decide) (fun c22_2 => absurd c22_2 (nI_ge (by omega) (by have h9 := bc.1; omega))) (fun c22_2 => ?_)
      refine lv_aload_n hx hb dX7_run_25 rfl (lv_at hl 0 rfl) ?_
      refine m_cVi (As := []) (rest := []) ⟨hx, hb, hml, hown, hts⟩ (ct_X7_isOver l D a cI hJ N A P X) (cwV 0 hts gX7_run_X7_isOver rfl rfl rfl (by decide +kernel) ⟨Nat.le_of_ble_eq_true rfl, Nat.le_of_ble_eq_true rfl⟩) hK hP hS (va_recv (ci := 7) hK hP rfl mG_O) rfl hl.1 rfl (Nat.le_of_ble_eq_true rfl) dX7_run_26 ⟨Nat.zero_le _, Nat.zero_le _⟩ (fun H locs hP hS => ?_)
      refine lv_if_ne (tgt := 53) hx hb dX7_run_29 (by decide) (fun c29_3 => ?_) (fun c29_3 => ?_)
      · refine lv_iload_n hx hb dX7_run_53 rfl (lv_at hl 2 rfl) ?_
        exact m_reti hx hb hr hlk rfl hP hS dX7_run_54 (by simp only [g_X7_run_lp, if_neg c29_3]) (m_eq (by simp only [hN_X7_run_lp, if_neg c29_3]) (by simp only [hA_X7_run_lp, if_neg c29_3]) (by simp only [hP_X7_run_lp, if_neg c29_3]) (by simp only [hX_X7_run_lp, if_neg c29_3]))
      · refine lv_iload_n hx hb dX7_run_32 rfl (lv_at hl 2 rfl) ?_
        refine lv_if_eq (tgt := 43) hx hb dX7_run_33 (by decide) (fun c33_4 => ?_) (fun c33_4 => ?_)
        · refine lv_aload_n hx hb dX7_run_43 rfl (lv_at hl 0 rfl) ?_
          refine m_cVv (As := []) (rest := []) ⟨hx, hb, hml, hown, hts⟩ (ct_X7_cycles l D a cI hJ N A P X _ hI) (cwV 0 hts gX7_run_X7_cycles rfl rfl rfl (by decide +kernel) ⟨Nat.le_of_ble_eq_true rfl, Nat.le_of_ble_eq_true rfl⟩) hK hP hS (va_recv (ci := 7) hK hP rfl mG_O) rfl hl.1 rfl (Nat.le_of_ble_eq_true rfl) dX7_run_44 ⟨Nat.zero_le _, Nat.zero_le _⟩ (fun H locs hP hS => ?_)
          refine lv_iinc (v := nI (i + 1)) (lv' := [(2, .int (nI (i + 1))), (0, .ref (a 0)), (1, .int cycles)]) hx hb dX7_run_47 hl (k := 2) rfl (nI_add _ _) (by decide) rfl (fun ls hl => ?_)
          refine lv_goto (tgt := 20) hx hb dX7_run_50 (by decide) ?_
          refine m_toi (r2 := g_X7_run_lp cycles n (i + 1) (hN_X7_cycles N) A P X) (Z2 := (hN_X7_run_lp cycles n (i + 1) (hN_X7_cycles N) A P X, hA_X7_run_lp cycles n (i + 1) (hN_X7_cycles N) A P X, hP_X7_run_lp cycles n (i + 1) (hN_X7_cycles N) A P X, hX_X7_run_lp cycles n (i + 1) (hN_X7_cycles N) A P X)) (by simp only [g_X7_run_lp, if_pos c29_3, if_pos c33_4]) (m_eq (by simp only [hN_X7_run_lp, if_pos c29_3, if_pos c33_4]) (by simp only [hA_X7_run_lp, if_pos c29_3, if_pos c33_4]) (by simp only [hP_X7_run_lp, if_pos c29_3, if_pos c33_4]) (by simp only [hX_X7_run_lp, if_pos c29_3, if_pos c33_4])) ?_
          exact ih (i + 1) (hN_X7_cycles N) A P X _ _ _ (by omega) (rOK_cycles (B := B + i) hI (by have h9 := bc.1; omega)) bc (lv_sub hl [1, 2, 0] rfl) hP hS
        · refine lv_aload_n hx hb dX7_run_36 rfl (lv_at hl 0 rfl) ?_
          refine m_cVi (As := []) (rest := []) ⟨hx, hb, hml, hown, hts⟩ (ct_X7_isStopped l D a cI hJ N A P X _ hI) (cwV 0 hts gX7_run_X7_isStopped rfl rfl rfl (by decide +kernel) ⟨Nat.le_of_ble_eq_true rfl, Nat.le_of_ble_eq_true rfl⟩) hK hP hS (va_recv (ci := 7) hK hP rfl mG_O) rfl hl.1 rfl (Nat.le_of_ble_eq_true rfl) dX7_run_37 ⟨Nat.zero_le _, Nat.zero_le _⟩ (fun H locs hP hS => ?_)
          refine lv_if_ne (tgt := 53) hx hb dX7_run_40 (by decide) (fun c40_5 => ?_) (fun c40_5 => ?_)
          · refine lv_iload_n hx hb dX7_run_53 rfl (lv_at hl 2 rfl) ?_
            exact m_reti hx hb hr hlk rfl hP hS dX7_run_54 (by simp only [g_X7_run_lp, if_pos c29_3, if_neg c33_4, if_neg c40_5]) (m_eq (by simp only [hN_X7_run_lp, if_pos c29_3, if_neg c33_4, if_neg c40_5]) (by simp only [hA_X7_run_lp, if_pos c29_3, if_neg c33_4, if_neg c40_5]) (by simp only [hP_X7_run_lp, if_pos c29_3, if_neg c33_4, if_neg c40_5]) (by simp only [hX_X7_run_lp, if_pos c29_3, if_neg c33_4, if_neg c40_5]))
          · refine lv_aload_n hx hb dX7_run_43 rfl (lv_at hl 0 rfl) ?_
            refine m_cVv (As := []) (rest := []) ⟨hx, hb, hml, hown, hts⟩ (ct_X7_cycles l D a cI hJ N (hA_X7_isStopped N) P X _ hI) (cwV 0 hts gX7_run_X7_cycles rfl rfl rfl (by decide +kernel) ⟨Nat.le_of_ble_eq_true rfl, Nat.le_of_ble_eq_true rfl⟩) hK hP hS (va_recv (ci := 7) hK hP rfl mG_O) rfl hl.1 rfl (Nat.le_of_ble_eq_true rfl) dX7_run_44 ⟨Nat.zero_le _, Nat.zero_le _⟩ (fun H locs hP hS => ?_)
            refine lv_iinc (v := nI (i + 1)) (lv' := [(2, .int (nI (i + 1))), (0, .ref (a 0)), (1, .int cycles)]) hx hb dX7_run_47 hl (k := 2) rfl (nI_add _ _) (by decide) rfl (fun ls hl => ?_)
            refine lv_goto (tgt := 20) hx hb dX7_run_50 (by decide) ?_
            refine m_toi (r2 := g_X7_run_lp cycles n (i + 1) (hN_X7_cycles N) (hA_X7_isStopped N) P X) (Z2 := (hN_X7_run_lp cycles n (i + 1) (hN_X7_cycles N) (hA_X7_isStopped N) P X, hA_X7_run_lp cycles n (i + 1) (hN_X7_cycles N) (hA_X7_isStopped N) P X, hP_X7_run_lp cycles n (i + 1) (hN_X7_cycles N) (hA_X7_isStopped N) P X, hX_X7_run_lp cycles n (i + 1) (hN_X7_cycles N) (hA_X7_isStopped N) P X)) (by simp only [g_X7_run_lp, if_pos c29_3, if_neg c33_4, if_pos c40_5]) (m_eq (by simp only [hN_X7_run_lp, if_pos c29_3, if_neg c33_4, if_pos c40_5]) (by simp only [hA_X7_run_lp, if_pos c29_3, if_neg c33_4, if_pos c40_5]) (by simp only [hP_X7_run_lp, if_pos c29_3, if_neg c33_4, if_pos c40_5]) (by simp only [hX_X7_run_lp, if_pos c29_3, if_neg c33_4, if_pos c40_5])) ?_
            exact ih (i + 1) (hN_X7_cycles N) (hA_X7_isStopped N) P X _ _ _ (by omega) (rOK_cycles (B := B + i) hI (by have h9 := bc.1; omega)) bc (lv_sub hl [1, 2, 0] rfl) hP hS
  refine lv_iload_n hx hb dX7_run_0 rfl (lv_at hl 1 rfl) ?_
  refine lv_iconst (v := nI 1) hx hb dX7_run_1 (by decide) ?_
  refine lv_sipush (v := nI 200) hx hb dX7_run_2 (by decide) ?_
  refine m_cSi (As := [.int cycles, .int (nI 1), .int (nI 200)]) (rest := []) ⟨hx, hb, hml, hown, hts⟩ (ct_X7_in l D a cI hJ N A P X cycles (nI 1) (nI 200)) (va_cwS 3 hts gX7_run_X7_in rfl rfl rfl (by decide +kernel) ⟨Nat.le_of_ble_eq_true rfl, Nat.le_of_ble_eq_true rfl⟩) hK hP hS rfl hl.1 rfl (Nat.le_of_ble_eq_true rfl) dX7_run_5 ⟨Nat.zero_le _, Nat.zero_le _⟩ (fun H locs hP hS => ?_)
  refine lv_if_ne (tgt := 14) hx hb dX7_run_8 (by decide) (fun c8_6 => ?_) (fun c8_6 => ?_)
  · have bc := m_within1 (n := 200) (by decide) c8_6
    have bc1 := bc.1.1
    refine lv_aload_n hx hb dX7_run_14 rfl (lv_at hl 0 rfl) ?_
    refine m_cVv (As := []) (rest := []) ⟨hx, hb, hml, hown, hts⟩ (ct_X7_records l D a cI hJ N A P X hX) (cwV 0 hts gX7_run_X7_records rfl rfl rfl (by decide +kernel) ⟨Nat.le_of_ble_eq_true rfl, Nat.le_of_ble_eq_true rfl⟩) hK hP hS (va_recv (ci := 7) hK hP rfl mG_O) rfl hl.1 rfl (Nat.le_of_ble_eq_true rfl) dX7_run_15 ⟨Nat.zero_le _, Nat.zero_le _⟩ (fun H locs hP hS => ?_)
    refine lv_iconst (v := nI 0) hx hb dX7_run_18 (by decide) ?_
    refine lv_istore_n (lv' := [(2, .int (nI 0)), (0, .ref (a 0)), (1, .int cycles)]) hx hb dX7_run_19 rfl hl (by decide) rfl (fun ls hl => ?_)
    refine m_toi (r2 := g_X7_run_lp cycles (zc cycles) 0 N A (hP_X7_records N P X) (hX_X7_records N P X)) (Z2 := (hN_X7_run_lp cycles (zc cycles) 0 N A (hP_X7_records N P X) (hX_X7_records N P X), hA_X7_run_lp cycles (zc cycles) 0 N A (hP_X7_records N P X) (hX_X7_records N P X), hP_X7_run_lp cycles (zc cycles) 0 N A (hP_X7_records N P X) (hX_X7_records N P X), hX_X7_run_lp cycles (zc cycles) 0 N A (hP_X7_records N P X) (hX_X7_records N P X))) (by simp only [g_X7_run, if_neg c8_6]) (m_eq (by simp only [hN_X7_run, if_neg c8_6]) (by simp only [hA_X7_run, if_neg c8_6]) (by simp only [hP_X7_run, if_neg c8_6]) (by simp only [hX_X7_run, if_neg c8_6])) ?_
    exact lp20 (zc cycles) 0 N A (hP_X7_records N P X) (hX_X7_records N P X) _ _ _ (by omega) hI bc.1 (lv_sub hl [1, 2, 0] rfl) hP hS
  · refine lv_ldc (v := (-100002)) hx hb hown (hts (.constant RX7 109 (-100002)) (by decide +kernel)) dX7_run_11 ?_
    exact m_reti hx hb hr hlk rfl hP hS dX7_run_13 (by simp only [g_X7_run, if_pos c8_6]) (m_eq (by simp only [hN_X7_run, if_pos c8_6]) (by simp only [hA_X7_run, if_pos c8_6]) (by simp only [hP_X7_run, if_pos c8_6]) (by simp only [hX_X7_run, if_pos c8_6]))
