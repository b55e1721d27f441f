def g_X7_in (v low high : Int32) : Int32 := if v < low then nI 0 else if high < v then nI 0 else nI 1
set_option maxHeartbeats 4000000 in
set_option maxRecDepth 100000 in
theorem ct_X7_in (l : Launch) (D : va_G) (a : Nat → Nat) (cI : ClassId) (hJ : mJ a) (N A P X : zM) (v low high : Int32) : mCi l yX7_in wsX7_in ({ frames := 0, cells := 0, slots := 0, locals := 0 } : Room) D a cI [.int v, .int low, .int high] (N, A, P, X) (g_X7_in v low high) (N, A, P, X) := by
  refine m_ofi (cc := cX7_in) (maxL := 3) (own := RX7) (by decide) rfl (Nat.le_of_ble_eq_true rfl) rfl (fun p e s m below meth c ls hx hb hr hml hts hown hlk hl hK hP hS => ?_)
  have hl : lv_has ls 3 [(0, .int v), (1, .int low), (2, .int high)] := hl
  refine lv_iload_n hx hb dX7_in_0 rfl (lv_at hl 0 rfl) ?_
  refine lv_iload_n hx hb dX7_in_1 rfl (lv_at hl 1 rfl) ?_
  refine lv_icmp_lt (tgt := 14) hx hb dX7_in_2 (by decide) (fun c2_1 => ?_) (fun c2_1 => ?_)
  · refine lv_iconst (v := nI 0) hx hb dX7_in_14 (by decide) ?_
    exact m_reti hx hb hr hlk (by first | rfl | decide) hP hS dX7_in_15 (by simp only [g_X7_in, if_pos c2_1]) rfl
  · refine lv_iload_n hx hb dX7_in_5 rfl (lv_at hl 0 rfl) ?_
    refine lv_iload_n hx hb dX7_in_6 rfl (lv_at hl 2 rfl) ?_
    refine lv_icmp_gt (tgt := 14) hx hb dX7_in_7 (by decide) (fun c7_2 => ?_) (fun c7_2 => ?_)
    · refine lv_iconst (v := nI 0) hx hb dX7_in_14 (by decide) ?_
      exact m_reti hx hb hr hlk (by first | rfl | decide) hP hS dX7_in_15 (by simp only [g_X7_in, if_neg c2_1, if_pos c7_2]) rfl
    · refine lv_iconst (v := nI 1) hx hb dX7_in_10 (by decide) ?_
      refine lv_goto (tgt := 15) hx hb dX7_in_11 (by decide) ?_
      exact m_reti hx hb hr hlk (by first | rfl | decide) hP hS dX7_in_15 (by simp only [g_X7_in, if_neg c2_1, if_neg c7_2]) rfl

theorem mb_in (x y z : Int32) : g_X7_in x y z = nI 0 ∨ g_X7_in x y z = nI 1 := by
  unfold g_X7_in
  by_cases c1 : x < y
  · exact Or.inl (by simp only [if_pos c1])
  · by_cases c2 : z < x
    · exact Or.inl (by simp only [if_neg c1, if_pos c2])
    · exact Or.inr (by simp only [if_neg c1, if_neg c2])
theorem m_within {x : Int32} {n : Nat} (hn : n < 2 ^ 31) (h : ¬ g_X7_in x (nI 0) (nI n) = 0) : zIn x (n + 1) := by
  unfold g_X7_in at h
  by_cases c1 : x < nI 0
  · simp only [if_pos c1] at h
    exact absurd rfl h
  · by_cases c2 : nI n < x
    · simp only [if_neg c1, if_pos c2] at h
      exact absurd rfl h
    · obtain ⟨j, h1, rfl⟩ := nI_of (x := x) c1
      have c3 : ¬ n < j := fun q => c2 (nI_lt q h1)
      exact zIn_nI (by omega) (by omega)

def g_X7_at (thread what : Int32) : Int32 := ((nI 14) * thread) + what
set_option maxHeartbeats 4000000 in
set_option maxRecDepth 100000 in
theorem ct_X7_at (l : Launch) (D : va_G) (a : Nat → Nat) (cI : ClassId) (hJ : mJ a) (N A P X : zM) (thread what : Int32) : mCi l yX7_at wsX7_at ({ frames := 0, cells := 0, slots := 0, locals := 0 } : Room) D a cI [.int thread, .int what] (N, A, P, X) (g_X7_at thread what) (N, A, P, X) := by
  refine m_ofi (cc := cX7_at) (maxL := 2) (own := RX7) (by decide) rfl (Nat.le_of_ble_eq_true rfl) rfl (fun p e s m below meth c ls hx hb hr hml hts hown hlk hl hK hP hS => ?_)
  have hl : lv_has ls 2 [(0, .int thread), (1, .int what)] := hl
  refine lv_bipush (v := nI 14) hx hb dX7_at_0 (by decide) ?_
  refine lv_iload_n hx hb dX7_at_2 rfl (lv_at hl 0 rfl) ?_
  refine lv_imul hx hb dX7_at_3 ?_
  refine lv_iload_n hx hb dX7_at_4 rfl (lv_at hl 1 rfl) ?_
  refine lv_iadd hx hb dX7_at_5 ?_
  exact m_reti hx hb hr hlk rfl hP hS dX7_at_6 (by first | rfl | simp only [g_X7_at]) rfl

theorem z_at (t w : Nat) : g_X7_at (nI t) (nI w) = nI (14 * t + w) := by
  unfold g_X7_at
  rw [pk_mul, nI_add]

def g_X7_isThread (thread : Int32) : Int32 := (g_X7_in thread (nI 0) (nI 3))
set_option maxHeartbeats 4000000 in
set_option maxRecDepth 100000 in
theorem ct_X7_isThread (l : Launch) (D : va_G) (a : Nat → Nat) (cI : ClassId) (hJ : mJ a) (N A P X : zM) (thread : Int32) : mCi l yX7_isThread wsX7_isThread ({ frames := 1, cells := 0, slots := 0, locals := 22 } : Room) D a cI [.int thread] (N, A, P, X) (g_X7_isThread thread) (N, A, P, X) := by
  refine m_ofi (cc := cX7_isThread) (maxL := 1) (own := RX7) (by decide) rfl (Nat.le_of_ble_eq_true rfl) rfl (fun p e s m below meth c ls hx hb hr hml hts hown hlk hl hK hP hS => ?_)
  have hl : lv_has ls 1 [(0, .int thread)] := hl
  refine lv_iload_n hx hb dX7_isThread_0 rfl (lv_at hl 0 rfl) ?_
  refine lv_iconst (v := nI 0) hx hb dX7_isThread_1 (by decide) ?_
  refine lv_iconst (v := nI 3) hx hb dX7_isThread_2 (by decide) ?_
  refine m_cSi (As := [.int thread, .int (nI 0), .int (nI 3)]) (rest := []) ⟨hx, hb, hml, hown, hts⟩ (ct_X7_in l D a cI hJ N A P X thread (nI 0) (nI 3)) (va_cwS 3 hts gX7_isThread_X7_in rfl rfl rfl (by decide +kernel) ⟨Nat.le_of_ble_eq_true rfl, Nat.le_of_ble_eq_true rfl⟩) hK hP hS rfl hl.1 rfl (Nat.le_of_ble_eq_true rfl) dX7_isThread_3 ⟨Nat.zero_le _, Nat.zero_le _⟩ (fun H locs hP hS => ?_)
  exact m_reti hx hb hr hlk (m_nb (mb_in _ _ _)) hP hS dX7_isThread_6 (by first | rfl | simp only [g_X7_isThread]) rfl

def g_X7_isPlace (place : Int32) : Int32 := (g_X7_in place (nI 0) (nI 47))
set_option maxHeartbeats 4000000 in
set_option maxRecDepth 100000 in
theorem ct_X7_isPlace (l : Launch) (D : va_G) (a : Nat → Nat) (cI : ClassId) (hJ : mJ a) (N A P X : zM) (place : Int32) : mCi l yX7_isPlace wsX7_isPlace ({ frames := 1, cells := 0, slots := 0, locals := 22 } : Room) D a cI [.int place] (N, A, P, X) (g_X7_isPlace place) (N, A, P, X) := by
  refine m_ofi (cc := cX7_isPlace) (maxL := 1) (own := RX7) (by decide) rfl (Nat.le_of_ble_eq_true rfl) rfl (fun p e s m below meth c ls hx hb hr hml hts hown hlk hl hK hP hS => ?_)
  have hl : lv_has ls 1 [(0, .int place)] := hl
  refine lv_iload_n hx hb dX7_isPlace_0 rfl (lv_at hl 0 rfl) ?_
  refine lv_iconst (v := nI 0) hx hb dX7_isPlace_1 (by decide) ?_
  refine lv_bipush (v := nI 47) hx hb dX7_isPlace_2 (by decide) ?_
  refine m_cSi (As := [.int place, .int (nI 0), .int (nI 47)]) (rest := []) ⟨hx, hb, hml, hown, hts⟩ (ct_X7_in l D a cI hJ N A P X place (nI 0) (nI 47)) (va_cwS 3 hts gX7_isPlace_X7_in rfl rfl rfl (by decide +kernel) ⟨Nat.le_of_ble_eq_true rfl, Nat.le_of_ble_eq_true rfl⟩) hK hP hS rfl hl.1 rfl (Nat.le_of_ble_eq_true rfl) dX7_isPlace_4 ⟨Nat.zero_le _, Nat.zero_le _⟩ (fun H locs hP hS => ?_)
  exact m_reti hx hb hr hlk (m_nb (mb_in _ _ _)) hP hS dX7_isPlace_7 (by first | rfl | simp only [g_X7_isPlace]) rfl

def g_X7_isShort (value : Int32) : Int32 := (g_X7_in value (-32768) (nI 32767))
set_option maxHeartbeats 4000000 in
set_option maxRecDepth 100000 in
theorem ct_X7_isShort (l : Launch) (D : va_G) (a : Nat → Nat) (cI : ClassId) (hJ : mJ a) (N A P X : zM) (value : Int32) : mCi l yX7_isShort wsX7_isShort ({ frames := 1, cells := 0, slots := 0, locals := 22 } : Room) D a cI [.int value] (N, A, P, X) (g_X7_isShort value) (N, A, P, X) := by
  refine m_ofi (cc := cX7_isShort) (maxL := 1) (own := RX7) (by decide) rfl (Nat.le_of_ble_eq_true rfl) rfl (fun p e s m below meth c ls hx hb hr hml hts hown hlk hl hK hP hS => ?_)
  have hl : lv_has ls 1 [(0, .int value)] := hl
  refine lv_iload_n hx hb dX7_isShort_0 rfl (lv_at hl 0 rfl) ?_
  refine lv_sipush (v := (-32768)) hx hb dX7_isShort_1 (by decide) ?_
  refine lv_sipush (v := nI 32767) hx hb dX7_isShort_4 (by decide) ?_
  refine m_cSi (As := [.int value, .int (-32768), .int (nI 32767)]) (rest := []) ⟨hx, hb, hml, hown, hts⟩ (ct_X7_in l D a cI hJ N A P X value (-32768) (nI 32767)) (va_cwS 3 hts gX7_isShort_X7_in rfl rfl rfl (by decide +kernel) ⟨Nat.le_of_ble_eq_true rfl, Nat.le_of_ble_eq_true rfl⟩) hK hP hS rfl hl.1 rfl (Nat.le_of_ble_eq_true rfl) dX7_isShort_7 ⟨Nat.zero_le _, Nat.zero_le _⟩ (fun H locs hP hS => ?_)
  exact m_reti hx hb hr hlk (m_nb (mb_in _ _ _)) hP hS dX7_isShort_10 (by first | rfl | simp only [g_X7_isShort]) rfl

theorem m_isThread {x : Int32} (h : ¬ g_X7_isThread x = 0) : zIn x 4 := m_within (n := 3) (by decide) h
theorem m_isPlace {x : Int32} (h : ¬ g_X7_isPlace x = 0) : zIn x 48 := m_within (n := 47) (by decide) h

def g_X7_register0 (t : Nat) (r : Nat) (N : zM) : Int32 := N (t + 20) r
set_option maxHeartbeats 4000000 in
set_option maxRecDepth 100000 in
theorem ct_X7_register0 (l : Launch) (D : va_G) (a : Nat → Nat) (cI : ClassId) (hJ : mJ a) (N A P X : zM) (t : Nat) (r : Nat) (ht : t < 4) (hr : r < 4) : mCi l yX7_register0 wsX7_register0 ({ frames := 1, cells := 0, slots := 0, locals := 21 } : Room) D a cI [.ref (a 0), .int (nI t), .int (nI r)] (N, A, P, X) (g_X7_register0 t r N) (N, A, P, X) := by
  have hiX7 : ∀ w ∈ wsX70, w ∈ wsX7_register0 := by decide +kernel
  refine m_ofi (cc := cX7_register0) (maxL := 3) (own := RX7) (by decide) rfl (Nat.le_of_ble_eq_true rfl) rfl (fun p e s m below meth c ls hx hb hr hml hts hown hlk hl hK hP hS => ?_)
  have hl : lv_has ls 3 [(0, .ref (a 0)), (1, .int (nI t)), (2, .int (nI r))] := hl
  refine lv_aload_n hx hb dX7_register0_0 rfl (lv_at hl 0 rfl) ?_
  refine mgO0 hx hb hts hiX7 hown hK hP (hts (.fieldLink RX7 7 "BarrelProcessorModel" "s" "[I") (by decide +kernel)) dX7_register0_1 ?_
  refine lv_iload_n hx hb dX7_register0_4 rfl (lv_at hl 1 rfl) ?_
  refine lv_iconst (v := nI 2) hx hb dX7_register0_5 (by decide) ?_
  refine lv_iload_n hx hb dX7_register0_6 rfl (lv_at hl 2 rfl) ?_
  refine lv_iadd hx hb dX7_register0_7 ?_
  refine z_val (z := nI (2 + r)) (nI_add _ _) ?_
  refine m_cSi (As := [.int (nI t), .int (nI (2 + r))]) (rest := [.ref (a 1)]) ⟨hx, hb, hml, hown, hts⟩ (ct_X7_at l D a cI hJ N A P X (nI t) (nI (2 + r))) (va_cwS 2 hts gX7_register0_X7_at rfl rfl rfl (by decide +kernel) ⟨Nat.le_of_ble_eq_true rfl, Nat.le_of_ble_eq_true rfl⟩) hK hP hS rfl hl.1 rfl (Nat.le_of_ble_eq_true rfl) dX7_register0_8 ⟨Nat.zero_le _, Nat.zero_le _⟩ (fun H locs hP hS => ?_)
  refine z_val (z := nI (14 * t + (2 + r))) (z_at _ _) ?_
  refine m_iald hx hb hK hP mG_s (j := 14 * t + (2 + r)) (by omega) (by decide) dX7_register0_11 ?_
  refine z_val (z := N (t + 20) r) (zen_of (zf_rg (by omega) (by omega))) ?_
  exact m_reti hx hb hr hlk rfl hP hS dX7_register0_12 (by first | rfl | simp only [g_X7_register0]) rfl

def hN_X7_puts (t : Nat) (r : Nat) (value : Int32) (N : zM) : zM := zu N (t + 20) r value.toInt16.toInt32
set_option maxHeartbeats 4000000 in
set_option maxRecDepth 100000 in
theorem ct_X7_puts (l : Launch) (D : va_G) (a : Nat → Nat) (cI : ClassId) (hJ : mJ a) (N A P X : zM) (t : Nat) (r : Nat) (value : Int32) (ht : t < 4) (hr : r < 4) : mCv l yX7_puts wsX7_puts ({ frames := 1, cells := 0, slots := 0, locals := 21 } : Room) D a cI [.ref (a 0), .int (nI t), .int (nI r), .int value] (N, A, P, X) (hN_X7_puts t r value N, A, P, X) := by
  have hiX7 : ∀ w ∈ wsX70, w ∈ wsX7_puts := by decide +kernel
  refine m_ofv (cc := cX7_puts) (maxL := 4) (own := RX7) (by decide) rfl (Nat.le_of_ble_eq_true rfl) rfl (fun p e s m below meth c ls hx hb hr hml hts hown hlk hl hK hP hS => ?_)
  have hl : lv_has ls 4 [(0, .ref (a 0)), (1, .int (nI t)), (2, .int (nI r)), (3, .int value)] := hl
  refine lv_aload_n hx hb dX7_puts_0 rfl (lv_at hl 0 rfl) ?_
  refine mgO0 hx hb hts hiX7 hown hK hP (hts (.fieldLink RX7 7 "BarrelProcessorModel" "s" "[I") (by decide +kernel)) dX7_puts_1 ?_
  refine lv_iload_n hx hb dX7_puts_4 rfl (lv_at hl 1 rfl) ?_
  refine lv_iconst (v := nI 2) hx hb dX7_puts_5 (by decide) ?_
  refine lv_iload_n hx hb dX7_puts_6 rfl (lv_at hl 2 rfl) ?_
  refine lv_iadd hx hb dX7_puts_7 ?_
  refine z_val (z := nI (2 + r)) (nI_add _ _) ?_
  refine m_cSi (As := [.int (nI t), .int (nI (2 + r))]) (rest := [.ref (a 1)]) ⟨hx, hb, hml, hown, hts⟩ (ct_X7_at l D a cI hJ N A P X (nI t) (nI (2 + r))) (va_cwS 2 hts gX7_puts_X7_at rfl rfl rfl (by decide +kernel) ⟨Nat.le_of_ble_eq_true rfl, Nat.le_of_ble_eq_true rfl⟩) hK hP hS rfl hl.1 rfl (Nat.le_of_ble_eq_true rfl) dX7_puts_8 ⟨Nat.zero_le _, Nat.zero_le _⟩ (fun H locs hP hS => ?_)
  refine z_val (z := nI (14 * t + (2 + r))) (z_at _ _) ?_
  refine lv_iload_n hx hb dX7_puts_11 rfl (lv_at hl 3 rfl) ?_
  refine lv_i2s (v := value.toInt16.toInt32) hx hb dX7_puts_12 rfl ?_
  refine m_iast (Z' := (zu N (t + 20) r value.toInt16.toInt32, A, P, X)) hx hb hK hP hJ hS mG_s (j := 14 * t + (2 + r)) (by omega) (by decide) dX7_puts_13 (mS_s (zf_rg (by omega) (by omega))) (fun H locs hP hS => ?_)
  exact m_retv hx hb hr hlk hP hS dX7_puts_14 (m_eq (by first | rfl | simp only [hN_X7_puts]) rfl rfl rfl)

def hN_X7_jumps (t : Nat) (place : Int32) (is : Int32) (N : zM) : zM := if is = 0 then zu N 1 t (N 1 t) else zu N 1 t place
set_option maxHeartbeats 4000000 in
set_option maxRecDepth 100000 in
theorem ct_X7_jumps (l : Launch) (D : va_G) (a : Nat → Nat) (cI : ClassId) (hJ : mJ a) (N A P X : zM) (t : Nat) (place : Int32) (is : Int32) (ht : t < 4) : mCv l yX7_jumps wsX7_jumps ({ frames := 1, cells := 0, slots := 0, locals := 21 } : Room) D a cI [.ref (a 0), .int (nI t), .int place, .int is] (N, A, P, X) (hN_X7_jumps t place is N, A, P, X) := by
  have hiX7 : ∀ w ∈ wsX70, w ∈ wsX7_jumps := by decide +kernel
  refine m_ofv (cc := cX7_jumps) (maxL := 4) (own := RX7) (by decide) rfl (Nat.le_of_ble_eq_true rfl) rfl (fun p e s m below meth c ls hx hb hr hml hts hown hlk hl hK hP hS => ?_)
  have hl : lv_has ls 4 [(0, .ref (a 0)), (1, .int (nI t)), (2, .int place), (3, .int is)] := hl
  refine lv_aload_n hx hb dX7_jumps_0 rfl (lv_at hl 0 rfl) ?_
  refine mgO0 hx hb hts hiX7 hown hK hP (hts (.fieldLink RX7 7 "BarrelProcessorModel" "s" "[I") (by decide +kernel)) dX7_jumps_1 ?_
  refine lv_iload_n hx hb dX7_jumps_4 rfl (lv_at hl 1 rfl) ?_
  refine lv_iconst (v := nI 1) hx hb dX7_jumps_5 (by decide) ?_
  refine m_cSi (As := [.int (nI t), .int (nI 1)]) (rest := [.ref (a 1)]) ⟨hx, hb, hml, hown, hts⟩ (ct_X7_at l D a cI hJ N A P X (nI t) (nI 1)) (va_cwS 2 hts gX7_jumps_X7_at rfl rfl rfl (by decide +kernel) ⟨Nat.le_of_ble_eq_true rfl, Nat.le_of_ble_eq_true rfl⟩) hK hP hS rfl hl.1 rfl (Nat.le_of_ble_eq_true rfl) dX7_jumps_6 ⟨Nat.zero_le _, Nat.zero_le _⟩ (fun H locs hP hS => ?_)
  refine z_val (z := nI (14 * t + 1)) (z_at _ _) ?_
  refine lv_iload_n hx hb dX7_jumps_9 rfl (lv_at hl 3 rfl) ?_
  refine lv_if_eq (tgt := 17) hx hb dX7_jumps_10 (by decide) (fun c10_1 => ?_) (fun c10_1 => ?_)
  · refine lv_aload_n hx hb dX7_jumps_17 rfl (lv_at hl 0 rfl) ?_
    refine mgO0 hx hb hts hiX7 hown hK hP (hts (.fieldLink RX7 7 "BarrelProcessorModel" "s" "[I") (by decide +kernel)) dX7_jumps_18 ?_
    refine lv_iload_n hx hb dX7_jumps_21 rfl (lv_at hl 1 rfl) ?_
    refine lv_iconst (v := nI 1) hx hb dX7_jumps_22 (by decide) ?_
    refine m_cSi (As := [.int (nI t), .int (nI 1)]) (rest := [.ref (a 1), .int (nI (14 * t + 1)), .ref (a 1)]) ⟨hx, hb, hml, hown, hts⟩ (ct_X7_at l D a cI hJ N A P X (nI t) (nI 1)) (va_cwS 2 hts gX7_jumps_X7_at rfl rfl rfl (by decide +kernel) ⟨Nat.le_of_ble_eq_true rfl, Nat.le_of_ble_eq_true rfl⟩) hK hP hS rfl hl.1 rfl (Nat.le_of_ble_eq_true rfl) dX7_jumps_23 ⟨Nat.zero_le _, Nat.zero_le _⟩ (fun H locs hP hS => ?_)
    refine z_val (z := nI (14 * t + 1)) (z_at _ _) ?_
    refine m_iald hx hb hK hP mG_s (j := 14 * t + 1) (by omega) (by decide) dX7_jumps_26 ?_
    refine z_val (z := N 1 t) (zen_of (zf_t1 (by omega))) ?_
    refine m_iast (Z' := (zu N 1 t (N 1 t), A, P, X)) hx hb hK hP hJ hS mG_s (j := 14 * t + 1) (by omega) (by decide) dX7_jumps_27 (mS_s (zf_t1 (by omega))) (fun H locs hP hS => ?_)
    exact m_retv hx hb hr hlk hP hS dX7_jumps_28 (m_eq (by simp only [hN_X7_jumps, if_pos c10_1]) rfl rfl rfl)
  · refine lv_iload_n hx hb dX7_jumps_13 rfl (lv_at hl 2 rfl) ?_
    refine lv_goto (tgt := 27) hx hb dX7_jumps_14 (by decide) ?_
    refine m_iast (Z' := (zu N 1 t place, A, P, X)) hx hb hK hP hJ hS mG_s (j := 14 * t + 1) (by omega) (by decide) dX7_jumps_27 (mS_s (zf_t1 (by omega))) (fun H locs hP hS => ?_)
    exact m_retv hx hb hr hlk hP hS dX7_jumps_28 (m_eq (by simp only [hN_X7_jumps, if_neg c10_1]) rfl rfl rfl)

def g_X7_isReady (t : Nat) (N : zM) : Int32 := if (N 0 t) = (nI 1) then nI 1 else nI 0
set_option maxHeartbeats 4000000 in
set_option maxRecDepth 100000 in
theorem ct_X7_isReady (l : Launch) (D : va_G) (a : Nat → Nat) (cI : ClassId) (hJ : mJ a) (N A P X : zM) (t : Nat) (ht : t < 4) : mCi l yX7_isReady wsX7_isReady ({ frames := 1, cells := 0, slots := 0, locals := 21 } : Room) D a cI [.ref (a 0), .int (nI t)] (N, A, P, X) (g_X7_isReady t N) (N, A, P, X) := by
  have hiX7 : ∀ w ∈ wsX70, w ∈ wsX7_isReady := by decide +kernel
  refine m_ofi (cc := cX7_isReady) (maxL := 2) (own := RX7) (by decide) rfl (Nat.le_of_ble_eq_true rfl) rfl (fun p e s m below meth c ls hx hb hr hml hts hown hlk hl hK hP hS => ?_)
  have hl : lv_has ls 2 [(0, .ref (a 0)), (1, .int (nI t))] := hl
  refine lv_aload_n hx hb dX7_isReady_0 rfl (lv_at hl 0 rfl) ?_
  refine mgO0 hx hb hts hiX7 hown hK hP (hts (.fieldLink RX7 7 "BarrelProcessorModel" "s" "[I") (by decide +kernel)) dX7_isReady_1 ?_
  refine lv_iload_n hx hb dX7_isReady_4 rfl (lv_at hl 1 rfl) ?_
  refine lv_iconst (v := nI 0) hx hb dX7_isReady_5 (by decide) ?_
  refine m_cSi (As := [.int (nI t), .int (nI 0)]) (rest := [.ref (a 1)]) ⟨hx, hb, hml, hown, hts⟩ (ct_X7_at l D a cI hJ N A P X (nI t) (nI 0)) (va_cwS 2 hts gX7_isReady_X7_at rfl rfl rfl (by decide +kernel) ⟨Nat.le_of_ble_eq_true rfl, Nat.le_of_ble_eq_true rfl⟩) hK hP hS rfl hl.1 rfl (Nat.le_of_ble_eq_true rfl) dX7_isReady_6 ⟨Nat.zero_le _, Nat.zero_le _⟩ (fun H locs hP hS => ?_)
  refine z_val (z := nI (14 * t + 0)) (z_at _ _) ?_
  refine m_iald hx hb hK hP mG_s (j := 14 * t + 0) (by omega) (by decide) dX7_isReady_9 ?_
  refine z_val (z := N 0 t) (zen_of (zf_t0 (by omega))) ?_
  refine lv_iconst (v := nI 1) hx hb dX7_isReady_10 (by decide) ?_
  refine lv_icmp_ne (tgt := 18) hx hb dX7_isReady_11 (by decide) (fun c11_1 => ?_) (fun c11_1 => ?_)
  · refine lv_iconst (v := nI 0) hx hb dX7_isReady_18 (by decide) ?_
    exact m_reti hx hb hr hlk (by first | rfl | decide) hP hS dX7_isReady_19 (by simp only [g_X7_isReady, if_neg c11_1]) rfl
  · refine lv_iconst (v := nI 1) hx hb dX7_isReady_14 (by decide) ?_
    refine lv_goto (tgt := 19) hx hb dX7_isReady_15 (by decide) ?_
    exact m_reti hx hb hr hlk (by first | rfl | decide) hP hS dX7_isReady_19 (by simp only [g_X7_isReady, if_pos c11_1]) rfl

def g_X7_many_lp (state : Int32) : Nat → Int32 → Nat → zM → Int32
  | 0, cnt, i, N => cnt
  | n + 1, cnt, i, N => if (N 0 i) = state then g_X7_many_lp state n (cnt + (nI 1)) (i + 1) N else g_X7_many_lp state n (cnt + (nI 0)) (i + 1) N
def g_X7_many (state : Int32) (N : zM) : Int32 := g_X7_many_lp state 4 (nI 0) 0 N
set_option maxHeartbeats 4000000 in
set_option maxRecDepth 100000 in
theorem ct_X7_many (l : Launch) (D : va_G) (a : Nat → Nat) (cI : ClassId) (hJ : mJ a) (N A P X : zM) (state : Int32) : mCi l yX7_many wsX7_many ({ frames := 1, cells := 0, slots := 0, locals := 21 } : Room) D a cI [.ref (a 0), .int state] (N, A, P, X) (g_X7_many state N) (N, A, P, X) := by
  have hiX7 : ∀ w ∈ wsX70, w ∈ wsX7_many := by decide +kernel
  refine m_ofi (cc := cX7_many) (maxL := 4) (own := RX7) (by decide) rfl (Nat.le_of_ble_eq_true rfl) rfl (fun p e s m below meth c ls hx hb hr hml hts hown hlk hl hK hP hS => ?_)
  have hl : lv_has ls 4 [(0, .ref (a 0)), (1, .int state)] := hl
  have lp4 : ∀ (n : Nat) (cnt : Int32) (i : Nat)  (H : Heap) (locs : List Loc) (ls : Array Slot) (hn : i + n = 4) (hl : lv_has ls 4 [(0, .ref (a 0)), (1, .int state), (2, .int cnt), (3, .int (nI i))]) (hP : va_P D vwCl (mW a cI (N, A, P, X)) H) (hS : va_S (mA a) s.heap H locs), W p l e ({ frames := 1, cells := 0, slots := 0, locals := 21 } : Room) s m ([.ref (a 0), .int state] : List Value).toArray below meth c H locs 0 0 (mQi below D a cI [.ref (a 0), .int state] s (g_X7_many_lp state n cnt i N) (N, A, P, X)) (F0 m 4 ls []) := by
    intro n
    induction n with
    | zero =>
      intro cnt i H locs ls hn hl hP hS
      refine lv_iload_n hx hb dX7_many_4 rfl (lv_at hl 3 rfl) ?_
      refine lv_iconst (v := nI 4) hx hb dX7_many_5 (by decide) ?_
      refine lv_icmp_ge (tgt := 37) hx hb dX7_many_6 (by decide) (fun c6_1 => ?_) (fun c6_1 => absurd (nI_le (by omega) (by omega)) c6_1)
      refine lv_iload_n hx hb dX7_many_37 rfl (lv_at hl 2 rfl) ?_
      exact m_reti hx hb hr hlk rfl hP hS dX7_many_38 (by first | rfl | simp only [g_X7_many_lp]) rfl
    | succ n ih =>
      intro cnt i H locs ls hn hl hP hS
      refine lv_iload_n hx hb dX7_many_4 rfl (lv_at hl 3 rfl) ?_
      refine lv_iconst (v := nI 4) hx hb dX7_many_5 (by decide) ?_
      refine lv_icmp_ge (tgt := 37) hx hb dX7_many_6 (by decide) (fun c6_2 => absurd c6_2 (nI_ge (by omega) (by decide))) (fun c6_2 => ?_)
      refine lv_iload_n hx hb dX7_many_9 rfl (lv_at hl 2 rfl) ?_
      refine lv_aload_n hx hb dX7_many_10 rfl (lv_at hl 0 rfl) ?_
      refine mgO0 hx hb hts hiX7 hown hK hP (hts (.fieldLink RX7 7 "BarrelProcessorModel" "s" "[I") (by decide +kernel)) dX7_many_11 ?_
      refine lv_iload_n hx hb dX7_many_14 rfl (lv_at hl 3 rfl) ?_
      refine lv_iconst (v := nI 0) hx hb dX7_many_15 (by decide) ?_
      refine m_cSi (As := [.int (nI i), .int (nI 0)]) (rest := [.ref (a 1), .int cnt]) ⟨hx, hb, hml, hown, hts⟩ (ct_X7_at l D a cI hJ N A P X (nI i) (nI 0)) (va_cwS 2 hts gX7_many_X7_at rfl rfl rfl (by decide +kernel) ⟨Nat.le_of_ble_eq_true rfl, Nat.le_of_ble_eq_true rfl⟩) hK hP hS rfl hl.1 rfl (Nat.le_of_ble_eq_true rfl) dX7_many_16 ⟨Nat.zero_le _, Nat.zero_le _⟩ (fun H locs hP hS => ?_)
      refine z_val (z := nI (14 * i + 0)) (z_at _ _) ?_
      refine m_iald hx hb hK hP mG_s (j := 14 * i + 0) (by omega) (by decide) dX7_many_19 ?_
      refine z_val (z := N 0 i) (zen_of (zf_t0 (by omega))) ?_
      refine lv_iload_n hx hb dX7_many_20 rfl (lv_at hl 1 rfl) ?_
      refine lv_icmp_ne (tgt := 28) hx hb dX7_many_21 (by decide) (fun c21_3 => ?_) (fun c21_3 => ?_)
      · refine lv_iconst (v := nI 0) hx hb dX7_many_28 (by decide) ?_
        refine lv_iadd hx hb dX7_many_29 ?_
        refine lv_istore_n (lv' := [(2, .int (cnt + (nI 0))), (0, .ref (a 0)), (1, .int state), (3, .int (nI i))]) hx hb dX7_many_30 rfl hl (by decide) rfl (fun ls hl => ?_)
        refine lv_iinc (v := nI (i + 1)) (lv' := [(3, .int (nI (i + 1))), (2, .int (cnt + (nI 0))), (0, .ref (a 0)), (1, .int state)]) hx hb dX7_many_31 hl (k := 3) rfl (nI_add _ _) (by decide) rfl (fun ls hl => ?_)
        refine lv_goto (tgt := 4) hx hb dX7_many_34 (by decide) ?_
        refine m_toi (r2 := g_X7_many_lp state n (cnt + (nI 0)) (i + 1) N) (Z2 := _) (by simp only [g_X7_many_lp, if_neg c21_3]) rfl ?_
        exact ih (cnt + (nI 0)) (i + 1) _ _ _ (by omega) (lv_sub hl [2, 3, 1, 0] rfl) hP hS
      · refine lv_iconst (v := nI 1) hx hb dX7_many_24 (by decide) ?_
        refine lv_goto (tgt := 29) hx hb dX7_many_25 (by decide) ?_
        refine lv_iadd hx hb dX7_many_29 ?_
        refine lv_istore_n (lv' := [(2, .int (cnt + (nI 1))), (0, .ref (a 0)), (1, .int state), (3, .int (nI i))]) hx hb dX7_many_30 rfl hl (by decide) rfl (fun ls hl => ?_)
        refine lv_iinc (v := nI (i + 1)) (lv' := [(3, .int (nI (i + 1))), (2, .int (cnt + (nI 1))), (0, .ref (a 0)), (1, .int state)]) hx hb dX7_many_31 hl (k := 3) rfl (nI_add _ _) (by decide) rfl (fun ls hl => ?_)
        refine lv_goto (tgt := 4) hx hb dX7_many_34 (by decide) ?_
        refine m_toi (r2 := g_X7_many_lp state n (cnt + (nI 1)) (i + 1) N) (Z2 := _) (by simp only [g_X7_many_lp, if_pos c21_3]) rfl ?_
        exact ih (cnt + (nI 1)) (i + 1) _ _ _ (by omega) (lv_sub hl [2, 3, 1, 0] rfl) hP hS
  refine lv_iconst (v := nI 0) hx hb dX7_many_0 (by decide) ?_
  refine lv_istore_n (lv' := [(2, .int (nI 0)), (0, .ref (a 0)), (1, .int state)]) hx hb dX7_many_1 rfl hl (by decide) rfl (fun ls hl => ?_)
  refine lv_iconst (v := nI 0) hx hb dX7_many_2 (by decide) ?_
  refine lv_istore_n (lv' := [(3, .int (nI 0)), (2, .int (nI 0)), (0, .ref (a 0)), (1, .int state)]) hx hb dX7_many_3 rfl hl (by decide) rfl (fun ls hl => ?_)
  refine m_toi (r2 := g_X7_many_lp state 4 (nI 0) 0 N) (Z2 := _) (by first | rfl | simp only [g_X7_many]) rfl ?_
  exact lp4 4 (nI 0) 0 _ _ _ (by omega) (lv_sub hl [2, 3, 1, 0] rfl) hP hS

def g_X7_isOver  (N : zM) : Int32 := if (g_X7_many (nI 0) N) = (nI 4) then nI 1 else nI 0
set_option maxHeartbeats 4000000 in
set_option maxRecDepth 100000 in
theorem ct_X7_isOver (l : Launch) (D : va_G) (a : Nat → Nat) (cI : ClassId) (hJ : mJ a) (N A P X : zM)  : mCi l yX7_isOver wsX7_isOver ({ frames := 2, cells := 0, slots := 0, locals := 44 } : Room) D a cI [.ref (a 0)] (N, A, P, X) (g_X7_isOver N) (N, A, P, X) := by
  refine m_ofi (cc := cX7_isOver) (maxL := 1) (own := RX7) (by decide) rfl (Nat.le_of_ble_eq_true rfl) rfl (fun p e s m below meth c ls hx hb hr hml hts hown hlk hl hK hP hS => ?_)
  have hl : lv_has ls 1 [(0, .ref (a 0))] := hl
  refine lv_aload_n hx hb dX7_isOver_0 rfl (lv_at hl 0 rfl) ?_
  refine lv_iconst (v := nI 0) hx hb dX7_isOver_1 (by decide) ?_
  refine m_cVi (As := [.int (nI 0)]) (rest := []) ⟨hx, hb, hml, hown, hts⟩ (ct_X7_many l D a cI hJ N A P X (nI 0)) (cwV 1 hts gX7_isOver_X7_many rfl rfl rfl (by decide +kernel) ⟨Nat.le_of_ble_eq_true rfl, Nat.le_of_ble_eq_true rfl⟩) hK hP hS (va_recv (ci := 7) hK hP rfl mG_O) rfl hl.1 rfl (Nat.le_of_ble_eq_true rfl) dX7_isOver_2 ⟨Nat.zero_le _, Nat.zero_le _⟩ (fun H locs hP hS => ?_)
  refine lv_iconst (v := nI 4) hx hb dX7_isOver_5 (by decide) ?_
  refine lv_icmp_ne (tgt := 13) hx hb dX7_isOver_6 (by decide) (fun c6_1 => ?_) (fun c6_1 => ?_)
  · refine lv_iconst (v := nI 0) hx hb dX7_isOver_13 (by decide) ?_
    exact m_reti hx hb hr hlk (by first | rfl | decide) hP hS dX7_isOver_14 (by simp only [g_X7_isOver, if_neg c6_1]) rfl
  · refine lv_iconst (v := nI 1) hx hb dX7_isOver_9 (by decide) ?_
    refine lv_goto (tgt := 14) hx hb dX7_isOver_10 (by decide) ?_
    exact m_reti hx hb hr hlk (by first | rfl | decide) hP hS dX7_isOver_14 (by simp only [g_X7_isOver, if_pos c6_1]) rfl
