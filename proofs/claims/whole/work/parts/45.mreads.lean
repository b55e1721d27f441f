def g_X7_ofThread (thread : Int32) (w : Nat) (N : zM) : Int32 := if (g_X7_isThread thread) = 0 then (-100001) else zen N (14 * (zc thread) + w)
set_option maxHeartbeats 4000000 in
set_option maxRecDepth 100000 in
theorem ct_X7_ofThread (l : Launch) (D : va_G) (a : Nat → Nat) (cI : ClassId) (hJ : mJ a) (N A P X : zM) (thread : Int32) (w : Nat) (hw : w < 14) : mCi l yX7_ofThread wsX7_ofThread ({ frames := 2, cells := 0, slots := 0, locals := 42 } : Room) D a cI [.ref (a 0), .int thread, .int (nI w)] (N, A, P, X) (g_X7_ofThread thread w N) (N, A, P, X) := by
  have hiX7 : ∀ w ∈ wsX70, w ∈ wsX7_ofThread := by decide +kernel
  refine m_ofi (cc := cX7_ofThread) (maxL := 3) (own := RX7) (by decide) rfl (Nat.le_of_ble_eq_true rfl) rfl (fun p e s m below meth c ls hx hb hr hml hts hown hlk hl hK hP hS => ?_)
  have hl : lv_has ls 3 [(0, .ref (a 0)), (1, .int thread), (2, .int (nI w))] := hl
  refine lv_iload_n hx hb dX7_ofThread_0 rfl (lv_at hl 1 rfl) ?_
  refine m_cSi (As := [.int thread]) (rest := []) ⟨hx, hb, hml, hown, hts⟩ (ct_X7_isThread l D a cI hJ N A P X thread) (va_cwS 1 hts gX7_ofThread_X7_isThread rfl rfl rfl (by decide +kernel) ⟨Nat.le_of_ble_eq_true rfl, Nat.le_of_ble_eq_true rfl⟩) hK hP hS rfl hl.1 rfl (Nat.le_of_ble_eq_true rfl) dX7_ofThread_1 ⟨Nat.zero_le _, Nat.zero_le _⟩ (fun H locs hP hS => ?_)
  refine lv_if_eq (tgt := 20) hx hb dX7_ofThread_4 (by decide) (fun c4_1 => ?_) (fun c4_1 => ?_)
  · refine lv_ldc (v := (-100001)) hx hb hown (hts (.constant RX7 75 (-100001)) (by decide +kernel)) dX7_ofThread_20 ?_
    exact m_reti hx hb hr hlk rfl hP hS dX7_ofThread_22 (by simp only [g_X7_ofThread, if_pos c4_1]) rfl
  · have bt := m_isThread c4_1
    have bt1 := bt.1
    refine lv_aload_n hx hb dX7_ofThread_7 rfl (lv_at hl 0 rfl) ?_
    refine mgO0 hx hb hts hiX7 hown hK hP (hts (.fieldLink RX7 7 "BarrelProcessorModel" "s" "[I") (by decide +kernel)) dX7_ofThread_8 ?_
    refine lv_iload_n hx hb dX7_ofThread_11 rfl (lv_at hl 1 rfl) ?_
    refine z_val (z := nI (zc thread)) bt.2 ?_
    refine lv_iload_n hx hb dX7_ofThread_12 rfl (lv_at hl 2 rfl) ?_
    refine m_cSi (As := [.int (nI (zc thread)), .int (nI w)]) (rest := [.ref (a 1)]) ⟨hx, hb, hml, hown, hts⟩ (ct_X7_at l D a cI hJ N A P X (nI (zc thread)) (nI w)) (va_cwS 2 hts gX7_ofThread_X7_at rfl rfl rfl (by decide +kernel) ⟨Nat.le_of_ble_eq_true rfl, Nat.le_of_ble_eq_true rfl⟩) hK hP hS rfl hl.1 rfl (Nat.le_of_ble_eq_true rfl) dX7_ofThread_13 ⟨Nat.zero_le _, Nat.zero_le _⟩ (fun H locs hP hS => ?_)
    refine z_val (z := nI (14 * (zc thread) + w)) (z_at _ _) ?_
    refine m_iald hx hb hK hP mG_s (j := 14 * (zc thread) + w) (by omega) (by decide) dX7_ofThread_16 ?_
    refine lv_goto (tgt := 22) hx hb dX7_ofThread_17 (by decide) ?_
    exact m_reti hx hb hr hlk rfl hP hS dX7_ofThread_22 (by simp only [g_X7_ofThread, if_neg c4_1]) rfl

def g_X7_state (thread : Int32) (N : zM) : Int32 := (g_X7_ofThread thread 0 N)
set_option maxHeartbeats 4000000 in
set_option maxRecDepth 100000 in
theorem ct_X7_state (l : Launch) (D : va_G) (a : Nat → Nat) (cI : ClassId) (hJ : mJ a) (N A P X : zM) (thread : Int32) : mCi l yX7_state wsX7_state ({ frames := 3, cells := 0, slots := 0, locals := 64 } : Room) D a cI [.ref (a 0), .int thread] (N, A, P, X) (g_X7_state thread N) (N, A, P, X) := by
  refine m_ofi (cc := cX7_state) (maxL := 2) (own := RX7) (by decide) rfl (Nat.le_of_ble_eq_true rfl) rfl (fun p e s m below meth c ls hx hb hr hml hts hown hlk hl hK hP hS => ?_)
  have hl : lv_has ls 2 [(0, .ref (a 0)), (1, .int thread)] := hl
  refine lv_aload_n hx hb dX7_state_0 rfl (lv_at hl 0 rfl) ?_
  refine lv_iload_n hx hb dX7_state_1 rfl (lv_at hl 1 rfl) ?_
  refine lv_iconst (v := nI 0) hx hb dX7_state_2 (by decide) ?_
  refine m_cVi (As := [.int thread, .int (nI 0)]) (rest := []) ⟨hx, hb, hml, hown, hts⟩ (ct_X7_ofThread l D a cI hJ N A P X thread 0 (by omega)) (cwV 2 hts gX7_state_X7_ofThread rfl rfl rfl (by decide +kernel) ⟨Nat.le_of_ble_eq_true rfl, Nat.le_of_ble_eq_true rfl⟩) hK hP hS (va_recv (ci := 7) hK hP rfl mG_O) rfl hl.1 rfl (Nat.le_of_ble_eq_true rfl) dX7_state_3 ⟨Nat.zero_le _, Nat.zero_le _⟩ (fun H locs hP hS => ?_)
  exact m_reti hx hb hr hlk rfl hP hS dX7_state_6 (by first | rfl | simp only [g_X7_state]) rfl

def g_X7_programCounter (thread : Int32) (N : zM) : Int32 := (g_X7_ofThread thread 1 N)
set_option maxHeartbeats 4000000 in
set_option maxRecDepth 100000 in
theorem ct_X7_programCounter (l : Launch) (D : va_G) (a : Nat → Nat) (cI : ClassId) (hJ : mJ a) (N A P X : zM) (thread : Int32) : mCi l yX7_programCounter wsX7_programCounter ({ frames := 3, cells := 0, slots := 0, locals := 64 } : Room) D a cI [.ref (a 0), .int thread] (N, A, P, X) (g_X7_programCounter thread N) (N, A, P, X) := by
  refine m_ofi (cc := cX7_programCounter) (maxL := 2) (own := RX7) (by decide) rfl (Nat.le_of_ble_eq_true rfl) rfl (fun p e s m below meth c ls hx hb hr hml hts hown hlk hl hK hP hS => ?_)
  have hl : lv_has ls 2 [(0, .ref (a 0)), (1, .int thread)] := hl
  refine lv_aload_n hx hb dX7_programCounter_0 rfl (lv_at hl 0 rfl) ?_
  refine lv_iload_n hx hb dX7_programCounter_1 rfl (lv_at hl 1 rfl) ?_
  refine lv_iconst (v := nI 1) hx hb dX7_programCounter_2 (by decide) ?_
  refine m_cVi (As := [.int thread, .int (nI 1)]) (rest := []) ⟨hx, hb, hml, hown, hts⟩ (ct_X7_ofThread l D a cI hJ N A P X thread 1 (by omega)) (cwV 2 hts gX7_programCounter_X7_ofThread rfl rfl rfl (by decide +kernel) ⟨Nat.le_of_ble_eq_true rfl, Nat.le_of_ble_eq_true rfl⟩) hK hP hS (va_recv (ci := 7) hK hP rfl mG_O) rfl hl.1 rfl (Nat.le_of_ble_eq_true rfl) dX7_programCounter_3 ⟨Nat.zero_le _, Nat.zero_le _⟩ (fun H locs hP hS => ?_)
  exact m_reti hx hb hr hlk rfl hP hS dX7_programCounter_6 (by first | rfl | simp only [g_X7_programCounter]) rfl

def g_X7_executed (thread : Int32) (N : zM) : Int32 := (g_X7_ofThread thread 12 N)
set_option maxHeartbeats 4000000 in
set_option maxRecDepth 100000 in
theorem ct_X7_executed (l : Launch) (D : va_G) (a : Nat → Nat) (cI : ClassId) (hJ : mJ a) (N A P X : zM) (thread : Int32) : mCi l yX7_executed wsX7_executed ({ frames := 3, cells := 0, slots := 0, locals := 64 } : Room) D a cI [.ref (a 0), .int thread] (N, A, P, X) (g_X7_executed thread N) (N, A, P, X) := by
  refine m_ofi (cc := cX7_executed) (maxL := 2) (own := RX7) (by decide) rfl (Nat.le_of_ble_eq_true rfl) rfl (fun p e s m below meth c ls hx hb hr hml hts hown hlk hl hK hP hS => ?_)
  have hl : lv_has ls 2 [(0, .ref (a 0)), (1, .int thread)] := hl
  refine lv_aload_n hx hb dX7_executed_0 rfl (lv_at hl 0 rfl) ?_
  refine lv_iload_n hx hb dX7_executed_1 rfl (lv_at hl 1 rfl) ?_
  refine lv_bipush (v := nI 12) hx hb dX7_executed_2 (by decide) ?_
  refine m_cVi (As := [.int thread, .int (nI 12)]) (rest := []) ⟨hx, hb, hml, hown, hts⟩ (ct_X7_ofThread l D a cI hJ N A P X thread 12 (by omega)) (cwV 2 hts gX7_executed_X7_ofThread rfl rfl rfl (by decide +kernel) ⟨Nat.le_of_ble_eq_true rfl, Nat.le_of_ble_eq_true rfl⟩) hK hP hS (va_recv (ci := 7) hK hP rfl mG_O) rfl hl.1 rfl (Nat.le_of_ble_eq_true rfl) dX7_executed_4 ⟨Nat.zero_le _, Nat.zero_le _⟩ (fun H locs hP hS => ?_)
  exact m_reti hx hb hr hlk rfl hP hS dX7_executed_7 (by first | rfl | simp only [g_X7_executed]) rfl

def g_X7_lent (thread : Int32) (N : zM) : Int32 := (g_X7_ofThread thread 13 N)
set_option maxHeartbeats 4000000 in
set_option maxRecDepth 100000 in
theorem ct_X7_lent (l : Launch) (D : va_G) (a : Nat → Nat) (cI : ClassId) (hJ : mJ a) (N A P X : zM) (thread : Int32) : mCi l yX7_lent wsX7_lent ({ frames := 3, cells := 0, slots := 0, locals := 64 } : Room) D a cI [.ref (a 0), .int thread] (N, A, P, X) (g_X7_lent thread N) (N, A, P, X) := by
  refine m_ofi (cc := cX7_lent) (maxL := 2) (own := RX7) (by decide) rfl (Nat.le_of_ble_eq_true rfl) rfl (fun p e s m below meth c ls hx hb hr hml hts hown hlk hl hK hP hS => ?_)
  have hl : lv_has ls 2 [(0, .ref (a 0)), (1, .int thread)] := hl
  refine lv_aload_n hx hb dX7_lent_0 rfl (lv_at hl 0 rfl) ?_
  refine lv_iload_n hx hb dX7_lent_1 rfl (lv_at hl 1 rfl) ?_
  refine lv_bipush (v := nI 13) hx hb dX7_lent_2 (by decide) ?_
  refine m_cVi (As := [.int thread, .int (nI 13)]) (rest := []) ⟨hx, hb, hml, hown, hts⟩ (ct_X7_ofThread l D a cI hJ N A P X thread 13 (by omega)) (cwV 2 hts gX7_lent_X7_ofThread rfl rfl rfl (by decide +kernel) ⟨Nat.le_of_ble_eq_true rfl, Nat.le_of_ble_eq_true rfl⟩) hK hP hS (va_recv (ci := 7) hK hP rfl mG_O) rfl hl.1 rfl (Nat.le_of_ble_eq_true rfl) dX7_lent_4 ⟨Nat.zero_le _, Nat.zero_le _⟩ (fun H locs hP hS => ?_)
  exact m_reti hx hb hr hlk rfl hP hS dX7_lent_7 (by first | rfl | simp only [g_X7_lent]) rfl

def g_X7_starved (thread : Int32) (N : zM) : Int32 := (g_X7_ofThread thread 11 N)
set_option maxHeartbeats 4000000 in
set_option maxRecDepth 100000 in
theorem ct_X7_starved (l : Launch) (D : va_G) (a : Nat → Nat) (cI : ClassId) (hJ : mJ a) (N A P X : zM) (thread : Int32) : mCi l yX7_starved wsX7_starved ({ frames := 3, cells := 0, slots := 0, locals := 64 } : Room) D a cI [.ref (a 0), .int thread] (N, A, P, X) (g_X7_starved thread N) (N, A, P, X) := by
  refine m_ofi (cc := cX7_starved) (maxL := 2) (own := RX7) (by decide) rfl (Nat.le_of_ble_eq_true rfl) rfl (fun p e s m below meth c ls hx hb hr hml hts hown hlk hl hK hP hS => ?_)
  have hl : lv_has ls 2 [(0, .ref (a 0)), (1, .int thread)] := hl
  refine lv_aload_n hx hb dX7_starved_0 rfl (lv_at hl 0 rfl) ?_
  refine lv_iload_n hx hb dX7_starved_1 rfl (lv_at hl 1 rfl) ?_
  refine lv_bipush (v := nI 11) hx hb dX7_starved_2 (by decide) ?_
  refine m_cVi (As := [.int thread, .int (nI 11)]) (rest := []) ⟨hx, hb, hml, hown, hts⟩ (ct_X7_ofThread l D a cI hJ N A P X thread 11 (by omega)) (cwV 2 hts gX7_starved_X7_ofThread rfl rfl rfl (by decide +kernel) ⟨Nat.le_of_ble_eq_true rfl, Nat.le_of_ble_eq_true rfl⟩) hK hP hS (va_recv (ci := 7) hK hP rfl mG_O) rfl hl.1 rfl (Nat.le_of_ble_eq_true rfl) dX7_starved_4 ⟨Nat.zero_le _, Nat.zero_le _⟩ (fun H locs hP hS => ?_)
  exact m_reti hx hb hr hlk rfl hP hS dX7_starved_7 (by first | rfl | simp only [g_X7_starved]) rfl

def g_X7_register (thread : Int32) (register : Int32) (N : zM) : Int32 := if (g_X7_isThread thread) = 0 then (-100001) else if (g_X7_in register (nI 0) (nI 3)) = 0 then (-100001) else (g_X7_register0 (zc thread) (zc register) N)
set_option maxHeartbeats 4000000 in
set_option maxRecDepth 100000 in
theorem ct_X7_register (l : Launch) (D : va_G) (a : Nat → Nat) (cI : ClassId) (hJ : mJ a) (N A P X : zM) (thread : Int32) (register : Int32) : mCi l yX7_register wsX7_register ({ frames := 2, cells := 0, slots := 0, locals := 43 } : Room) D a cI [.ref (a 0), .int thread, .int register] (N, A, P, X) (g_X7_register thread register N) (N, A, P, X) := by
  refine m_ofi (cc := cX7_register) (maxL := 3) (own := RX7) (by decide) rfl (Nat.le_of_ble_eq_true rfl) rfl (fun p e s m below meth c ls hx hb hr hml hts hown hlk hl hK hP hS => ?_)
  have hl : lv_has ls 3 [(0, .ref (a 0)), (1, .int thread), (2, .int register)] := hl
  refine lv_iload_n hx hb dX7_register_0 rfl (lv_at hl 1 rfl) ?_
  refine m_cSi (As := [.int thread]) (rest := []) ⟨hx, hb, hml, hown, hts⟩ (ct_X7_isThread l D a cI hJ N A P X thread) (va_cwS 1 hts gX7_register_X7_isThread rfl rfl rfl (by decide +kernel) ⟨Nat.le_of_ble_eq_true rfl, Nat.le_of_ble_eq_true rfl⟩) hK hP hS rfl hl.1 rfl (Nat.le_of_ble_eq_true rfl) dX7_register_1 ⟨Nat.zero_le _, Nat.zero_le _⟩ (fun H locs hP hS => ?_)
  refine lv_if_eq (tgt := 25) hx hb dX7_register_4 (by decide) (fun c4_1 => ?_) (fun c4_1 => ?_)
  · refine lv_ldc (v := (-100001)) hx hb hown (hts (.constant RX7 75 (-100001)) (by decide +kernel)) dX7_register_25 ?_
    exact m_reti hx hb hr hlk rfl hP hS dX7_register_27 (by simp only [g_X7_register, if_pos c4_1]) rfl
  · have bt := m_isThread c4_1
    have bt1 := bt.1
    refine lv_iload_n hx hb dX7_register_7 rfl (lv_at hl 2 rfl) ?_
    refine lv_iconst (v := nI 0) hx hb dX7_register_8 (by decide) ?_
    refine lv_iconst (v := nI 3) hx hb dX7_register_9 (by decide) ?_
    refine m_cSi (As := [.int register, .int (nI 0), .int (nI 3)]) (rest := []) ⟨hx, hb, hml, hown, hts⟩ (ct_X7_in l D a cI hJ N A P X register (nI 0) (nI 3)) (va_cwS 3 hts gX7_register_X7_in rfl rfl rfl (by decide +kernel) ⟨Nat.le_of_ble_eq_true rfl, Nat.le_of_ble_eq_true rfl⟩) hK hP hS rfl hl.1 rfl (Nat.le_of_ble_eq_true rfl) dX7_register_10 ⟨Nat.zero_le _, Nat.zero_le _⟩ (fun H locs hP hS => ?_)
    refine lv_if_eq (tgt := 25) hx hb dX7_register_13 (by decide) (fun c13_2 => ?_) (fun c13_2 => ?_)
    · refine lv_ldc (v := (-100001)) hx hb hown (hts (.constant RX7 75 (-100001)) (by decide +kernel)) dX7_register_25 ?_
      exact m_reti hx hb hr hlk rfl hP hS dX7_register_27 (by simp only [g_X7_register, if_neg c4_1, if_pos c13_2]) rfl
    · have br := m_within (n := 3) (by decide) c13_2
      have br1 := br.1
      refine lv_aload_n hx hb dX7_register_16 rfl (lv_at hl 0 rfl) ?_
      refine lv_iload_n hx hb dX7_register_17 rfl (lv_at hl 1 rfl) ?_
      refine z_val (z := nI (zc thread)) bt.2 ?_
      refine lv_iload_n hx hb dX7_register_18 rfl (lv_at hl 2 rfl) ?_
      refine z_val (z := nI (zc register)) br.2 ?_
      refine m_cVi (As := [.int (nI (zc thread)), .int (nI (zc register))]) (rest := []) ⟨hx, hb, hml, hown, hts⟩ (ct_X7_register0 l D a cI hJ N A P X (zc thread) (zc register) (by omega) (by omega)) (cwV 2 hts gX7_register_X7_register0 rfl rfl rfl (by decide +kernel) ⟨Nat.le_of_ble_eq_true rfl, Nat.le_of_ble_eq_true rfl⟩) hK hP hS (va_recv (ci := 7) hK hP rfl mG_O) rfl hl.1 rfl (Nat.le_of_ble_eq_true rfl) dX7_register_19 ⟨Nat.zero_le _, Nat.zero_le _⟩ (fun H locs hP hS => ?_)
      refine lv_goto (tgt := 27) hx hb dX7_register_22 (by decide) ?_
      exact m_reti hx hb hr hlk rfl hP hS dX7_register_27 (by simp only [g_X7_register, if_neg c4_1, if_neg c13_2]) rfl

def g_X7_word (word : Int32) (N : zM) : Int32 := if (g_X7_in word (nI 0) (nI 31)) = 0 then (-100001) else N 13 (zc word)
set_option maxHeartbeats 4000000 in
set_option maxRecDepth 100000 in
theorem ct_X7_word (l : Launch) (D : va_G) (a : Nat → Nat) (cI : ClassId) (hJ : mJ a) (N A P X : zM) (word : Int32) : mCi l yX7_word wsX7_word ({ frames := 1, cells := 0, slots := 0, locals := 22 } : Room) D a cI [.ref (a 0), .int word] (N, A, P, X) (g_X7_word word N) (N, A, P, X) := by
  have hiX7 : ∀ w ∈ wsX70, w ∈ wsX7_word := by decide +kernel
  refine m_ofi (cc := cX7_word) (maxL := 2) (own := RX7) (by decide) rfl (Nat.le_of_ble_eq_true rfl) rfl (fun p e s m below meth c ls hx hb hr hml hts hown hlk hl hK hP hS => ?_)
  have hl : lv_has ls 2 [(0, .ref (a 0)), (1, .int word)] := hl
  refine lv_iload_n hx hb dX7_word_0 rfl (lv_at hl 1 rfl) ?_
  refine lv_iconst (v := nI 0) hx hb dX7_word_1 (by decide) ?_
  refine lv_bipush (v := nI 31) hx hb dX7_word_2 (by decide) ?_
  refine m_cSi (As := [.int word, .int (nI 0), .int (nI 31)]) (rest := []) ⟨hx, hb, hml, hown, hts⟩ (ct_X7_in l D a cI hJ N A P X word (nI 0) (nI 31)) (va_cwS 3 hts gX7_word_X7_in rfl rfl rfl (by decide +kernel) ⟨Nat.le_of_ble_eq_true rfl, Nat.le_of_ble_eq_true rfl⟩) hK hP hS rfl hl.1 rfl (Nat.le_of_ble_eq_true rfl) dX7_word_4 ⟨Nat.zero_le _, Nat.zero_le _⟩ (fun H locs hP hS => ?_)
  refine lv_if_eq (tgt := 23) hx hb dX7_word_7 (by decide) (fun c7_1 => ?_) (fun c7_1 => ?_)
  · refine lv_ldc (v := (-100001)) hx hb hown (hts (.constant RX7 75 (-100001)) (by decide +kernel)) dX7_word_23 ?_
    exact m_reti hx hb hr hlk rfl hP hS dX7_word_25 (by simp only [g_X7_word, if_pos c7_1]) rfl
  · have bw := m_within (n := 31) (by decide) c7_1
    have bw1 := bw.1
    refine lv_aload_n hx hb dX7_word_10 rfl (lv_at hl 0 rfl) ?_
    refine mgO0 hx hb hts hiX7 hown hK hP (hts (.fieldLink RX7 7 "BarrelProcessorModel" "s" "[I") (by decide +kernel)) dX7_word_11 ?_
    refine lv_sipush (v := nI 200) hx hb dX7_word_14 (by decide) ?_
    refine lv_iload_n hx hb dX7_word_17 rfl (lv_at hl 1 rfl) ?_
    refine z_val (z := nI (zc word)) bw.2 ?_
    refine lv_iadd hx hb dX7_word_18 ?_
    refine z_val (z := nI (200 + (zc word))) (nI_add _ _) ?_
    refine m_iald hx hb hK hP mG_s (j := 200 + (zc word)) (by omega) (by decide) dX7_word_19 ?_
    refine z_val (z := N 13 (zc word)) (zen_of (zf_wd (by omega))) ?_
    refine lv_goto (tgt := 25) hx hb dX7_word_20 (by decide) ?_
    exact m_reti hx hb hr hlk rfl hP hS dX7_word_25 (by simp only [g_X7_word, if_neg c7_1]) rfl

def g_X7_operation (place : Int32) (N : zM) : Int32 := if (g_X7_isPlace place) = 0 then (-100001) else N 10 (zc place)
set_option maxHeartbeats 4000000 in
set_option maxRecDepth 100000 in
theorem ct_X7_operation (l : Launch) (D : va_G) (a : Nat → Nat) (cI : ClassId) (hJ : mJ a) (N A P X : zM) (place : Int32) : mCi l yX7_operation wsX7_operation ({ frames := 2, cells := 0, slots := 0, locals := 42 } : Room) D a cI [.ref (a 0), .int place] (N, A, P, X) (g_X7_operation place N) (N, A, P, X) := by
  have hiX7 : ∀ w ∈ wsX70, w ∈ wsX7_operation := by decide +kernel
  refine m_ofi (cc := cX7_operation) (maxL := 2) (own := RX7) (by decide) rfl (Nat.le_of_ble_eq_true rfl) rfl (fun p e s m below meth c ls hx hb hr hml hts hown hlk hl hK hP hS => ?_)
  have hl : lv_has ls 2 [(0, .ref (a 0)), (1, .int place)] := hl
  refine lv_iload_n hx hb dX7_operation_0 rfl (lv_at hl 1 rfl) ?_
  refine m_cSi (As := [.int place]) (rest := []) ⟨hx, hb, hml, hown, hts⟩ (ct_X7_isPlace l D a cI hJ N A P X place) (va_cwS 1 hts gX7_operation_X7_isPlace rfl rfl rfl (by decide +kernel) ⟨Nat.le_of_ble_eq_true rfl, Nat.le_of_ble_eq_true rfl⟩) hK hP hS rfl hl.1 rfl (Nat.le_of_ble_eq_true rfl) dX7_operation_1 ⟨Nat.zero_le _, Nat.zero_le _⟩ (fun H locs hP hS => ?_)
  refine lv_if_eq (tgt := 21) hx hb dX7_operation_4 (by decide) (fun c4_1 => ?_) (fun c4_1 => ?_)
  · refine lv_ldc (v := (-100001)) hx hb hown (hts (.constant RX7 75 (-100001)) (by decide +kernel)) dX7_operation_21 ?_
    exact m_reti hx hb hr hlk rfl hP hS dX7_operation_23 (by simp only [g_X7_operation, if_pos c4_1]) rfl
  · have bp := m_isPlace c4_1
    have bp1 := bp.1
    refine lv_aload_n hx hb dX7_operation_7 rfl (lv_at hl 0 rfl) ?_
    refine mgO0 hx hb hts hiX7 hown hK hP (hts (.fieldLink RX7 7 "BarrelProcessorModel" "s" "[I") (by decide +kernel)) dX7_operation_8 ?_
    refine lv_bipush (v := nI 56) hx hb dX7_operation_11 (by decide) ?_
    refine lv_iconst (v := nI 3) hx hb dX7_operation_13 (by decide) ?_
    refine lv_iload_n hx hb dX7_operation_14 rfl (lv_at hl 1 rfl) ?_
    refine z_val (z := nI (zc place)) bp.2 ?_
    refine lv_imul hx hb dX7_operation_15 ?_
    refine z_val (z := nI (3 * (zc place))) (pk_mul _ _) ?_
    refine lv_iadd hx hb dX7_operation_16 ?_
    refine z_val (z := nI (56 + (3 * (zc place)))) (nI_add _ _) ?_
    rw [show 56 + (3 * (zc place)) = 56 + 3 * (zc place) by omega]
    refine m_iald hx hb hK hP mG_s (j := 56 + 3 * (zc place)) (by omega) (by decide) dX7_operation_17 ?_
    refine z_val (z := N 10 (zc place)) (zen_of (zf_op (by omega))) ?_
    refine lv_goto (tgt := 23) hx hb dX7_operation_18 (by decide) ?_
    exact m_reti hx hb hr hlk rfl hP hS dX7_operation_23 (by simp only [g_X7_operation, if_neg c4_1]) rfl

def g_X7_operand (place : Int32) (operand : Int32) (N : zM) : Int32 := if (g_X7_isPlace place) = 0 then (-100001) else if (g_X7_in operand (nI 0) (nI 1)) = 0 then (-100002) else if (N 10 (zc place)) ≤ (nI 9) then if (N 10 (zc place)) = (nI 7) then if (nI 1) ≤ operand then (-100005) else zen N (56 + (3 * (zc place)) + 1 + (zc operand)) else if (nI 2) ≤ operand then (-100005) else zen N (56 + (3 * (zc place)) + 1 + (zc operand)) else if (nI 0) ≤ operand then (-100005) else zen N (56 + (3 * (zc place)) + 1 + (zc operand))
set_option maxHeartbeats 4000000 in
set_option maxRecDepth 100000 in
theorem ct_X7_operand (l : Launch) (D : va_G) (a : Nat → Nat) (cI : ClassId) (hJ : mJ a) (N A P X : zM) (place : Int32) (operand : Int32) : mCi l yX7_operand wsX7_operand ({ frames := 2, cells := 0, slots := 0, locals := 42 } : Room) D a cI [.ref (a 0), .int place, .int operand] (N, A, P, X) (g_X7_operand place operand N) (N, A, P, X) := by
  have hiX7 : ∀ w ∈ wsX70, w ∈ wsX7_operand := by decide +kernel
  refine m_ofi (cc := cX7_operand) (maxL := 5) (own := RX7) (by decide) rfl (Nat.le_of_ble_eq_true rfl) rfl (fun p e s m below meth c ls hx hb hr hml hts hown hlk hl hK hP hS => ?_)
  have hl : lv_has ls 5 [(0, .ref (a 0)), (1, .int place), (2, .int operand)] := hl
  refine lv_iload_n hx hb dX7_operand_0 rfl (lv_at hl 1 rfl) ?_
  refine m_cSi (As := [.int place]) (rest := []) ⟨hx, hb, hml, hown, hts⟩ (ct_X7_isPlace l D a cI hJ N A P X place) (va_cwS 1 hts gX7_operand_X7_isPlace rfl rfl rfl (by decide +kernel) ⟨Nat.le_of_ble_eq_true rfl, Nat.le_of_ble_eq_true rfl⟩) hK hP hS rfl hl.1 rfl (Nat.le_of_ble_eq_true rfl) dX7_operand_1 ⟨Nat.zero_le _, Nat.zero_le _⟩ (fun H locs hP hS => ?_)
  refine lv_if_ne (tgt := 10) hx hb dX7_operand_4 (by decide) (fun c4_1 => ?_) (fun c4_1 => ?_)
  · have bp := m_isPlace c4_1
    have bp1 := bp.1
    refine lv_iload_n hx hb dX7_operand_10 rfl (lv_at hl 2 rfl) ?_
    refine lv_iconst (v := nI 0) hx hb dX7_operand_11 (by decide) ?_
    refine lv_iconst (v := nI 1) hx hb dX7_operand_12 (by decide) ?_
    refine m_cSi (As := [.int operand, .int (nI 0), .int (nI 1)]) (rest := []) ⟨hx, hb, hml, hown, hts⟩ (ct_X7_in l D a cI hJ N A P X operand (nI 0) (nI 1)) (va_cwS 3 hts gX7_operand_X7_in rfl rfl rfl (by decide +kernel) ⟨Nat.le_of_ble_eq_true rfl, Nat.le_of_ble_eq_true rfl⟩) hK hP hS rfl hl.1 rfl (Nat.le_of_ble_eq_true rfl) dX7_operand_13 ⟨Nat.zero_le _, Nat.zero_le _⟩ (fun H locs hP hS => ?_)
    refine lv_if_ne (tgt := 22) hx hb dX7_operand_16 (by decide) (fun c16_2 => ?_) (fun c16_2 => ?_)
    · have bo := m_within (n := 1) (by decide) c16_2
      have bo1 := bo.1
      refine lv_aload_n hx hb dX7_operand_22 rfl (lv_at hl 0 rfl) ?_
      refine mgO0 hx hb hts hiX7 hown hK hP (hts (.fieldLink RX7 7 "BarrelProcessorModel" "s" "[I") (by decide +kernel)) dX7_operand_23 ?_
      refine lv_bipush (v := nI 56) hx hb dX7_operand_26 (by decide) ?_
      refine lv_iconst (v := nI 3) hx hb dX7_operand_28 (by decide) ?_
      refine lv_iload_n hx hb dX7_operand_29 rfl (lv_at hl 1 rfl) ?_
      refine z_val (z := nI (zc place)) bp.2 ?_
      refine lv_imul hx hb dX7_operand_30 ?_
      refine z_val (z := nI (3 * (zc place))) (pk_mul _ _) ?_
      refine lv_iadd hx hb dX7_operand_31 ?_
      refine z_val (z := nI (56 + (3 * (zc place)))) (nI_add _ _) ?_
      rw [show 56 + (3 * (zc place)) = 56 + 3 * (zc place) by omega]
      refine m_iald hx hb hK hP mG_s (j := 56 + 3 * (zc place)) (by omega) (by decide) dX7_operand_32 ?_
      refine z_val (z := N 10 (zc place)) (zen_of (zf_op (by omega))) ?_
      refine lv_istore_n (lv' := [(3, .int (N 10 (zc place))), (0, .ref (a 0)), (1, .int place), (2, .int operand)]) hx hb dX7_operand_33 rfl hl (by decide) rfl (fun ls hl => ?_)
      refine lv_iload_n hx hb dX7_operand_34 rfl (lv_at hl 0 rfl) ?_
      refine lv_bipush (v := nI 9) hx hb dX7_operand_35 (by decide) ?_
      refine lv_icmp_le (tgt := 44) hx hb dX7_operand_37 (by decide) (fun c37_3 => ?_) (fun c37_3 => ?_)
      · refine lv_iload_n hx hb dX7_operand_44 rfl (lv_at hl 0 rfl) ?_
        refine lv_bipush (v := nI 7) hx hb dX7_operand_45 (by decide) ?_
        refine lv_icmp_ne (tgt := 54) hx hb dX7_operand_47 (by decide) (fun c47_4 => ?_) (fun c47_4 => ?_)
        · refine lv_iconst (v := nI 2) hx hb dX7_operand_54 (by decide) ?_
          refine lv_istore (lv' := [(4, .int (nI 2)), (3, .int (N 10 (zc place))), (0, .ref (a 0)), (1, .int place), (2, .int operand)]) hx hb dX7_operand_55 hl (by decide) rfl (fun ls hl => ?_)
          refine lv_iload_n hx hb dX7_operand_57 rfl (lv_at hl 4 rfl) ?_
          refine lv_iload hx hb dX7_operand_58 (lv_at hl 0 rfl) ?_
          refine lv_icmp_ge (tgt := 81) hx hb dX7_operand_60 (by decide) (fun c60_5 => ?_) (fun c60_5 => ?_)
          · refine lv_ldc (v := (-100005)) hx hb hown (hts (.constant RX7 147 (-100005)) (by decide +kernel)) dX7_operand_81 ?_
            exact m_reti hx hb hr hlk rfl hP hS dX7_operand_83 (by simp only [g_X7_operand, if_neg c4_1, if_neg c16_2, if_pos c37_3, if_neg c47_4, if_pos c60_5]) rfl
          · refine lv_aload_n hx hb dX7_operand_63 rfl (lv_at hl 2 rfl) ?_
            refine mgO0 hx hb hts hiX7 hown hK hP (hts (.fieldLink RX7 7 "BarrelProcessorModel" "s" "[I") (by decide +kernel)) dX7_operand_64 ?_
            refine lv_bipush (v := nI 56) hx hb dX7_operand_67 (by decide) ?_
            refine lv_iconst (v := nI 3) hx hb dX7_operand_69 (by decide) ?_
            refine lv_iload_n hx hb dX7_operand_70 rfl (lv_at hl 3 rfl) ?_
            refine z_val (z := nI (zc place)) bp.2 ?_
            refine lv_imul hx hb dX7_operand_71 ?_
            refine z_val (z := nI (3 * (zc place))) (pk_mul _ _) ?_
            refine lv_iadd hx hb dX7_operand_72 ?_
            refine z_val (z := nI (56 + (3 * (zc place)))) (nI_add _ _) ?_
            refine lv_iconst (v := nI 1) hx hb dX7_operand_73 (by decide) ?_
            refine lv_iadd hx hb dX7_operand_74 ?_
            refine z_val (z := nI (56 + (3 * (zc place)) + 1)) (nI_add _ _) ?_
            refine lv_iload_n hx hb dX7_operand_75 rfl (lv_at hl 4 rfl) ?_
            refine z_val (z := nI (zc operand)) bo.2 ?_
            refine lv_iadd hx hb dX7_operand_76 ?_
            refine z_val (z := nI (56 + (3 * (zc place)) + 1 + (zc operand))) (nI_add _ _) ?_
            refine m_iald hx hb hK hP mG_s (j := 56 + (3 * (zc place)) + 1 + (zc operand)) (by omega) (by decide) dX7_operand_77 ?_
            refine lv_goto (tgt := 83) hx hb dX7_operand_78 (by decide) ?_
            exact m_reti hx hb hr hlk rfl hP hS dX7_operand_83 (by simp only [g_X7_operand, if_neg c4_1, if_neg c16_2, if_pos c37_3, if_neg c47_4, if_neg c60_5]) rfl
        · refine lv_iconst (v := nI 1) hx hb dX7_operand_50 (by decide) ?_
          refine lv_goto (tgt := 55) hx hb dX7_operand_51 (by decide) ?_
          refine lv_istore (lv' := [(4, .int (nI 1)), (3, .int (N 10 (zc place))), (0, .ref (a 0)), (1, .int place), (2, .int operand)]) hx hb dX7_operand_55 hl (by decide) rfl (fun ls hl => ?_)
          refine lv_iload_n hx hb dX7_operand_57 rfl (lv_at hl 4 rfl) ?_
          refine lv_iload hx hb dX7_operand_58 (lv_at hl 0 rfl) ?_
          refine lv_icmp_ge (tgt := 81) hx hb dX7_operand_60 (by decide) (fun c60_6 => ?_) (fun c60_6 => ?_)
          · refine lv_ldc (v := (-100005)) hx hb hown (hts (.constant RX7 147 (-100005)) (by decide +kernel)) dX7_operand_81 ?_
            exact m_reti hx hb hr hlk rfl hP hS dX7_operand_83 (by simp only [g_X7_operand, if_neg c4_1, if_neg c16_2, if_pos c37_3, if_pos c47_4, if_pos c60_6]) rfl
          · refine lv_aload_n hx hb dX7_operand_63 rfl (lv_at hl 2 rfl) ?_
            refine mgO0 hx hb hts hiX7 hown hK hP (hts (.fieldLink RX7 7 "BarrelProcessorModel" "s" "[I") (by decide +kernel)) dX7_operand_64 ?_
            refine lv_bipush (v := nI 56) hx hb dX7_operand_67 (by decide) ?_
            refine lv_iconst (v := nI 3) hx hb dX7_operand_69 (by decide) ?_
            refine lv_iload_n hx hb dX7_operand_70 rfl (lv_at hl 3 rfl) ?_
            refine z_val (z := nI (zc place)) bp.2 ?_
            refine lv_imul hx hb dX7_operand_71 ?_
            refine z_val (z := nI (3 * (zc place))) (pk_mul _ _) ?_
            refine lv_iadd hx hb dX7_operand_72 ?_
            refine z_val (z := nI (56 + (3 * (zc place)))) (nI_add _ _) ?_
            refine lv_iconst (v := nI 1) hx hb dX7_operand_73 (by decide) ?_
            refine lv_iadd hx hb dX7_operand_74 ?_
            refine z_val (z := nI (56 + (3 * (zc place)) + 1)) (nI_add _ _) ?_
            refine lv_iload_n hx hb dX7_operand_75 rfl (lv_at hl 4 rfl) ?_
            refine z_val (z := nI (zc operand)) bo.2 ?_
            refine lv_iadd hx hb dX7_operand_76 ?_
            refine z_val (z := nI (56 + (3 * (zc place)) + 1 + (zc operand))) (nI_add _ _) ?_
            refine m_iald hx hb hK hP mG_s (j := 56 + (3 * (zc place)) + 1 + (zc operand)) (by omega) (by decide) dX7_operand_77 ?_
            refine lv_goto (tgt := 83) hx hb dX7_operand_78 (by decide) ?_
            exact m_reti hx hb hr hlk rfl hP hS dX7_operand_83 (by simp only [g_X7_operand, if_neg c4_1, if_neg c16_2, if_pos c37_3, if_pos c47_4, if_neg c60_6]) rfl
      · refine lv_iconst (v := nI 0) hx hb dX7_operand_40 (by decide) ?_
        refine lv_goto (tgt := 55) hx hb dX7_operand_41 (by decide) ?_
        refine lv_istore (lv' := [(4, .int (nI 0)), (3, .int (N 10 (zc place))), (0, .ref (a 0)), (1, .int place), (2, .int operand)]) hx hb dX7_operand_55 hl (by decide) rfl (fun ls hl => ?_)
        refine lv_iload_n hx hb dX7_operand_57 rfl (lv_at hl 4 rfl) ?_
        refine lv_iload hx hb dX7_operand_58 (lv_at hl 0 rfl) ?_
        refine lv_icmp_ge (tgt := 81) hx hb dX7_operand_60 (by decide) (fun c60_7 => ?_) (fun c60_7 => ?_)
        · refine lv_ldc (v := (-100005)) hx hb hown (hts (.constant RX7 147 (-100005)) (by decide +kernel)) dX7_operand_81 ?_
          exact m_reti hx hb hr hlk rfl hP hS dX7_operand_83 (by simp only [g_X7_operand, if_neg c4_1, if_neg c16_2, if_neg c37_3, if_pos c60_7]) rfl
        · refine lv_aload_n hx hb dX7_operand_63 rfl (lv_at hl 2 rfl) ?_
          refine mgO0 hx hb hts hiX7 hown hK hP (hts (.fieldLink RX7 7 "BarrelProcessorModel" "s" "[I") (by decide +kernel)) dX7_operand_64 ?_
          refine lv_bipush (v := nI 56) hx hb dX7_operand_67 (by decide) ?_
          refine lv_iconst (v := nI 3) hx hb dX7_operand_69 (by decide) ?_
          refine lv_iload_n hx hb dX7_operand_70 rfl (lv_at hl 3 rfl) ?_
          refine z_val (z := nI (zc place)) bp.2 ?_
          refine lv_imul hx hb dX7_operand_71 ?_
          refine z_val (z := nI (3 * (zc place))) (pk_mul _ _) ?_
          refine lv_iadd hx hb dX7_operand_72 ?_
          refine z_val (z := nI (56 + (3 * (zc place)))) (nI_add _ _) ?_
          refine lv_iconst (v := nI 1) hx hb dX7_operand_73 (by decide) ?_
          refine lv_iadd hx hb dX7_operand_74 ?_
          refine z_val (z := nI (56 + (3 * (zc place)) + 1)) (nI_add _ _) ?_
          refine lv_iload_n hx hb dX7_operand_75 rfl (lv_at hl 4 rfl) ?_
          refine z_val (z := nI (zc operand)) bo.2 ?_
          refine lv_iadd hx hb dX7_operand_76 ?_
          refine z_val (z := nI (56 + (3 * (zc place)) + 1 + (zc operand))) (nI_add _ _) ?_
          refine m_iald hx hb hK hP mG_s (j := 56 + (3 * (zc place)) + 1 + (zc operand)) (by omega) (by decide) dX7_operand_77 ?_
          refine lv_goto (tgt := 83) hx hb dX7_operand_78 (by decide) ?_
          exact m_reti hx hb hr hlk rfl hP hS dX7_operand_83 (by simp only [g_X7_operand, if_neg c4_1, if_neg c16_2, if_neg c37_3, if_neg c60_7]) rfl
    · refine lv_ldc (v := (-100002)) hx hb hown (hts (.constant RX7 109 (-100002)) (by decide +kernel)) dX7_operand_19 ?_
      exact m_reti hx hb hr hlk rfl hP hS dX7_operand_21 (by simp only [g_X7_operand, if_neg c4_1, if_pos c16_2]) rfl
  · refine lv_ldc (v := (-100001)) hx hb hown (hts (.constant RX7 75 (-100001)) (by decide +kernel)) dX7_operand_7 ?_
    exact m_reti hx hb hr hlk rfl hP hS dX7_operand_9 (by simp only [g_X7_operand, if_pos c4_1]) rfl

def g_X7_slot (slot : Int32) (N : zM) : Int32 := if (g_X7_in slot (nI 0) (nI 7)) = 0 then (-100001) else N 14 (zc slot)
set_option maxHeartbeats 4000000 in
set_option maxRecDepth 100000 in
theorem ct_X7_slot (l : Launch) (D : va_G) (a : Nat → Nat) (cI : ClassId) (hJ : mJ a) (N A P X : zM) (slot : Int32) : mCi l yX7_slot wsX7_slot ({ frames := 1, cells := 0, slots := 0, locals := 22 } : Room) D a cI [.ref (a 0), .int slot] (N, A, P, X) (g_X7_slot slot N) (N, A, P, X) := by
  have hiX7 : ∀ w ∈ wsX70, w ∈ wsX7_slot := by decide +kernel
  refine m_ofi (cc := cX7_slot) (maxL := 2) (own := RX7) (by decide) rfl (Nat.le_of_ble_eq_true rfl) rfl (fun p e s m below meth c ls hx hb hr hml hts hown hlk hl hK hP hS => ?_)
  have hl : lv_has ls 2 [(0, .ref (a 0)), (1, .int slot)] := hl
  refine lv_iload_n hx hb dX7_slot_0 rfl (lv_at hl 1 rfl) ?_
  refine lv_iconst (v := nI 0) hx hb dX7_slot_1 (by decide) ?_
  refine lv_bipush (v := nI 7) hx hb dX7_slot_2 (by decide) ?_
  refine m_cSi (As := [.int slot, .int (nI 0), .int (nI 7)]) (rest := []) ⟨hx, hb, hml, hown, hts⟩ (ct_X7_in l D a cI hJ N A P X slot (nI 0) (nI 7)) (va_cwS 3 hts gX7_slot_X7_in rfl rfl rfl (by decide +kernel) ⟨Nat.le_of_ble_eq_true rfl, Nat.le_of_ble_eq_true rfl⟩) hK hP hS rfl hl.1 rfl (Nat.le_of_ble_eq_true rfl) dX7_slot_4 ⟨Nat.zero_le _, Nat.zero_le _⟩ (fun H locs hP hS => ?_)
  refine lv_if_eq (tgt := 23) hx hb dX7_slot_7 (by decide) (fun c7_1 => ?_) (fun c7_1 => ?_)
  · refine lv_ldc (v := (-100001)) hx hb hown (hts (.constant RX7 75 (-100001)) (by decide +kernel)) dX7_slot_23 ?_
    exact m_reti hx hb hr hlk rfl hP hS dX7_slot_25 (by simp only [g_X7_slot, if_pos c7_1]) rfl
  · have bs := m_within (n := 7) (by decide) c7_1
    have bs1 := bs.1
    refine lv_aload_n hx hb dX7_slot_10 rfl (lv_at hl 0 rfl) ?_
    refine mgO0 hx hb hts hiX7 hown hK hP (hts (.fieldLink RX7 7 "BarrelProcessorModel" "s" "[I") (by decide +kernel)) dX7_slot_11 ?_
    refine lv_sipush (v := nI 234) hx hb dX7_slot_14 (by decide) ?_
    refine lv_iload_n hx hb dX7_slot_17 rfl (lv_at hl 1 rfl) ?_
    refine z_val (z := nI (zc slot)) bs.2 ?_
    refine lv_iadd hx hb dX7_slot_18 ?_
    refine z_val (z := nI (234 + (zc slot))) (nI_add _ _) ?_
    refine m_iald hx hb hK hP mG_s (j := 234 + (zc slot)) (by omega) (by decide) dX7_slot_19 ?_
    refine z_val (z := N 14 (zc slot)) (zen_of (zf_sl (by omega))) ?_
    refine lv_goto (tgt := 25) hx hb dX7_slot_20 (by decide) ?_
    exact m_reti hx hb hr hlk rfl hP hS dX7_slot_25 (by simp only [g_X7_slot, if_neg c7_1]) rfl

def g_X7_setting (setting : Int32) (N : zM) : Int32 := if (g_X7_in setting (nI 0) (nI 1)) = 0 then (-100001) else N 15 (zc setting)
set_option maxHeartbeats 4000000 in
set_option maxRecDepth 100000 in
theorem ct_X7_setting (l : Launch) (D : va_G) (a : Nat → Nat) (cI : ClassId) (hJ : mJ a) (N A P X : zM) (setting : Int32) : mCi l yX7_setting wsX7_setting ({ frames := 1, cells := 0, slots := 0, locals := 22 } : Room) D a cI [.ref (a 0), .int setting] (N, A, P, X) (g_X7_setting setting N) (N, A, P, X) := by
  have hiX7 : ∀ w ∈ wsX70, w ∈ wsX7_setting := by decide +kernel
  refine m_ofi (cc := cX7_setting) (maxL := 2) (own := RX7) (by decide) rfl (Nat.le_of_ble_eq_true rfl) rfl (fun p e s m below meth c ls hx hb hr hml hts hown hlk hl hK hP hS => ?_)
  have hl : lv_has ls 2 [(0, .ref (a 0)), (1, .int setting)] := hl
  refine lv_iload_n hx hb dX7_setting_0 rfl (lv_at hl 1 rfl) ?_
  refine lv_iconst (v := nI 0) hx hb dX7_setting_1 (by decide) ?_
  refine lv_iconst (v := nI 1) hx hb dX7_setting_2 (by decide) ?_
  refine m_cSi (As := [.int setting, .int (nI 0), .int (nI 1)]) (rest := []) ⟨hx, hb, hml, hown, hts⟩ (ct_X7_in l D a cI hJ N A P X setting (nI 0) (nI 1)) (va_cwS 3 hts gX7_setting_X7_in rfl rfl rfl (by decide +kernel) ⟨Nat.le_of_ble_eq_true rfl, Nat.le_of_ble_eq_true rfl⟩) hK hP hS rfl hl.1 rfl (Nat.le_of_ble_eq_true rfl) dX7_setting_3 ⟨Nat.zero_le _, Nat.zero_le _⟩ (fun H locs hP hS => ?_)
  refine lv_if_eq (tgt := 22) hx hb dX7_setting_6 (by decide) (fun c6_1 => ?_) (fun c6_1 => ?_)
  · refine lv_ldc (v := (-100001)) hx hb hown (hts (.constant RX7 75 (-100001)) (by decide +kernel)) dX7_setting_22 ?_
    exact m_reti hx hb hr hlk rfl hP hS dX7_setting_24 (by simp only [g_X7_setting, if_pos c6_1]) rfl
  · have bs := m_within (n := 1) (by decide) c6_1
    have bs1 := bs.1
    refine lv_aload_n hx hb dX7_setting_9 rfl (lv_at hl 0 rfl) ?_
    refine mgO0 hx hb hts hiX7 hown hK hP (hts (.fieldLink RX7 7 "BarrelProcessorModel" "s" "[I") (by decide +kernel)) dX7_setting_10 ?_
    refine lv_sipush (v := nI 242) hx hb dX7_setting_13 (by decide) ?_
    refine lv_iload_n hx hb dX7_setting_16 rfl (lv_at hl 1 rfl) ?_
    refine z_val (z := nI (zc setting)) bs.2 ?_
    refine lv_iadd hx hb dX7_setting_17 ?_
    refine z_val (z := nI (242 + (zc setting))) (nI_add _ _) ?_
    refine m_iald hx hb hK hP mG_s (j := 242 + (zc setting)) (by omega) (by decide) dX7_setting_18 ?_
    refine z_val (z := N 15 (zc setting)) (zen_of (zf_se (by omega))) ?_
    refine lv_goto (tgt := 24) hx hb dX7_setting_19 (by decide) ?_
    exact m_reti hx hb hr hlk rfl hP hS dX7_setting_24 (by simp only [g_X7_setting, if_neg c6_1]) rfl

def g_X7_breakpoint (place : Int32) (N : zM) : Int32 := if (g_X7_isPlace place) = 0 then (-100001) else N 12 (zc place)
set_option maxHeartbeats 4000000 in
set_option maxRecDepth 100000 in
theorem ct_X7_breakpoint (l : Launch) (D : va_G) (a : Nat → Nat) (cI : ClassId) (hJ : mJ a) (N A P X : zM) (place : Int32) : mCi l yX7_breakpoint wsX7_breakpoint ({ frames := 2, cells := 0, slots := 0, locals := 42 } : Room) D a cI [.ref (a 0), .int place] (N, A, P, X) (g_X7_breakpoint place N) (N, A, P, X) := by
  have hiX7 : ∀ w ∈ wsX70, w ∈ wsX7_breakpoint := by decide +kernel
  refine m_ofi (cc := cX7_breakpoint) (maxL := 2) (own := RX7) (by decide) rfl (Nat.le_of_ble_eq_true rfl) rfl (fun p e s m below meth c ls hx hb hr hml hts hown hlk hl hK hP hS => ?_)
  have hl : lv_has ls 2 [(0, .ref (a 0)), (1, .int place)] := hl
  refine lv_iload_n hx hb dX7_breakpoint_0 rfl (lv_at hl 1 rfl) ?_
  refine m_cSi (As := [.int place]) (rest := []) ⟨hx, hb, hml, hown, hts⟩ (ct_X7_isPlace l D a cI hJ N A P X place) (va_cwS 1 hts gX7_breakpoint_X7_isPlace rfl rfl rfl (by decide +kernel) ⟨Nat.le_of_ble_eq_true rfl, Nat.le_of_ble_eq_true rfl⟩) hK hP hS rfl hl.1 rfl (Nat.le_of_ble_eq_true rfl) dX7_breakpoint_1 ⟨Nat.zero_le _, Nat.zero_le _⟩ (fun H locs hP hS => ?_)
  refine lv_if_eq (tgt := 20) hx hb dX7_breakpoint_4 (by decide) (fun c4_1 => ?_) (fun c4_1 => ?_)
  · refine lv_ldc (v := (-100001)) hx hb hown (hts (.constant RX7 75 (-100001)) (by decide +kernel)) dX7_breakpoint_20 ?_
    exact m_reti hx hb hr hlk rfl hP hS dX7_breakpoint_22 (by simp only [g_X7_breakpoint, if_pos c4_1]) rfl
  · have bp := m_isPlace c4_1
    have bp1 := bp.1
    refine lv_aload_n hx hb dX7_breakpoint_7 rfl (lv_at hl 0 rfl) ?_
    refine mgO0 hx hb hts hiX7 hown hK hP (hts (.fieldLink RX7 7 "BarrelProcessorModel" "s" "[I") (by decide +kernel)) dX7_breakpoint_8 ?_
    refine lv_sipush (v := nI 244) hx hb dX7_breakpoint_11 (by decide) ?_
    refine lv_iload_n hx hb dX7_breakpoint_14 rfl (lv_at hl 1 rfl) ?_
    refine z_val (z := nI (zc place)) bp.2 ?_
    refine lv_iadd hx hb dX7_breakpoint_15 ?_
    refine z_val (z := nI (244 + (zc place))) (nI_add _ _) ?_
    refine m_iald hx hb hK hP mG_s (j := 244 + (zc place)) (by omega) (by decide) dX7_breakpoint_16 ?_
    refine z_val (z := N 12 (zc place)) (zen_of (zf_bk (by omega))) ?_
    refine lv_goto (tgt := 22) hx hb dX7_breakpoint_17 (by decide) ?_
    exact m_reti hx hb hr hlk rfl hP hS dX7_breakpoint_22 (by simp only [g_X7_breakpoint, if_neg c4_1]) rfl

def g_X7_cycle  (N : zM) : Int32 := N 16 0
set_option maxHeartbeats 4000000 in
set_option maxRecDepth 100000 in
theorem ct_X7_cycle (l : Launch) (D : va_G) (a : Nat → Nat) (cI : ClassId) (hJ : mJ a) (N A P X : zM)  : mCi l yX7_cycle wsX7_cycle ({ frames := 0, cells := 0, slots := 0, locals := 0 } : Room) D a cI [.ref (a 0)] (N, A, P, X) (g_X7_cycle N) (N, A, P, X) := by
  have hiX7 : ∀ w ∈ wsX70, w ∈ wsX7_cycle := by decide +kernel
  refine m_ofi (cc := cX7_cycle) (maxL := 1) (own := RX7) (by decide) rfl (Nat.le_of_ble_eq_true rfl) rfl (fun p e s m below meth c ls hx hb hr hml hts hown hlk hl hK hP hS => ?_)
  have hl : lv_has ls 1 [(0, .ref (a 0))] := hl
  refine lv_aload_n hx hb dX7_cycle_0 rfl (lv_at hl 0 rfl) ?_
  refine mgO0 hx hb hts hiX7 hown hK hP (hts (.fieldLink RX7 7 "BarrelProcessorModel" "s" "[I") (by decide +kernel)) dX7_cycle_1 ?_
  refine lv_sipush (v := nI 232) hx hb dX7_cycle_4 (by decide) ?_
  refine m_iald hx hb hK hP mG_s (j := 232) (by omega) (by decide) dX7_cycle_7 ?_
  refine z_val (z := N 16 0) (zen_of zf_232) ?_
  exact m_reti hx hb hr hlk rfl hP hS dX7_cycle_8 (by first | rfl | simp only [g_X7_cycle]) rfl

def g_X7_idle  (N : zM) : Int32 := N 17 0
set_option maxHeartbeats 4000000 in
set_option maxRecDepth 100000 in
theorem ct_X7_idle (l : Launch) (D : va_G) (a : Nat → Nat) (cI : ClassId) (hJ : mJ a) (N A P X : zM)  : mCi l yX7_idle wsX7_idle ({ frames := 0, cells := 0, slots := 0, locals := 0 } : Room) D a cI [.ref (a 0)] (N, A, P, X) (g_X7_idle N) (N, A, P, X) := by
  have hiX7 : ∀ w ∈ wsX70, w ∈ wsX7_idle := by decide +kernel
  refine m_ofi (cc := cX7_idle) (maxL := 1) (own := RX7) (by decide) rfl (Nat.le_of_ble_eq_true rfl) rfl (fun p e s m below meth c ls hx hb hr hml hts hown hlk hl hK hP hS => ?_)
  have hl : lv_has ls 1 [(0, .ref (a 0))] := hl
  refine lv_aload_n hx hb dX7_idle_0 rfl (lv_at hl 0 rfl) ?_
  refine mgO0 hx hb hts hiX7 hown hK hP (hts (.fieldLink RX7 7 "BarrelProcessorModel" "s" "[I") (by decide +kernel)) dX7_idle_1 ?_
  refine lv_sipush (v := nI 233) hx hb dX7_idle_4 (by decide) ?_
  refine m_iald hx hb hK hP mG_s (j := 233) (by omega) (by decide) dX7_idle_7 ?_
  refine z_val (z := N 17 0) (zen_of zf_233) ?_
  exact m_reti hx hb hr hlk rfl hP hS dX7_idle_8 (by first | rfl | simp only [g_X7_idle]) rfl

def g_X7_trace (ago : Int32) (part : Int32) (N : zM) : Int32 := if ago < 0 then (-100002) else if (g_X7_in part (nI 0) (nI 2)) = 0 then (-100002) else if (nI (zc (N 18 1))) ≤ (nI (zc ago)) then (-100005) else N 19 (3 * (zc ago) + (zc part))
set_option maxHeartbeats 4000000 in
set_option maxRecDepth 100000 in
theorem ct_X7_trace (l : Launch) (D : va_G) (a : Nat → Nat) (cI : ClassId) (hJ : mJ a) (N A P X : zM) (ago : Int32) (part : Int32) (B : Nat) (hI : rOK B N) : mCi l yX7_trace wsX7_trace ({ frames := 1, cells := 0, slots := 0, locals := 22 } : Room) D a cI [.ref (a 0), .int ago, .int part] (N, A, P, X) (g_X7_trace ago part N) (N, A, P, X) := by
  have hiX7 : ∀ w ∈ wsX70, w ∈ wsX7_trace := by decide +kernel
  refine m_ofi (cc := cX7_trace) (maxL := 3) (own := RX7) (by decide) rfl (Nat.le_of_ble_eq_true rfl) rfl (fun p e s m below meth c ls hx hb hr hml hts hown hlk hl hK hP hS => ?_)
  have hl : lv_has ls 3 [(0, .ref (a 0)), (1, .int ago), (2, .int part)] := hl
  refine lv_iload_n hx hb dX7_trace_0 rfl (lv_at hl 1 rfl) ?_
  refine lv_if_lt (tgt := 13) hx hb dX7_trace_1 (by decide) (fun c1_1 => ?_) (fun c1_1 => ?_)
  · refine lv_ldc (v := (-100002)) hx hb hown (hts (.constant RX7 109 (-100002)) (by decide +kernel)) dX7_trace_13 ?_
    exact m_reti hx hb hr hlk rfl hP hS dX7_trace_15 (by simp only [g_X7_trace, if_pos c1_1]) rfl
  · obtain ⟨ja, hja, eja⟩ := nI_of c1_1
    have ba : zc ago = ja := by rw [eja, zc_nI hja]
    have ba2 : ago = nI (zc ago) := by rw [ba]; exact eja
    refine lv_iload_n hx hb dX7_trace_4 rfl (lv_at hl 2 rfl) ?_
    refine lv_iconst (v := nI 0) hx hb dX7_trace_5 (by decide) ?_
    refine lv_iconst (v := nI 2) hx hb dX7_trace_6 (by decide) ?_
    refine m_cSi (As := [.int part, .int (nI 0), .int (nI 2)]) (rest := []) ⟨hx, hb, hml, hown, hts⟩ (ct_X7_in l D a cI hJ N A P X part (nI 0) (nI 2)) (va_cwS 3 hts gX7_trace_X7_in rfl rfl rfl (by decide +kernel) ⟨Nat.le_of_ble_eq_true rfl, Nat.le_of_ble_eq_true rfl⟩) hK hP hS rfl hl.1 rfl (Nat.le_of_ble_eq_true rfl) dX7_trace_7 ⟨Nat.zero_le _, Nat.zero_le _⟩ (fun H locs hP hS => ?_)
    refine lv_if_ne (tgt := 16) hx hb dX7_trace_10 (by decide) (fun c10_2 => ?_) (fun c10_2 => ?_)
    · have bq := m_within (n := 2) (by decide) c10_2
      have bq1 := bq.1
      refine lv_iload_n hx hb dX7_trace_16 rfl (lv_at hl 1 rfl) ?_
      refine z_val (z := nI (zc ago)) ba2 ?_
      refine lv_aload_n hx hb dX7_trace_17 rfl (lv_at hl 0 rfl) ?_
      refine mgO0 hx hb hts hiX7 hown hK hP (hts (.fieldLink RX7 7 "BarrelProcessorModel" "s" "[I") (by decide +kernel)) dX7_trace_18 ?_
      refine lv_sipush (v := nI 292) hx hb dX7_trace_21 (by decide) ?_
      refine m_iald hx hb hK hP mG_s (j := 292) (by omega) (by decide) dX7_trace_24 ?_
      refine z_val (z := N 18 1) (zen_of zf_292) ?_
      refine z_val (z := nI (zc (N 18 1))) hI.2.2.2.2.2.2.2 ?_
      refine lv_icmp_ge (tgt := 45) hx hb dX7_trace_25 (by decide) (fun c25_3 => ?_) (fun c25_3 => ?_)
      · refine lv_ldc (v := (-100005)) hx hb hown (hts (.constant RX7 147 (-100005)) (by decide +kernel)) dX7_trace_45 ?_
        exact m_reti hx hb hr hlk rfl hP hS dX7_trace_47 (by simp only [g_X7_trace, if_neg c1_1, if_neg c10_2, if_pos c25_3]) rfl
      · have bt : zc ago < zc (N 18 1) := Nat.lt_of_not_le (fun q => c25_3 (nI_le q (by omega)))
        have bt2 := hI.2.2.2.2.2.2.1
        refine lv_aload_n hx hb dX7_trace_28 rfl (lv_at hl 0 rfl) ?_
        refine mgO0 hx hb hts hiX7 hown hK hP (hts (.fieldLink RX7 7 "BarrelProcessorModel" "s" "[I") (by decide +kernel)) dX7_trace_29 ?_
        refine lv_sipush (v := nI 293) hx hb dX7_trace_32 (by decide) ?_
        refine lv_iconst (v := nI 3) hx hb dX7_trace_35 (by decide) ?_
        refine lv_iload_n hx hb dX7_trace_36 rfl (lv_at hl 1 rfl) ?_
        refine z_val (z := nI (zc ago)) ba2 ?_
        refine lv_imul hx hb dX7_trace_37 ?_
        refine z_val (z := nI (3 * (zc ago))) (pk_mul _ _) ?_
        refine lv_iadd hx hb dX7_trace_38 ?_
        refine z_val (z := nI (293 + (3 * (zc ago)))) (nI_add _ _) ?_
        refine lv_iload_n hx hb dX7_trace_39 rfl (lv_at hl 2 rfl) ?_
        refine z_val (z := nI (zc part)) bq.2 ?_
        refine lv_iadd hx hb dX7_trace_40 ?_
        refine z_val (z := nI (293 + (3 * (zc ago)) + (zc part))) (nI_add _ _) ?_
        rw [show 293 + (3 * (zc ago)) + (zc part) = 293 + (3 * (zc ago) + (zc part)) by omega]
        refine m_iald hx hb hK hP mG_s (j := 293 + (3 * (zc ago) + (zc part))) (by omega) (by decide) dX7_trace_41 ?_
        refine z_val (z := N 19 (3 * (zc ago) + (zc part))) (zen_of (zf_pt _)) ?_
        refine lv_goto (tgt := 47) hx hb dX7_trace_42 (by decide) ?_
        exact m_reti hx hb hr hlk rfl hP hS dX7_trace_47 (by simp only [g_X7_trace, if_neg c1_1, if_neg c10_2, if_neg c25_3]) rfl
    · refine lv_ldc (v := (-100002)) hx hb hown (hts (.constant RX7 109 (-100002)) (by decide +kernel)) dX7_trace_13 ?_
      exact m_reti hx hb hr hlk rfl hP hS dX7_trace_15 (by simp only [g_X7_trace, if_neg c1_1, if_pos c10_2]) rfl
