def h_fill_rg_lp (t : Nat) (val : Int32) : Nat → Nat → zM → zM
  | 0, i, M => M
  | n + 1, i, M => h_fill_rg_lp t val n (i + 1) (zu M (t + 20) i val)
def h_fill_rg (t : Nat) (val : Int32) (M : zM) : zM := h_fill_rg_lp t val 4 0 M
set_option maxHeartbeats 4000000 in
set_option maxRecDepth 100000 in
theorem ct_fill_rg (l : Launch) (D : va_G) (a : Nat → Nat) (ca : Nat → ClassId) (hJ : zJ a) (Z : Nat → zM) (k : Nat) (M : zM) (t : Nat) (hk : k < 6) (ht : t < 4) (val : Int32) : zCv l yJ7_fill_53178 wsJ7_fill_53178 ({ frames := 0, cells := 0, slots := 0, locals := 0 } : Room) D a ca [.ref (a (19 * k + (6 + t))), .int val] (va_up Z k M) (va_up Z k (h_fill_rg t val M)) := by
  refine z_ofv (cc := cJ7_fill_53178) (maxL := 4) (own := RJ7) (by decide) rfl (Nat.le_of_ble_eq_true rfl) rfl (fun p e s m below meth c ls hx hb hr hml hts hown hlk hl hK hP hS => ?_)
  have hl : lv_has ls 4 [(0, .ref (a (19 * k + (6 + t)))), (1, .int val)] := hl
  have lp5 : ∀ (n : Nat) (i : Nat) (M : zM) (H : Heap) (locs : List Loc) (ls : Array Slot) (hn : i + n = 4) (hl : lv_has ls 4 [(0, .ref (a (19 * k + (6 + t)))), (1, .int val), (2, .int (nI i)), (3, .int (nI 4))]) (hP : va_P D vwCl (zW a ca (va_up Z k M)) H) (hS : va_S (zA a) s.heap H locs), W p l e ({ frames := 0, cells := 0, slots := 0, locals := 0 } : Room) s m ([.ref (a (19 * k + (6 + t))), .int val] : List Value).toArray below meth c H locs 0 0 (zQv below D a ca [.ref (a (19 * k + (6 + t))), .int val] s (va_up Z k (h_fill_rg_lp t val n i M))) (F0 m 5 ls []) := by
    intro n
    induction n with
    | zero =>
      intro i M H locs ls hn hl hP hS
      refine lv_iload_n hx hb dJ7_fill_53178_5 rfl (lv_at hl 2 rfl) ?_
      refine lv_iload_n hx hb dJ7_fill_53178_6 rfl (lv_at hl 3 rfl) ?_
      refine lv_icmp_ge (tgt := 20) hx hb dJ7_fill_53178_7 (by decide) (fun c7_1 => ?_) (fun c7_1 => absurd (nI_le (by omega) (by omega)) c7_1)
      exact z_retv hx hb hr hlk hP hS dJ7_fill_53178_20 (congrArg (va_up Z k) (by first | rfl | simp only [h_fill_rg_lp]))
    | succ n ih =>
      intro i M H locs ls hn hl hP hS
      refine lv_iload_n hx hb dJ7_fill_53178_5 rfl (lv_at hl 2 rfl) ?_
      refine lv_iload_n hx hb dJ7_fill_53178_6 rfl (lv_at hl 3 rfl) ?_
      refine lv_icmp_ge (tgt := 20) hx hb dJ7_fill_53178_7 (by decide) (fun c7_2 => absurd c7_2 (nI_ge (by omega) (by decide))) (fun c7_2 => ?_)
      refine lv_aload_n hx hb dJ7_fill_53178_10 rfl (lv_at hl 0 rfl) ?_
      refine lv_iload_n hx hb dJ7_fill_53178_11 rfl (lv_at hl 2 rfl) ?_
      refine lv_iload_n hx hb dJ7_fill_53178_12 rfl (lv_at hl 1 rfl) ?_
      refine z_iast (Z' := va_up Z k (zu M (t + 20) i val)) hx hb hK hP hJ hS (zG_rg hk ht) (j := i) (by omega) (by decide) dJ7_fill_53178_13 (zS_rg hk ht) (fun H locs hP hS => ?_)
      refine lv_iinc (v := nI (i + 1)) (lv' := [(2, .int (nI (i + 1))), (0, .ref (a (19 * k + (6 + t)))), (1, .int val), (3, .int (nI 4))]) hx hb dJ7_fill_53178_14 hl (k := 2) rfl (nI_add _ _) (by decide) rfl (fun ls hl => ?_)
      refine lv_goto (tgt := 5) hx hb dJ7_fill_53178_17 (by decide) ?_
      refine z_tov (Z2 := va_up Z k (h_fill_rg_lp t val n (i + 1) (zu M (t + 20) i val))) (congrArg (va_up Z k) (by first | rfl | simp only [h_fill_rg_lp])) ?_
      exact ih (i + 1) (zu M (t + 20) i val) _ _ _ (by omega) (lv_sub hl [1, 2, 0, 3] rfl) hP hS
  refine lv_iconst (v := nI 0) hx hb dJ7_fill_53178_0 (by decide) ?_
  refine lv_istore_n (lv' := [(2, .int (nI 0)), (0, .ref (a (19 * k + (6 + t)))), (1, .int val)]) hx hb dJ7_fill_53178_1 rfl hl (by decide) rfl (fun ls hl => ?_)
  refine lv_aload_n hx hb dJ7_fill_53178_2 rfl (lv_at hl 1 rfl) ?_
  refine va_alen (v := nI 4) hx hb hK.1 hP _ 0 (zG_rg hk ht) rfl rfl dJ7_fill_53178_3 ?_
  refine lv_istore_n (lv' := [(3, .int (nI 4)), (2, .int (nI 0)), (0, .ref (a (19 * k + (6 + t)))), (1, .int val)]) hx hb dJ7_fill_53178_4 rfl hl (by decide) rfl (fun ls hl => ?_)
  refine z_tov (Z2 := va_up Z k (h_fill_rg_lp t val 4 0 M)) (congrArg (va_up Z k) (by first | rfl | simp only [h_fill_rg])) ?_
  exact lp5 4 0 M _ _ _ (by omega) (lv_sub hl [2, 3, 1, 0] rfl) hP hS

def h_X0_startAt (t : Nat) (place : Int32) (M : zM) : zM := zu (zu (zu (zu (h_fill_rg t (nI 0) M) 0 t (nI 1)) 1 t place) 5 t (-1)) 8 t (nI 0)
set_option maxHeartbeats 4000000 in
set_option maxRecDepth 100000 in
theorem ct_X0_startAt (l : Launch) (D : va_G) (a : Nat → Nat) (ca : Nat → ClassId) (hJ : zJ a) (Z : Nat → zM) (k : Nat) (M : zM) (t : Nat) (hk : k < 6) (ht : t < 4) (place : Int32) : zCv l yX0_startAt wsX0_startAt ({ frames := 1, cells := 0, slots := 0, locals := 23 } : Room) D a ca [.ref (a (19 * k + (2 + t))), .int place] (va_up Z k M) (va_up Z k (h_X0_startAt t place M)) := by
  have hiX0 : ∀ w ∈ wsX00, w ∈ wsX0_startAt := by decide +kernel
  refine z_ofv (cc := cX0_startAt) (maxL := 2) (own := RX0) (by decide) rfl (Nat.le_of_ble_eq_true rfl) rfl (fun p e s m below meth c ls hx hb hr hml hts hown hlk hl hK hP hS => ?_)
  have hl : lv_has ls 2 [(0, .ref (a (19 * k + (2 + t)))), (1, .int place)] := hl
  refine lv_aload_n hx hb dX0_startAt_0 rfl (lv_at hl 0 rfl) ?_
  refine zgt0 hx hb hts hiX0 hown hK hP hk ht (hts (.fieldLink RX0 9 "BarrelProcessor$HardwareThread" "registers" "[I") (by decide +kernel)) dX0_startAt_1 ?_
  refine lv_iconst (v := nI 0) hx hb dX0_startAt_4 (by decide) ?_
  refine z_cSv (As := [.ref (a (19 * k + (6 + t))), .int (nI 0)]) (rest := []) ⟨hx, hb, hml, hown, hts⟩ (ct_fill_rg l D a ca hJ Z k M t hk ht (nI 0)) (va_cwS 2 hts gX0_startAt_J7_fill_53178 rfl rfl rfl (by decide +kernel) ⟨Nat.le_of_ble_eq_true rfl, Nat.le_of_ble_eq_true rfl⟩) hK hP hS rfl hl.1 rfl (Nat.le_of_ble_eq_true rfl) dX0_startAt_5 ⟨Nat.zero_le _, Nat.zero_le _⟩ (fun H locs hP hS => ?_)
  refine lv_aload_n hx hb dX0_startAt_8 rfl (lv_at hl 0 rfl) ?_
  refine lv_iconst (v := nI 1) hx hb dX0_startAt_9 (by decide) ?_
  refine zpt1 hx hb hts hiX0 hown hK hP hJ hS hk ht (hts (.fieldLink RX0 15 "BarrelProcessor$HardwareThread" "state" "I") (by decide +kernel)) dX0_startAt_10 (fun H locs hP hS => ?_)
  refine lv_aload_n hx hb dX0_startAt_13 rfl (lv_at hl 0 rfl) ?_
  refine lv_iload_n hx hb dX0_startAt_14 rfl (lv_at hl 1 rfl) ?_
  refine zpt2 hx hb hts hiX0 hown hK hP hJ hS hk ht (hts (.fieldLink RX0 28 "BarrelProcessor$HardwareThread" "programCounter" "I") (by decide +kernel)) dX0_startAt_15 (fun H locs hP hS => ?_)
  refine lv_aload_n hx hb dX0_startAt_18 rfl (lv_at hl 0 rfl) ?_
  refine lv_iconst (v := (-1)) hx hb dX0_startAt_19 (by decide) ?_
  refine zpt6 hx hb hts hiX0 hown hK hP hJ hS hk ht (hts (.fieldLink RX0 19 "BarrelProcessor$HardwareThread" "lastIssue" "I") (by decide +kernel)) dX0_startAt_20 (fun H locs hP hS => ?_)
  refine lv_aload_n hx hb dX0_startAt_23 rfl (lv_at hl 0 rfl) ?_
  refine lv_iconst (v := nI 0) hx hb dX0_startAt_24 (by decide) ?_
  refine zpt9 hx hb hts hiX0 hown hK hP hJ hS hk ht (hts (.fieldLink RX0 31 "BarrelProcessor$HardwareThread" "starvedNow" "I") (by decide +kernel)) dX0_startAt_25 (fun H locs hP hS => ?_)
  exact z_retv hx hb hr hlk hP hS dX0_startAt_28 (congrArg (va_up Z k) (by first | rfl | simp only [h_X0_startAt]))

def h_X0_haltNow (t : Nat) (M : zM) : zM := zu (zu M 0 t (nI 0)) 8 t (nI 0)
set_option maxHeartbeats 4000000 in
set_option maxRecDepth 100000 in
theorem ct_X0_haltNow (l : Launch) (D : va_G) (a : Nat → Nat) (ca : Nat → ClassId) (hJ : zJ a) (Z : Nat → zM) (k : Nat) (M : zM) (t : Nat) (hk : k < 6) (ht : t < 4) : zCv l yX0_haltNow wsX0_haltNow ({ frames := 0, cells := 0, slots := 0, locals := 0 } : Room) D a ca [.ref (a (19 * k + (2 + t)))] (va_up Z k M) (va_up Z k (h_X0_haltNow t M)) := by
  have hiX0 : ∀ w ∈ wsX00, w ∈ wsX0_haltNow := by decide +kernel
  refine z_ofv (cc := cX0_haltNow) (maxL := 1) (own := RX0) (by decide) rfl (Nat.le_of_ble_eq_true rfl) rfl (fun p e s m below meth c ls hx hb hr hml hts hown hlk hl hK hP hS => ?_)
  have hl : lv_has ls 1 [(0, .ref (a (19 * k + (2 + t))))] := hl
  refine lv_aload_n hx hb dX0_haltNow_0 rfl (lv_at hl 0 rfl) ?_
  refine lv_iconst (v := nI 0) hx hb dX0_haltNow_1 (by decide) ?_
  refine zpt1 hx hb hts hiX0 hown hK hP hJ hS hk ht (hts (.fieldLink RX0 15 "BarrelProcessor$HardwareThread" "state" "I") (by decide +kernel)) dX0_haltNow_2 (fun H locs hP hS => ?_)
  refine lv_aload_n hx hb dX0_haltNow_5 rfl (lv_at hl 0 rfl) ?_
  refine lv_iconst (v := nI 0) hx hb dX0_haltNow_6 (by decide) ?_
  refine zpt9 hx hb hts hiX0 hown hK hP hJ hS hk ht (hts (.fieldLink RX0 31 "BarrelProcessor$HardwareThread" "starvedNow" "I") (by decide +kernel)) dX0_haltNow_7 (fun H locs hP hS => ?_)
  exact z_retv hx hb hr hlk hP hS dX0_haltNow_10 (congrArg (va_up Z k) (by first | rfl | simp only [h_X0_haltNow]))

def h_X0_beginLoad (t : Nat) (register : Int32) (word : Int32) (due : Int32) (M : zM) : zM := zu (zu (zu (zu M 0 t (nI 2)) 2 t register) 3 t word) 4 t due
set_option maxHeartbeats 4000000 in
set_option maxRecDepth 100000 in
theorem ct_X0_beginLoad (l : Launch) (D : va_G) (a : Nat → Nat) (ca : Nat → ClassId) (hJ : zJ a) (Z : Nat → zM) (k : Nat) (M : zM) (t : Nat) (hk : k < 6) (ht : t < 4) (register : Int32) (word : Int32) (due : Int32) : zCv l yX0_beginLoad wsX0_beginLoad ({ frames := 0, cells := 0, slots := 0, locals := 0 } : Room) D a ca [.ref (a (19 * k + (2 + t))), .int register, .int word, .int due] (va_up Z k M) (va_up Z k (h_X0_beginLoad t register word due M)) := by
  have hiX0 : ∀ w ∈ wsX00, w ∈ wsX0_beginLoad := by decide +kernel
  refine z_ofv (cc := cX0_beginLoad) (maxL := 4) (own := RX0) (by decide) rfl (Nat.le_of_ble_eq_true rfl) rfl (fun p e s m below meth c ls hx hb hr hml hts hown hlk hl hK hP hS => ?_)
  have hl : lv_has ls 4 [(0, .ref (a (19 * k + (2 + t)))), (1, .int register), (2, .int word), (3, .int due)] := hl
  refine lv_aload_n hx hb dX0_beginLoad_0 rfl (lv_at hl 0 rfl) ?_
  refine lv_iconst (v := nI 2) hx hb dX0_beginLoad_1 (by decide) ?_
  refine zpt1 hx hb hts hiX0 hown hK hP hJ hS hk ht (hts (.fieldLink RX0 15 "BarrelProcessor$HardwareThread" "state" "I") (by decide +kernel)) dX0_beginLoad_2 (fun H locs hP hS => ?_)
  refine lv_aload_n hx hb dX0_beginLoad_5 rfl (lv_at hl 0 rfl) ?_
  refine lv_iload_n hx hb dX0_beginLoad_6 rfl (lv_at hl 1 rfl) ?_
  refine zpt3 hx hb hts hiX0 hown hK hP hJ hS hk ht (hts (.fieldLink RX0 34 "BarrelProcessor$HardwareThread" "loadRegister" "I") (by decide +kernel)) dX0_beginLoad_7 (fun H locs hP hS => ?_)
  refine lv_aload_n hx hb dX0_beginLoad_10 rfl (lv_at hl 0 rfl) ?_
  refine lv_iload_n hx hb dX0_beginLoad_11 rfl (lv_at hl 2 rfl) ?_
  refine zpt4 hx hb hts hiX0 hown hK hP hJ hS hk ht (hts (.fieldLink RX0 37 "BarrelProcessor$HardwareThread" "loadWord" "I") (by decide +kernel)) dX0_beginLoad_12 (fun H locs hP hS => ?_)
  refine lv_aload_n hx hb dX0_beginLoad_15 rfl (lv_at hl 0 rfl) ?_
  refine lv_iload_n hx hb dX0_beginLoad_16 rfl (lv_at hl 3 rfl) ?_
  refine zpt5 hx hb hts hiX0 hown hK hP hJ hS hk ht (hts (.fieldLink RX0 40 "BarrelProcessor$HardwareThread" "loadDue" "I") (by decide +kernel)) dX0_beginLoad_17 (fun H locs hP hS => ?_)
  exact z_retv hx hb hr hlk hP hS dX0_beginLoad_20 (congrArg (va_up Z k) (by first | rfl | simp only [h_X0_beginLoad]))

def g_X0_hasLoadDue (t : Nat) (cycle : Int32) (M : zM) : Int32 := if (M 0 t) = (nI 2) then if cycle < (M 4 t) then nI 0 else nI 1 else nI 0
set_option maxHeartbeats 4000000 in
set_option maxRecDepth 100000 in
theorem ct_X0_hasLoadDue (l : Launch) (D : va_G) (a : Nat → Nat) (ca : Nat → ClassId) (hJ : zJ a) (Z : Nat → zM) (k : Nat) (M : zM) (t : Nat) (hk : k < 6) (ht : t < 4) (cycle : Int32) : zCi l yX0_hasLoadDue wsX0_hasLoadDue ({ frames := 0, cells := 0, slots := 0, locals := 0 } : Room) D a ca [.ref (a (19 * k + (2 + t))), .int cycle] (va_up Z k M) (g_X0_hasLoadDue t cycle M) (va_up Z k M) := by
  have hiX0 : ∀ w ∈ wsX00, w ∈ wsX0_hasLoadDue := by decide +kernel
  refine z_ofi (cc := cX0_hasLoadDue) (maxL := 2) (own := RX0) (by decide) rfl (Nat.le_of_ble_eq_true rfl) rfl (fun p e s m below meth c ls hx hb hr hml hts hown hlk hl hK hP hS => ?_)
  have hl : lv_has ls 2 [(0, .ref (a (19 * k + (2 + t)))), (1, .int cycle)] := hl
  refine lv_aload_n hx hb dX0_hasLoadDue_0 rfl (lv_at hl 0 rfl) ?_
  refine zgt1 hx hb hts hiX0 hown hK hP hk ht (hts (.fieldLink RX0 15 "BarrelProcessor$HardwareThread" "state" "I") (by decide +kernel)) dX0_hasLoadDue_1 ?_
  refine lv_iconst (v := nI 2) hx hb dX0_hasLoadDue_4 (by decide) ?_
  refine lv_icmp_ne (tgt := 20) hx hb dX0_hasLoadDue_5 (by decide) (fun c5_1 => ?_) (fun c5_1 => ?_)
  · refine lv_iconst (v := nI 0) hx hb dX0_hasLoadDue_20 (by decide) ?_
    exact z_reti hx hb hr hlk (by first | rfl | decide) hP hS dX0_hasLoadDue_21 (by simp only [g_X0_hasLoadDue, if_neg c5_1]) rfl
  · refine lv_aload_n hx hb dX0_hasLoadDue_8 rfl (lv_at hl 0 rfl) ?_
    refine zgt5 hx hb hts hiX0 hown hK hP hk ht (hts (.fieldLink RX0 40 "BarrelProcessor$HardwareThread" "loadDue" "I") (by decide +kernel)) dX0_hasLoadDue_9 ?_
    refine lv_iload_n hx hb dX0_hasLoadDue_12 rfl (lv_at hl 1 rfl) ?_
    refine lv_icmp_gt (tgt := 20) hx hb dX0_hasLoadDue_13 (by decide) (fun c13_2 => ?_) (fun c13_2 => ?_)
    · refine lv_iconst (v := nI 0) hx hb dX0_hasLoadDue_20 (by decide) ?_
      exact z_reti hx hb hr hlk (by first | rfl | decide) hP hS dX0_hasLoadDue_21 (by simp only [g_X0_hasLoadDue, if_pos c5_1, if_pos c13_2]) rfl
    · refine lv_iconst (v := nI 1) hx hb dX0_hasLoadDue_16 (by decide) ?_
      refine lv_goto (tgt := 21) hx hb dX0_hasLoadDue_17 (by decide) ?_
      exact z_reti hx hb hr hlk (by first | rfl | decide) hP hS dX0_hasLoadDue_21 (by simp only [g_X0_hasLoadDue, if_pos c5_1, if_neg c13_2]) rfl

def h_X0_countCycle (t : Nat) (isStarved : Int32) (M : zM) : zM := if isStarved = 0 then zu (zu M 8 t (nI 0)) 9 t (if ((zu M 8 t (nI 0)) 9 t) < ((zu M 8 t (nI 0)) 8 t) then ((zu M 8 t (nI 0)) 8 t) else ((zu M 8 t (nI 0)) 9 t)) else zu (zu M 8 t ((M 8 t) + (nI 1))) 9 t (if ((zu M 8 t ((M 8 t) + (nI 1))) 9 t) < ((zu M 8 t ((M 8 t) + (nI 1))) 8 t) then ((zu M 8 t ((M 8 t) + (nI 1))) 8 t) else ((zu M 8 t ((M 8 t) + (nI 1))) 9 t))
set_option maxHeartbeats 4000000 in
set_option maxRecDepth 100000 in
theorem ct_X0_countCycle (l : Launch) (D : va_G) (a : Nat → Nat) (ca : Nat → ClassId) (hJ : zJ a) (Z : Nat → zM) (k : Nat) (M : zM) (t : Nat) (hk : k < 6) (ht : t < 4) (isStarved : Int32) : zCv l yX0_countCycle wsX0_countCycle ({ frames := 1, cells := 0, slots := 0, locals := 14 } : Room) D a ca [.ref (a (19 * k + (2 + t))), .int isStarved] (va_up Z k M) (va_up Z k (h_X0_countCycle t isStarved M)) := by
  have hiX0 : ∀ w ∈ wsX00, w ∈ wsX0_countCycle := by decide +kernel
  refine z_ofv (cc := cX0_countCycle) (maxL := 2) (own := RX0) (by decide) rfl (Nat.le_of_ble_eq_true rfl) rfl (fun p e s m below meth c ls hx hb hr hml hts hown hlk hl hK hP hS => ?_)
  have hl : lv_has ls 2 [(0, .ref (a (19 * k + (2 + t)))), (1, .int isStarved)] := hl
  refine lv_aload_n hx hb dX0_countCycle_0 rfl (lv_at hl 0 rfl) ?_
  refine lv_iload_n hx hb dX0_countCycle_1 rfl (lv_at hl 1 rfl) ?_
  refine lv_if_eq (tgt := 14) hx hb dX0_countCycle_2 (by decide) (fun c2_1 => ?_) (fun c2_1 => ?_)
  · refine lv_iconst (v := nI 0) hx hb dX0_countCycle_14 (by decide) ?_
    refine zpt9 hx hb hts hiX0 hown hK hP hJ hS hk ht (hts (.fieldLink RX0 31 "BarrelProcessor$HardwareThread" "starvedNow" "I") (by decide +kernel)) dX0_countCycle_15 (fun H locs hP hS => ?_)
    refine lv_aload_n hx hb dX0_countCycle_18 rfl (lv_at hl 0 rfl) ?_
    refine lv_aload_n hx hb dX0_countCycle_19 rfl (lv_at hl 0 rfl) ?_
    refine zgt10 hx hb hts hiX0 hown hK hP hk ht (hts (.fieldLink RX0 43 "BarrelProcessor$HardwareThread" "longestStarved" "I") (by decide +kernel)) dX0_countCycle_20 ?_
    refine lv_aload_n hx hb dX0_countCycle_23 rfl (lv_at hl 0 rfl) ?_
    refine zgt9 hx hb hts hiX0 hown hK hP hk ht (hts (.fieldLink RX0 31 "BarrelProcessor$HardwareThread" "starvedNow" "I") (by decide +kernel)) dX0_countCycle_24 ?_
    refine va_mmax hx hb (hml.trans hl.1.symm) hown (hts (.methodLink RX0 46 Lib.Math.max.name) (by decide +kernel)) (hts (.static Lib.Math.max.name) (by decide +kernel)) (hts (.initialized "java/lang/Math") (by decide +kernel)) (hts (.code Lib.Math.max.name Lib.Math.max.code 2 (some .int)) (by decide +kernel)) (Nat.le_of_ble_eq_true rfl) (Nat.le_of_ble_eq_true rfl) (Nat.zero_le _) (Nat.zero_le _) dX0_countCycle_27 ?_
    refine zpt10 hx hb hts hiX0 hown hK hP hJ hS hk ht (hts (.fieldLink RX0 43 "BarrelProcessor$HardwareThread" "longestStarved" "I") (by decide +kernel)) dX0_countCycle_30 (fun H locs hP hS => ?_)
    exact z_retv hx hb hr hlk hP hS dX0_countCycle_33 (congrArg (va_up Z k) (by simp only [h_X0_countCycle, if_pos c2_1]))
  · refine lv_aload_n hx hb dX0_countCycle_5 rfl (lv_at hl 0 rfl) ?_
    refine zgt9 hx hb hts hiX0 hown hK hP hk ht (hts (.fieldLink RX0 31 "BarrelProcessor$HardwareThread" "starvedNow" "I") (by decide +kernel)) dX0_countCycle_6 ?_
    refine lv_iconst (v := nI 1) hx hb dX0_countCycle_9 (by decide) ?_
    refine lv_iadd hx hb dX0_countCycle_10 ?_
    refine lv_goto (tgt := 15) hx hb dX0_countCycle_11 (by decide) ?_
    refine zpt9 hx hb hts hiX0 hown hK hP hJ hS hk ht (hts (.fieldLink RX0 31 "BarrelProcessor$HardwareThread" "starvedNow" "I") (by decide +kernel)) dX0_countCycle_15 (fun H locs hP hS => ?_)
    refine lv_aload_n hx hb dX0_countCycle_18 rfl (lv_at hl 0 rfl) ?_
    refine lv_aload_n hx hb dX0_countCycle_19 rfl (lv_at hl 0 rfl) ?_
    refine zgt10 hx hb hts hiX0 hown hK hP hk ht (hts (.fieldLink RX0 43 "BarrelProcessor$HardwareThread" "longestStarved" "I") (by decide +kernel)) dX0_countCycle_20 ?_
    refine lv_aload_n hx hb dX0_countCycle_23 rfl (lv_at hl 0 rfl) ?_
    refine zgt9 hx hb hts hiX0 hown hK hP hk ht (hts (.fieldLink RX0 31 "BarrelProcessor$HardwareThread" "starvedNow" "I") (by decide +kernel)) dX0_countCycle_24 ?_
    refine va_mmax hx hb (hml.trans hl.1.symm) hown (hts (.methodLink RX0 46 Lib.Math.max.name) (by decide +kernel)) (hts (.static Lib.Math.max.name) (by decide +kernel)) (hts (.initialized "java/lang/Math") (by decide +kernel)) (hts (.code Lib.Math.max.name Lib.Math.max.code 2 (some .int)) (by decide +kernel)) (Nat.le_of_ble_eq_true rfl) (Nat.le_of_ble_eq_true rfl) (Nat.zero_le _) (Nat.zero_le _) dX0_countCycle_27 ?_
    refine zpt10 hx hb hts hiX0 hown hK hP hJ hS hk ht (hts (.fieldLink RX0 43 "BarrelProcessor$HardwareThread" "longestStarved" "I") (by decide +kernel)) dX0_countCycle_30 (fun H locs hP hS => ?_)
    exact z_retv hx hb hr hlk hP hS dX0_countCycle_33 (congrArg (va_up Z k) (by simp only [h_X0_countCycle, if_neg c2_1]))

def h_X0_copyFrom (Z : Nat → zM) (k2 : Nat) (t : Nat) (M : zM) : zM := zu (zu (zu (zu (zu (zu (zu (zu (zu (zu (zr M (t + 20) (va_cpy ((Z k2) (t + 20)) (M (t + 20)) 0 0 4)) 0 t ((Z k2) 0 t)) 1 t ((Z k2) 1 t)) 2 t ((Z k2) 2 t)) 3 t ((Z k2) 3 t)) 4 t ((Z k2) 4 t)) 5 t ((Z k2) 5 t)) 6 t ((Z k2) 6 t)) 7 t ((Z k2) 7 t)) 8 t ((Z k2) 8 t)) 9 t ((Z k2) 9 t)
set_option maxHeartbeats 4000000 in
set_option maxRecDepth 100000 in
theorem ct_X0_copyFrom (l : Launch) (D : va_G) (a : Nat → Nat) (ca : Nat → ClassId) (hJ : zJ a) (Z : Nat → zM) (k : Nat) (M : zM) (t : Nat) (hk : k < 6) (ht : t < 4) (k2 : Nat) (hk2 : k2 < 6) (hne : k2 ≠ k) : zCv l yX0_copyFrom wsX0_copyFrom ({ frames := 1, cells := 0, slots := 0, locals := 40 } : Room) D a ca [.ref (a (19 * k + (2 + t))), .ref (a (19 * k2 + (2 + t)))] (va_up Z k M) (va_up Z k (h_X0_copyFrom Z k2 t M)) := by
  have hiX0 : ∀ w ∈ wsX00, w ∈ wsX0_copyFrom := by decide +kernel
  refine z_ofv (cc := cX0_copyFrom) (maxL := 2) (own := RX0) (by decide) rfl (Nat.le_of_ble_eq_true rfl) rfl (fun p e s m below meth c ls hx hb hr hml hts hown hlk hl hK hP hS => ?_)
  have hl : lv_has ls 2 [(0, .ref (a (19 * k + (2 + t)))), (1, .ref (a (19 * k2 + (2 + t))))] := hl
  refine lv_aload_n hx hb dX0_copyFrom_0 rfl (lv_at hl 1 rfl) ?_
  refine zot0 hx hb hts hiX0 hown hK hP hk2 ht hne (hts (.fieldLink RX0 9 "BarrelProcessor$HardwareThread" "registers" "[I") (by decide +kernel)) dX0_copyFrom_1 ?_
  refine lv_iconst (v := nI 0) hx hb dX0_copyFrom_4 (by decide) ?_
  refine lv_aload_n hx hb dX0_copyFrom_5 rfl (lv_at hl 0 rfl) ?_
  refine zgt0 hx hb hts hiX0 hown hK hP hk ht (hts (.fieldLink RX0 9 "BarrelProcessor$HardwareThread" "registers" "[I") (by decide +kernel)) dX0_copyFrom_6 ?_
  refine lv_iconst (v := nI 0) hx hb dX0_copyFrom_9 (by decide) ?_
  refine lv_iconst (v := nI 4) hx hb dX0_copyFrom_10 (by decide) ?_
  refine z_copy (Z' := va_up Z k (zr M (t + 20) (va_cpy ((Z k2) (t + 20)) (M (t + 20)) 0 0 4))) hx hb (hml.trans hl.1.symm) hown (hts (.methodLink RX0 52 arraycopyName) (by decide +kernel)) (hts (.native arraycopyName) (by decide +kernel)) (hts (.static arraycopyName) (by decide +kernel)) (hts (.initialized "java/lang/System") (by decide +kernel)) hK hP hJ hS (zH hne (zG_rg hk2 ht)) (zG_rg hk ht) (sp := 0) (dp := 0) (n := 4) (by omega) (by omega) (by decide) (by decide) (Nat.le_of_ble_eq_true rfl) (Nat.le_of_ble_eq_true rfl) dX0_copyFrom_11 (zS_rg hk ht) (fun H locs hP hS => ?_)
  refine lv_aload_n hx hb dX0_copyFrom_14 rfl (lv_at hl 0 rfl) ?_
  refine lv_aload_n hx hb dX0_copyFrom_15 rfl (lv_at hl 1 rfl) ?_
  refine zot1 hx hb hts hiX0 hown hK hP hk2 ht hne (hts (.fieldLink RX0 15 "BarrelProcessor$HardwareThread" "state" "I") (by decide +kernel)) dX0_copyFrom_16 ?_
  refine zpt1 hx hb hts hiX0 hown hK hP hJ hS hk ht (hts (.fieldLink RX0 15 "BarrelProcessor$HardwareThread" "state" "I") (by decide +kernel)) dX0_copyFrom_19 (fun H locs hP hS => ?_)
  refine lv_aload_n hx hb dX0_copyFrom_22 rfl (lv_at hl 0 rfl) ?_
  refine lv_aload_n hx hb dX0_copyFrom_23 rfl (lv_at hl 1 rfl) ?_
  refine zot2 hx hb hts hiX0 hown hK hP hk2 ht hne (hts (.fieldLink RX0 28 "BarrelProcessor$HardwareThread" "programCounter" "I") (by decide +kernel)) dX0_copyFrom_24 ?_
  refine zpt2 hx hb hts hiX0 hown hK hP hJ hS hk ht (hts (.fieldLink RX0 28 "BarrelProcessor$HardwareThread" "programCounter" "I") (by decide +kernel)) dX0_copyFrom_27 (fun H locs hP hS => ?_)
  refine lv_aload_n hx hb dX0_copyFrom_30 rfl (lv_at hl 0 rfl) ?_
  refine lv_aload_n hx hb dX0_copyFrom_31 rfl (lv_at hl 1 rfl) ?_
  refine zot3 hx hb hts hiX0 hown hK hP hk2 ht hne (hts (.fieldLink RX0 34 "BarrelProcessor$HardwareThread" "loadRegister" "I") (by decide +kernel)) dX0_copyFrom_32 ?_
  refine zpt3 hx hb hts hiX0 hown hK hP hJ hS hk ht (hts (.fieldLink RX0 34 "BarrelProcessor$HardwareThread" "loadRegister" "I") (by decide +kernel)) dX0_copyFrom_35 (fun H locs hP hS => ?_)
  refine lv_aload_n hx hb dX0_copyFrom_38 rfl (lv_at hl 0 rfl) ?_
  refine lv_aload_n hx hb dX0_copyFrom_39 rfl (lv_at hl 1 rfl) ?_
  refine zot4 hx hb hts hiX0 hown hK hP hk2 ht hne (hts (.fieldLink RX0 37 "BarrelProcessor$HardwareThread" "loadWord" "I") (by decide +kernel)) dX0_copyFrom_40 ?_
  refine zpt4 hx hb hts hiX0 hown hK hP hJ hS hk ht (hts (.fieldLink RX0 37 "BarrelProcessor$HardwareThread" "loadWord" "I") (by decide +kernel)) dX0_copyFrom_43 (fun H locs hP hS => ?_)
  refine lv_aload_n hx hb dX0_copyFrom_46 rfl (lv_at hl 0 rfl) ?_
  refine lv_aload_n hx hb dX0_copyFrom_47 rfl (lv_at hl 1 rfl) ?_
  refine zot5 hx hb hts hiX0 hown hK hP hk2 ht hne (hts (.fieldLink RX0 40 "BarrelProcessor$HardwareThread" "loadDue" "I") (by decide +kernel)) dX0_copyFrom_48 ?_
  refine zpt5 hx hb hts hiX0 hown hK hP hJ hS hk ht (hts (.fieldLink RX0 40 "BarrelProcessor$HardwareThread" "loadDue" "I") (by decide +kernel)) dX0_copyFrom_51 (fun H locs hP hS => ?_)
  refine lv_aload_n hx hb dX0_copyFrom_54 rfl (lv_at hl 0 rfl) ?_
  refine lv_aload_n hx hb dX0_copyFrom_55 rfl (lv_at hl 1 rfl) ?_
  refine zot6 hx hb hts hiX0 hown hK hP hk2 ht hne (hts (.fieldLink RX0 19 "BarrelProcessor$HardwareThread" "lastIssue" "I") (by decide +kernel)) dX0_copyFrom_56 ?_
  refine zpt6 hx hb hts hiX0 hown hK hP hJ hS hk ht (hts (.fieldLink RX0 19 "BarrelProcessor$HardwareThread" "lastIssue" "I") (by decide +kernel)) dX0_copyFrom_59 (fun H locs hP hS => ?_)
  refine lv_aload_n hx hb dX0_copyFrom_62 rfl (lv_at hl 0 rfl) ?_
  refine lv_aload_n hx hb dX0_copyFrom_63 rfl (lv_at hl 1 rfl) ?_
  refine zot7 hx hb hts hiX0 hown hK hP hk2 ht hne (hts (.fieldLink RX0 58 "BarrelProcessor$HardwareThread" "executed" "I") (by decide +kernel)) dX0_copyFrom_64 ?_
  refine zpt7 hx hb hts hiX0 hown hK hP hJ hS hk ht (hts (.fieldLink RX0 58 "BarrelProcessor$HardwareThread" "executed" "I") (by decide +kernel)) dX0_copyFrom_67 (fun H locs hP hS => ?_)
  refine lv_aload_n hx hb dX0_copyFrom_70 rfl (lv_at hl 0 rfl) ?_
  refine lv_aload_n hx hb dX0_copyFrom_71 rfl (lv_at hl 1 rfl) ?_
  refine zot8 hx hb hts hiX0 hown hK hP hk2 ht hne (hts (.fieldLink RX0 61 "BarrelProcessor$HardwareThread" "lent" "I") (by decide +kernel)) dX0_copyFrom_72 ?_
  refine zpt8 hx hb hts hiX0 hown hK hP hJ hS hk ht (hts (.fieldLink RX0 61 "BarrelProcessor$HardwareThread" "lent" "I") (by decide +kernel)) dX0_copyFrom_75 (fun H locs hP hS => ?_)
  refine lv_aload_n hx hb dX0_copyFrom_78 rfl (lv_at hl 0 rfl) ?_
  refine lv_aload_n hx hb dX0_copyFrom_79 rfl (lv_at hl 1 rfl) ?_
  refine zot9 hx hb hts hiX0 hown hK hP hk2 ht hne (hts (.fieldLink RX0 31 "BarrelProcessor$HardwareThread" "starvedNow" "I") (by decide +kernel)) dX0_copyFrom_80 ?_
  refine zpt9 hx hb hts hiX0 hown hK hP hJ hS hk ht (hts (.fieldLink RX0 31 "BarrelProcessor$HardwareThread" "starvedNow" "I") (by decide +kernel)) dX0_copyFrom_83 (fun H locs hP hS => ?_)
  refine lv_aload_n hx hb dX0_copyFrom_86 rfl (lv_at hl 0 rfl) ?_
  refine lv_aload_n hx hb dX0_copyFrom_87 rfl (lv_at hl 1 rfl) ?_
  refine zot10 hx hb hts hiX0 hown hK hP hk2 ht hne (hts (.fieldLink RX0 43 "BarrelProcessor$HardwareThread" "longestStarved" "I") (by decide +kernel)) dX0_copyFrom_88 ?_
  refine zpt10 hx hb hts hiX0 hown hK hP hJ hS hk ht (hts (.fieldLink RX0 43 "BarrelProcessor$HardwareThread" "longestStarved" "I") (by decide +kernel)) dX0_copyFrom_91 (fun H locs hP hS => ?_)
  exact z_retv hx hb hr hlk hP hS dX0_copyFrom_94 (congrArg (va_up Z k) (by first | rfl | simp only [h_X0_copyFrom]))
