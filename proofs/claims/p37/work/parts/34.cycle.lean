def h_X3_finishLoads_lp  : Nat → Nat → zM → zM
  | 0, i, M => M
  | n + 1, i, M => if (g_X0_hasLoadDue i (M 16 0) M) = 0 then h_X3_finishLoads_lp n (i + 1) M else h_X3_finishLoads_lp n (i + 1) (zu (zu M (i + 20) (zc (M 2 i)) (M 13 (zc (M 3 i)))) 0 i (nI 1))
def h_X3_finishLoads  (M : zM) : zM := h_X3_finishLoads_lp 4 0 M
set_option maxHeartbeats 4000000 in
set_option maxRecDepth 100000 in
theorem ct_X3_finishLoads (l : Launch) (D : va_G) (a : Nat → Nat) (ca : Nat → ClassId) (hJ : zJ a) (Z : Nat → zM) (k : Nat) (M : zM) (hk : k < 6) (hI : zOK M) : zCv l yX3_finishLoads wsX3_finishLoads ({ frames := 1, cells := 0, slots := 0, locals := 21 } : Room) D a ca [.ref (a (19 * k))] (va_up Z k M) (va_up Z k (h_X3_finishLoads M)) := by
  have hiX0 : ∀ w ∈ wsX00, w ∈ wsX3_finishLoads := by decide +kernel
  have hiX3 : ∀ w ∈ wsX30, w ∈ wsX3_finishLoads := by decide +kernel
  refine z_ofv (cc := cX3_finishLoads) (maxL := 3) (own := RX3) (by decide) rfl (Nat.le_of_ble_eq_true rfl) rfl (fun p e s m below meth c ls hx hb hr hml hts hown hlk hl hK hP hS => ?_)
  have hl : lv_has ls 3 [(0, .ref (a (19 * k)))] := hl
  have lp2 : ∀ (n : Nat) (i : Nat) (M : zM) (H : Heap) (locs : List Loc) (ls : Array Slot) (hn : i + n = 4) (hI : zOK M) (hl : lv_has ls 3 [(0, .ref (a (19 * k))), (1, .int (nI i))]) (hP : va_P D vwCl (zW a ca (va_up Z k M)) H) (hS : va_S (zA a) s.heap H locs), W p l e ({ frames := 1, cells := 0, slots := 0, locals := 21 } : Room) s m ([.ref (a (19 * k))] : List Value).toArray below meth c H locs 0 0 (zQv below D a ca [.ref (a (19 * k))] s (va_up Z k (h_X3_finishLoads_lp n i M))) (F0 m 2 ls []) := by
    intro n
    induction n with
    | zero =>
      intro i M H locs ls hn hI hl hP hS
      refine lv_iload_n hx hb dX3_finishLoads_2 rfl (lv_at hl 1 rfl) ?_
      refine lv_iconst (v := nI 4) hx hb dX3_finishLoads_3 (by decide) ?_
      refine lv_icmp_ge (tgt := 54) hx hb dX3_finishLoads_4 (by decide) (fun c4_1 => ?_) (fun c4_1 => absurd (nI_le (by omega) (by omega)) c4_1)
      exact z_retv hx hb hr hlk hP hS dX3_finishLoads_54 (congrArg (va_up Z k) (by first | rfl | simp only [h_X3_finishLoads_lp]))
    | succ n ih =>
      intro i M H locs ls hn hI hl hP hS
      refine lv_iload_n hx hb dX3_finishLoads_2 rfl (lv_at hl 1 rfl) ?_
      refine lv_iconst (v := nI 4) hx hb dX3_finishLoads_3 (by decide) ?_
      refine lv_icmp_ge (tgt := 54) hx hb dX3_finishLoads_4 (by decide) (fun c4_2 => absurd c4_2 (nI_ge (by omega) (by decide))) (fun c4_2 => ?_)
      refine lv_aload_n hx hb dX3_finishLoads_7 rfl (lv_at hl 0 rfl) ?_
      refine zgm0 hx hb hts hiX3 hown hK hP hk (hts (.fieldLink RX3 11 "BarrelProcessor$Machine" "threads" "[LBarrelProcessor$HardwareThread;") (by decide +kernel)) dX3_finishLoads_8 ?_
      refine lv_iload_n hx hb dX3_finishLoads_11 rfl (lv_at hl 1 rfl) ?_
      refine z_aat hx hb hK hP hk (show i < 4 by omega) dX3_finishLoads_12 ?_
      refine lv_astore_n (lv' := [(2, .ref (a (19 * k + (2 + i)))), (0, .ref (a (19 * k))), (1, .int (nI i))]) hx hb dX3_finishLoads_13 rfl hl (by decide) rfl (fun ls hl => ?_)
      refine lv_aload_n hx hb dX3_finishLoads_14 rfl (lv_at hl 0 rfl) ?_
      refine lv_aload_n hx hb dX3_finishLoads_15 rfl (lv_at hl 1 rfl) ?_
      refine zgm7 hx hb hts hiX3 hown hK hP hk (hts (.fieldLink RX3 62 "BarrelProcessor$Machine" "cycle" "I") (by decide +kernel)) dX3_finishLoads_16 ?_
      refine z_cVi (As := [.int (M 16 0)]) (rest := []) ⟨hx, hb, hml, hown, hts⟩ (ct_X0_hasLoadDue l D a ca hJ Z k M i hk (show i < 4 by omega) (M 16 0)) (cwV 1 hts gX3_finishLoads_X0_hasLoadDue rfl rfl rfl (by decide +kernel) ⟨Nat.le_of_ble_eq_true rfl, Nat.le_of_ble_eq_true rfl⟩) hK hP hS (va_recv (ci := 0) hK.1 hP rfl (zG_t hk (show i < 4 by omega))) rfl hl.1 rfl (Nat.le_of_ble_eq_true rfl) dX3_finishLoads_19 ⟨Nat.zero_le _, Nat.zero_le _⟩ (fun H locs hP hS => ?_)
      refine lv_if_eq (tgt := 48) hx hb dX3_finishLoads_22 (by decide) (fun c22_3 => ?_) (fun c22_3 => ?_)
      · refine lv_iinc (v := nI (i + 1)) (lv' := [(1, .int (nI (i + 1))), (2, .ref (a (19 * k + (2 + i)))), (0, .ref (a (19 * k)))]) hx hb dX3_finishLoads_48 hl (k := 2) rfl (nI_add _ _) (by decide) rfl (fun ls hl => ?_)
        refine lv_goto (tgt := 2) hx hb dX3_finishLoads_51 (by decide) ?_
        refine z_tov (Z2 := va_up Z k (h_X3_finishLoads_lp n (i + 1) M)) (congrArg (va_up Z k) (by simp only [h_X3_finishLoads_lp, if_pos c22_3])) ?_
        exact ih (i + 1) M _ _ _ (by omega) (by first | exact hI | exact zOK_u (by omega) (by omega) (by omega) (zOK_u (by omega) (by omega) (by omega) hI)) (lv_sub hl [2, 0] rfl) hP hS
      · refine lv_aload_n hx hb dX3_finishLoads_25 rfl (lv_at hl 0 rfl) ?_
        refine znt0 hx hb hts hiX0 hown hK hP hk (show i < 4 by omega) (zn_RX3_140 hK) dX3_finishLoads_26 ?_
        refine lv_aload_n hx hb dX3_finishLoads_29 rfl (lv_at hl 0 rfl) ?_
        refine znt3 hx hb hts hiX0 hown hK hP hk (show i < 4 by omega) (zn_RX3_143 hK) dX3_finishLoads_30 ?_
        refine z_val (z := nI (zc (M 2 i))) (hI.1 i (by omega)).2 ?_
        refine lv_aload_n hx hb dX3_finishLoads_33 rfl (lv_at hl 1 rfl) ?_
        refine zgm3 hx hb hts hiX3 hown hK hP hk (hts (.fieldLink RX3 28 "BarrelProcessor$Machine" "words" "[I") (by decide +kernel)) dX3_finishLoads_34 ?_
        refine lv_aload_n hx hb dX3_finishLoads_37 rfl (lv_at hl 0 rfl) ?_
        refine znt4 hx hb hts hiX0 hown hK hP hk (show i < 4 by omega) (zn_RX3_146 hK) dX3_finishLoads_38 ?_
        refine z_val (z := nI (zc (M 3 i))) (hI.2.1 i (by omega)).2 ?_
        refine z_iald hx hb hK hP (zG_wd hk) (j := zc (M 3 i)) (hI.2.1 i (by omega)).1 (by decide) dX3_finishLoads_41 ?_
        refine z_iast (Z' := va_up Z k (zu M (i + 20) (zc (M 2 i)) (M 13 (zc (M 3 i))))) hx hb hK hP hJ hS (zG_rg hk (show i < 4 by omega)) (j := zc (M 2 i)) (hI.1 i (by omega)).1 (by decide) dX3_finishLoads_42 (zS_rg hk (show i < 4 by omega)) (fun H locs hP hS => ?_)
        refine lv_aload_n hx hb dX3_finishLoads_43 rfl (lv_at hl 0 rfl) ?_
        refine lv_iconst (v := nI 1) hx hb dX3_finishLoads_44 (by decide) ?_
        refine zqt1 hx hb hts hiX0 hown hK hP hJ hS hk (show i < 4 by omega) (zn_RX3_102 hK) dX3_finishLoads_45 (fun H locs hP hS => ?_)
        refine lv_iinc (v := nI (i + 1)) (lv' := [(1, .int (nI (i + 1))), (2, .ref (a (19 * k + (2 + i)))), (0, .ref (a (19 * k)))]) hx hb dX3_finishLoads_48 hl (k := 2) rfl (nI_add _ _) (by decide) rfl (fun ls hl => ?_)
        refine lv_goto (tgt := 2) hx hb dX3_finishLoads_51 (by decide) ?_
        refine z_tov (Z2 := va_up Z k (h_X3_finishLoads_lp n (i + 1) (zu (zu M (i + 20) (zc (M 2 i)) (M 13 (zc (M 3 i)))) 0 i (nI 1)))) (congrArg (va_up Z k) (by simp only [h_X3_finishLoads_lp, if_neg c22_3])) ?_
        exact ih (i + 1) (zu (zu M (i + 20) (zc (M 2 i)) (M 13 (zc (M 3 i)))) 0 i (nI 1)) _ _ _ (by omega) (by first | exact hI | exact zOK_u (by omega) (by omega) (by omega) (zOK_u (by omega) (by omega) (by omega) hI)) (lv_sub hl [2, 0] rfl) hP hS
  refine lv_iconst (v := nI 0) hx hb dX3_finishLoads_0 (by decide) ?_
  refine lv_istore_n (lv' := [(1, .int (nI 0)), (0, .ref (a (19 * k)))]) hx hb dX3_finishLoads_1 rfl hl (by decide) rfl (fun ls hl => ?_)
  refine z_tov (Z2 := va_up Z k (h_X3_finishLoads_lp 4 0 M)) (congrArg (va_up Z k) (by first | rfl | simp only [h_X3_finishLoads])) ?_
  exact lp2 4 0 M _ _ _ (by omega) hI (lv_sub hl [1, 0] rfl) hP hS

theorem zOK_finishLoads_lp : ∀ (n i : Nat) (M : zM), zOK M → zOK (h_X3_finishLoads_lp n i M) := by
  intro n
  induction n with
  | zero =>
    intro i M h
    exact h
  | succ n ih =>
    intro i M h
    simp only [h_X3_finishLoads_lp]
    split
    · exact ih _ _ h
    · exact ih _ _ (zOK_u (by omega) (by omega) (by omega) (zOK_u (by omega) (by omega) (by omega) h))
theorem zOK_finishLoads {M : zM} (h : zOK M) : zOK (h_X3_finishLoads M) := zOK_finishLoads_lp _ _ _ h

def h_X3_openBarrier_lp  : Nat → Nat → zM → zM
  | 0, i, M => M
  | n + 1, i, M => if (M 0 i) = (nI 3) then h_X3_openBarrier_lp n (i + 1) (zu M 0 i (nI 1)) else h_X3_openBarrier_lp n (i + 1) M
def h_X3_openBarrier  (M : zM) : zM := if (g_X3_doesBarrierOpen M) = 0 then M else h_X3_openBarrier_lp 4 0 M
set_option maxHeartbeats 4000000 in
set_option maxRecDepth 100000 in
theorem ct_X3_openBarrier (l : Launch) (D : va_G) (a : Nat → Nat) (ca : Nat → ClassId) (hJ : zJ a) (Z : Nat → zM) (k : Nat) (M : zM) (hk : k < 6) : zCv l yX3_openBarrier wsX3_openBarrier ({ frames := 1, cells := 0, slots := 0, locals := 23 } : Room) D a ca [.ref (a (19 * k))] (va_up Z k M) (va_up Z k (h_X3_openBarrier M)) := by
  have hiX0 : ∀ w ∈ wsX00, w ∈ wsX3_openBarrier := by decide +kernel
  have hiX3 : ∀ w ∈ wsX30, w ∈ wsX3_openBarrier := by decide +kernel
  refine z_ofv (cc := cX3_openBarrier) (maxL := 2) (own := RX3) (by decide) rfl (Nat.le_of_ble_eq_true rfl) rfl (fun p e s m below meth c ls hx hb hr hml hts hown hlk hl hK hP hS => ?_)
  have hl : lv_has ls 2 [(0, .ref (a (19 * k)))] := hl
  have lp10 : ∀ (n : Nat) (i : Nat) (M : zM) (H : Heap) (locs : List Loc) (ls : Array Slot) (hn : i + n = 4) (hl : lv_has ls 2 [(0, .ref (a (19 * k))), (1, .int (nI i))]) (hP : va_P D vwCl (zW a ca (va_up Z k M)) H) (hS : va_S (zA a) s.heap H locs), W p l e ({ frames := 1, cells := 0, slots := 0, locals := 23 } : Room) s m ([.ref (a (19 * k))] : List Value).toArray below meth c H locs 0 0 (zQv below D a ca [.ref (a (19 * k))] s (va_up Z k (h_X3_openBarrier_lp n i M))) (F0 m 10 ls []) := by
    intro n
    induction n with
    | zero =>
      intro i M H locs ls hn hl hP hS
      refine lv_iload_n hx hb dX3_openBarrier_10 rfl (lv_at hl 1 rfl) ?_
      refine lv_iconst (v := nI 4) hx hb dX3_openBarrier_11 (by decide) ?_
      refine lv_icmp_ge (tgt := 44) hx hb dX3_openBarrier_12 (by decide) (fun c12_1 => ?_) (fun c12_1 => absurd (nI_le (by omega) (by omega)) c12_1)
      exact z_retv hx hb hr hlk hP hS dX3_openBarrier_44 (congrArg (va_up Z k) (by first | rfl | simp only [h_X3_openBarrier_lp]))
    | succ n ih =>
      intro i M H locs ls hn hl hP hS
      refine lv_iload_n hx hb dX3_openBarrier_10 rfl (lv_at hl 1 rfl) ?_
      refine lv_iconst (v := nI 4) hx hb dX3_openBarrier_11 (by decide) ?_
      refine lv_icmp_ge (tgt := 44) hx hb dX3_openBarrier_12 (by decide) (fun c12_2 => absurd c12_2 (nI_ge (by omega) (by decide))) (fun c12_2 => ?_)
      refine lv_aload_n hx hb dX3_openBarrier_15 rfl (lv_at hl 0 rfl) ?_
      refine zgm0 hx hb hts hiX3 hown hK hP hk (hts (.fieldLink RX3 11 "BarrelProcessor$Machine" "threads" "[LBarrelProcessor$HardwareThread;") (by decide +kernel)) dX3_openBarrier_16 ?_
      refine lv_iload_n hx hb dX3_openBarrier_19 rfl (lv_at hl 1 rfl) ?_
      refine z_aat hx hb hK hP hk (show i < 4 by omega) dX3_openBarrier_20 ?_
      refine znt1 hx hb hts hiX0 hown hK hP hk (show i < 4 by omega) (zn_RX3_102 hK) dX3_openBarrier_21 ?_
      refine lv_iconst (v := nI 3) hx hb dX3_openBarrier_24 (by decide) ?_
      refine lv_icmp_ne (tgt := 38) hx hb dX3_openBarrier_25 (by decide) (fun c25_3 => ?_) (fun c25_3 => ?_)
      · refine lv_iinc (v := nI (i + 1)) (lv' := [(1, .int (nI (i + 1))), (0, .ref (a (19 * k)))]) hx hb dX3_openBarrier_38 hl (k := 1) rfl (nI_add _ _) (by decide) rfl (fun ls hl => ?_)
        refine lv_goto (tgt := 10) hx hb dX3_openBarrier_41 (by decide) ?_
        refine z_tov (Z2 := va_up Z k (h_X3_openBarrier_lp n (i + 1) M)) (congrArg (va_up Z k) (by simp only [h_X3_openBarrier_lp, if_neg c25_3])) ?_
        exact ih (i + 1) M _ _ _ (by omega) (lv_sub hl [1, 0] rfl) hP hS
      · refine lv_aload_n hx hb dX3_openBarrier_28 rfl (lv_at hl 0 rfl) ?_
        refine zgm0 hx hb hts hiX3 hown hK hP hk (hts (.fieldLink RX3 11 "BarrelProcessor$Machine" "threads" "[LBarrelProcessor$HardwareThread;") (by decide +kernel)) dX3_openBarrier_29 ?_
        refine lv_iload_n hx hb dX3_openBarrier_32 rfl (lv_at hl 1 rfl) ?_
        refine z_aat hx hb hK hP hk (show i < 4 by omega) dX3_openBarrier_33 ?_
        refine lv_iconst (v := nI 1) hx hb dX3_openBarrier_34 (by decide) ?_
        refine zqt1 hx hb hts hiX0 hown hK hP hJ hS hk (show i < 4 by omega) (zn_RX3_102 hK) dX3_openBarrier_35 (fun H locs hP hS => ?_)
        refine lv_iinc (v := nI (i + 1)) (lv' := [(1, .int (nI (i + 1))), (0, .ref (a (19 * k)))]) hx hb dX3_openBarrier_38 hl (k := 1) rfl (nI_add _ _) (by decide) rfl (fun ls hl => ?_)
        refine lv_goto (tgt := 10) hx hb dX3_openBarrier_41 (by decide) ?_
        refine z_tov (Z2 := va_up Z k (h_X3_openBarrier_lp n (i + 1) (zu M 0 i (nI 1)))) (congrArg (va_up Z k) (by simp only [h_X3_openBarrier_lp, if_pos c25_3])) ?_
        exact ih (i + 1) (zu M 0 i (nI 1)) _ _ _ (by omega) (lv_sub hl [1, 0] rfl) hP hS
  refine lv_aload_n hx hb dX3_openBarrier_0 rfl (lv_at hl 0 rfl) ?_
  refine z_cVi (As := []) (rest := []) ⟨hx, hb, hml, hown, hts⟩ (ct_X3_doesBarrierOpen l D a ca hJ Z k M hk) (cwV 0 hts gX3_openBarrier_X3_doesBarrierOpen rfl rfl rfl (by decide +kernel) ⟨Nat.le_of_ble_eq_true rfl, Nat.le_of_ble_eq_true rfl⟩) hK hP hS (va_recv (ci := 3) hK.1 hP rfl (zG_m hk)) rfl hl.1 rfl (Nat.le_of_ble_eq_true rfl) dX3_openBarrier_1 ⟨Nat.zero_le _, Nat.zero_le _⟩ (fun H locs hP hS => ?_)
  refine lv_if_ne (tgt := 8) hx hb dX3_openBarrier_4 (by decide) (fun c4_4 => ?_) (fun c4_4 => ?_)
  · refine lv_iconst (v := nI 0) hx hb dX3_openBarrier_8 (by decide) ?_
    refine lv_istore_n (lv' := [(1, .int (nI 0)), (0, .ref (a (19 * k)))]) hx hb dX3_openBarrier_9 rfl hl (by decide) rfl (fun ls hl => ?_)
    refine z_tov (Z2 := va_up Z k (h_X3_openBarrier_lp 4 0 M)) (congrArg (va_up Z k) (by simp only [h_X3_openBarrier, if_neg c4_4])) ?_
    exact lp10 4 0 M _ _ _ (by omega) (lv_sub hl [1, 0] rfl) hP hS
  · exact z_retv hx hb hr hlk hP hS dX3_openBarrier_7 (congrArg (va_up Z k) (by simp only [h_X3_openBarrier, if_pos c4_4]))

theorem zOK_openBarrier_lp : ∀ (n i : Nat) (M : zM), zOK M → zOK (h_X3_openBarrier_lp n i M) := by
  intro n
  induction n with
  | zero =>
    intro i M h
    exact h
  | succ n ih =>
    intro i M h
    simp only [h_X3_openBarrier_lp]
    split
    · exact ih _ _ (zOK_u (by omega) (by omega) (by omega) h)
    · exact ih _ _ h
theorem zOK_openBarrier {M : zM} (h : zOK M) : zOK (h_X3_openBarrier M) := by
  unfold h_X3_openBarrier
  split
  · exact h
  · exact zOK_openBarrier_lp _ _ _ h

def h_X3_countStarving_lp (issuer : Int32)  : Nat → Nat → zM → zM
  | 0, i, M => M
  | n + 1, i, M => if (M 0 i) = (nI 1) then if (nI i) = issuer then h_X3_countStarving_lp issuer n (i + 1) (h_X0_countCycle i (nI 0) M) else h_X3_countStarving_lp issuer n (i + 1) (h_X0_countCycle i (nI 1) M) else h_X3_countStarving_lp issuer n (i + 1) (h_X0_countCycle i (nI 0) M)
def h_X3_countStarving (issuer : Int32)  (M : zM) : zM := h_X3_countStarving_lp issuer 4 0 M
set_option maxHeartbeats 4000000 in
set_option maxRecDepth 100000 in
theorem ct_X3_countStarving (l : Launch) (D : va_G) (a : Nat → Nat) (ca : Nat → ClassId) (hJ : zJ a) (Z : Nat → zM) (k : Nat) (M : zM) (hk : k < 6) (issuer : Int32) : zCv l yX3_countStarving wsX3_countStarving ({ frames := 2, cells := 0, slots := 0, locals := 35 } : Room) D a ca [.ref (a (19 * k)), .int issuer] (va_up Z k M) (va_up Z k (h_X3_countStarving issuer M)) := by
  have hiX0 : ∀ w ∈ wsX00, w ∈ wsX3_countStarving := by decide +kernel
  have hiX3 : ∀ w ∈ wsX30, w ∈ wsX3_countStarving := by decide +kernel
  refine z_ofv (cc := cX3_countStarving) (maxL := 4) (own := RX3) (by decide) rfl (Nat.le_of_ble_eq_true rfl) rfl (fun p e s m below meth c ls hx hb hr hml hts hown hlk hl hK hP hS => ?_)
  have hl : lv_has ls 4 [(0, .ref (a (19 * k))), (1, .int issuer)] := hl
  have lp2 : ∀ (n : Nat) (i : Nat) (M : zM) (H : Heap) (locs : List Loc) (ls : Array Slot) (hn : i + n = 4) (hl : lv_has ls 4 [(0, .ref (a (19 * k))), (1, .int issuer), (2, .int (nI i))]) (hP : va_P D vwCl (zW a ca (va_up Z k M)) H) (hS : va_S (zA a) s.heap H locs), W p l e ({ frames := 2, cells := 0, slots := 0, locals := 35 } : Room) s m ([.ref (a (19 * k)), .int issuer] : List Value).toArray below meth c H locs 0 0 (zQv below D a ca [.ref (a (19 * k)), .int issuer] s (va_up Z k (h_X3_countStarving_lp issuer n i M))) (F0 m 2 ls []) := by
    intro n
    induction n with
    | zero =>
      intro i M H locs ls hn hl hP hS
      refine lv_iload_n hx hb dX3_countStarving_2 rfl (lv_at hl 2 rfl) ?_
      refine lv_iconst (v := nI 4) hx hb dX3_countStarving_3 (by decide) ?_
      refine lv_icmp_ge (tgt := 42) hx hb dX3_countStarving_4 (by decide) (fun c4_1 => ?_) (fun c4_1 => absurd (nI_le (by omega) (by omega)) c4_1)
      exact z_retv hx hb hr hlk hP hS dX3_countStarving_42 (congrArg (va_up Z k) (by first | rfl | simp only [h_X3_countStarving_lp]))
    | succ n ih =>
      intro i M H locs ls hn hl hP hS
      refine lv_iload_n hx hb dX3_countStarving_2 rfl (lv_at hl 2 rfl) ?_
      refine lv_iconst (v := nI 4) hx hb dX3_countStarving_3 (by decide) ?_
      refine lv_icmp_ge (tgt := 42) hx hb dX3_countStarving_4 (by decide) (fun c4_2 => absurd c4_2 (nI_ge (by omega) (by decide))) (fun c4_2 => ?_)
      refine lv_aload_n hx hb dX3_countStarving_7 rfl (lv_at hl 0 rfl) ?_
      refine zgm0 hx hb hts hiX3 hown hK hP hk (hts (.fieldLink RX3 11 "BarrelProcessor$Machine" "threads" "[LBarrelProcessor$HardwareThread;") (by decide +kernel)) dX3_countStarving_8 ?_
      refine lv_iload_n hx hb dX3_countStarving_11 rfl (lv_at hl 2 rfl) ?_
      refine z_aat hx hb hK hP hk (show i < 4 by omega) dX3_countStarving_12 ?_
      refine lv_astore_n (lv' := [(3, .ref (a (19 * k + (2 + i)))), (0, .ref (a (19 * k))), (1, .int issuer), (2, .int (nI i))]) hx hb dX3_countStarving_13 rfl hl (by decide) rfl (fun ls hl => ?_)
      refine lv_aload_n hx hb dX3_countStarving_14 rfl (lv_at hl 0 rfl) ?_
      refine lv_aload_n hx hb dX3_countStarving_15 rfl (lv_at hl 0 rfl) ?_
      refine znt1 hx hb hts hiX0 hown hK hP hk (show i < 4 by omega) (zn_RX3_102 hK) dX3_countStarving_16 ?_
      refine lv_iconst (v := nI 1) hx hb dX3_countStarving_19 (by decide) ?_
      refine lv_icmp_ne (tgt := 32) hx hb dX3_countStarving_20 (by decide) (fun c20_3 => ?_) (fun c20_3 => ?_)
      · refine lv_iconst (v := nI 0) hx hb dX3_countStarving_32 (by decide) ?_
        refine z_cVv (As := [.int (nI 0)]) (rest := []) ⟨hx, hb, hml, hown, hts⟩ (ct_X0_countCycle l D a ca hJ Z k M i hk (show i < 4 by omega) (nI 0)) (cwV 1 hts gX3_countStarving_X0_countCycle rfl rfl rfl (by decide +kernel) ⟨Nat.le_of_ble_eq_true rfl, Nat.le_of_ble_eq_true rfl⟩) hK hP hS (va_recv (ci := 0) hK.1 hP rfl (zG_t hk (show i < 4 by omega))) rfl hl.1 rfl (Nat.le_of_ble_eq_true rfl) dX3_countStarving_33 ⟨Nat.zero_le _, Nat.zero_le _⟩ (fun H locs hP hS => ?_)
        refine lv_iinc (v := nI (i + 1)) (lv' := [(2, .int (nI (i + 1))), (3, .ref (a (19 * k + (2 + i)))), (0, .ref (a (19 * k))), (1, .int issuer)]) hx hb dX3_countStarving_36 hl (k := 3) rfl (nI_add _ _) (by decide) rfl (fun ls hl => ?_)
        refine lv_goto (tgt := 2) hx hb dX3_countStarving_39 (by decide) ?_
        refine z_tov (Z2 := va_up Z k (h_X3_countStarving_lp issuer n (i + 1) (h_X0_countCycle i (nI 0) M))) (congrArg (va_up Z k) (by simp only [h_X3_countStarving_lp, if_neg c20_3])) ?_
        exact ih (i + 1) (h_X0_countCycle i (nI 0) M) _ _ _ (by omega) (lv_sub hl [2, 3, 0] rfl) hP hS
      · refine lv_iload_n hx hb dX3_countStarving_23 rfl (lv_at hl 3 rfl) ?_
        refine lv_iload_n hx hb dX3_countStarving_24 rfl (lv_at hl 2 rfl) ?_
        refine lv_icmp_eq (tgt := 32) hx hb dX3_countStarving_25 (by decide) (fun c25_4 => ?_) (fun c25_4 => ?_)
        · refine lv_iconst (v := nI 0) hx hb dX3_countStarving_32 (by decide) ?_
          refine z_cVv (As := [.int (nI 0)]) (rest := []) ⟨hx, hb, hml, hown, hts⟩ (ct_X0_countCycle l D a ca hJ Z k M i hk (show i < 4 by omega) (nI 0)) (cwV 1 hts gX3_countStarving_X0_countCycle rfl rfl rfl (by decide +kernel) ⟨Nat.le_of_ble_eq_true rfl, Nat.le_of_ble_eq_true rfl⟩) hK hP hS (va_recv (ci := 0) hK.1 hP rfl (zG_t hk (show i < 4 by omega))) rfl hl.1 rfl (Nat.le_of_ble_eq_true rfl) dX3_countStarving_33 ⟨Nat.zero_le _, Nat.zero_le _⟩ (fun H locs hP hS => ?_)
          refine lv_iinc (v := nI (i + 1)) (lv' := [(2, .int (nI (i + 1))), (3, .ref (a (19 * k + (2 + i)))), (0, .ref (a (19 * k))), (1, .int issuer)]) hx hb dX3_countStarving_36 hl (k := 3) rfl (nI_add _ _) (by decide) rfl (fun ls hl => ?_)
          refine lv_goto (tgt := 2) hx hb dX3_countStarving_39 (by decide) ?_
          refine z_tov (Z2 := va_up Z k (h_X3_countStarving_lp issuer n (i + 1) (h_X0_countCycle i (nI 0) M))) (congrArg (va_up Z k) (by simp only [h_X3_countStarving_lp, if_pos c20_3, if_pos c25_4])) ?_
          exact ih (i + 1) (h_X0_countCycle i (nI 0) M) _ _ _ (by omega) (lv_sub hl [2, 3, 0] rfl) hP hS
        · refine lv_iconst (v := nI 1) hx hb dX3_countStarving_28 (by decide) ?_
          refine lv_goto (tgt := 33) hx hb dX3_countStarving_29 (by decide) ?_
          refine z_cVv (As := [.int (nI 1)]) (rest := []) ⟨hx, hb, hml, hown, hts⟩ (ct_X0_countCycle l D a ca hJ Z k M i hk (show i < 4 by omega) (nI 1)) (cwV 1 hts gX3_countStarving_X0_countCycle rfl rfl rfl (by decide +kernel) ⟨Nat.le_of_ble_eq_true rfl, Nat.le_of_ble_eq_true rfl⟩) hK hP hS (va_recv (ci := 0) hK.1 hP rfl (zG_t hk (show i < 4 by omega))) rfl hl.1 rfl (Nat.le_of_ble_eq_true rfl) dX3_countStarving_33 ⟨Nat.zero_le _, Nat.zero_le _⟩ (fun H locs hP hS => ?_)
          refine lv_iinc (v := nI (i + 1)) (lv' := [(2, .int (nI (i + 1))), (3, .ref (a (19 * k + (2 + i)))), (0, .ref (a (19 * k))), (1, .int issuer)]) hx hb dX3_countStarving_36 hl (k := 3) rfl (nI_add _ _) (by decide) rfl (fun ls hl => ?_)
          refine lv_goto (tgt := 2) hx hb dX3_countStarving_39 (by decide) ?_
          refine z_tov (Z2 := va_up Z k (h_X3_countStarving_lp issuer n (i + 1) (h_X0_countCycle i (nI 1) M))) (congrArg (va_up Z k) (by simp only [h_X3_countStarving_lp, if_pos c20_3, if_neg c25_4])) ?_
          exact ih (i + 1) (h_X0_countCycle i (nI 1) M) _ _ _ (by omega) (lv_sub hl [2, 3, 0] rfl) hP hS
  refine lv_iconst (v := nI 0) hx hb dX3_countStarving_0 (by decide) ?_
  refine lv_istore_n (lv' := [(2, .int (nI 0)), (0, .ref (a (19 * k))), (1, .int issuer)]) hx hb dX3_countStarving_1 rfl hl (by decide) rfl (fun ls hl => ?_)
  refine z_tov (Z2 := va_up Z k (h_X3_countStarving_lp issuer 4 0 M)) (congrArg (va_up Z k) (by first | rfl | simp only [h_X3_countStarving])) ?_
  exact lp2 4 0 M _ _ _ (by omega) (lv_sub hl [1, 2, 0] rfl) hP hS

theorem zOK_countCycle {M : zM} {t : Nat} {x : Int32} (h : zOK M) : zOK (h_X0_countCycle t x M) := by
  unfold h_X0_countCycle
  split
  · exact zOK_u (by omega) (by omega) (by omega) (zOK_u (by omega) (by omega) (by omega) h)
  · exact zOK_u (by omega) (by omega) (by omega) (zOK_u (by omega) (by omega) (by omega) h)
theorem zOK_countStarving_lp (issuer : Int32) : ∀ (n i : Nat) (M : zM), zOK M → zOK (h_X3_countStarving_lp issuer n i M) := by
  intro n
  induction n with
  | zero =>
    intro i M h
    exact h
  | succ n ih =>
    intro i M h
    simp only [h_X3_countStarving_lp]
    split
    · split
      · exact ih _ _ (zOK_countCycle h)
      · exact ih _ _ (zOK_countCycle h)
    · exact ih _ _ (zOK_countCycle h)
theorem zOK_countStarving {M : zM} {issuer : Int32} (h : zOK M) : zOK (h_X3_countStarving issuer M) := zOK_countStarving_lp _ _ _ _ h
theorem zOK_note {M : zM} {x y z : Int32} (h : zOK M) : zOK (h_X5_note x y z M) := by
  have h1 := h.2.2.1.1
  have h2 := h.2.2.2.1
  unfold h_X5_note
  refine zOK_181 ?_ (zOK_180 (zIn_nI (Nat.mod_lt _ (by decide)) (by decide)) (zOK_u (by omega) (by omega) (by omega) (zOK_u (by omega) (by omega) (by omega) (zOK_u (by omega) (by omega) (by omega) h))))
  split
  · exact zIn_nI (by decide) (by decide)
  · rename_i hc
    have h3 : ¬ 16 < zc (M 18 1) + 1 := fun q => hc (nI_lt q (by omega))
    exact zIn_nI (by omega) (by decide)

def h_X3_noteIssue (t : Nat) (M : zM) : zM := if (nI t) = (g_X3_slotOwner (zu M 6 t ((M 6 t) + (nI 1)))) then h_X5_note ((zu (zu M 6 t ((M 6 t) + (nI 1))) 5 t ((zu M 6 t ((M 6 t) + (nI 1))) 16 0)) 16 0) (nI t) ((zu (zu M 6 t ((M 6 t) + (nI 1))) 5 t ((zu M 6 t ((M 6 t) + (nI 1))) 16 0)) 1 t) (zu (zu M 6 t ((M 6 t) + (nI 1))) 5 t ((zu M 6 t ((M 6 t) + (nI 1))) 16 0)) else h_X5_note ((zu (zu (zu M 6 t ((M 6 t) + (nI 1))) 7 t (((zu M 6 t ((M 6 t) + (nI 1))) 7 t) + (nI 1))) 5 t ((zu (zu M 6 t ((M 6 t) + (nI 1))) 7 t (((zu M 6 t ((M 6 t) + (nI 1))) 7 t) + (nI 1))) 16 0)) 16 0) (nI t) ((zu (zu (zu M 6 t ((M 6 t) + (nI 1))) 7 t (((zu M 6 t ((M 6 t) + (nI 1))) 7 t) + (nI 1))) 5 t ((zu (zu M 6 t ((M 6 t) + (nI 1))) 7 t (((zu M 6 t ((M 6 t) + (nI 1))) 7 t) + (nI 1))) 16 0)) 1 t) (zu (zu (zu M 6 t ((M 6 t) + (nI 1))) 7 t (((zu M 6 t ((M 6 t) + (nI 1))) 7 t) + (nI 1))) 5 t ((zu (zu M 6 t ((M 6 t) + (nI 1))) 7 t (((zu M 6 t ((M 6 t) + (nI 1))) 7 t) + (nI 1))) 16 0))
set_option maxHeartbeats 4000000 in
set_option maxRecDepth 100000 in
theorem ct_X3_noteIssue (l : Launch) (D : va_G) (a : Nat → Nat) (ca : Nat → ClassId) (hJ : zJ a) (Z : Nat → zM) (k : Nat) (M : zM) (t : Nat) (hk : k < 6) (ht : t < 4) (hI : zOK M) : zCv l yX3_noteIssue wsX3_noteIssue ({ frames := 2, cells := 0, slots := 0, locals := 38 } : Room) D a ca [.ref (a (19 * k)), .int (nI t)] (va_up Z k M) (va_up Z k (h_X3_noteIssue t M)) := by
  have hiX0 : ∀ w ∈ wsX00, w ∈ wsX3_noteIssue := by decide +kernel
  have hiX3 : ∀ w ∈ wsX30, w ∈ wsX3_noteIssue := by decide +kernel
  refine z_ofv (cc := cX3_noteIssue) (maxL := 3) (own := RX3) (by decide) rfl (Nat.le_of_ble_eq_true rfl) rfl (fun p e s m below meth c ls hx hb hr hml hts hown hlk hl hK hP hS => ?_)
  have hl : lv_has ls 3 [(0, .ref (a (19 * k))), (1, .int (nI t))] := hl
  refine lv_aload_n hx hb dX3_noteIssue_0 rfl (lv_at hl 0 rfl) ?_
  refine zgm0 hx hb hts hiX3 hown hK hP hk (hts (.fieldLink RX3 11 "BarrelProcessor$Machine" "threads" "[LBarrelProcessor$HardwareThread;") (by decide +kernel)) dX3_noteIssue_1 ?_
  refine lv_iload_n hx hb dX3_noteIssue_4 rfl (lv_at hl 1 rfl) ?_
  refine z_aat hx hb hK hP hk ht dX3_noteIssue_5 ?_
  refine lv_astore_n (lv' := [(2, .ref (a (19 * k + (2 + t)))), (0, .ref (a (19 * k))), (1, .int (nI t))]) hx hb dX3_noteIssue_6 rfl hl (by decide) rfl (fun ls hl => ?_)
  refine lv_aload_n hx hb dX3_noteIssue_7 rfl (lv_at hl 0 rfl) ?_
  refine lv_dup hx hb dX3_noteIssue_8 rfl ?_
  refine znt7 hx hb hts hiX0 hown hK hP hk ht (zn_RX3_153 hK) dX3_noteIssue_9 ?_
  refine lv_iconst (v := nI 1) hx hb dX3_noteIssue_12 (by decide) ?_
  refine lv_iadd hx hb dX3_noteIssue_13 ?_
  refine zqt7 hx hb hts hiX0 hown hK hP hJ hS hk ht (zn_RX3_153 hK) dX3_noteIssue_14 (fun H locs hP hS => ?_)
  refine lv_iload_n hx hb dX3_noteIssue_17 rfl (lv_at hl 2 rfl) ?_
  refine lv_aload_n hx hb dX3_noteIssue_18 rfl (lv_at hl 1 rfl) ?_
  refine z_cVi (As := []) (rest := [.int (nI t)]) ⟨hx, hb, hml, hown, hts⟩ (ct_X3_slotOwner l D a ca hJ Z k (zu M 6 t ((M 6 t) + (nI 1))) hk) (cwV 0 hts gX3_noteIssue_X3_slotOwner rfl rfl rfl (by decide +kernel) ⟨Nat.le_of_ble_eq_true rfl, Nat.le_of_ble_eq_true rfl⟩) hK hP hS (va_recv (ci := 3) hK.1 hP rfl (zG_m hk)) rfl hl.1 rfl (Nat.le_of_ble_eq_true rfl) dX3_noteIssue_19 ⟨Nat.zero_le _, Nat.zero_le _⟩ (fun H locs hP hS => ?_)
  refine lv_icmp_eq (tgt := 35) hx hb dX3_noteIssue_22 (by decide) (fun c22_1 => ?_) (fun c22_1 => ?_)
  · refine lv_aload_n hx hb dX3_noteIssue_35 rfl (lv_at hl 0 rfl) ?_
    refine lv_aload_n hx hb dX3_noteIssue_36 rfl (lv_at hl 1 rfl) ?_
    refine zgm7 hx hb hts hiX3 hown hK hP hk (hts (.fieldLink RX3 62 "BarrelProcessor$Machine" "cycle" "I") (by decide +kernel)) dX3_noteIssue_37 ?_
    refine zqt6 hx hb hts hiX0 hown hK hP hJ hS hk ht (zn_RX3_109 hK) dX3_noteIssue_40 (fun H locs hP hS => ?_)
    refine lv_aload_n hx hb dX3_noteIssue_43 rfl (lv_at hl 1 rfl) ?_
    refine zgm6 hx hb hts hiX3 hown hK hP hk (hts (.fieldLink RX3 40 "BarrelProcessor$Machine" "trace" "LBarrelProcessor$Trace;") (by decide +kernel)) dX3_noteIssue_44 ?_
    refine lv_aload_n hx hb dX3_noteIssue_47 rfl (lv_at hl 1 rfl) ?_
    refine zgm7 hx hb hts hiX3 hown hK hP hk (hts (.fieldLink RX3 62 "BarrelProcessor$Machine" "cycle" "I") (by decide +kernel)) dX3_noteIssue_48 ?_
    refine lv_iload_n hx hb dX3_noteIssue_51 rfl (lv_at hl 2 rfl) ?_
    refine lv_aload_n hx hb dX3_noteIssue_52 rfl (lv_at hl 0 rfl) ?_
    refine znt2 hx hb hts hiX0 hown hK hP hk ht (zn_RX3_118 hK) dX3_noteIssue_53 ?_
    refine z_cVv (As := [.int ((zu (zu M 6 t ((M 6 t) + (nI 1))) 5 t ((zu M 6 t ((M 6 t) + (nI 1))) 16 0)) 16 0), .int (nI t), .int ((zu (zu M 6 t ((M 6 t) + (nI 1))) 5 t ((zu M 6 t ((M 6 t) + (nI 1))) 16 0)) 1 t)]) (rest := []) ⟨hx, hb, hml, hown, hts⟩ (ct_X5_note l D a ca hJ Z k (zu (zu M 6 t ((M 6 t) + (nI 1))) 5 t ((zu M 6 t ((M 6 t) + (nI 1))) 16 0)) hk ((zu (zu M 6 t ((M 6 t) + (nI 1))) 5 t ((zu M 6 t ((M 6 t) + (nI 1))) 16 0)) 16 0) (nI t) ((zu (zu M 6 t ((M 6 t) + (nI 1))) 5 t ((zu M 6 t ((M 6 t) + (nI 1))) 16 0)) 1 t) (zOK_u (by omega) (by omega) (by omega) (by first | exact zOK_u (by omega) (by omega) (by omega) hI | exact zOK_u (by omega) (by omega) (by omega) (zOK_u (by omega) (by omega) (by omega) hI)))) (cwV 3 hts gX3_noteIssue_X5_note rfl rfl rfl (by decide +kernel) ⟨Nat.le_of_ble_eq_true rfl, Nat.le_of_ble_eq_true rfl⟩) hK hP hS (va_recv (ci := 5) hK.1 hP rfl (zG_c hk)) rfl hl.1 rfl (Nat.le_of_ble_eq_true rfl) dX3_noteIssue_56 ⟨Nat.zero_le _, Nat.zero_le _⟩ (fun H locs hP hS => ?_)
    exact z_retv hx hb hr hlk hP hS dX3_noteIssue_59 (congrArg (va_up Z k) (by simp only [h_X3_noteIssue, if_pos c22_1]))
  · refine lv_aload_n hx hb dX3_noteIssue_25 rfl (lv_at hl 0 rfl) ?_
    refine lv_dup hx hb dX3_noteIssue_26 rfl ?_
    refine znt8 hx hb hts hiX0 hown hK hP hk ht (zn_RX3_156 hK) dX3_noteIssue_27 ?_
    refine lv_iconst (v := nI 1) hx hb dX3_noteIssue_30 (by decide) ?_
    refine lv_iadd hx hb dX3_noteIssue_31 ?_
    refine zqt8 hx hb hts hiX0 hown hK hP hJ hS hk ht (zn_RX3_156 hK) dX3_noteIssue_32 (fun H locs hP hS => ?_)
    refine lv_aload_n hx hb dX3_noteIssue_35 rfl (lv_at hl 0 rfl) ?_
    refine lv_aload_n hx hb dX3_noteIssue_36 rfl (lv_at hl 1 rfl) ?_
    refine zgm7 hx hb hts hiX3 hown hK hP hk (hts (.fieldLink RX3 62 "BarrelProcessor$Machine" "cycle" "I") (by decide +kernel)) dX3_noteIssue_37 ?_
    refine zqt6 hx hb hts hiX0 hown hK hP hJ hS hk ht (zn_RX3_109 hK) dX3_noteIssue_40 (fun H locs hP hS => ?_)
    refine lv_aload_n hx hb dX3_noteIssue_43 rfl (lv_at hl 1 rfl) ?_
    refine zgm6 hx hb hts hiX3 hown hK hP hk (hts (.fieldLink RX3 40 "BarrelProcessor$Machine" "trace" "LBarrelProcessor$Trace;") (by decide +kernel)) dX3_noteIssue_44 ?_
    refine lv_aload_n hx hb dX3_noteIssue_47 rfl (lv_at hl 1 rfl) ?_
    refine zgm7 hx hb hts hiX3 hown hK hP hk (hts (.fieldLink RX3 62 "BarrelProcessor$Machine" "cycle" "I") (by decide +kernel)) dX3_noteIssue_48 ?_
    refine lv_iload_n hx hb dX3_noteIssue_51 rfl (lv_at hl 2 rfl) ?_
    refine lv_aload_n hx hb dX3_noteIssue_52 rfl (lv_at hl 0 rfl) ?_
    refine znt2 hx hb hts hiX0 hown hK hP hk ht (zn_RX3_118 hK) dX3_noteIssue_53 ?_
    refine z_cVv (As := [.int ((zu (zu (zu M 6 t ((M 6 t) + (nI 1))) 7 t (((zu M 6 t ((M 6 t) + (nI 1))) 7 t) + (nI 1))) 5 t ((zu (zu M 6 t ((M 6 t) + (nI 1))) 7 t (((zu M 6 t ((M 6 t) + (nI 1))) 7 t) + (nI 1))) 16 0)) 16 0), .int (nI t), .int ((zu (zu (zu M 6 t ((M 6 t) + (nI 1))) 7 t (((zu M 6 t ((M 6 t) + (nI 1))) 7 t) + (nI 1))) 5 t ((zu (zu M 6 t ((M 6 t) + (nI 1))) 7 t (((zu M 6 t ((M 6 t) + (nI 1))) 7 t) + (nI 1))) 16 0)) 1 t)]) (rest := []) ⟨hx, hb, hml, hown, hts⟩ (ct_X5_note l D a ca hJ Z k (zu (zu (zu M 6 t ((M 6 t) + (nI 1))) 7 t (((zu M 6 t ((M 6 t) + (nI 1))) 7 t) + (nI 1))) 5 t ((zu (zu M 6 t ((M 6 t) + (nI 1))) 7 t (((zu M 6 t ((M 6 t) + (nI 1))) 7 t) + (nI 1))) 16 0)) hk ((zu (zu (zu M 6 t ((M 6 t) + (nI 1))) 7 t (((zu M 6 t ((M 6 t) + (nI 1))) 7 t) + (nI 1))) 5 t ((zu (zu M 6 t ((M 6 t) + (nI 1))) 7 t (((zu M 6 t ((M 6 t) + (nI 1))) 7 t) + (nI 1))) 16 0)) 16 0) (nI t) ((zu (zu (zu M 6 t ((M 6 t) + (nI 1))) 7 t (((zu M 6 t ((M 6 t) + (nI 1))) 7 t) + (nI 1))) 5 t ((zu (zu M 6 t ((M 6 t) + (nI 1))) 7 t (((zu M 6 t ((M 6 t) + (nI 1))) 7 t) + (nI 1))) 16 0)) 1 t) (zOK_u (by omega) (by omega) (by omega) (by first | exact zOK_u (by omega) (by omega) (by omega) hI | exact zOK_u (by omega) (by omega) (by omega) (zOK_u (by omega) (by omega) (by omega) hI)))) (cwV 3 hts gX3_noteIssue_X5_note rfl rfl rfl (by decide +kernel) ⟨Nat.le_of_ble_eq_true rfl, Nat.le_of_ble_eq_true rfl⟩) hK hP hS (va_recv (ci := 5) hK.1 hP rfl (zG_c hk)) rfl hl.1 rfl (Nat.le_of_ble_eq_true rfl) dX3_noteIssue_56 ⟨Nat.zero_le _, Nat.zero_le _⟩ (fun H locs hP hS => ?_)
    exact z_retv hx hb hr hlk hP hS dX3_noteIssue_59 (congrArg (va_up Z k) (by simp only [h_X3_noteIssue, if_neg c22_1]))

theorem zOK_noteIssue {M : zM} {t : Nat} (h : zOK M) : zOK (h_X3_noteIssue t M) := by
  unfold h_X3_noteIssue
  split
  · exact zOK_note (zOK_u (by omega) (by omega) (by omega) (zOK_u (by omega) (by omega) (by omega) h))
  · exact zOK_note (zOK_u (by omega) (by omega) (by omega) (zOK_u (by omega) (by omega) (by omega) (zOK_u (by omega) (by omega) (by omega) h)))

def h_X3_calculate (t : Nat) (op first second : Int32) (M : zM) : zM := if op = nI 0 then zu M (t + 20) (first.toBitVec.toNat % 4) second else if op = nI 1 then zu M (t + 20) (first.toBitVec.toNat % 4) (((M (t + 20) (first.toBitVec.toNat % 4)) + (M (t + 20) (second.toBitVec.toNat % 4))).toInt16.toInt32) else if op = nI 2 then zu M (t + 20) (first.toBitVec.toNat % 4) (((M (t + 20) (first.toBitVec.toNat % 4)) - (M (t + 20) (second.toBitVec.toNat % 4))).toInt16.toInt32) else zu M (t + 20) (first.toBitVec.toNat % 4) (((M (t + 20) (first.toBitVec.toNat % 4)) * (M (t + 20) (second.toBitVec.toNat % 4))).toInt16.toInt32)
set_option maxHeartbeats 4000000 in
set_option maxRecDepth 100000 in
theorem ct_X3_calculate (l : Launch) (D : va_G) (a : Nat → Nat) (ca : Nat → ClassId) (hJ : zJ a) (Z : Nat → zM) (k : Nat) (M : zM) (t : Nat) (hk : k < 6) (ht : t < 4) (op first second : Int32) : zCv l yX3_calculate wsX3_calculate ({ frames := 0, cells := 0, slots := 0, locals := 0 } : Room) D a ca [.ref (a (19 * k + (6 + t))), .int op, .int first, .int second] (va_up Z k M) (va_up Z k (h_X3_calculate t op first second M)) := by
  refine z_ofv (cc := cX3_calculate) (maxL := 6) (own := RX3) (by decide) rfl (Nat.le_of_ble_eq_true rfl) rfl (fun p e s m below meth c ls hx hb hr hml hts hown hlk hl hK hP hS => ?_)
  have hl : lv_has ls 6 [(0, .ref (a (19 * k + (6 + t)))), (1, .int op), (2, .int first), (3, .int second)] := hl
  refine lv_iload_n hx hb dX3_calculate_0 rfl (lv_at hl 2 rfl) ?_
  refine lv_iconst (v := nI 3) hx hb dX3_calculate_1 (by decide) ?_
  refine lv_iand hx hb dX3_calculate_2 ?_
  refine z_val (z := nI (first.toBitVec.toNat % 4)) (pk_and _ 2 (by decide)) ?_
  refine lv_istore (lv' := [(4, .int (nI (first.toBitVec.toNat % 4))), (0, .ref (a (19 * k + (6 + t)))), (1, .int op), (2, .int first), (3, .int second)]) hx hb dX3_calculate_3 hl (by decide) rfl (fun ls hl => ?_)
  refine lv_aload_n hx hb dX3_calculate_5 rfl (lv_at hl 1 rfl) ?_
  refine lv_iload_n hx hb dX3_calculate_6 rfl (lv_at hl 4 rfl) ?_
  refine lv_iconst (v := nI 3) hx hb dX3_calculate_7 (by decide) ?_
  refine lv_iand hx hb dX3_calculate_8 ?_
  refine z_val (z := nI (second.toBitVec.toNat % 4)) (pk_and _ 2 (by decide)) ?_
  refine z_iald hx hb hK hP (zG_rg hk ht) (j := second.toBitVec.toNat % 4) (by omega) (by decide) dX3_calculate_9 ?_
  refine lv_istore (lv' := [(5, .int (M (t + 20) (second.toBitVec.toNat % 4))), (4, .int (nI (first.toBitVec.toNat % 4))), (0, .ref (a (19 * k + (6 + t)))), (1, .int op), (2, .int first), (3, .int second)]) hx hb dX3_calculate_10 hl (by decide) rfl (fun ls hl => ?_)
  refine lv_iload_n hx hb dX3_calculate_12 rfl (lv_at hl 3 rfl) ?_
  by_cases c13_1 : op = nI 0
  · refine lv_tableIn (tgt := 40) (off := 27) hx hb dX3_calculate_13 (by rw [c13_1]; decide) (by rw [c13_1]; decide) (by rw [c13_1]; rfl) (by decide) ?_
    refine lv_aload_n hx hb dX3_calculate_40 rfl (lv_at hl 2 rfl) ?_
    refine lv_iload hx hb dX3_calculate_41 (lv_at hl 1 rfl) ?_
    refine lv_iload_n hx hb dX3_calculate_43 rfl (lv_at hl 5 rfl) ?_
    refine z_iast (Z' := va_up Z k (zu M (t + 20) (first.toBitVec.toNat % 4) second)) hx hb hK hP hJ hS (zG_rg hk ht) (j := first.toBitVec.toNat % 4) (by omega) (by decide) dX3_calculate_44 (zS_rg hk ht) (fun H locs hP hS => ?_)
    refine lv_goto (tgt := 90) hx hb dX3_calculate_45 (by decide) ?_
    exact z_retv hx hb hr hlk hP hS dX3_calculate_90 (congrArg (va_up Z k) (by simp only [h_X3_calculate, if_pos c13_1]))
  · by_cases c13_2 : op = nI 1
    · refine lv_tableIn (tgt := 48) (off := 35) hx hb dX3_calculate_13 (by rw [c13_2]; decide) (by rw [c13_2]; decide) (by rw [c13_2]; rfl) (by decide) ?_
      refine lv_aload_n hx hb dX3_calculate_48 rfl (lv_at hl 2 rfl) ?_
      refine lv_iload hx hb dX3_calculate_49 (lv_at hl 1 rfl) ?_
      refine lv_aload_n hx hb dX3_calculate_51 rfl (lv_at hl 2 rfl) ?_
      refine lv_iload hx hb dX3_calculate_52 (lv_at hl 1 rfl) ?_
      refine z_iald hx hb hK hP (zG_rg hk ht) (j := first.toBitVec.toNat % 4) (by omega) (by decide) dX3_calculate_54 ?_
      refine lv_iload hx hb dX3_calculate_55 (lv_at hl 0 rfl) ?_
      refine lv_iadd hx hb dX3_calculate_57 ?_
      refine lv_i2s (v := ((M (t + 20) (first.toBitVec.toNat % 4)) + (M (t + 20) (second.toBitVec.toNat % 4))).toInt16.toInt32) hx hb dX3_calculate_58 rfl ?_
      refine z_iast (Z' := va_up Z k (zu M (t + 20) (first.toBitVec.toNat % 4) (((M (t + 20) (first.toBitVec.toNat % 4)) + (M (t + 20) (second.toBitVec.toNat % 4))).toInt16.toInt32))) hx hb hK hP hJ hS (zG_rg hk ht) (j := first.toBitVec.toNat % 4) (by omega) (by decide) dX3_calculate_59 (zS_rg hk ht) (fun H locs hP hS => ?_)
      refine lv_goto (tgt := 90) hx hb dX3_calculate_60 (by decide) ?_
      exact z_retv hx hb hr hlk hP hS dX3_calculate_90 (congrArg (va_up Z k) (by simp only [h_X3_calculate, if_neg c13_1, if_pos c13_2]))
    · by_cases c13_3 : op = nI 2
      · refine lv_tableIn (tgt := 63) (off := 50) hx hb dX3_calculate_13 (by rw [c13_3]; decide) (by rw [c13_3]; decide) (by rw [c13_3]; rfl) (by decide) ?_
        refine lv_aload_n hx hb dX3_calculate_63 rfl (lv_at hl 2 rfl) ?_
        refine lv_iload hx hb dX3_calculate_64 (lv_at hl 1 rfl) ?_
        refine lv_aload_n hx hb dX3_calculate_66 rfl (lv_at hl 2 rfl) ?_
        refine lv_iload hx hb dX3_calculate_67 (lv_at hl 1 rfl) ?_
        refine z_iald hx hb hK hP (zG_rg hk ht) (j := first.toBitVec.toNat % 4) (by omega) (by decide) dX3_calculate_69 ?_
        refine lv_iload hx hb dX3_calculate_70 (lv_at hl 0 rfl) ?_
        refine lv_isub hx hb dX3_calculate_72 ?_
        refine lv_i2s (v := ((M (t + 20) (first.toBitVec.toNat % 4)) - (M (t + 20) (second.toBitVec.toNat % 4))).toInt16.toInt32) hx hb dX3_calculate_73 rfl ?_
        refine z_iast (Z' := va_up Z k (zu M (t + 20) (first.toBitVec.toNat % 4) (((M (t + 20) (first.toBitVec.toNat % 4)) - (M (t + 20) (second.toBitVec.toNat % 4))).toInt16.toInt32))) hx hb hK hP hJ hS (zG_rg hk ht) (j := first.toBitVec.toNat % 4) (by omega) (by decide) dX3_calculate_74 (zS_rg hk ht) (fun H locs hP hS => ?_)
        refine lv_goto (tgt := 90) hx hb dX3_calculate_75 (by decide) ?_
        exact z_retv hx hb hr hlk hP hS dX3_calculate_90 (congrArg (va_up Z k) (by simp only [h_X3_calculate, if_neg c13_1, if_neg c13_2, if_pos c13_3]))
      · have w0_13 := lv_neT c13_1 (k := nI 0) (a := 0) (by decide)
        have w1_13 := lv_neT c13_2 (k := nI 1) (a := 1) (by decide)
        have w2_13 := lv_neT c13_3 (k := nI 2) (a := 2) (by decide)
        refine lv_tableOut (tgt := 78) hx hb dX3_calculate_13 (by omega) (by decide) ?_
        refine lv_aload_n hx hb dX3_calculate_78 rfl (lv_at hl 2 rfl) ?_
        refine lv_iload hx hb dX3_calculate_79 (lv_at hl 1 rfl) ?_
        refine lv_aload_n hx hb dX3_calculate_81 rfl (lv_at hl 2 rfl) ?_
        refine lv_iload hx hb dX3_calculate_82 (lv_at hl 1 rfl) ?_
        refine z_iald hx hb hK hP (zG_rg hk ht) (j := first.toBitVec.toNat % 4) (by omega) (by decide) dX3_calculate_84 ?_
        refine lv_iload hx hb dX3_calculate_85 (lv_at hl 0 rfl) ?_
        refine lv_imul hx hb dX3_calculate_87 ?_
        refine lv_i2s (v := ((M (t + 20) (first.toBitVec.toNat % 4)) * (M (t + 20) (second.toBitVec.toNat % 4))).toInt16.toInt32) hx hb dX3_calculate_88 rfl ?_
        refine z_iast (Z' := va_up Z k (zu M (t + 20) (first.toBitVec.toNat % 4) (((M (t + 20) (first.toBitVec.toNat % 4)) * (M (t + 20) (second.toBitVec.toNat % 4))).toInt16.toInt32))) hx hb hK hP hJ hS (zG_rg hk ht) (j := first.toBitVec.toNat % 4) (by omega) (by decide) dX3_calculate_89 (zS_rg hk ht) (fun H locs hP hS => ?_)
        exact z_retv hx hb hr hlk hP hS dX3_calculate_90 (congrArg (va_up Z k) (by simp only [h_X3_calculate, if_neg c13_1, if_neg c13_2, if_neg c13_3]))

def h_X3_reachMemory (t : Nat) (op first second : Int32) (M : zM) : zM := if op = (nI 4) then h_X0_beginLoad t (nI (first.toBitVec.toNat % 4)) (nI ((M (t + 20) (second.toBitVec.toNat % 4)).toBitVec.toNat % 32)) (((M 16 0) + (nI 1)) + (M 15 0)) M else if op = (nI 6) then zu (zu M 13 ((M (t + 20) (second.toBitVec.toNat % 4)).toBitVec.toNat % 32) (M (t + 20) (first.toBitVec.toNat % 4))) (t + 20) (first.toBitVec.toNat % 4) (M 13 ((M (t + 20) (second.toBitVec.toNat % 4)).toBitVec.toNat % 32)) else zu M 13 ((M (t + 20) (second.toBitVec.toNat % 4)).toBitVec.toNat % 32) (M (t + 20) (first.toBitVec.toNat % 4))
set_option maxHeartbeats 4000000 in
set_option maxRecDepth 100000 in
theorem ct_X3_reachMemory (l : Launch) (D : va_G) (a : Nat → Nat) (ca : Nat → ClassId) (hJ : zJ a) (Z : Nat → zM) (k : Nat) (M : zM) (t : Nat) (hk : k < 6) (ht : t < 4) (op first second : Int32) : zCv l yX3_reachMemory wsX3_reachMemory ({ frames := 1, cells := 0, slots := 0, locals := 23 } : Room) D a ca [.ref (a (19 * k)), .ref (a (19 * k + (2 + t))), .int op, .int first, .int second] (va_up Z k M) (va_up Z k (h_X3_reachMemory t op first second M)) := by
  have hiX0 : ∀ w ∈ wsX00, w ∈ wsX3_reachMemory := by decide +kernel
  have hiX3 : ∀ w ∈ wsX30, w ∈ wsX3_reachMemory := by decide +kernel
  refine z_ofv (cc := cX3_reachMemory) (maxL := 8) (own := RX3) (by decide) rfl (Nat.le_of_ble_eq_true rfl) rfl (fun p e s m below meth c ls hx hb hr hml hts hown hlk hl hK hP hS => ?_)
  have hl : lv_has ls 8 [(0, .ref (a (19 * k))), (1, .ref (a (19 * k + (2 + t)))), (2, .int op), (3, .int first), (4, .int second)] := hl
  refine lv_iload_n hx hb dX3_reachMemory_0 rfl (lv_at hl 3 rfl) ?_
  refine lv_iconst (v := nI 3) hx hb dX3_reachMemory_1 (by decide) ?_
  refine lv_iand hx hb dX3_reachMemory_2 ?_
  refine z_val (z := nI (first.toBitVec.toNat % 4)) (pk_and _ 2 (by decide)) ?_
  refine lv_istore (lv' := [(5, .int (nI (first.toBitVec.toNat % 4))), (0, .ref (a (19 * k))), (1, .ref (a (19 * k + (2 + t)))), (2, .int op), (3, .int first), (4, .int second)]) hx hb dX3_reachMemory_3 hl (by decide) rfl (fun ls hl => ?_)
  refine lv_aload_n hx hb dX3_reachMemory_5 rfl (lv_at hl 2 rfl) ?_
  refine znt0 hx hb hts hiX0 hown hK hP hk ht (zn_RX3_140 hK) dX3_reachMemory_6 ?_
  refine lv_iload hx hb dX3_reachMemory_9 (lv_at hl 5 rfl) ?_
  refine lv_iconst (v := nI 3) hx hb dX3_reachMemory_11 (by decide) ?_
  refine lv_iand hx hb dX3_reachMemory_12 ?_
  refine z_val (z := nI (second.toBitVec.toNat % 4)) (pk_and _ 2 (by decide)) ?_
  refine z_iald hx hb hK hP (zG_rg hk ht) (j := second.toBitVec.toNat % 4) (by omega) (by decide) dX3_reachMemory_13 ?_
  refine lv_bipush (v := nI 31) hx hb dX3_reachMemory_14 (by decide) ?_
  refine lv_iand hx hb dX3_reachMemory_16 ?_
  refine z_val (z := nI ((M (t + 20) (second.toBitVec.toNat % 4)).toBitVec.toNat % 32)) (pk_and _ 5 (by decide)) ?_
  refine lv_istore (lv' := [(6, .int (nI ((M (t + 20) (second.toBitVec.toNat % 4)).toBitVec.toNat % 32))), (5, .int (nI (first.toBitVec.toNat % 4))), (0, .ref (a (19 * k))), (1, .ref (a (19 * k + (2 + t)))), (2, .int op), (3, .int first), (4, .int second)]) hx hb dX3_reachMemory_17 hl (by decide) rfl (fun ls hl => ?_)
  refine lv_iload_n hx hb dX3_reachMemory_19 rfl (lv_at hl 4 rfl) ?_
  refine lv_iconst (v := nI 4) hx hb dX3_reachMemory_20 (by decide) ?_
  refine lv_icmp_ne (tgt := 46) hx hb dX3_reachMemory_21 (by decide) (fun c21_1 => ?_) (fun c21_1 => ?_)
  · refine lv_aload_n hx hb dX3_reachMemory_46 rfl (lv_at hl 2 rfl) ?_
    refine zgm3 hx hb hts hiX3 hown hK hP hk (hts (.fieldLink RX3 28 "BarrelProcessor$Machine" "words" "[I") (by decide +kernel)) dX3_reachMemory_47 ?_
    refine lv_iload hx hb dX3_reachMemory_50 (lv_at hl 0 rfl) ?_
    refine z_iald hx hb hK hP (zG_wd hk) (j := (M (t + 20) (second.toBitVec.toNat % 4)).toBitVec.toNat % 32) (by omega) (by decide) dX3_reachMemory_52 ?_
    refine lv_istore (lv' := [(7, .int (M 13 ((M (t + 20) (second.toBitVec.toNat % 4)).toBitVec.toNat % 32))), (6, .int (nI ((M (t + 20) (second.toBitVec.toNat % 4)).toBitVec.toNat % 32))), (5, .int (nI (first.toBitVec.toNat % 4))), (0, .ref (a (19 * k))), (1, .ref (a (19 * k + (2 + t)))), (2, .int op), (3, .int first), (4, .int second)]) hx hb dX3_reachMemory_53 hl (by decide) rfl (fun ls hl => ?_)
    refine lv_aload_n hx hb dX3_reachMemory_55 rfl (lv_at hl 3 rfl) ?_
    refine zgm3 hx hb hts hiX3 hown hK hP hk (hts (.fieldLink RX3 28 "BarrelProcessor$Machine" "words" "[I") (by decide +kernel)) dX3_reachMemory_56 ?_
    refine lv_iload hx hb dX3_reachMemory_59 (lv_at hl 1 rfl) ?_
    refine lv_aload_n hx hb dX3_reachMemory_61 rfl (lv_at hl 4 rfl) ?_
    refine znt0 hx hb hts hiX0 hown hK hP hk ht (zn_RX3_140 hK) dX3_reachMemory_62 ?_
    refine lv_iload hx hb dX3_reachMemory_65 (lv_at hl 2 rfl) ?_
    refine z_iald hx hb hK hP (zG_rg hk ht) (j := first.toBitVec.toNat % 4) (by omega) (by decide) dX3_reachMemory_67 ?_
    refine z_iast (Z' := va_up Z k (zu M 13 ((M (t + 20) (second.toBitVec.toNat % 4)).toBitVec.toNat % 32) (M (t + 20) (first.toBitVec.toNat % 4)))) hx hb hK hP hJ hS (zG_wd hk) (j := (M (t + 20) (second.toBitVec.toNat % 4)).toBitVec.toNat % 32) (by omega) (by decide) dX3_reachMemory_68 (zS_wd hk) (fun H locs hP hS => ?_)
    refine lv_iload_n hx hb dX3_reachMemory_69 rfl (lv_at hl 5 rfl) ?_
    refine lv_bipush (v := nI 6) hx hb dX3_reachMemory_70 (by decide) ?_
    refine lv_icmp_ne (tgt := 84) hx hb dX3_reachMemory_72 (by decide) (fun c72_2 => ?_) (fun c72_2 => ?_)
    · exact z_retv hx hb hr hlk hP hS dX3_reachMemory_84 (congrArg (va_up Z k) (by simp only [h_X3_reachMemory, if_neg c21_1, if_neg c72_2]))
    · refine lv_aload_n hx hb dX3_reachMemory_75 rfl (lv_at hl 4 rfl) ?_
      refine znt0 hx hb hts hiX0 hown hK hP hk ht (zn_RX3_140 hK) dX3_reachMemory_76 ?_
      refine lv_iload hx hb dX3_reachMemory_79 (lv_at hl 2 rfl) ?_
      refine lv_iload hx hb dX3_reachMemory_81 (lv_at hl 0 rfl) ?_
      refine z_iast (Z' := va_up Z k (zu (zu M 13 ((M (t + 20) (second.toBitVec.toNat % 4)).toBitVec.toNat % 32) (M (t + 20) (first.toBitVec.toNat % 4))) (t + 20) (first.toBitVec.toNat % 4) (M 13 ((M (t + 20) (second.toBitVec.toNat % 4)).toBitVec.toNat % 32)))) hx hb hK hP hJ hS (zG_rg hk ht) (j := first.toBitVec.toNat % 4) (by omega) (by decide) dX3_reachMemory_83 (zS_rg hk ht) (fun H locs hP hS => ?_)
      exact z_retv hx hb hr hlk hP hS dX3_reachMemory_84 (congrArg (va_up Z k) (by simp only [h_X3_reachMemory, if_neg c21_1, if_pos c72_2]))
  · refine lv_aload_n hx hb dX3_reachMemory_24 rfl (lv_at hl 3 rfl) ?_
    refine lv_iload hx hb dX3_reachMemory_25 (lv_at hl 1 rfl) ?_
    refine lv_iload hx hb dX3_reachMemory_27 (lv_at hl 0 rfl) ?_
    refine lv_aload_n hx hb dX3_reachMemory_29 rfl (lv_at hl 2 rfl) ?_
    refine zgm7 hx hb hts hiX3 hown hK hP hk (hts (.fieldLink RX3 62 "BarrelProcessor$Machine" "cycle" "I") (by decide +kernel)) dX3_reachMemory_30 ?_
    refine lv_iconst (v := nI 1) hx hb dX3_reachMemory_33 (by decide) ?_
    refine lv_iadd hx hb dX3_reachMemory_34 ?_
    refine lv_aload_n hx hb dX3_reachMemory_35 rfl (lv_at hl 2 rfl) ?_
    refine zgm5 hx hb hts hiX3 hown hK hP hk (hts (.fieldLink RX3 34 "BarrelProcessor$Machine" "settings" "[I") (by decide +kernel)) dX3_reachMemory_36 ?_
    refine lv_iconst (v := nI 0) hx hb dX3_reachMemory_39 (by decide) ?_
    refine z_iald hx hb hK hP (zG_se hk) (j := 0) (by omega) (by decide) dX3_reachMemory_40 ?_
    refine lv_iadd hx hb dX3_reachMemory_41 ?_
    refine z_cVv (As := [.int (nI (first.toBitVec.toNat % 4)), .int (nI ((M (t + 20) (second.toBitVec.toNat % 4)).toBitVec.toNat % 32)), .int (((M 16 0) + (nI 1)) + (M 15 0))]) (rest := []) ⟨hx, hb, hml, hown, hts⟩ (ct_X0_beginLoad l D a ca hJ Z k M t hk ht (nI (first.toBitVec.toNat % 4)) (nI ((M (t + 20) (second.toBitVec.toNat % 4)).toBitVec.toNat % 32)) (((M 16 0) + (nI 1)) + (M 15 0))) (cwV 3 hts gX3_reachMemory_X0_beginLoad rfl rfl rfl (by decide +kernel) ⟨Nat.le_of_ble_eq_true rfl, Nat.le_of_ble_eq_true rfl⟩) hK hP hS (va_recv (ci := 0) hK.1 hP rfl (zG_t hk ht)) rfl hl.1 rfl (Nat.le_of_ble_eq_true rfl) dX3_reachMemory_42 ⟨Nat.zero_le _, Nat.zero_le _⟩ (fun H locs hP hS => ?_)
    exact z_retv hx hb hr hlk hP hS dX3_reachMemory_45 (congrArg (va_up Z k) (by simp only [h_X3_reachMemory, if_pos c21_1]))

def h_X3_steer (t : Nat) (op first second : Int32) (M : zM) : zM := if op = nI 7 then zu M 1 t first else if op = nI 8 then if (M (t + 20) (first.toBitVec.toNat % 4)) = 0 then zu M 1 t second else zu M 1 t (M 1 t) else if op = nI 9 then if 0 ≤ (M (t + 20) (first.toBitVec.toNat % 4)) then zu M 1 t (M 1 t) else zu M 1 t second else if op = nI 10 then zu M 0 t (nI 3) else zu M 0 t (nI 0)
set_option maxHeartbeats 4000000 in
set_option maxRecDepth 100000 in
theorem ct_X3_steer (l : Launch) (D : va_G) (a : Nat → Nat) (ca : Nat → ClassId) (hJ : zJ a) (Z : Nat → zM) (k : Nat) (M : zM) (t : Nat) (hk : k < 6) (ht : t < 4) (op first second : Int32) : zCv l yX3_steer wsX3_steer ({ frames := 0, cells := 0, slots := 0, locals := 0 } : Room) D a ca [.ref (a (19 * k + (2 + t))), .int op, .int first, .int second] (va_up Z k M) (va_up Z k (h_X3_steer t op first second M)) := by
  have hiX0 : ∀ w ∈ wsX00, w ∈ wsX3_steer := by decide +kernel
  refine z_ofv (cc := cX3_steer) (maxL := 5) (own := RX3) (by decide) rfl (Nat.le_of_ble_eq_true rfl) rfl (fun p e s m below meth c ls hx hb hr hml hts hown hlk hl hK hP hS => ?_)
  have hl : lv_has ls 5 [(0, .ref (a (19 * k + (2 + t)))), (1, .int op), (2, .int first), (3, .int second)] := hl
  refine lv_aload_n hx hb dX3_steer_0 rfl (lv_at hl 0 rfl) ?_
  refine znt0 hx hb hts hiX0 hown hK hP hk ht (zn_RX3_140 hK) dX3_steer_1 ?_
  refine lv_iload_n hx hb dX3_steer_4 rfl (lv_at hl 2 rfl) ?_
  refine lv_iconst (v := nI 3) hx hb dX3_steer_5 (by decide) ?_
  refine lv_iand hx hb dX3_steer_6 ?_
  refine z_val (z := nI (first.toBitVec.toNat % 4)) (pk_and _ 2 (by decide)) ?_
  refine z_iald hx hb hK hP (zG_rg hk ht) (j := first.toBitVec.toNat % 4) (by omega) (by decide) dX3_steer_7 ?_
  refine lv_istore (lv' := [(4, .int (M (t + 20) (first.toBitVec.toNat % 4))), (0, .ref (a (19 * k + (2 + t)))), (1, .int op), (2, .int first), (3, .int second)]) hx hb dX3_steer_8 hl (by decide) rfl (fun ls hl => ?_)
  refine lv_iload_n hx hb dX3_steer_10 rfl (lv_at hl 2 rfl) ?_
  by_cases c11_1 : op = nI 7
  · refine lv_tableIn (tgt := 40) (off := 29) hx hb dX3_steer_11 (by rw [c11_1]; decide) (by rw [c11_1]; decide) (by rw [c11_1]; rfl) (by decide) ?_
    refine lv_aload_n hx hb dX3_steer_40 rfl (lv_at hl 1 rfl) ?_
    refine lv_iload_n hx hb dX3_steer_41 rfl (lv_at hl 3 rfl) ?_
    refine zqt2 hx hb hts hiX0 hown hK hP hJ hS hk ht (zn_RX3_118 hK) dX3_steer_42 (fun H locs hP hS => ?_)
    refine lv_goto (tgt := 101) hx hb dX3_steer_45 (by decide) ?_
    exact z_retv hx hb hr hlk hP hS dX3_steer_101 (congrArg (va_up Z k) (by simp only [h_X3_steer, if_pos c11_1]))
  · by_cases c11_2 : op = nI 8
    · refine lv_tableIn (tgt := 48) (off := 37) hx hb dX3_steer_11 (by rw [c11_2]; decide) (by rw [c11_2]; decide) (by rw [c11_2]; rfl) (by decide) ?_
      refine lv_aload_n hx hb dX3_steer_48 rfl (lv_at hl 1 rfl) ?_
      refine lv_iload hx hb dX3_steer_49 (lv_at hl 0 rfl) ?_
      refine lv_if_ne (tgt := 58) hx hb dX3_steer_51 (by decide) (fun c51_3 => ?_) (fun c51_3 => ?_)
      · refine lv_aload_n hx hb dX3_steer_58 rfl (lv_at hl 1 rfl) ?_
        refine znt2 hx hb hts hiX0 hown hK hP hk ht (zn_RX3_118 hK) dX3_steer_59 ?_
        refine zqt2 hx hb hts hiX0 hown hK hP hJ hS hk ht (zn_RX3_118 hK) dX3_steer_62 (fun H locs hP hS => ?_)
        refine lv_goto (tgt := 101) hx hb dX3_steer_65 (by decide) ?_
        exact z_retv hx hb hr hlk hP hS dX3_steer_101 (congrArg (va_up Z k) (by simp only [h_X3_steer, if_neg c11_1, if_pos c11_2, if_neg c51_3]))
      · refine lv_iload_n hx hb dX3_steer_54 rfl (lv_at hl 4 rfl) ?_
        refine lv_goto (tgt := 62) hx hb dX3_steer_55 (by decide) ?_
        refine zqt2 hx hb hts hiX0 hown hK hP hJ hS hk ht (zn_RX3_118 hK) dX3_steer_62 (fun H locs hP hS => ?_)
        refine lv_goto (tgt := 101) hx hb dX3_steer_65 (by decide) ?_
        exact z_retv hx hb hr hlk hP hS dX3_steer_101 (congrArg (va_up Z k) (by simp only [h_X3_steer, if_neg c11_1, if_pos c11_2, if_pos c51_3]))
    · by_cases c11_4 : op = nI 9
      · refine lv_tableIn (tgt := 68) (off := 57) hx hb dX3_steer_11 (by rw [c11_4]; decide) (by rw [c11_4]; decide) (by rw [c11_4]; rfl) (by decide) ?_
        refine lv_aload_n hx hb dX3_steer_68 rfl (lv_at hl 1 rfl) ?_
        refine lv_iload hx hb dX3_steer_69 (lv_at hl 0 rfl) ?_
        refine lv_if_ge (tgt := 78) hx hb dX3_steer_71 (by decide) (fun c71_5 => ?_) (fun c71_5 => ?_)
        · refine lv_aload_n hx hb dX3_steer_78 rfl (lv_at hl 1 rfl) ?_
          refine znt2 hx hb hts hiX0 hown hK hP hk ht (zn_RX3_118 hK) dX3_steer_79 ?_
          refine zqt2 hx hb hts hiX0 hown hK hP hJ hS hk ht (zn_RX3_118 hK) dX3_steer_82 (fun H locs hP hS => ?_)
          refine lv_goto (tgt := 101) hx hb dX3_steer_85 (by decide) ?_
          exact z_retv hx hb hr hlk hP hS dX3_steer_101 (congrArg (va_up Z k) (by simp only [h_X3_steer, if_neg c11_1, if_neg c11_2, if_pos c11_4, if_pos c71_5]))
        · refine lv_iload_n hx hb dX3_steer_74 rfl (lv_at hl 4 rfl) ?_
          refine lv_goto (tgt := 82) hx hb dX3_steer_75 (by decide) ?_
          refine zqt2 hx hb hts hiX0 hown hK hP hJ hS hk ht (zn_RX3_118 hK) dX3_steer_82 (fun H locs hP hS => ?_)
          refine lv_goto (tgt := 101) hx hb dX3_steer_85 (by decide) ?_
          exact z_retv hx hb hr hlk hP hS dX3_steer_101 (congrArg (va_up Z k) (by simp only [h_X3_steer, if_neg c11_1, if_neg c11_2, if_pos c11_4, if_neg c71_5]))
      · by_cases c11_6 : op = nI 10
        · refine lv_tableIn (tgt := 88) (off := 77) hx hb dX3_steer_11 (by rw [c11_6]; decide) (by rw [c11_6]; decide) (by rw [c11_6]; rfl) (by decide) ?_
          refine lv_aload_n hx hb dX3_steer_88 rfl (lv_at hl 1 rfl) ?_
          refine lv_iconst (v := nI 3) hx hb dX3_steer_89 (by decide) ?_
          refine zqt1 hx hb hts hiX0 hown hK hP hJ hS hk ht (zn_RX3_102 hK) dX3_steer_90 (fun H locs hP hS => ?_)
          refine lv_goto (tgt := 101) hx hb dX3_steer_93 (by decide) ?_
          exact z_retv hx hb hr hlk hP hS dX3_steer_101 (congrArg (va_up Z k) (by simp only [h_X3_steer, if_neg c11_1, if_neg c11_2, if_neg c11_4, if_pos c11_6]))
        · have w7_11 := lv_neT c11_1 (k := nI 7) (a := 7) (by decide)
          have w8_11 := lv_neT c11_2 (k := nI 8) (a := 8) (by decide)
          have w9_11 := lv_neT c11_4 (k := nI 9) (a := 9) (by decide)
          have w10_11 := lv_neT c11_6 (k := nI 10) (a := 10) (by decide)
          refine lv_tableOut (tgt := 96) hx hb dX3_steer_11 (by omega) (by decide) ?_
          refine lv_aload_n hx hb dX3_steer_96 rfl (lv_at hl 1 rfl) ?_
          refine lv_iconst (v := nI 0) hx hb dX3_steer_97 (by decide) ?_
          refine zqt1 hx hb hts hiX0 hown hK hP hJ hS hk ht (zn_RX3_102 hK) dX3_steer_98 (fun H locs hP hS => ?_)
          exact z_retv hx hb hr hlk hP hS dX3_steer_101 (congrArg (va_up Z k) (by simp only [h_X3_steer, if_neg c11_1, if_neg c11_2, if_neg c11_4, if_neg c11_6]))

def h_X3_executeNext (t : Nat) (M : zM) : zM := if (g_X6_isPlace (M 1 t)) = 0 then zu M 0 t (nI 0) else if (nI 3) < ((zu M 1 t ((M 1 t) + (nI 1))) 10 (zc (M 1 t))) then if (nI 6) < ((zu M 1 t ((M 1 t) + (nI 1))) 10 (zc (M 1 t))) then h_X3_steer t ((zu M 1 t ((M 1 t) + (nI 1))) 10 (zc (M 1 t))) ((zu M 1 t ((M 1 t) + (nI 1))) 11 ((zc (M 1 t)) * 2)) ((zu M 1 t ((M 1 t) + (nI 1))) 11 ((zc (M 1 t)) * 2 + 1)) (zu M 1 t ((M 1 t) + (nI 1))) else h_X3_reachMemory t ((zu M 1 t ((M 1 t) + (nI 1))) 10 (zc (M 1 t))) ((zu M 1 t ((M 1 t) + (nI 1))) 11 ((zc (M 1 t)) * 2)) ((zu M 1 t ((M 1 t) + (nI 1))) 11 ((zc (M 1 t)) * 2 + 1)) (zu M 1 t ((M 1 t) + (nI 1))) else h_X3_calculate t ((zu M 1 t ((M 1 t) + (nI 1))) 10 (zc (M 1 t))) ((zu M 1 t ((M 1 t) + (nI 1))) 11 ((zc (M 1 t)) * 2)) ((zu M 1 t ((M 1 t) + (nI 1))) 11 ((zc (M 1 t)) * 2 + 1)) (zu M 1 t ((M 1 t) + (nI 1)))
set_option maxHeartbeats 4000000 in
set_option maxRecDepth 100000 in
theorem ct_X3_executeNext (l : Launch) (D : va_G) (a : Nat → Nat) (ca : Nat → ClassId) (hJ : zJ a) (Z : Nat → zM) (k : Nat) (M : zM) (t : Nat) (hk : k < 6) (ht : t < 4) : zCv l yX3_executeNext wsX3_executeNext ({ frames := 2, cells := 0, slots := 0, locals := 50 } : Room) D a ca [.ref (a (19 * k)), .ref (a (19 * k + (2 + t)))] (va_up Z k M) (va_up Z k (h_X3_executeNext t M)) := by
  have hiX0 : ∀ w ∈ wsX00, w ∈ wsX3_executeNext := by decide +kernel
  have hiX2 : ∀ w ∈ wsX20, w ∈ wsX3_executeNext := by decide +kernel
  have hiX3 : ∀ w ∈ wsX30, w ∈ wsX3_executeNext := by decide +kernel
  refine z_ofv (cc := cX3_executeNext) (maxL := 6) (own := RX3) (by decide) rfl (Nat.le_of_ble_eq_true rfl) rfl (fun p e s m below meth c ls hx hb hr hml hts hown hlk hl hK hP hS => ?_)
  have hl : lv_has ls 6 [(0, .ref (a (19 * k))), (1, .ref (a (19 * k + (2 + t))))] := hl
  refine lv_aload_n hx hb dX3_executeNext_0 rfl (lv_at hl 1 rfl) ?_
  refine znt2 hx hb hts hiX0 hown hK hP hk ht (zn_RX3_118 hK) dX3_executeNext_1 ?_
  refine lv_istore_n (lv' := [(2, .int (M 1 t)), (0, .ref (a (19 * k))), (1, .ref (a (19 * k + (2 + t))))]) hx hb dX3_executeNext_4 rfl hl (by decide) rfl (fun ls hl => ?_)
  refine lv_iload_n hx hb dX3_executeNext_5 rfl (lv_at hl 0 rfl) ?_
  refine z_cNi (As := [.int (M 1 t)]) (rest := []) ⟨hx, hb, hml, hown, hts⟩ (ct_X6_isPlace l D a ca hJ (va_up Z k M) (M 1 t)) ⟨va_cnB 1 hts gX3_executeNext_X6_isPlace_n121 rfl rfl rfl (zn_RX3_121 hK) (hts (.initialized RX6) (by decide +kernel)) (by decide +kernel) ⟨Nat.le_of_ble_eq_true rfl, Nat.le_of_ble_eq_true rfl⟩, hts (.static yX6_isPlace) (by decide +kernel), trivial⟩ hK hP hS rfl hl.1 rfl (Nat.le_of_ble_eq_true rfl) dX3_executeNext_6 ⟨Nat.zero_le _, Nat.zero_le _⟩ (fun H locs hP hS => ?_)
  refine lv_if_ne (tgt := 18) hx hb dX3_executeNext_9 (by decide) (fun c9_1 => ?_) (fun c9_1 => ?_)
  · have bp := z_isPlace c9_1
    have bp1 := bp.1
    refine lv_aload_n hx hb dX3_executeNext_18 rfl (lv_at hl 2 rfl) ?_
    refine lv_iload_n hx hb dX3_executeNext_19 rfl (lv_at hl 0 rfl) ?_
    refine lv_iconst (v := nI 1) hx hb dX3_executeNext_20 (by decide) ?_
    refine lv_iadd hx hb dX3_executeNext_21 ?_
    refine zqt2 hx hb hts hiX0 hown hK hP hJ hS hk ht (zn_RX3_118 hK) dX3_executeNext_22 (fun H locs hP hS => ?_)
    refine lv_aload_n hx hb dX3_executeNext_25 rfl (lv_at hl 1 rfl) ?_
    refine zgm1 hx hb hts hiX3 hown hK hP hk (hts (.fieldLink RX3 20 "BarrelProcessor$Machine" "program" "LBarrelProcessor$Instructions;") (by decide +kernel)) dX3_executeNext_26 ?_
    refine znp0 hx hb hts hiX2 hown hK hP hk (zn_RX3_163 hK) dX3_executeNext_29 ?_
    refine lv_iload_n hx hb dX3_executeNext_32 rfl (lv_at hl 0 rfl) ?_
    refine z_val (z := nI (zc (M 1 t))) bp.2 ?_
    refine z_iald hx hb hK hP (zG_op hk) (j := zc (M 1 t)) (by omega) (by decide) dX3_executeNext_33 ?_
    refine lv_istore_n (lv' := [(3, .int ((zu M 1 t ((M 1 t) + (nI 1))) 10 (zc (M 1 t)))), (2, .int (M 1 t)), (0, .ref (a (19 * k))), (1, .ref (a (19 * k + (2 + t))))]) hx hb dX3_executeNext_34 rfl hl (by decide) rfl (fun ls hl => ?_)
    refine lv_aload_n hx hb dX3_executeNext_35 rfl (lv_at hl 2 rfl) ?_
    refine zgm1 hx hb hts hiX3 hown hK hP hk (hts (.fieldLink RX3 20 "BarrelProcessor$Machine" "program" "LBarrelProcessor$Instructions;") (by decide +kernel)) dX3_executeNext_36 ?_
    refine znp1 hx hb hts hiX2 hown hK hP hk (zn_RX3_166 hK) dX3_executeNext_39 ?_
    refine lv_iload_n hx hb dX3_executeNext_42 rfl (lv_at hl 1 rfl) ?_
    refine z_val (z := nI (zc (M 1 t))) bp.2 ?_
    refine lv_iconst (v := nI 2) hx hb dX3_executeNext_43 (by decide) ?_
    refine lv_imul hx hb dX3_executeNext_44 ?_
    refine z_val (z := nI ((zc (M 1 t)) * 2)) (pk_mul _ _) ?_
    refine z_iald hx hb hK hP (zG_od hk) (j := (zc (M 1 t)) * 2) (by omega) (by decide) dX3_executeNext_45 ?_
    refine lv_istore (lv' := [(4, .int ((zu M 1 t ((M 1 t) + (nI 1))) 11 ((zc (M 1 t)) * 2))), (3, .int ((zu M 1 t ((M 1 t) + (nI 1))) 10 (zc (M 1 t)))), (2, .int (M 1 t)), (0, .ref (a (19 * k))), (1, .ref (a (19 * k + (2 + t))))]) hx hb dX3_executeNext_46 hl (by decide) rfl (fun ls hl => ?_)
    refine lv_aload_n hx hb dX3_executeNext_48 rfl (lv_at hl 3 rfl) ?_
    refine zgm1 hx hb hts hiX3 hown hK hP hk (hts (.fieldLink RX3 20 "BarrelProcessor$Machine" "program" "LBarrelProcessor$Instructions;") (by decide +kernel)) dX3_executeNext_49 ?_
    refine znp1 hx hb hts hiX2 hown hK hP hk (zn_RX3_166 hK) dX3_executeNext_52 ?_
    refine lv_iload_n hx hb dX3_executeNext_55 rfl (lv_at hl 2 rfl) ?_
    refine z_val (z := nI (zc (M 1 t))) bp.2 ?_
    refine lv_iconst (v := nI 2) hx hb dX3_executeNext_56 (by decide) ?_
    refine lv_imul hx hb dX3_executeNext_57 ?_
    refine z_val (z := nI ((zc (M 1 t)) * 2)) (pk_mul _ _) ?_
    refine lv_iconst (v := nI 1) hx hb dX3_executeNext_58 (by decide) ?_
    refine lv_iadd hx hb dX3_executeNext_59 ?_
    refine z_val (z := nI ((zc (M 1 t)) * 2 + 1)) (nI_add _ _) ?_
    refine z_iald hx hb hK hP (zG_od hk) (j := (zc (M 1 t)) * 2 + 1) (by omega) (by decide) dX3_executeNext_60 ?_
    refine lv_istore (lv' := [(5, .int ((zu M 1 t ((M 1 t) + (nI 1))) 11 ((zc (M 1 t)) * 2 + 1))), (4, .int ((zu M 1 t ((M 1 t) + (nI 1))) 11 ((zc (M 1 t)) * 2))), (3, .int ((zu M 1 t ((M 1 t) + (nI 1))) 10 (zc (M 1 t)))), (2, .int (M 1 t)), (0, .ref (a (19 * k))), (1, .ref (a (19 * k + (2 + t))))]) hx hb dX3_executeNext_61 hl (by decide) rfl (fun ls hl => ?_)
    refine lv_iload_n hx hb dX3_executeNext_63 rfl (lv_at hl 2 rfl) ?_
    refine lv_iconst (v := nI 3) hx hb dX3_executeNext_64 (by decide) ?_
    refine lv_icmp_gt (tgt := 83) hx hb dX3_executeNext_65 (by decide) (fun c65_2 => ?_) (fun c65_2 => ?_)
    · refine lv_iload_n hx hb dX3_executeNext_83 rfl (lv_at hl 2 rfl) ?_
      refine lv_bipush (v := nI 6) hx hb dX3_executeNext_84 (by decide) ?_
      refine lv_icmp_gt (tgt := 102) hx hb dX3_executeNext_86 (by decide) (fun c86_3 => ?_) (fun c86_3 => ?_)
      · refine lv_aload_n hx hb dX3_executeNext_102 rfl (lv_at hl 5 rfl) ?_
        refine lv_iload_n hx hb dX3_executeNext_103 rfl (lv_at hl 2 rfl) ?_
        refine lv_iload hx hb dX3_executeNext_104 (lv_at hl 1 rfl) ?_
        refine lv_iload hx hb dX3_executeNext_106 (lv_at hl 0 rfl) ?_
        refine z_cSv (As := [.ref (a (19 * k + (2 + t))), .int ((zu M 1 t ((M 1 t) + (nI 1))) 10 (zc (M 1 t))), .int ((zu M 1 t ((M 1 t) + (nI 1))) 11 ((zc (M 1 t)) * 2)), .int ((zu M 1 t ((M 1 t) + (nI 1))) 11 ((zc (M 1 t)) * 2 + 1))]) (rest := []) ⟨hx, hb, hml, hown, hts⟩ (ct_X3_steer l D a ca hJ Z k (zu M 1 t ((M 1 t) + (nI 1))) t hk ht ((zu M 1 t ((M 1 t) + (nI 1))) 10 (zc (M 1 t))) ((zu M 1 t ((M 1 t) + (nI 1))) 11 ((zc (M 1 t)) * 2)) ((zu M 1 t ((M 1 t) + (nI 1))) 11 ((zc (M 1 t)) * 2 + 1))) (va_cwS 4 hts gX3_executeNext_X3_steer rfl rfl rfl (by decide +kernel) ⟨Nat.le_of_ble_eq_true rfl, Nat.le_of_ble_eq_true rfl⟩) hK hP hS rfl hl.1 rfl (Nat.le_of_ble_eq_true rfl) dX3_executeNext_108 ⟨Nat.zero_le _, Nat.zero_le _⟩ (fun H locs hP hS => ?_)
        exact z_retv hx hb hr hlk hP hS dX3_executeNext_111 (congrArg (va_up Z k) (by simp only [h_X3_executeNext, if_neg c9_1, if_pos c65_2, if_pos c86_3]))
      · refine lv_aload_n hx hb dX3_executeNext_89 rfl (lv_at hl 4 rfl) ?_
        refine lv_aload_n hx hb dX3_executeNext_90 rfl (lv_at hl 5 rfl) ?_
        refine lv_iload_n hx hb dX3_executeNext_91 rfl (lv_at hl 2 rfl) ?_
        refine lv_iload hx hb dX3_executeNext_92 (lv_at hl 1 rfl) ?_
        refine lv_iload hx hb dX3_executeNext_94 (lv_at hl 0 rfl) ?_
        refine z_cVv (As := [.ref (a (19 * k + (2 + t))), .int ((zu M 1 t ((M 1 t) + (nI 1))) 10 (zc (M 1 t))), .int ((zu M 1 t ((M 1 t) + (nI 1))) 11 ((zc (M 1 t)) * 2)), .int ((zu M 1 t ((M 1 t) + (nI 1))) 11 ((zc (M 1 t)) * 2 + 1))]) (rest := []) ⟨hx, hb, hml, hown, hts⟩ (ct_X3_reachMemory l D a ca hJ Z k (zu M 1 t ((M 1 t) + (nI 1))) t hk ht ((zu M 1 t ((M 1 t) + (nI 1))) 10 (zc (M 1 t))) ((zu M 1 t ((M 1 t) + (nI 1))) 11 ((zc (M 1 t)) * 2)) ((zu M 1 t ((M 1 t) + (nI 1))) 11 ((zc (M 1 t)) * 2 + 1))) (cwV 4 hts gX3_executeNext_X3_reachMemory rfl rfl rfl (by decide +kernel) ⟨Nat.le_of_ble_eq_true rfl, Nat.le_of_ble_eq_true rfl⟩) hK hP hS (va_recv (ci := 3) hK.1 hP rfl (zG_m hk)) rfl hl.1 rfl (Nat.le_of_ble_eq_true rfl) dX3_executeNext_96 ⟨Nat.zero_le _, Nat.zero_le _⟩ (fun H locs hP hS => ?_)
        refine lv_goto (tgt := 111) hx hb dX3_executeNext_99 (by decide) ?_
        exact z_retv hx hb hr hlk hP hS dX3_executeNext_111 (congrArg (va_up Z k) (by simp only [h_X3_executeNext, if_neg c9_1, if_pos c65_2, if_neg c86_3]))
    · refine lv_aload_n hx hb dX3_executeNext_68 rfl (lv_at hl 5 rfl) ?_
      refine znt0 hx hb hts hiX0 hown hK hP hk ht (zn_RX3_140 hK) dX3_executeNext_69 ?_
      refine lv_iload_n hx hb dX3_executeNext_72 rfl (lv_at hl 2 rfl) ?_
      refine lv_iload hx hb dX3_executeNext_73 (lv_at hl 1 rfl) ?_
      refine lv_iload hx hb dX3_executeNext_75 (lv_at hl 0 rfl) ?_
      refine z_cSv (As := [.ref (a (19 * k + (6 + t))), .int ((zu M 1 t ((M 1 t) + (nI 1))) 10 (zc (M 1 t))), .int ((zu M 1 t ((M 1 t) + (nI 1))) 11 ((zc (M 1 t)) * 2)), .int ((zu M 1 t ((M 1 t) + (nI 1))) 11 ((zc (M 1 t)) * 2 + 1))]) (rest := []) ⟨hx, hb, hml, hown, hts⟩ (ct_X3_calculate l D a ca hJ Z k (zu M 1 t ((M 1 t) + (nI 1))) t hk ht ((zu M 1 t ((M 1 t) + (nI 1))) 10 (zc (M 1 t))) ((zu M 1 t ((M 1 t) + (nI 1))) 11 ((zc (M 1 t)) * 2)) ((zu M 1 t ((M 1 t) + (nI 1))) 11 ((zc (M 1 t)) * 2 + 1))) (va_cwS 4 hts gX3_executeNext_X3_calculate rfl rfl rfl (by decide +kernel) ⟨Nat.le_of_ble_eq_true rfl, Nat.le_of_ble_eq_true rfl⟩) hK hP hS rfl hl.1 rfl (Nat.le_of_ble_eq_true rfl) dX3_executeNext_77 ⟨Nat.zero_le _, Nat.zero_le _⟩ (fun H locs hP hS => ?_)
      refine lv_goto (tgt := 111) hx hb dX3_executeNext_80 (by decide) ?_
      exact z_retv hx hb hr hlk hP hS dX3_executeNext_111 (congrArg (va_up Z k) (by simp only [h_X3_executeNext, if_neg c9_1, if_neg c65_2]))
  · refine lv_aload_n hx hb dX3_executeNext_12 rfl (lv_at hl 2 rfl) ?_
    refine lv_iconst (v := nI 0) hx hb dX3_executeNext_13 (by decide) ?_
    refine zqt1 hx hb hts hiX0 hown hK hP hJ hS hk ht (zn_RX3_102 hK) dX3_executeNext_14 (fun H locs hP hS => ?_)
    exact z_retv hx hb hr hlk hP hS dX3_executeNext_17 (congrArg (va_up Z k) (by simp only [h_X3_executeNext, if_pos c9_1]))

theorem zOK_calculate {M : zM} {t : Nat} {x y z : Int32} (h : zOK M) : zOK (h_X3_calculate t x y z M) := by
  unfold h_X3_calculate
  split
  · exact zOK_u (by omega) (by omega) (by omega) h
  · split
    · exact zOK_u (by omega) (by omega) (by omega) h
    · split
      · exact zOK_u (by omega) (by omega) (by omega) h
      · exact zOK_u (by omega) (by omega) (by omega) h
theorem zOK_reachMemory {M : zM} {t : Nat} {x y z : Int32} (h : zOK M) : zOK (h_X3_reachMemory t x y z M) := by
  unfold h_X3_reachMemory
  split
  · exact zOK_u (by omega) (by omega) (by omega) (zOK_3 (zIn_nI (Nat.mod_lt _ (by decide)) (by decide)) (zOK_2 (zIn_nI (Nat.mod_lt _ (by decide)) (by decide)) (zOK_u (by omega) (by omega) (by omega) h)))
  · split
    · exact zOK_u (by omega) (by omega) (by omega) (zOK_u (by omega) (by omega) (by omega) h)
    · exact zOK_u (by omega) (by omega) (by omega) h
theorem zOK_steer {M : zM} {t : Nat} {x y z : Int32} (h : zOK M) : zOK (h_X3_steer t x y z M) := by
  unfold h_X3_steer
  repeat' split
  all_goals exact zOK_u (by omega) (by omega) (by omega) h
theorem zOK_executeNext {M : zM} {t : Nat} (h : zOK M) : zOK (h_X3_executeNext t M) := by
  unfold h_X3_executeNext
  split
  · exact zOK_u (by omega) (by omega) (by omega) h
  · have h1 : ∀ x, zOK (zu M 1 t x) := fun x => zOK_u (by omega) (by omega) (by omega) h
    split
    · split
      · exact zOK_steer (h1 _)
      · exact zOK_reachMemory (h1 _)
    · exact zOK_calculate (h1 _)

def h_X3_runCycle  (M : zM) : zM := if (g_X6_isThread (g_X3_findIssuer (h_X3_openBarrier (h_X3_finishLoads M)))) = 0 then zu (zu (h_X3_countStarving (g_X3_findIssuer (h_X3_openBarrier (h_X3_finishLoads M))) (h_X3_openBarrier (h_X3_finishLoads M))) 17 0 (((h_X3_countStarving (g_X3_findIssuer (h_X3_openBarrier (h_X3_finishLoads M))) (h_X3_openBarrier (h_X3_finishLoads M))) 17 0) + (nI 1))) 16 0 (((zu (h_X3_countStarving (g_X3_findIssuer (h_X3_openBarrier (h_X3_finishLoads M))) (h_X3_openBarrier (h_X3_finishLoads M))) 17 0 (((h_X3_countStarving (g_X3_findIssuer (h_X3_openBarrier (h_X3_finishLoads M))) (h_X3_openBarrier (h_X3_finishLoads M))) 17 0) + (nI 1))) 16 0) + (nI 1)) else zu (h_X3_executeNext (zc (g_X3_findIssuer (h_X3_openBarrier (h_X3_finishLoads M)))) (h_X3_noteIssue (zc (g_X3_findIssuer (h_X3_openBarrier (h_X3_finishLoads M)))) (h_X3_countStarving (g_X3_findIssuer (h_X3_openBarrier (h_X3_finishLoads M))) (h_X3_openBarrier (h_X3_finishLoads M))))) 16 0 (((h_X3_executeNext (zc (g_X3_findIssuer (h_X3_openBarrier (h_X3_finishLoads M)))) (h_X3_noteIssue (zc (g_X3_findIssuer (h_X3_openBarrier (h_X3_finishLoads M)))) (h_X3_countStarving (g_X3_findIssuer (h_X3_openBarrier (h_X3_finishLoads M))) (h_X3_openBarrier (h_X3_finishLoads M))))) 16 0) + (nI 1))
set_option maxHeartbeats 4000000 in
set_option maxRecDepth 100000 in
theorem ct_X3_runCycle (l : Launch) (D : va_G) (a : Nat → Nat) (ca : Nat → ClassId) (hJ : zJ a) (Z : Nat → zM) (k : Nat) (M : zM) (hk : k < 6) (hI : zOK M) : zCv l yX3_runCycle wsX3_runCycle ({ frames := 3, cells := 0, slots := 0, locals := 75 } : Room) D a ca [.ref (a (19 * k))] (va_up Z k M) (va_up Z k (h_X3_runCycle M)) := by
  have hiX3 : ∀ w ∈ wsX30, w ∈ wsX3_runCycle := by decide +kernel
  refine z_ofv (cc := cX3_runCycle) (maxL := 2) (own := RX3) (by decide) rfl (Nat.le_of_ble_eq_true rfl) rfl (fun p e s m below meth c ls hx hb hr hml hts hown hlk hl hK hP hS => ?_)
  have hl : lv_has ls 2 [(0, .ref (a (19 * k)))] := hl
  refine lv_aload_n hx hb dX3_runCycle_0 rfl (lv_at hl 0 rfl) ?_
  refine z_cVv (As := []) (rest := []) ⟨hx, hb, hml, hown, hts⟩ (ct_X3_finishLoads l D a ca hJ Z k M hk hI) (cwV 0 hts gX3_runCycle_X3_finishLoads rfl rfl rfl (by decide +kernel) ⟨Nat.le_of_ble_eq_true rfl, Nat.le_of_ble_eq_true rfl⟩) hK hP hS (va_recv (ci := 3) hK.1 hP rfl (zG_m hk)) rfl hl.1 rfl (Nat.le_of_ble_eq_true rfl) dX3_runCycle_1 ⟨Nat.zero_le _, Nat.zero_le _⟩ (fun H locs hP hS => ?_)
  refine lv_aload_n hx hb dX3_runCycle_4 rfl (lv_at hl 0 rfl) ?_
  refine z_cVv (As := []) (rest := []) ⟨hx, hb, hml, hown, hts⟩ (ct_X3_openBarrier l D a ca hJ Z k (h_X3_finishLoads M) hk) (cwV 0 hts gX3_runCycle_X3_openBarrier rfl rfl rfl (by decide +kernel) ⟨Nat.le_of_ble_eq_true rfl, Nat.le_of_ble_eq_true rfl⟩) hK hP hS (va_recv (ci := 3) hK.1 hP rfl (zG_m hk)) rfl hl.1 rfl (Nat.le_of_ble_eq_true rfl) dX3_runCycle_5 ⟨Nat.zero_le _, Nat.zero_le _⟩ (fun H locs hP hS => ?_)
  refine lv_aload_n hx hb dX3_runCycle_8 rfl (lv_at hl 0 rfl) ?_
  refine z_cVi (As := []) (rest := []) ⟨hx, hb, hml, hown, hts⟩ (ct_X3_findIssuer l D a ca hJ Z k (h_X3_openBarrier (h_X3_finishLoads M)) hk) (cwV 0 hts gX3_runCycle_X3_findIssuer rfl rfl rfl (by decide +kernel) ⟨Nat.le_of_ble_eq_true rfl, Nat.le_of_ble_eq_true rfl⟩) hK hP hS (va_recv (ci := 3) hK.1 hP rfl (zG_m hk)) rfl hl.1 rfl (Nat.le_of_ble_eq_true rfl) dX3_runCycle_9 ⟨Nat.zero_le _, Nat.zero_le _⟩ (fun H locs hP hS => ?_)
  refine lv_istore_n (lv' := [(1, .int (g_X3_findIssuer (h_X3_openBarrier (h_X3_finishLoads M)))), (0, .ref (a (19 * k)))]) hx hb dX3_runCycle_12 rfl hl (by decide) rfl (fun ls hl => ?_)
  refine lv_aload_n hx hb dX3_runCycle_13 rfl (lv_at hl 1 rfl) ?_
  refine lv_iload_n hx hb dX3_runCycle_14 rfl (lv_at hl 0 rfl) ?_
  refine z_cVv (As := [.int (g_X3_findIssuer (h_X3_openBarrier (h_X3_finishLoads M)))]) (rest := []) ⟨hx, hb, hml, hown, hts⟩ (ct_X3_countStarving l D a ca hJ Z k (h_X3_openBarrier (h_X3_finishLoads M)) hk (g_X3_findIssuer (h_X3_openBarrier (h_X3_finishLoads M)))) (cwV 1 hts gX3_runCycle_X3_countStarving rfl rfl rfl (by decide +kernel) ⟨Nat.le_of_ble_eq_true rfl, Nat.le_of_ble_eq_true rfl⟩) hK hP hS (va_recv (ci := 3) hK.1 hP rfl (zG_m hk)) rfl hl.1 rfl (Nat.le_of_ble_eq_true rfl) dX3_runCycle_15 ⟨Nat.zero_le _, Nat.zero_le _⟩ (fun H locs hP hS => ?_)
  refine lv_iload_n hx hb dX3_runCycle_18 rfl (lv_at hl 0 rfl) ?_
  refine z_cNi (As := [.int (g_X3_findIssuer (h_X3_openBarrier (h_X3_finishLoads M)))]) (rest := []) ⟨hx, hb, hml, hown, hts⟩ (ct_X6_isThread l D a ca hJ (va_up Z k (h_X3_countStarving (g_X3_findIssuer (h_X3_openBarrier (h_X3_finishLoads M))) (h_X3_openBarrier (h_X3_finishLoads M)))) (g_X3_findIssuer (h_X3_openBarrier (h_X3_finishLoads M)))) ⟨va_cnB 1 hts gX3_runCycle_X6_isThread_n115 rfl rfl rfl (zn_RX3_115 hK) (hts (.initialized RX6) (by decide +kernel)) (by decide +kernel) ⟨Nat.le_of_ble_eq_true rfl, Nat.le_of_ble_eq_true rfl⟩, hts (.static yX6_isThread) (by decide +kernel), trivial⟩ hK hP hS rfl hl.1 rfl (Nat.le_of_ble_eq_true rfl) dX3_runCycle_19 ⟨Nat.zero_le _, Nat.zero_le _⟩ (fun H locs hP hS => ?_)
  refine lv_if_eq (tgt := 43) hx hb dX3_runCycle_22 (by decide) (fun c22_1 => ?_) (fun c22_1 => ?_)
  · refine lv_aload_n hx hb dX3_runCycle_43 rfl (lv_at hl 1 rfl) ?_
    refine lv_dup hx hb dX3_runCycle_44 rfl ?_
    refine zgm8 hx hb hts hiX3 hown hK hP hk (hts (.fieldLink RX3 66 "BarrelProcessor$Machine" "idle" "I") (by decide +kernel)) dX3_runCycle_45 ?_
    refine lv_iconst (v := nI 1) hx hb dX3_runCycle_48 (by decide) ?_
    refine lv_iadd hx hb dX3_runCycle_49 ?_
    refine zpm8 hx hb hts hiX3 hown hK hP hJ hS hk (hts (.fieldLink RX3 66 "BarrelProcessor$Machine" "idle" "I") (by decide +kernel)) dX3_runCycle_50 (fun H locs hP hS => ?_)
    refine lv_aload_n hx hb dX3_runCycle_53 rfl (lv_at hl 1 rfl) ?_
    refine lv_dup hx hb dX3_runCycle_54 rfl ?_
    refine zgm7 hx hb hts hiX3 hown hK hP hk (hts (.fieldLink RX3 62 "BarrelProcessor$Machine" "cycle" "I") (by decide +kernel)) dX3_runCycle_55 ?_
    refine lv_iconst (v := nI 1) hx hb dX3_runCycle_58 (by decide) ?_
    refine lv_iadd hx hb dX3_runCycle_59 ?_
    refine zpm7 hx hb hts hiX3 hown hK hP hJ hS hk (hts (.fieldLink RX3 62 "BarrelProcessor$Machine" "cycle" "I") (by decide +kernel)) dX3_runCycle_60 (fun H locs hP hS => ?_)
    exact z_retv hx hb hr hlk hP hS dX3_runCycle_63 (congrArg (va_up Z k) (by simp only [h_X3_runCycle, if_pos c22_1]))
  · have bt := z_isThread c22_1
    have bt1 := bt.1
    refine lv_aload_n hx hb dX3_runCycle_25 rfl (lv_at hl 1 rfl) ?_
    refine lv_iload_n hx hb dX3_runCycle_26 rfl (lv_at hl 0 rfl) ?_
    refine z_val (z := nI (zc (g_X3_findIssuer (h_X3_openBarrier (h_X3_finishLoads M))))) bt.2 ?_
    refine z_cVv (As := [.int (nI (zc (g_X3_findIssuer (h_X3_openBarrier (h_X3_finishLoads M)))))]) (rest := []) ⟨hx, hb, hml, hown, hts⟩ (ct_X3_noteIssue l D a ca hJ Z k (h_X3_countStarving (g_X3_findIssuer (h_X3_openBarrier (h_X3_finishLoads M))) (h_X3_openBarrier (h_X3_finishLoads M))) (zc (g_X3_findIssuer (h_X3_openBarrier (h_X3_finishLoads M)))) hk bt.1 (zOK_countStarving (zOK_openBarrier (zOK_finishLoads hI)))) (cwV 1 hts gX3_runCycle_X3_noteIssue rfl rfl rfl (by decide +kernel) ⟨Nat.le_of_ble_eq_true rfl, Nat.le_of_ble_eq_true rfl⟩) hK hP hS (va_recv (ci := 3) hK.1 hP rfl (zG_m hk)) rfl hl.1 rfl (Nat.le_of_ble_eq_true rfl) dX3_runCycle_27 ⟨Nat.zero_le _, Nat.zero_le _⟩ (fun H locs hP hS => ?_)
    refine lv_aload_n hx hb dX3_runCycle_30 rfl (lv_at hl 1 rfl) ?_
    refine lv_aload_n hx hb dX3_runCycle_31 rfl (lv_at hl 1 rfl) ?_
    refine zgm0 hx hb hts hiX3 hown hK hP hk (hts (.fieldLink RX3 11 "BarrelProcessor$Machine" "threads" "[LBarrelProcessor$HardwareThread;") (by decide +kernel)) dX3_runCycle_32 ?_
    refine lv_iload_n hx hb dX3_runCycle_35 rfl (lv_at hl 0 rfl) ?_
    refine z_val (z := nI (zc (g_X3_findIssuer (h_X3_openBarrier (h_X3_finishLoads M))))) bt.2 ?_
    refine z_aat hx hb hK hP hk bt.1 dX3_runCycle_36 ?_
    refine z_cVv (As := [.ref (a (19 * k + (2 + (zc (g_X3_findIssuer (h_X3_openBarrier (h_X3_finishLoads M)))))))]) (rest := []) ⟨hx, hb, hml, hown, hts⟩ (ct_X3_executeNext l D a ca hJ Z k (h_X3_noteIssue (zc (g_X3_findIssuer (h_X3_openBarrier (h_X3_finishLoads M)))) (h_X3_countStarving (g_X3_findIssuer (h_X3_openBarrier (h_X3_finishLoads M))) (h_X3_openBarrier (h_X3_finishLoads M)))) (zc (g_X3_findIssuer (h_X3_openBarrier (h_X3_finishLoads M)))) hk bt.1) (cwV 1 hts gX3_runCycle_X3_executeNext rfl rfl rfl (by decide +kernel) ⟨Nat.le_of_ble_eq_true rfl, Nat.le_of_ble_eq_true rfl⟩) hK hP hS (va_recv (ci := 3) hK.1 hP rfl (zG_m hk)) rfl hl.1 rfl (Nat.le_of_ble_eq_true rfl) dX3_runCycle_37 ⟨Nat.zero_le _, Nat.zero_le _⟩ (fun H locs hP hS => ?_)
    refine lv_goto (tgt := 53) hx hb dX3_runCycle_40 (by decide) ?_
    refine lv_aload_n hx hb dX3_runCycle_53 rfl (lv_at hl 1 rfl) ?_
    refine lv_dup hx hb dX3_runCycle_54 rfl ?_
    refine zgm7 hx hb hts hiX3 hown hK hP hk (hts (.fieldLink RX3 62 "BarrelProcessor$Machine" "cycle" "I") (by decide +kernel)) dX3_runCycle_55 ?_
    refine lv_iconst (v := nI 1) hx hb dX3_runCycle_58 (by decide) ?_
    refine lv_iadd hx hb dX3_runCycle_59 ?_
    refine zpm7 hx hb hts hiX3 hown hK hP hJ hS hk (hts (.fieldLink RX3 62 "BarrelProcessor$Machine" "cycle" "I") (by decide +kernel)) dX3_runCycle_60 (fun H locs hP hS => ?_)
    exact z_retv hx hb hr hlk hP hS dX3_runCycle_63 (congrArg (va_up Z k) (by simp only [h_X3_runCycle, if_neg c22_1]))

theorem zOK_runCycle {M : zM} (h : zOK M) : zOK (h_X3_runCycle M) := by
  unfold h_X3_runCycle
  have h1 : ∀ x, zOK (h_X3_countStarving x (h_X3_openBarrier (h_X3_finishLoads M))) := fun x => zOK_countStarving (zOK_openBarrier (zOK_finishLoads h))
  split
  · exact zOK_u (by omega) (by omega) (by omega) (zOK_u (by omega) (by omega) (by omega) (h1 _))
  · exact zOK_u (by omega) (by omega) (by omega) (zOK_executeNext (zOK_noteIssue (h1 _)))
