def g_X3_runToBreakpoint_lp (most : Nat) : Nat → Nat → zM → Int32
  | 0, i, M => nI most
  | n + 1, i, M => if (g_X3_areAllHalted M) = 0 then if (nI i) ≤ 0 then g_X3_runToBreakpoint_lp most n (i + 1) (h_X3_runCycle M) else if (g_X3_isAtBreakpoint M) = 0 then g_X3_runToBreakpoint_lp most n (i + 1) (h_X3_runCycle M) else nI i else nI i
def h_X3_runToBreakpoint_lp (most : Nat) : Nat → Nat → zM → zM
  | 0, i, M => M
  | n + 1, i, M => if (g_X3_areAllHalted M) = 0 then if (nI i) ≤ 0 then h_X3_runToBreakpoint_lp most n (i + 1) (h_X3_runCycle M) else if (g_X3_isAtBreakpoint M) = 0 then h_X3_runToBreakpoint_lp most n (i + 1) (h_X3_runCycle M) else M else M
def g_X3_runToBreakpoint (most : Nat) (M : zM) : Int32 := g_X3_runToBreakpoint_lp most most 0 M
def h_X3_runToBreakpoint (most : Nat) (M : zM) : zM := h_X3_runToBreakpoint_lp most most 0 M
set_option maxHeartbeats 4000000 in
set_option maxRecDepth 100000 in
theorem ct_X3_runToBreakpoint (l : Launch) (D : va_G) (a : Nat → Nat) (ca : Nat → ClassId) (hJ : zJ a) (Z : Nat → zM) (k : Nat) (M : zM) (hk : k < 6) (most : Nat) (hm : most < 2 ^ 31) (hI : zOK M) : zCi l yX3_runToBreakpoint wsX3_runToBreakpoint ({ frames := 4, cells := 0, slots := 0, locals := 96 } : Room) D a ca [.ref (a (19 * k)), .int (nI most)] (va_up Z k M) (g_X3_runToBreakpoint most M) (va_up Z k (h_X3_runToBreakpoint most M)) := by
  refine z_ofi (cc := cX3_runToBreakpoint) (maxL := 3) (own := RX3) (by decide) rfl (Nat.le_of_ble_eq_true rfl) rfl (fun p e s m below meth c ls hx hb hr hml hts hown hlk hl hK hP hS => ?_)
  have hl : lv_has ls 3 [(0, .ref (a (19 * k))), (1, .int (nI most))] := hl
  have lp2 : ∀ (n : Nat) (i : Nat) (M : zM) (H : Heap) (locs : List Loc) (ls : Array Slot) (hn : i + n = most) (hI : zOK M) (hl : lv_has ls 3 [(0, .ref (a (19 * k))), (1, .int (nI most)), (2, .int (nI i))]) (hP : va_P D vwCl (zW a ca (va_up Z k M)) H) (hS : va_S (zA a) s.heap H locs), W p l e ({ frames := 4, cells := 0, slots := 0, locals := 96 } : Room) s m ([.ref (a (19 * k)), .int (nI most)] : List Value).toArray below meth c H locs 0 0 (zQi below D a ca [.ref (a (19 * k)), .int (nI most)] s (g_X3_runToBreakpoint_lp most n i M) (va_up Z k (h_X3_runToBreakpoint_lp most n i M))) (F0 m 2 ls []) := by
    intro n
    induction n with
    | zero =>
      intro i M H locs ls hn hI hl hP hS
      refine lv_iload_n hx hb dX3_runToBreakpoint_2 rfl (lv_at hl 2 rfl) ?_
      refine lv_iload_n hx hb dX3_runToBreakpoint_3 rfl (lv_at hl 1 rfl) ?_
      refine lv_icmp_ge (tgt := 37) hx hb dX3_runToBreakpoint_4 (by decide) (fun c4_1 => ?_) (fun c4_1 => absurd (nI_le (by omega) (by omega)) c4_1)
      refine lv_iload_n hx hb dX3_runToBreakpoint_37 rfl (lv_at hl 1 rfl) ?_
      exact z_reti hx hb hr hlk rfl hP hS dX3_runToBreakpoint_38 (by first | rfl | simp only [g_X3_runToBreakpoint_lp]) (congrArg (va_up Z k) (by first | rfl | simp only [h_X3_runToBreakpoint_lp]))
    | succ n ih =>
      intro i M H locs ls hn hI hl hP hS
      refine lv_iload_n hx hb dX3_runToBreakpoint_2 rfl (lv_at hl 2 rfl) ?_
      refine lv_iload_n hx hb dX3_runToBreakpoint_3 rfl (lv_at hl 1 rfl) ?_
      refine lv_icmp_ge (tgt := 37) hx hb dX3_runToBreakpoint_4 (by decide) (fun c4_2 => absurd c4_2 (nI_ge (by omega) (by omega))) (fun c4_2 => ?_)
      refine lv_aload_n hx hb dX3_runToBreakpoint_7 rfl (lv_at hl 0 rfl) ?_
      refine z_cVi (As := []) (rest := []) ⟨hx, hb, hml, hown, hts⟩ (ct_X3_areAllHalted l D a ca hJ Z k M hk) (cwV 0 hts gX3_runToBreakpoint_X3_areAllHalted rfl rfl rfl (by decide +kernel) ⟨Nat.le_of_ble_eq_true rfl, Nat.le_of_ble_eq_true rfl⟩) hK hP hS (va_recv (ci := 3) hK.1 hP rfl (zG_m hk)) rfl hl.1 rfl (Nat.le_of_ble_eq_true rfl) dX3_runToBreakpoint_8 ⟨Nat.zero_le _, Nat.zero_le _⟩ (fun H locs hP hS => ?_)
      refine lv_if_ne (tgt := 25) hx hb dX3_runToBreakpoint_11 (by decide) (fun c11_3 => ?_) (fun c11_3 => ?_)
      · refine lv_iload_n hx hb dX3_runToBreakpoint_25 rfl (lv_at hl 2 rfl) ?_
        exact z_reti hx hb hr hlk rfl hP hS dX3_runToBreakpoint_26 (by simp only [g_X3_runToBreakpoint_lp, if_neg c11_3]) (congrArg (va_up Z k) (by simp only [h_X3_runToBreakpoint_lp, if_neg c11_3]))
      · refine lv_iload_n hx hb dX3_runToBreakpoint_14 rfl (lv_at hl 2 rfl) ?_
        refine lv_if_le (tgt := 27) hx hb dX3_runToBreakpoint_15 (by decide) (fun c15_4 => ?_) (fun c15_4 => ?_)
        · refine lv_aload_n hx hb dX3_runToBreakpoint_27 rfl (lv_at hl 0 rfl) ?_
          refine z_cVv (As := []) (rest := []) ⟨hx, hb, hml, hown, hts⟩ (ct_X3_runCycle l D a ca hJ Z k M hk hI) (cwV 0 hts gX3_runToBreakpoint_X3_runCycle rfl rfl rfl (by decide +kernel) ⟨Nat.le_of_ble_eq_true rfl, Nat.le_of_ble_eq_true rfl⟩) hK hP hS (va_recv (ci := 3) hK.1 hP rfl (zG_m hk)) rfl hl.1 rfl (Nat.le_of_ble_eq_true rfl) dX3_runToBreakpoint_28 ⟨Nat.zero_le _, Nat.zero_le _⟩ (fun H locs hP hS => ?_)
          refine lv_iinc (v := nI (i + 1)) (lv' := [(2, .int (nI (i + 1))), (0, .ref (a (19 * k))), (1, .int (nI most))]) hx hb dX3_runToBreakpoint_31 hl (k := 2) rfl (nI_add _ _) (by decide) rfl (fun ls hl => ?_)
          refine lv_goto (tgt := 2) hx hb dX3_runToBreakpoint_34 (by decide) ?_
          refine z_toi (r2 := g_X3_runToBreakpoint_lp most n (i + 1) (h_X3_runCycle M)) (Z2 := va_up Z k (h_X3_runToBreakpoint_lp most n (i + 1) (h_X3_runCycle M))) (by simp only [g_X3_runToBreakpoint_lp, if_pos c11_3, if_pos c15_4]) (congrArg (va_up Z k) (by simp only [h_X3_runToBreakpoint_lp, if_pos c11_3, if_pos c15_4])) ?_
          exact ih (i + 1) (h_X3_runCycle M) _ _ _ (by omega) (zOK_runCycle hI) (lv_sub hl [1, 2, 0] rfl) hP hS
        · refine lv_aload_n hx hb dX3_runToBreakpoint_18 rfl (lv_at hl 0 rfl) ?_
          refine z_cVi (As := []) (rest := []) ⟨hx, hb, hml, hown, hts⟩ (ct_X3_isAtBreakpoint l D a ca hJ Z k M hk) (cwV 0 hts gX3_runToBreakpoint_X3_isAtBreakpoint rfl rfl rfl (by decide +kernel) ⟨Nat.le_of_ble_eq_true rfl, Nat.le_of_ble_eq_true rfl⟩) hK hP hS (va_recv (ci := 3) hK.1 hP rfl (zG_m hk)) rfl hl.1 rfl (Nat.le_of_ble_eq_true rfl) dX3_runToBreakpoint_19 ⟨Nat.zero_le _, Nat.zero_le _⟩ (fun H locs hP hS => ?_)
          refine lv_if_eq (tgt := 27) hx hb dX3_runToBreakpoint_22 (by decide) (fun c22_5 => ?_) (fun c22_5 => ?_)
          · refine lv_aload_n hx hb dX3_runToBreakpoint_27 rfl (lv_at hl 0 rfl) ?_
            refine z_cVv (As := []) (rest := []) ⟨hx, hb, hml, hown, hts⟩ (ct_X3_runCycle l D a ca hJ Z k M hk hI) (cwV 0 hts gX3_runToBreakpoint_X3_runCycle rfl rfl rfl (by decide +kernel) ⟨Nat.le_of_ble_eq_true rfl, Nat.le_of_ble_eq_true rfl⟩) hK hP hS (va_recv (ci := 3) hK.1 hP rfl (zG_m hk)) rfl hl.1 rfl (Nat.le_of_ble_eq_true rfl) dX3_runToBreakpoint_28 ⟨Nat.zero_le _, Nat.zero_le _⟩ (fun H locs hP hS => ?_)
            refine lv_iinc (v := nI (i + 1)) (lv' := [(2, .int (nI (i + 1))), (0, .ref (a (19 * k))), (1, .int (nI most))]) hx hb dX3_runToBreakpoint_31 hl (k := 2) rfl (nI_add _ _) (by decide) rfl (fun ls hl => ?_)
            refine lv_goto (tgt := 2) hx hb dX3_runToBreakpoint_34 (by decide) ?_
            refine z_toi (r2 := g_X3_runToBreakpoint_lp most n (i + 1) (h_X3_runCycle M)) (Z2 := va_up Z k (h_X3_runToBreakpoint_lp most n (i + 1) (h_X3_runCycle M))) (by simp only [g_X3_runToBreakpoint_lp, if_pos c11_3, if_neg c15_4, if_pos c22_5]) (congrArg (va_up Z k) (by simp only [h_X3_runToBreakpoint_lp, if_pos c11_3, if_neg c15_4, if_pos c22_5])) ?_
            exact ih (i + 1) (h_X3_runCycle M) _ _ _ (by omega) (zOK_runCycle hI) (lv_sub hl [1, 2, 0] rfl) hP hS
          · refine lv_iload_n hx hb dX3_runToBreakpoint_25 rfl (lv_at hl 2 rfl) ?_
            exact z_reti hx hb hr hlk rfl hP hS dX3_runToBreakpoint_26 (by simp only [g_X3_runToBreakpoint_lp, if_pos c11_3, if_neg c15_4, if_neg c22_5]) (congrArg (va_up Z k) (by simp only [h_X3_runToBreakpoint_lp, if_pos c11_3, if_neg c15_4, if_neg c22_5]))
  refine lv_iconst (v := nI 0) hx hb dX3_runToBreakpoint_0 (by decide) ?_
  refine lv_istore_n (lv' := [(2, .int (nI 0)), (0, .ref (a (19 * k))), (1, .int (nI most))]) hx hb dX3_runToBreakpoint_1 rfl hl (by decide) rfl (fun ls hl => ?_)
  refine z_toi (r2 := g_X3_runToBreakpoint_lp most most 0 M) (Z2 := va_up Z k (h_X3_runToBreakpoint_lp most most 0 M)) (by first | rfl | simp only [g_X3_runToBreakpoint]) (congrArg (va_up Z k) (by first | rfl | simp only [h_X3_runToBreakpoint])) ?_
  exact lp2 most 0 M _ _ _ (by omega) hI (lv_sub hl [1, 2, 0] rfl) hP hS

def g_X3_runToEnd_lp  : Nat → Nat → zM → Int32
  | 0, i, M => if (g_X3_areAllHalted M) = 0 then (-100005) else nI 500
  | n + 1, i, M => if (g_X3_areAllHalted M) = 0 then g_X3_runToEnd_lp n (i + 1) (h_X3_runCycle M) else nI i
def h_X3_runToEnd_lp  : Nat → Nat → zM → zM
  | 0, i, M => if (g_X3_areAllHalted M) = 0 then M else M
  | n + 1, i, M => if (g_X3_areAllHalted M) = 0 then h_X3_runToEnd_lp n (i + 1) (h_X3_runCycle M) else M
def g_X3_runToEnd  (M : zM) : Int32 := g_X3_runToEnd_lp 500 0 M
def h_X3_runToEnd  (M : zM) : zM := h_X3_runToEnd_lp 500 0 M
set_option maxHeartbeats 4000000 in
set_option maxRecDepth 100000 in
theorem ct_X3_runToEnd (l : Launch) (D : va_G) (a : Nat → Nat) (ca : Nat → ClassId) (hJ : zJ a) (Z : Nat → zM) (k : Nat) (M : zM) (hk : k < 6) (hI : zOK M) : zCi l yX3_runToEnd wsX3_runToEnd ({ frames := 4, cells := 0, slots := 0, locals := 96 } : Room) D a ca [.ref (a (19 * k))] (va_up Z k M) (g_X3_runToEnd M) (va_up Z k (h_X3_runToEnd M)) := by
  refine z_ofi (cc := cX3_runToEnd) (maxL := 2) (own := RX3) (by decide) rfl (Nat.le_of_ble_eq_true rfl) rfl (fun p e s m below meth c ls hx hb hr hml hts hown hlk hl hK hP hS => ?_)
  have hl : lv_has ls 2 [(0, .ref (a (19 * k)))] := hl
  have lp2 : ∀ (n : Nat) (i : Nat) (M : zM) (H : Heap) (locs : List Loc) (ls : Array Slot) (hn : i + n = 500) (hI : zOK M) (hl : lv_has ls 2 [(0, .ref (a (19 * k))), (1, .int (nI i))]) (hP : va_P D vwCl (zW a ca (va_up Z k M)) H) (hS : va_S (zA a) s.heap H locs), W p l e ({ frames := 4, cells := 0, slots := 0, locals := 96 } : Room) s m ([.ref (a (19 * k))] : List Value).toArray below meth c H locs 0 0 (zQi below D a ca [.ref (a (19 * k))] s (g_X3_runToEnd_lp n i M) (va_up Z k (h_X3_runToEnd_lp n i M))) (F0 m 2 ls []) := by
    intro n
    induction n with
    | zero =>
      intro i M H locs ls hn hI hl hP hS
      refine lv_iload_n hx hb dX3_runToEnd_2 rfl (lv_at hl 1 rfl) ?_
      refine lv_sipush (v := nI 500) hx hb dX3_runToEnd_3 (by decide) ?_
      refine lv_icmp_ge (tgt := 28) hx hb dX3_runToEnd_6 (by decide) (fun c6_1 => ?_) (fun c6_1 => absurd (nI_le (by omega) (by omega)) c6_1)
      refine lv_aload_n hx hb dX3_runToEnd_28 rfl (lv_at hl 0 rfl) ?_
      refine z_cVi (As := []) (rest := []) ⟨hx, hb, hml, hown, hts⟩ (ct_X3_areAllHalted l D a ca hJ Z k M hk) (cwV 0 hts gX3_runToEnd_X3_areAllHalted rfl rfl rfl (by decide +kernel) ⟨Nat.le_of_ble_eq_true rfl, Nat.le_of_ble_eq_true rfl⟩) hK hP hS (va_recv (ci := 3) hK.1 hP rfl (zG_m hk)) rfl hl.1 rfl (Nat.le_of_ble_eq_true rfl) dX3_runToEnd_29 ⟨Nat.zero_le _, Nat.zero_le _⟩ (fun H locs hP hS => ?_)
      refine lv_if_eq (tgt := 41) hx hb dX3_runToEnd_32 (by decide) (fun c32_2 => ?_) (fun c32_2 => ?_)
      · refine lv_ldc (v := (-100005)) hx hb hown (hts (.constant RX3 79 (-100005)) (by decide +kernel)) dX3_runToEnd_41 ?_
        exact z_reti hx hb hr hlk rfl hP hS dX3_runToEnd_43 (by simp only [g_X3_runToEnd_lp, if_pos c32_2]) (congrArg (va_up Z k) (by simp only [h_X3_runToEnd_lp, if_pos c32_2]))
      · refine lv_sipush (v := nI 500) hx hb dX3_runToEnd_35 (by decide) ?_
        refine lv_goto (tgt := 43) hx hb dX3_runToEnd_38 (by decide) ?_
        exact z_reti hx hb hr hlk rfl hP hS dX3_runToEnd_43 (by simp only [g_X3_runToEnd_lp, if_neg c32_2]) (congrArg (va_up Z k) (by simp only [h_X3_runToEnd_lp, if_neg c32_2]))
    | succ n ih =>
      intro i M H locs ls hn hI hl hP hS
      refine lv_iload_n hx hb dX3_runToEnd_2 rfl (lv_at hl 1 rfl) ?_
      refine lv_sipush (v := nI 500) hx hb dX3_runToEnd_3 (by decide) ?_
      refine lv_icmp_ge (tgt := 28) hx hb dX3_runToEnd_6 (by decide) (fun c6_3 => absurd c6_3 (nI_ge (by omega) (by decide))) (fun c6_3 => ?_)
      refine lv_aload_n hx hb dX3_runToEnd_9 rfl (lv_at hl 0 rfl) ?_
      refine z_cVi (As := []) (rest := []) ⟨hx, hb, hml, hown, hts⟩ (ct_X3_areAllHalted l D a ca hJ Z k M hk) (cwV 0 hts gX3_runToEnd_X3_areAllHalted rfl rfl rfl (by decide +kernel) ⟨Nat.le_of_ble_eq_true rfl, Nat.le_of_ble_eq_true rfl⟩) hK hP hS (va_recv (ci := 3) hK.1 hP rfl (zG_m hk)) rfl hl.1 rfl (Nat.le_of_ble_eq_true rfl) dX3_runToEnd_10 ⟨Nat.zero_le _, Nat.zero_le _⟩ (fun H locs hP hS => ?_)
      refine lv_if_eq (tgt := 18) hx hb dX3_runToEnd_13 (by decide) (fun c13_4 => ?_) (fun c13_4 => ?_)
      · refine lv_aload_n hx hb dX3_runToEnd_18 rfl (lv_at hl 0 rfl) ?_
        refine z_cVv (As := []) (rest := []) ⟨hx, hb, hml, hown, hts⟩ (ct_X3_runCycle l D a ca hJ Z k M hk hI) (cwV 0 hts gX3_runToEnd_X3_runCycle rfl rfl rfl (by decide +kernel) ⟨Nat.le_of_ble_eq_true rfl, Nat.le_of_ble_eq_true rfl⟩) hK hP hS (va_recv (ci := 3) hK.1 hP rfl (zG_m hk)) rfl hl.1 rfl (Nat.le_of_ble_eq_true rfl) dX3_runToEnd_19 ⟨Nat.zero_le _, Nat.zero_le _⟩ (fun H locs hP hS => ?_)
        refine lv_iinc (v := nI (i + 1)) (lv' := [(1, .int (nI (i + 1))), (0, .ref (a (19 * k)))]) hx hb dX3_runToEnd_22 hl (k := 1) rfl (nI_add _ _) (by decide) rfl (fun ls hl => ?_)
        refine lv_goto (tgt := 2) hx hb dX3_runToEnd_25 (by decide) ?_
        refine z_toi (r2 := g_X3_runToEnd_lp n (i + 1) (h_X3_runCycle M)) (Z2 := va_up Z k (h_X3_runToEnd_lp n (i + 1) (h_X3_runCycle M))) (by simp only [g_X3_runToEnd_lp, if_pos c13_4]) (congrArg (va_up Z k) (by simp only [h_X3_runToEnd_lp, if_pos c13_4])) ?_
        exact ih (i + 1) (h_X3_runCycle M) _ _ _ (by omega) (zOK_runCycle hI) (lv_sub hl [1, 0] rfl) hP hS
      · refine lv_iload_n hx hb dX3_runToEnd_16 rfl (lv_at hl 1 rfl) ?_
        exact z_reti hx hb hr hlk rfl hP hS dX3_runToEnd_17 (by simp only [g_X3_runToEnd_lp, if_neg c13_4]) (congrArg (va_up Z k) (by simp only [h_X3_runToEnd_lp, if_neg c13_4]))
  refine lv_iconst (v := nI 0) hx hb dX3_runToEnd_0 (by decide) ?_
  refine lv_istore_n (lv' := [(1, .int (nI 0)), (0, .ref (a (19 * k)))]) hx hb dX3_runToEnd_1 rfl hl (by decide) rfl (fun ls hl => ?_)
  refine z_toi (r2 := g_X3_runToEnd_lp 500 0 M) (Z2 := va_up Z k (h_X3_runToEnd_lp 500 0 M)) (by first | rfl | simp only [g_X3_runToEnd]) (congrArg (va_up Z k) (by first | rfl | simp only [h_X3_runToEnd])) ?_
  exact lp2 500 0 M _ _ _ (by omega) hI (lv_sub hl [1, 0] rfl) hP hS

def h_X3_copyFrom_lp (Z : Nat → zM) (k2 : Nat) : Nat → Nat → zM → zM
  | 0, i, M => zu (zu (h_X5_copyFrom Z k2 (zr (zr (zr (zr (h_X2_copyRows Z k2 M) 12 (va_cpy ((Z k2) 12) ((h_X2_copyRows Z k2 M) 12) 0 0 48)) 13 (va_cpy ((Z k2) 13) ((zr (h_X2_copyRows Z k2 M) 12 (va_cpy ((Z k2) 12) ((h_X2_copyRows Z k2 M) 12) 0 0 48)) 13) 0 0 32)) 14 (va_cpy ((Z k2) 14) ((zr (zr (h_X2_copyRows Z k2 M) 12 (va_cpy ((Z k2) 12) ((h_X2_copyRows Z k2 M) 12) 0 0 48)) 13 (va_cpy ((Z k2) 13) ((zr (h_X2_copyRows Z k2 M) 12 (va_cpy ((Z k2) 12) ((h_X2_copyRows Z k2 M) 12) 0 0 48)) 13) 0 0 32)) 14) 0 0 8)) 15 (va_cpy ((Z k2) 15) ((zr (zr (zr (h_X2_copyRows Z k2 M) 12 (va_cpy ((Z k2) 12) ((h_X2_copyRows Z k2 M) 12) 0 0 48)) 13 (va_cpy ((Z k2) 13) ((zr (h_X2_copyRows Z k2 M) 12 (va_cpy ((Z k2) 12) ((h_X2_copyRows Z k2 M) 12) 0 0 48)) 13) 0 0 32)) 14 (va_cpy ((Z k2) 14) ((zr (zr (h_X2_copyRows Z k2 M) 12 (va_cpy ((Z k2) 12) ((h_X2_copyRows Z k2 M) 12) 0 0 48)) 13 (va_cpy ((Z k2) 13) ((zr (h_X2_copyRows Z k2 M) 12 (va_cpy ((Z k2) 12) ((h_X2_copyRows Z k2 M) 12) 0 0 48)) 13) 0 0 32)) 14) 0 0 8)) 15) 0 0 2))) 16 0 ((Z k2) 16 0)) 17 0 ((Z k2) 17 0)
  | n + 1, i, M => h_X3_copyFrom_lp Z k2 n (i + 1) (h_X0_copyFrom Z k2 i M)
def h_X3_copyFrom (Z : Nat → zM) (k2 : Nat) (M : zM) : zM := h_X3_copyFrom_lp Z k2 4 0 M
set_option maxHeartbeats 4000000 in
set_option maxRecDepth 100000 in
theorem ct_X3_copyFrom (l : Launch) (D : va_G) (a : Nat → Nat) (ca : Nat → ClassId) (hJ : zJ a) (Z : Nat → zM) (k : Nat) (M : zM) (hk : k < 6) (k2 : Nat) (hk2 : k2 < 6) (hne : k2 ≠ k) : zCv l yX3_copyFrom wsX3_copyFrom ({ frames := 2, cells := 0, slots := 0, locals := 63 } : Room) D a ca [.ref (a (19 * k)), .ref (a (19 * k2))] (va_up Z k M) (va_up Z k (h_X3_copyFrom Z k2 M)) := by
  have hiX3 : ∀ w ∈ wsX30, w ∈ wsX3_copyFrom := by decide +kernel
  refine z_ofv (cc := cX3_copyFrom) (maxL := 3) (own := RX3) (by decide) rfl (Nat.le_of_ble_eq_true rfl) rfl (fun p e s m below meth c ls hx hb hr hml hts hown hlk hl hK hP hS => ?_)
  have hl : lv_has ls 3 [(0, .ref (a (19 * k))), (1, .ref (a (19 * k2)))] := hl
  have lp2 : ∀ (n : Nat) (i : Nat) (M : zM) (H : Heap) (locs : List Loc) (ls : Array Slot) (hn : i + n = 4) (hl : lv_has ls 3 [(0, .ref (a (19 * k))), (1, .ref (a (19 * k2))), (2, .int (nI i))]) (hP : va_P D vwCl (zW a ca (va_up Z k M)) H) (hS : va_S (zA a) s.heap H locs), W p l e ({ frames := 2, cells := 0, slots := 0, locals := 63 } : Room) s m ([.ref (a (19 * k)), .ref (a (19 * k2))] : List Value).toArray below meth c H locs 0 0 (zQv below D a ca [.ref (a (19 * k)), .ref (a (19 * k2))] s (va_up Z k (h_X3_copyFrom_lp Z k2 n i M))) (F0 m 2 ls []) := by
    intro n
    induction n with
    | zero =>
      intro i M H locs ls hn hl hP hS
      refine lv_iload_n hx hb dX3_copyFrom_2 rfl (lv_at hl 2 rfl) ?_
      refine lv_iconst (v := nI 4) hx hb dX3_copyFrom_3 (by decide) ?_
      refine lv_icmp_ge (tgt := 28) hx hb dX3_copyFrom_4 (by decide) (fun c4_1 => ?_) (fun c4_1 => absurd (nI_le (by omega) (by omega)) c4_1)
      refine lv_aload_n hx hb dX3_copyFrom_28 rfl (lv_at hl 0 rfl) ?_
      refine zgm1 hx hb hts hiX3 hown hK hP hk (hts (.fieldLink RX3 20 "BarrelProcessor$Machine" "program" "LBarrelProcessor$Instructions;") (by decide +kernel)) dX3_copyFrom_29 ?_
      refine lv_aload_n hx hb dX3_copyFrom_32 rfl (lv_at hl 1 rfl) ?_
      refine zom1 hx hb hts hiX3 hown hK hP hk2 hne (hts (.fieldLink RX3 20 "BarrelProcessor$Machine" "program" "LBarrelProcessor$Instructions;") (by decide +kernel)) dX3_copyFrom_33 ?_
      refine lv_bipush (v := nI 48) hx hb dX3_copyFrom_36 (by decide) ?_
      refine lv_iconst (v := nI 0) hx hb dX3_copyFrom_38 (by decide) ?_
      refine z_cVv (As := [.ref (a (19 * k2 + 10)), .int (nI 48), .int (nI 0)]) (rest := []) ⟨hx, hb, hml, hown, hts⟩ (ct_X2_copyRows l D a ca hJ Z k M hk k2 hk2 hne) (cwV 3 hts gX3_copyFrom_X2_copyRows rfl rfl rfl (by decide +kernel) ⟨Nat.le_of_ble_eq_true rfl, Nat.le_of_ble_eq_true rfl⟩) hK hP hS (va_recv (ci := 2) hK.1 hP rfl (zG_p hk)) rfl hl.1 rfl (Nat.le_of_ble_eq_true rfl) dX3_copyFrom_39 ⟨Nat.zero_le _, Nat.zero_le _⟩ (fun H locs hP hS => ?_)
      refine lv_aload_n hx hb dX3_copyFrom_42 rfl (lv_at hl 1 rfl) ?_
      refine zom2 hx hb hts hiX3 hown hK hP hk2 hne (hts (.fieldLink RX3 24 "BarrelProcessor$Machine" "breakpoints" "[I") (by decide +kernel)) dX3_copyFrom_43 ?_
      refine lv_iconst (v := nI 0) hx hb dX3_copyFrom_46 (by decide) ?_
      refine lv_aload_n hx hb dX3_copyFrom_47 rfl (lv_at hl 0 rfl) ?_
      refine zgm2 hx hb hts hiX3 hown hK hP hk (hts (.fieldLink RX3 24 "BarrelProcessor$Machine" "breakpoints" "[I") (by decide +kernel)) dX3_copyFrom_48 ?_
      refine lv_iconst (v := nI 0) hx hb dX3_copyFrom_51 (by decide) ?_
      refine lv_bipush (v := nI 48) hx hb dX3_copyFrom_52 (by decide) ?_
      refine z_copy (Z' := va_up Z k (zr (h_X2_copyRows Z k2 M) 12 (va_cpy ((Z k2) 12) ((h_X2_copyRows Z k2 M) 12) 0 0 48))) hx hb (hml.trans hl.1.symm) hown (hts (.methodLink RX3 53 arraycopyName) (by decide +kernel)) (hts (.native arraycopyName) (by decide +kernel)) (hts (.static arraycopyName) (by decide +kernel)) (hts (.initialized "java/lang/System") (by decide +kernel)) hK hP hJ hS (zH hne (zG_bk hk2)) (zG_bk hk) (sp := 0) (dp := 0) (n := 48) (by omega) (by omega) (by decide) (by decide) (Nat.le_of_ble_eq_true rfl) (Nat.le_of_ble_eq_true rfl) dX3_copyFrom_54 (zS_bk hk) (fun H locs hP hS => ?_)
      refine lv_aload_n hx hb dX3_copyFrom_57 rfl (lv_at hl 1 rfl) ?_
      refine zom3 hx hb hts hiX3 hown hK hP hk2 hne (hts (.fieldLink RX3 28 "BarrelProcessor$Machine" "words" "[I") (by decide +kernel)) dX3_copyFrom_58 ?_
      refine lv_iconst (v := nI 0) hx hb dX3_copyFrom_61 (by decide) ?_
      refine lv_aload_n hx hb dX3_copyFrom_62 rfl (lv_at hl 0 rfl) ?_
      refine zgm3 hx hb hts hiX3 hown hK hP hk (hts (.fieldLink RX3 28 "BarrelProcessor$Machine" "words" "[I") (by decide +kernel)) dX3_copyFrom_63 ?_
      refine lv_iconst (v := nI 0) hx hb dX3_copyFrom_66 (by decide) ?_
      refine lv_bipush (v := nI 32) hx hb dX3_copyFrom_67 (by decide) ?_
      refine z_copy (Z' := va_up Z k (zr (zr (h_X2_copyRows Z k2 M) 12 (va_cpy ((Z k2) 12) ((h_X2_copyRows Z k2 M) 12) 0 0 48)) 13 (va_cpy ((Z k2) 13) ((zr (h_X2_copyRows Z k2 M) 12 (va_cpy ((Z k2) 12) ((h_X2_copyRows Z k2 M) 12) 0 0 48)) 13) 0 0 32))) hx hb (hml.trans hl.1.symm) hown (hts (.methodLink RX3 53 arraycopyName) (by decide +kernel)) (hts (.native arraycopyName) (by decide +kernel)) (hts (.static arraycopyName) (by decide +kernel)) (hts (.initialized "java/lang/System") (by decide +kernel)) hK hP hJ hS (zH hne (zG_wd hk2)) (zG_wd hk) (sp := 0) (dp := 0) (n := 32) (by omega) (by omega) (by decide) (by decide) (Nat.le_of_ble_eq_true rfl) (Nat.le_of_ble_eq_true rfl) dX3_copyFrom_69 (zS_wd hk) (fun H locs hP hS => ?_)
      refine lv_aload_n hx hb dX3_copyFrom_72 rfl (lv_at hl 1 rfl) ?_
      refine zom4 hx hb hts hiX3 hown hK hP hk2 hne (hts (.fieldLink RX3 31 "BarrelProcessor$Machine" "slots" "[I") (by decide +kernel)) dX3_copyFrom_73 ?_
      refine lv_iconst (v := nI 0) hx hb dX3_copyFrom_76 (by decide) ?_
      refine lv_aload_n hx hb dX3_copyFrom_77 rfl (lv_at hl 0 rfl) ?_
      refine zgm4 hx hb hts hiX3 hown hK hP hk (hts (.fieldLink RX3 31 "BarrelProcessor$Machine" "slots" "[I") (by decide +kernel)) dX3_copyFrom_78 ?_
      refine lv_iconst (v := nI 0) hx hb dX3_copyFrom_81 (by decide) ?_
      refine lv_bipush (v := nI 8) hx hb dX3_copyFrom_82 (by decide) ?_
      refine z_copy (Z' := va_up Z k (zr (zr (zr (h_X2_copyRows Z k2 M) 12 (va_cpy ((Z k2) 12) ((h_X2_copyRows Z k2 M) 12) 0 0 48)) 13 (va_cpy ((Z k2) 13) ((zr (h_X2_copyRows Z k2 M) 12 (va_cpy ((Z k2) 12) ((h_X2_copyRows Z k2 M) 12) 0 0 48)) 13) 0 0 32)) 14 (va_cpy ((Z k2) 14) ((zr (zr (h_X2_copyRows Z k2 M) 12 (va_cpy ((Z k2) 12) ((h_X2_copyRows Z k2 M) 12) 0 0 48)) 13 (va_cpy ((Z k2) 13) ((zr (h_X2_copyRows Z k2 M) 12 (va_cpy ((Z k2) 12) ((h_X2_copyRows Z k2 M) 12) 0 0 48)) 13) 0 0 32)) 14) 0 0 8))) hx hb (hml.trans hl.1.symm) hown (hts (.methodLink RX3 53 arraycopyName) (by decide +kernel)) (hts (.native arraycopyName) (by decide +kernel)) (hts (.static arraycopyName) (by decide +kernel)) (hts (.initialized "java/lang/System") (by decide +kernel)) hK hP hJ hS (zH hne (zG_sl hk2)) (zG_sl hk) (sp := 0) (dp := 0) (n := 8) (by omega) (by omega) (by decide) (by decide) (Nat.le_of_ble_eq_true rfl) (Nat.le_of_ble_eq_true rfl) dX3_copyFrom_84 (zS_sl hk) (fun H locs hP hS => ?_)
      refine lv_aload_n hx hb dX3_copyFrom_87 rfl (lv_at hl 1 rfl) ?_
      refine zom5 hx hb hts hiX3 hown hK hP hk2 hne (hts (.fieldLink RX3 34 "BarrelProcessor$Machine" "settings" "[I") (by decide +kernel)) dX3_copyFrom_88 ?_
      refine lv_iconst (v := nI 0) hx hb dX3_copyFrom_91 (by decide) ?_
      refine lv_aload_n hx hb dX3_copyFrom_92 rfl (lv_at hl 0 rfl) ?_
      refine zgm5 hx hb hts hiX3 hown hK hP hk (hts (.fieldLink RX3 34 "BarrelProcessor$Machine" "settings" "[I") (by decide +kernel)) dX3_copyFrom_93 ?_
      refine lv_iconst (v := nI 0) hx hb dX3_copyFrom_96 (by decide) ?_
      refine lv_iconst (v := nI 2) hx hb dX3_copyFrom_97 (by decide) ?_
      refine z_copy (Z' := va_up Z k (zr (zr (zr (zr (h_X2_copyRows Z k2 M) 12 (va_cpy ((Z k2) 12) ((h_X2_copyRows Z k2 M) 12) 0 0 48)) 13 (va_cpy ((Z k2) 13) ((zr (h_X2_copyRows Z k2 M) 12 (va_cpy ((Z k2) 12) ((h_X2_copyRows Z k2 M) 12) 0 0 48)) 13) 0 0 32)) 14 (va_cpy ((Z k2) 14) ((zr (zr (h_X2_copyRows Z k2 M) 12 (va_cpy ((Z k2) 12) ((h_X2_copyRows Z k2 M) 12) 0 0 48)) 13 (va_cpy ((Z k2) 13) ((zr (h_X2_copyRows Z k2 M) 12 (va_cpy ((Z k2) 12) ((h_X2_copyRows Z k2 M) 12) 0 0 48)) 13) 0 0 32)) 14) 0 0 8)) 15 (va_cpy ((Z k2) 15) ((zr (zr (zr (h_X2_copyRows Z k2 M) 12 (va_cpy ((Z k2) 12) ((h_X2_copyRows Z k2 M) 12) 0 0 48)) 13 (va_cpy ((Z k2) 13) ((zr (h_X2_copyRows Z k2 M) 12 (va_cpy ((Z k2) 12) ((h_X2_copyRows Z k2 M) 12) 0 0 48)) 13) 0 0 32)) 14 (va_cpy ((Z k2) 14) ((zr (zr (h_X2_copyRows Z k2 M) 12 (va_cpy ((Z k2) 12) ((h_X2_copyRows Z k2 M) 12) 0 0 48)) 13 (va_cpy ((Z k2) 13) ((zr (h_X2_copyRows Z k2 M) 12 (va_cpy ((Z k2) 12) ((h_X2_copyRows Z k2 M) 12) 0 0 48)) 13) 0 0 32)) 14) 0 0 8)) 15) 0 0 2))) hx hb (hml.trans hl.1.symm) hown (hts (.methodLink RX3 53 arraycopyName) (by decide +kernel)) (hts (.native arraycopyName) (by decide +kernel)) (hts (.static arraycopyName) (by decide +kernel)) (hts (.initialized "java/lang/System") (by decide +kernel)) hK hP hJ hS (zH hne (zG_se hk2)) (zG_se hk) (sp := 0) (dp := 0) (n := 2) (by omega) (by omega) (by decide) (by decide) (Nat.le_of_ble_eq_true rfl) (Nat.le_of_ble_eq_true rfl) dX3_copyFrom_98 (zS_se hk) (fun H locs hP hS => ?_)
      refine lv_aload_n hx hb dX3_copyFrom_101 rfl (lv_at hl 0 rfl) ?_
      refine zgm6 hx hb hts hiX3 hown hK hP hk (hts (.fieldLink RX3 40 "BarrelProcessor$Machine" "trace" "LBarrelProcessor$Trace;") (by decide +kernel)) dX3_copyFrom_102 ?_
      refine lv_aload_n hx hb dX3_copyFrom_105 rfl (lv_at hl 1 rfl) ?_
      refine zom6 hx hb hts hiX3 hown hK hP hk2 hne (hts (.fieldLink RX3 40 "BarrelProcessor$Machine" "trace" "LBarrelProcessor$Trace;") (by decide +kernel)) dX3_copyFrom_106 ?_
      refine z_cVv (As := [.ref (a (19 * k2 + 17))]) (rest := []) ⟨hx, hb, hml, hown, hts⟩ (ct_X5_copyFrom l D a ca hJ Z k (zr (zr (zr (zr (h_X2_copyRows Z k2 M) 12 (va_cpy ((Z k2) 12) ((h_X2_copyRows Z k2 M) 12) 0 0 48)) 13 (va_cpy ((Z k2) 13) ((zr (h_X2_copyRows Z k2 M) 12 (va_cpy ((Z k2) 12) ((h_X2_copyRows Z k2 M) 12) 0 0 48)) 13) 0 0 32)) 14 (va_cpy ((Z k2) 14) ((zr (zr (h_X2_copyRows Z k2 M) 12 (va_cpy ((Z k2) 12) ((h_X2_copyRows Z k2 M) 12) 0 0 48)) 13 (va_cpy ((Z k2) 13) ((zr (h_X2_copyRows Z k2 M) 12 (va_cpy ((Z k2) 12) ((h_X2_copyRows Z k2 M) 12) 0 0 48)) 13) 0 0 32)) 14) 0 0 8)) 15 (va_cpy ((Z k2) 15) ((zr (zr (zr (h_X2_copyRows Z k2 M) 12 (va_cpy ((Z k2) 12) ((h_X2_copyRows Z k2 M) 12) 0 0 48)) 13 (va_cpy ((Z k2) 13) ((zr (h_X2_copyRows Z k2 M) 12 (va_cpy ((Z k2) 12) ((h_X2_copyRows Z k2 M) 12) 0 0 48)) 13) 0 0 32)) 14 (va_cpy ((Z k2) 14) ((zr (zr (h_X2_copyRows Z k2 M) 12 (va_cpy ((Z k2) 12) ((h_X2_copyRows Z k2 M) 12) 0 0 48)) 13 (va_cpy ((Z k2) 13) ((zr (h_X2_copyRows Z k2 M) 12 (va_cpy ((Z k2) 12) ((h_X2_copyRows Z k2 M) 12) 0 0 48)) 13) 0 0 32)) 14) 0 0 8)) 15) 0 0 2)) hk k2 hk2 hne) (cwV 1 hts gX3_copyFrom_X5_copyFrom rfl rfl rfl (by decide +kernel) ⟨Nat.le_of_ble_eq_true rfl, Nat.le_of_ble_eq_true rfl⟩) hK hP hS (va_recv (ci := 5) hK.1 hP rfl (zG_c hk)) rfl hl.1 rfl (Nat.le_of_ble_eq_true rfl) dX3_copyFrom_109 ⟨Nat.zero_le _, Nat.zero_le _⟩ (fun H locs hP hS => ?_)
      refine lv_aload_n hx hb dX3_copyFrom_112 rfl (lv_at hl 0 rfl) ?_
      refine lv_aload_n hx hb dX3_copyFrom_113 rfl (lv_at hl 1 rfl) ?_
      refine zom7 hx hb hts hiX3 hown hK hP hk2 hne (hts (.fieldLink RX3 62 "BarrelProcessor$Machine" "cycle" "I") (by decide +kernel)) dX3_copyFrom_114 ?_
      refine zpm7 hx hb hts hiX3 hown hK hP hJ hS hk (hts (.fieldLink RX3 62 "BarrelProcessor$Machine" "cycle" "I") (by decide +kernel)) dX3_copyFrom_117 (fun H locs hP hS => ?_)
      refine lv_aload_n hx hb dX3_copyFrom_120 rfl (lv_at hl 0 rfl) ?_
      refine lv_aload_n hx hb dX3_copyFrom_121 rfl (lv_at hl 1 rfl) ?_
      refine zom8 hx hb hts hiX3 hown hK hP hk2 hne (hts (.fieldLink RX3 66 "BarrelProcessor$Machine" "idle" "I") (by decide +kernel)) dX3_copyFrom_122 ?_
      refine zpm8 hx hb hts hiX3 hown hK hP hJ hS hk (hts (.fieldLink RX3 66 "BarrelProcessor$Machine" "idle" "I") (by decide +kernel)) dX3_copyFrom_125 (fun H locs hP hS => ?_)
      exact z_retv hx hb hr hlk hP hS dX3_copyFrom_128 (congrArg (va_up Z k) (by first | rfl | simp only [h_X3_copyFrom_lp]))
    | succ n ih =>
      intro i M H locs ls hn hl hP hS
      refine lv_iload_n hx hb dX3_copyFrom_2 rfl (lv_at hl 2 rfl) ?_
      refine lv_iconst (v := nI 4) hx hb dX3_copyFrom_3 (by decide) ?_
      refine lv_icmp_ge (tgt := 28) hx hb dX3_copyFrom_4 (by decide) (fun c4_2 => absurd c4_2 (nI_ge (by omega) (by decide))) (fun c4_2 => ?_)
      refine lv_aload_n hx hb dX3_copyFrom_7 rfl (lv_at hl 0 rfl) ?_
      refine zgm0 hx hb hts hiX3 hown hK hP hk (hts (.fieldLink RX3 11 "BarrelProcessor$Machine" "threads" "[LBarrelProcessor$HardwareThread;") (by decide +kernel)) dX3_copyFrom_8 ?_
      refine lv_iload_n hx hb dX3_copyFrom_11 rfl (lv_at hl 2 rfl) ?_
      refine z_aat hx hb hK hP hk (show i < 4 by omega) dX3_copyFrom_12 ?_
      refine lv_aload_n hx hb dX3_copyFrom_13 rfl (lv_at hl 1 rfl) ?_
      refine zom0 hx hb hts hiX3 hown hK hP hk2 hne (hts (.fieldLink RX3 11 "BarrelProcessor$Machine" "threads" "[LBarrelProcessor$HardwareThread;") (by decide +kernel)) dX3_copyFrom_14 ?_
      refine lv_iload_n hx hb dX3_copyFrom_17 rfl (lv_at hl 2 rfl) ?_
      refine z_oaat hx hb hK hP hk2 (show i < 4 by omega) hne dX3_copyFrom_18 ?_
      refine z_cVv (As := [.ref (a (19 * k2 + (2 + i)))]) (rest := []) ⟨hx, hb, hml, hown, hts⟩ (ct_X0_copyFrom l D a ca hJ Z k M i hk (show i < 4 by omega) k2 hk2 hne) (cwV 1 hts gX3_copyFrom_X0_copyFrom rfl rfl rfl (by decide +kernel) ⟨Nat.le_of_ble_eq_true rfl, Nat.le_of_ble_eq_true rfl⟩) hK hP hS (va_recv (ci := 0) hK.1 hP rfl (zG_t hk (show i < 4 by omega))) rfl hl.1 rfl (Nat.le_of_ble_eq_true rfl) dX3_copyFrom_19 ⟨Nat.zero_le _, Nat.zero_le _⟩ (fun H locs hP hS => ?_)
      refine lv_iinc (v := nI (i + 1)) (lv' := [(2, .int (nI (i + 1))), (0, .ref (a (19 * k))), (1, .ref (a (19 * k2)))]) hx hb dX3_copyFrom_22 hl (k := 2) rfl (nI_add _ _) (by decide) rfl (fun ls hl => ?_)
      refine lv_goto (tgt := 2) hx hb dX3_copyFrom_25 (by decide) ?_
      refine z_tov (Z2 := va_up Z k (h_X3_copyFrom_lp Z k2 n (i + 1) (h_X0_copyFrom Z k2 i M))) (congrArg (va_up Z k) (by first | rfl | simp only [h_X3_copyFrom_lp])) ?_
      exact ih (i + 1) (h_X0_copyFrom Z k2 i M) _ _ _ (by omega) (lv_sub hl [1, 2, 0] rfl) hP hS
  refine lv_iconst (v := nI 0) hx hb dX3_copyFrom_0 (by decide) ?_
  refine lv_istore_n (lv' := [(2, .int (nI 0)), (0, .ref (a (19 * k))), (1, .ref (a (19 * k2)))]) hx hb dX3_copyFrom_1 rfl hl (by decide) rfl (fun ls hl => ?_)
  refine z_tov (Z2 := va_up Z k (h_X3_copyFrom_lp Z k2 4 0 M)) (congrArg (va_up Z k) (by first | rfl | simp only [h_X3_copyFrom])) ?_
  exact lp2 4 0 M _ _ _ (by omega) (lv_sub hl [1, 2, 0] rfl) hP hS
