section LC
variable {p : Program} {l : Launch} {e : Env} {s : State} {m : MethodId} {below : List Frame} {meth : Method} {c : Code} {H : Heap} {locs : List Loc} {cells slots : Nat} {Q : State → Prop}
variable {ls : Array Slot} {D : va_G} {a am : Nat → Nat} {ca : Nat → ClassId} {Z : Nat → zM} {N A P X : zM} {qs qv b L i B : Nat} {xs : Nat → Int32}
set_option maxHeartbeats 4000000 in
set_option maxRecDepth 100000 in
theorem cs_operation (X0 : LX p s m c b L xs D a ca am qs qv) (hi : i + 4 ≤ L) (hB : B + 700 < 1000000) (hV : IV B Z N P X) (hl : lv_has ls 8 [(0, .ref b), (1, .ref (a 114)), (2, .ref (am 0)), (3, .int (nI i))]) (hP : va_P D vwCl (zW a ca Z) H) (hQ : va_P D vwCl (mW am (ca 0) (N, A, P, X)) H) (hS : va_S (lA s) s.heap H locs) (hf : cells ≤ room_1.cells ∧ slots ≤ room_1.slots) (kk : LK p l e s m below meth c cells slots Q D a am ca b i B) : W p l e room_1 s m #[Value.ref b] below meth c H locs cells slots Q (F0 m 641 ls []) := by
  obtain ⟨hx, hb, hml, hown, hts, hX, hbl, hL, hJ, hM, hK, hKm, hE, hz, hzm, hd⟩ := X0
  have hX0 : zIn (X 0 0) 5 := by
    rw [hV.2.2.1.2.2.1]
    exact hV.2.2.1.2.1
  refine lv_aload_n hx hb dL_law_641 rfl (lv_at hl 1 rfl) ?_
  refine lw_arg hx hb hX hbl hS (lv_at hl 0 rfl) (lv_at hl 3 rfl) (by omega) hL dL_law_642 dL_law_643 dL_law_644 (k := 1) (by decide) dL_law_645 dL_law_646 ?_
  refine w_Zi (As := [.int (lx xs i 1)]) (rest := []) ⟨hx, hb, hml, hown, hts⟩ (ct_X6_operation l D a ca hJ Z (lx xs i 1)) (cwV 1 hts gL_law_X6_operation rfl rfl rfl (by decide +kernel) ⟨Nat.le_of_ble_eq_true rfl, Nat.le_of_ble_eq_true rfl⟩) hK hP hQ hS hz hd (va_recv (ci := 6) hK.1 hP rfl zW_b) rfl hl.1 rfl (Nat.le_of_ble_eq_true rfl) dL_law_647 hf (fun H locs hP hQ hS => ?_)
  refine lv_aload_n hx hb dL_law_650 rfl (lv_at hl 2 rfl) ?_
  refine lw_arg hx hb hX hbl hS (lv_at hl 0 rfl) (lv_at hl 3 rfl) (by omega) hL dL_law_651 dL_law_652 dL_law_653 (k := 1) (by decide) dL_law_654 dL_law_655 ?_
  refine w_Mi (As := [.int (lx xs i 1)]) (rest := [.int (g_X6_operation Z (lx xs i 1))]) ⟨hx, hb, hml, hown, hts⟩ (ct_X7_operation l D am (ca 0) hM N A P X (lx xs i 1)) (cwV 1 hts gL_law_X7_operation rfl rfl rfl (by decide +kernel) ⟨Nat.le_of_ble_eq_true rfl, Nat.le_of_ble_eq_true rfl⟩) hKm hP hQ hS hzm hd (va_recv (ci := 7) hKm hQ rfl mG_O) rfl hl.1 rfl (Nat.le_of_ble_eq_true rfl) dL_law_656 hf (fun H locs hP hQ hS => ?_)
  refine lv_icmp_eq (tgt := 1032) hx hb dL_law_659 (by decide) (fun _ => ?_) (fun c9 => absurd (as_operation hV.1 (lx xs i 1)) c9)
  exact kk _ _ _ _ _ _ _ _ (iv_up hV (by omega) (by omega)) hP hQ hS hl
set_option maxHeartbeats 4000000 in
set_option maxRecDepth 100000 in
theorem cs_operand (X0 : LX p s m c b L xs D a ca am qs qv) (hi : i + 4 ≤ L) (hB : B + 700 < 1000000) (hV : IV B Z N P X) (hl : lv_has ls 8 [(0, .ref b), (1, .ref (a 114)), (2, .ref (am 0)), (3, .int (nI i))]) (hP : va_P D vwCl (zW a ca Z) H) (hQ : va_P D vwCl (mW am (ca 0) (N, A, P, X)) H) (hS : va_S (lA s) s.heap H locs) (hf : cells ≤ room_1.cells ∧ slots ≤ room_1.slots) (kk : LK p l e s m below meth c cells slots Q D a am ca b i B) : W p l e room_1 s m #[Value.ref b] below meth c H locs cells slots Q (F0 m 664 ls []) := by
  obtain ⟨hx, hb, hml, hown, hts, hX, hbl, hL, hJ, hM, hK, hKm, hE, hz, hzm, hd⟩ := X0
  have hX0 : zIn (X 0 0) 5 := by
    rw [hV.2.2.1.2.2.1]
    exact hV.2.2.1.2.1
  refine lv_aload_n hx hb dL_law_664 rfl (lv_at hl 1 rfl) ?_
  refine lw_arg hx hb hX hbl hS (lv_at hl 0 rfl) (lv_at hl 3 rfl) (by omega) hL dL_law_665 dL_law_666 dL_law_667 (k := 1) (by decide) dL_law_668 dL_law_669 ?_
  refine lw_arg hx hb hX hbl hS (lv_at hl 0 rfl) (lv_at hl 3 rfl) (by omega) hL dL_law_670 dL_law_671 dL_law_672 (k := 2) (by decide) dL_law_673 dL_law_674 ?_
  refine w_Zi (As := [.int (lx xs i 1), .int (lx xs i 2)]) (rest := []) ⟨hx, hb, hml, hown, hts⟩ (ct_X6_operand l D a ca hJ Z (lx xs i 1) (lx xs i 2)) (cwV 2 hts gL_law_X6_operand rfl rfl rfl (by decide +kernel) ⟨Nat.le_of_ble_eq_true rfl, Nat.le_of_ble_eq_true rfl⟩) hK hP hQ hS hz hd (va_recv (ci := 6) hK.1 hP rfl zW_b) rfl hl.1 rfl (Nat.le_of_ble_eq_true rfl) dL_law_675 hf (fun H locs hP hQ hS => ?_)
  refine lv_aload_n hx hb dL_law_678 rfl (lv_at hl 2 rfl) ?_
  refine lw_arg hx hb hX hbl hS (lv_at hl 0 rfl) (lv_at hl 3 rfl) (by omega) hL dL_law_679 dL_law_680 dL_law_681 (k := 1) (by decide) dL_law_682 dL_law_683 ?_
  refine lw_arg hx hb hX hbl hS (lv_at hl 0 rfl) (lv_at hl 3 rfl) (by omega) hL dL_law_684 dL_law_685 dL_law_686 (k := 2) (by decide) dL_law_687 dL_law_688 ?_
  refine w_Mi (As := [.int (lx xs i 1), .int (lx xs i 2)]) (rest := [.int (g_X6_operand Z (lx xs i 1) (lx xs i 2))]) ⟨hx, hb, hml, hown, hts⟩ (ct_X7_operand l D am (ca 0) hM N A P X (lx xs i 1) (lx xs i 2)) (cwV 2 hts gL_law_X7_operand rfl rfl rfl (by decide +kernel) ⟨Nat.le_of_ble_eq_true rfl, Nat.le_of_ble_eq_true rfl⟩) hKm hP hQ hS hzm hd (va_recv (ci := 7) hKm hQ rfl mG_O) rfl hl.1 rfl (Nat.le_of_ble_eq_true rfl) dL_law_689 hf (fun H locs hP hQ hS => ?_)
  refine lv_icmp_eq (tgt := 1032) hx hb dL_law_692 (by decide) (fun _ => ?_) (fun c9 => absurd (as_operand hV.1 (lx xs i 1) (lx xs i 2)) c9)
  exact kk _ _ _ _ _ _ _ _ (iv_up hV (by omega) (by omega)) hP hQ hS hl
set_option maxHeartbeats 4000000 in
set_option maxRecDepth 100000 in
theorem cs_slot (X0 : LX p s m c b L xs D a ca am qs qv) (hi : i + 4 ≤ L) (hB : B + 700 < 1000000) (hV : IV B Z N P X) (hl : lv_has ls 8 [(0, .ref b), (1, .ref (a 114)), (2, .ref (am 0)), (3, .int (nI i))]) (hP : va_P D vwCl (zW a ca Z) H) (hQ : va_P D vwCl (mW am (ca 0) (N, A, P, X)) H) (hS : va_S (lA s) s.heap H locs) (hf : cells ≤ room_1.cells ∧ slots ≤ room_1.slots) (kk : LK p l e s m below meth c cells slots Q D a am ca b i B) : W p l e room_1 s m #[Value.ref b] below meth c H locs cells slots Q (F0 m 697 ls []) := by
  obtain ⟨hx, hb, hml, hown, hts, hX, hbl, hL, hJ, hM, hK, hKm, hE, hz, hzm, hd⟩ := X0
  have hX0 : zIn (X 0 0) 5 := by
    rw [hV.2.2.1.2.2.1]
    exact hV.2.2.1.2.1
  refine lv_aload_n hx hb dL_law_697 rfl (lv_at hl 1 rfl) ?_
  refine lw_arg hx hb hX hbl hS (lv_at hl 0 rfl) (lv_at hl 3 rfl) (by omega) hL dL_law_698 dL_law_699 dL_law_700 (k := 1) (by decide) dL_law_701 dL_law_702 ?_
  refine w_Zi (As := [.int (lx xs i 1)]) (rest := []) ⟨hx, hb, hml, hown, hts⟩ (ct_X6_slot l D a ca hJ Z (lx xs i 1)) (cwV 1 hts gL_law_X6_slot rfl rfl rfl (by decide +kernel) ⟨Nat.le_of_ble_eq_true rfl, Nat.le_of_ble_eq_true rfl⟩) hK hP hQ hS hz hd (va_recv (ci := 6) hK.1 hP rfl zW_b) rfl hl.1 rfl (Nat.le_of_ble_eq_true rfl) dL_law_703 hf (fun H locs hP hQ hS => ?_)
  refine lv_aload_n hx hb dL_law_706 rfl (lv_at hl 2 rfl) ?_
  refine lw_arg hx hb hX hbl hS (lv_at hl 0 rfl) (lv_at hl 3 rfl) (by omega) hL dL_law_707 dL_law_708 dL_law_709 (k := 1) (by decide) dL_law_710 dL_law_711 ?_
  refine w_Mi (As := [.int (lx xs i 1)]) (rest := [.int (g_X6_slot Z (lx xs i 1))]) ⟨hx, hb, hml, hown, hts⟩ (ct_X7_slot l D am (ca 0) hM N A P X (lx xs i 1)) (cwV 1 hts gL_law_X7_slot rfl rfl rfl (by decide +kernel) ⟨Nat.le_of_ble_eq_true rfl, Nat.le_of_ble_eq_true rfl⟩) hKm hP hQ hS hzm hd (va_recv (ci := 7) hKm hQ rfl mG_O) rfl hl.1 rfl (Nat.le_of_ble_eq_true rfl) dL_law_712 hf (fun H locs hP hQ hS => ?_)
  refine lv_icmp_eq (tgt := 1032) hx hb dL_law_715 (by decide) (fun _ => ?_) (fun c9 => absurd (as_slot hV.1 (lx xs i 1)) c9)
  exact kk _ _ _ _ _ _ _ _ (iv_up hV (by omega) (by omega)) hP hQ hS hl
set_option maxHeartbeats 4000000 in
set_option maxRecDepth 100000 in
theorem cs_setting (X0 : LX p s m c b L xs D a ca am qs qv) (hi : i + 4 ≤ L) (hB : B + 700 < 1000000) (hV : IV B Z N P X) (hl : lv_has ls 8 [(0, .ref b), (1, .ref (a 114)), (2, .ref (am 0)), (3, .int (nI i))]) (hP : va_P D vwCl (zW a ca Z) H) (hQ : va_P D vwCl (mW am (ca 0) (N, A, P, X)) H) (hS : va_S (lA s) s.heap H locs) (hf : cells ≤ room_1.cells ∧ slots ≤ room_1.slots) (kk : LK p l e s m below meth c cells slots Q D a am ca b i B) : W p l e room_1 s m #[Value.ref b] below meth c H locs cells slots Q (F0 m 720 ls []) := by
  obtain ⟨hx, hb, hml, hown, hts, hX, hbl, hL, hJ, hM, hK, hKm, hE, hz, hzm, hd⟩ := X0
  have hX0 : zIn (X 0 0) 5 := by
    rw [hV.2.2.1.2.2.1]
    exact hV.2.2.1.2.1
  refine lv_aload_n hx hb dL_law_720 rfl (lv_at hl 1 rfl) ?_
  refine lw_arg hx hb hX hbl hS (lv_at hl 0 rfl) (lv_at hl 3 rfl) (by omega) hL dL_law_721 dL_law_722 dL_law_723 (k := 1) (by decide) dL_law_724 dL_law_725 ?_
  refine w_Zi (As := [.int (lx xs i 1)]) (rest := []) ⟨hx, hb, hml, hown, hts⟩ (ct_X6_setting l D a ca hJ Z (lx xs i 1)) (cwV 1 hts gL_law_X6_setting rfl rfl rfl (by decide +kernel) ⟨Nat.le_of_ble_eq_true rfl, Nat.le_of_ble_eq_true rfl⟩) hK hP hQ hS hz hd (va_recv (ci := 6) hK.1 hP rfl zW_b) rfl hl.1 rfl (Nat.le_of_ble_eq_true rfl) dL_law_726 hf (fun H locs hP hQ hS => ?_)
  refine lv_aload_n hx hb dL_law_729 rfl (lv_at hl 2 rfl) ?_
  refine lw_arg hx hb hX hbl hS (lv_at hl 0 rfl) (lv_at hl 3 rfl) (by omega) hL dL_law_730 dL_law_731 dL_law_732 (k := 1) (by decide) dL_law_733 dL_law_734 ?_
  refine w_Mi (As := [.int (lx xs i 1)]) (rest := [.int (g_X6_setting Z (lx xs i 1))]) ⟨hx, hb, hml, hown, hts⟩ (ct_X7_setting l D am (ca 0) hM N A P X (lx xs i 1)) (cwV 1 hts gL_law_X7_setting rfl rfl rfl (by decide +kernel) ⟨Nat.le_of_ble_eq_true rfl, Nat.le_of_ble_eq_true rfl⟩) hKm hP hQ hS hzm hd (va_recv (ci := 7) hKm hQ rfl mG_O) rfl hl.1 rfl (Nat.le_of_ble_eq_true rfl) dL_law_735 hf (fun H locs hP hQ hS => ?_)
  refine lv_icmp_eq (tgt := 1032) hx hb dL_law_738 (by decide) (fun _ => ?_) (fun c9 => absurd (as_setting hV.1 (lx xs i 1)) c9)
  exact kk _ _ _ _ _ _ _ _ (iv_up hV (by omega) (by omega)) hP hQ hS hl
set_option maxHeartbeats 4000000 in
set_option maxRecDepth 100000 in
theorem cs_breakpoint (X0 : LX p s m c b L xs D a ca am qs qv) (hi : i + 4 ≤ L) (hB : B + 700 < 1000000) (hV : IV B Z N P X) (hl : lv_has ls 8 [(0, .ref b), (1, .ref (a 114)), (2, .ref (am 0)), (3, .int (nI i))]) (hP : va_P D vwCl (zW a ca Z) H) (hQ : va_P D vwCl (mW am (ca 0) (N, A, P, X)) H) (hS : va_S (lA s) s.heap H locs) (hf : cells ≤ room_1.cells ∧ slots ≤ room_1.slots) (kk : LK p l e s m below meth c cells slots Q D a am ca b i B) : W p l e room_1 s m #[Value.ref b] below meth c H locs cells slots Q (F0 m 743 ls []) := by
  obtain ⟨hx, hb, hml, hown, hts, hX, hbl, hL, hJ, hM, hK, hKm, hE, hz, hzm, hd⟩ := X0
  have hX0 : zIn (X 0 0) 5 := by
    rw [hV.2.2.1.2.2.1]
    exact hV.2.2.1.2.1
  refine lv_aload_n hx hb dL_law_743 rfl (lv_at hl 1 rfl) ?_
  refine lw_arg hx hb hX hbl hS (lv_at hl 0 rfl) (lv_at hl 3 rfl) (by omega) hL dL_law_744 dL_law_745 dL_law_746 (k := 1) (by decide) dL_law_747 dL_law_748 ?_
  refine w_Zi (As := [.int (lx xs i 1)]) (rest := []) ⟨hx, hb, hml, hown, hts⟩ (ct_X6_breakpoint l D a ca hJ Z (lx xs i 1)) (cwV 1 hts gL_law_X6_breakpoint rfl rfl rfl (by decide +kernel) ⟨Nat.le_of_ble_eq_true rfl, Nat.le_of_ble_eq_true rfl⟩) hK hP hQ hS hz hd (va_recv (ci := 6) hK.1 hP rfl zW_b) rfl hl.1 rfl (Nat.le_of_ble_eq_true rfl) dL_law_749 hf (fun H locs hP hQ hS => ?_)
  refine lv_aload_n hx hb dL_law_752 rfl (lv_at hl 2 rfl) ?_
  refine lw_arg hx hb hX hbl hS (lv_at hl 0 rfl) (lv_at hl 3 rfl) (by omega) hL dL_law_753 dL_law_754 dL_law_755 (k := 1) (by decide) dL_law_756 dL_law_757 ?_
  refine w_Mi (As := [.int (lx xs i 1)]) (rest := [.int (g_X6_breakpoint Z (lx xs i 1))]) ⟨hx, hb, hml, hown, hts⟩ (ct_X7_breakpoint l D am (ca 0) hM N A P X (lx xs i 1)) (cwV 1 hts gL_law_X7_breakpoint rfl rfl rfl (by decide +kernel) ⟨Nat.le_of_ble_eq_true rfl, Nat.le_of_ble_eq_true rfl⟩) hKm hP hQ hS hzm hd (va_recv (ci := 7) hKm hQ rfl mG_O) rfl hl.1 rfl (Nat.le_of_ble_eq_true rfl) dL_law_758 hf (fun H locs hP hQ hS => ?_)
  refine lv_icmp_eq (tgt := 1032) hx hb dL_law_761 (by decide) (fun _ => ?_) (fun c9 => absurd (as_breakpoint hV.1 (lx xs i 1)) c9)
  exact kk _ _ _ _ _ _ _ _ (iv_up hV (by omega) (by omega)) hP hQ hS hl
set_option maxHeartbeats 4000000 in
set_option maxRecDepth 100000 in
theorem cs_cycle (X0 : LX p s m c b L xs D a ca am qs qv) (hi : i + 4 ≤ L) (hB : B + 700 < 1000000) (hV : IV B Z N P X) (hl : lv_has ls 8 [(0, .ref b), (1, .ref (a 114)), (2, .ref (am 0)), (3, .int (nI i))]) (hP : va_P D vwCl (zW a ca Z) H) (hQ : va_P D vwCl (mW am (ca 0) (N, A, P, X)) H) (hS : va_S (lA s) s.heap H locs) (hf : cells ≤ room_1.cells ∧ slots ≤ room_1.slots) (kk : LK p l e s m below meth c cells slots Q D a am ca b i B) : W p l e room_1 s m #[Value.ref b] below meth c H locs cells slots Q (F0 m 766 ls []) := by
  obtain ⟨hx, hb, hml, hown, hts, hX, hbl, hL, hJ, hM, hK, hKm, hE, hz, hzm, hd⟩ := X0
  have hX0 : zIn (X 0 0) 5 := by
    rw [hV.2.2.1.2.2.1]
    exact hV.2.2.1.2.1
  refine lv_aload_n hx hb dL_law_766 rfl (lv_at hl 1 rfl) ?_
  refine w_Zi (As := []) (rest := []) ⟨hx, hb, hml, hown, hts⟩ (ct_X6_cycle l D a ca hJ Z) (cwV 0 hts gL_law_X6_cycle rfl rfl rfl (by decide +kernel) ⟨Nat.le_of_ble_eq_true rfl, Nat.le_of_ble_eq_true rfl⟩) hK hP hQ hS hz hd (va_recv (ci := 6) hK.1 hP rfl zW_b) rfl hl.1 rfl (Nat.le_of_ble_eq_true rfl) dL_law_767 hf (fun H locs hP hQ hS => ?_)
  refine lv_aload_n hx hb dL_law_770 rfl (lv_at hl 2 rfl) ?_
  refine w_Mi (As := []) (rest := [.int (g_X6_cycle Z)]) ⟨hx, hb, hml, hown, hts⟩ (ct_X7_cycle l D am (ca 0) hM N A P X) (cwV 0 hts gL_law_X7_cycle rfl rfl rfl (by decide +kernel) ⟨Nat.le_of_ble_eq_true rfl, Nat.le_of_ble_eq_true rfl⟩) hKm hP hQ hS hzm hd (va_recv (ci := 7) hKm hQ rfl mG_O) rfl hl.1 rfl (Nat.le_of_ble_eq_true rfl) dL_law_771 hf (fun H locs hP hQ hS => ?_)
  refine lv_icmp_eq (tgt := 1032) hx hb dL_law_774 (by decide) (fun _ => ?_) (fun c9 => absurd (as_cycle hV.1) c9)
  exact kk _ _ _ _ _ _ _ _ (iv_up hV (by omega) (by omega)) hP hQ hS hl
set_option maxHeartbeats 4000000 in
set_option maxRecDepth 100000 in
theorem cs_idle (X0 : LX p s m c b L xs D a ca am qs qv) (hi : i + 4 ≤ L) (hB : B + 700 < 1000000) (hV : IV B Z N P X) (hl : lv_has ls 8 [(0, .ref b), (1, .ref (a 114)), (2, .ref (am 0)), (3, .int (nI i))]) (hP : va_P D vwCl (zW a ca Z) H) (hQ : va_P D vwCl (mW am (ca 0) (N, A, P, X)) H) (hS : va_S (lA s) s.heap H locs) (hf : cells ≤ room_1.cells ∧ slots ≤ room_1.slots) (kk : LK p l e s m below meth c cells slots Q D a am ca b i B) : W p l e room_1 s m #[Value.ref b] below meth c H locs cells slots Q (F0 m 779 ls []) := by
  obtain ⟨hx, hb, hml, hown, hts, hX, hbl, hL, hJ, hM, hK, hKm, hE, hz, hzm, hd⟩ := X0
  have hX0 : zIn (X 0 0) 5 := by
    rw [hV.2.2.1.2.2.1]
    exact hV.2.2.1.2.1
  refine lv_aload_n hx hb dL_law_779 rfl (lv_at hl 1 rfl) ?_
  refine w_Zi (As := []) (rest := []) ⟨hx, hb, hml, hown, hts⟩ (ct_X6_idle l D a ca hJ Z) (cwV 0 hts gL_law_X6_idle rfl rfl rfl (by decide +kernel) ⟨Nat.le_of_ble_eq_true rfl, Nat.le_of_ble_eq_true rfl⟩) hK hP hQ hS hz hd (va_recv (ci := 6) hK.1 hP rfl zW_b) rfl hl.1 rfl (Nat.le_of_ble_eq_true rfl) dL_law_780 hf (fun H locs hP hQ hS => ?_)
  refine lv_aload_n hx hb dL_law_783 rfl (lv_at hl 2 rfl) ?_
  refine w_Mi (As := []) (rest := [.int (g_X6_idle Z)]) ⟨hx, hb, hml, hown, hts⟩ (ct_X7_idle l D am (ca 0) hM N A P X) (cwV 0 hts gL_law_X7_idle rfl rfl rfl (by decide +kernel) ⟨Nat.le_of_ble_eq_true rfl, Nat.le_of_ble_eq_true rfl⟩) hKm hP hQ hS hzm hd (va_recv (ci := 7) hKm hQ rfl mG_O) rfl hl.1 rfl (Nat.le_of_ble_eq_true rfl) dL_law_784 hf (fun H locs hP hQ hS => ?_)
  refine lv_icmp_eq (tgt := 1032) hx hb dL_law_787 (by decide) (fun _ => ?_) (fun c9 => absurd (as_idle hV.1) c9)
  exact kk _ _ _ _ _ _ _ _ (iv_up hV (by omega) (by omega)) hP hQ hS hl
set_option maxHeartbeats 4000000 in
set_option maxRecDepth 100000 in
theorem cs_executed (X0 : LX p s m c b L xs D a ca am qs qv) (hi : i + 4 ≤ L) (hB : B + 700 < 1000000) (hV : IV B Z N P X) (hl : lv_has ls 8 [(0, .ref b), (1, .ref (a 114)), (2, .ref (am 0)), (3, .int (nI i))]) (hP : va_P D vwCl (zW a ca Z) H) (hQ : va_P D vwCl (mW am (ca 0) (N, A, P, X)) H) (hS : va_S (lA s) s.heap H locs) (hf : cells ≤ room_1.cells ∧ slots ≤ room_1.slots) (kk : LK p l e s m below meth c cells slots Q D a am ca b i B) : W p l e room_1 s m #[Value.ref b] below meth c H locs cells slots Q (F0 m 792 ls []) := by
  obtain ⟨hx, hb, hml, hown, hts, hX, hbl, hL, hJ, hM, hK, hKm, hE, hz, hzm, hd⟩ := X0
  have hX0 : zIn (X 0 0) 5 := by
    rw [hV.2.2.1.2.2.1]
    exact hV.2.2.1.2.1
  refine lv_aload_n hx hb dL_law_792 rfl (lv_at hl 1 rfl) ?_
  refine lw_arg hx hb hX hbl hS (lv_at hl 0 rfl) (lv_at hl 3 rfl) (by omega) hL dL_law_793 dL_law_794 dL_law_795 (k := 1) (by decide) dL_law_796 dL_law_797 ?_
  refine w_Zi (As := [.int (lx xs i 1)]) (rest := []) ⟨hx, hb, hml, hown, hts⟩ (ct_X6_executed l D a ca hJ Z (lx xs i 1)) (cwV 1 hts gL_law_X6_executed rfl rfl rfl (by decide +kernel) ⟨Nat.le_of_ble_eq_true rfl, Nat.le_of_ble_eq_true rfl⟩) hK hP hQ hS hz hd (va_recv (ci := 6) hK.1 hP rfl zW_b) rfl hl.1 rfl (Nat.le_of_ble_eq_true rfl) dL_law_798 hf (fun H locs hP hQ hS => ?_)
  refine lv_aload_n hx hb dL_law_801 rfl (lv_at hl 2 rfl) ?_
  refine lw_arg hx hb hX hbl hS (lv_at hl 0 rfl) (lv_at hl 3 rfl) (by omega) hL dL_law_802 dL_law_803 dL_law_804 (k := 1) (by decide) dL_law_805 dL_law_806 ?_
  refine w_Mi (As := [.int (lx xs i 1)]) (rest := [.int (g_X6_executed Z (lx xs i 1))]) ⟨hx, hb, hml, hown, hts⟩ (ct_X7_executed l D am (ca 0) hM N A P X (lx xs i 1)) (cwV 1 hts gL_law_X7_executed rfl rfl rfl (by decide +kernel) ⟨Nat.le_of_ble_eq_true rfl, Nat.le_of_ble_eq_true rfl⟩) hKm hP hQ hS hzm hd (va_recv (ci := 7) hKm hQ rfl mG_O) rfl hl.1 rfl (Nat.le_of_ble_eq_true rfl) dL_law_807 hf (fun H locs hP hQ hS => ?_)
  refine lv_icmp_eq (tgt := 1032) hx hb dL_law_810 (by decide) (fun _ => ?_) (fun c9 => absurd (as_executed hV.1 (lx xs i 1)) c9)
  exact kk _ _ _ _ _ _ _ _ (iv_up hV (by omega) (by omega)) hP hQ hS hl
set_option maxHeartbeats 4000000 in
set_option maxRecDepth 100000 in
theorem cs_lent (X0 : LX p s m c b L xs D a ca am qs qv) (hi : i + 4 ≤ L) (hB : B + 700 < 1000000) (hV : IV B Z N P X) (hl : lv_has ls 8 [(0, .ref b), (1, .ref (a 114)), (2, .ref (am 0)), (3, .int (nI i))]) (hP : va_P D vwCl (zW a ca Z) H) (hQ : va_P D vwCl (mW am (ca 0) (N, A, P, X)) H) (hS : va_S (lA s) s.heap H locs) (hf : cells ≤ room_1.cells ∧ slots ≤ room_1.slots) (kk : LK p l e s m below meth c cells slots Q D a am ca b i B) : W p l e room_1 s m #[Value.ref b] below meth c H locs cells slots Q (F0 m 815 ls []) := by
  obtain ⟨hx, hb, hml, hown, hts, hX, hbl, hL, hJ, hM, hK, hKm, hE, hz, hzm, hd⟩ := X0
  have hX0 : zIn (X 0 0) 5 := by
    rw [hV.2.2.1.2.2.1]
    exact hV.2.2.1.2.1
  refine lv_aload_n hx hb dL_law_815 rfl (lv_at hl 1 rfl) ?_
  refine lw_arg hx hb hX hbl hS (lv_at hl 0 rfl) (lv_at hl 3 rfl) (by omega) hL dL_law_816 dL_law_817 dL_law_818 (k := 1) (by decide) dL_law_819 dL_law_820 ?_
  refine w_Zi (As := [.int (lx xs i 1)]) (rest := []) ⟨hx, hb, hml, hown, hts⟩ (ct_X6_lent l D a ca hJ Z (lx xs i 1)) (cwV 1 hts gL_law_X6_lent rfl rfl rfl (by decide +kernel) ⟨Nat.le_of_ble_eq_true rfl, Nat.le_of_ble_eq_true rfl⟩) hK hP hQ hS hz hd (va_recv (ci := 6) hK.1 hP rfl zW_b) rfl hl.1 rfl (Nat.le_of_ble_eq_true rfl) dL_law_821 hf (fun H locs hP hQ hS => ?_)
  refine lv_aload_n hx hb dL_law_824 rfl (lv_at hl 2 rfl) ?_
  refine lw_arg hx hb hX hbl hS (lv_at hl 0 rfl) (lv_at hl 3 rfl) (by omega) hL dL_law_825 dL_law_826 dL_law_827 (k := 1) (by decide) dL_law_828 dL_law_829 ?_
  refine w_Mi (As := [.int (lx xs i 1)]) (rest := [.int (g_X6_lent Z (lx xs i 1))]) ⟨hx, hb, hml, hown, hts⟩ (ct_X7_lent l D am (ca 0) hM N A P X (lx xs i 1)) (cwV 1 hts gL_law_X7_lent rfl rfl rfl (by decide +kernel) ⟨Nat.le_of_ble_eq_true rfl, Nat.le_of_ble_eq_true rfl⟩) hKm hP hQ hS hzm hd (va_recv (ci := 7) hKm hQ rfl mG_O) rfl hl.1 rfl (Nat.le_of_ble_eq_true rfl) dL_law_830 hf (fun H locs hP hQ hS => ?_)
  refine lv_icmp_eq (tgt := 1032) hx hb dL_law_833 (by decide) (fun _ => ?_) (fun c9 => absurd (as_lent hV.1 (lx xs i 1)) c9)
  exact kk _ _ _ _ _ _ _ _ (iv_up hV (by omega) (by omega)) hP hQ hS hl
set_option maxHeartbeats 4000000 in
set_option maxRecDepth 100000 in
theorem cs_starved (X0 : LX p s m c b L xs D a ca am qs qv) (hi : i + 4 ≤ L) (hB : B + 700 < 1000000) (hV : IV B Z N P X) (hl : lv_has ls 8 [(0, .ref b), (1, .ref (a 114)), (2, .ref (am 0)), (3, .int (nI i))]) (hP : va_P D vwCl (zW a ca Z) H) (hQ : va_P D vwCl (mW am (ca 0) (N, A, P, X)) H) (hS : va_S (lA s) s.heap H locs) (hf : cells ≤ room_1.cells ∧ slots ≤ room_1.slots) (kk : LK p l e s m below meth c cells slots Q D a am ca b i B) : W p l e room_1 s m #[Value.ref b] below meth c H locs cells slots Q (F0 m 838 ls []) := by
  obtain ⟨hx, hb, hml, hown, hts, hX, hbl, hL, hJ, hM, hK, hKm, hE, hz, hzm, hd⟩ := X0
  have hX0 : zIn (X 0 0) 5 := by
    rw [hV.2.2.1.2.2.1]
    exact hV.2.2.1.2.1
  refine lv_aload_n hx hb dL_law_838 rfl (lv_at hl 1 rfl) ?_
  refine lw_arg hx hb hX hbl hS (lv_at hl 0 rfl) (lv_at hl 3 rfl) (by omega) hL dL_law_839 dL_law_840 dL_law_841 (k := 1) (by decide) dL_law_842 dL_law_843 ?_
  refine w_Zi (As := [.int (lx xs i 1)]) (rest := []) ⟨hx, hb, hml, hown, hts⟩ (ct_X6_starved l D a ca hJ Z (lx xs i 1)) (cwV 1 hts gL_law_X6_starved rfl rfl rfl (by decide +kernel) ⟨Nat.le_of_ble_eq_true rfl, Nat.le_of_ble_eq_true rfl⟩) hK hP hQ hS hz hd (va_recv (ci := 6) hK.1 hP rfl zW_b) rfl hl.1 rfl (Nat.le_of_ble_eq_true rfl) dL_law_844 hf (fun H locs hP hQ hS => ?_)
  refine lv_aload_n hx hb dL_law_847 rfl (lv_at hl 2 rfl) ?_
  refine lw_arg hx hb hX hbl hS (lv_at hl 0 rfl) (lv_at hl 3 rfl) (by omega) hL dL_law_848 dL_law_849 dL_law_850 (k := 1) (by decide) dL_law_851 dL_law_852 ?_
  refine w_Mi (As := [.int (lx xs i 1)]) (rest := [.int (g_X6_starved Z (lx xs i 1))]) ⟨hx, hb, hml, hown, hts⟩ (ct_X7_starved l D am (ca 0) hM N A P X (lx xs i 1)) (cwV 1 hts gL_law_X7_starved rfl rfl rfl (by decide +kernel) ⟨Nat.le_of_ble_eq_true rfl, Nat.le_of_ble_eq_true rfl⟩) hKm hP hQ hS hzm hd (va_recv (ci := 7) hKm hQ rfl mG_O) rfl hl.1 rfl (Nat.le_of_ble_eq_true rfl) dL_law_853 hf (fun H locs hP hQ hS => ?_)
  refine lv_icmp_eq (tgt := 1032) hx hb dL_law_856 (by decide) (fun _ => ?_) (fun c9 => absurd (as_starved hV.1 (lx xs i 1)) c9)
  exact kk _ _ _ _ _ _ _ _ (iv_up hV (by omega) (by omega)) hP hQ hS hl
set_option maxHeartbeats 4000000 in
set_option maxRecDepth 100000 in
theorem cs_trace (X0 : LX p s m c b L xs D a ca am qs qv) (hi : i + 4 ≤ L) (hB : B + 700 < 1000000) (hV : IV B Z N P X) (hl : lv_has ls 8 [(0, .ref b), (1, .ref (a 114)), (2, .ref (am 0)), (3, .int (nI i))]) (hP : va_P D vwCl (zW a ca Z) H) (hQ : va_P D vwCl (mW am (ca 0) (N, A, P, X)) H) (hS : va_S (lA s) s.heap H locs) (hf : cells ≤ room_1.cells ∧ slots ≤ room_1.slots) (kk : LK p l e s m below meth c cells slots Q D a am ca b i B) : W p l e room_1 s m #[Value.ref b] below meth c H locs cells slots Q (F0 m 861 ls []) := by
  obtain ⟨hx, hb, hml, hown, hts, hX, hbl, hL, hJ, hM, hK, hKm, hE, hz, hzm, hd⟩ := X0
  have hX0 : zIn (X 0 0) 5 := by
    rw [hV.2.2.1.2.2.1]
    exact hV.2.2.1.2.1
  refine lv_aload_n hx hb dL_law_861 rfl (lv_at hl 1 rfl) ?_
  refine lw_arg hx hb hX hbl hS (lv_at hl 0 rfl) (lv_at hl 3 rfl) (by omega) hL dL_law_862 dL_law_863 dL_law_864 (k := 1) (by decide) dL_law_865 dL_law_866 ?_
  refine lw_arg hx hb hX hbl hS (lv_at hl 0 rfl) (lv_at hl 3 rfl) (by omega) hL dL_law_867 dL_law_868 dL_law_869 (k := 2) (by decide) dL_law_870 dL_law_871 ?_
  refine w_Zi (As := [.int (lx xs i 1), .int (lx xs i 2)]) (rest := []) ⟨hx, hb, hml, hown, hts⟩ (ct_X6_trace l D a ca hJ Z (lx xs i 1) (lx xs i 2) hV.1.2.1) (cwV 2 hts gL_law_X6_trace rfl rfl rfl (by decide +kernel) ⟨Nat.le_of_ble_eq_true rfl, Nat.le_of_ble_eq_true rfl⟩) hK hP hQ hS hz hd (va_recv (ci := 6) hK.1 hP rfl zW_b) rfl hl.1 rfl (Nat.le_of_ble_eq_true rfl) dL_law_872 hf (fun H locs hP hQ hS => ?_)
  refine lv_aload_n hx hb dL_law_875 rfl (lv_at hl 2 rfl) ?_
  refine lw_arg hx hb hX hbl hS (lv_at hl 0 rfl) (lv_at hl 3 rfl) (by omega) hL dL_law_876 dL_law_877 dL_law_878 (k := 1) (by decide) dL_law_879 dL_law_880 ?_
  refine lw_arg hx hb hX hbl hS (lv_at hl 0 rfl) (lv_at hl 3 rfl) (by omega) hL dL_law_881 dL_law_882 dL_law_883 (k := 2) (by decide) dL_law_884 dL_law_885 ?_
  refine w_Mi (As := [.int (lx xs i 1), .int (lx xs i 2)]) (rest := [.int (g_X6_trace Z (lx xs i 1) (lx xs i 2))]) ⟨hx, hb, hml, hown, hts⟩ (ct_X7_trace l D am (ca 0) hM N A P X (lx xs i 1) (lx xs i 2) B hV.1.2.2.2) (cwV 2 hts gL_law_X7_trace rfl rfl rfl (by decide +kernel) ⟨Nat.le_of_ble_eq_true rfl, Nat.le_of_ble_eq_true rfl⟩) hKm hP hQ hS hzm hd (va_recv (ci := 7) hKm hQ rfl mG_O) rfl hl.1 rfl (Nat.le_of_ble_eq_true rfl) dL_law_886 hf (fun H locs hP hQ hS => ?_)
  refine lv_icmp_eq (tgt := 1032) hx hb dL_law_889 (by decide) (fun _ => ?_) (fun c9 => absurd (as_trace hV.1 (lx xs i 1) (lx xs i 2)) c9)
  exact kk _ _ _ _ _ _ _ _ (iv_up hV (by omega) (by omega)) hP hQ hS hl
set_option maxHeartbeats 4000000 in
set_option maxRecDepth 100000 in
theorem cs_use (X0 : LX p s m c b L xs D a ca am qs qv) (hi : i + 4 ≤ L) (hB : B + 700 < 1000000) (hV : IV B Z N P X) (hl : lv_has ls 8 [(0, .ref b), (1, .ref (a 114)), (2, .ref (am 0)), (3, .int (nI i))]) (hP : va_P D vwCl (zW a ca Z) H) (hQ : va_P D vwCl (mW am (ca 0) (N, A, P, X)) H) (hS : va_S (lA s) s.heap H locs) (hf : cells ≤ room_1.cells ∧ slots ≤ room_1.slots) (kk : LK p l e s m below meth c cells slots Q D a am ca b i B) : W p l e room_1 s m #[Value.ref b] below meth c H locs cells slots Q (F0 m 894 ls []) := by
  obtain ⟨hx, hb, hml, hown, hts, hX, hbl, hL, hJ, hM, hK, hKm, hE, hz, hzm, hd⟩ := X0
  have hX0 : zIn (X 0 0) 5 := by
    rw [hV.2.2.1.2.2.1]
    exact hV.2.2.1.2.1
  refine lv_aload_n hx hb dL_law_894 rfl (lv_at hl 1 rfl) ?_
  refine w_Zf (As := []) (rest := []) ⟨hx, hb, hml, hown, hts⟩ (ct_X6_use l D a ca hJ Z) (cwV 0 hts gL_law_X6_use rfl rfl rfl (by decide +kernel) ⟨Nat.le_of_ble_eq_true rfl, Nat.le_of_ble_eq_true rfl⟩) hK hP hQ hS hz hd (va_recv (ci := 6) hK.1 hP rfl zW_b) rfl hl.1 rfl (Nat.le_of_ble_eq_true rfl) dL_law_895 hf (fun H locs hP hQ hS => ?_)
  rw [as_use hV.1]
  refine lv_f2d hx hb dL_law_898 (us_dn (use_n N)) ?_
  refine lv_dstore (lv' := [(4, .double (FP.f2d (g_X7_use N))), (0, .ref b), (1, .ref (a 114)), (2, .ref (am 0)), (3, .int (nI i))]) hx hb dL_law_899 hl (by decide) rfl (fun ls hl => ?_)
  refine lv_aload_n hx hb dL_law_901 rfl (lv_at hl 3 rfl) ?_
  refine w_Mf (As := []) (rest := []) ⟨hx, hb, hml, hown, hts⟩ (ct_X7_use l D am (ca 0) hM N A P X) (cwV 0 hts gL_law_X7_use rfl rfl rfl (by decide +kernel) ⟨Nat.le_of_ble_eq_true rfl, Nat.le_of_ble_eq_true rfl⟩) hKm hP hQ hS hzm hd (va_recv (ci := 7) hKm hQ rfl mG_O) rfl hl.1 rfl (Nat.le_of_ble_eq_true rfl) dL_law_902 hf (fun H locs hP hQ hS => ?_)
  refine lv_f2d hx hb dL_law_905 (us_dn (use_n N)) ?_
  refine lv_dstore (lv' := [(6, .double (FP.f2d (g_X7_use N))), (4, .double (FP.f2d (g_X7_use N))), (0, .ref b), (1, .ref (a 114)), (2, .ref (am 0)), (3, .int (nI i))]) hx hb dL_law_906 hl (by decide) rfl (fun ls hl => ?_)
  refine lv_dload hx hb dL_law_908 (lv_at hl 1 rfl) ?_
  refine lv_dload hx hb dL_law_910 (lv_at hl 0 rfl) ?_
  refine lv_dcmp hx hb dL_law_912 ?_
  have fin : W p l e room_1 s m #[Value.ref b] below meth c H locs cells slots Q (F0 m 934 ls []) := by
    refine lv_goto (tgt := 1032) hx hb dL_law_934 (by decide) ?_
    exact kk _ _ _ _ _ _ _ _ (iv_up hV (by omega) (by omega)) hP hQ hS (lv_sub hl [2, 3, 4, 5] rfl)
  refine lv_if_eq (tgt := 934) hx hb dL_law_913 (by decide) (fun _ => fin) (fun d1 => ?_)
  refine lv_dload hx hb dL_law_916 (lv_at hl 1 rfl) ?_
  refine lv_dload hx hb dL_law_918 (lv_at hl 1 rfl) ?_
  refine lv_dcmp hx hb dL_law_920 ?_
  refine lv_if_eq (tgt := 932) hx hb dL_law_921 (by decide) (fun d2 => absurd d2 d1) (fun _ => ?_)
  refine lv_dload hx hb dL_law_924 (lv_at hl 0 rfl) ?_
  refine lv_dload hx hb dL_law_926 (lv_at hl 0 rfl) ?_
  refine lv_dcmp hx hb dL_law_928 ?_
  exact lv_if_ne (tgt := 934) hx hb dL_law_929 (by decide) (fun _ => fin) (fun d3 => absurd d3 d1)
set_option maxHeartbeats 4000000 in
set_option maxRecDepth 100000 in
theorem cs_nextThread (X0 : LX p s m c b L xs D a ca am qs qv) (hi : i + 4 ≤ L) (hB : B + 700 < 1000000) (hV : IV B Z N P X) (hl : lv_has ls 8 [(0, .ref b), (1, .ref (a 114)), (2, .ref (am 0)), (3, .int (nI i))]) (hP : va_P D vwCl (zW a ca Z) H) (hQ : va_P D vwCl (mW am (ca 0) (N, A, P, X)) H) (hS : va_S (lA s) s.heap H locs) (hf : cells ≤ room_1.cells ∧ slots ≤ room_1.slots) (kk : LK p l e s m below meth c cells slots Q D a am ca b i B) : W p l e room_1 s m #[Value.ref b] below meth c H locs cells slots Q (F0 m 937 ls []) := by
  obtain ⟨hx, hb, hml, hown, hts, hX, hbl, hL, hJ, hM, hK, hKm, hE, hz, hzm, hd⟩ := X0
  have hX0 : zIn (X 0 0) 5 := by
    rw [hV.2.2.1.2.2.1]
    exact hV.2.2.1.2.1
  refine lv_aload_n hx hb dL_law_937 rfl (lv_at hl 1 rfl) ?_
  refine w_Zi (As := []) (rest := []) ⟨hx, hb, hml, hown, hts⟩ (ct_X6_nextThread l D a ca hJ Z) (cwV 0 hts gL_law_X6_nextThread rfl rfl rfl (by decide +kernel) ⟨Nat.le_of_ble_eq_true rfl, Nat.le_of_ble_eq_true rfl⟩) hK hP hQ hS hz hd (va_recv (ci := 6) hK.1 hP rfl zW_b) rfl hl.1 rfl (Nat.le_of_ble_eq_true rfl) dL_law_938 hf (fun H locs hP hQ hS => ?_)
  refine lv_aload_n hx hb dL_law_941 rfl (lv_at hl 2 rfl) ?_
  refine w_Mi (As := []) (rest := [.int (g_X6_nextThread Z)]) ⟨hx, hb, hml, hown, hts⟩ (ct_X7_nextThread l D am (ca 0) hM N A P X B hV.1.2.2.2) (cwV 0 hts gL_law_X7_nextThread rfl rfl rfl (by decide +kernel) ⟨Nat.le_of_ble_eq_true rfl, Nat.le_of_ble_eq_true rfl⟩) hKm hP hQ hS hzm hd (va_recv (ci := 7) hKm hQ rfl mG_O) rfl hl.1 rfl (Nat.le_of_ble_eq_true rfl) dL_law_942 hf (fun H locs hP hQ hS => ?_)
  refine lv_icmp_eq (tgt := 1032) hx hb dL_law_945 (by decide) (fun _ => ?_) (fun c9 => absurd (as_nextThread hV.1) c9)
  exact kk _ _ _ _ _ _ _ _ (iv_up hV (by omega) (by omega)) hP hQ hS hl
set_option maxHeartbeats 4000000 in
set_option maxRecDepth 100000 in
theorem cs_cyclesLeft (X0 : LX p s m c b L xs D a ca am qs qv) (hi : i + 4 ≤ L) (hB : B + 700 < 1000000) (hV : IV B Z N P X) (hl : lv_has ls 8 [(0, .ref b), (1, .ref (a 114)), (2, .ref (am 0)), (3, .int (nI i))]) (hP : va_P D vwCl (zW a ca Z) H) (hQ : va_P D vwCl (mW am (ca 0) (N, A, P, X)) H) (hS : va_S (lA s) s.heap H locs) (hf : cells ≤ room_1.cells ∧ slots ≤ room_1.slots) (kk : LK p l e s m below meth c cells slots Q D a am ca b i B) : W p l e room_1 s m #[Value.ref b] below meth c H locs cells slots Q (F0 m 950 ls []) := by
  obtain ⟨hx, hb, hml, hown, hts, hX, hbl, hL, hJ, hM, hK, hKm, hE, hz, hzm, hd⟩ := X0
  have hX0 : zIn (X 0 0) 5 := by
    rw [hV.2.2.1.2.2.1]
    exact hV.2.2.1.2.1
  refine lv_aload_n hx hb dL_law_950 rfl (lv_at hl 1 rfl) ?_
  refine w_Zi (As := []) (rest := []) ⟨hx, hb, hml, hown, hts⟩ (ct_cyclesLeft2 l D a ca hJ Z  hV.1.2.1 hV.2.1) (cwV 0 hts gL_law_X6_cyclesLeft rfl rfl rfl (by decide +kernel) ⟨Nat.le_of_ble_eq_true rfl, Nat.le_of_ble_eq_true rfl⟩) hK hP hQ hS hz hd (va_recv (ci := 6) hK.1 hP rfl zW_b) rfl hl.1 rfl (Nat.le_of_ble_eq_true rfl) dL_law_951 hf (fun H locs hP hQ hS => ?_)
  refine lv_aload_n hx hb dL_law_954 rfl (lv_at hl 2 rfl) ?_
  refine w_Mi (As := []) (rest := [.int (g_cyclesLeft2 Z)]) ⟨hx, hb, hml, hown, hts⟩ (ct_X7_cyclesLeft l D am (ca 0) hM N A P X B hV.1.2.2.2 (by omega)) (cwV 0 hts gL_law_X7_cyclesLeft rfl rfl rfl (by decide +kernel) ⟨Nat.le_of_ble_eq_true rfl, Nat.le_of_ble_eq_true rfl⟩) hKm hP hQ hS hzm hd (va_recv (ci := 7) hKm hQ rfl mG_O) rfl hl.1 rfl (Nat.le_of_ble_eq_true rfl) dL_law_955 hf (fun H locs hP hQ hS => ?_)
  refine lv_icmp_eq (tgt := 1032) hx hb dL_law_958 (by decide) (fun _ => ?_) (fun c9 => absurd (ah_cyclesLeft hV (by omega)).1 c9)
  exact kk _ _ _ _ _ _ _ _ (iv_up (ah_cyclesLeft hV (by omega)).2 (by omega) (by omega)) hP hQ hS hl
set_option maxHeartbeats 4000000 in
set_option maxRecDepth 100000 in
theorem cs_cyclesIf (X0 : LX p s m c b L xs D a ca am qs qv) (hi : i + 4 ≤ L) (hB : B + 700 < 1000000) (hV : IV B Z N P X) (hl : lv_has ls 8 [(0, .ref b), (1, .ref (a 114)), (2, .ref (am 0)), (3, .int (nI i))]) (hP : va_P D vwCl (zW a ca Z) H) (hQ : va_P D vwCl (mW am (ca 0) (N, A, P, X)) H) (hS : va_S (lA s) s.heap H locs) (hf : cells ≤ room_1.cells ∧ slots ≤ room_1.slots) (kk : LK p l e s m below meth c cells slots Q D a am ca b i B) : W p l e room_1 s m #[Value.ref b] below meth c H locs cells slots Q (F0 m 963 ls []) := by
  obtain ⟨hx, hb, hml, hown, hts, hX, hbl, hL, hJ, hM, hK, hKm, hE, hz, hzm, hd⟩ := X0
  have hX0 : zIn (X 0 0) 5 := by
    rw [hV.2.2.1.2.2.1]
    exact hV.2.2.1.2.1
  refine lv_aload_n hx hb dL_law_963 rfl (lv_at hl 1 rfl) ?_
  refine lw_arg hx hb hX hbl hS (lv_at hl 0 rfl) (lv_at hl 3 rfl) (by omega) hL dL_law_964 dL_law_965 dL_law_966 (k := 1) (by decide) dL_law_967 dL_law_968 ?_
  refine lw_arg hx hb hX hbl hS (lv_at hl 0 rfl) (lv_at hl 3 rfl) (by omega) hL dL_law_969 dL_law_970 dL_law_971 (k := 2) (by decide) dL_law_972 dL_law_973 ?_
  refine w_Zi (As := [.int (lx xs i 1), .int (lx xs i 2)]) (rest := []) ⟨hx, hb, hml, hown, hts⟩ (ct_cyclesIf2 l D a ca hJ Z (lx xs i 1) (lx xs i 2) hV.1.2.1 hV.2.1) (cwV 2 hts gL_law_X6_cyclesIf rfl rfl rfl (by decide +kernel) ⟨Nat.le_of_ble_eq_true rfl, Nat.le_of_ble_eq_true rfl⟩) hK hP hQ hS hz hd (va_recv (ci := 6) hK.1 hP rfl zW_b) rfl hl.1 rfl (Nat.le_of_ble_eq_true rfl) dL_law_974 hf (fun H locs hP hQ hS => ?_)
  refine lv_aload_n hx hb dL_law_977 rfl (lv_at hl 2 rfl) ?_
  refine lw_arg hx hb hX hbl hS (lv_at hl 0 rfl) (lv_at hl 3 rfl) (by omega) hL dL_law_978 dL_law_979 dL_law_980 (k := 1) (by decide) dL_law_981 dL_law_982 ?_
  refine lw_arg hx hb hX hbl hS (lv_at hl 0 rfl) (lv_at hl 3 rfl) (by omega) hL dL_law_983 dL_law_984 dL_law_985 (k := 2) (by decide) dL_law_986 dL_law_987 ?_
  refine w_Mi (As := [.int (lx xs i 1), .int (lx xs i 2)]) (rest := [.int (g_cyclesIf2 Z (lx xs i 1) (lx xs i 2))]) ⟨hx, hb, hml, hown, hts⟩ (ct_X7_cyclesIf l D am (ca 0) hM N A P X (lx xs i 1) (lx xs i 2) B hV.1.2.2.2 (by omega)) (cwV 2 hts gL_law_X7_cyclesIf rfl rfl rfl (by decide +kernel) ⟨Nat.le_of_ble_eq_true rfl, Nat.le_of_ble_eq_true rfl⟩) hKm hP hQ hS hzm hd (va_recv (ci := 7) hKm hQ rfl mG_O) rfl hl.1 rfl (Nat.le_of_ble_eq_true rfl) dL_law_988 hf (fun H locs hP hQ hS => ?_)
  refine lv_icmp_eq (tgt := 1032) hx hb dL_law_991 (by decide) (fun _ => ?_) (fun c9 => absurd (ah_cyclesIf hV (by omega) A (lx xs i 1) (lx xs i 2)).1 c9)
  exact kk _ _ _ _ _ _ _ _ (iv_up (ah_cyclesIf hV (by omega) A (lx xs i 1) (lx xs i 2)).2 (by omega) (by omega)) hP hQ hS hl
set_option maxHeartbeats 4000000 in
set_option maxRecDepth 100000 in
theorem cs_bestLend (X0 : LX p s m c b L xs D a ca am qs qv) (hi : i + 4 ≤ L) (hB : B + 700 < 1000000) (hV : IV B Z N P X) (hl : lv_has ls 8 [(0, .ref b), (1, .ref (a 114)), (2, .ref (am 0)), (3, .int (nI i))]) (hP : va_P D vwCl (zW a ca Z) H) (hQ : va_P D vwCl (mW am (ca 0) (N, A, P, X)) H) (hS : va_S (lA s) s.heap H locs) (hf : cells ≤ room_1.cells ∧ slots ≤ room_1.slots) (kk : LK p l e s m below meth c cells slots Q D a am ca b i B) : W p l e room_1 s m #[Value.ref b] below meth c H locs cells slots Q (F0 m 996 ls []) := by
  obtain ⟨hx, hb, hml, hown, hts, hX, hbl, hL, hJ, hM, hK, hKm, hE, hz, hzm, hd⟩ := X0
  have hX0 : zIn (X 0 0) 5 := by
    rw [hV.2.2.1.2.2.1]
    exact hV.2.2.1.2.1
  refine lv_aload_n hx hb dL_law_996 rfl (lv_at hl 1 rfl) ?_
  refine w_Zi (As := []) (rest := []) ⟨hx, hb, hml, hown, hts⟩ (ct_bestLend2 l D a ca hJ Z  hV.1.2.1 hV.2.1) (cwV 0 hts gL_law_X6_bestLend rfl rfl rfl (by decide +kernel) ⟨Nat.le_of_ble_eq_true rfl, Nat.le_of_ble_eq_true rfl⟩) hK hP hQ hS hz hd (va_recv (ci := 6) hK.1 hP rfl zW_b) rfl hl.1 rfl (Nat.le_of_ble_eq_true rfl) dL_law_997 hf (fun H locs hP hQ hS => ?_)
  refine lv_aload_n hx hb dL_law_1000 rfl (lv_at hl 2 rfl) ?_
  refine w_Mi (As := []) (rest := [.int (g_bestLend2 Z)]) ⟨hx, hb, hml, hown, hts⟩ (ct_X7_bestLend l D am (ca 0) hM N A P X B hV.1.2.2.2 (by omega)) (cwV 0 hts gL_law_X7_bestLend rfl rfl rfl (by decide +kernel) ⟨Nat.le_of_ble_eq_true rfl, Nat.le_of_ble_eq_true rfl⟩) hKm hP hQ hS hzm hd (va_recv (ci := 7) hKm hQ rfl mG_O) rfl hl.1 rfl (Nat.le_of_ble_eq_true rfl) dL_law_1001 hf (fun H locs hP hQ hS => ?_)
  refine lv_icmp_eq (tgt := 1032) hx hb dL_law_1004 (by decide) (fun _ => ?_) (fun c9 => absurd (ah_bestLend hV (by omega) A).1 c9)
  exact kk _ _ _ _ _ _ _ _ (iv_up (ah_bestLend hV (by omega) A).2 (by omega) (by omega)) hP hQ hS hl
set_option maxHeartbeats 4000000 in
set_option maxRecDepth 100000 in
theorem cs_finalWord (X0 : LX p s m c b L xs D a ca am qs qv) (hi : i + 4 ≤ L) (hB : B + 700 < 1000000) (hV : IV B Z N P X) (hl : lv_has ls 8 [(0, .ref b), (1, .ref (a 114)), (2, .ref (am 0)), (3, .int (nI i))]) (hP : va_P D vwCl (zW a ca Z) H) (hQ : va_P D vwCl (mW am (ca 0) (N, A, P, X)) H) (hS : va_S (lA s) s.heap H locs) (hf : cells ≤ room_1.cells ∧ slots ≤ room_1.slots) (kk : LK p l e s m below meth c cells slots Q D a am ca b i B) : W p l e room_1 s m #[Value.ref b] below meth c H locs cells slots Q (F0 m 1009 ls []) := by
  obtain ⟨hx, hb, hml, hown, hts, hX, hbl, hL, hJ, hM, hK, hKm, hE, hz, hzm, hd⟩ := X0
  have hX0 : zIn (X 0 0) 5 := by
    rw [hV.2.2.1.2.2.1]
    exact hV.2.2.1.2.1
  refine lv_aload_n hx hb dL_law_1009 rfl (lv_at hl 1 rfl) ?_
  refine lw_arg hx hb hX hbl hS (lv_at hl 0 rfl) (lv_at hl 3 rfl) (by omega) hL dL_law_1010 dL_law_1011 dL_law_1012 (k := 1) (by decide) dL_law_1013 dL_law_1014 ?_
  refine w_Zi (As := [.int (lx xs i 1)]) (rest := []) ⟨hx, hb, hml, hown, hts⟩ (ct_finalWord2 l D a ca hJ Z (lx xs i 1) hV.1.2.1 hV.2.1) (cwV 1 hts gL_law_X6_finalWord rfl rfl rfl (by decide +kernel) ⟨Nat.le_of_ble_eq_true rfl, Nat.le_of_ble_eq_true rfl⟩) hK hP hQ hS hz hd (va_recv (ci := 6) hK.1 hP rfl zW_b) rfl hl.1 rfl (Nat.le_of_ble_eq_true rfl) dL_law_1015 hf (fun H locs hP hQ hS => ?_)
  refine lv_aload_n hx hb dL_law_1018 rfl (lv_at hl 2 rfl) ?_
  refine lw_arg hx hb hX hbl hS (lv_at hl 0 rfl) (lv_at hl 3 rfl) (by omega) hL dL_law_1019 dL_law_1020 dL_law_1021 (k := 1) (by decide) dL_law_1022 dL_law_1023 ?_
  refine w_Mi (As := [.int (lx xs i 1)]) (rest := [.int (g_finalWord2 Z (lx xs i 1))]) ⟨hx, hb, hml, hown, hts⟩ (ct_X7_finalWord l D am (ca 0) hM N A P X (lx xs i 1) B hV.1.2.2.2 (by omega)) (cwV 1 hts gL_law_X7_finalWord rfl rfl rfl (by decide +kernel) ⟨Nat.le_of_ble_eq_true rfl, Nat.le_of_ble_eq_true rfl⟩) hKm hP hQ hS hzm hd (va_recv (ci := 7) hKm hQ rfl mG_O) rfl hl.1 rfl (Nat.le_of_ble_eq_true rfl) dL_law_1024 hf (fun H locs hP hQ hS => ?_)
  refine lv_icmp_eq (tgt := 1032) hx hb dL_law_1027 (by decide) (fun _ => ?_) (fun c9 => absurd (ah_finalWord hV (by omega) A (lx xs i 1)).1 c9)
  exact kk _ _ _ _ _ _ _ _ (iv_up (ah_finalWord hV (by omega) A (lx xs i 1)).2 (by omega) (by omega)) hP hQ hS hl
end LC
