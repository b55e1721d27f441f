/-! counters, the trace and states hang together: the walk -/
theorem sh_lo {v : Int32} (h : shq v) : ¬ v < (-32768) := by
  rw [Int32.lt_iff_toInt_lt, show ((-32768 : Int32)).toInt = -32768 from by decide]
  have := h.1
  omega
theorem sh_hi {v : Int32} (h : shq v) : ¬ nI 32767 < v := by
  rw [Int32.lt_iff_toInt_lt, show (nI 32767).toInt = 32767 from by decide]
  have := h.2
  omega
theorem pos_in {x : Int32} {n : Nat} (h : zIn x n) (h0 : ¬ x = 0) : ¬ x ≤ 0 := by
  have k : 0 < zc x := Nat.pos_of_ne_zero (fun q => h0 (by rw [h.2, q]; rfl))
  rw [h.2]
  exact nI_nle k (Int32.toNatClampNeg_lt _)
theorem rem_8 {x : Int32} {n : Nat} (h : zIn x n) : x - x / nI 8 * nI 8 = nI (zc x % 8) := by
  have k := pk_rem (a := zc x) (d := 8) (Int32.toNatClampNeg_lt _) (by decide) (by decide)
  rw [← h.2] at k
  exact k
theorem mn_hi {q e : Nat} (h : q = (if e < 16 then e else 16)) (c : nI 16 ≤ nI e) (he : e < 2 ^ 31) : nI 16 = nI q := by
  have k : 16 ≤ e := (nI_leI (by decide) he).mp c
  rw [h, if_neg (by omega)]
theorem mn_lo {q e : Nat} (h : q = (if e < 16 then e else 16)) (c : ¬ nI 16 ≤ nI e) (he : e < 2 ^ 31) : nI e = nI q := by
  by_cases k : e < 16
  · rw [h, if_pos k]
  · exact absurd (nI_le (by omega) he) c
theorem br_ov {M : zM} {ov br : Int32} (h : rdP M (nI 3) 4 br) (c : ¬ br = 0) (ho : ovP M 4 ov) : ov = 0 := by
  obtain ⟨t, ht, e⟩ := rd_any h c
  rcases ho with ⟨-, h2⟩ | ⟨h1, -⟩
  · rw [h2 t ht] at e
    exact absurd e (by decide)
  · exact h1
theorem nx_le {M : zM} (h : M 15 1 = nI 1 ∨ M 15 1 = nI 2 → ∀ t, t < 4 → ¬ q_rdy M t) (hl : zIn (M 15 1) 3) {w : Int32} (hr : rdP M (nI 1) 4 w) (c : ¬ w = 0) (c2 : ¬ M 15 1 = 0) : False := by
  obtain ⟨t, ht, e⟩ := rd_any hr c
  have h3 := hl.1
  have h4 := hl.2
  have l12 : M 15 1 = nI 1 ∨ M 15 1 = nI 2 := by
    have q : zc (M 15 1) = 0 ∨ zc (M 15 1) = 1 ∨ zc (M 15 1) = 2 := by omega
    rcases q with q | q | q
    · rw [q] at h4
      exact absurd h4 c2
    · rw [q] at h4
      exact Or.inl h4
    · rw [q] at h4
      exact Or.inr h4
  exact h l12 t ht (Or.inl e)
theorem fi_own {M : zM} (hs : ∀ k, k < 8 → zIn (M 14 k) 4) (hc : zIn (M 16 0) (2 ^ 31)) : ∃ o, o < 4 ∧ M 14 (zc (M 16 0) % 8) = nI o ∧ ((g_X3_findIssuer M = (-100005) ∧ ¬ q_rdy M o ∧ (M 15 1 = nI 1 ∨ M 15 1 = nI 2 → ∀ t, t < 4 → ¬ q_rdy M t)) ∨ ∃ t, t < 4 ∧ g_X3_findIssuer M = nI t ∧ q_rdy M t ∧ (q_rdy M o → nI t = nI o)) := by
  have ho := hs (zc (M 16 0) % 8) (Nat.mod_lt _ (by decide))
  refine ⟨_, ho.1, ho.2, ?_⟩
  rcases fi_all hs hc with h | ⟨t, h1, h2, h3, h4⟩
  · exact Or.inl h
  · exact Or.inr ⟨t, h1, h2, h3, fun q => (h4 q).trans ho.2⟩
theorem tr_lt {M : zM} {B k : Nat} {last : Int32} (t1 : zIn (M 16 0) (B + 1)) (t7 : ∀ ago, ago < zc (M 18 1) → zIn (tr M ago 0) (B + 1) ∧ zIn (tr M ago 1) 4 ∧ zIn (tr M ago 2) 49 ∧ zc (tr M ago 0) < (if ago = 0 then zc (M 16 0) else zc (tr M (ago - 1) 0))) (hk : k < zc (M 18 1)) (el : last = (if k = 0 then M 16 0 else tr M (k - 1) 0)) : ¬ last ≤ tr M k 0 := by
  obtain ⟨r0, -, -, r3⟩ := t7 k hk
  rw [el, r0.2]
  by_cases c : k = 0
  · rw [if_pos c] at r3 ⊢
    rw [t1.2]
    exact nI_ge r3 (Int32.toNatClampNeg_lt _)
  · rw [if_neg c] at r3 ⊢
    have p := (t7 (k - 1) (by omega)).1
    rw [p.2]
    exact nI_ge r3 (Int32.toNatClampNeg_lt _)
set_option maxHeartbeats 8000000 in
set_option maxRecDepth 100000 in
theorem ct_L_hangs (l : Launch) (D : va_G) (a : Nat → Nat) (ca : Nat → ClassId) (hJ : zJ a) (qs qv : Nat) (Z : Nat → zM) (M : zM) (B : Nat) (hM : Z 0 = M) (hB : B < 2 ^ 24) (hm : mOK B M) (hXR : ∀ k, k < 6 → xR (Z k)) : hTi l yL_hangs wsL_hangs ({ frames := 7, cells := 0, slots := 0, locals := 159 } : Room) D a ca qs qv [.ref (a 114)] Z := by
  refine h_ofi (cc := cL_hangs) (maxL := 16) (own := RL) (by decide) rfl (Nat.le_of_ble_eq_true rfl) rfl (fun p e s m below meth c ls hx hb hr hml hts hown hlk hl hK hE hP hS => ?_)
  have hl : lv_has ls 16 [(0, .ref (a 114))] := hl
  obtain ⟨s0, s1, s2, s3, s4, ⟨s50, s51⟩, s6, s7, s8⟩ := id hm.1
  obtain ⟨t1, t2, t3, t4, t5, ⟨t60, t61, t62⟩, t7⟩ := id hm.2.1
  have b1 := t1.1
  have b18 := t61.1
  have e31 : sxf (M 6) < 2 ^ 31 := by omega
  have hz : zOK (Z 0) := by
    rw [hM]
    exact s8
  have lp3 : ∀ (n k : Nat) (T : zM) (ov br : Int32) (H : Heap) (locs : List Loc) (ls : Array Slot) (hn : k + n = 48) (hT : xR T) (hov : ovP M 4 ov) (hbr : rdP M (nI 3) 4 br) (hl : lv_has ls 16 [(14, .int (nI k)), (7, .int (nI 1)), (6, .int br), (4, .int ov), (0, .ref (a 114))]) (hP : va_P D vwCl (zW a ca (va_up Z 1 T)) H) (hS : va_S (zA a) s.heap H locs), W p l e ({ frames := 7, cells := 0, slots := 0, locals := 159 } : Room) s m ([.ref (a 114)] : List Value).toArray below meth c H locs 0 0 (hQi below D a ca [.ref (a 114)] s Z) (F0 m 654 ls []) := by
    intro n
    induction n with
    | zero =>
      intro k T ov br H locs ls hn hT hov hbr hl hP hS
      refine lv_iload hx hb dL_hangs_654 (lv_at hl 0 rfl) ?_
      refine lv_bipush (v := nI 48) hx hb dL_hangs_656 (by decide) ?_
      refine lv_icmp_ge (tgt := 789) hx hb dL_hangs_658 (by decide) (fun _ => ?_) (fun c658_1 => absurd (nI_le (by omega) (by omega)) c658_1)
      refine lv_iload hx hb dL_hangs_789 (lv_at hl 1 rfl) ?_
      refine lv_if_eq (tgt := 808) hx hb dL_hangs_791 (by decide) (fun c791_2 => absurd c791_2 (by decide)) (fun _ => ?_)
      refine lv_iload hx hb dL_hangs_794 (lv_at hl 2 rfl) ?_
      refine lv_if_eq (tgt := 804) hx hb dL_hangs_796 (by decide) (fun c796_3 => ?_) (fun c796_3 => ?_)
      · refine lv_iconst (v := nI 1) hx hb dL_hangs_804 (by decide) ?_
        refine lv_goto (tgt := 809) hx hb dL_hangs_805 (by decide) ?_
        exact h_reti hx hb hr hlk (by first | rfl | decide) hP hS dL_hangs_809 rfl hT rfl
      · refine lv_iload hx hb dL_hangs_799 (lv_at hl 3 rfl) ?_
        refine lv_if_ne (tgt := 808) hx hb dL_hangs_801 (by decide) (fun c801_4 => absurd (br_ov hbr c796_3 hov) c801_4) (fun _ => ?_)
        refine lv_iconst (v := nI 1) hx hb dL_hangs_804 (by decide) ?_
        refine lv_goto (tgt := 809) hx hb dL_hangs_805 (by decide) ?_
        exact h_reti hx hb hr hlk (by first | rfl | decide) hP hS dL_hangs_809 rfl hT rfl
    | succ n ih =>
      intro k T ov br H locs ls hn hT hov hbr hl hP hS
      have hMT : (va_up Z 1 T) 0 = M := tz_n0.trans hM
      obtain ⟨g1, g2, g3, -, -, -⟩ := s6 k (by omega)
      by_cases h9 : 9 < zc (M 10 k)
      · have o9 : ¬ M 10 k ≤ nI 9 := by
          rw [g1.2]
          exact nI_ge h9 (Int32.toNatClampNeg_lt _)
        refine lv_iload hx hb dL_hangs_654 (lv_at hl 0 rfl) ?_
        refine lv_bipush (v := nI 48) hx hb dL_hangs_656 (by decide) ?_
        refine lv_icmp_ge (tgt := 789) hx hb dL_hangs_658 (by decide) (fun c658_1 => absurd c658_1 (nI_ge (show k < 48 by omega) (by decide))) (fun _ => ?_)
        refine lv_iload hx hb dL_hangs_661 (lv_at hl 1 rfl) ?_
        refine lv_if_eq (tgt := 789) hx hb dL_hangs_663 (by decide) (fun c663_2 => absurd c663_2 (by decide)) (fun _ => ?_)
        refine lv_aload_n hx hb dL_hangs_666 rfl (lv_at hl 4 rfl) ?_
        refine lv_iload hx hb dL_hangs_667 (lv_at hl 0 rfl) ?_
        have k669 := ct_X6_operation l D a ca hJ (va_up Z 1 T) (nI k)
        rw [gs_operation hMT (show k < 48 by omega)] at k669
        refine z_cVi (As := [.int (nI k)]) (rest := []) ⟨hx, hb, hml, hown, hts⟩ (k669) (cwV 1 hts gL_hangs_X6_operation rfl rfl rfl (by decide +kernel) ⟨Nat.le_of_ble_eq_true rfl, Nat.le_of_ble_eq_true rfl⟩) hK hP hS (va_recv (ci := 6) hK.1 hP rfl zW_b) rfl hl.1 rfl (Nat.le_of_ble_eq_true rfl) dL_hangs_669 ⟨Nat.zero_le _, Nat.zero_le _⟩ (fun H locs hP hS => ?_)
        refine lv_istore (lv' := [(15, .int (M 10 k)), (14, .int (nI k)), (7, .int (nI 1)), (6, .int br), (4, .int ov), (0, .ref (a 114))]) hx hb dL_hangs_672 hl (by decide) rfl (fun ls hl => ?_)
        refine lv_iload hx hb dL_hangs_674 (lv_at hl 0 rfl) ?_
        refine lv_if_lt (tgt := 780) hx hb dL_hangs_676 (by decide) (fun c676_3 => absurd c676_3 (nn_in g1)) (fun _ => ?_)
        refine lv_iload hx hb dL_hangs_679 (lv_at hl 0 rfl) ?_
        refine lv_bipush (v := nI 12) hx hb dL_hangs_681 (by decide) ?_
        refine lv_icmp_ge (tgt := 780) hx hb dL_hangs_683 (by decide) (fun c683_4 => absurd c683_4 (ng_in g1 (by decide))) (fun _ => ?_)
        refine lv_aload_n hx hb dL_hangs_686 rfl (lv_at hl 5 rfl) ?_
        refine lv_iload hx hb dL_hangs_687 (lv_at hl 1 rfl) ?_
        refine lv_iconst (v := nI 0) hx hb dL_hangs_689 (by decide) ?_
        have k690 := ct_X6_operand l D a ca hJ (va_up Z 1 T) (nI k) (nI 0)
        rw [gs_operand0 hMT (show k < 48 by omega)] at k690
        refine z_cVi (As := [.int (nI k), .int (nI 0)]) (rest := []) ⟨hx, hb, hml, hown, hts⟩ (k690) (cwV 2 hts gL_hangs_X6_operand rfl rfl rfl (by decide +kernel) ⟨Nat.le_of_ble_eq_true rfl, Nat.le_of_ble_eq_true rfl⟩) hK hP hS (va_recv (ci := 6) hK.1 hP rfl zW_b) rfl hl.1 rfl (Nat.le_of_ble_eq_true rfl) dL_hangs_690 ⟨Nat.zero_le _, Nat.zero_le _⟩ (fun H locs hP hS => ?_)
        refine lv_ldc (v := (-100005)) hx hb hown (hts (.constant RL 102 (-100005)) (by decide +kernel)) dL_hangs_693 ?_
        refine lv_icmp_ne (tgt := 702) hx hb dL_hangs_695 (by decide) (fun c695_5 => absurd (g2.mpr h9) c695_5) (fun _ => ?_)
        refine lv_iconst (v := nI 1) hx hb dL_hangs_698 (by decide) ?_
        refine lv_goto (tgt := 703) hx hb dL_hangs_699 (by decide) ?_
        refine lv_iload hx hb dL_hangs_703 (lv_at hl 0 rfl) ?_
        refine lv_bipush (v := nI 9) hx hb dL_hangs_705 (by decide) ?_
        refine lv_icmp_le (tgt := 714) hx hb dL_hangs_707 (by decide) (fun c707_6 => absurd c707_6 o9) (fun _ => ?_)
        refine lv_iconst (v := nI 1) hx hb dL_hangs_710 (by decide) ?_
        refine lv_goto (tgt := 715) hx hb dL_hangs_711 (by decide) ?_
        refine lv_icmp_ne (tgt := 780) hx hb dL_hangs_715 (by decide) (fun c715_7 => absurd (by decide) c715_7) (fun _ => ?_)
        refine lv_aload_n hx hb dL_hangs_718 rfl (lv_at hl 5 rfl) ?_
        refine lv_iload hx hb dL_hangs_719 (lv_at hl 1 rfl) ?_
        refine lv_iconst (v := nI 1) hx hb dL_hangs_721 (by decide) ?_
        have k722 := ct_X6_operand l D a ca hJ (va_up Z 1 T) (nI k) (nI 1)
        rw [gs_operand1 hMT (show k < 48 by omega)] at k722
        refine z_cVi (As := [.int (nI k), .int (nI 1)]) (rest := []) ⟨hx, hb, hml, hown, hts⟩ (k722) (cwV 2 hts gL_hangs_X6_operand rfl rfl rfl (by decide +kernel) ⟨Nat.le_of_ble_eq_true rfl, Nat.le_of_ble_eq_true rfl⟩) hK hP hS (va_recv (ci := 6) hK.1 hP rfl zW_b) rfl hl.1 rfl (Nat.le_of_ble_eq_true rfl) dL_hangs_722 ⟨Nat.zero_le _, Nat.zero_le _⟩ (fun H locs hP hS => ?_)
        refine lv_ldc (v := (-100005)) hx hb hown (hts (.constant RL 102 (-100005)) (by decide +kernel)) dL_hangs_725 ?_
        refine lv_icmp_ne (tgt := 734) hx hb dL_hangs_727 (by decide) (fun c727_8 => absurd (g3.mpr (Or.inl h9)) c727_8) (fun _ => ?_)
        refine lv_iconst (v := nI 1) hx hb dL_hangs_730 (by decide) ?_
        refine lv_goto (tgt := 735) hx hb dL_hangs_731 (by decide) ?_
        refine lv_iload hx hb dL_hangs_735 (lv_at hl 0 rfl) ?_
        refine lv_bipush (v := nI 9) hx hb dL_hangs_737 (by decide) ?_
        refine lv_icmp_gt (tgt := 749) hx hb dL_hangs_739 (by decide) (fun _ => ?_) (fun c739_9 => absurd (Int32.not_le.mp o9) c739_9)
        refine lv_iconst (v := nI 1) hx hb dL_hangs_749 (by decide) ?_
        refine lv_goto (tgt := 754) hx hb dL_hangs_750 (by decide) ?_
        refine lv_icmp_ne (tgt := 780) hx hb dL_hangs_754 (by decide) (fun c754_10 => absurd (by decide) c754_10) (fun _ => ?_)
        refine lv_aload_n hx hb dL_hangs_757 rfl (lv_at hl 5 rfl) ?_
        refine lv_iload hx hb dL_hangs_758 (lv_at hl 1 rfl) ?_
        have k760 := ct_X6_breakpoint l D a ca hJ (va_up Z 1 T) (nI k)
        rw [gs_breakpoint hMT (show k < 48 by omega)] at k760
        refine z_cVi (As := [.int (nI k)]) (rest := []) ⟨hx, hb, hml, hown, hts⟩ (k760) (cwV 1 hts gL_hangs_X6_breakpoint rfl rfl rfl (by decide +kernel) ⟨Nat.le_of_ble_eq_true rfl, Nat.le_of_ble_eq_true rfl⟩) hK hP hS (va_recv (ci := 6) hK.1 hP rfl zW_b) rfl hl.1 rfl (Nat.le_of_ble_eq_true rfl) dL_hangs_760 ⟨Nat.zero_le _, Nat.zero_le _⟩ (fun H locs hP hS => ?_)
        refine lv_if_lt (tgt := 780) hx hb dL_hangs_763 (by decide) (fun c763_11 => absurd c763_11 (nn_in (s7 k (by omega)))) (fun _ => ?_)
        refine lv_aload_n hx hb dL_hangs_766 rfl (lv_at hl 5 rfl) ?_
        refine lv_iload hx hb dL_hangs_767 (lv_at hl 1 rfl) ?_
        have k769 := ct_X6_breakpoint l D a ca hJ (va_up Z 1 T) (nI k)
        rw [gs_breakpoint hMT (show k < 48 by omega)] at k769
        refine z_cVi (As := [.int (nI k)]) (rest := []) ⟨hx, hb, hml, hown, hts⟩ (k769) (cwV 1 hts gL_hangs_X6_breakpoint rfl rfl rfl (by decide +kernel) ⟨Nat.le_of_ble_eq_true rfl, Nat.le_of_ble_eq_true rfl⟩) hK hP hS (va_recv (ci := 6) hK.1 hP rfl zW_b) rfl hl.1 rfl (Nat.le_of_ble_eq_true rfl) dL_hangs_769 ⟨Nat.zero_le _, Nat.zero_le _⟩ (fun H locs hP hS => ?_)
        refine lv_iconst (v := nI 2) hx hb dL_hangs_772 (by decide) ?_
        refine lv_icmp_ge (tgt := 780) hx hb dL_hangs_773 (by decide) (fun c773_12 => absurd c773_12 (ng_in (s7 k (by omega)) (by decide))) (fun _ => ?_)
        refine lv_iconst (v := nI 1) hx hb dL_hangs_776 (by decide) ?_
        refine lv_goto (tgt := 781) hx hb dL_hangs_777 (by decide) ?_
        refine lv_istore (lv' := [(7, .int (nI 1)), (15, .int (M 10 k)), (14, .int (nI k)), (6, .int br), (4, .int ov), (0, .ref (a 114))]) hx hb dL_hangs_781 hl (by decide) rfl (fun ls hl => ?_)
        refine lv_iinc (v := nI (k + 1)) (lv' := [(14, .int (nI (k + 1))), (7, .int (nI 1)), (15, .int (M 10 k)), (6, .int br), (4, .int ov), (0, .ref (a 114))]) hx hb dL_hangs_783 hl (k := 2) rfl (nI_add _ _) (by decide) rfl (fun ls hl => ?_)
        refine lv_goto (tgt := 654) hx hb dL_hangs_786 (by decide) ?_
        exact ih (k + 1) T ov br _ _ _ (by omega) hT hov hbr (lv_sub hl [0, 1, 3, 4, 5] rfl) hP hS
      · have o9 : M 10 k ≤ nI 9 := by
          rw [g1.2]
          exact nI_le (by omega) (by decide)
        by_cases h7 : zc (M 10 k) = 7
        · have o7 : M 10 k = nI 7 := by rw [g1.2, h7]
          refine lv_iload hx hb dL_hangs_654 (lv_at hl 0 rfl) ?_
          refine lv_bipush (v := nI 48) hx hb dL_hangs_656 (by decide) ?_
          refine lv_icmp_ge (tgt := 789) hx hb dL_hangs_658 (by decide) (fun c658_1 => absurd c658_1 (nI_ge (show k < 48 by omega) (by decide))) (fun _ => ?_)
          refine lv_iload hx hb dL_hangs_661 (lv_at hl 1 rfl) ?_
          refine lv_if_eq (tgt := 789) hx hb dL_hangs_663 (by decide) (fun c663_2 => absurd c663_2 (by decide)) (fun _ => ?_)
          refine lv_aload_n hx hb dL_hangs_666 rfl (lv_at hl 4 rfl) ?_
          refine lv_iload hx hb dL_hangs_667 (lv_at hl 0 rfl) ?_
          have k669 := ct_X6_operation l D a ca hJ (va_up Z 1 T) (nI k)
          rw [gs_operation hMT (show k < 48 by omega)] at k669
          refine z_cVi (As := [.int (nI k)]) (rest := []) ⟨hx, hb, hml, hown, hts⟩ (k669) (cwV 1 hts gL_hangs_X6_operation rfl rfl rfl (by decide +kernel) ⟨Nat.le_of_ble_eq_true rfl, Nat.le_of_ble_eq_true rfl⟩) hK hP hS (va_recv (ci := 6) hK.1 hP rfl zW_b) rfl hl.1 rfl (Nat.le_of_ble_eq_true rfl) dL_hangs_669 ⟨Nat.zero_le _, Nat.zero_le _⟩ (fun H locs hP hS => ?_)
          refine lv_istore (lv' := [(15, .int (M 10 k)), (14, .int (nI k)), (7, .int (nI 1)), (6, .int br), (4, .int ov), (0, .ref (a 114))]) hx hb dL_hangs_672 hl (by decide) rfl (fun ls hl => ?_)
          refine lv_iload hx hb dL_hangs_674 (lv_at hl 0 rfl) ?_
          refine lv_if_lt (tgt := 780) hx hb dL_hangs_676 (by decide) (fun c676_3 => absurd c676_3 (nn_in g1)) (fun _ => ?_)
          refine lv_iload hx hb dL_hangs_679 (lv_at hl 0 rfl) ?_
          refine lv_bipush (v := nI 12) hx hb dL_hangs_681 (by decide) ?_
          refine lv_icmp_ge (tgt := 780) hx hb dL_hangs_683 (by decide) (fun c683_4 => absurd c683_4 (ng_in g1 (by decide))) (fun _ => ?_)
          refine lv_aload_n hx hb dL_hangs_686 rfl (lv_at hl 5 rfl) ?_
          refine lv_iload hx hb dL_hangs_687 (lv_at hl 1 rfl) ?_
          refine lv_iconst (v := nI 0) hx hb dL_hangs_689 (by decide) ?_
          have k690 := ct_X6_operand l D a ca hJ (va_up Z 1 T) (nI k) (nI 0)
          rw [gs_operand0 hMT (show k < 48 by omega)] at k690
          refine z_cVi (As := [.int (nI k), .int (nI 0)]) (rest := []) ⟨hx, hb, hml, hown, hts⟩ (k690) (cwV 2 hts gL_hangs_X6_operand rfl rfl rfl (by decide +kernel) ⟨Nat.le_of_ble_eq_true rfl, Nat.le_of_ble_eq_true rfl⟩) hK hP hS (va_recv (ci := 6) hK.1 hP rfl zW_b) rfl hl.1 rfl (Nat.le_of_ble_eq_true rfl) dL_hangs_690 ⟨Nat.zero_le _, Nat.zero_le _⟩ (fun H locs hP hS => ?_)
          refine lv_ldc (v := (-100005)) hx hb hown (hts (.constant RL 102 (-100005)) (by decide +kernel)) dL_hangs_693 ?_
          refine lv_icmp_ne (tgt := 702) hx hb dL_hangs_695 (by decide) (fun _ => ?_) (fun c695_5 => absurd c695_5 (fun q => h9 (g2.mp q)))
          refine lv_iconst (v := nI 0) hx hb dL_hangs_702 (by decide) ?_
          refine lv_iload hx hb dL_hangs_703 (lv_at hl 0 rfl) ?_
          refine lv_bipush (v := nI 9) hx hb dL_hangs_705 (by decide) ?_
          refine lv_icmp_le (tgt := 714) hx hb dL_hangs_707 (by decide) (fun _ => ?_) (fun c707_6 => absurd o9 c707_6)
          refine lv_iconst (v := nI 0) hx hb dL_hangs_714 (by decide) ?_
          refine lv_icmp_ne (tgt := 780) hx hb dL_hangs_715 (by decide) (fun c715_7 => absurd (by decide) c715_7) (fun _ => ?_)
          refine lv_aload_n hx hb dL_hangs_718 rfl (lv_at hl 5 rfl) ?_
          refine lv_iload hx hb dL_hangs_719 (lv_at hl 1 rfl) ?_
          refine lv_iconst (v := nI 1) hx hb dL_hangs_721 (by decide) ?_
          have k722 := ct_X6_operand l D a ca hJ (va_up Z 1 T) (nI k) (nI 1)
          rw [gs_operand1 hMT (show k < 48 by omega)] at k722
          refine z_cVi (As := [.int (nI k), .int (nI 1)]) (rest := []) ⟨hx, hb, hml, hown, hts⟩ (k722) (cwV 2 hts gL_hangs_X6_operand rfl rfl rfl (by decide +kernel) ⟨Nat.le_of_ble_eq_true rfl, Nat.le_of_ble_eq_true rfl⟩) hK hP hS (va_recv (ci := 6) hK.1 hP rfl zW_b) rfl hl.1 rfl (Nat.le_of_ble_eq_true rfl) dL_hangs_722 ⟨Nat.zero_le _, Nat.zero_le _⟩ (fun H locs hP hS => ?_)
          refine lv_ldc (v := (-100005)) hx hb hown (hts (.constant RL 102 (-100005)) (by decide +kernel)) dL_hangs_725 ?_
          refine lv_icmp_ne (tgt := 734) hx hb dL_hangs_727 (by decide) (fun c727_8 => absurd (g3.mpr (Or.inr h7)) c727_8) (fun _ => ?_)
          refine lv_iconst (v := nI 1) hx hb dL_hangs_730 (by decide) ?_
          refine lv_goto (tgt := 735) hx hb dL_hangs_731 (by decide) ?_
          refine lv_iload hx hb dL_hangs_735 (lv_at hl 0 rfl) ?_
          refine lv_bipush (v := nI 9) hx hb dL_hangs_737 (by decide) ?_
          refine lv_icmp_gt (tgt := 749) hx hb dL_hangs_739 (by decide) (fun c739_9 => absurd c739_9 (Int32.not_lt.mpr o9)) (fun _ => ?_)
          refine lv_iload hx hb dL_hangs_742 (lv_at hl 0 rfl) ?_
          refine lv_bipush (v := nI 7) hx hb dL_hangs_744 (by decide) ?_
          refine lv_icmp_ne (tgt := 753) hx hb dL_hangs_746 (by decide) (fun c746_10 => absurd o7 c746_10) (fun _ => ?_)
          refine lv_iconst (v := nI 1) hx hb dL_hangs_749 (by decide) ?_
          refine lv_goto (tgt := 754) hx hb dL_hangs_750 (by decide) ?_
          refine lv_icmp_ne (tgt := 780) hx hb dL_hangs_754 (by decide) (fun c754_11 => absurd (by decide) c754_11) (fun _ => ?_)
          refine lv_aload_n hx hb dL_hangs_757 rfl (lv_at hl 5 rfl) ?_
          refine lv_iload hx hb dL_hangs_758 (lv_at hl 1 rfl) ?_
          have k760 := ct_X6_breakpoint l D a ca hJ (va_up Z 1 T) (nI k)
          rw [gs_breakpoint hMT (show k < 48 by omega)] at k760
          refine z_cVi (As := [.int (nI k)]) (rest := []) ⟨hx, hb, hml, hown, hts⟩ (k760) (cwV 1 hts gL_hangs_X6_breakpoint rfl rfl rfl (by decide +kernel) ⟨Nat.le_of_ble_eq_true rfl, Nat.le_of_ble_eq_true rfl⟩) hK hP hS (va_recv (ci := 6) hK.1 hP rfl zW_b) rfl hl.1 rfl (Nat.le_of_ble_eq_true rfl) dL_hangs_760 ⟨Nat.zero_le _, Nat.zero_le _⟩ (fun H locs hP hS => ?_)
          refine lv_if_lt (tgt := 780) hx hb dL_hangs_763 (by decide) (fun c763_12 => absurd c763_12 (nn_in (s7 k (by omega)))) (fun _ => ?_)
          refine lv_aload_n hx hb dL_hangs_766 rfl (lv_at hl 5 rfl) ?_
          refine lv_iload hx hb dL_hangs_767 (lv_at hl 1 rfl) ?_
          have k769 := ct_X6_breakpoint l D a ca hJ (va_up Z 1 T) (nI k)
          rw [gs_breakpoint hMT (show k < 48 by omega)] at k769
          refine z_cVi (As := [.int (nI k)]) (rest := []) ⟨hx, hb, hml, hown, hts⟩ (k769) (cwV 1 hts gL_hangs_X6_breakpoint rfl rfl rfl (by decide +kernel) ⟨Nat.le_of_ble_eq_true rfl, Nat.le_of_ble_eq_true rfl⟩) hK hP hS (va_recv (ci := 6) hK.1 hP rfl zW_b) rfl hl.1 rfl (Nat.le_of_ble_eq_true rfl) dL_hangs_769 ⟨Nat.zero_le _, Nat.zero_le _⟩ (fun H locs hP hS => ?_)
          refine lv_iconst (v := nI 2) hx hb dL_hangs_772 (by decide) ?_
          refine lv_icmp_ge (tgt := 780) hx hb dL_hangs_773 (by decide) (fun c773_13 => absurd c773_13 (ng_in (s7 k (by omega)) (by decide))) (fun _ => ?_)
          refine lv_iconst (v := nI 1) hx hb dL_hangs_776 (by decide) ?_
          refine lv_goto (tgt := 781) hx hb dL_hangs_777 (by decide) ?_
          refine lv_istore (lv' := [(7, .int (nI 1)), (15, .int (M 10 k)), (14, .int (nI k)), (6, .int br), (4, .int ov), (0, .ref (a 114))]) hx hb dL_hangs_781 hl (by decide) rfl (fun ls hl => ?_)
          refine lv_iinc (v := nI (k + 1)) (lv' := [(14, .int (nI (k + 1))), (7, .int (nI 1)), (15, .int (M 10 k)), (6, .int br), (4, .int ov), (0, .ref (a 114))]) hx hb dL_hangs_783 hl (k := 2) rfl (nI_add _ _) (by decide) rfl (fun ls hl => ?_)
          refine lv_goto (tgt := 654) hx hb dL_hangs_786 (by decide) ?_
          exact ih (k + 1) T ov br _ _ _ (by omega) hT hov hbr (lv_sub hl [0, 1, 3, 4, 5] rfl) hP hS
        · have o7 : ¬ M 10 k = nI 7 := fun q => h7 (by rw [q]; rfl)
          refine lv_iload hx hb dL_hangs_654 (lv_at hl 0 rfl) ?_
          refine lv_bipush (v := nI 48) hx hb dL_hangs_656 (by decide) ?_
          refine lv_icmp_ge (tgt := 789) hx hb dL_hangs_658 (by decide) (fun c658_1 => absurd c658_1 (nI_ge (show k < 48 by omega) (by decide))) (fun _ => ?_)
          refine lv_iload hx hb dL_hangs_661 (lv_at hl 1 rfl) ?_
          refine lv_if_eq (tgt := 789) hx hb dL_hangs_663 (by decide) (fun c663_2 => absurd c663_2 (by decide)) (fun _ => ?_)
          refine lv_aload_n hx hb dL_hangs_666 rfl (lv_at hl 4 rfl) ?_
          refine lv_iload hx hb dL_hangs_667 (lv_at hl 0 rfl) ?_
          have k669 := ct_X6_operation l D a ca hJ (va_up Z 1 T) (nI k)
          rw [gs_operation hMT (show k < 48 by omega)] at k669
          refine z_cVi (As := [.int (nI k)]) (rest := []) ⟨hx, hb, hml, hown, hts⟩ (k669) (cwV 1 hts gL_hangs_X6_operation rfl rfl rfl (by decide +kernel) ⟨Nat.le_of_ble_eq_true rfl, Nat.le_of_ble_eq_true rfl⟩) hK hP hS (va_recv (ci := 6) hK.1 hP rfl zW_b) rfl hl.1 rfl (Nat.le_of_ble_eq_true rfl) dL_hangs_669 ⟨Nat.zero_le _, Nat.zero_le _⟩ (fun H locs hP hS => ?_)
          refine lv_istore (lv' := [(15, .int (M 10 k)), (14, .int (nI k)), (7, .int (nI 1)), (6, .int br), (4, .int ov), (0, .ref (a 114))]) hx hb dL_hangs_672 hl (by decide) rfl (fun ls hl => ?_)
          refine lv_iload hx hb dL_hangs_674 (lv_at hl 0 rfl) ?_
          refine lv_if_lt (tgt := 780) hx hb dL_hangs_676 (by decide) (fun c676_3 => absurd c676_3 (nn_in g1)) (fun _ => ?_)
          refine lv_iload hx hb dL_hangs_679 (lv_at hl 0 rfl) ?_
          refine lv_bipush (v := nI 12) hx hb dL_hangs_681 (by decide) ?_
          refine lv_icmp_ge (tgt := 780) hx hb dL_hangs_683 (by decide) (fun c683_4 => absurd c683_4 (ng_in g1 (by decide))) (fun _ => ?_)
          refine lv_aload_n hx hb dL_hangs_686 rfl (lv_at hl 5 rfl) ?_
          refine lv_iload hx hb dL_hangs_687 (lv_at hl 1 rfl) ?_
          refine lv_iconst (v := nI 0) hx hb dL_hangs_689 (by decide) ?_
          have k690 := ct_X6_operand l D a ca hJ (va_up Z 1 T) (nI k) (nI 0)
          rw [gs_operand0 hMT (show k < 48 by omega)] at k690
          refine z_cVi (As := [.int (nI k), .int (nI 0)]) (rest := []) ⟨hx, hb, hml, hown, hts⟩ (k690) (cwV 2 hts gL_hangs_X6_operand rfl rfl rfl (by decide +kernel) ⟨Nat.le_of_ble_eq_true rfl, Nat.le_of_ble_eq_true rfl⟩) hK hP hS (va_recv (ci := 6) hK.1 hP rfl zW_b) rfl hl.1 rfl (Nat.le_of_ble_eq_true rfl) dL_hangs_690 ⟨Nat.zero_le _, Nat.zero_le _⟩ (fun H locs hP hS => ?_)
          refine lv_ldc (v := (-100005)) hx hb hown (hts (.constant RL 102 (-100005)) (by decide +kernel)) dL_hangs_693 ?_
          refine lv_icmp_ne (tgt := 702) hx hb dL_hangs_695 (by decide) (fun _ => ?_) (fun c695_5 => absurd c695_5 (fun q => h9 (g2.mp q)))
          refine lv_iconst (v := nI 0) hx hb dL_hangs_702 (by decide) ?_
          refine lv_iload hx hb dL_hangs_703 (lv_at hl 0 rfl) ?_
          refine lv_bipush (v := nI 9) hx hb dL_hangs_705 (by decide) ?_
          refine lv_icmp_le (tgt := 714) hx hb dL_hangs_707 (by decide) (fun _ => ?_) (fun c707_6 => absurd o9 c707_6)
          refine lv_iconst (v := nI 0) hx hb dL_hangs_714 (by decide) ?_
          refine lv_icmp_ne (tgt := 780) hx hb dL_hangs_715 (by decide) (fun c715_7 => absurd (by decide) c715_7) (fun _ => ?_)
          refine lv_aload_n hx hb dL_hangs_718 rfl (lv_at hl 5 rfl) ?_
          refine lv_iload hx hb dL_hangs_719 (lv_at hl 1 rfl) ?_
          refine lv_iconst (v := nI 1) hx hb dL_hangs_721 (by decide) ?_
          have k722 := ct_X6_operand l D a ca hJ (va_up Z 1 T) (nI k) (nI 1)
          rw [gs_operand1 hMT (show k < 48 by omega)] at k722
          refine z_cVi (As := [.int (nI k), .int (nI 1)]) (rest := []) ⟨hx, hb, hml, hown, hts⟩ (k722) (cwV 2 hts gL_hangs_X6_operand rfl rfl rfl (by decide +kernel) ⟨Nat.le_of_ble_eq_true rfl, Nat.le_of_ble_eq_true rfl⟩) hK hP hS (va_recv (ci := 6) hK.1 hP rfl zW_b) rfl hl.1 rfl (Nat.le_of_ble_eq_true rfl) dL_hangs_722 ⟨Nat.zero_le _, Nat.zero_le _⟩ (fun H locs hP hS => ?_)
          refine lv_ldc (v := (-100005)) hx hb hown (hts (.constant RL 102 (-100005)) (by decide +kernel)) dL_hangs_725 ?_
          refine lv_icmp_ne (tgt := 734) hx hb dL_hangs_727 (by decide) (fun _ => ?_) (fun c727_8 => absurd c727_8 (fun q => (g3.mp q).elim h9 h7))
          refine lv_iconst (v := nI 0) hx hb dL_hangs_734 (by decide) ?_
          refine lv_iload hx hb dL_hangs_735 (lv_at hl 0 rfl) ?_
          refine lv_bipush (v := nI 9) hx hb dL_hangs_737 (by decide) ?_
          refine lv_icmp_gt (tgt := 749) hx hb dL_hangs_739 (by decide) (fun c739_9 => absurd c739_9 (Int32.not_lt.mpr o9)) (fun _ => ?_)
          refine lv_iload hx hb dL_hangs_742 (lv_at hl 0 rfl) ?_
          refine lv_bipush (v := nI 7) hx hb dL_hangs_744 (by decide) ?_
          refine lv_icmp_ne (tgt := 753) hx hb dL_hangs_746 (by decide) (fun _ => ?_) (fun c746_10 => absurd c746_10 o7)
          refine lv_iconst (v := nI 0) hx hb dL_hangs_753 (by decide) ?_
          refine lv_icmp_ne (tgt := 780) hx hb dL_hangs_754 (by decide) (fun c754_11 => absurd (by decide) c754_11) (fun _ => ?_)
          refine lv_aload_n hx hb dL_hangs_757 rfl (lv_at hl 5 rfl) ?_
          refine lv_iload hx hb dL_hangs_758 (lv_at hl 1 rfl) ?_
          have k760 := ct_X6_breakpoint l D a ca hJ (va_up Z 1 T) (nI k)
          rw [gs_breakpoint hMT (show k < 48 by omega)] at k760
          refine z_cVi (As := [.int (nI k)]) (rest := []) ⟨hx, hb, hml, hown, hts⟩ (k760) (cwV 1 hts gL_hangs_X6_breakpoint rfl rfl rfl (by decide +kernel) ⟨Nat.le_of_ble_eq_true rfl, Nat.le_of_ble_eq_true rfl⟩) hK hP hS (va_recv (ci := 6) hK.1 hP rfl zW_b) rfl hl.1 rfl (Nat.le_of_ble_eq_true rfl) dL_hangs_760 ⟨Nat.zero_le _, Nat.zero_le _⟩ (fun H locs hP hS => ?_)
          refine lv_if_lt (tgt := 780) hx hb dL_hangs_763 (by decide) (fun c763_12 => absurd c763_12 (nn_in (s7 k (by omega)))) (fun _ => ?_)
          refine lv_aload_n hx hb dL_hangs_766 rfl (lv_at hl 5 rfl) ?_
          refine lv_iload hx hb dL_hangs_767 (lv_at hl 1 rfl) ?_
          have k769 := ct_X6_breakpoint l D a ca hJ (va_up Z 1 T) (nI k)
          rw [gs_breakpoint hMT (show k < 48 by omega)] at k769
          refine z_cVi (As := [.int (nI k)]) (rest := []) ⟨hx, hb, hml, hown, hts⟩ (k769) (cwV 1 hts gL_hangs_X6_breakpoint rfl rfl rfl (by decide +kernel) ⟨Nat.le_of_ble_eq_true rfl, Nat.le_of_ble_eq_true rfl⟩) hK hP hS (va_recv (ci := 6) hK.1 hP rfl zW_b) rfl hl.1 rfl (Nat.le_of_ble_eq_true rfl) dL_hangs_769 ⟨Nat.zero_le _, Nat.zero_le _⟩ (fun H locs hP hS => ?_)
          refine lv_iconst (v := nI 2) hx hb dL_hangs_772 (by decide) ?_
          refine lv_icmp_ge (tgt := 780) hx hb dL_hangs_773 (by decide) (fun c773_13 => absurd c773_13 (ng_in (s7 k (by omega)) (by decide))) (fun _ => ?_)
          refine lv_iconst (v := nI 1) hx hb dL_hangs_776 (by decide) ?_
          refine lv_goto (tgt := 781) hx hb dL_hangs_777 (by decide) ?_
          refine lv_istore (lv' := [(7, .int (nI 1)), (15, .int (M 10 k)), (14, .int (nI k)), (6, .int br), (4, .int ov), (0, .ref (a 114))]) hx hb dL_hangs_781 hl (by decide) rfl (fun ls hl => ?_)
          refine lv_iinc (v := nI (k + 1)) (lv' := [(14, .int (nI (k + 1))), (7, .int (nI 1)), (15, .int (M 10 k)), (6, .int br), (4, .int ov), (0, .ref (a 114))]) hx hb dL_hangs_783 hl (k := 2) rfl (nI_add _ _) (by decide) rfl (fun ls hl => ?_)
          refine lv_goto (tgt := 654) hx hb dL_hangs_786 (by decide) ?_
          exact ih (k + 1) T ov br _ _ _ (by omega) hT hov hbr (lv_sub hl [0, 1, 3, 4, 5] rfl) hP hS
  have k432 : ∀ (ov rd br : Int32) (H : Heap) (locs : List Loc) (ls : Array Slot) (hov : ovP M 4 ov) (hrd : rdP M (nI 1) 4 rd) (hbr : rdP M (nI 3) 4 br) (hl : lv_has ls 16 [(8, .int (nI (zc (M 18 1)))), (7, .int (nI 1)), (6, .int br), (5, .int rd), (4, .int ov), (3, .int (nI (sxf (M 6)))), (2, .int (M 17 0)), (1, .int (M 16 0)), (0, .ref (a 114))]) (hP : va_P D vwCl (zW a ca Z) H) (hS : va_S (zA a) s.heap H locs), W p l e ({ frames := 7, cells := 0, slots := 0, locals := 159 } : Room) s m ([.ref (a 114)] : List Value).toArray below meth c H locs 0 0 (hQi below D a ca [.ref (a 114)] s Z) (F0 m 432 ls []) := by
    intro ov rd br H locs ls hov hrd hbr hl hP hS
    obtain ⟨T, lf, hT, hlf, kcl⟩ := cl_all l D a ca hJ hM hz hXR
    have hMT : (va_up Z 1 T) 0 = M := tz_n0.trans hM
    have hzT : zOK ((va_up Z 1 T) 0) := by
      rw [hMT]
      exact s8
    have kus := ct_X6_use l D a ca hJ (va_up Z 1 T)
    have hus := us_all hMT hB hm.2.1
    generalize g_X6_use (va_up Z 1 T) = us at kus hus
    have e17 : nI (sxf (M 6)) + M 17 0 = M 16 0 := by
      rw [t2.2, nI_add, t4]
      exact t1.2.symm
    obtain ⟨o, ho4, ho, hnx⟩ := fi_own s4 (zIn_up t1 (by omega))
    rcases hnx with ⟨n1, n2, n3⟩ | ⟨t, ht, n1, n2, n3⟩
    · skip
      refine lv_aload_n hx hb dL_hangs_432 rfl (lv_at hl 8 rfl) ?_
      have k433 := ct_X6_nextThread l D a ca hJ Z
      rw [gs_next hM, n1] at k433
      refine z_cVi (As := []) (rest := []) ⟨hx, hb, hml, hown, hts⟩ (k433) (cwV 0 hts gL_hangs_X6_nextThread rfl rfl rfl (by decide +kernel) ⟨Nat.le_of_ble_eq_true rfl, Nat.le_of_ble_eq_true rfl⟩) hK hP hS (va_recv (ci := 6) hK.1 hP rfl zW_b) rfl hl.1 rfl (Nat.le_of_ble_eq_true rfl) dL_hangs_433 ⟨Nat.zero_le _, Nat.zero_le _⟩ (fun H locs hP hS => ?_)
      refine lv_istore (lv' := [(10, .int (-100005)), (8, .int (nI (zc (M 18 1)))), (7, .int (nI 1)), (6, .int br), (5, .int rd), (4, .int ov), (3, .int (nI (sxf (M 6)))), (2, .int (M 17 0)), (1, .int (M 16 0)), (0, .ref (a 114))]) hx hb dL_hangs_436 hl (by decide) rfl (fun ls hl => ?_)
      refine lv_aload_n hx hb dL_hangs_438 rfl (lv_at hl 9 rfl) ?_
      refine z_cVi (As := []) (rest := []) ⟨hx, hb, hml, hown, hts⟩ (kcl) (cwV 0 hts gL_hangs_X6_cyclesLeft rfl rfl rfl (by decide +kernel) ⟨Nat.le_of_ble_eq_true rfl, Nat.le_of_ble_eq_true rfl⟩) hK hP hS (va_recv (ci := 6) hK.1 hP rfl zW_b) rfl hl.1 rfl (Nat.le_of_ble_eq_true rfl) dL_hangs_439 ⟨Nat.zero_le _, Nat.zero_le _⟩ (fun H locs hP hS => ?_)
      refine lv_istore (lv' := [(11, .int lf), (10, .int (-100005)), (8, .int (nI (zc (M 18 1)))), (7, .int (nI 1)), (6, .int br), (5, .int rd), (4, .int ov), (3, .int (nI (sxf (M 6)))), (2, .int (M 17 0)), (1, .int (M 16 0)), (0, .ref (a 114))]) hx hb dL_hangs_442 hl (by decide) rfl (fun ls hl => ?_)
      refine lv_aload_n hx hb dL_hangs_444 rfl (lv_at hl 10 rfl) ?_
      refine z_cVf (As := []) (rest := []) ⟨hx, hb, hml, hown, hts⟩ (kus) (cwV 0 hts gL_hangs_X6_use rfl rfl rfl (by decide +kernel) ⟨Nat.le_of_ble_eq_true rfl, Nat.le_of_ble_eq_true rfl⟩) hK hP hS (va_recv (ci := 6) hK.1 hP rfl zW_b) rfl hl.1 rfl (Nat.le_of_ble_eq_true rfl) dL_hangs_445 ⟨Nat.zero_le _, Nat.zero_le _⟩ (fun H locs hP hS => ?_)
      refine lv_fstore (lv' := [(12, .float us), (11, .int lf), (10, .int (-100005)), (8, .int (nI (zc (M 18 1)))), (7, .int (nI 1)), (6, .int br), (5, .int rd), (4, .int ov), (3, .int (nI (sxf (M 6)))), (2, .int (M 17 0)), (1, .int (M 16 0)), (0, .ref (a 114))]) hx hb dL_hangs_448 hl (by decide) rfl (fun ls hl => ?_)
      have k594 : ∀ (H : Heap) (locs : List Loc) (hP : va_P D vwCl (zW a ca (va_up Z 1 T)) H) (hS : va_S (zA a) s.heap H locs), W p l e ({ frames := 7, cells := 0, slots := 0, locals := 159 } : Room) s m ([.ref (a 114)] : List Value).toArray below meth c H locs 0 0 (hQi below D a ca [.ref (a 114)] s Z) (F0 m 594 ls []) := by
        intro H locs hP hS
        refine lv_iconst (v := nI 1) hx hb dL_hangs_594 (by decide) ?_
        refine lv_goto (tgt := 599) hx hb dL_hangs_595 (by decide) ?_
        refine lv_istore (lv' := [(7, .int (nI 1)), (12, .float us), (11, .int lf), (10, .int (-100005)), (8, .int (nI (zc (M 18 1)))), (6, .int br), (5, .int rd), (4, .int ov), (3, .int (nI (sxf (M 6)))), (2, .int (M 17 0)), (1, .int (M 16 0)), (0, .ref (a 114))]) hx hb dL_hangs_599 hl (by decide) rfl (fun ls hl => ?_)
        refine lv_aload_n hx hb dL_hangs_601 rfl (lv_at hl 11 rfl) ?_
        refine lv_iload_n hx hb dL_hangs_602 rfl (lv_at hl 10 rfl) ?_
        refine lv_bipush (v := nI 8) hx hb dL_hangs_603 (by decide) ?_
        refine lv_irem hx hb dL_hangs_605 (by decide) ?_
        refine z_val (z := nI (zc (M 16 0) % 8)) (rem_8 t1) ?_
        have k606 := ct_X6_slot l D a ca hJ (va_up Z 1 T) (nI (zc (M 16 0) % 8))
        rw [gs_slot hMT (Nat.mod_lt _ (by decide)), ho] at k606
        refine z_cVi (As := [.int (nI (zc (M 16 0) % 8))]) (rest := []) ⟨hx, hb, hml, hown, hts⟩ (k606) (cwV 1 hts gL_hangs_X6_slot rfl rfl rfl (by decide +kernel) ⟨Nat.le_of_ble_eq_true rfl, Nat.le_of_ble_eq_true rfl⟩) hK hP hS (va_recv (ci := 6) hK.1 hP rfl zW_b) rfl hl.1 rfl (Nat.le_of_ble_eq_true rfl) dL_hangs_606 ⟨Nat.zero_le _, Nat.zero_le _⟩ (fun H locs hP hS => ?_)
        refine lv_istore (lv' := [(13, .int (nI o)), (7, .int (nI 1)), (12, .float us), (11, .int lf), (10, .int (-100005)), (8, .int (nI (zc (M 18 1)))), (6, .int br), (5, .int rd), (4, .int ov), (3, .int (nI (sxf (M 6)))), (2, .int (M 17 0)), (1, .int (M 16 0)), (0, .ref (a 114))]) hx hb dL_hangs_609 hl (by decide) rfl (fun ls hl => ?_)
        refine lv_iload hx hb dL_hangs_611 (lv_at hl 1 rfl) ?_
        refine lv_if_eq (tgt := 648) hx hb dL_hangs_613 (by decide) (fun c613_1 => absurd c613_1 (by decide)) (fun _ => ?_)
        refine lv_iload hx hb dL_hangs_616 (lv_at hl 0 rfl) ?_
        refine lv_if_lt (tgt := 648) hx hb dL_hangs_618 (by decide) (fun c618_2 => absurd c618_2 (nI_pos (show o < 2 ^ 31 by omega))) (fun _ => ?_)
        refine lv_iload hx hb dL_hangs_621 (lv_at hl 0 rfl) ?_
        refine lv_iconst (v := nI 4) hx hb dL_hangs_623 (by decide) ?_
        refine lv_icmp_ge (tgt := 648) hx hb dL_hangs_624 (by decide) (fun c624_3 => absurd c624_3 (nI_ge ho4 (by decide))) (fun _ => ?_)
        refine lv_aload_n hx hb dL_hangs_627 rfl (lv_at hl 12 rfl) ?_
        refine lv_iload hx hb dL_hangs_628 (lv_at hl 0 rfl) ?_
        have k630 := ct_X6_state l D a ca hJ (va_up Z 1 T) (nI o)
        rw [gs_state hMT ho4] at k630
        refine z_cVi (As := [.int (nI o)]) (rest := []) ⟨hx, hb, hml, hown, hts⟩ (k630) (cwV 1 hts gL_hangs_X6_state rfl rfl rfl (by decide +kernel) ⟨Nat.le_of_ble_eq_true rfl, Nat.le_of_ble_eq_true rfl⟩) hK hP hS (va_recv (ci := 6) hK.1 hP rfl zW_b) rfl hl.1 rfl (Nat.le_of_ble_eq_true rfl) dL_hangs_630 ⟨Nat.zero_le _, Nat.zero_le _⟩ (fun H locs hP hS => ?_)
        refine lv_iconst (v := nI 1) hx hb dL_hangs_633 (by decide) ?_
        refine lv_icmp_ne (tgt := 644) hx hb dL_hangs_634 (by decide) (fun c634_4 => ?_) (fun c634_4 => ?_)
        · refine lv_iconst (v := nI 1) hx hb dL_hangs_644 (by decide) ?_
          refine lv_goto (tgt := 649) hx hb dL_hangs_645 (by decide) ?_
          refine lv_istore (lv' := [(7, .int (nI 1)), (13, .int (nI o)), (12, .float us), (11, .int lf), (10, .int (-100005)), (8, .int (nI (zc (M 18 1)))), (6, .int br), (5, .int rd), (4, .int ov), (3, .int (nI (sxf (M 6)))), (2, .int (M 17 0)), (1, .int (M 16 0)), (0, .ref (a 114))]) hx hb dL_hangs_649 hl (by decide) rfl (fun ls hl => ?_)
          refine lv_iconst (v := nI 0) hx hb dL_hangs_651 (by decide) ?_
          refine lv_istore (lv' := [(14, .int (nI 0)), (7, .int (nI 1)), (13, .int (nI o)), (12, .float us), (11, .int lf), (10, .int (-100005)), (8, .int (nI (zc (M 18 1)))), (6, .int br), (5, .int rd), (4, .int ov), (3, .int (nI (sxf (M 6)))), (2, .int (M 17 0)), (1, .int (M 16 0)), (0, .ref (a 114))]) hx hb dL_hangs_652 hl (by decide) rfl (fun ls hl => ?_)
          exact lp3 48 0 T ov br _ _ _ rfl hT hov hbr (lv_sub hl [0, 1, 7, 9, 13] rfl) hP hS
        · exact False.elim (n2 (Or.inl c634_4))
      have k553 : ∀ (H : Heap) (locs : List Loc) (hP : va_P D vwCl (zW a ca (va_up Z 1 T)) H) (hS : va_S (zA a) s.heap H locs), W p l e ({ frames := 7, cells := 0, slots := 0, locals := 159 } : Room) s m ([.ref (a 114)] : List Value).toArray below meth c H locs 0 0 (hQi below D a ca [.ref (a 114)] s Z) (F0 m 553 ls []) := by
        intro H locs hP hS
        refine lv_fload hx hb dL_hangs_553 (lv_at hl 0 rfl) ?_
        refine lv_fconst0 hx hb dL_hangs_555 ?_
        refine lv_fcmp hx hb dL_hangs_556 ?_
        refine lv_if_lt (tgt := 598) hx hb dL_hangs_557 (by decide) (fun c557_5 => absurd c557_5 hus.1) (fun _ => ?_)
        refine lv_fload hx hb dL_hangs_560 (lv_at hl 0 rfl) ?_
        refine lv_fconst1 hx hb dL_hangs_562 ?_
        refine lv_fcmp hx hb dL_hangs_563 ?_
        refine lv_if_gt (tgt := 598) hx hb dL_hangs_564 (by decide) (fun c564_6 => absurd c564_6 hus.2.1) (fun _ => ?_)
        refine lv_iload_n hx hb dL_hangs_567 rfl (lv_at hl 10 rfl) ?_
        refine lv_if_ne (tgt := 581) hx hb dL_hangs_568 (by decide) (fun c568_7 => ?_) (fun c568_7 => ?_)
        · have nz := c568_7
          refine lv_fload hx hb dL_hangs_581 (lv_at hl 0 rfl) ?_
          refine lv_iload_n hx hb dL_hangs_583 rfl (lv_at hl 10 rfl) ?_
          refine lv_iload_n hx hb dL_hangs_584 rfl (lv_at hl 9 rfl) ?_
          refine lv_isub hx hb dL_hangs_585 ?_
          refine lv_i2f hx hb dL_hangs_586 ?_
          refine lv_iload_n hx hb dL_hangs_587 rfl (lv_at hl 10 rfl) ?_
          refine lv_i2f hx hb dL_hangs_588 ?_
          refine lv_fdiv hx hb dL_hangs_589 (us_nn nz) ?_
          refine lv_fcmp hx hb dL_hangs_590 ?_
          refine lv_if_ne (tgt := 598) hx hb dL_hangs_591 (by decide) (fun c591_8 => absurd (hus.2.2.2 c568_7) c591_8) (fun _ => ?_)
          exact k594 _ _ hP hS
        · refine lv_fload hx hb dL_hangs_571 (lv_at hl 0 rfl) ?_
          refine lv_fconst0 hx hb dL_hangs_573 ?_
          refine lv_fcmp hx hb dL_hangs_574 ?_
          refine lv_if_ne (tgt := 598) hx hb dL_hangs_575 (by decide) (fun c575_9 => absurd (hus.2.2.1 c568_7) c575_9) (fun _ => ?_)
          refine lv_goto (tgt := 594) hx hb dL_hangs_578 (by decide) ?_
          exact k594 _ _ hP hS
      have k536 : ∀ (H : Heap) (locs : List Loc) (hP : va_P D vwCl (zW a ca (va_up Z 1 T)) H) (hS : va_S (zA a) s.heap H locs), W p l e ({ frames := 7, cells := 0, slots := 0, locals := 159 } : Room) s m ([.ref (a 114)] : List Value).toArray below meth c H locs 0 0 (hQi below D a ca [.ref (a 114)] s Z) (F0 m 536 ls []) := by
        intro H locs hP hS
        refine lv_iload hx hb dL_hangs_536 (lv_at hl 7 rfl) ?_
        refine lv_if_ne (tgt := 553) hx hb dL_hangs_538 (by decide) (fun c538_10 => ?_) (fun c538_10 => ?_)
        · exact k553 _ _ hP hS
        · refine lv_iload hx hb dL_hangs_541 (lv_at hl 1 rfl) ?_
          refine lv_if_gt (tgt := 553) hx hb dL_hangs_543 (by decide) (fun c543_11 => ?_) (fun c543_11 => ?_)
          · exact k553 _ _ hP hS
          · refine lv_iload hx hb dL_hangs_546 (lv_at hl 1 rfl) ?_
            refine lv_ldc (v := (-100005)) hx hb hown (hts (.constant RL 102 (-100005)) (by decide +kernel)) dL_hangs_548 ?_
            refine lv_icmp_ne (tgt := 598) hx hb dL_hangs_550 (by decide) (fun c550_12 => absurd (lf_n hlf (ov_any hov c538_10) c543_11) c550_12) (fun _ => ?_)
            exact k553 _ _ hP hS
      have k519 : ∀ (H : Heap) (locs : List Loc) (hP : va_P D vwCl (zW a ca (va_up Z 1 T)) H) (hS : va_S (zA a) s.heap H locs), W p l e ({ frames := 7, cells := 0, slots := 0, locals := 159 } : Room) s m ([.ref (a 114)] : List Value).toArray below meth c H locs 0 0 (hQi below D a ca [.ref (a 114)] s Z) (F0 m 519 ls []) := by
        intro H locs hP hS
        refine lv_iload hx hb dL_hangs_519 (lv_at hl 7 rfl) ?_
        refine lv_if_eq (tgt := 536) hx hb dL_hangs_521 (by decide) (fun c521_13 => ?_) (fun c521_13 => ?_)
        · exact k536 _ _ hP hS
        · refine lv_iload hx hb dL_hangs_524 (lv_at hl 2 rfl) ?_
          refine lv_ldc (v := (-100005)) hx hb hown (hts (.constant RL 102 (-100005)) (by decide +kernel)) dL_hangs_526 ?_
          refine lv_icmp_ne (tgt := 598) hx hb dL_hangs_528 (by decide) (fun c528_14 => absurd rfl c528_14) (fun _ => ?_)
          refine lv_iload hx hb dL_hangs_531 (lv_at hl 1 rfl) ?_
          refine lv_if_ne (tgt := 598) hx hb dL_hangs_533 (by decide) (fun c533_15 => absurd (lf_0 hlf (ov_all hov c521_13)) c533_15) (fun _ => ?_)
          exact k536 _ _ hP hS
      have k501 : ∀ (H : Heap) (locs : List Loc) (hP : va_P D vwCl (zW a ca (va_up Z 1 T)) H) (hS : va_S (zA a) s.heap H locs), W p l e ({ frames := 7, cells := 0, slots := 0, locals := 159 } : Room) s m ([.ref (a 114)] : List Value).toArray below meth c H locs 0 0 (hQi below D a ca [.ref (a 114)] s Z) (F0 m 501 ls []) := by
        intro H locs hP hS
        refine lv_iload hx hb dL_hangs_501 (lv_at hl 6 rfl) ?_
        refine lv_if_eq (tgt := 519) hx hb dL_hangs_503 (by decide) (fun c503_16 => ?_) (fun c503_16 => ?_)
        · exact k519 _ _ hP hS
        · refine lv_aload_n hx hb dL_hangs_506 rfl (lv_at hl 11 rfl) ?_
          refine lv_iconst (v := nI 1) hx hb dL_hangs_507 (by decide) ?_
          have k508 := ct_X6_setting l D a ca hJ (va_up Z 1 T) (nI 1)
          rw [gs_setting1 hMT] at k508
          refine z_cVi (As := [.int (nI 1)]) (rest := []) ⟨hx, hb, hml, hown, hts⟩ (k508) (cwV 1 hts gL_hangs_X6_setting rfl rfl rfl (by decide +kernel) ⟨Nat.le_of_ble_eq_true rfl, Nat.le_of_ble_eq_true rfl⟩) hK hP hS (va_recv (ci := 6) hK.1 hP rfl zW_b) rfl hl.1 rfl (Nat.le_of_ble_eq_true rfl) dL_hangs_508 ⟨Nat.zero_le _, Nat.zero_le _⟩ (fun H locs hP hS => ?_)
          refine lv_if_eq (tgt := 519) hx hb dL_hangs_511 (by decide) (fun c511_17 => ?_) (fun c511_17 => ?_)
          · exact k519 _ _ hP hS
          · exact False.elim (nx_le n3 s51 hrd c503_16 c511_17)
      refine lv_iload hx hb dL_hangs_450 (lv_at hl 4 rfl) ?_
      refine lv_if_eq (tgt := 598) hx hb dL_hangs_452 (by decide) (fun c452_18 => absurd c452_18 (by decide)) (fun _ => ?_)
      refine lv_iload_n hx hb dL_hangs_455 rfl (lv_at hl 8 rfl) ?_
      refine lv_iload_n hx hb dL_hangs_456 rfl (lv_at hl 9 rfl) ?_
      refine lv_iadd hx hb dL_hangs_457 ?_
      refine lv_iload_n hx hb dL_hangs_458 rfl (lv_at hl 10 rfl) ?_
      refine lv_icmp_ne (tgt := 598) hx hb dL_hangs_459 (by decide) (fun c459_19 => absurd e17 c459_19) (fun _ => ?_)
      refine lv_aload_n hx hb dL_hangs_462 rfl (lv_at hl 11 rfl) ?_
      refine lv_iload hx hb dL_hangs_463 (lv_at hl 3 rfl) ?_
      refine lv_iconst (v := nI 0) hx hb dL_hangs_465 (by decide) ?_
      have k466 := ct_X6_trace l D a ca hJ (va_up Z 1 T) (nI (zc (M 18 1))) (nI 0) hzT
      rw [gs_trace hMT (show (zc (M 18 1)) < 2 ^ 31 by omega) (show 0 < 3 by decide) (by omega), if_neg (Nat.lt_irrefl _)] at k466
      refine z_cVi (As := [.int (nI (zc (M 18 1))), .int (nI 0)]) (rest := []) ⟨hx, hb, hml, hown, hts⟩ (k466) (cwV 2 hts gL_hangs_X6_trace rfl rfl rfl (by decide +kernel) ⟨Nat.le_of_ble_eq_true rfl, Nat.le_of_ble_eq_true rfl⟩) hK hP hS (va_recv (ci := 6) hK.1 hP rfl zW_b) rfl hl.1 rfl (Nat.le_of_ble_eq_true rfl) dL_hangs_466 ⟨Nat.zero_le _, Nat.zero_le _⟩ (fun H locs hP hS => ?_)
      refine lv_ldc (v := (-100005)) hx hb hown (hts (.constant RL 102 (-100005)) (by decide +kernel)) dL_hangs_469 ?_
      refine lv_icmp_ne (tgt := 598) hx hb dL_hangs_471 (by decide) (fun c471_20 => absurd rfl c471_20) (fun _ => ?_)
      refine lv_iload hx hb dL_hangs_474 (lv_at hl 2 rfl) ?_
      refine lv_ldc (v := (-100005)) hx hb hown (hts (.constant RL 102 (-100005)) (by decide +kernel)) dL_hangs_476 ?_
      refine lv_icmp_eq (tgt := 501) hx hb dL_hangs_478 (by decide) (fun _ => ?_) (fun c478_21 => absurd rfl c478_21)
      exact k501 _ _ hP hS
    · skip
      refine lv_aload_n hx hb dL_hangs_432 rfl (lv_at hl 8 rfl) ?_
      have k433 := ct_X6_nextThread l D a ca hJ Z
      rw [gs_next hM, n1] at k433
      refine z_cVi (As := []) (rest := []) ⟨hx, hb, hml, hown, hts⟩ (k433) (cwV 0 hts gL_hangs_X6_nextThread rfl rfl rfl (by decide +kernel) ⟨Nat.le_of_ble_eq_true rfl, Nat.le_of_ble_eq_true rfl⟩) hK hP hS (va_recv (ci := 6) hK.1 hP rfl zW_b) rfl hl.1 rfl (Nat.le_of_ble_eq_true rfl) dL_hangs_433 ⟨Nat.zero_le _, Nat.zero_le _⟩ (fun H locs hP hS => ?_)
      refine lv_istore (lv' := [(10, .int (nI t)), (8, .int (nI (zc (M 18 1)))), (7, .int (nI 1)), (6, .int br), (5, .int rd), (4, .int ov), (3, .int (nI (sxf (M 6)))), (2, .int (M 17 0)), (1, .int (M 16 0)), (0, .ref (a 114))]) hx hb dL_hangs_436 hl (by decide) rfl (fun ls hl => ?_)
      refine lv_aload_n hx hb dL_hangs_438 rfl (lv_at hl 9 rfl) ?_
      refine z_cVi (As := []) (rest := []) ⟨hx, hb, hml, hown, hts⟩ (kcl) (cwV 0 hts gL_hangs_X6_cyclesLeft rfl rfl rfl (by decide +kernel) ⟨Nat.le_of_ble_eq_true rfl, Nat.le_of_ble_eq_true rfl⟩) hK hP hS (va_recv (ci := 6) hK.1 hP rfl zW_b) rfl hl.1 rfl (Nat.le_of_ble_eq_true rfl) dL_hangs_439 ⟨Nat.zero_le _, Nat.zero_le _⟩ (fun H locs hP hS => ?_)
      refine lv_istore (lv' := [(11, .int lf), (10, .int (nI t)), (8, .int (nI (zc (M 18 1)))), (7, .int (nI 1)), (6, .int br), (5, .int rd), (4, .int ov), (3, .int (nI (sxf (M 6)))), (2, .int (M 17 0)), (1, .int (M 16 0)), (0, .ref (a 114))]) hx hb dL_hangs_442 hl (by decide) rfl (fun ls hl => ?_)
      refine lv_aload_n hx hb dL_hangs_444 rfl (lv_at hl 10 rfl) ?_
      refine z_cVf (As := []) (rest := []) ⟨hx, hb, hml, hown, hts⟩ (kus) (cwV 0 hts gL_hangs_X6_use rfl rfl rfl (by decide +kernel) ⟨Nat.le_of_ble_eq_true rfl, Nat.le_of_ble_eq_true rfl⟩) hK hP hS (va_recv (ci := 6) hK.1 hP rfl zW_b) rfl hl.1 rfl (Nat.le_of_ble_eq_true rfl) dL_hangs_445 ⟨Nat.zero_le _, Nat.zero_le _⟩ (fun H locs hP hS => ?_)
      refine lv_fstore (lv' := [(12, .float us), (11, .int lf), (10, .int (nI t)), (8, .int (nI (zc (M 18 1)))), (7, .int (nI 1)), (6, .int br), (5, .int rd), (4, .int ov), (3, .int (nI (sxf (M 6)))), (2, .int (M 17 0)), (1, .int (M 16 0)), (0, .ref (a 114))]) hx hb dL_hangs_448 hl (by decide) rfl (fun ls hl => ?_)
      have k594 : ∀ (H : Heap) (locs : List Loc) (hP : va_P D vwCl (zW a ca (va_up Z 1 T)) H) (hS : va_S (zA a) s.heap H locs), W p l e ({ frames := 7, cells := 0, slots := 0, locals := 159 } : Room) s m ([.ref (a 114)] : List Value).toArray below meth c H locs 0 0 (hQi below D a ca [.ref (a 114)] s Z) (F0 m 594 ls []) := by
        intro H locs hP hS
        refine lv_iconst (v := nI 1) hx hb dL_hangs_594 (by decide) ?_
        refine lv_goto (tgt := 599) hx hb dL_hangs_595 (by decide) ?_
        refine lv_istore (lv' := [(7, .int (nI 1)), (12, .float us), (11, .int lf), (10, .int (nI t)), (8, .int (nI (zc (M 18 1)))), (6, .int br), (5, .int rd), (4, .int ov), (3, .int (nI (sxf (M 6)))), (2, .int (M 17 0)), (1, .int (M 16 0)), (0, .ref (a 114))]) hx hb dL_hangs_599 hl (by decide) rfl (fun ls hl => ?_)
        refine lv_aload_n hx hb dL_hangs_601 rfl (lv_at hl 11 rfl) ?_
        refine lv_iload_n hx hb dL_hangs_602 rfl (lv_at hl 10 rfl) ?_
        refine lv_bipush (v := nI 8) hx hb dL_hangs_603 (by decide) ?_
        refine lv_irem hx hb dL_hangs_605 (by decide) ?_
        refine z_val (z := nI (zc (M 16 0) % 8)) (rem_8 t1) ?_
        have k606 := ct_X6_slot l D a ca hJ (va_up Z 1 T) (nI (zc (M 16 0) % 8))
        rw [gs_slot hMT (Nat.mod_lt _ (by decide)), ho] at k606
        refine z_cVi (As := [.int (nI (zc (M 16 0) % 8))]) (rest := []) ⟨hx, hb, hml, hown, hts⟩ (k606) (cwV 1 hts gL_hangs_X6_slot rfl rfl rfl (by decide +kernel) ⟨Nat.le_of_ble_eq_true rfl, Nat.le_of_ble_eq_true rfl⟩) hK hP hS (va_recv (ci := 6) hK.1 hP rfl zW_b) rfl hl.1 rfl (Nat.le_of_ble_eq_true rfl) dL_hangs_606 ⟨Nat.zero_le _, Nat.zero_le _⟩ (fun H locs hP hS => ?_)
        refine lv_istore (lv' := [(13, .int (nI o)), (7, .int (nI 1)), (12, .float us), (11, .int lf), (10, .int (nI t)), (8, .int (nI (zc (M 18 1)))), (6, .int br), (5, .int rd), (4, .int ov), (3, .int (nI (sxf (M 6)))), (2, .int (M 17 0)), (1, .int (M 16 0)), (0, .ref (a 114))]) hx hb dL_hangs_609 hl (by decide) rfl (fun ls hl => ?_)
        refine lv_iload hx hb dL_hangs_611 (lv_at hl 1 rfl) ?_
        refine lv_if_eq (tgt := 648) hx hb dL_hangs_613 (by decide) (fun c613_1 => absurd c613_1 (by decide)) (fun _ => ?_)
        refine lv_iload hx hb dL_hangs_616 (lv_at hl 0 rfl) ?_
        refine lv_if_lt (tgt := 648) hx hb dL_hangs_618 (by decide) (fun c618_2 => absurd c618_2 (nI_pos (show o < 2 ^ 31 by omega))) (fun _ => ?_)
        refine lv_iload hx hb dL_hangs_621 (lv_at hl 0 rfl) ?_
        refine lv_iconst (v := nI 4) hx hb dL_hangs_623 (by decide) ?_
        refine lv_icmp_ge (tgt := 648) hx hb dL_hangs_624 (by decide) (fun c624_3 => absurd c624_3 (nI_ge ho4 (by decide))) (fun _ => ?_)
        refine lv_aload_n hx hb dL_hangs_627 rfl (lv_at hl 12 rfl) ?_
        refine lv_iload hx hb dL_hangs_628 (lv_at hl 0 rfl) ?_
        have k630 := ct_X6_state l D a ca hJ (va_up Z 1 T) (nI o)
        rw [gs_state hMT ho4] at k630
        refine z_cVi (As := [.int (nI o)]) (rest := []) ⟨hx, hb, hml, hown, hts⟩ (k630) (cwV 1 hts gL_hangs_X6_state rfl rfl rfl (by decide +kernel) ⟨Nat.le_of_ble_eq_true rfl, Nat.le_of_ble_eq_true rfl⟩) hK hP hS (va_recv (ci := 6) hK.1 hP rfl zW_b) rfl hl.1 rfl (Nat.le_of_ble_eq_true rfl) dL_hangs_630 ⟨Nat.zero_le _, Nat.zero_le _⟩ (fun H locs hP hS => ?_)
        refine lv_iconst (v := nI 1) hx hb dL_hangs_633 (by decide) ?_
        refine lv_icmp_ne (tgt := 644) hx hb dL_hangs_634 (by decide) (fun c634_4 => ?_) (fun c634_4 => ?_)
        · refine lv_iconst (v := nI 1) hx hb dL_hangs_644 (by decide) ?_
          refine lv_goto (tgt := 649) hx hb dL_hangs_645 (by decide) ?_
          refine lv_istore (lv' := [(7, .int (nI 1)), (13, .int (nI o)), (12, .float us), (11, .int lf), (10, .int (nI t)), (8, .int (nI (zc (M 18 1)))), (6, .int br), (5, .int rd), (4, .int ov), (3, .int (nI (sxf (M 6)))), (2, .int (M 17 0)), (1, .int (M 16 0)), (0, .ref (a 114))]) hx hb dL_hangs_649 hl (by decide) rfl (fun ls hl => ?_)
          refine lv_iconst (v := nI 0) hx hb dL_hangs_651 (by decide) ?_
          refine lv_istore (lv' := [(14, .int (nI 0)), (7, .int (nI 1)), (13, .int (nI o)), (12, .float us), (11, .int lf), (10, .int (nI t)), (8, .int (nI (zc (M 18 1)))), (6, .int br), (5, .int rd), (4, .int ov), (3, .int (nI (sxf (M 6)))), (2, .int (M 17 0)), (1, .int (M 16 0)), (0, .ref (a 114))]) hx hb dL_hangs_652 hl (by decide) rfl (fun ls hl => ?_)
          exact lp3 48 0 T ov br _ _ _ rfl hT hov hbr (lv_sub hl [0, 1, 7, 9, 13] rfl) hP hS
        · refine lv_iload hx hb dL_hangs_637 (lv_at hl 4 rfl) ?_
          refine lv_iload hx hb dL_hangs_639 (lv_at hl 0 rfl) ?_
          refine lv_icmp_ne (tgt := 648) hx hb dL_hangs_641 (by decide) (fun c641_5 => absurd (n3 (Or.inl c634_4)) c641_5) (fun _ => ?_)
          refine lv_iconst (v := nI 1) hx hb dL_hangs_644 (by decide) ?_
          refine lv_goto (tgt := 649) hx hb dL_hangs_645 (by decide) ?_
          refine lv_istore (lv' := [(7, .int (nI 1)), (13, .int (nI o)), (12, .float us), (11, .int lf), (10, .int (nI t)), (8, .int (nI (zc (M 18 1)))), (6, .int br), (5, .int rd), (4, .int ov), (3, .int (nI (sxf (M 6)))), (2, .int (M 17 0)), (1, .int (M 16 0)), (0, .ref (a 114))]) hx hb dL_hangs_649 hl (by decide) rfl (fun ls hl => ?_)
          refine lv_iconst (v := nI 0) hx hb dL_hangs_651 (by decide) ?_
          refine lv_istore (lv' := [(14, .int (nI 0)), (7, .int (nI 1)), (13, .int (nI o)), (12, .float us), (11, .int lf), (10, .int (nI t)), (8, .int (nI (zc (M 18 1)))), (6, .int br), (5, .int rd), (4, .int ov), (3, .int (nI (sxf (M 6)))), (2, .int (M 17 0)), (1, .int (M 16 0)), (0, .ref (a 114))]) hx hb dL_hangs_652 hl (by decide) rfl (fun ls hl => ?_)
          exact lp3 48 0 T ov br _ _ _ rfl hT hov hbr (lv_sub hl [0, 1, 7, 9, 13] rfl) hP hS
      have k553 : ∀ (H : Heap) (locs : List Loc) (hP : va_P D vwCl (zW a ca (va_up Z 1 T)) H) (hS : va_S (zA a) s.heap H locs), W p l e ({ frames := 7, cells := 0, slots := 0, locals := 159 } : Room) s m ([.ref (a 114)] : List Value).toArray below meth c H locs 0 0 (hQi below D a ca [.ref (a 114)] s Z) (F0 m 553 ls []) := by
        intro H locs hP hS
        refine lv_fload hx hb dL_hangs_553 (lv_at hl 0 rfl) ?_
        refine lv_fconst0 hx hb dL_hangs_555 ?_
        refine lv_fcmp hx hb dL_hangs_556 ?_
        refine lv_if_lt (tgt := 598) hx hb dL_hangs_557 (by decide) (fun c557_6 => absurd c557_6 hus.1) (fun _ => ?_)
        refine lv_fload hx hb dL_hangs_560 (lv_at hl 0 rfl) ?_
        refine lv_fconst1 hx hb dL_hangs_562 ?_
        refine lv_fcmp hx hb dL_hangs_563 ?_
        refine lv_if_gt (tgt := 598) hx hb dL_hangs_564 (by decide) (fun c564_7 => absurd c564_7 hus.2.1) (fun _ => ?_)
        refine lv_iload_n hx hb dL_hangs_567 rfl (lv_at hl 10 rfl) ?_
        refine lv_if_ne (tgt := 581) hx hb dL_hangs_568 (by decide) (fun c568_8 => ?_) (fun c568_8 => ?_)
        · have nz := c568_8
          refine lv_fload hx hb dL_hangs_581 (lv_at hl 0 rfl) ?_
          refine lv_iload_n hx hb dL_hangs_583 rfl (lv_at hl 10 rfl) ?_
          refine lv_iload_n hx hb dL_hangs_584 rfl (lv_at hl 9 rfl) ?_
          refine lv_isub hx hb dL_hangs_585 ?_
          refine lv_i2f hx hb dL_hangs_586 ?_
          refine lv_iload_n hx hb dL_hangs_587 rfl (lv_at hl 10 rfl) ?_
          refine lv_i2f hx hb dL_hangs_588 ?_
          refine lv_fdiv hx hb dL_hangs_589 (us_nn nz) ?_
          refine lv_fcmp hx hb dL_hangs_590 ?_
          refine lv_if_ne (tgt := 598) hx hb dL_hangs_591 (by decide) (fun c591_9 => absurd (hus.2.2.2 c568_8) c591_9) (fun _ => ?_)
          exact k594 _ _ hP hS
        · refine lv_fload hx hb dL_hangs_571 (lv_at hl 0 rfl) ?_
          refine lv_fconst0 hx hb dL_hangs_573 ?_
          refine lv_fcmp hx hb dL_hangs_574 ?_
          refine lv_if_ne (tgt := 598) hx hb dL_hangs_575 (by decide) (fun c575_10 => absurd (hus.2.2.1 c568_8) c575_10) (fun _ => ?_)
          refine lv_goto (tgt := 594) hx hb dL_hangs_578 (by decide) ?_
          exact k594 _ _ hP hS
      have k536 : ∀ (H : Heap) (locs : List Loc) (hP : va_P D vwCl (zW a ca (va_up Z 1 T)) H) (hS : va_S (zA a) s.heap H locs), W p l e ({ frames := 7, cells := 0, slots := 0, locals := 159 } : Room) s m ([.ref (a 114)] : List Value).toArray below meth c H locs 0 0 (hQi below D a ca [.ref (a 114)] s Z) (F0 m 536 ls []) := by
        intro H locs hP hS
        refine lv_iload hx hb dL_hangs_536 (lv_at hl 7 rfl) ?_
        refine lv_if_ne (tgt := 553) hx hb dL_hangs_538 (by decide) (fun c538_11 => ?_) (fun c538_11 => ?_)
        · exact k553 _ _ hP hS
        · refine lv_iload hx hb dL_hangs_541 (lv_at hl 1 rfl) ?_
          refine lv_if_gt (tgt := 553) hx hb dL_hangs_543 (by decide) (fun c543_12 => ?_) (fun c543_12 => ?_)
          · exact k553 _ _ hP hS
          · refine lv_iload hx hb dL_hangs_546 (lv_at hl 1 rfl) ?_
            refine lv_ldc (v := (-100005)) hx hb hown (hts (.constant RL 102 (-100005)) (by decide +kernel)) dL_hangs_548 ?_
            refine lv_icmp_ne (tgt := 598) hx hb dL_hangs_550 (by decide) (fun c550_13 => absurd (lf_n hlf (ov_any hov c538_11) c543_12) c550_13) (fun _ => ?_)
            exact k553 _ _ hP hS
      have k519 : ∀ (H : Heap) (locs : List Loc) (hP : va_P D vwCl (zW a ca (va_up Z 1 T)) H) (hS : va_S (zA a) s.heap H locs), W p l e ({ frames := 7, cells := 0, slots := 0, locals := 159 } : Room) s m ([.ref (a 114)] : List Value).toArray below meth c H locs 0 0 (hQi below D a ca [.ref (a 114)] s Z) (F0 m 519 ls []) := by
        intro H locs hP hS
        refine lv_iload hx hb dL_hangs_519 (lv_at hl 7 rfl) ?_
        refine lv_if_eq (tgt := 536) hx hb dL_hangs_521 (by decide) (fun c521_14 => ?_) (fun c521_14 => ?_)
        · exact k536 _ _ hP hS
        · exact absurd (ov_all hov c521_14 t ht) (rdy_0 n2)
      have k501 : ∀ (H : Heap) (locs : List Loc) (hP : va_P D vwCl (zW a ca (va_up Z 1 T)) H) (hS : va_S (zA a) s.heap H locs), W p l e ({ frames := 7, cells := 0, slots := 0, locals := 159 } : Room) s m ([.ref (a 114)] : List Value).toArray below meth c H locs 0 0 (hQi below D a ca [.ref (a 114)] s Z) (F0 m 501 ls []) := by
        intro H locs hP hS
        refine lv_iload hx hb dL_hangs_501 (lv_at hl 6 rfl) ?_
        refine lv_if_eq (tgt := 519) hx hb dL_hangs_503 (by decide) (fun c503_15 => ?_) (fun c503_15 => ?_)
        · exact k519 _ _ hP hS
        · refine lv_aload_n hx hb dL_hangs_506 rfl (lv_at hl 11 rfl) ?_
          refine lv_iconst (v := nI 1) hx hb dL_hangs_507 (by decide) ?_
          have k508 := ct_X6_setting l D a ca hJ (va_up Z 1 T) (nI 1)
          rw [gs_setting1 hMT] at k508
          refine z_cVi (As := [.int (nI 1)]) (rest := []) ⟨hx, hb, hml, hown, hts⟩ (k508) (cwV 1 hts gL_hangs_X6_setting rfl rfl rfl (by decide +kernel) ⟨Nat.le_of_ble_eq_true rfl, Nat.le_of_ble_eq_true rfl⟩) hK hP hS (va_recv (ci := 6) hK.1 hP rfl zW_b) rfl hl.1 rfl (Nat.le_of_ble_eq_true rfl) dL_hangs_508 ⟨Nat.zero_le _, Nat.zero_le _⟩ (fun H locs hP hS => ?_)
          refine lv_if_eq (tgt := 519) hx hb dL_hangs_511 (by decide) (fun c511_16 => ?_) (fun c511_16 => ?_)
          · exact k519 _ _ hP hS
          · refine lv_iload hx hb dL_hangs_514 (lv_at hl 2 rfl) ?_
            refine lv_if_lt (tgt := 598) hx hb dL_hangs_516 (by decide) (fun c516_17 => absurd c516_17 (nI_pos (show t < 2 ^ 31 by omega))) (fun _ => ?_)
            exact k519 _ _ hP hS
      refine lv_iload hx hb dL_hangs_450 (lv_at hl 4 rfl) ?_
      refine lv_if_eq (tgt := 598) hx hb dL_hangs_452 (by decide) (fun c452_18 => absurd c452_18 (by decide)) (fun _ => ?_)
      refine lv_iload_n hx hb dL_hangs_455 rfl (lv_at hl 8 rfl) ?_
      refine lv_iload_n hx hb dL_hangs_456 rfl (lv_at hl 9 rfl) ?_
      refine lv_iadd hx hb dL_hangs_457 ?_
      refine lv_iload_n hx hb dL_hangs_458 rfl (lv_at hl 10 rfl) ?_
      refine lv_icmp_ne (tgt := 598) hx hb dL_hangs_459 (by decide) (fun c459_19 => absurd e17 c459_19) (fun _ => ?_)
      refine lv_aload_n hx hb dL_hangs_462 rfl (lv_at hl 11 rfl) ?_
      refine lv_iload hx hb dL_hangs_463 (lv_at hl 3 rfl) ?_
      refine lv_iconst (v := nI 0) hx hb dL_hangs_465 (by decide) ?_
      have k466 := ct_X6_trace l D a ca hJ (va_up Z 1 T) (nI (zc (M 18 1))) (nI 0) hzT
      rw [gs_trace hMT (show (zc (M 18 1)) < 2 ^ 31 by omega) (show 0 < 3 by decide) (by omega), if_neg (Nat.lt_irrefl _)] at k466
      refine z_cVi (As := [.int (nI (zc (M 18 1))), .int (nI 0)]) (rest := []) ⟨hx, hb, hml, hown, hts⟩ (k466) (cwV 2 hts gL_hangs_X6_trace rfl rfl rfl (by decide +kernel) ⟨Nat.le_of_ble_eq_true rfl, Nat.le_of_ble_eq_true rfl⟩) hK hP hS (va_recv (ci := 6) hK.1 hP rfl zW_b) rfl hl.1 rfl (Nat.le_of_ble_eq_true rfl) dL_hangs_466 ⟨Nat.zero_le _, Nat.zero_le _⟩ (fun H locs hP hS => ?_)
      refine lv_ldc (v := (-100005)) hx hb hown (hts (.constant RL 102 (-100005)) (by decide +kernel)) dL_hangs_469 ?_
      refine lv_icmp_ne (tgt := 598) hx hb dL_hangs_471 (by decide) (fun c471_20 => absurd rfl c471_20) (fun _ => ?_)
      refine lv_iload hx hb dL_hangs_474 (lv_at hl 2 rfl) ?_
      refine lv_ldc (v := (-100005)) hx hb hown (hts (.constant RL 102 (-100005)) (by decide +kernel)) dL_hangs_476 ?_
      refine lv_icmp_eq (tgt := 501) hx hb dL_hangs_478 (by decide) (fun c478_21 => absurd c478_21 (q_t5 ht)) (fun _ => ?_)
      refine lv_iload hx hb dL_hangs_481 (lv_at hl 2 rfl) ?_
      refine lv_if_lt (tgt := 598) hx hb dL_hangs_483 (by decide) (fun c483_22 => absurd c483_22 (nI_pos (show t < 2 ^ 31 by omega))) (fun _ => ?_)
      refine lv_iload hx hb dL_hangs_486 (lv_at hl 2 rfl) ?_
      refine lv_iconst (v := nI 4) hx hb dL_hangs_488 (by decide) ?_
      refine lv_icmp_ge (tgt := 598) hx hb dL_hangs_489 (by decide) (fun c489_23 => absurd c489_23 (nI_ge ht (by decide))) (fun _ => ?_)
      refine lv_aload_n hx hb dL_hangs_492 rfl (lv_at hl 11 rfl) ?_
      refine lv_iload hx hb dL_hangs_493 (lv_at hl 2 rfl) ?_
      have k495 := ct_X6_state l D a ca hJ (va_up Z 1 T) (nI t)
      rw [gs_state hMT ht] at k495
      refine z_cVi (As := [.int (nI t)]) (rest := []) ⟨hx, hb, hml, hown, hts⟩ (k495) (cwV 1 hts gL_hangs_X6_state rfl rfl rfl (by decide +kernel) ⟨Nat.le_of_ble_eq_true rfl, Nat.le_of_ble_eq_true rfl⟩) hK hP hS (va_recv (ci := 6) hK.1 hP rfl zW_b) rfl hl.1 rfl (Nat.le_of_ble_eq_true rfl) dL_hangs_495 ⟨Nat.zero_le _, Nat.zero_le _⟩ (fun H locs hP hS => ?_)
      refine lv_if_le (tgt := 598) hx hb dL_hangs_498 (by decide) (fun c498_24 => absurd c498_24 (pos_in (s0 t ht) (rdy_0 n2))) (fun _ => ?_)
      exact k501 _ _ hP hS
  have lp2 : ∀ (n k : Nat) (last ov rd br : Int32) (H : Heap) (locs : List Loc) (ls : Array Slot) (hn : k + n = 16) (hlast : k ≤ zc (M 18 1) → last = (if k = 0 then M 16 0 else tr M (k - 1) 0)) (hov : ovP M 4 ov) (hrd : rdP M (nI 1) 4 rd) (hbr : rdP M (nI 3) 4 br) (hl : lv_has ls 16 [(10, .int (nI k)), (9, .int last), (8, .int (nI (zc (M 18 1)))), (7, .int (nI 1)), (6, .int br), (5, .int rd), (4, .int ov), (3, .int (nI (sxf (M 6)))), (2, .int (M 17 0)), (1, .int (M 16 0)), (0, .ref (a 114))]) (hP : va_P D vwCl (zW a ca Z) H) (hS : va_S (zA a) s.heap H locs), W p l e ({ frames := 7, cells := 0, slots := 0, locals := 159 } : Room) s m ([.ref (a 114)] : List Value).toArray below meth c H locs 0 0 (hQi below D a ca [.ref (a 114)] s Z) (F0 m 305 ls []) := by
    intro n
    induction n with
    | zero =>
      intro k last ov rd br H locs ls hn hlast hov hrd hbr hl hP hS
      refine lv_iload hx hb dL_hangs_305 (lv_at hl 0 rfl) ?_
      refine lv_bipush (v := nI 16) hx hb dL_hangs_307 (by decide) ?_
      refine lv_icmp_ge (tgt := 432) hx hb dL_hangs_309 (by decide) (fun _ => ?_) (fun c309_1 => absurd (nI_le (by omega) (by omega)) c309_1)
      exact k432 ov rd br _ _ _ hov hrd hbr (lv_sub hl [2, 3, 4, 5, 6, 7, 8, 9, 10] rfl) hP hS
    | succ n ih =>
      intro k last ov rd br H locs ls hn hlast hov hrd hbr hl hP hS
      by_cases hk : k < zc (M 18 1)
      · have el := hlast (by omega)
        obtain ⟨r0, r1, r2, -⟩ := t7 k hk
        refine lv_iload hx hb dL_hangs_305 (lv_at hl 0 rfl) ?_
        refine lv_bipush (v := nI 16) hx hb dL_hangs_307 (by decide) ?_
        refine lv_icmp_ge (tgt := 432) hx hb dL_hangs_309 (by decide) (fun c309_1 => absurd c309_1 (nI_ge (show k < 16 by omega) (by decide))) (fun _ => ?_)
        refine lv_iload hx hb dL_hangs_312 (lv_at hl 3 rfl) ?_
        refine lv_if_eq (tgt := 432) hx hb dL_hangs_314 (by decide) (fun c314_2 => absurd c314_2 (by decide)) (fun _ => ?_)
        refine lv_aload_n hx hb dL_hangs_317 rfl (lv_at hl 10 rfl) ?_
        refine lv_iload hx hb dL_hangs_318 (lv_at hl 0 rfl) ?_
        refine lv_iconst (v := nI 0) hx hb dL_hangs_320 (by decide) ?_
        have k321 := ct_X6_trace l D a ca hJ Z (nI k) (nI 0) hz
        rw [gs_trace hM (show k < 2 ^ 31 by omega) (show 0 < 3 by decide) (by omega), if_pos hk] at k321
        refine z_cVi (As := [.int (nI k), .int (nI 0)]) (rest := []) ⟨hx, hb, hml, hown, hts⟩ (k321) (cwV 2 hts gL_hangs_X6_trace rfl rfl rfl (by decide +kernel) ⟨Nat.le_of_ble_eq_true rfl, Nat.le_of_ble_eq_true rfl⟩) hK hP hS (va_recv (ci := 6) hK.1 hP rfl zW_b) rfl hl.1 rfl (Nat.le_of_ble_eq_true rfl) dL_hangs_321 ⟨Nat.zero_le _, Nat.zero_le _⟩ (fun H locs hP hS => ?_)
        refine lv_istore (lv' := [(11, .int (tr M k 0)), (10, .int (nI k)), (9, .int last), (8, .int (nI (zc (M 18 1)))), (7, .int (nI 1)), (6, .int br), (5, .int rd), (4, .int ov), (3, .int (nI (sxf (M 6)))), (2, .int (M 17 0)), (1, .int (M 16 0)), (0, .ref (a 114))]) hx hb dL_hangs_324 hl (by decide) rfl (fun ls hl => ?_)
        refine lv_iload hx hb dL_hangs_326 (lv_at hl 1 rfl) ?_
        refine lv_iload hx hb dL_hangs_328 (lv_at hl 3 rfl) ?_
        refine lv_icmp_ge (tgt := 396) hx hb dL_hangs_330 (by decide) (fun c330_3 => absurd c330_3 (nI_ge hk (by omega))) (fun _ => ?_)
        refine lv_iload hx hb dL_hangs_333 (lv_at hl 0 rfl) ?_
        refine lv_if_lt (tgt := 392) hx hb dL_hangs_335 (by decide) (fun c335_4 => absurd c335_4 (nn_in r0)) (fun _ => ?_)
        refine lv_iload hx hb dL_hangs_338 (lv_at hl 0 rfl) ?_
        refine lv_iload hx hb dL_hangs_340 (lv_at hl 2 rfl) ?_
        refine lv_icmp_ge (tgt := 392) hx hb dL_hangs_342 (by decide) (fun c342_5 => absurd c342_5 (tr_lt t1 t7 hk el)) (fun _ => ?_)
        refine lv_aload_n hx hb dL_hangs_345 rfl (lv_at hl 11 rfl) ?_
        refine lv_iload hx hb dL_hangs_346 (lv_at hl 1 rfl) ?_
        refine lv_iconst (v := nI 1) hx hb dL_hangs_348 (by decide) ?_
        have k349 := ct_X6_trace l D a ca hJ Z (nI k) (nI 1) hz
        rw [gs_trace hM (show k < 2 ^ 31 by omega) (show 1 < 3 by decide) (by omega), if_pos hk] at k349
        refine z_cVi (As := [.int (nI k), .int (nI 1)]) (rest := []) ⟨hx, hb, hml, hown, hts⟩ (k349) (cwV 2 hts gL_hangs_X6_trace rfl rfl rfl (by decide +kernel) ⟨Nat.le_of_ble_eq_true rfl, Nat.le_of_ble_eq_true rfl⟩) hK hP hS (va_recv (ci := 6) hK.1 hP rfl zW_b) rfl hl.1 rfl (Nat.le_of_ble_eq_true rfl) dL_hangs_349 ⟨Nat.zero_le _, Nat.zero_le _⟩ (fun H locs hP hS => ?_)
        refine lv_if_lt (tgt := 392) hx hb dL_hangs_352 (by decide) (fun c352_6 => absurd c352_6 (nn_in r1)) (fun _ => ?_)
        refine lv_aload_n hx hb dL_hangs_355 rfl (lv_at hl 11 rfl) ?_
        refine lv_iload hx hb dL_hangs_356 (lv_at hl 1 rfl) ?_
        refine lv_iconst (v := nI 1) hx hb dL_hangs_358 (by decide) ?_
        have k359 := ct_X6_trace l D a ca hJ Z (nI k) (nI 1) hz
        rw [gs_trace hM (show k < 2 ^ 31 by omega) (show 1 < 3 by decide) (by omega), if_pos hk] at k359
        refine z_cVi (As := [.int (nI k), .int (nI 1)]) (rest := []) ⟨hx, hb, hml, hown, hts⟩ (k359) (cwV 2 hts gL_hangs_X6_trace rfl rfl rfl (by decide +kernel) ⟨Nat.le_of_ble_eq_true rfl, Nat.le_of_ble_eq_true rfl⟩) hK hP hS (va_recv (ci := 6) hK.1 hP rfl zW_b) rfl hl.1 rfl (Nat.le_of_ble_eq_true rfl) dL_hangs_359 ⟨Nat.zero_le _, Nat.zero_le _⟩ (fun H locs hP hS => ?_)
        refine lv_iconst (v := nI 4) hx hb dL_hangs_362 (by decide) ?_
        refine lv_icmp_ge (tgt := 392) hx hb dL_hangs_363 (by decide) (fun c363_7 => absurd c363_7 (ng_in r1 (by decide))) (fun _ => ?_)
        refine lv_aload_n hx hb dL_hangs_366 rfl (lv_at hl 11 rfl) ?_
        refine lv_iload hx hb dL_hangs_367 (lv_at hl 1 rfl) ?_
        refine lv_iconst (v := nI 2) hx hb dL_hangs_369 (by decide) ?_
        have k370 := ct_X6_trace l D a ca hJ Z (nI k) (nI 2) hz
        rw [gs_trace hM (show k < 2 ^ 31 by omega) (show 2 < 3 by decide) (by omega), if_pos hk] at k370
        refine z_cVi (As := [.int (nI k), .int (nI 2)]) (rest := []) ⟨hx, hb, hml, hown, hts⟩ (k370) (cwV 2 hts gL_hangs_X6_trace rfl rfl rfl (by decide +kernel) ⟨Nat.le_of_ble_eq_true rfl, Nat.le_of_ble_eq_true rfl⟩) hK hP hS (va_recv (ci := 6) hK.1 hP rfl zW_b) rfl hl.1 rfl (Nat.le_of_ble_eq_true rfl) dL_hangs_370 ⟨Nat.zero_le _, Nat.zero_le _⟩ (fun H locs hP hS => ?_)
        refine lv_if_lt (tgt := 392) hx hb dL_hangs_373 (by decide) (fun c373_8 => absurd c373_8 (nn_in r2)) (fun _ => ?_)
        refine lv_aload_n hx hb dL_hangs_376 rfl (lv_at hl 11 rfl) ?_
        refine lv_iload hx hb dL_hangs_377 (lv_at hl 1 rfl) ?_
        refine lv_iconst (v := nI 2) hx hb dL_hangs_379 (by decide) ?_
        have k380 := ct_X6_trace l D a ca hJ Z (nI k) (nI 2) hz
        rw [gs_trace hM (show k < 2 ^ 31 by omega) (show 2 < 3 by decide) (by omega), if_pos hk] at k380
        refine z_cVi (As := [.int (nI k), .int (nI 2)]) (rest := []) ⟨hx, hb, hml, hown, hts⟩ (k380) (cwV 2 hts gL_hangs_X6_trace rfl rfl rfl (by decide +kernel) ⟨Nat.le_of_ble_eq_true rfl, Nat.le_of_ble_eq_true rfl⟩) hK hP hS (va_recv (ci := 6) hK.1 hP rfl zW_b) rfl hl.1 rfl (Nat.le_of_ble_eq_true rfl) dL_hangs_380 ⟨Nat.zero_le _, Nat.zero_le _⟩ (fun H locs hP hS => ?_)
        refine lv_bipush (v := nI 49) hx hb dL_hangs_383 (by decide) ?_
        refine lv_icmp_ge (tgt := 392) hx hb dL_hangs_385 (by decide) (fun c385_9 => absurd c385_9 (ng_in r2 (by decide))) (fun _ => ?_)
        refine lv_iconst (v := nI 1) hx hb dL_hangs_388 (by decide) ?_
        refine lv_goto (tgt := 420) hx hb dL_hangs_389 (by decide) ?_
        refine lv_istore (lv' := [(7, .int (nI 1)), (11, .int (tr M k 0)), (10, .int (nI k)), (9, .int last), (8, .int (nI (zc (M 18 1)))), (6, .int br), (5, .int rd), (4, .int ov), (3, .int (nI (sxf (M 6)))), (2, .int (M 17 0)), (1, .int (M 16 0)), (0, .ref (a 114))]) hx hb dL_hangs_420 hl (by decide) rfl (fun ls hl => ?_)
        refine lv_iload hx hb dL_hangs_422 (lv_at hl 1 rfl) ?_
        refine lv_istore (lv' := [(9, .int (tr M k 0)), (7, .int (nI 1)), (11, .int (tr M k 0)), (10, .int (nI k)), (8, .int (nI (zc (M 18 1)))), (6, .int br), (5, .int rd), (4, .int ov), (3, .int (nI (sxf (M 6)))), (2, .int (M 17 0)), (1, .int (M 16 0)), (0, .ref (a 114))]) hx hb dL_hangs_424 hl (by decide) rfl (fun ls hl => ?_)
        refine lv_iinc (v := nI (k + 1)) (lv' := [(10, .int (nI (k + 1))), (9, .int (tr M k 0)), (7, .int (nI 1)), (11, .int (tr M k 0)), (8, .int (nI (zc (M 18 1)))), (6, .int br), (5, .int rd), (4, .int ov), (3, .int (nI (sxf (M 6)))), (2, .int (M 17 0)), (1, .int (M 16 0)), (0, .ref (a 114))]) hx hb dL_hangs_426 hl (k := 3) rfl (nI_add _ _) (by decide) rfl (fun ls hl => ?_)
        refine lv_goto (tgt := 305) hx hb dL_hangs_429 (by decide) ?_
        exact ih (k + 1) _ ov rd br _ _ _ (by omega) (fun _ => (if_neg (by omega)).symm) hov hrd hbr (lv_sub hl [0, 1, 4, 2, 5, 6, 7, 8, 9, 10, 11] rfl) hP hS
      · skip
        refine lv_iload hx hb dL_hangs_305 (lv_at hl 0 rfl) ?_
        refine lv_bipush (v := nI 16) hx hb dL_hangs_307 (by decide) ?_
        refine lv_icmp_ge (tgt := 432) hx hb dL_hangs_309 (by decide) (fun c309_1 => absurd c309_1 (nI_ge (show k < 16 by omega) (by decide))) (fun _ => ?_)
        refine lv_iload hx hb dL_hangs_312 (lv_at hl 3 rfl) ?_
        refine lv_if_eq (tgt := 432) hx hb dL_hangs_314 (by decide) (fun c314_2 => absurd c314_2 (by decide)) (fun _ => ?_)
        refine lv_aload_n hx hb dL_hangs_317 rfl (lv_at hl 10 rfl) ?_
        refine lv_iload hx hb dL_hangs_318 (lv_at hl 0 rfl) ?_
        refine lv_iconst (v := nI 0) hx hb dL_hangs_320 (by decide) ?_
        have k321 := ct_X6_trace l D a ca hJ Z (nI k) (nI 0) hz
        rw [gs_trace hM (show k < 2 ^ 31 by omega) (show 0 < 3 by decide) (by omega), if_neg hk] at k321
        refine z_cVi (As := [.int (nI k), .int (nI 0)]) (rest := []) ⟨hx, hb, hml, hown, hts⟩ (k321) (cwV 2 hts gL_hangs_X6_trace rfl rfl rfl (by decide +kernel) ⟨Nat.le_of_ble_eq_true rfl, Nat.le_of_ble_eq_true rfl⟩) hK hP hS (va_recv (ci := 6) hK.1 hP rfl zW_b) rfl hl.1 rfl (Nat.le_of_ble_eq_true rfl) dL_hangs_321 ⟨Nat.zero_le _, Nat.zero_le _⟩ (fun H locs hP hS => ?_)
        refine lv_istore (lv' := [(11, .int (-100005)), (10, .int (nI k)), (9, .int last), (8, .int (nI (zc (M 18 1)))), (7, .int (nI 1)), (6, .int br), (5, .int rd), (4, .int ov), (3, .int (nI (sxf (M 6)))), (2, .int (M 17 0)), (1, .int (M 16 0)), (0, .ref (a 114))]) hx hb dL_hangs_324 hl (by decide) rfl (fun ls hl => ?_)
        refine lv_iload hx hb dL_hangs_326 (lv_at hl 1 rfl) ?_
        refine lv_iload hx hb dL_hangs_328 (lv_at hl 3 rfl) ?_
        refine lv_icmp_ge (tgt := 396) hx hb dL_hangs_330 (by decide) (fun _ => ?_) (fun c330_3 => absurd (nI_le (show zc (M 18 1) ≤ k by omega) (by omega)) c330_3)
        refine lv_iload hx hb dL_hangs_396 (lv_at hl 0 rfl) ?_
        refine lv_ldc (v := (-100005)) hx hb hown (hts (.constant RL 102 (-100005)) (by decide +kernel)) dL_hangs_398 ?_
        refine lv_icmp_ne (tgt := 419) hx hb dL_hangs_400 (by decide) (fun c400_4 => absurd rfl c400_4) (fun _ => ?_)
        refine lv_aload_n hx hb dL_hangs_403 rfl (lv_at hl 11 rfl) ?_
        refine lv_iload hx hb dL_hangs_404 (lv_at hl 1 rfl) ?_
        refine lv_iconst (v := nI 2) hx hb dL_hangs_406 (by decide) ?_
        have k407 := ct_X6_trace l D a ca hJ Z (nI k) (nI 2) hz
        rw [gs_trace hM (show k < 2 ^ 31 by omega) (show 2 < 3 by decide) (by omega), if_neg hk] at k407
        refine z_cVi (As := [.int (nI k), .int (nI 2)]) (rest := []) ⟨hx, hb, hml, hown, hts⟩ (k407) (cwV 2 hts gL_hangs_X6_trace rfl rfl rfl (by decide +kernel) ⟨Nat.le_of_ble_eq_true rfl, Nat.le_of_ble_eq_true rfl⟩) hK hP hS (va_recv (ci := 6) hK.1 hP rfl zW_b) rfl hl.1 rfl (Nat.le_of_ble_eq_true rfl) dL_hangs_407 ⟨Nat.zero_le _, Nat.zero_le _⟩ (fun H locs hP hS => ?_)
        refine lv_ldc (v := (-100005)) hx hb hown (hts (.constant RL 102 (-100005)) (by decide +kernel)) dL_hangs_410 ?_
        refine lv_icmp_ne (tgt := 419) hx hb dL_hangs_412 (by decide) (fun c412_5 => absurd rfl c412_5) (fun _ => ?_)
        refine lv_iconst (v := nI 1) hx hb dL_hangs_415 (by decide) ?_
        refine lv_goto (tgt := 420) hx hb dL_hangs_416 (by decide) ?_
        refine lv_istore (lv' := [(7, .int (nI 1)), (11, .int (-100005)), (10, .int (nI k)), (9, .int last), (8, .int (nI (zc (M 18 1)))), (6, .int br), (5, .int rd), (4, .int ov), (3, .int (nI (sxf (M 6)))), (2, .int (M 17 0)), (1, .int (M 16 0)), (0, .ref (a 114))]) hx hb dL_hangs_420 hl (by decide) rfl (fun ls hl => ?_)
        refine lv_iload hx hb dL_hangs_422 (lv_at hl 1 rfl) ?_
        refine lv_istore (lv' := [(9, .int (-100005)), (7, .int (nI 1)), (11, .int (-100005)), (10, .int (nI k)), (8, .int (nI (zc (M 18 1)))), (6, .int br), (5, .int rd), (4, .int ov), (3, .int (nI (sxf (M 6)))), (2, .int (M 17 0)), (1, .int (M 16 0)), (0, .ref (a 114))]) hx hb dL_hangs_424 hl (by decide) rfl (fun ls hl => ?_)
        refine lv_iinc (v := nI (k + 1)) (lv' := [(10, .int (nI (k + 1))), (9, .int (-100005)), (7, .int (nI 1)), (11, .int (-100005)), (8, .int (nI (zc (M 18 1)))), (6, .int br), (5, .int rd), (4, .int ov), (3, .int (nI (sxf (M 6)))), (2, .int (M 17 0)), (1, .int (M 16 0)), (0, .ref (a 114))]) hx hb dL_hangs_426 hl (k := 3) rfl (nI_add _ _) (by decide) rfl (fun ls hl => ?_)
        refine lv_goto (tgt := 305) hx hb dL_hangs_429 (by decide) ?_
        exact ih (k + 1) _ ov rd br _ _ _ (by omega) (fun q => absurd q (by omega)) hov hrd hbr (lv_sub hl [0, 1, 4, 2, 5, 6, 7, 8, 9, 10, 11] rfl) hP hS
  have k285 : ∀ (ov rd br : Int32) (H : Heap) (locs : List Loc) (ls : Array Slot) (hov : ovP M 4 ov) (hrd : rdP M (nI 1) 4 rd) (hbr : rdP M (nI 3) 4 br) (hl : lv_has ls 16 [(7, .int (nI 1)), (6, .int br), (5, .int rd), (4, .int ov), (3, .int (nI (sxf (M 6)))), (2, .int (M 17 0)), (1, .int (M 16 0)), (0, .ref (a 114))]) (hP : va_P D vwCl (zW a ca Z) H) (hS : va_S (zA a) s.heap H locs), W p l e ({ frames := 7, cells := 0, slots := 0, locals := 159 } : Room) s m ([.ref (a 114)] : List Value).toArray below meth c H locs 0 0 (hQi below D a ca [.ref (a 114)] s Z) (F0 m 285 ls []) := by
    intro ov rd br H locs ls hov hrd hbr hl hP hS
    refine lv_iload_n hx hb dL_hangs_285 rfl (lv_at hl 4 rfl) ?_
    refine lv_bipush (v := nI 16) hx hb dL_hangs_286 (by decide) ?_
    refine lv_icmp_ge (tgt := 295) hx hb dL_hangs_288 (by decide) (fun c288_1 => ?_) (fun c288_1 => ?_)
    · refine lv_bipush (v := nI 16) hx hb dL_hangs_295 (by decide) ?_
      refine z_val (z := nI (zc (M 18 1))) (mn_hi t62 c288_1 e31) ?_
      refine lv_istore (lv' := [(8, .int (nI (zc (M 18 1)))), (7, .int (nI 1)), (6, .int br), (5, .int rd), (4, .int ov), (3, .int (nI (sxf (M 6)))), (2, .int (M 17 0)), (1, .int (M 16 0)), (0, .ref (a 114))]) hx hb dL_hangs_297 hl (by decide) rfl (fun ls hl => ?_)
      refine lv_iload_n hx hb dL_hangs_299 rfl (lv_at hl 7 rfl) ?_
      refine lv_istore (lv' := [(9, .int (M 16 0)), (8, .int (nI (zc (M 18 1)))), (7, .int (nI 1)), (6, .int br), (5, .int rd), (4, .int ov), (3, .int (nI (sxf (M 6)))), (2, .int (M 17 0)), (1, .int (M 16 0)), (0, .ref (a 114))]) hx hb dL_hangs_300 hl (by decide) rfl (fun ls hl => ?_)
      refine lv_iconst (v := nI 0) hx hb dL_hangs_302 (by decide) ?_
      refine lv_istore (lv' := [(10, .int (nI 0)), (9, .int (M 16 0)), (8, .int (nI (zc (M 18 1)))), (7, .int (nI 1)), (6, .int br), (5, .int rd), (4, .int ov), (3, .int (nI (sxf (M 6)))), (2, .int (M 17 0)), (1, .int (M 16 0)), (0, .ref (a 114))]) hx hb dL_hangs_303 hl (by decide) rfl (fun ls hl => ?_)
      exact lp2 16 0 (M 16 0) ov rd br _ _ _ rfl (fun _ => rfl) hov hrd hbr (lv_sub hl [0, 1, 2, 3, 4, 5, 6, 7, 8, 9, 10] rfl) hP hS
    · refine lv_iload_n hx hb dL_hangs_291 rfl (lv_at hl 4 rfl) ?_
      refine lv_goto (tgt := 297) hx hb dL_hangs_292 (by decide) ?_
      refine z_val (z := nI (zc (M 18 1))) (mn_lo t62 c288_1 e31) ?_
      refine lv_istore (lv' := [(8, .int (nI (zc (M 18 1)))), (7, .int (nI 1)), (6, .int br), (5, .int rd), (4, .int ov), (3, .int (nI (sxf (M 6)))), (2, .int (M 17 0)), (1, .int (M 16 0)), (0, .ref (a 114))]) hx hb dL_hangs_297 hl (by decide) rfl (fun ls hl => ?_)
      refine lv_iload_n hx hb dL_hangs_299 rfl (lv_at hl 7 rfl) ?_
      refine lv_istore (lv' := [(9, .int (M 16 0)), (8, .int (nI (zc (M 18 1)))), (7, .int (nI 1)), (6, .int br), (5, .int rd), (4, .int ov), (3, .int (nI (sxf (M 6)))), (2, .int (M 17 0)), (1, .int (M 16 0)), (0, .ref (a 114))]) hx hb dL_hangs_300 hl (by decide) rfl (fun ls hl => ?_)
      refine lv_iconst (v := nI 0) hx hb dL_hangs_302 (by decide) ?_
      refine lv_istore (lv' := [(10, .int (nI 0)), (9, .int (M 16 0)), (8, .int (nI (zc (M 18 1)))), (7, .int (nI 1)), (6, .int br), (5, .int rd), (4, .int ov), (3, .int (nI (sxf (M 6)))), (2, .int (M 17 0)), (1, .int (M 16 0)), (0, .ref (a 114))]) hx hb dL_hangs_303 hl (by decide) rfl (fun ls hl => ?_)
      exact lp2 16 0 (M 16 0) ov rd br _ _ _ rfl (fun _ => rfl) hov hrd hbr (lv_sub hl [0, 1, 2, 3, 4, 5, 6, 7, 8, 9, 10] rfl) hP hS
  have lp1 : ∀ (n x : Nat) (ov rd br : Int32) (H : Heap) (locs : List Loc) (ls : Array Slot) (hn : x + n = 4) (hov : ovP M x ov) (hrd : rdP M (nI 1) x rd) (hbr : rdP M (nI 3) x br) (hl : lv_has ls 16 [(8, .int (nI x)), (7, .int (nI 1)), (6, .int br), (5, .int rd), (4, .int ov), (3, .int (nI (sxp (M 6) x))), (2, .int (M 17 0)), (1, .int (M 16 0)), (0, .ref (a 114))]) (hP : va_P D vwCl (zW a ca Z) H) (hS : va_S (zA a) s.heap H locs), W p l e ({ frames := 7, cells := 0, slots := 0, locals := 159 } : Room) s m ([.ref (a 114)] : List Value).toArray below meth c H locs 0 0 (hQi below D a ca [.ref (a 114)] s Z) (F0 m 79 ls []) := by
    intro n
    induction n with
    | zero =>
      intro x ov rd br H locs ls hn hov hrd hbr hl hP hS
      have ex : x = 4 := by omega
      subst ex
      rw [sx_4] at hl
      refine lv_iload hx hb dL_hangs_79 (lv_at hl 0 rfl) ?_
      refine lv_iconst (v := nI 4) hx hb dL_hangs_81 (by decide) ?_
      refine lv_icmp_ge (tgt := 285) hx hb dL_hangs_82 (by decide) (fun _ => ?_) (fun c82_1 => absurd (nI_le (show 4 ≤ 4 by decide) (by decide)) c82_1)
      exact k285 ov rd br _ _ _ hov hrd hbr (lv_sub hl [1, 2, 3, 4, 5, 6, 7, 8] rfl) hP hS
    | succ n ih =>
      intro x ov rd br H locs ls hn hov hrd hbr hl hP hS
      have hx4 : x < 4 := by omega
      refine lv_iload hx hb dL_hangs_79 (lv_at hl 0 rfl) ?_
      refine lv_iconst (v := nI 4) hx hb dL_hangs_81 (by decide) ?_
      refine lv_icmp_ge (tgt := 285) hx hb dL_hangs_82 (by decide) (fun c82_1 => absurd c82_1 (nI_ge hx4 (by decide))) (fun _ => ?_)
      refine lv_iload hx hb dL_hangs_85 (lv_at hl 1 rfl) ?_
      refine lv_if_eq (tgt := 285) hx hb dL_hangs_87 (by decide) (fun c87_2 => absurd c87_2 (by decide)) (fun _ => ?_)
      refine lv_aload_n hx hb dL_hangs_90 rfl (lv_at hl 8 rfl) ?_
      refine lv_iload hx hb dL_hangs_91 (lv_at hl 0 rfl) ?_
      have k93 := ct_X6_state l D a ca hJ Z (nI x)
      rw [gs_state hM hx4] at k93
      refine z_cVi (As := [.int (nI x)]) (rest := []) ⟨hx, hb, hml, hown, hts⟩ (k93) (cwV 1 hts gL_hangs_X6_state rfl rfl rfl (by decide +kernel) ⟨Nat.le_of_ble_eq_true rfl, Nat.le_of_ble_eq_true rfl⟩) hK hP hS (va_recv (ci := 6) hK.1 hP rfl zW_b) rfl hl.1 rfl (Nat.le_of_ble_eq_true rfl) dL_hangs_93 ⟨Nat.zero_le _, Nat.zero_le _⟩ (fun H locs hP hS => ?_)
      refine lv_istore (lv' := [(9, .int (M 0 x)), (8, .int (nI x)), (7, .int (nI 1)), (6, .int br), (5, .int rd), (4, .int ov), (3, .int (nI (sxp (M 6) x))), (2, .int (M 17 0)), (1, .int (M 16 0)), (0, .ref (a 114))]) hx hb dL_hangs_96 hl (by decide) rfl (fun ls hl => ?_)
      refine lv_iload_n hx hb dL_hangs_98 rfl (lv_at hl 6 rfl) ?_
      refine lv_aload_n hx hb dL_hangs_99 rfl (lv_at hl 9 rfl) ?_
      refine lv_iload hx hb dL_hangs_100 (lv_at hl 1 rfl) ?_
      have k102 := ct_X6_executed l D a ca hJ Z (nI x)
      rw [gs_executed hM hx4] at k102
      refine z_cVi (As := [.int (nI x)]) (rest := [.int (nI (sxp (M 6) x))]) ⟨hx, hb, hml, hown, hts⟩ (k102) (cwV 1 hts gL_hangs_X6_executed rfl rfl rfl (by decide +kernel) ⟨Nat.le_of_ble_eq_true rfl, Nat.le_of_ble_eq_true rfl⟩) hK hP hS (va_recv (ci := 6) hK.1 hP rfl zW_b) rfl hl.1 rfl (Nat.le_of_ble_eq_true rfl) dL_hangs_102 ⟨Nat.zero_le _, Nat.zero_le _⟩ (fun H locs hP hS => ?_)
      refine lv_iadd hx hb dL_hangs_105 ?_
      refine z_val (z := nI (sxp (M 6) (x + 1))) (sx_s (t3 x hx4).1) ?_
      refine lv_istore_n (lv' := [(3, .int (nI (sxp (M 6) (x + 1)))), (9, .int (M 0 x)), (8, .int (nI x)), (7, .int (nI 1)), (6, .int br), (5, .int rd), (4, .int ov), (2, .int (M 17 0)), (1, .int (M 16 0)), (0, .ref (a 114))]) hx hb dL_hangs_106 rfl hl (by decide) rfl (fun ls hl => ?_)
      have k122 : ∀ (ov1 : Int32) (hov1 : ovP M (x + 1) ov1), W p l e ({ frames := 7, cells := 0, slots := 0, locals := 159 } : Room) s m ([.ref (a 114)] : List Value).toArray below meth c H locs 0 0 (hQi below D a ca [.ref (a 114)] s Z) (F0 m 122 ls [.int ov1]) := by
        intro ov1 hov1
        refine lv_istore (lv' := [(4, .int ov1), (3, .int (nI (sxp (M 6) (x + 1)))), (9, .int (M 0 x)), (8, .int (nI x)), (7, .int (nI 1)), (6, .int br), (5, .int rd), (2, .int (M 17 0)), (1, .int (M 16 0)), (0, .ref (a 114))]) hx hb dL_hangs_122 hl (by decide) rfl (fun ls hl => ?_)
        have k140 : ∀ (rd1 : Int32) (hrd1 : rdP M (nI 1) (x + 1) rd1), W p l e ({ frames := 7, cells := 0, slots := 0, locals := 159 } : Room) s m ([.ref (a 114)] : List Value).toArray below meth c H locs 0 0 (hQi below D a ca [.ref (a 114)] s Z) (F0 m 140 ls [.int rd1]) := by
          intro rd1 hrd1
          refine lv_istore (lv' := [(5, .int rd1), (4, .int ov1), (3, .int (nI (sxp (M 6) (x + 1)))), (9, .int (M 0 x)), (8, .int (nI x)), (7, .int (nI 1)), (6, .int br), (2, .int (M 17 0)), (1, .int (M 16 0)), (0, .ref (a 114))]) hx hb dL_hangs_140 hl (by decide) rfl (fun ls hl => ?_)
          have k158 : ∀ (br1 : Int32) (hbr1 : rdP M (nI 3) (x + 1) br1), W p l e ({ frames := 7, cells := 0, slots := 0, locals := 159 } : Room) s m ([.ref (a 114)] : List Value).toArray below meth c H locs 0 0 (hQi below D a ca [.ref (a 114)] s Z) (F0 m 158 ls [.int br1]) := by
            intro br1 hbr1
            refine lv_istore (lv' := [(6, .int br1), (5, .int rd1), (4, .int ov1), (3, .int (nI (sxp (M 6) (x + 1)))), (9, .int (M 0 x)), (8, .int (nI x)), (7, .int (nI 1)), (2, .int (M 17 0)), (1, .int (M 16 0)), (0, .ref (a 114))]) hx hb dL_hangs_158 hl (by decide) rfl (fun ls hl => ?_)
            refine lv_iload hx hb dL_hangs_160 (lv_at hl 4 rfl) ?_
            refine lv_if_lt (tgt := 276) hx hb dL_hangs_162 (by decide) (fun c162_3 => absurd c162_3 (nn_in (s0 x hx4))) (fun _ => ?_)
            refine lv_iload hx hb dL_hangs_165 (lv_at hl 4 rfl) ?_
            refine lv_iconst (v := nI 4) hx hb dL_hangs_167 (by decide) ?_
            refine lv_icmp_ge (tgt := 276) hx hb dL_hangs_168 (by decide) (fun c168_4 => absurd c168_4 (ng_in (s0 x hx4) (by decide))) (fun _ => ?_)
            refine lv_aload_n hx hb dL_hangs_171 rfl (lv_at hl 9 rfl) ?_
            refine lv_iload hx hb dL_hangs_172 (lv_at hl 5 rfl) ?_
            have k174 := ct_X6_programCounter l D a ca hJ Z (nI x)
            rw [gs_programCounter hM hx4] at k174
            refine z_cVi (As := [.int (nI x)]) (rest := []) ⟨hx, hb, hml, hown, hts⟩ (k174) (cwV 1 hts gL_hangs_X6_programCounter rfl rfl rfl (by decide +kernel) ⟨Nat.le_of_ble_eq_true rfl, Nat.le_of_ble_eq_true rfl⟩) hK hP hS (va_recv (ci := 6) hK.1 hP rfl zW_b) rfl hl.1 rfl (Nat.le_of_ble_eq_true rfl) dL_hangs_174 ⟨Nat.zero_le _, Nat.zero_le _⟩ (fun H locs hP hS => ?_)
            refine lv_if_lt (tgt := 276) hx hb dL_hangs_177 (by decide) (fun c177_5 => absurd c177_5 (nn_in (s1 x hx4))) (fun _ => ?_)
            refine lv_aload_n hx hb dL_hangs_180 rfl (lv_at hl 9 rfl) ?_
            refine lv_iload hx hb dL_hangs_181 (lv_at hl 5 rfl) ?_
            have k183 := ct_X6_programCounter l D a ca hJ Z (nI x)
            rw [gs_programCounter hM hx4] at k183
            refine z_cVi (As := [.int (nI x)]) (rest := []) ⟨hx, hb, hml, hown, hts⟩ (k183) (cwV 1 hts gL_hangs_X6_programCounter rfl rfl rfl (by decide +kernel) ⟨Nat.le_of_ble_eq_true rfl, Nat.le_of_ble_eq_true rfl⟩) hK hP hS (va_recv (ci := 6) hK.1 hP rfl zW_b) rfl hl.1 rfl (Nat.le_of_ble_eq_true rfl) dL_hangs_183 ⟨Nat.zero_le _, Nat.zero_le _⟩ (fun H locs hP hS => ?_)
            refine lv_bipush (v := nI 49) hx hb dL_hangs_186 (by decide) ?_
            refine lv_icmp_ge (tgt := 276) hx hb dL_hangs_188 (by decide) (fun c188_6 => absurd c188_6 (ng_in (s1 x hx4) (by decide))) (fun _ => ?_)
            refine lv_aload_n hx hb dL_hangs_191 rfl (lv_at hl 9 rfl) ?_
            refine lv_iload hx hb dL_hangs_192 (lv_at hl 5 rfl) ?_
            have k194 := ct_X6_lent l D a ca hJ Z (nI x)
            rw [gs_lent hM hx4] at k194
            refine z_cVi (As := [.int (nI x)]) (rest := []) ⟨hx, hb, hml, hown, hts⟩ (k194) (cwV 1 hts gL_hangs_X6_lent rfl rfl rfl (by decide +kernel) ⟨Nat.le_of_ble_eq_true rfl, Nat.le_of_ble_eq_true rfl⟩) hK hP hS (va_recv (ci := 6) hK.1 hP rfl zW_b) rfl hl.1 rfl (Nat.le_of_ble_eq_true rfl) dL_hangs_194 ⟨Nat.zero_le _, Nat.zero_le _⟩ (fun H locs hP hS => ?_)
            refine lv_if_lt (tgt := 276) hx hb dL_hangs_197 (by decide) (fun c197_7 => absurd c197_7 (nn_in (t3 x hx4).2.1)) (fun _ => ?_)
            refine lv_aload_n hx hb dL_hangs_200 rfl (lv_at hl 9 rfl) ?_
            refine lv_iload hx hb dL_hangs_201 (lv_at hl 5 rfl) ?_
            have k203 := ct_X6_lent l D a ca hJ Z (nI x)
            rw [gs_lent hM hx4] at k203
            refine z_cVi (As := [.int (nI x)]) (rest := []) ⟨hx, hb, hml, hown, hts⟩ (k203) (cwV 1 hts gL_hangs_X6_lent rfl rfl rfl (by decide +kernel) ⟨Nat.le_of_ble_eq_true rfl, Nat.le_of_ble_eq_true rfl⟩) hK hP hS (va_recv (ci := 6) hK.1 hP rfl zW_b) rfl hl.1 rfl (Nat.le_of_ble_eq_true rfl) dL_hangs_203 ⟨Nat.zero_le _, Nat.zero_le _⟩ (fun H locs hP hS => ?_)
            refine lv_aload_n hx hb dL_hangs_206 rfl (lv_at hl 9 rfl) ?_
            refine lv_iload hx hb dL_hangs_207 (lv_at hl 5 rfl) ?_
            have k209 := ct_X6_executed l D a ca hJ Z (nI x)
            rw [gs_executed hM hx4] at k209
            refine z_cVi (As := [.int (nI x)]) (rest := [.int (M 7 x)]) ⟨hx, hb, hml, hown, hts⟩ (k209) (cwV 1 hts gL_hangs_X6_executed rfl rfl rfl (by decide +kernel) ⟨Nat.le_of_ble_eq_true rfl, Nat.le_of_ble_eq_true rfl⟩) hK hP hS (va_recv (ci := 6) hK.1 hP rfl zW_b) rfl hl.1 rfl (Nat.le_of_ble_eq_true rfl) dL_hangs_209 ⟨Nat.zero_le _, Nat.zero_le _⟩ (fun H locs hP hS => ?_)
            refine lv_icmp_gt (tgt := 276) hx hb dL_hangs_212 (by decide) (fun c212_8 => absurd c212_8 (nl_in (t3 x hx4).2.1 (t3 x hx4).1 (t5 x hx4).1)) (fun _ => ?_)
            refine lv_aload_n hx hb dL_hangs_215 rfl (lv_at hl 9 rfl) ?_
            refine lv_iload hx hb dL_hangs_216 (lv_at hl 5 rfl) ?_
            have k218 := ct_X6_starved l D a ca hJ Z (nI x)
            rw [gs_starved hM hx4] at k218
            refine z_cVi (As := [.int (nI x)]) (rest := []) ⟨hx, hb, hml, hown, hts⟩ (k218) (cwV 1 hts gL_hangs_X6_starved rfl rfl rfl (by decide +kernel) ⟨Nat.le_of_ble_eq_true rfl, Nat.le_of_ble_eq_true rfl⟩) hK hP hS (va_recv (ci := 6) hK.1 hP rfl zW_b) rfl hl.1 rfl (Nat.le_of_ble_eq_true rfl) dL_hangs_218 ⟨Nat.zero_le _, Nat.zero_le _⟩ (fun H locs hP hS => ?_)
            refine lv_if_lt (tgt := 276) hx hb dL_hangs_221 (by decide) (fun c221_9 => absurd c221_9 (nn_in (t3 x hx4).2.2.2)) (fun _ => ?_)
            refine lv_aload_n hx hb dL_hangs_224 rfl (lv_at hl 9 rfl) ?_
            refine lv_iload hx hb dL_hangs_225 (lv_at hl 5 rfl) ?_
            have k227 := ct_X6_starved l D a ca hJ Z (nI x)
            rw [gs_starved hM hx4] at k227
            refine z_cVi (As := [.int (nI x)]) (rest := []) ⟨hx, hb, hml, hown, hts⟩ (k227) (cwV 1 hts gL_hangs_X6_starved rfl rfl rfl (by decide +kernel) ⟨Nat.le_of_ble_eq_true rfl, Nat.le_of_ble_eq_true rfl⟩) hK hP hS (va_recv (ci := 6) hK.1 hP rfl zW_b) rfl hl.1 rfl (Nat.le_of_ble_eq_true rfl) dL_hangs_227 ⟨Nat.zero_le _, Nat.zero_le _⟩ (fun H locs hP hS => ?_)
            refine lv_iload_n hx hb dL_hangs_230 rfl (lv_at hl 8 rfl) ?_
            refine lv_icmp_gt (tgt := 276) hx hb dL_hangs_231 (by decide) (fun c231_10 => absurd c231_10 (nl_in (t3 x hx4).2.2.2 t1 (t5 x hx4).2.2)) (fun _ => ?_)
            refine lv_aload_n hx hb dL_hangs_234 rfl (lv_at hl 9 rfl) ?_
            refine lv_iload hx hb dL_hangs_235 (lv_at hl 5 rfl) ?_
            refine lv_iconst (v := nI 0) hx hb dL_hangs_237 (by decide) ?_
            have k238 := ct_X6_register l D a ca hJ Z (nI x) (nI 0)
            rw [gs_register hM hx4 (show 0 < 4 by decide)] at k238
            refine z_cVi (As := [.int (nI x), .int (nI 0)]) (rest := []) ⟨hx, hb, hml, hown, hts⟩ (k238) (cwV 2 hts gL_hangs_X6_register rfl rfl rfl (by decide +kernel) ⟨Nat.le_of_ble_eq_true rfl, Nat.le_of_ble_eq_true rfl⟩) hK hP hS (va_recv (ci := 6) hK.1 hP rfl zW_b) rfl hl.1 rfl (Nat.le_of_ble_eq_true rfl) dL_hangs_238 ⟨Nat.zero_le _, Nat.zero_le _⟩ (fun H locs hP hS => ?_)
            refine lv_sipush (v := (-32768)) hx hb dL_hangs_241 (by decide) ?_
            refine lv_icmp_lt (tgt := 276) hx hb dL_hangs_244 (by decide) (fun c244_11 => absurd c244_11 (sh_lo (s2 x 0 hx4 (by decide)))) (fun _ => ?_)
            refine lv_aload_n hx hb dL_hangs_247 rfl (lv_at hl 9 rfl) ?_
            refine lv_iload hx hb dL_hangs_248 (lv_at hl 5 rfl) ?_
            refine lv_iconst (v := nI 3) hx hb dL_hangs_250 (by decide) ?_
            have k251 := ct_X6_register l D a ca hJ Z (nI x) (nI 3)
            rw [gs_register hM hx4 (show 3 < 4 by decide)] at k251
            refine z_cVi (As := [.int (nI x), .int (nI 3)]) (rest := []) ⟨hx, hb, hml, hown, hts⟩ (k251) (cwV 2 hts gL_hangs_X6_register rfl rfl rfl (by decide +kernel) ⟨Nat.le_of_ble_eq_true rfl, Nat.le_of_ble_eq_true rfl⟩) hK hP hS (va_recv (ci := 6) hK.1 hP rfl zW_b) rfl hl.1 rfl (Nat.le_of_ble_eq_true rfl) dL_hangs_251 ⟨Nat.zero_le _, Nat.zero_le _⟩ (fun H locs hP hS => ?_)
            refine lv_sipush (v := nI 32767) hx hb dL_hangs_254 (by decide) ?_
            refine lv_icmp_gt (tgt := 276) hx hb dL_hangs_257 (by decide) (fun c257_12 => absurd c257_12 (sh_hi (s2 x 3 hx4 (by decide)))) (fun _ => ?_)
            refine lv_aload_n hx hb dL_hangs_260 rfl (lv_at hl 9 rfl) ?_
            refine lv_iload hx hb dL_hangs_261 (lv_at hl 5 rfl) ?_
            refine lv_iconst (v := nI 4) hx hb dL_hangs_263 (by decide) ?_
            have k264 := ct_X6_register l D a ca hJ Z (nI x) (nI 4)
            rw [gs_register4 hx4] at k264
            refine z_cVi (As := [.int (nI x), .int (nI 4)]) (rest := []) ⟨hx, hb, hml, hown, hts⟩ (k264) (cwV 2 hts gL_hangs_X6_register rfl rfl rfl (by decide +kernel) ⟨Nat.le_of_ble_eq_true rfl, Nat.le_of_ble_eq_true rfl⟩) hK hP hS (va_recv (ci := 6) hK.1 hP rfl zW_b) rfl hl.1 rfl (Nat.le_of_ble_eq_true rfl) dL_hangs_264 ⟨Nat.zero_le _, Nat.zero_le _⟩ (fun H locs hP hS => ?_)
            refine lv_ldc (v := (-100001)) hx hb hown (hts (.constant RL 98 (-100001)) (by decide +kernel)) dL_hangs_267 ?_
            refine lv_icmp_ne (tgt := 276) hx hb dL_hangs_269 (by decide) (fun c269_13 => absurd rfl c269_13) (fun _ => ?_)
            refine lv_iconst (v := nI 1) hx hb dL_hangs_272 (by decide) ?_
            refine lv_goto (tgt := 277) hx hb dL_hangs_273 (by decide) ?_
            refine lv_istore (lv' := [(7, .int (nI 1)), (6, .int br1), (5, .int rd1), (4, .int ov1), (3, .int (nI (sxp (M 6) (x + 1)))), (9, .int (M 0 x)), (8, .int (nI x)), (2, .int (M 17 0)), (1, .int (M 16 0)), (0, .ref (a 114))]) hx hb dL_hangs_277 hl (by decide) rfl (fun ls hl => ?_)
            refine lv_iinc (v := nI (x + 1)) (lv' := [(8, .int (nI (x + 1))), (7, .int (nI 1)), (6, .int br1), (5, .int rd1), (4, .int ov1), (3, .int (nI (sxp (M 6) (x + 1)))), (9, .int (M 0 x)), (2, .int (M 17 0)), (1, .int (M 16 0)), (0, .ref (a 114))]) hx hb dL_hangs_279 hl (k := 6) rfl (nI_add _ _) (by decide) rfl (fun ls hl => ?_)
            refine lv_goto (tgt := 79) hx hb dL_hangs_282 (by decide) ?_
            exact ih (x + 1) ov1 rd1 br1 _ _ _ (by omega) hov1 hrd1 hbr1 (lv_sub hl [0, 1, 2, 3, 4, 5, 7, 8, 9] rfl) hP hS
          refine lv_iload hx hb dL_hangs_142 (lv_at hl 6 rfl) ?_
          refine lv_if_ne (tgt := 153) hx hb dL_hangs_144 (by decide) (fun c144_14 => ?_) (fun c144_14 => ?_)
          · refine lv_iconst (v := nI 1) hx hb dL_hangs_153 (by decide) ?_
            refine lv_goto (tgt := 158) hx hb dL_hangs_154 (by decide) ?_
            exact k158 _ (rd_1 hbr (Or.inl c144_14))
          · refine lv_iload hx hb dL_hangs_147 (lv_at hl 3 rfl) ?_
            refine lv_iconst (v := nI 3) hx hb dL_hangs_149 (by decide) ?_
            refine lv_icmp_ne (tgt := 157) hx hb dL_hangs_150 (by decide) (fun c150_15 => ?_) (fun c150_15 => ?_)
            · refine lv_iconst (v := nI 0) hx hb dL_hangs_157 (by decide) ?_
              exact k158 _ (rd_0 hbr c144_14 c150_15)
            · refine lv_iconst (v := nI 1) hx hb dL_hangs_153 (by decide) ?_
              refine lv_goto (tgt := 158) hx hb dL_hangs_154 (by decide) ?_
              exact k158 _ (rd_1 hbr (Or.inr c150_15))
        refine lv_iload hx hb dL_hangs_124 (lv_at hl 6 rfl) ?_
        refine lv_if_ne (tgt := 135) hx hb dL_hangs_126 (by decide) (fun c126_16 => ?_) (fun c126_16 => ?_)
        · refine lv_iconst (v := nI 1) hx hb dL_hangs_135 (by decide) ?_
          refine lv_goto (tgt := 140) hx hb dL_hangs_136 (by decide) ?_
          exact k140 _ (rd_1 hrd (Or.inl c126_16))
        · refine lv_iload hx hb dL_hangs_129 (lv_at hl 2 rfl) ?_
          refine lv_iconst (v := nI 1) hx hb dL_hangs_131 (by decide) ?_
          refine lv_icmp_ne (tgt := 139) hx hb dL_hangs_132 (by decide) (fun c132_17 => ?_) (fun c132_17 => ?_)
          · refine lv_iconst (v := nI 0) hx hb dL_hangs_139 (by decide) ?_
            exact k140 _ (rd_0 hrd c126_16 c132_17)
          · refine lv_iconst (v := nI 1) hx hb dL_hangs_135 (by decide) ?_
            refine lv_goto (tgt := 140) hx hb dL_hangs_136 (by decide) ?_
            exact k140 _ (rd_1 hrd (Or.inr c132_17))
      refine lv_iload hx hb dL_hangs_107 (lv_at hl 6 rfl) ?_
      refine lv_if_eq (tgt := 121) hx hb dL_hangs_109 (by decide) (fun c109_18 => ?_) (fun c109_18 => ?_)
      · refine lv_iconst (v := nI 0) hx hb dL_hangs_121 (by decide) ?_
        exact k122 _ (ov_0 hov (Or.inl c109_18))
      · refine lv_iload hx hb dL_hangs_112 (lv_at hl 1 rfl) ?_
        refine lv_if_ne (tgt := 121) hx hb dL_hangs_114 (by decide) (fun c114_19 => ?_) (fun c114_19 => ?_)
        · refine lv_iconst (v := nI 0) hx hb dL_hangs_121 (by decide) ?_
          exact k122 _ (ov_0 hov (Or.inr c114_19))
        · refine lv_iconst (v := nI 1) hx hb dL_hangs_117 (by decide) ?_
          refine lv_goto (tgt := 122) hx hb dL_hangs_118 (by decide) ?_
          exact k122 _ (ov_1 hov c109_18 c114_19)
  refine lv_aload_n hx hb dL_hangs_0 rfl (lv_at hl 0 rfl) ?_
  have k1 := ct_X6_cycle l D a ca hJ Z
  rw [gs_cycle hM] at k1
  refine z_cVi (As := []) (rest := []) ⟨hx, hb, hml, hown, hts⟩ (k1) (cwV 0 hts gL_hangs_X6_cycle rfl rfl rfl (by decide +kernel) ⟨Nat.le_of_ble_eq_true rfl, Nat.le_of_ble_eq_true rfl⟩) hK hP hS (va_recv (ci := 6) hK.1 hP rfl zW_b) rfl hl.1 rfl (Nat.le_of_ble_eq_true rfl) dL_hangs_1 ⟨Nat.zero_le _, Nat.zero_le _⟩ (fun H locs hP hS => ?_)
  refine lv_istore_n (lv' := [(1, .int (M 16 0)), (0, .ref (a 114))]) hx hb dL_hangs_4 rfl hl (by decide) rfl (fun ls hl => ?_)
  refine lv_aload_n hx hb dL_hangs_5 rfl (lv_at hl 1 rfl) ?_
  have k6 := ct_X6_idle l D a ca hJ Z
  rw [gs_idle hM] at k6
  refine z_cVi (As := []) (rest := []) ⟨hx, hb, hml, hown, hts⟩ (k6) (cwV 0 hts gL_hangs_X6_idle rfl rfl rfl (by decide +kernel) ⟨Nat.le_of_ble_eq_true rfl, Nat.le_of_ble_eq_true rfl⟩) hK hP hS (va_recv (ci := 6) hK.1 hP rfl zW_b) rfl hl.1 rfl (Nat.le_of_ble_eq_true rfl) dL_hangs_6 ⟨Nat.zero_le _, Nat.zero_le _⟩ (fun H locs hP hS => ?_)
  refine lv_istore_n (lv' := [(2, .int (M 17 0)), (1, .int (M 16 0)), (0, .ref (a 114))]) hx hb dL_hangs_9 rfl hl (by decide) rfl (fun ls hl => ?_)
  refine lv_iconst (v := nI 0) hx hb dL_hangs_10 (by decide) ?_
  refine lv_istore_n (lv' := [(3, .int (nI 0)), (2, .int (M 17 0)), (1, .int (M 16 0)), (0, .ref (a 114))]) hx hb dL_hangs_11 rfl hl (by decide) rfl (fun ls hl => ?_)
  refine lv_iconst (v := nI 1) hx hb dL_hangs_12 (by decide) ?_
  refine lv_istore (lv' := [(4, .int (nI 1)), (3, .int (nI 0)), (2, .int (M 17 0)), (1, .int (M 16 0)), (0, .ref (a 114))]) hx hb dL_hangs_13 hl (by decide) rfl (fun ls hl => ?_)
  refine lv_iconst (v := nI 0) hx hb dL_hangs_15 (by decide) ?_
  refine lv_istore (lv' := [(5, .int (nI 0)), (4, .int (nI 1)), (3, .int (nI 0)), (2, .int (M 17 0)), (1, .int (M 16 0)), (0, .ref (a 114))]) hx hb dL_hangs_16 hl (by decide) rfl (fun ls hl => ?_)
  refine lv_iconst (v := nI 0) hx hb dL_hangs_18 (by decide) ?_
  refine lv_istore (lv' := [(6, .int (nI 0)), (5, .int (nI 0)), (4, .int (nI 1)), (3, .int (nI 0)), (2, .int (M 17 0)), (1, .int (M 16 0)), (0, .ref (a 114))]) hx hb dL_hangs_19 hl (by decide) rfl (fun ls hl => ?_)
  refine lv_iload_n hx hb dL_hangs_21 rfl (lv_at hl 5 rfl) ?_
  refine lv_if_lt (tgt := 73) hx hb dL_hangs_22 (by decide) (fun c22_1 => absurd c22_1 (nn_in t1)) (fun _ => ?_)
  refine lv_iload_n hx hb dL_hangs_25 rfl (lv_at hl 4 rfl) ?_
  refine lv_if_lt (tgt := 73) hx hb dL_hangs_26 (by decide) (fun c26_2 => absurd c26_2 (nn_in t2)) (fun _ => ?_)
  refine lv_iload_n hx hb dL_hangs_29 rfl (lv_at hl 4 rfl) ?_
  refine lv_iload_n hx hb dL_hangs_30 rfl (lv_at hl 5 rfl) ?_
  refine lv_icmp_gt (tgt := 73) hx hb dL_hangs_31 (by decide) (fun c31_3 => absurd c31_3 (nl_in t2 t1 (by omega))) (fun _ => ?_)
  refine lv_aload_n hx hb dL_hangs_34 rfl (lv_at hl 6 rfl) ?_
  refine lv_iconst (v := nI 0) hx hb dL_hangs_35 (by decide) ?_
  have k36 := ct_X6_setting l D a ca hJ Z (nI 0)
  rw [gs_setting0 hM] at k36
  refine z_cVi (As := [.int (nI 0)]) (rest := []) ⟨hx, hb, hml, hown, hts⟩ (k36) (cwV 1 hts gL_hangs_X6_setting rfl rfl rfl (by decide +kernel) ⟨Nat.le_of_ble_eq_true rfl, Nat.le_of_ble_eq_true rfl⟩) hK hP hS (va_recv (ci := 6) hK.1 hP rfl zW_b) rfl hl.1 rfl (Nat.le_of_ble_eq_true rfl) dL_hangs_36 ⟨Nat.zero_le _, Nat.zero_le _⟩ (fun H locs hP hS => ?_)
  refine lv_if_lt (tgt := 73) hx hb dL_hangs_39 (by decide) (fun c39_4 => absurd c39_4 (nn_in s50)) (fun _ => ?_)
  refine lv_aload_n hx hb dL_hangs_42 rfl (lv_at hl 6 rfl) ?_
  refine lv_iconst (v := nI 0) hx hb dL_hangs_43 (by decide) ?_
  have k44 := ct_X6_setting l D a ca hJ Z (nI 0)
  rw [gs_setting0 hM] at k44
  refine z_cVi (As := [.int (nI 0)]) (rest := []) ⟨hx, hb, hml, hown, hts⟩ (k44) (cwV 1 hts gL_hangs_X6_setting rfl rfl rfl (by decide +kernel) ⟨Nat.le_of_ble_eq_true rfl, Nat.le_of_ble_eq_true rfl⟩) hK hP hS (va_recv (ci := 6) hK.1 hP rfl zW_b) rfl hl.1 rfl (Nat.le_of_ble_eq_true rfl) dL_hangs_44 ⟨Nat.zero_le _, Nat.zero_le _⟩ (fun H locs hP hS => ?_)
  refine lv_bipush (v := nI 21) hx hb dL_hangs_47 (by decide) ?_
  refine lv_icmp_ge (tgt := 73) hx hb dL_hangs_49 (by decide) (fun c49_5 => absurd c49_5 (ng_in s50 (by decide))) (fun _ => ?_)
  refine lv_aload_n hx hb dL_hangs_52 rfl (lv_at hl 6 rfl) ?_
  refine lv_iconst (v := nI 1) hx hb dL_hangs_53 (by decide) ?_
  have k54 := ct_X6_setting l D a ca hJ Z (nI 1)
  rw [gs_setting1 hM] at k54
  refine z_cVi (As := [.int (nI 1)]) (rest := []) ⟨hx, hb, hml, hown, hts⟩ (k54) (cwV 1 hts gL_hangs_X6_setting rfl rfl rfl (by decide +kernel) ⟨Nat.le_of_ble_eq_true rfl, Nat.le_of_ble_eq_true rfl⟩) hK hP hS (va_recv (ci := 6) hK.1 hP rfl zW_b) rfl hl.1 rfl (Nat.le_of_ble_eq_true rfl) dL_hangs_54 ⟨Nat.zero_le _, Nat.zero_le _⟩ (fun H locs hP hS => ?_)
  refine lv_if_lt (tgt := 73) hx hb dL_hangs_57 (by decide) (fun c57_6 => absurd c57_6 (nn_in s51)) (fun _ => ?_)
  refine lv_aload_n hx hb dL_hangs_60 rfl (lv_at hl 6 rfl) ?_
  refine lv_iconst (v := nI 1) hx hb dL_hangs_61 (by decide) ?_
  have k62 := ct_X6_setting l D a ca hJ Z (nI 1)
  rw [gs_setting1 hM] at k62
  refine z_cVi (As := [.int (nI 1)]) (rest := []) ⟨hx, hb, hml, hown, hts⟩ (k62) (cwV 1 hts gL_hangs_X6_setting rfl rfl rfl (by decide +kernel) ⟨Nat.le_of_ble_eq_true rfl, Nat.le_of_ble_eq_true rfl⟩) hK hP hS (va_recv (ci := 6) hK.1 hP rfl zW_b) rfl hl.1 rfl (Nat.le_of_ble_eq_true rfl) dL_hangs_62 ⟨Nat.zero_le _, Nat.zero_le _⟩ (fun H locs hP hS => ?_)
  refine lv_iconst (v := nI 3) hx hb dL_hangs_65 (by decide) ?_
  refine lv_icmp_ge (tgt := 73) hx hb dL_hangs_66 (by decide) (fun c66_7 => absurd c66_7 (ng_in s51 (by decide))) (fun _ => ?_)
  refine lv_iconst (v := nI 1) hx hb dL_hangs_69 (by decide) ?_
  refine lv_goto (tgt := 74) hx hb dL_hangs_70 (by decide) ?_
  refine lv_istore (lv' := [(7, .int (nI 1)), (6, .int (nI 0)), (5, .int (nI 0)), (4, .int (nI 1)), (3, .int (nI 0)), (2, .int (M 17 0)), (1, .int (M 16 0)), (0, .ref (a 114))]) hx hb dL_hangs_74 hl (by decide) rfl (fun ls hl => ?_)
  refine lv_iconst (v := nI 0) hx hb dL_hangs_76 (by decide) ?_
  refine lv_istore (lv' := [(8, .int (nI 0)), (7, .int (nI 1)), (6, .int (nI 0)), (5, .int (nI 0)), (4, .int (nI 1)), (3, .int (nI 0)), (2, .int (M 17 0)), (1, .int (M 16 0)), (0, .ref (a 114))]) hx hb dL_hangs_77 hl (by decide) rfl (fun ls hl => ?_)
  exact lp1 4 0 (nI 1) (nI 0) (nI 0) _ _ _ rfl (Or.inl ⟨rfl, fun t ht => absurd ht (Nat.not_lt_zero _)⟩) (Or.inr ⟨rfl, fun t ht => absurd ht (Nat.not_lt_zero _)⟩) (Or.inr ⟨rfl, fun t ht => absurd ht (Nat.not_lt_zero _)⟩) (lv_sub hl [0, 1, 2, 3, 4, 5, 6, 7, 8] rfl) hP hS
