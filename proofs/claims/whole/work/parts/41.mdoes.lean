theorem z_cp {A N : zM} {i : Nat} (h : ∀ j, j < i → zen A j = zen N j) : ∀ j, j < i + 1 → zen (zde (upd (zen A) i (zen N i))) j = zen N j := by
  intro j hj
  rw [zen_zde]
  by_cases e : j = i
  · subst e
    rw [pk_us]
  · rw [pk_un e]
    exact h j (by omega)
theorem z_dec {k : Nat} (h : 1 ≤ k) : nI k + Int32.ofInt (-1) = nI (k - 1) := by
  obtain ⟨j, rfl⟩ : ∃ j, k = j + 1 := ⟨k - 1, by omega⟩
  exact pk_m1 j
theorem z_le0 {k : Nat} (h : k = 0) : nI k ≤ 0 := by
  subst h
  decide

set_option maxHeartbeats 4000000 in
set_option maxRecDepth 100000 in
theorem ct_X7_putAside (l : Launch) (D : va_G) (a : Nat → Nat) (cI : ClassId) (hJ : mJ a) (N A P X : zM)  : mCv l yX7_putAside wsX7_putAside ({ frames := 0, cells := 0, slots := 0, locals := 0 } : Room) D a cI [.ref (a 0)] (N, A, P, X) (N, N, P, X) := by
  have hiX7 : ∀ w ∈ wsX70, w ∈ wsX7_putAside := by decide +kernel
  refine m_ofv (cc := cX7_putAside) (maxL := 2) (own := RX7) (by decide) rfl (Nat.le_of_ble_eq_true rfl) rfl (fun p e s m below meth c ls hx hb hr hml hts hown hlk hl hK hP hS => ?_)
  have hl : lv_has ls 2 [(0, .ref (a 0))] := hl
  have lp2 : ∀ (n : Nat) (i : Nat) (A : zM) (H : Heap) (locs : List Loc) (ls : Array Slot) (hn : i + n = 341) (hA : ∀ j, j < i → zen A j = zen N j) (hl : lv_has ls 2 [(0, .ref (a 0)), (1, .int (nI i))]) (hP : va_P D vwCl (mW a cI (N, A, P, X)) H) (hS : va_S (mA a) s.heap H locs), W p l e ({ frames := 0, cells := 0, slots := 0, locals := 0 } : Room) s m ([.ref (a 0)] : List Value).toArray below meth c H locs 0 0 (mQv below D a cI [.ref (a 0)] s (N, N, P, X)) (F0 m 2 ls []) := by
    intro n
    induction n with
    | zero =>
      intro i A H locs ls hn hA hl hP hS
      refine lv_iload_n hx hb dX7_putAside_2 rfl (lv_at hl 1 rfl) ?_
      refine lv_sipush (v := nI 341) hx hb dX7_putAside_3 (by decide) ?_
      refine lv_icmp_ge (tgt := 27) hx hb dX7_putAside_6 (by decide) (fun c6_1 => ?_) (fun c6_1 => absurd (nI_le (by omega) (by omega)) c6_1)
      exact m_retv hx hb hr hlk (mP_congr (N' := N) (A' := N) (P' := P) (fun _ _ => rfl) (fun j hj => hA j (by omega)) (fun _ _ => rfl) hP) hS dX7_putAside_27 rfl
    | succ n ih =>
      intro i A H locs ls hn hA hl hP hS
      refine lv_iload_n hx hb dX7_putAside_2 rfl (lv_at hl 1 rfl) ?_
      refine lv_sipush (v := nI 341) hx hb dX7_putAside_3 (by decide) ?_
      refine lv_icmp_ge (tgt := 27) hx hb dX7_putAside_6 (by decide) (fun c6_2 => absurd c6_2 (nI_ge (by omega) (by decide))) (fun c6_2 => ?_)
      refine lv_aload_n hx hb dX7_putAside_9 rfl (lv_at hl 0 rfl) ?_
      refine mgO1 hx hb hts hiX7 hown hK hP (hts (.fieldLink RX7 13 "BarrelProcessorModel" "aside" "[I") (by decide +kernel)) dX7_putAside_10 ?_
      refine lv_iload_n hx hb dX7_putAside_13 rfl (lv_at hl 1 rfl) ?_
      refine lv_aload_n hx hb dX7_putAside_14 rfl (lv_at hl 0 rfl) ?_
      refine mgO0 hx hb hts hiX7 hown hK hP (hts (.fieldLink RX7 7 "BarrelProcessorModel" "s" "[I") (by decide +kernel)) dX7_putAside_15 ?_
      refine lv_iload_n hx hb dX7_putAside_18 rfl (lv_at hl 1 rfl) ?_
      refine m_iald hx hb hK hP mG_s (j := i) (by omega) (by decide) dX7_putAside_19 ?_
      refine m_iast (Z' := (N, zde (upd (zen A) i (zen N i)), P, X)) hx hb hK hP hJ hS mG_as (j := i) (by omega) (by decide) dX7_putAside_20 mS_as (fun H locs hP hS => ?_)
      refine lv_iinc (v := nI (i + 1)) (lv' := [(1, .int (nI (i + 1))), (0, .ref (a 0))]) hx hb dX7_putAside_21 hl (k := 1) rfl (nI_add _ _) (by decide) rfl (fun ls hl => ?_)
      refine lv_goto (tgt := 2) hx hb dX7_putAside_24 (by decide) ?_
      exact ih (i + 1) (zde (upd (zen A) i (zen N i))) _ _ _ (by omega) (z_cp hA) (lv_sub hl [1, 0] rfl) hP hS
  refine lv_iconst (v := nI 0) hx hb dX7_putAside_0 (by decide) ?_
  refine lv_istore_n (lv' := [(1, .int (nI 0)), (0, .ref (a 0))]) hx hb dX7_putAside_1 rfl hl (by decide) rfl (fun ls hl => ?_)
  exact lp2 341 0 A _ _ _ (by omega) (fun j hj => absurd hj (Nat.not_lt_zero j)) (lv_sub hl [1, 0] rfl) hP hS

set_option maxHeartbeats 4000000 in
set_option maxRecDepth 100000 in
theorem ct_X7_putBack (l : Launch) (D : va_G) (a : Nat → Nat) (cI : ClassId) (hJ : mJ a) (N A P X : zM)  : mCv l yX7_putBack wsX7_putBack ({ frames := 0, cells := 0, slots := 0, locals := 0 } : Room) D a cI [.ref (a 0)] (N, A, P, X) (A, A, P, X) := by
  have hiX7 : ∀ w ∈ wsX70, w ∈ wsX7_putBack := by decide +kernel
  refine m_ofv (cc := cX7_putBack) (maxL := 2) (own := RX7) (by decide) rfl (Nat.le_of_ble_eq_true rfl) rfl (fun p e s m below meth c ls hx hb hr hml hts hown hlk hl hK hP hS => ?_)
  have hl : lv_has ls 2 [(0, .ref (a 0))] := hl
  have lp2 : ∀ (n : Nat) (i : Nat) (N : zM) (H : Heap) (locs : List Loc) (ls : Array Slot) (hn : i + n = 341) (hN : ∀ j, j < i → zen N j = zen A j) (hl : lv_has ls 2 [(0, .ref (a 0)), (1, .int (nI i))]) (hP : va_P D vwCl (mW a cI (N, A, P, X)) H) (hS : va_S (mA a) s.heap H locs), W p l e ({ frames := 0, cells := 0, slots := 0, locals := 0 } : Room) s m ([.ref (a 0)] : List Value).toArray below meth c H locs 0 0 (mQv below D a cI [.ref (a 0)] s (A, A, P, X)) (F0 m 2 ls []) := by
    intro n
    induction n with
    | zero =>
      intro i N H locs ls hn hN hl hP hS
      refine lv_iload_n hx hb dX7_putBack_2 rfl (lv_at hl 1 rfl) ?_
      refine lv_sipush (v := nI 341) hx hb dX7_putBack_3 (by decide) ?_
      refine lv_icmp_ge (tgt := 27) hx hb dX7_putBack_6 (by decide) (fun c6_1 => ?_) (fun c6_1 => absurd (nI_le (by omega) (by omega)) c6_1)
      exact m_retv hx hb hr hlk (mP_congr (N' := A) (A' := A) (P' := P) (fun j hj => hN j (by omega)) (fun _ _ => rfl) (fun _ _ => rfl) hP) hS dX7_putBack_27 rfl
    | succ n ih =>
      intro i N H locs ls hn hN hl hP hS
      refine lv_iload_n hx hb dX7_putBack_2 rfl (lv_at hl 1 rfl) ?_
      refine lv_sipush (v := nI 341) hx hb dX7_putBack_3 (by decide) ?_
      refine lv_icmp_ge (tgt := 27) hx hb dX7_putBack_6 (by decide) (fun c6_2 => absurd c6_2 (nI_ge (by omega) (by decide))) (fun c6_2 => ?_)
      refine lv_aload_n hx hb dX7_putBack_9 rfl (lv_at hl 0 rfl) ?_
      refine mgO0 hx hb hts hiX7 hown hK hP (hts (.fieldLink RX7 7 "BarrelProcessorModel" "s" "[I") (by decide +kernel)) dX7_putBack_10 ?_
      refine lv_iload_n hx hb dX7_putBack_13 rfl (lv_at hl 1 rfl) ?_
      refine lv_aload_n hx hb dX7_putBack_14 rfl (lv_at hl 0 rfl) ?_
      refine mgO1 hx hb hts hiX7 hown hK hP (hts (.fieldLink RX7 13 "BarrelProcessorModel" "aside" "[I") (by decide +kernel)) dX7_putBack_15 ?_
      refine lv_iload_n hx hb dX7_putBack_18 rfl (lv_at hl 1 rfl) ?_
      refine m_iald hx hb hK hP mG_as (j := i) (by omega) (by decide) dX7_putBack_19 ?_
      refine m_iast (Z' := (zde (upd (zen N) i (zen A i)), A, P, X)) hx hb hK hP hJ hS mG_s (j := i) (by omega) (by decide) dX7_putBack_20 mS_sr (fun H locs hP hS => ?_)
      refine lv_iinc (v := nI (i + 1)) (lv' := [(1, .int (nI (i + 1))), (0, .ref (a 0))]) hx hb dX7_putBack_21 hl (k := 1) rfl (nI_add _ _) (by decide) rfl (fun ls hl => ?_)
      refine lv_goto (tgt := 2) hx hb dX7_putBack_24 (by decide) ?_
      exact ih (i + 1) (zde (upd (zen N) i (zen A i))) _ _ _ (by omega) (z_cp hN) (lv_sub hl [1, 0] rfl) hP hS
  refine lv_iconst (v := nI 0) hx hb dX7_putBack_0 (by decide) ?_
  refine lv_istore_n (lv' := [(1, .int (nI 0)), (0, .ref (a 0))]) hx hb dX7_putBack_1 rfl hl (by decide) rfl (fun ls hl => ?_)
  exact lp2 341 0 N _ _ _ (by omega) (fun j hj => absurd hj (Nat.not_lt_zero j)) (lv_sub hl [1, 0] rfl) hP hS

def hN_X7_traces_lp (thread : Int32) (place : Int32) : Nat → Nat → zM → zM
  | 0, k, N => if (nI 16) ≤ ((zu (zu (zu N 19 0 (N 16 0)) 19 1 thread) 19 2 place) 18 1) then zu (zu (zu (zu N 19 0 (N 16 0)) 19 1 thread) 19 2 place) 18 1 (((zu (zu (zu N 19 0 (N 16 0)) 19 1 thread) 19 2 place) 18 1) + (nI 0)) else zu (zu (zu (zu N 19 0 (N 16 0)) 19 1 thread) 19 2 place) 18 1 (((zu (zu (zu N 19 0 (N 16 0)) 19 1 thread) 19 2 place) 18 1) + (nI 1))
  | n + 1, k, N => hN_X7_traces_lp thread place n (k - 1) (zu N 19 k (N 19 (k - 3)))
def hN_X7_traces (thread : Int32) (place : Int32) (N : zM) : zM := hN_X7_traces_lp thread place 45 47 N
set_option maxHeartbeats 4000000 in
set_option maxRecDepth 100000 in
theorem ct_X7_traces (l : Launch) (D : va_G) (a : Nat → Nat) (cI : ClassId) (hJ : mJ a) (N A P X : zM) (thread : Int32) (place : Int32) : mCv l yX7_traces wsX7_traces ({ frames := 0, cells := 0, slots := 0, locals := 0 } : Room) D a cI [.ref (a 0), .int thread, .int place] (N, A, P, X) (hN_X7_traces thread place N, A, P, X) := by
  have hiX7 : ∀ w ∈ wsX70, w ∈ wsX7_traces := by decide +kernel
  refine m_ofv (cc := cX7_traces) (maxL := 4) (own := RX7) (by decide) rfl (Nat.le_of_ble_eq_true rfl) rfl (fun p e s m below meth c ls hx hb hr hml hts hown hlk hl hK hP hS => ?_)
  have hl : lv_has ls 4 [(0, .ref (a 0)), (1, .int thread), (2, .int place)] := hl
  have lp3 : ∀ (n : Nat) (k : Nat) (N : zM) (H : Heap) (locs : List Loc) (ls : Array Slot) (hn : k = n + 2 ∧ n ≤ 45) (hl : lv_has ls 4 [(0, .ref (a 0)), (1, .int thread), (2, .int place), (3, .int (nI k))]) (hP : va_P D vwCl (mW a cI (N, A, P, X)) H) (hS : va_S (mA a) s.heap H locs), W p l e ({ frames := 0, cells := 0, slots := 0, locals := 0 } : Room) s m ([.ref (a 0), .int thread, .int place] : List Value).toArray below meth c H locs 0 0 (mQv below D a cI [.ref (a 0), .int thread, .int place] s (hN_X7_traces_lp thread place n k N, A, P, X)) (F0 m 3 ls []) := by
    intro n
    induction n with
    | zero =>
      intro k N H locs ls hn hl hP hS
      refine lv_iload_n hx hb dX7_traces_3 rfl (lv_at hl 3 rfl) ?_
      refine lv_iconst (v := nI 2) hx hb dX7_traces_4 (by decide) ?_
      refine lv_icmp_le (tgt := 36) hx hb dX7_traces_5 (by decide) (fun c5_1 => ?_) (fun c5_1 => absurd (nI_le (by omega) (by omega)) c5_1)
      refine lv_aload_n hx hb dX7_traces_36 rfl (lv_at hl 0 rfl) ?_
      refine mgO0 hx hb hts hiX7 hown hK hP (hts (.fieldLink RX7 7 "BarrelProcessorModel" "s" "[I") (by decide +kernel)) dX7_traces_37 ?_
      refine lv_sipush (v := nI 293) hx hb dX7_traces_40 (by decide) ?_
      refine lv_aload_n hx hb dX7_traces_43 rfl (lv_at hl 0 rfl) ?_
      refine mgO0 hx hb hts hiX7 hown hK hP (hts (.fieldLink RX7 7 "BarrelProcessorModel" "s" "[I") (by decide +kernel)) dX7_traces_44 ?_
      refine lv_sipush (v := nI 232) hx hb dX7_traces_47 (by decide) ?_
      refine m_iald hx hb hK hP mG_s (j := 232) (by omega) (by decide) dX7_traces_50 ?_
      refine z_val (z := N 16 0) (zen_of zf_232) ?_
      refine m_iast (Z' := (zu N 19 0 (N 16 0), A, P, X)) hx hb hK hP hJ hS mG_s (j := 293) (by omega) (by decide) dX7_traces_51 (mS_s zf_293) (fun H locs hP hS => ?_)
      refine lv_aload_n hx hb dX7_traces_52 rfl (lv_at hl 0 rfl) ?_
      refine mgO0 hx hb hts hiX7 hown hK hP (hts (.fieldLink RX7 7 "BarrelProcessorModel" "s" "[I") (by decide +kernel)) dX7_traces_53 ?_
      refine lv_sipush (v := nI 294) hx hb dX7_traces_56 (by decide) ?_
      refine lv_iload_n hx hb dX7_traces_59 rfl (lv_at hl 1 rfl) ?_
      refine m_iast (Z' := (zu (zu N 19 0 (N 16 0)) 19 1 thread, A, P, X)) hx hb hK hP hJ hS mG_s (j := 294) (by omega) (by decide) dX7_traces_60 (mS_s zf_294) (fun H locs hP hS => ?_)
      refine lv_aload_n hx hb dX7_traces_61 rfl (lv_at hl 0 rfl) ?_
      refine mgO0 hx hb hts hiX7 hown hK hP (hts (.fieldLink RX7 7 "BarrelProcessorModel" "s" "[I") (by decide +kernel)) dX7_traces_62 ?_
      refine lv_sipush (v := nI 295) hx hb dX7_traces_65 (by decide) ?_
      refine lv_iload_n hx hb dX7_traces_68 rfl (lv_at hl 2 rfl) ?_
      refine m_iast (Z' := (zu (zu (zu N 19 0 (N 16 0)) 19 1 thread) 19 2 place, A, P, X)) hx hb hK hP hJ hS mG_s (j := 295) (by omega) (by decide) dX7_traces_69 (mS_s zf_295) (fun H locs hP hS => ?_)
      refine lv_aload_n hx hb dX7_traces_70 rfl (lv_at hl 0 rfl) ?_
      refine mgO0 hx hb hts hiX7 hown hK hP (hts (.fieldLink RX7 7 "BarrelProcessorModel" "s" "[I") (by decide +kernel)) dX7_traces_71 ?_
      refine lv_sipush (v := nI 292) hx hb dX7_traces_74 (by decide) ?_
      refine lv_dup2_11 hx hb dX7_traces_77 rfl rfl ?_
      refine m_iald hx hb hK hP mG_s (j := 292) (by omega) (by decide) dX7_traces_78 ?_
      refine z_val (z := (zu (zu (zu N 19 0 (N 16 0)) 19 1 thread) 19 2 place) 18 1) (zen_of zf_292) ?_
      refine lv_aload_n hx hb dX7_traces_79 rfl (lv_at hl 0 rfl) ?_
      refine mgO0 hx hb hts hiX7 hown hK hP (hts (.fieldLink RX7 7 "BarrelProcessorModel" "s" "[I") (by decide +kernel)) dX7_traces_80 ?_
      refine lv_sipush (v := nI 292) hx hb dX7_traces_83 (by decide) ?_
      refine m_iald hx hb hK hP mG_s (j := 292) (by omega) (by decide) dX7_traces_86 ?_
      refine z_val (z := (zu (zu (zu N 19 0 (N 16 0)) 19 1 thread) 19 2 place) 18 1) (zen_of zf_292) ?_
      refine lv_bipush (v := nI 16) hx hb dX7_traces_87 (by decide) ?_
      refine lv_icmp_ge (tgt := 96) hx hb dX7_traces_89 (by decide) (fun c89_2 => ?_) (fun c89_2 => ?_)
      · refine lv_iconst (v := nI 0) hx hb dX7_traces_96 (by decide) ?_
        refine lv_iadd hx hb dX7_traces_97 ?_
        refine m_iast (Z' := (zu (zu (zu (zu N 19 0 (N 16 0)) 19 1 thread) 19 2 place) 18 1 (((zu (zu (zu N 19 0 (N 16 0)) 19 1 thread) 19 2 place) 18 1) + (nI 0)), A, P, X)) hx hb hK hP hJ hS mG_s (j := 292) (by omega) (by decide) dX7_traces_98 (mS_s zf_292) (fun H locs hP hS => ?_)
        exact m_retv hx hb hr hlk hP hS dX7_traces_99 (m_eq (by simp only [hN_X7_traces_lp, if_pos c89_2]) rfl rfl rfl)
      · refine lv_iconst (v := nI 1) hx hb dX7_traces_92 (by decide) ?_
        refine lv_goto (tgt := 97) hx hb dX7_traces_93 (by decide) ?_
        refine lv_iadd hx hb dX7_traces_97 ?_
        refine m_iast (Z' := (zu (zu (zu (zu N 19 0 (N 16 0)) 19 1 thread) 19 2 place) 18 1 (((zu (zu (zu N 19 0 (N 16 0)) 19 1 thread) 19 2 place) 18 1) + (nI 1)), A, P, X)) hx hb hK hP hJ hS mG_s (j := 292) (by omega) (by decide) dX7_traces_98 (mS_s zf_292) (fun H locs hP hS => ?_)
        exact m_retv hx hb hr hlk hP hS dX7_traces_99 (m_eq (by simp only [hN_X7_traces_lp, if_neg c89_2]) rfl rfl rfl)
    | succ n ih =>
      intro k N H locs ls hn hl hP hS
      refine lv_iload_n hx hb dX7_traces_3 rfl (lv_at hl 3 rfl) ?_
      refine lv_iconst (v := nI 2) hx hb dX7_traces_4 (by decide) ?_
      refine lv_icmp_le (tgt := 36) hx hb dX7_traces_5 (by decide) (fun c5_3 => absurd c5_3 (nI_ge (by omega) (by omega))) (fun c5_3 => ?_)
      refine lv_aload_n hx hb dX7_traces_8 rfl (lv_at hl 0 rfl) ?_
      refine mgO0 hx hb hts hiX7 hown hK hP (hts (.fieldLink RX7 7 "BarrelProcessorModel" "s" "[I") (by decide +kernel)) dX7_traces_9 ?_
      refine lv_sipush (v := nI 293) hx hb dX7_traces_12 (by decide) ?_
      refine lv_iload_n hx hb dX7_traces_15 rfl (lv_at hl 3 rfl) ?_
      refine lv_iadd hx hb dX7_traces_16 ?_
      refine z_val (z := nI (293 + k)) (nI_add _ _) ?_
      refine lv_aload_n hx hb dX7_traces_17 rfl (lv_at hl 0 rfl) ?_
      refine mgO0 hx hb hts hiX7 hown hK hP (hts (.fieldLink RX7 7 "BarrelProcessorModel" "s" "[I") (by decide +kernel)) dX7_traces_18 ?_
      refine lv_sipush (v := nI 293) hx hb dX7_traces_21 (by decide) ?_
      refine lv_iload_n hx hb dX7_traces_24 rfl (lv_at hl 3 rfl) ?_
      refine lv_iadd hx hb dX7_traces_25 ?_
      refine z_val (z := nI (293 + k)) (nI_add _ _) ?_
      refine lv_iconst (v := nI 3) hx hb dX7_traces_26 (by decide) ?_
      refine lv_isub hx hb dX7_traces_27 ?_
      refine z_val (z := nI ((293 + k) - 3)) (pk_sub (by omega)) ?_
      rw [show (293 + k) - 3 = 293 + (k - 3) by omega]
      refine m_iald hx hb hK hP mG_s (j := 293 + (k - 3)) (by omega) (by decide) dX7_traces_28 ?_
      refine z_val (z := N 19 (k - 3)) (zen_of (zf_pt _)) ?_
      refine m_iast (Z' := (zu N 19 k (N 19 (k - 3)), A, P, X)) hx hb hK hP hJ hS mG_s (j := 293 + k) (by omega) (by decide) dX7_traces_29 (mS_s (zf_pt _)) (fun H locs hP hS => ?_)
      refine lv_iinc (v := nI (k - 1)) (lv' := [(3, .int (nI (k - 1))), (0, .ref (a 0)), (1, .int thread), (2, .int place)]) hx hb dX7_traces_30 hl (k := 3) rfl (z_dec (by omega)) (by decide) rfl (fun ls hl => ?_)
      refine lv_goto (tgt := 3) hx hb dX7_traces_33 (by decide) ?_
      refine m_tov (Z2 := (hN_X7_traces_lp thread place n (k - 1) (zu N 19 k (N 19 (k - 3))), A, P, X)) (m_eq (by first | rfl | simp only [hN_X7_traces_lp]) rfl rfl rfl) ?_
      exact ih (k - 1) (zu N 19 k (N 19 (k - 3))) _ _ _ (by omega) (lv_sub hl [1, 2, 3, 0] rfl) hP hS
  refine lv_bipush (v := nI 47) hx hb dX7_traces_0 (by decide) ?_
  refine lv_istore_n (lv' := [(3, .int (nI 47)), (0, .ref (a 0)), (1, .int thread), (2, .int place)]) hx hb dX7_traces_2 rfl hl (by decide) rfl (fun ls hl => ?_)
  refine m_tov (Z2 := (hN_X7_traces_lp thread place 45 47 N, A, P, X)) (m_eq (by first | rfl | simp only [hN_X7_traces]) rfl rfl rfl) ?_
  exact lp3 45 47 N _ _ _ (by omega) (lv_sub hl [1, 2, 3, 0] rfl) hP hS

/-- an instruction as the reference's places hold it: its operands are what its operation wants -/
def pOK (op r q : Int32) : Prop := ((op = nI 0 ∨ op = nI 1 ∨ op = nI 2 ∨ op = nI 3 ∨ op = nI 4 ∨ op = nI 5 ∨ op = nI 6 ∨ op = nI 8 ∨ op = nI 9) → zIn r 4) ∧ ((op = nI 1 ∨ op = nI 2 ∨ op = nI 3 ∨ op = nI 4 ∨ op = nI 5 ∨ op = nI 6) → zIn q 4) ∧ (op = nI 7 → zIn r 48) ∧ ((op = nI 8 ∨ op = nI 9) → zIn q 48) ∧ (op = nI 0 → q.toInt16.toInt32 = q) ∧ zIn op 12

def hN_X7_does (t : Nat) (op : Int32) (r : Int32) (q : Int32) (N : zM) : zM := if (g_X7_in q (nI 0) (nI 3)) = 0 then if op = nI 0 then hN_X7_puts t (zc r) q N else if op = nI 1 then hN_X7_puts t (zc r) ((g_X7_register0 t (zc r) N) + (g_X7_register0 t (zc q) N)) N else if op = nI 2 then hN_X7_puts t (zc r) ((g_X7_register0 t (zc r) N) - (g_X7_register0 t (zc q) N)) N else if op = nI 3 then hN_X7_puts t (zc r) ((g_X7_register0 t (zc r) N) * (g_X7_register0 t (zc q) N)) N else if op = nI 4 then zu (zu (zu (zu N 0 t (nI 2)) 2 t r) 3 t (nI 200)) 4 t ((((zu (zu (zu N 0 t (nI 2)) 2 t r) 3 t (nI 200)) 16 0) + (nI 1)) + ((zu (zu (zu N 0 t (nI 2)) 2 t r) 3 t (nI 200)) 15 0)) else if op = nI 5 then zu N 13 0 (g_X7_register0 t (zc r) N) else if op = nI 6 then zu (hN_X7_puts t (zc r) (N 13 0) N) 13 0 (g_X7_register0 t (zc r) N) else if op = nI 7 then hN_X7_jumps t r (nI 1) N else if op = nI 8 then if (g_X7_register0 t (zc r) N) = 0 then hN_X7_jumps t q (nI 1) N else hN_X7_jumps t q (nI 0) N else if op = nI 9 then if 0 ≤ (g_X7_register0 t (zc r) N) then hN_X7_jumps t q (nI 0) N else hN_X7_jumps t q (nI 1) N else if op = nI 10 then zu N 0 t (nI 3) else zu N 0 t (nI 0) else if op = nI 0 then hN_X7_puts t (zc r) q N else if op = nI 1 then hN_X7_puts t (zc r) ((g_X7_register0 t (zc r) N) + (g_X7_register0 t (zc q) N)) N else if op = nI 2 then hN_X7_puts t (zc r) ((g_X7_register0 t (zc r) N) - (g_X7_register0 t (zc q) N)) N else if op = nI 3 then hN_X7_puts t (zc r) ((g_X7_register0 t (zc r) N) * (g_X7_register0 t (zc q) N)) N else if op = nI 4 then zu (zu (zu (zu N 0 t (nI 2)) 2 t r) 3 t (nI (200 + ((g_X7_register0 t (zc q) N).toBitVec.toNat % 32)))) 4 t ((((zu (zu (zu N 0 t (nI 2)) 2 t r) 3 t (nI (200 + ((g_X7_register0 t (zc q) N).toBitVec.toNat % 32)))) 16 0) + (nI 1)) + ((zu (zu (zu N 0 t (nI 2)) 2 t r) 3 t (nI (200 + ((g_X7_register0 t (zc q) N).toBitVec.toNat % 32)))) 15 0)) else if op = nI 5 then zu N 13 ((g_X7_register0 t (zc q) N).toBitVec.toNat % 32) (g_X7_register0 t (zc r) N) else if op = nI 6 then zu (hN_X7_puts t (zc r) (N 13 ((g_X7_register0 t (zc q) N).toBitVec.toNat % 32)) N) 13 ((g_X7_register0 t (zc q) N).toBitVec.toNat % 32) (g_X7_register0 t (zc r) N) else if op = nI 7 then hN_X7_jumps t r (nI 1) N else if op = nI 8 then if (g_X7_register0 t (zc r) N) = 0 then hN_X7_jumps t q (nI 1) N else hN_X7_jumps t q (nI 0) N else if op = nI 9 then if 0 ≤ (g_X7_register0 t (zc r) N) then hN_X7_jumps t q (nI 0) N else hN_X7_jumps t q (nI 1) N else if op = nI 10 then zu N 0 t (nI 3) else zu N 0 t (nI 0)
set_option maxHeartbeats 4000000 in
set_option maxRecDepth 100000 in
theorem ct_X7_does (l : Launch) (D : va_G) (a : Nat → Nat) (cI : ClassId) (hJ : mJ a) (N A P X : zM) (t : Nat) (op : Int32) (r : Int32) (q : Int32) (ht : t < 4) (hW : pOK op r q) : mCv l yX7_does wsX7_does ({ frames := 2, cells := 0, slots := 0, locals := 44 } : Room) D a cI [.ref (a 0), .int (nI t), .int op, .int r, .int q] (N, A, P, X) (hN_X7_does t op r q N, A, P, X) := by
  have hiX7 : ∀ w ∈ wsX70, w ∈ wsX7_does := by decide +kernel
  refine m_ofv (cc := cX7_does) (maxL := 7) (own := RX7) (by decide) rfl (Nat.le_of_ble_eq_true rfl) rfl (fun p e s m below meth c ls hx hb hr hml hts hown hlk hl hK hP hS => ?_)
  have hl : lv_has ls 7 [(0, .ref (a 0)), (1, .int (nI t)), (2, .int op), (3, .int r), (4, .int q)] := hl
  refine lv_iload hx hb dX7_does_0 (lv_at hl 4 rfl) ?_
  refine lv_iconst (v := nI 0) hx hb dX7_does_2 (by decide) ?_
  refine lv_iconst (v := nI 3) hx hb dX7_does_3 (by decide) ?_
  refine m_cSi (As := [.int q, .int (nI 0), .int (nI 3)]) (rest := []) ⟨hx, hb, hml, hown, hts⟩ (ct_X7_in l D a cI hJ N A P X q (nI 0) (nI 3)) (va_cwS 3 hts gX7_does_X7_in rfl rfl rfl (by decide +kernel) ⟨Nat.le_of_ble_eq_true rfl, Nat.le_of_ble_eq_true rfl⟩) hK hP hS rfl hl.1 rfl (Nat.le_of_ble_eq_true rfl) dX7_does_4 ⟨Nat.zero_le _, Nat.zero_le _⟩ (fun H locs hP hS => ?_)
  refine lv_if_eq (tgt := 27) hx hb dX7_does_7 (by decide) (fun c7_1 => ?_) (fun c7_1 => ?_)
  · refine lv_sipush (v := nI 200) hx hb dX7_does_27 (by decide) ?_
    refine lv_istore (lv' := [(5, .int (nI 200)), (0, .ref (a 0)), (1, .int (nI t)), (2, .int op), (3, .int r), (4, .int q)]) hx hb dX7_does_30 hl (by decide) rfl (fun ls hl => ?_)
    refine lv_iload_n hx hb dX7_does_32 rfl (lv_at hl 3 rfl) ?_
    by_cases c33_2 : op = nI 0
    · refine lv_tableIn (tgt := 92) (off := 59) hx hb dX7_does_33 (by rw [c33_2]; decide) (by rw [c33_2]; decide) (by rw [c33_2]; rfl) (by decide) ?_
      refine lv_aload_n hx hb dX7_does_92 rfl (lv_at hl 1 rfl) ?_
      refine lv_iload_n hx hb dX7_does_93 rfl (lv_at hl 2 rfl) ?_
      refine lv_iload_n hx hb dX7_does_94 rfl (lv_at hl 4 rfl) ?_
      refine z_val (z := nI (zc r)) (hW.1 (Or.inl ‹op = nI 0›)).2 ?_
      refine lv_iload hx hb dX7_does_95 (lv_at hl 5 rfl) ?_
      refine m_cVv (As := [.int (nI t), .int (nI (zc r)), .int q]) (rest := []) ⟨hx, hb, hml, hown, hts⟩ (ct_X7_puts l D a cI hJ N A P X t (zc r) q (by omega) ((hW.1 (Or.inl ‹op = nI 0›)).1)) (cwV 3 hts gX7_does_X7_puts rfl rfl rfl (by decide +kernel) ⟨Nat.le_of_ble_eq_true rfl, Nat.le_of_ble_eq_true rfl⟩) hK hP hS (va_recv (ci := 7) hK hP rfl mG_O) rfl hl.1 rfl (Nat.le_of_ble_eq_true rfl) dX7_does_97 ⟨Nat.zero_le _, Nat.zero_le _⟩ (fun H locs hP hS => ?_)
      refine lv_goto (tgt := 373) hx hb dX7_does_100 (by decide) ?_
      exact m_retv hx hb hr hlk hP hS dX7_does_373 (m_eq (by simp only [hN_X7_does, if_pos c7_1, if_pos c33_2]) rfl rfl rfl)
    · by_cases c33_3 : op = nI 1
      · refine lv_tableIn (tgt := 103) (off := 70) hx hb dX7_does_33 (by rw [c33_3]; decide) (by rw [c33_3]; decide) (by rw [c33_3]; rfl) (by decide) ?_
        refine lv_aload_n hx hb dX7_does_103 rfl (lv_at hl 1 rfl) ?_
        refine lv_iload_n hx hb dX7_does_104 rfl (lv_at hl 2 rfl) ?_
        refine lv_iload_n hx hb dX7_does_105 rfl (lv_at hl 4 rfl) ?_
        refine z_val (z := nI (zc r)) (hW.1 (Or.inr (Or.inl ‹op = nI 1›))).2 ?_
        refine lv_aload_n hx hb dX7_does_106 rfl (lv_at hl 1 rfl) ?_
        refine lv_iload_n hx hb dX7_does_107 rfl (lv_at hl 2 rfl) ?_
        refine lv_iload_n hx hb dX7_does_108 rfl (lv_at hl 4 rfl) ?_
        refine z_val (z := nI (zc r)) (hW.1 (Or.inr (Or.inl ‹op = nI 1›))).2 ?_
        refine m_cVi (As := [.int (nI t), .int (nI (zc r))]) (rest := [.int (nI (zc r)), .int (nI t), .ref (a 0)]) ⟨hx, hb, hml, hown, hts⟩ (ct_X7_register0 l D a cI hJ N A P X t (zc r) (by omega) ((hW.1 (Or.inr (Or.inl ‹op = nI 1›))).1)) (cwV 2 hts gX7_does_X7_register0 rfl rfl rfl (by decide +kernel) ⟨Nat.le_of_ble_eq_true rfl, Nat.le_of_ble_eq_true rfl⟩) hK hP hS (va_recv (ci := 7) hK hP rfl mG_O) rfl hl.1 rfl (Nat.le_of_ble_eq_true rfl) dX7_does_109 ⟨Nat.zero_le _, Nat.zero_le _⟩ (fun H locs hP hS => ?_)
        refine lv_aload_n hx hb dX7_does_112 rfl (lv_at hl 1 rfl) ?_
        refine lv_iload_n hx hb dX7_does_113 rfl (lv_at hl 2 rfl) ?_
        refine lv_iload hx hb dX7_does_114 (lv_at hl 5 rfl) ?_
        refine z_val (z := nI (zc q)) (hW.2.1 (Or.inl ‹op = nI 1›)).2 ?_
        refine m_cVi (As := [.int (nI t), .int (nI (zc q))]) (rest := [.int (g_X7_register0 t (zc r) N), .int (nI (zc r)), .int (nI t), .ref (a 0)]) ⟨hx, hb, hml, hown, hts⟩ (ct_X7_register0 l D a cI hJ N A P X t (zc q) (by omega) ((hW.2.1 (Or.inl ‹op = nI 1›)).1)) (cwV 2 hts gX7_does_X7_register0 rfl rfl rfl (by decide +kernel) ⟨Nat.le_of_ble_eq_true rfl, Nat.le_of_ble_eq_true rfl⟩) hK hP hS (va_recv (ci := 7) hK hP rfl mG_O) rfl hl.1 rfl (Nat.le_of_ble_eq_true rfl) dX7_does_116 ⟨Nat.zero_le _, Nat.zero_le _⟩ (fun H locs hP hS => ?_)
        refine lv_iadd hx hb dX7_does_119 ?_
        refine m_cVv (As := [.int (nI t), .int (nI (zc r)), .int ((g_X7_register0 t (zc r) N) + (g_X7_register0 t (zc q) N))]) (rest := []) ⟨hx, hb, hml, hown, hts⟩ (ct_X7_puts l D a cI hJ N A P X t (zc r) ((g_X7_register0 t (zc r) N) + (g_X7_register0 t (zc q) N)) (by omega) ((hW.1 (Or.inr (Or.inl ‹op = nI 1›))).1)) (cwV 3 hts gX7_does_X7_puts rfl rfl rfl (by decide +kernel) ⟨Nat.le_of_ble_eq_true rfl, Nat.le_of_ble_eq_true rfl⟩) hK hP hS (va_recv (ci := 7) hK hP rfl mG_O) rfl hl.1 rfl (Nat.le_of_ble_eq_true rfl) dX7_does_120 ⟨Nat.zero_le _, Nat.zero_le _⟩ (fun H locs hP hS => ?_)
        refine lv_goto (tgt := 373) hx hb dX7_does_123 (by decide) ?_
        exact m_retv hx hb hr hlk hP hS dX7_does_373 (m_eq (by simp only [hN_X7_does, if_pos c7_1, if_neg c33_2, if_pos c33_3]) rfl rfl rfl)
      · by_cases c33_4 : op = nI 2
        · refine lv_tableIn (tgt := 126) (off := 93) hx hb dX7_does_33 (by rw [c33_4]; decide) (by rw [c33_4]; decide) (by rw [c33_4]; rfl) (by decide) ?_
          refine lv_aload_n hx hb dX7_does_126 rfl (lv_at hl 1 rfl) ?_
          refine lv_iload_n hx hb dX7_does_127 rfl (lv_at hl 2 rfl) ?_
          refine lv_iload_n hx hb dX7_does_128 rfl (lv_at hl 4 rfl) ?_
          refine z_val (z := nI (zc r)) (hW.1 (Or.inr (Or.inr (Or.inl ‹op = nI 2›)))).2 ?_
          refine lv_aload_n hx hb dX7_does_129 rfl (lv_at hl 1 rfl) ?_
          refine lv_iload_n hx hb dX7_does_130 rfl (lv_at hl 2 rfl) ?_
          refine lv_iload_n hx hb dX7_does_131 rfl (lv_at hl 4 rfl) ?_
          refine z_val (z := nI (zc r)) (hW.1 (Or.inr (Or.inr (Or.inl ‹op = nI 2›)))).2 ?_
          refine m_cVi (As := [.int (nI t), .int (nI (zc r))]) (rest := [.int (nI (zc r)), .int (nI t), .ref (a 0)]) ⟨hx, hb, hml, hown, hts⟩ (ct_X7_register0 l D a cI hJ N A P X t (zc r) (by omega) ((hW.1 (Or.inr (Or.inr (Or.inl ‹op = nI 2›)))).1)) (cwV 2 hts gX7_does_X7_register0 rfl rfl rfl (by decide +kernel) ⟨Nat.le_of_ble_eq_true rfl, Nat.le_of_ble_eq_true rfl⟩) hK hP hS (va_recv (ci := 7) hK hP rfl mG_O) rfl hl.1 rfl (Nat.le_of_ble_eq_true rfl) dX7_does_132 ⟨Nat.zero_le _, Nat.zero_le _⟩ (fun H locs hP hS => ?_)
          refine lv_aload_n hx hb dX7_does_135 rfl (lv_at hl 1 rfl) ?_
          refine lv_iload_n hx hb dX7_does_136 rfl (lv_at hl 2 rfl) ?_
          refine lv_iload hx hb dX7_does_137 (lv_at hl 5 rfl) ?_
          refine z_val (z := nI (zc q)) (hW.2.1 (Or.inr (Or.inl ‹op = nI 2›))).2 ?_
          refine m_cVi (As := [.int (nI t), .int (nI (zc q))]) (rest := [.int (g_X7_register0 t (zc r) N), .int (nI (zc r)), .int (nI t), .ref (a 0)]) ⟨hx, hb, hml, hown, hts⟩ (ct_X7_register0 l D a cI hJ N A P X t (zc q) (by omega) ((hW.2.1 (Or.inr (Or.inl ‹op = nI 2›))).1)) (cwV 2 hts gX7_does_X7_register0 rfl rfl rfl (by decide +kernel) ⟨Nat.le_of_ble_eq_true rfl, Nat.le_of_ble_eq_true rfl⟩) hK hP hS (va_recv (ci := 7) hK hP rfl mG_O) rfl hl.1 rfl (Nat.le_of_ble_eq_true rfl) dX7_does_139 ⟨Nat.zero_le _, Nat.zero_le _⟩ (fun H locs hP hS => ?_)
          refine lv_isub hx hb dX7_does_142 ?_
          refine m_cVv (As := [.int (nI t), .int (nI (zc r)), .int ((g_X7_register0 t (zc r) N) - (g_X7_register0 t (zc q) N))]) (rest := []) ⟨hx, hb, hml, hown, hts⟩ (ct_X7_puts l D a cI hJ N A P X t (zc r) ((g_X7_register0 t (zc r) N) - (g_X7_register0 t (zc q) N)) (by omega) ((hW.1 (Or.inr (Or.inr (Or.inl ‹op = nI 2›)))).1)) (cwV 3 hts gX7_does_X7_puts rfl rfl rfl (by decide +kernel) ⟨Nat.le_of_ble_eq_true rfl, Nat.le_of_ble_eq_true rfl⟩) hK hP hS (va_recv (ci := 7) hK hP rfl mG_O) rfl hl.1 rfl (Nat.le_of_ble_eq_true rfl) dX7_does_143 ⟨Nat.zero_le _, Nat.zero_le _⟩ (fun H locs hP hS => ?_)
          refine lv_goto (tgt := 373) hx hb dX7_does_146 (by decide) ?_
          exact m_retv hx hb hr hlk hP hS dX7_does_373 (m_eq (by simp only [hN_X7_does, if_pos c7_1, if_neg c33_2, if_neg c33_3, if_pos c33_4]) rfl rfl rfl)
        · by_cases c33_5 : op = nI 3
          · refine lv_tableIn (tgt := 149) (off := 116) hx hb dX7_does_33 (by rw [c33_5]; decide) (by rw [c33_5]; decide) (by rw [c33_5]; rfl) (by decide) ?_
            refine lv_aload_n hx hb dX7_does_149 rfl (lv_at hl 1 rfl) ?_
            refine lv_iload_n hx hb dX7_does_150 rfl (lv_at hl 2 rfl) ?_
            refine lv_iload_n hx hb dX7_does_151 rfl (lv_at hl 4 rfl) ?_
            refine z_val (z := nI (zc r)) (hW.1 (Or.inr (Or.inr (Or.inr (Or.inl ‹op = nI 3›))))).2 ?_
            refine lv_aload_n hx hb dX7_does_152 rfl (lv_at hl 1 rfl) ?_
            refine lv_iload_n hx hb dX7_does_153 rfl (lv_at hl 2 rfl) ?_
            refine lv_iload_n hx hb dX7_does_154 rfl (lv_at hl 4 rfl) ?_
            refine z_val (z := nI (zc r)) (hW.1 (Or.inr (Or.inr (Or.inr (Or.inl ‹op = nI 3›))))).2 ?_
            refine m_cVi (As := [.int (nI t), .int (nI (zc r))]) (rest := [.int (nI (zc r)), .int (nI t), .ref (a 0)]) ⟨hx, hb, hml, hown, hts⟩ (ct_X7_register0 l D a cI hJ N A P X t (zc r) (by omega) ((hW.1 (Or.inr (Or.inr (Or.inr (Or.inl ‹op = nI 3›))))).1)) (cwV 2 hts gX7_does_X7_register0 rfl rfl rfl (by decide +kernel) ⟨Nat.le_of_ble_eq_true rfl, Nat.le_of_ble_eq_true rfl⟩) hK hP hS (va_recv (ci := 7) hK hP rfl mG_O) rfl hl.1 rfl (Nat.le_of_ble_eq_true rfl) dX7_does_155 ⟨Nat.zero_le _, Nat.zero_le _⟩ (fun H locs hP hS => ?_)
            refine lv_aload_n hx hb dX7_does_158 rfl (lv_at hl 1 rfl) ?_
            refine lv_iload_n hx hb dX7_does_159 rfl (lv_at hl 2 rfl) ?_
            refine lv_iload hx hb dX7_does_160 (lv_at hl 5 rfl) ?_
            refine z_val (z := nI (zc q)) (hW.2.1 (Or.inr (Or.inr (Or.inl ‹op = nI 3›)))).2 ?_
            refine m_cVi (As := [.int (nI t), .int (nI (zc q))]) (rest := [.int (g_X7_register0 t (zc r) N), .int (nI (zc r)), .int (nI t), .ref (a 0)]) ⟨hx, hb, hml, hown, hts⟩ (ct_X7_register0 l D a cI hJ N A P X t (zc q) (by omega) ((hW.2.1 (Or.inr (Or.inr (Or.inl ‹op = nI 3›)))).1)) (cwV 2 hts gX7_does_X7_register0 rfl rfl rfl (by decide +kernel) ⟨Nat.le_of_ble_eq_true rfl, Nat.le_of_ble_eq_true rfl⟩) hK hP hS (va_recv (ci := 7) hK hP rfl mG_O) rfl hl.1 rfl (Nat.le_of_ble_eq_true rfl) dX7_does_162 ⟨Nat.zero_le _, Nat.zero_le _⟩ (fun H locs hP hS => ?_)
            refine lv_imul hx hb dX7_does_165 ?_
            refine m_cVv (As := [.int (nI t), .int (nI (zc r)), .int ((g_X7_register0 t (zc r) N) * (g_X7_register0 t (zc q) N))]) (rest := []) ⟨hx, hb, hml, hown, hts⟩ (ct_X7_puts l D a cI hJ N A P X t (zc r) ((g_X7_register0 t (zc r) N) * (g_X7_register0 t (zc q) N)) (by omega) ((hW.1 (Or.inr (Or.inr (Or.inr (Or.inl ‹op = nI 3›))))).1)) (cwV 3 hts gX7_does_X7_puts rfl rfl rfl (by decide +kernel) ⟨Nat.le_of_ble_eq_true rfl, Nat.le_of_ble_eq_true rfl⟩) hK hP hS (va_recv (ci := 7) hK hP rfl mG_O) rfl hl.1 rfl (Nat.le_of_ble_eq_true rfl) dX7_does_166 ⟨Nat.zero_le _, Nat.zero_le _⟩ (fun H locs hP hS => ?_)
            refine lv_goto (tgt := 373) hx hb dX7_does_169 (by decide) ?_
            exact m_retv hx hb hr hlk hP hS dX7_does_373 (m_eq (by simp only [hN_X7_does, if_pos c7_1, if_neg c33_2, if_neg c33_3, if_neg c33_4, if_pos c33_5]) rfl rfl rfl)
          · by_cases c33_6 : op = nI 4
            · refine lv_tableIn (tgt := 172) (off := 139) hx hb dX7_does_33 (by rw [c33_6]; decide) (by rw [c33_6]; decide) (by rw [c33_6]; rfl) (by decide) ?_
              refine lv_aload_n hx hb dX7_does_172 rfl (lv_at hl 1 rfl) ?_
              refine mgO0 hx hb hts hiX7 hown hK hP (hts (.fieldLink RX7 7 "BarrelProcessorModel" "s" "[I") (by decide +kernel)) dX7_does_173 ?_
              refine lv_iload_n hx hb dX7_does_176 rfl (lv_at hl 2 rfl) ?_
              refine lv_iconst (v := nI 0) hx hb dX7_does_177 (by decide) ?_
              refine m_cSi (As := [.int (nI t), .int (nI 0)]) (rest := [.ref (a 1)]) ⟨hx, hb, hml, hown, hts⟩ (ct_X7_at l D a cI hJ N A P X (nI t) (nI 0)) (va_cwS 2 hts gX7_does_X7_at rfl rfl rfl (by decide +kernel) ⟨Nat.le_of_ble_eq_true rfl, Nat.le_of_ble_eq_true rfl⟩) hK hP hS rfl hl.1 rfl (Nat.le_of_ble_eq_true rfl) dX7_does_178 ⟨Nat.zero_le _, Nat.zero_le _⟩ (fun H locs hP hS => ?_)
              refine z_val (z := nI (14 * t + 0)) (z_at _ _) ?_
              refine lv_iconst (v := nI 2) hx hb dX7_does_181 (by decide) ?_
              refine m_iast (Z' := (zu N 0 t (nI 2), A, P, X)) hx hb hK hP hJ hS mG_s (j := 14 * t + 0) (by omega) (by decide) dX7_does_182 (mS_s (zf_t0 (by omega))) (fun H locs hP hS => ?_)
              refine lv_aload_n hx hb dX7_does_183 rfl (lv_at hl 1 rfl) ?_
              refine mgO0 hx hb hts hiX7 hown hK hP (hts (.fieldLink RX7 7 "BarrelProcessorModel" "s" "[I") (by decide +kernel)) dX7_does_184 ?_
              refine lv_iload_n hx hb dX7_does_187 rfl (lv_at hl 2 rfl) ?_
              refine lv_bipush (v := nI 6) hx hb dX7_does_188 (by decide) ?_
              refine m_cSi (As := [.int (nI t), .int (nI 6)]) (rest := [.ref (a 1)]) ⟨hx, hb, hml, hown, hts⟩ (ct_X7_at l D a cI hJ (zu N 0 t (nI 2)) A P X (nI t) (nI 6)) (va_cwS 2 hts gX7_does_X7_at rfl rfl rfl (by decide +kernel) ⟨Nat.le_of_ble_eq_true rfl, Nat.le_of_ble_eq_true rfl⟩) hK hP hS rfl hl.1 rfl (Nat.le_of_ble_eq_true rfl) dX7_does_190 ⟨Nat.zero_le _, Nat.zero_le _⟩ (fun H locs hP hS => ?_)
              refine z_val (z := nI (14 * t + 6)) (z_at _ _) ?_
              refine lv_iload_n hx hb dX7_does_193 rfl (lv_at hl 4 rfl) ?_
              refine m_iast (Z' := (zu (zu N 0 t (nI 2)) 2 t r, A, P, X)) hx hb hK hP hJ hS mG_s (j := 14 * t + 6) (by omega) (by decide) dX7_does_194 (mS_s (zf_t6 (by omega))) (fun H locs hP hS => ?_)
              refine lv_aload_n hx hb dX7_does_195 rfl (lv_at hl 1 rfl) ?_
              refine mgO0 hx hb hts hiX7 hown hK hP (hts (.fieldLink RX7 7 "BarrelProcessorModel" "s" "[I") (by decide +kernel)) dX7_does_196 ?_
              refine lv_iload_n hx hb dX7_does_199 rfl (lv_at hl 2 rfl) ?_
              refine lv_bipush (v := nI 7) hx hb dX7_does_200 (by decide) ?_
              refine m_cSi (As := [.int (nI t), .int (nI 7)]) (rest := [.ref (a 1)]) ⟨hx, hb, hml, hown, hts⟩ (ct_X7_at l D a cI hJ (zu (zu N 0 t (nI 2)) 2 t r) A P X (nI t) (nI 7)) (va_cwS 2 hts gX7_does_X7_at rfl rfl rfl (by decide +kernel) ⟨Nat.le_of_ble_eq_true rfl, Nat.le_of_ble_eq_true rfl⟩) hK hP hS rfl hl.1 rfl (Nat.le_of_ble_eq_true rfl) dX7_does_202 ⟨Nat.zero_le _, Nat.zero_le _⟩ (fun H locs hP hS => ?_)
              refine z_val (z := nI (14 * t + 7)) (z_at _ _) ?_
              refine lv_iload hx hb dX7_does_205 (lv_at hl 0 rfl) ?_
              refine m_iast (Z' := (zu (zu (zu N 0 t (nI 2)) 2 t r) 3 t (nI 200), A, P, X)) hx hb hK hP hJ hS mG_s (j := 14 * t + 7) (by omega) (by decide) dX7_does_207 (mS_s (zf_t7 (by omega))) (fun H locs hP hS => ?_)
              refine lv_aload_n hx hb dX7_does_208 rfl (lv_at hl 1 rfl) ?_
              refine mgO0 hx hb hts hiX7 hown hK hP (hts (.fieldLink RX7 7 "BarrelProcessorModel" "s" "[I") (by decide +kernel)) dX7_does_209 ?_
              refine lv_iload_n hx hb dX7_does_212 rfl (lv_at hl 2 rfl) ?_
              refine lv_bipush (v := nI 8) hx hb dX7_does_213 (by decide) ?_
              refine m_cSi (As := [.int (nI t), .int (nI 8)]) (rest := [.ref (a 1)]) ⟨hx, hb, hml, hown, hts⟩ (ct_X7_at l D a cI hJ (zu (zu (zu N 0 t (nI 2)) 2 t r) 3 t (nI 200)) A P X (nI t) (nI 8)) (va_cwS 2 hts gX7_does_X7_at rfl rfl rfl (by decide +kernel) ⟨Nat.le_of_ble_eq_true rfl, Nat.le_of_ble_eq_true rfl⟩) hK hP hS rfl hl.1 rfl (Nat.le_of_ble_eq_true rfl) dX7_does_215 ⟨Nat.zero_le _, Nat.zero_le _⟩ (fun H locs hP hS => ?_)
              refine z_val (z := nI (14 * t + 8)) (z_at _ _) ?_
              refine lv_aload_n hx hb dX7_does_218 rfl (lv_at hl 1 rfl) ?_
              refine mgO0 hx hb hts hiX7 hown hK hP (hts (.fieldLink RX7 7 "BarrelProcessorModel" "s" "[I") (by decide +kernel)) dX7_does_219 ?_
              refine lv_sipush (v := nI 232) hx hb dX7_does_222 (by decide) ?_
              refine m_iald hx hb hK hP mG_s (j := 232) (by omega) (by decide) dX7_does_225 ?_
              refine z_val (z := (zu (zu (zu N 0 t (nI 2)) 2 t r) 3 t (nI 200)) 16 0) (zen_of zf_232) ?_
              refine lv_iconst (v := nI 1) hx hb dX7_does_226 (by decide) ?_
              refine lv_iadd hx hb dX7_does_227 ?_
              refine lv_aload_n hx hb dX7_does_228 rfl (lv_at hl 1 rfl) ?_
              refine mgO0 hx hb hts hiX7 hown hK hP (hts (.fieldLink RX7 7 "BarrelProcessorModel" "s" "[I") (by decide +kernel)) dX7_does_229 ?_
              refine lv_sipush (v := nI 242) hx hb dX7_does_232 (by decide) ?_
              refine m_iald hx hb hK hP mG_s (j := 242) (by omega) (by decide) dX7_does_235 ?_
              refine z_val (z := (zu (zu (zu N 0 t (nI 2)) 2 t r) 3 t (nI 200)) 15 0) (zen_of zf_242) ?_
              refine lv_iadd hx hb dX7_does_236 ?_
              refine m_iast (Z' := (zu (zu (zu (zu N 0 t (nI 2)) 2 t r) 3 t (nI 200)) 4 t ((((zu (zu (zu N 0 t (nI 2)) 2 t r) 3 t (nI 200)) 16 0) + (nI 1)) + ((zu (zu (zu N 0 t (nI 2)) 2 t r) 3 t (nI 200)) 15 0)), A, P, X)) hx hb hK hP hJ hS mG_s (j := 14 * t + 8) (by omega) (by decide) dX7_does_237 (mS_s (zf_t8 (by omega))) (fun H locs hP hS => ?_)
              refine lv_goto (tgt := 373) hx hb dX7_does_238 (by decide) ?_
              exact m_retv hx hb hr hlk hP hS dX7_does_373 (m_eq (by simp only [hN_X7_does, if_pos c7_1, if_neg c33_2, if_neg c33_3, if_neg c33_4, if_neg c33_5, if_pos c33_6]) rfl rfl rfl)
            · by_cases c33_7 : op = nI 5
              · refine lv_tableIn (tgt := 241) (off := 208) hx hb dX7_does_33 (by rw [c33_7]; decide) (by rw [c33_7]; decide) (by rw [c33_7]; rfl) (by decide) ?_
                refine lv_aload_n hx hb dX7_does_241 rfl (lv_at hl 1 rfl) ?_
                refine mgO0 hx hb hts hiX7 hown hK hP (hts (.fieldLink RX7 7 "BarrelProcessorModel" "s" "[I") (by decide +kernel)) dX7_does_242 ?_
                refine lv_iload hx hb dX7_does_245 (lv_at hl 0 rfl) ?_
                refine lv_aload_n hx hb dX7_does_247 rfl (lv_at hl 1 rfl) ?_
                refine lv_iload_n hx hb dX7_does_248 rfl (lv_at hl 2 rfl) ?_
                refine lv_iload_n hx hb dX7_does_249 rfl (lv_at hl 4 rfl) ?_
                refine z_val (z := nI (zc r)) (hW.1 (Or.inr (Or.inr (Or.inr (Or.inr (Or.inr (Or.inl ‹op = nI 5›))))))).2 ?_
                refine m_cVi (As := [.int (nI t), .int (nI (zc r))]) (rest := [.int (nI 200), .ref (a 1)]) ⟨hx, hb, hml, hown, hts⟩ (ct_X7_register0 l D a cI hJ N A P X t (zc r) (by omega) ((hW.1 (Or.inr (Or.inr (Or.inr (Or.inr (Or.inr (Or.inl ‹op = nI 5›))))))).1)) (cwV 2 hts gX7_does_X7_register0 rfl rfl rfl (by decide +kernel) ⟨Nat.le_of_ble_eq_true rfl, Nat.le_of_ble_eq_true rfl⟩) hK hP hS (va_recv (ci := 7) hK hP rfl mG_O) rfl hl.1 rfl (Nat.le_of_ble_eq_true rfl) dX7_does_250 ⟨Nat.zero_le _, Nat.zero_le _⟩ (fun H locs hP hS => ?_)
                refine m_iast (Z' := (zu N 13 0 (g_X7_register0 t (zc r) N), A, P, X)) hx hb hK hP hJ hS mG_s (j := 200) (by omega) (by decide) dX7_does_253 (mS_s zf_200) (fun H locs hP hS => ?_)
                refine lv_goto (tgt := 373) hx hb dX7_does_254 (by decide) ?_
                exact m_retv hx hb hr hlk hP hS dX7_does_373 (m_eq (by simp only [hN_X7_does, if_pos c7_1, if_neg c33_2, if_neg c33_3, if_neg c33_4, if_neg c33_5, if_neg c33_6, if_pos c33_7]) rfl rfl rfl)
              · by_cases c33_8 : op = nI 6
                · refine lv_tableIn (tgt := 257) (off := 224) hx hb dX7_does_33 (by rw [c33_8]; decide) (by rw [c33_8]; decide) (by rw [c33_8]; rfl) (by decide) ?_
                  refine lv_aload_n hx hb dX7_does_257 rfl (lv_at hl 1 rfl) ?_
                  refine lv_iload_n hx hb dX7_does_258 rfl (lv_at hl 2 rfl) ?_
                  refine lv_iload_n hx hb dX7_does_259 rfl (lv_at hl 4 rfl) ?_
                  refine z_val (z := nI (zc r)) (hW.1 (Or.inr (Or.inr (Or.inr (Or.inr (Or.inr (Or.inr (Or.inl ‹op = nI 6›)))))))).2 ?_
                  refine m_cVi (As := [.int (nI t), .int (nI (zc r))]) (rest := []) ⟨hx, hb, hml, hown, hts⟩ (ct_X7_register0 l D a cI hJ N A P X t (zc r) (by omega) ((hW.1 (Or.inr (Or.inr (Or.inr (Or.inr (Or.inr (Or.inr (Or.inl ‹op = nI 6›)))))))).1)) (cwV 2 hts gX7_does_X7_register0 rfl rfl rfl (by decide +kernel) ⟨Nat.le_of_ble_eq_true rfl, Nat.le_of_ble_eq_true rfl⟩) hK hP hS (va_recv (ci := 7) hK hP rfl mG_O) rfl hl.1 rfl (Nat.le_of_ble_eq_true rfl) dX7_does_260 ⟨Nat.zero_le _, Nat.zero_le _⟩ (fun H locs hP hS => ?_)
                  refine lv_istore (lv' := [(6, .int (g_X7_register0 t (zc r) N)), (5, .int (nI 200)), (0, .ref (a 0)), (1, .int (nI t)), (2, .int op), (3, .int r), (4, .int q)]) hx hb dX7_does_263 hl (by decide) rfl (fun ls hl => ?_)
                  refine lv_aload_n hx hb dX7_does_265 rfl (lv_at hl 2 rfl) ?_
                  refine lv_iload_n hx hb dX7_does_266 rfl (lv_at hl 3 rfl) ?_
                  refine lv_iload_n hx hb dX7_does_267 rfl (lv_at hl 5 rfl) ?_
                  refine z_val (z := nI (zc r)) (hW.1 (Or.inr (Or.inr (Or.inr (Or.inr (Or.inr (Or.inr (Or.inl ‹op = nI 6›)))))))).2 ?_
                  refine lv_aload_n hx hb dX7_does_268 rfl (lv_at hl 2 rfl) ?_
                  refine mgO0 hx hb hts hiX7 hown hK hP (hts (.fieldLink RX7 7 "BarrelProcessorModel" "s" "[I") (by decide +kernel)) dX7_does_269 ?_
                  refine lv_iload hx hb dX7_does_272 (lv_at hl 1 rfl) ?_
                  refine m_iald hx hb hK hP mG_s (j := 200) (by omega) (by decide) dX7_does_274 ?_
                  refine z_val (z := N 13 0) (zen_of zf_200) ?_
                  refine m_cVv (As := [.int (nI t), .int (nI (zc r)), .int (N 13 0)]) (rest := []) ⟨hx, hb, hml, hown, hts⟩ (ct_X7_puts l D a cI hJ N A P X t (zc r) (N 13 0) (by omega) ((hW.1 (Or.inr (Or.inr (Or.inr (Or.inr (Or.inr (Or.inr (Or.inl ‹op = nI 6›)))))))).1)) (cwV 3 hts gX7_does_X7_puts rfl rfl rfl (by decide +kernel) ⟨Nat.le_of_ble_eq_true rfl, Nat.le_of_ble_eq_true rfl⟩) hK hP hS (va_recv (ci := 7) hK hP rfl mG_O) rfl hl.1 rfl (Nat.le_of_ble_eq_true rfl) dX7_does_275 ⟨Nat.zero_le _, Nat.zero_le _⟩ (fun H locs hP hS => ?_)
                  refine lv_aload_n hx hb dX7_does_278 rfl (lv_at hl 2 rfl) ?_
                  refine mgO0 hx hb hts hiX7 hown hK hP (hts (.fieldLink RX7 7 "BarrelProcessorModel" "s" "[I") (by decide +kernel)) dX7_does_279 ?_
                  refine lv_iload hx hb dX7_does_282 (lv_at hl 1 rfl) ?_
                  refine lv_iload hx hb dX7_does_284 (lv_at hl 0 rfl) ?_
                  refine m_iast (Z' := (zu (hN_X7_puts t (zc r) (N 13 0) N) 13 0 (g_X7_register0 t (zc r) N), A, P, X)) hx hb hK hP hJ hS mG_s (j := 200) (by omega) (by decide) dX7_does_286 (mS_s zf_200) (fun H locs hP hS => ?_)
                  refine lv_goto (tgt := 373) hx hb dX7_does_287 (by decide) ?_
                  exact m_retv hx hb hr hlk hP hS dX7_does_373 (m_eq (by simp only [hN_X7_does, if_pos c7_1, if_neg c33_2, if_neg c33_3, if_neg c33_4, if_neg c33_5, if_neg c33_6, if_neg c33_7, if_pos c33_8]) rfl rfl rfl)
                · by_cases c33_9 : op = nI 7
                  · refine lv_tableIn (tgt := 290) (off := 257) hx hb dX7_does_33 (by rw [c33_9]; decide) (by rw [c33_9]; decide) (by rw [c33_9]; rfl) (by decide) ?_
                    refine lv_aload_n hx hb dX7_does_290 rfl (lv_at hl 1 rfl) ?_
                    refine lv_iload_n hx hb dX7_does_291 rfl (lv_at hl 2 rfl) ?_
                    refine lv_iload_n hx hb dX7_does_292 rfl (lv_at hl 4 rfl) ?_
                    refine lv_iconst (v := nI 1) hx hb dX7_does_293 (by decide) ?_
                    refine m_cVv (As := [.int (nI t), .int r, .int (nI 1)]) (rest := []) ⟨hx, hb, hml, hown, hts⟩ (ct_X7_jumps l D a cI hJ N A P X t r (nI 1) (by omega)) (cwV 3 hts gX7_does_X7_jumps rfl rfl rfl (by decide +kernel) ⟨Nat.le_of_ble_eq_true rfl, Nat.le_of_ble_eq_true rfl⟩) hK hP hS (va_recv (ci := 7) hK hP rfl mG_O) rfl hl.1 rfl (Nat.le_of_ble_eq_true rfl) dX7_does_294 ⟨Nat.zero_le _, Nat.zero_le _⟩ (fun H locs hP hS => ?_)
                    refine lv_goto (tgt := 373) hx hb dX7_does_297 (by decide) ?_
                    exact m_retv hx hb hr hlk hP hS dX7_does_373 (m_eq (by simp only [hN_X7_does, if_pos c7_1, if_neg c33_2, if_neg c33_3, if_neg c33_4, if_neg c33_5, if_neg c33_6, if_neg c33_7, if_neg c33_8, if_pos c33_9]) rfl rfl rfl)
                  · by_cases c33_10 : op = nI 8
                    · refine lv_tableIn (tgt := 300) (off := 267) hx hb dX7_does_33 (by rw [c33_10]; decide) (by rw [c33_10]; decide) (by rw [c33_10]; rfl) (by decide) ?_
                      refine lv_aload_n hx hb dX7_does_300 rfl (lv_at hl 1 rfl) ?_
                      refine lv_iload_n hx hb dX7_does_301 rfl (lv_at hl 2 rfl) ?_
                      refine lv_iload hx hb dX7_does_302 (lv_at hl 5 rfl) ?_
                      refine lv_aload_n hx hb dX7_does_304 rfl (lv_at hl 1 rfl) ?_
                      refine lv_iload_n hx hb dX7_does_305 rfl (lv_at hl 2 rfl) ?_
                      refine lv_iload_n hx hb dX7_does_306 rfl (lv_at hl 4 rfl) ?_
                      refine z_val (z := nI (zc r)) (hW.1 (Or.inr (Or.inr (Or.inr (Or.inr (Or.inr (Or.inr (Or.inr (Or.inl ‹op = nI 8›))))))))).2 ?_
                      refine m_cVi (As := [.int (nI t), .int (nI (zc r))]) (rest := [.int q, .int (nI t), .ref (a 0)]) ⟨hx, hb, hml, hown, hts⟩ (ct_X7_register0 l D a cI hJ N A P X t (zc r) (by omega) ((hW.1 (Or.inr (Or.inr (Or.inr (Or.inr (Or.inr (Or.inr (Or.inr (Or.inl ‹op = nI 8›))))))))).1)) (cwV 2 hts gX7_does_X7_register0 rfl rfl rfl (by decide +kernel) ⟨Nat.le_of_ble_eq_true rfl, Nat.le_of_ble_eq_true rfl⟩) hK hP hS (va_recv (ci := 7) hK hP rfl mG_O) rfl hl.1 rfl (Nat.le_of_ble_eq_true rfl) dX7_does_307 ⟨Nat.zero_le _, Nat.zero_le _⟩ (fun H locs hP hS => ?_)
                      refine lv_if_ne (tgt := 317) hx hb dX7_does_310 (by decide) (fun c310_11 => ?_) (fun c310_11 => ?_)
                      · refine lv_iconst (v := nI 0) hx hb dX7_does_317 (by decide) ?_
                        refine m_cVv (As := [.int (nI t), .int q, .int (nI 0)]) (rest := []) ⟨hx, hb, hml, hown, hts⟩ (ct_X7_jumps l D a cI hJ N A P X t q (nI 0) (by omega)) (cwV 3 hts gX7_does_X7_jumps rfl rfl rfl (by decide +kernel) ⟨Nat.le_of_ble_eq_true rfl, Nat.le_of_ble_eq_true rfl⟩) hK hP hS (va_recv (ci := 7) hK hP rfl mG_O) rfl hl.1 rfl (Nat.le_of_ble_eq_true rfl) dX7_does_318 ⟨Nat.zero_le _, Nat.zero_le _⟩ (fun H locs hP hS => ?_)
                        refine lv_goto (tgt := 373) hx hb dX7_does_321 (by decide) ?_
                        exact m_retv hx hb hr hlk hP hS dX7_does_373 (m_eq (by simp only [hN_X7_does, if_pos c7_1, if_neg c33_2, if_neg c33_3, if_neg c33_4, if_neg c33_5, if_neg c33_6, if_neg c33_7, if_neg c33_8, if_neg c33_9, if_pos c33_10, if_neg c310_11]) rfl rfl rfl)
                      · refine lv_iconst (v := nI 1) hx hb dX7_does_313 (by decide) ?_
                        refine lv_goto (tgt := 318) hx hb dX7_does_314 (by decide) ?_
                        refine m_cVv (As := [.int (nI t), .int q, .int (nI 1)]) (rest := []) ⟨hx, hb, hml, hown, hts⟩ (ct_X7_jumps l D a cI hJ N A P X t q (nI 1) (by omega)) (cwV 3 hts gX7_does_X7_jumps rfl rfl rfl (by decide +kernel) ⟨Nat.le_of_ble_eq_true rfl, Nat.le_of_ble_eq_true rfl⟩) hK hP hS (va_recv (ci := 7) hK hP rfl mG_O) rfl hl.1 rfl (Nat.le_of_ble_eq_true rfl) dX7_does_318 ⟨Nat.zero_le _, Nat.zero_le _⟩ (fun H locs hP hS => ?_)
                        refine lv_goto (tgt := 373) hx hb dX7_does_321 (by decide) ?_
                        exact m_retv hx hb hr hlk hP hS dX7_does_373 (m_eq (by simp only [hN_X7_does, if_pos c7_1, if_neg c33_2, if_neg c33_3, if_neg c33_4, if_neg c33_5, if_neg c33_6, if_neg c33_7, if_neg c33_8, if_neg c33_9, if_pos c33_10, if_pos c310_11]) rfl rfl rfl)
                    · by_cases c33_12 : op = nI 9
                      · refine lv_tableIn (tgt := 324) (off := 291) hx hb dX7_does_33 (by rw [c33_12]; decide) (by rw [c33_12]; decide) (by rw [c33_12]; rfl) (by decide) ?_
                        refine lv_aload_n hx hb dX7_does_324 rfl (lv_at hl 1 rfl) ?_
                        refine lv_iload_n hx hb dX7_does_325 rfl (lv_at hl 2 rfl) ?_
                        refine lv_iload hx hb dX7_does_326 (lv_at hl 5 rfl) ?_
                        refine lv_aload_n hx hb dX7_does_328 rfl (lv_at hl 1 rfl) ?_
                        refine lv_iload_n hx hb dX7_does_329 rfl (lv_at hl 2 rfl) ?_
                        refine lv_iload_n hx hb dX7_does_330 rfl (lv_at hl 4 rfl) ?_
                        refine z_val (z := nI (zc r)) (hW.1 (Or.inr (Or.inr (Or.inr (Or.inr (Or.inr (Or.inr (Or.inr (Or.inr (‹op = nI 9›)))))))))).2 ?_
                        refine m_cVi (As := [.int (nI t), .int (nI (zc r))]) (rest := [.int q, .int (nI t), .ref (a 0)]) ⟨hx, hb, hml, hown, hts⟩ (ct_X7_register0 l D a cI hJ N A P X t (zc r) (by omega) ((hW.1 (Or.inr (Or.inr (Or.inr (Or.inr (Or.inr (Or.inr (Or.inr (Or.inr (‹op = nI 9›)))))))))).1)) (cwV 2 hts gX7_does_X7_register0 rfl rfl rfl (by decide +kernel) ⟨Nat.le_of_ble_eq_true rfl, Nat.le_of_ble_eq_true rfl⟩) hK hP hS (va_recv (ci := 7) hK hP rfl mG_O) rfl hl.1 rfl (Nat.le_of_ble_eq_true rfl) dX7_does_331 ⟨Nat.zero_le _, Nat.zero_le _⟩ (fun H locs hP hS => ?_)
                        refine lv_if_ge (tgt := 341) hx hb dX7_does_334 (by decide) (fun c334_13 => ?_) (fun c334_13 => ?_)
                        · refine lv_iconst (v := nI 0) hx hb dX7_does_341 (by decide) ?_
                          refine m_cVv (As := [.int (nI t), .int q, .int (nI 0)]) (rest := []) ⟨hx, hb, hml, hown, hts⟩ (ct_X7_jumps l D a cI hJ N A P X t q (nI 0) (by omega)) (cwV 3 hts gX7_does_X7_jumps rfl rfl rfl (by decide +kernel) ⟨Nat.le_of_ble_eq_true rfl, Nat.le_of_ble_eq_true rfl⟩) hK hP hS (va_recv (ci := 7) hK hP rfl mG_O) rfl hl.1 rfl (Nat.le_of_ble_eq_true rfl) dX7_does_342 ⟨Nat.zero_le _, Nat.zero_le _⟩ (fun H locs hP hS => ?_)
                          refine lv_goto (tgt := 373) hx hb dX7_does_345 (by decide) ?_
                          exact m_retv hx hb hr hlk hP hS dX7_does_373 (m_eq (by simp only [hN_X7_does, if_pos c7_1, if_neg c33_2, if_neg c33_3, if_neg c33_4, if_neg c33_5, if_neg c33_6, if_neg c33_7, if_neg c33_8, if_neg c33_9, if_neg c33_10, if_pos c33_12, if_pos c334_13]) rfl rfl rfl)
                        · refine lv_iconst (v := nI 1) hx hb dX7_does_337 (by decide) ?_
                          refine lv_goto (tgt := 342) hx hb dX7_does_338 (by decide) ?_
                          refine m_cVv (As := [.int (nI t), .int q, .int (nI 1)]) (rest := []) ⟨hx, hb, hml, hown, hts⟩ (ct_X7_jumps l D a cI hJ N A P X t q (nI 1) (by omega)) (cwV 3 hts gX7_does_X7_jumps rfl rfl rfl (by decide +kernel) ⟨Nat.le_of_ble_eq_true rfl, Nat.le_of_ble_eq_true rfl⟩) hK hP hS (va_recv (ci := 7) hK hP rfl mG_O) rfl hl.1 rfl (Nat.le_of_ble_eq_true rfl) dX7_does_342 ⟨Nat.zero_le _, Nat.zero_le _⟩ (fun H locs hP hS => ?_)
                          refine lv_goto (tgt := 373) hx hb dX7_does_345 (by decide) ?_
                          exact m_retv hx hb hr hlk hP hS dX7_does_373 (m_eq (by simp only [hN_X7_does, if_pos c7_1, if_neg c33_2, if_neg c33_3, if_neg c33_4, if_neg c33_5, if_neg c33_6, if_neg c33_7, if_neg c33_8, if_neg c33_9, if_neg c33_10, if_pos c33_12, if_neg c334_13]) rfl rfl rfl)
                      · by_cases c33_14 : op = nI 10
                        · refine lv_tableIn (tgt := 348) (off := 315) hx hb dX7_does_33 (by rw [c33_14]; decide) (by rw [c33_14]; decide) (by rw [c33_14]; rfl) (by decide) ?_
                          refine lv_aload_n hx hb dX7_does_348 rfl (lv_at hl 1 rfl) ?_
                          refine mgO0 hx hb hts hiX7 hown hK hP (hts (.fieldLink RX7 7 "BarrelProcessorModel" "s" "[I") (by decide +kernel)) dX7_does_349 ?_
                          refine lv_iload_n hx hb dX7_does_352 rfl (lv_at hl 2 rfl) ?_
                          refine lv_iconst (v := nI 0) hx hb dX7_does_353 (by decide) ?_
                          refine m_cSi (As := [.int (nI t), .int (nI 0)]) (rest := [.ref (a 1)]) ⟨hx, hb, hml, hown, hts⟩ (ct_X7_at l D a cI hJ N A P X (nI t) (nI 0)) (va_cwS 2 hts gX7_does_X7_at rfl rfl rfl (by decide +kernel) ⟨Nat.le_of_ble_eq_true rfl, Nat.le_of_ble_eq_true rfl⟩) hK hP hS rfl hl.1 rfl (Nat.le_of_ble_eq_true rfl) dX7_does_354 ⟨Nat.zero_le _, Nat.zero_le _⟩ (fun H locs hP hS => ?_)
                          refine z_val (z := nI (14 * t + 0)) (z_at _ _) ?_
                          refine lv_iconst (v := nI 3) hx hb dX7_does_357 (by decide) ?_
                          refine m_iast (Z' := (zu N 0 t (nI 3), A, P, X)) hx hb hK hP hJ hS mG_s (j := 14 * t + 0) (by omega) (by decide) dX7_does_358 (mS_s (zf_t0 (by omega))) (fun H locs hP hS => ?_)
                          refine lv_goto (tgt := 373) hx hb dX7_does_359 (by decide) ?_
                          exact m_retv hx hb hr hlk hP hS dX7_does_373 (m_eq (by simp only [hN_X7_does, if_pos c7_1, if_neg c33_2, if_neg c33_3, if_neg c33_4, if_neg c33_5, if_neg c33_6, if_neg c33_7, if_neg c33_8, if_neg c33_9, if_neg c33_10, if_neg c33_12, if_pos c33_14]) rfl rfl rfl)
                        · have w0_33 := lv_neT c33_2 (k := nI 0) (a := 0) (by decide)
                          have w1_33 := lv_neT c33_3 (k := nI 1) (a := 1) (by decide)
                          have w2_33 := lv_neT c33_4 (k := nI 2) (a := 2) (by decide)
                          have w3_33 := lv_neT c33_5 (k := nI 3) (a := 3) (by decide)
                          have w4_33 := lv_neT c33_6 (k := nI 4) (a := 4) (by decide)
                          have w5_33 := lv_neT c33_7 (k := nI 5) (a := 5) (by decide)
                          have w6_33 := lv_neT c33_8 (k := nI 6) (a := 6) (by decide)
                          have w7_33 := lv_neT c33_9 (k := nI 7) (a := 7) (by decide)
                          have w8_33 := lv_neT c33_10 (k := nI 8) (a := 8) (by decide)
                          have w9_33 := lv_neT c33_12 (k := nI 9) (a := 9) (by decide)
                          have w10_33 := lv_neT c33_14 (k := nI 10) (a := 10) (by decide)
                          refine lv_tableOut (tgt := 362) hx hb dX7_does_33 (by omega) (by decide) ?_
                          refine lv_aload_n hx hb dX7_does_362 rfl (lv_at hl 1 rfl) ?_
                          refine mgO0 hx hb hts hiX7 hown hK hP (hts (.fieldLink RX7 7 "BarrelProcessorModel" "s" "[I") (by decide +kernel)) dX7_does_363 ?_
                          refine lv_iload_n hx hb dX7_does_366 rfl (lv_at hl 2 rfl) ?_
                          refine lv_iconst (v := nI 0) hx hb dX7_does_367 (by decide) ?_
                          refine m_cSi (As := [.int (nI t), .int (nI 0)]) (rest := [.ref (a 1)]) ⟨hx, hb, hml, hown, hts⟩ (ct_X7_at l D a cI hJ N A P X (nI t) (nI 0)) (va_cwS 2 hts gX7_does_X7_at rfl rfl rfl (by decide +kernel) ⟨Nat.le_of_ble_eq_true rfl, Nat.le_of_ble_eq_true rfl⟩) hK hP hS rfl hl.1 rfl (Nat.le_of_ble_eq_true rfl) dX7_does_368 ⟨Nat.zero_le _, Nat.zero_le _⟩ (fun H locs hP hS => ?_)
                          refine z_val (z := nI (14 * t + 0)) (z_at _ _) ?_
                          refine lv_iconst (v := nI 0) hx hb dX7_does_371 (by decide) ?_
                          refine m_iast (Z' := (zu N 0 t (nI 0), A, P, X)) hx hb hK hP hJ hS mG_s (j := 14 * t + 0) (by omega) (by decide) dX7_does_372 (mS_s (zf_t0 (by omega))) (fun H locs hP hS => ?_)
                          exact m_retv hx hb hr hlk hP hS dX7_does_373 (m_eq (by simp only [hN_X7_does, if_pos c7_1, if_neg c33_2, if_neg c33_3, if_neg c33_4, if_neg c33_5, if_neg c33_6, if_neg c33_7, if_neg c33_8, if_neg c33_9, if_neg c33_10, if_neg c33_12, if_neg c33_14]) rfl rfl rfl)
  · have bq : zIn q 4 := m_within (n := 3) (by decide) c7_1
    refine lv_sipush (v := nI 200) hx hb dX7_does_10 (by decide) ?_
    refine lv_aload_n hx hb dX7_does_13 rfl (lv_at hl 0 rfl) ?_
    refine lv_iload_n hx hb dX7_does_14 rfl (lv_at hl 1 rfl) ?_
    refine lv_iload hx hb dX7_does_15 (lv_at hl 4 rfl) ?_
    refine z_val (z := nI (zc q)) bq.2 ?_
    refine m_cVi (As := [.int (nI t), .int (nI (zc q))]) (rest := [.int (nI 200)]) ⟨hx, hb, hml, hown, hts⟩ (ct_X7_register0 l D a cI hJ N A P X t (zc q) (by omega) bq.1) (cwV 2 hts gX7_does_X7_register0 rfl rfl rfl (by decide +kernel) ⟨Nat.le_of_ble_eq_true rfl, Nat.le_of_ble_eq_true rfl⟩) hK hP hS (va_recv (ci := 7) hK hP rfl mG_O) rfl hl.1 rfl (Nat.le_of_ble_eq_true rfl) dX7_does_17 ⟨Nat.zero_le _, Nat.zero_le _⟩ (fun H locs hP hS => ?_)
    refine lv_bipush (v := nI 31) hx hb dX7_does_20 (by decide) ?_
    refine lv_iand hx hb dX7_does_22 ?_
    refine z_val (z := nI ((g_X7_register0 t (zc q) N).toBitVec.toNat % 32)) (pk_and _ 5 (by decide)) ?_
    refine lv_iadd hx hb dX7_does_23 ?_
    refine z_val (z := nI (200 + ((g_X7_register0 t (zc q) N).toBitVec.toNat % 32))) (nI_add _ _) ?_
    refine lv_goto (tgt := 30) hx hb dX7_does_24 (by decide) ?_
    refine lv_istore (lv' := [(5, .int (nI (200 + ((g_X7_register0 t (zc q) N).toBitVec.toNat % 32)))), (0, .ref (a 0)), (1, .int (nI t)), (2, .int op), (3, .int r), (4, .int q)]) hx hb dX7_does_30 hl (by decide) rfl (fun ls hl => ?_)
    refine lv_iload_n hx hb dX7_does_32 rfl (lv_at hl 3 rfl) ?_
    by_cases c33_15 : op = nI 0
    · refine lv_tableIn (tgt := 92) (off := 59) hx hb dX7_does_33 (by rw [c33_15]; decide) (by rw [c33_15]; decide) (by rw [c33_15]; rfl) (by decide) ?_
      refine lv_aload_n hx hb dX7_does_92 rfl (lv_at hl 1 rfl) ?_
      refine lv_iload_n hx hb dX7_does_93 rfl (lv_at hl 2 rfl) ?_
      refine lv_iload_n hx hb dX7_does_94 rfl (lv_at hl 4 rfl) ?_
      refine z_val (z := nI (zc r)) (hW.1 (Or.inl ‹op = nI 0›)).2 ?_
      refine lv_iload hx hb dX7_does_95 (lv_at hl 5 rfl) ?_
      refine m_cVv (As := [.int (nI t), .int (nI (zc r)), .int q]) (rest := []) ⟨hx, hb, hml, hown, hts⟩ (ct_X7_puts l D a cI hJ N A P X t (zc r) q (by omega) ((hW.1 (Or.inl ‹op = nI 0›)).1)) (cwV 3 hts gX7_does_X7_puts rfl rfl rfl (by decide +kernel) ⟨Nat.le_of_ble_eq_true rfl, Nat.le_of_ble_eq_true rfl⟩) hK hP hS (va_recv (ci := 7) hK hP rfl mG_O) rfl hl.1 rfl (Nat.le_of_ble_eq_true rfl) dX7_does_97 ⟨Nat.zero_le _, Nat.zero_le _⟩ (fun H locs hP hS => ?_)
      refine lv_goto (tgt := 373) hx hb dX7_does_100 (by decide) ?_
      exact m_retv hx hb hr hlk hP hS dX7_does_373 (m_eq (by simp only [hN_X7_does, if_neg c7_1, if_pos c33_15]) rfl rfl rfl)
    · by_cases c33_16 : op = nI 1
      · refine lv_tableIn (tgt := 103) (off := 70) hx hb dX7_does_33 (by rw [c33_16]; decide) (by rw [c33_16]; decide) (by rw [c33_16]; rfl) (by decide) ?_
        refine lv_aload_n hx hb dX7_does_103 rfl (lv_at hl 1 rfl) ?_
        refine lv_iload_n hx hb dX7_does_104 rfl (lv_at hl 2 rfl) ?_
        refine lv_iload_n hx hb dX7_does_105 rfl (lv_at hl 4 rfl) ?_
        refine z_val (z := nI (zc r)) (hW.1 (Or.inr (Or.inl ‹op = nI 1›))).2 ?_
        refine lv_aload_n hx hb dX7_does_106 rfl (lv_at hl 1 rfl) ?_
        refine lv_iload_n hx hb dX7_does_107 rfl (lv_at hl 2 rfl) ?_
        refine lv_iload_n hx hb dX7_does_108 rfl (lv_at hl 4 rfl) ?_
        refine z_val (z := nI (zc r)) (hW.1 (Or.inr (Or.inl ‹op = nI 1›))).2 ?_
        refine m_cVi (As := [.int (nI t), .int (nI (zc r))]) (rest := [.int (nI (zc r)), .int (nI t), .ref (a 0)]) ⟨hx, hb, hml, hown, hts⟩ (ct_X7_register0 l D a cI hJ N A P X t (zc r) (by omega) ((hW.1 (Or.inr (Or.inl ‹op = nI 1›))).1)) (cwV 2 hts gX7_does_X7_register0 rfl rfl rfl (by decide +kernel) ⟨Nat.le_of_ble_eq_true rfl, Nat.le_of_ble_eq_true rfl⟩) hK hP hS (va_recv (ci := 7) hK hP rfl mG_O) rfl hl.1 rfl (Nat.le_of_ble_eq_true rfl) dX7_does_109 ⟨Nat.zero_le _, Nat.zero_le _⟩ (fun H locs hP hS => ?_)
        refine lv_aload_n hx hb dX7_does_112 rfl (lv_at hl 1 rfl) ?_
        refine lv_iload_n hx hb dX7_does_113 rfl (lv_at hl 2 rfl) ?_
        refine lv_iload hx hb dX7_does_114 (lv_at hl 5 rfl) ?_
        refine z_val (z := nI (zc q)) (hW.2.1 (Or.inl ‹op = nI 1›)).2 ?_
        refine m_cVi (As := [.int (nI t), .int (nI (zc q))]) (rest := [.int (g_X7_register0 t (zc r) N), .int (nI (zc r)), .int (nI t), .ref (a 0)]) ⟨hx, hb, hml, hown, hts⟩ (ct_X7_register0 l D a cI hJ N A P X t (zc q) (by omega) ((hW.2.1 (Or.inl ‹op = nI 1›)).1)) (cwV 2 hts gX7_does_X7_register0 rfl rfl rfl (by decide +kernel) ⟨Nat.le_of_ble_eq_true rfl, Nat.le_of_ble_eq_true rfl⟩) hK hP hS (va_recv (ci := 7) hK hP rfl mG_O) rfl hl.1 rfl (Nat.le_of_ble_eq_true rfl) dX7_does_116 ⟨Nat.zero_le _, Nat.zero_le _⟩ (fun H locs hP hS => ?_)
        refine lv_iadd hx hb dX7_does_119 ?_
        refine m_cVv (As := [.int (nI t), .int (nI (zc r)), .int ((g_X7_register0 t (zc r) N) + (g_X7_register0 t (zc q) N))]) (rest := []) ⟨hx, hb, hml, hown, hts⟩ (ct_X7_puts l D a cI hJ N A P X t (zc r) ((g_X7_register0 t (zc r) N) + (g_X7_register0 t (zc q) N)) (by omega) ((hW.1 (Or.inr (Or.inl ‹op = nI 1›))).1)) (cwV 3 hts gX7_does_X7_puts rfl rfl rfl (by decide +kernel) ⟨Nat.le_of_ble_eq_true rfl, Nat.le_of_ble_eq_true rfl⟩) hK hP hS (va_recv (ci := 7) hK hP rfl mG_O) rfl hl.1 rfl (Nat.le_of_ble_eq_true rfl) dX7_does_120 ⟨Nat.zero_le _, Nat.zero_le _⟩ (fun H locs hP hS => ?_)
        refine lv_goto (tgt := 373) hx hb dX7_does_123 (by decide) ?_
        exact m_retv hx hb hr hlk hP hS dX7_does_373 (m_eq (by simp only [hN_X7_does, if_neg c7_1, if_neg c33_15, if_pos c33_16]) rfl rfl rfl)
      · by_cases c33_17 : op = nI 2
        · refine lv_tableIn (tgt := 126) (off := 93) hx hb dX7_does_33 (by rw [c33_17]; decide) (by rw [c33_17]; decide) (by rw [c33_17]; rfl) (by decide) ?_
          refine lv_aload_n hx hb dX7_does_126 rfl (lv_at hl 1 rfl) ?_
          refine lv_iload_n hx hb dX7_does_127 rfl (lv_at hl 2 rfl) ?_
          refine lv_iload_n hx hb dX7_does_128 rfl (lv_at hl 4 rfl) ?_
          refine z_val (z := nI (zc r)) (hW.1 (Or.inr (Or.inr (Or.inl ‹op = nI 2›)))).2 ?_
          refine lv_aload_n hx hb dX7_does_129 rfl (lv_at hl 1 rfl) ?_
          refine lv_iload_n hx hb dX7_does_130 rfl (lv_at hl 2 rfl) ?_
          refine lv_iload_n hx hb dX7_does_131 rfl (lv_at hl 4 rfl) ?_
          refine z_val (z := nI (zc r)) (hW.1 (Or.inr (Or.inr (Or.inl ‹op = nI 2›)))).2 ?_
          refine m_cVi (As := [.int (nI t), .int (nI (zc r))]) (rest := [.int (nI (zc r)), .int (nI t), .ref (a 0)]) ⟨hx, hb, hml, hown, hts⟩ (ct_X7_register0 l D a cI hJ N A P X t (zc r) (by omega) ((hW.1 (Or.inr (Or.inr (Or.inl ‹op = nI 2›)))).1)) (cwV 2 hts gX7_does_X7_register0 rfl rfl rfl (by decide +kernel) ⟨Nat.le_of_ble_eq_true rfl, Nat.le_of_ble_eq_true rfl⟩) hK hP hS (va_recv (ci := 7) hK hP rfl mG_O) rfl hl.1 rfl (Nat.le_of_ble_eq_true rfl) dX7_does_132 ⟨Nat.zero_le _, Nat.zero_le _⟩ (fun H locs hP hS => ?_)
          refine lv_aload_n hx hb dX7_does_135 rfl (lv_at hl 1 rfl) ?_
          refine lv_iload_n hx hb dX7_does_136 rfl (lv_at hl 2 rfl) ?_
          refine lv_iload hx hb dX7_does_137 (lv_at hl 5 rfl) ?_
          refine z_val (z := nI (zc q)) (hW.2.1 (Or.inr (Or.inl ‹op = nI 2›))).2 ?_
          refine m_cVi (As := [.int (nI t), .int (nI (zc q))]) (rest := [.int (g_X7_register0 t (zc r) N), .int (nI (zc r)), .int (nI t), .ref (a 0)]) ⟨hx, hb, hml, hown, hts⟩ (ct_X7_register0 l D a cI hJ N A P X t (zc q) (by omega) ((hW.2.1 (Or.inr (Or.inl ‹op = nI 2›))).1)) (cwV 2 hts gX7_does_X7_register0 rfl rfl rfl (by decide +kernel) ⟨Nat.le_of_ble_eq_true rfl, Nat.le_of_ble_eq_true rfl⟩) hK hP hS (va_recv (ci := 7) hK hP rfl mG_O) rfl hl.1 rfl (Nat.le_of_ble_eq_true rfl) dX7_does_139 ⟨Nat.zero_le _, Nat.zero_le _⟩ (fun H locs hP hS => ?_)
          refine lv_isub hx hb dX7_does_142 ?_
          refine m_cVv (As := [.int (nI t), .int (nI (zc r)), .int ((g_X7_register0 t (zc r) N) - (g_X7_register0 t (zc q) N))]) (rest := []) ⟨hx, hb, hml, hown, hts⟩ (ct_X7_puts l D a cI hJ N A P X t (zc r) ((g_X7_register0 t (zc r) N) - (g_X7_register0 t (zc q) N)) (by omega) ((hW.1 (Or.inr (Or.inr (Or.inl ‹op = nI 2›)))).1)) (cwV 3 hts gX7_does_X7_puts rfl rfl rfl (by decide +kernel) ⟨Nat.le_of_ble_eq_true rfl, Nat.le_of_ble_eq_true rfl⟩) hK hP hS (va_recv (ci := 7) hK hP rfl mG_O) rfl hl.1 rfl (Nat.le_of_ble_eq_true rfl) dX7_does_143 ⟨Nat.zero_le _, Nat.zero_le _⟩ (fun H locs hP hS => ?_)
          refine lv_goto (tgt := 373) hx hb dX7_does_146 (by decide) ?_
          exact m_retv hx hb hr hlk hP hS dX7_does_373 (m_eq (by simp only [hN_X7_does, if_neg c7_1, if_neg c33_15, if_neg c33_16, if_pos c33_17]) rfl rfl rfl)
        · by_cases c33_18 : op = nI 3
          · refine lv_tableIn (tgt := 149) (off := 116) hx hb dX7_does_33 (by rw [c33_18]; decide) (by rw [c33_18]; decide) (by rw [c33_18]; rfl) (by decide) ?_
            refine lv_aload_n hx hb dX7_does_149 rfl (lv_at hl 1 rfl) ?_
            refine lv_iload_n hx hb dX7_does_150 rfl (lv_at hl 2 rfl) ?_
            refine lv_iload_n hx hb dX7_does_151 rfl (lv_at hl 4 rfl) ?_
            refine z_val (z := nI (zc r)) (hW.1 (Or.inr (Or.inr (Or.inr (Or.inl ‹op = nI 3›))))).2 ?_
            refine lv_aload_n hx hb dX7_does_152 rfl (lv_at hl 1 rfl) ?_
            refine lv_iload_n hx hb dX7_does_153 rfl (lv_at hl 2 rfl) ?_
            refine lv_iload_n hx hb dX7_does_154 rfl (lv_at hl 4 rfl) ?_
            refine z_val (z := nI (zc r)) (hW.1 (Or.inr (Or.inr (Or.inr (Or.inl ‹op = nI 3›))))).2 ?_
            refine m_cVi (As := [.int (nI t), .int (nI (zc r))]) (rest := [.int (nI (zc r)), .int (nI t), .ref (a 0)]) ⟨hx, hb, hml, hown, hts⟩ (ct_X7_register0 l D a cI hJ N A P X t (zc r) (by omega) ((hW.1 (Or.inr (Or.inr (Or.inr (Or.inl ‹op = nI 3›))))).1)) (cwV 2 hts gX7_does_X7_register0 rfl rfl rfl (by decide +kernel) ⟨Nat.le_of_ble_eq_true rfl, Nat.le_of_ble_eq_true rfl⟩) hK hP hS (va_recv (ci := 7) hK hP rfl mG_O) rfl hl.1 rfl (Nat.le_of_ble_eq_true rfl) dX7_does_155 ⟨Nat.zero_le _, Nat.zero_le _⟩ (fun H locs hP hS => ?_)
            refine lv_aload_n hx hb dX7_does_158 rfl (lv_at hl 1 rfl) ?_
            refine lv_iload_n hx hb dX7_does_159 rfl (lv_at hl 2 rfl) ?_
            refine lv_iload hx hb dX7_does_160 (lv_at hl 5 rfl) ?_
            refine z_val (z := nI (zc q)) (hW.2.1 (Or.inr (Or.inr (Or.inl ‹op = nI 3›)))).2 ?_
            refine m_cVi (As := [.int (nI t), .int (nI (zc q))]) (rest := [.int (g_X7_register0 t (zc r) N), .int (nI (zc r)), .int (nI t), .ref (a 0)]) ⟨hx, hb, hml, hown, hts⟩ (ct_X7_register0 l D a cI hJ N A P X t (zc q) (by omega) ((hW.2.1 (Or.inr (Or.inr (Or.inl ‹op = nI 3›)))).1)) (cwV 2 hts gX7_does_X7_register0 rfl rfl rfl (by decide +kernel) ⟨Nat.le_of_ble_eq_true rfl, Nat.le_of_ble_eq_true rfl⟩) hK hP hS (va_recv (ci := 7) hK hP rfl mG_O) rfl hl.1 rfl (Nat.le_of_ble_eq_true rfl) dX7_does_162 ⟨Nat.zero_le _, Nat.zero_le _⟩ (fun H locs hP hS => ?_)
            refine lv_imul hx hb dX7_does_165 ?_
            refine m_cVv (As := [.int (nI t), .int (nI (zc r)), .int ((g_X7_register0 t (zc r) N) * (g_X7_register0 t (zc q) N))]) (rest := []) ⟨hx, hb, hml, hown, hts⟩ (ct_X7_puts l D a cI hJ N A P X t (zc r) ((g_X7_register0 t (zc r) N) * (g_X7_register0 t (zc q) N)) (by omega) ((hW.1 (Or.inr (Or.inr (Or.inr (Or.inl ‹op = nI 3›))))).1)) (cwV 3 hts gX7_does_X7_puts rfl rfl rfl (by decide +kernel) ⟨Nat.le_of_ble_eq_true rfl, Nat.le_of_ble_eq_true rfl⟩) hK hP hS (va_recv (ci := 7) hK hP rfl mG_O) rfl hl.1 rfl (Nat.le_of_ble_eq_true rfl) dX7_does_166 ⟨Nat.zero_le _, Nat.zero_le _⟩ (fun H locs hP hS => ?_)
            refine lv_goto (tgt := 373) hx hb dX7_does_169 (by decide) ?_
            exact m_retv hx hb hr hlk hP hS dX7_does_373 (m_eq (by simp only [hN_X7_does, if_neg c7_1, if_neg c33_15, if_neg c33_16, if_neg c33_17, if_pos c33_18]) rfl rfl rfl)
          · by_cases c33_19 : op = nI 4
            · refine lv_tableIn (tgt := 172) (off := 139) hx hb dX7_does_33 (by rw [c33_19]; decide) (by rw [c33_19]; decide) (by rw [c33_19]; rfl) (by decide) ?_
              refine lv_aload_n hx hb dX7_does_172 rfl (lv_at hl 1 rfl) ?_
              refine mgO0 hx hb hts hiX7 hown hK hP (hts (.fieldLink RX7 7 "BarrelProcessorModel" "s" "[I") (by decide +kernel)) dX7_does_173 ?_
              refine lv_iload_n hx hb dX7_does_176 rfl (lv_at hl 2 rfl) ?_
              refine lv_iconst (v := nI 0) hx hb dX7_does_177 (by decide) ?_
              refine m_cSi (As := [.int (nI t), .int (nI 0)]) (rest := [.ref (a 1)]) ⟨hx, hb, hml, hown, hts⟩ (ct_X7_at l D a cI hJ N A P X (nI t) (nI 0)) (va_cwS 2 hts gX7_does_X7_at rfl rfl rfl (by decide +kernel) ⟨Nat.le_of_ble_eq_true rfl, Nat.le_of_ble_eq_true rfl⟩) hK hP hS rfl hl.1 rfl (Nat.le_of_ble_eq_true rfl) dX7_does_178 ⟨Nat.zero_le _, Nat.zero_le _⟩ (fun H locs hP hS => ?_)
              refine z_val (z := nI (14 * t + 0)) (z_at _ _) ?_
              refine lv_iconst (v := nI 2) hx hb dX7_does_181 (by decide) ?_
              refine m_iast (Z' := (zu N 0 t (nI 2), A, P, X)) hx hb hK hP hJ hS mG_s (j := 14 * t + 0) (by omega) (by decide) dX7_does_182 (mS_s (zf_t0 (by omega))) (fun H locs hP hS => ?_)
              refine lv_aload_n hx hb dX7_does_183 rfl (lv_at hl 1 rfl) ?_
              refine mgO0 hx hb hts hiX7 hown hK hP (hts (.fieldLink RX7 7 "BarrelProcessorModel" "s" "[I") (by decide +kernel)) dX7_does_184 ?_
              refine lv_iload_n hx hb dX7_does_187 rfl (lv_at hl 2 rfl) ?_
              refine lv_bipush (v := nI 6) hx hb dX7_does_188 (by decide) ?_
              refine m_cSi (As := [.int (nI t), .int (nI 6)]) (rest := [.ref (a 1)]) ⟨hx, hb, hml, hown, hts⟩ (ct_X7_at l D a cI hJ (zu N 0 t (nI 2)) A P X (nI t) (nI 6)) (va_cwS 2 hts gX7_does_X7_at rfl rfl rfl (by decide +kernel) ⟨Nat.le_of_ble_eq_true rfl, Nat.le_of_ble_eq_true rfl⟩) hK hP hS rfl hl.1 rfl (Nat.le_of_ble_eq_true rfl) dX7_does_190 ⟨Nat.zero_le _, Nat.zero_le _⟩ (fun H locs hP hS => ?_)
              refine z_val (z := nI (14 * t + 6)) (z_at _ _) ?_
              refine lv_iload_n hx hb dX7_does_193 rfl (lv_at hl 4 rfl) ?_
              refine m_iast (Z' := (zu (zu N 0 t (nI 2)) 2 t r, A, P, X)) hx hb hK hP hJ hS mG_s (j := 14 * t + 6) (by omega) (by decide) dX7_does_194 (mS_s (zf_t6 (by omega))) (fun H locs hP hS => ?_)
              refine lv_aload_n hx hb dX7_does_195 rfl (lv_at hl 1 rfl) ?_
              refine mgO0 hx hb hts hiX7 hown hK hP (hts (.fieldLink RX7 7 "BarrelProcessorModel" "s" "[I") (by decide +kernel)) dX7_does_196 ?_
              refine lv_iload_n hx hb dX7_does_199 rfl (lv_at hl 2 rfl) ?_
              refine lv_bipush (v := nI 7) hx hb dX7_does_200 (by decide) ?_
              refine m_cSi (As := [.int (nI t), .int (nI 7)]) (rest := [.ref (a 1)]) ⟨hx, hb, hml, hown, hts⟩ (ct_X7_at l D a cI hJ (zu (zu N 0 t (nI 2)) 2 t r) A P X (nI t) (nI 7)) (va_cwS 2 hts gX7_does_X7_at rfl rfl rfl (by decide +kernel) ⟨Nat.le_of_ble_eq_true rfl, Nat.le_of_ble_eq_true rfl⟩) hK hP hS rfl hl.1 rfl (Nat.le_of_ble_eq_true rfl) dX7_does_202 ⟨Nat.zero_le _, Nat.zero_le _⟩ (fun H locs hP hS => ?_)
              refine z_val (z := nI (14 * t + 7)) (z_at _ _) ?_
              refine lv_iload hx hb dX7_does_205 (lv_at hl 0 rfl) ?_
              refine m_iast (Z' := (zu (zu (zu N 0 t (nI 2)) 2 t r) 3 t (nI (200 + ((g_X7_register0 t (zc q) N).toBitVec.toNat % 32))), A, P, X)) hx hb hK hP hJ hS mG_s (j := 14 * t + 7) (by omega) (by decide) dX7_does_207 (mS_s (zf_t7 (by omega))) (fun H locs hP hS => ?_)
              refine lv_aload_n hx hb dX7_does_208 rfl (lv_at hl 1 rfl) ?_
              refine mgO0 hx hb hts hiX7 hown hK hP (hts (.fieldLink RX7 7 "BarrelProcessorModel" "s" "[I") (by decide +kernel)) dX7_does_209 ?_
              refine lv_iload_n hx hb dX7_does_212 rfl (lv_at hl 2 rfl) ?_
              refine lv_bipush (v := nI 8) hx hb dX7_does_213 (by decide) ?_
              refine m_cSi (As := [.int (nI t), .int (nI 8)]) (rest := [.ref (a 1)]) ⟨hx, hb, hml, hown, hts⟩ (ct_X7_at l D a cI hJ (zu (zu (zu N 0 t (nI 2)) 2 t r) 3 t (nI (200 + ((g_X7_register0 t (zc q) N).toBitVec.toNat % 32)))) A P X (nI t) (nI 8)) (va_cwS 2 hts gX7_does_X7_at rfl rfl rfl (by decide +kernel) ⟨Nat.le_of_ble_eq_true rfl, Nat.le_of_ble_eq_true rfl⟩) hK hP hS rfl hl.1 rfl (Nat.le_of_ble_eq_true rfl) dX7_does_215 ⟨Nat.zero_le _, Nat.zero_le _⟩ (fun H locs hP hS => ?_)
              refine z_val (z := nI (14 * t + 8)) (z_at _ _) ?_
              refine lv_aload_n hx hb dX7_does_218 rfl (lv_at hl 1 rfl) ?_
              refine mgO0 hx hb hts hiX7 hown hK hP (hts (.fieldLink RX7 7 "BarrelProcessorModel" "s" "[I") (by decide +kernel)) dX7_does_219 ?_
              refine lv_sipush (v := nI 232) hx hb dX7_does_222 (by decide) ?_
              refine m_iald hx hb hK hP mG_s (j := 232) (by omega) (by decide) dX7_does_225 ?_
              refine z_val (z := (zu (zu (zu N 0 t (nI 2)) 2 t r) 3 t (nI (200 + ((g_X7_register0 t (zc q) N).toBitVec.toNat % 32)))) 16 0) (zen_of zf_232) ?_
              refine lv_iconst (v := nI 1) hx hb dX7_does_226 (by decide) ?_
              refine lv_iadd hx hb dX7_does_227 ?_
              refine lv_aload_n hx hb dX7_does_228 rfl (lv_at hl 1 rfl) ?_
              refine mgO0 hx hb hts hiX7 hown hK hP (hts (.fieldLink RX7 7 "BarrelProcessorModel" "s" "[I") (by decide +kernel)) dX7_does_229 ?_
              refine lv_sipush (v := nI 242) hx hb dX7_does_232 (by decide) ?_
              refine m_iald hx hb hK hP mG_s (j := 242) (by omega) (by decide) dX7_does_235 ?_
              refine z_val (z := (zu (zu (zu N 0 t (nI 2)) 2 t r) 3 t (nI (200 + ((g_X7_register0 t (zc q) N).toBitVec.toNat % 32)))) 15 0) (zen_of zf_242) ?_
              refine lv_iadd hx hb dX7_does_236 ?_
              refine m_iast (Z' := (zu (zu (zu (zu N 0 t (nI 2)) 2 t r) 3 t (nI (200 + ((g_X7_register0 t (zc q) N).toBitVec.toNat % 32)))) 4 t ((((zu (zu (zu N 0 t (nI 2)) 2 t r) 3 t (nI (200 + ((g_X7_register0 t (zc q) N).toBitVec.toNat % 32)))) 16 0) + (nI 1)) + ((zu (zu (zu N 0 t (nI 2)) 2 t r) 3 t (nI (200 + ((g_X7_register0 t (zc q) N).toBitVec.toNat % 32)))) 15 0)), A, P, X)) hx hb hK hP hJ hS mG_s (j := 14 * t + 8) (by omega) (by decide) dX7_does_237 (mS_s (zf_t8 (by omega))) (fun H locs hP hS => ?_)
              refine lv_goto (tgt := 373) hx hb dX7_does_238 (by decide) ?_
              exact m_retv hx hb hr hlk hP hS dX7_does_373 (m_eq (by simp only [hN_X7_does, if_neg c7_1, if_neg c33_15, if_neg c33_16, if_neg c33_17, if_neg c33_18, if_pos c33_19]) rfl rfl rfl)
            · by_cases c33_20 : op = nI 5
              · refine lv_tableIn (tgt := 241) (off := 208) hx hb dX7_does_33 (by rw [c33_20]; decide) (by rw [c33_20]; decide) (by rw [c33_20]; rfl) (by decide) ?_
                refine lv_aload_n hx hb dX7_does_241 rfl (lv_at hl 1 rfl) ?_
                refine mgO0 hx hb hts hiX7 hown hK hP (hts (.fieldLink RX7 7 "BarrelProcessorModel" "s" "[I") (by decide +kernel)) dX7_does_242 ?_
                refine lv_iload hx hb dX7_does_245 (lv_at hl 0 rfl) ?_
                refine lv_aload_n hx hb dX7_does_247 rfl (lv_at hl 1 rfl) ?_
                refine lv_iload_n hx hb dX7_does_248 rfl (lv_at hl 2 rfl) ?_
                refine lv_iload_n hx hb dX7_does_249 rfl (lv_at hl 4 rfl) ?_
                refine z_val (z := nI (zc r)) (hW.1 (Or.inr (Or.inr (Or.inr (Or.inr (Or.inr (Or.inl ‹op = nI 5›))))))).2 ?_
                refine m_cVi (As := [.int (nI t), .int (nI (zc r))]) (rest := [.int (nI (200 + ((g_X7_register0 t (zc q) N).toBitVec.toNat % 32))), .ref (a 1)]) ⟨hx, hb, hml, hown, hts⟩ (ct_X7_register0 l D a cI hJ N A P X t (zc r) (by omega) ((hW.1 (Or.inr (Or.inr (Or.inr (Or.inr (Or.inr (Or.inl ‹op = nI 5›))))))).1)) (cwV 2 hts gX7_does_X7_register0 rfl rfl rfl (by decide +kernel) ⟨Nat.le_of_ble_eq_true rfl, Nat.le_of_ble_eq_true rfl⟩) hK hP hS (va_recv (ci := 7) hK hP rfl mG_O) rfl hl.1 rfl (Nat.le_of_ble_eq_true rfl) dX7_does_250 ⟨Nat.zero_le _, Nat.zero_le _⟩ (fun H locs hP hS => ?_)
                refine m_iast (Z' := (zu N 13 ((g_X7_register0 t (zc q) N).toBitVec.toNat % 32) (g_X7_register0 t (zc r) N), A, P, X)) hx hb hK hP hJ hS mG_s (j := 200 + ((g_X7_register0 t (zc q) N).toBitVec.toNat % 32)) (by omega) (by decide) dX7_does_253 (mS_s (zf_wd (by omega))) (fun H locs hP hS => ?_)
                refine lv_goto (tgt := 373) hx hb dX7_does_254 (by decide) ?_
                exact m_retv hx hb hr hlk hP hS dX7_does_373 (m_eq (by simp only [hN_X7_does, if_neg c7_1, if_neg c33_15, if_neg c33_16, if_neg c33_17, if_neg c33_18, if_neg c33_19, if_pos c33_20]) rfl rfl rfl)
              · by_cases c33_21 : op = nI 6
                · refine lv_tableIn (tgt := 257) (off := 224) hx hb dX7_does_33 (by rw [c33_21]; decide) (by rw [c33_21]; decide) (by rw [c33_21]; rfl) (by decide) ?_
                  refine lv_aload_n hx hb dX7_does_257 rfl (lv_at hl 1 rfl) ?_
                  refine lv_iload_n hx hb dX7_does_258 rfl (lv_at hl 2 rfl) ?_
                  refine lv_iload_n hx hb dX7_does_259 rfl (lv_at hl 4 rfl) ?_
                  refine z_val (z := nI (zc r)) (hW.1 (Or.inr (Or.inr (Or.inr (Or.inr (Or.inr (Or.inr (Or.inl ‹op = nI 6›)))))))).2 ?_
                  refine m_cVi (As := [.int (nI t), .int (nI (zc r))]) (rest := []) ⟨hx, hb, hml, hown, hts⟩ (ct_X7_register0 l D a cI hJ N A P X t (zc r) (by omega) ((hW.1 (Or.inr (Or.inr (Or.inr (Or.inr (Or.inr (Or.inr (Or.inl ‹op = nI 6›)))))))).1)) (cwV 2 hts gX7_does_X7_register0 rfl rfl rfl (by decide +kernel) ⟨Nat.le_of_ble_eq_true rfl, Nat.le_of_ble_eq_true rfl⟩) hK hP hS (va_recv (ci := 7) hK hP rfl mG_O) rfl hl.1 rfl (Nat.le_of_ble_eq_true rfl) dX7_does_260 ⟨Nat.zero_le _, Nat.zero_le _⟩ (fun H locs hP hS => ?_)
                  refine lv_istore (lv' := [(6, .int (g_X7_register0 t (zc r) N)), (5, .int (nI (200 + ((g_X7_register0 t (zc q) N).toBitVec.toNat % 32)))), (0, .ref (a 0)), (1, .int (nI t)), (2, .int op), (3, .int r), (4, .int q)]) hx hb dX7_does_263 hl (by decide) rfl (fun ls hl => ?_)
                  refine lv_aload_n hx hb dX7_does_265 rfl (lv_at hl 2 rfl) ?_
                  refine lv_iload_n hx hb dX7_does_266 rfl (lv_at hl 3 rfl) ?_
                  refine lv_iload_n hx hb dX7_does_267 rfl (lv_at hl 5 rfl) ?_
                  refine z_val (z := nI (zc r)) (hW.1 (Or.inr (Or.inr (Or.inr (Or.inr (Or.inr (Or.inr (Or.inl ‹op = nI 6›)))))))).2 ?_
                  refine lv_aload_n hx hb dX7_does_268 rfl (lv_at hl 2 rfl) ?_
                  refine mgO0 hx hb hts hiX7 hown hK hP (hts (.fieldLink RX7 7 "BarrelProcessorModel" "s" "[I") (by decide +kernel)) dX7_does_269 ?_
                  refine lv_iload hx hb dX7_does_272 (lv_at hl 1 rfl) ?_
                  refine m_iald hx hb hK hP mG_s (j := 200 + ((g_X7_register0 t (zc q) N).toBitVec.toNat % 32)) (by omega) (by decide) dX7_does_274 ?_
                  refine z_val (z := N 13 ((g_X7_register0 t (zc q) N).toBitVec.toNat % 32)) (zen_of (zf_wd (by omega))) ?_
                  refine m_cVv (As := [.int (nI t), .int (nI (zc r)), .int (N 13 ((g_X7_register0 t (zc q) N).toBitVec.toNat % 32))]) (rest := []) ⟨hx, hb, hml, hown, hts⟩ (ct_X7_puts l D a cI hJ N A P X t (zc r) (N 13 ((g_X7_register0 t (zc q) N).toBitVec.toNat % 32)) (by omega) ((hW.1 (Or.inr (Or.inr (Or.inr (Or.inr (Or.inr (Or.inr (Or.inl ‹op = nI 6›)))))))).1)) (cwV 3 hts gX7_does_X7_puts rfl rfl rfl (by decide +kernel) ⟨Nat.le_of_ble_eq_true rfl, Nat.le_of_ble_eq_true rfl⟩) hK hP hS (va_recv (ci := 7) hK hP rfl mG_O) rfl hl.1 rfl (Nat.le_of_ble_eq_true rfl) dX7_does_275 ⟨Nat.zero_le _, Nat.zero_le _⟩ (fun H locs hP hS => ?_)
                  refine lv_aload_n hx hb dX7_does_278 rfl (lv_at hl 2 rfl) ?_
                  refine mgO0 hx hb hts hiX7 hown hK hP (hts (.fieldLink RX7 7 "BarrelProcessorModel" "s" "[I") (by decide +kernel)) dX7_does_279 ?_
                  refine lv_iload hx hb dX7_does_282 (lv_at hl 1 rfl) ?_
                  refine lv_iload hx hb dX7_does_284 (lv_at hl 0 rfl) ?_
                  refine m_iast (Z' := (zu (hN_X7_puts t (zc r) (N 13 ((g_X7_register0 t (zc q) N).toBitVec.toNat % 32)) N) 13 ((g_X7_register0 t (zc q) N).toBitVec.toNat % 32) (g_X7_register0 t (zc r) N), A, P, X)) hx hb hK hP hJ hS mG_s (j := 200 + ((g_X7_register0 t (zc q) N).toBitVec.toNat % 32)) (by omega) (by decide) dX7_does_286 (mS_s (zf_wd (by omega))) (fun H locs hP hS => ?_)
                  refine lv_goto (tgt := 373) hx hb dX7_does_287 (by decide) ?_
                  exact m_retv hx hb hr hlk hP hS dX7_does_373 (m_eq (by simp only [hN_X7_does, if_neg c7_1, if_neg c33_15, if_neg c33_16, if_neg c33_17, if_neg c33_18, if_neg c33_19, if_neg c33_20, if_pos c33_21]) rfl rfl rfl)
                · by_cases c33_22 : op = nI 7
                  · refine lv_tableIn (tgt := 290) (off := 257) hx hb dX7_does_33 (by rw [c33_22]; decide) (by rw [c33_22]; decide) (by rw [c33_22]; rfl) (by decide) ?_
                    refine lv_aload_n hx hb dX7_does_290 rfl (lv_at hl 1 rfl) ?_
                    refine lv_iload_n hx hb dX7_does_291 rfl (lv_at hl 2 rfl) ?_
                    refine lv_iload_n hx hb dX7_does_292 rfl (lv_at hl 4 rfl) ?_
                    refine lv_iconst (v := nI 1) hx hb dX7_does_293 (by decide) ?_
                    refine m_cVv (As := [.int (nI t), .int r, .int (nI 1)]) (rest := []) ⟨hx, hb, hml, hown, hts⟩ (ct_X7_jumps l D a cI hJ N A P X t r (nI 1) (by omega)) (cwV 3 hts gX7_does_X7_jumps rfl rfl rfl (by decide +kernel) ⟨Nat.le_of_ble_eq_true rfl, Nat.le_of_ble_eq_true rfl⟩) hK hP hS (va_recv (ci := 7) hK hP rfl mG_O) rfl hl.1 rfl (Nat.le_of_ble_eq_true rfl) dX7_does_294 ⟨Nat.zero_le _, Nat.zero_le _⟩ (fun H locs hP hS => ?_)
                    refine lv_goto (tgt := 373) hx hb dX7_does_297 (by decide) ?_
                    exact m_retv hx hb hr hlk hP hS dX7_does_373 (m_eq (by simp only [hN_X7_does, if_neg c7_1, if_neg c33_15, if_neg c33_16, if_neg c33_17, if_neg c33_18, if_neg c33_19, if_neg c33_20, if_neg c33_21, if_pos c33_22]) rfl rfl rfl)
                  · by_cases c33_23 : op = nI 8
                    · refine lv_tableIn (tgt := 300) (off := 267) hx hb dX7_does_33 (by rw [c33_23]; decide) (by rw [c33_23]; decide) (by rw [c33_23]; rfl) (by decide) ?_
                      refine lv_aload_n hx hb dX7_does_300 rfl (lv_at hl 1 rfl) ?_
                      refine lv_iload_n hx hb dX7_does_301 rfl (lv_at hl 2 rfl) ?_
                      refine lv_iload hx hb dX7_does_302 (lv_at hl 5 rfl) ?_
                      refine lv_aload_n hx hb dX7_does_304 rfl (lv_at hl 1 rfl) ?_
                      refine lv_iload_n hx hb dX7_does_305 rfl (lv_at hl 2 rfl) ?_
                      refine lv_iload_n hx hb dX7_does_306 rfl (lv_at hl 4 rfl) ?_
                      refine z_val (z := nI (zc r)) (hW.1 (Or.inr (Or.inr (Or.inr (Or.inr (Or.inr (Or.inr (Or.inr (Or.inl ‹op = nI 8›))))))))).2 ?_
                      refine m_cVi (As := [.int (nI t), .int (nI (zc r))]) (rest := [.int q, .int (nI t), .ref (a 0)]) ⟨hx, hb, hml, hown, hts⟩ (ct_X7_register0 l D a cI hJ N A P X t (zc r) (by omega) ((hW.1 (Or.inr (Or.inr (Or.inr (Or.inr (Or.inr (Or.inr (Or.inr (Or.inl ‹op = nI 8›))))))))).1)) (cwV 2 hts gX7_does_X7_register0 rfl rfl rfl (by decide +kernel) ⟨Nat.le_of_ble_eq_true rfl, Nat.le_of_ble_eq_true rfl⟩) hK hP hS (va_recv (ci := 7) hK hP rfl mG_O) rfl hl.1 rfl (Nat.le_of_ble_eq_true rfl) dX7_does_307 ⟨Nat.zero_le _, Nat.zero_le _⟩ (fun H locs hP hS => ?_)
                      refine lv_if_ne (tgt := 317) hx hb dX7_does_310 (by decide) (fun c310_24 => ?_) (fun c310_24 => ?_)
                      · refine lv_iconst (v := nI 0) hx hb dX7_does_317 (by decide) ?_
                        refine m_cVv (As := [.int (nI t), .int q, .int (nI 0)]) (rest := []) ⟨hx, hb, hml, hown, hts⟩ (ct_X7_jumps l D a cI hJ N A P X t q (nI 0) (by omega)) (cwV 3 hts gX7_does_X7_jumps rfl rfl rfl (by decide +kernel) ⟨Nat.le_of_ble_eq_true rfl, Nat.le_of_ble_eq_true rfl⟩) hK hP hS (va_recv (ci := 7) hK hP rfl mG_O) rfl hl.1 rfl (Nat.le_of_ble_eq_true rfl) dX7_does_318 ⟨Nat.zero_le _, Nat.zero_le _⟩ (fun H locs hP hS => ?_)
                        refine lv_goto (tgt := 373) hx hb dX7_does_321 (by decide) ?_
                        exact m_retv hx hb hr hlk hP hS dX7_does_373 (m_eq (by simp only [hN_X7_does, if_neg c7_1, if_neg c33_15, if_neg c33_16, if_neg c33_17, if_neg c33_18, if_neg c33_19, if_neg c33_20, if_neg c33_21, if_neg c33_22, if_pos c33_23, if_neg c310_24]) rfl rfl rfl)
                      · refine lv_iconst (v := nI 1) hx hb dX7_does_313 (by decide) ?_
                        refine lv_goto (tgt := 318) hx hb dX7_does_314 (by decide) ?_
                        refine m_cVv (As := [.int (nI t), .int q, .int (nI 1)]) (rest := []) ⟨hx, hb, hml, hown, hts⟩ (ct_X7_jumps l D a cI hJ N A P X t q (nI 1) (by omega)) (cwV 3 hts gX7_does_X7_jumps rfl rfl rfl (by decide +kernel) ⟨Nat.le_of_ble_eq_true rfl, Nat.le_of_ble_eq_true rfl⟩) hK hP hS (va_recv (ci := 7) hK hP rfl mG_O) rfl hl.1 rfl (Nat.le_of_ble_eq_true rfl) dX7_does_318 ⟨Nat.zero_le _, Nat.zero_le _⟩ (fun H locs hP hS => ?_)
                        refine lv_goto (tgt := 373) hx hb dX7_does_321 (by decide) ?_
                        exact m_retv hx hb hr hlk hP hS dX7_does_373 (m_eq (by simp only [hN_X7_does, if_neg c7_1, if_neg c33_15, if_neg c33_16, if_neg c33_17, if_neg c33_18, if_neg c33_19, if_neg c33_20, if_neg c33_21, if_neg c33_22, if_pos c33_23, if_pos c310_24]) rfl rfl rfl)
                    · by_cases c33_25 : op = nI 9
                      · refine lv_tableIn (tgt := 324) (off := 291) hx hb dX7_does_33 (by rw [c33_25]; decide) (by rw [c33_25]; decide) (by rw [c33_25]; rfl) (by decide) ?_
                        refine lv_aload_n hx hb dX7_does_324 rfl (lv_at hl 1 rfl) ?_
                        refine lv_iload_n hx hb dX7_does_325 rfl (lv_at hl 2 rfl) ?_
                        refine lv_iload hx hb dX7_does_326 (lv_at hl 5 rfl) ?_
                        refine lv_aload_n hx hb dX7_does_328 rfl (lv_at hl 1 rfl) ?_
                        refine lv_iload_n hx hb dX7_does_329 rfl (lv_at hl 2 rfl) ?_
                        refine lv_iload_n hx hb dX7_does_330 rfl (lv_at hl 4 rfl) ?_
                        refine z_val (z := nI (zc r)) (hW.1 (Or.inr (Or.inr (Or.inr (Or.inr (Or.inr (Or.inr (Or.inr (Or.inr (‹op = nI 9›)))))))))).2 ?_
                        refine m_cVi (As := [.int (nI t), .int (nI (zc r))]) (rest := [.int q, .int (nI t), .ref (a 0)]) ⟨hx, hb, hml, hown, hts⟩ (ct_X7_register0 l D a cI hJ N A P X t (zc r) (by omega) ((hW.1 (Or.inr (Or.inr (Or.inr (Or.inr (Or.inr (Or.inr (Or.inr (Or.inr (‹op = nI 9›)))))))))).1)) (cwV 2 hts gX7_does_X7_register0 rfl rfl rfl (by decide +kernel) ⟨Nat.le_of_ble_eq_true rfl, Nat.le_of_ble_eq_true rfl⟩) hK hP hS (va_recv (ci := 7) hK hP rfl mG_O) rfl hl.1 rfl (Nat.le_of_ble_eq_true rfl) dX7_does_331 ⟨Nat.zero_le _, Nat.zero_le _⟩ (fun H locs hP hS => ?_)
                        refine lv_if_ge (tgt := 341) hx hb dX7_does_334 (by decide) (fun c334_26 => ?_) (fun c334_26 => ?_)
                        · refine lv_iconst (v := nI 0) hx hb dX7_does_341 (by decide) ?_
                          refine m_cVv (As := [.int (nI t), .int q, .int (nI 0)]) (rest := []) ⟨hx, hb, hml, hown, hts⟩ (ct_X7_jumps l D a cI hJ N A P X t q (nI 0) (by omega)) (cwV 3 hts gX7_does_X7_jumps rfl rfl rfl (by decide +kernel) ⟨Nat.le_of_ble_eq_true rfl, Nat.le_of_ble_eq_true rfl⟩) hK hP hS (va_recv (ci := 7) hK hP rfl mG_O) rfl hl.1 rfl (Nat.le_of_ble_eq_true rfl) dX7_does_342 ⟨Nat.zero_le _, Nat.zero_le _⟩ (fun H locs hP hS => ?_)
                          refine lv_goto (tgt := 373) hx hb dX7_does_345 (by decide) ?_
                          exact m_retv hx hb hr hlk hP hS dX7_does_373 (m_eq (by simp only [hN_X7_does, if_neg c7_1, if_neg c33_15, if_neg c33_16, if_neg c33_17, if_neg c33_18, if_neg c33_19, if_neg c33_20, if_neg c33_21, if_neg c33_22, if_neg c33_23, if_pos c33_25, if_pos c334_26]) rfl rfl rfl)
                        · refine lv_iconst (v := nI 1) hx hb dX7_does_337 (by decide) ?_
                          refine lv_goto (tgt := 342) hx hb dX7_does_338 (by decide) ?_
                          refine m_cVv (As := [.int (nI t), .int q, .int (nI 1)]) (rest := []) ⟨hx, hb, hml, hown, hts⟩ (ct_X7_jumps l D a cI hJ N A P X t q (nI 1) (by omega)) (cwV 3 hts gX7_does_X7_jumps rfl rfl rfl (by decide +kernel) ⟨Nat.le_of_ble_eq_true rfl, Nat.le_of_ble_eq_true rfl⟩) hK hP hS (va_recv (ci := 7) hK hP rfl mG_O) rfl hl.1 rfl (Nat.le_of_ble_eq_true rfl) dX7_does_342 ⟨Nat.zero_le _, Nat.zero_le _⟩ (fun H locs hP hS => ?_)
                          refine lv_goto (tgt := 373) hx hb dX7_does_345 (by decide) ?_
                          exact m_retv hx hb hr hlk hP hS dX7_does_373 (m_eq (by simp only [hN_X7_does, if_neg c7_1, if_neg c33_15, if_neg c33_16, if_neg c33_17, if_neg c33_18, if_neg c33_19, if_neg c33_20, if_neg c33_21, if_neg c33_22, if_neg c33_23, if_pos c33_25, if_neg c334_26]) rfl rfl rfl)
                      · by_cases c33_27 : op = nI 10
                        · refine lv_tableIn (tgt := 348) (off := 315) hx hb dX7_does_33 (by rw [c33_27]; decide) (by rw [c33_27]; decide) (by rw [c33_27]; rfl) (by decide) ?_
                          refine lv_aload_n hx hb dX7_does_348 rfl (lv_at hl 1 rfl) ?_
                          refine mgO0 hx hb hts hiX7 hown hK hP (hts (.fieldLink RX7 7 "BarrelProcessorModel" "s" "[I") (by decide +kernel)) dX7_does_349 ?_
                          refine lv_iload_n hx hb dX7_does_352 rfl (lv_at hl 2 rfl) ?_
                          refine lv_iconst (v := nI 0) hx hb dX7_does_353 (by decide) ?_
                          refine m_cSi (As := [.int (nI t), .int (nI 0)]) (rest := [.ref (a 1)]) ⟨hx, hb, hml, hown, hts⟩ (ct_X7_at l D a cI hJ N A P X (nI t) (nI 0)) (va_cwS 2 hts gX7_does_X7_at rfl rfl rfl (by decide +kernel) ⟨Nat.le_of_ble_eq_true rfl, Nat.le_of_ble_eq_true rfl⟩) hK hP hS rfl hl.1 rfl (Nat.le_of_ble_eq_true rfl) dX7_does_354 ⟨Nat.zero_le _, Nat.zero_le _⟩ (fun H locs hP hS => ?_)
                          refine z_val (z := nI (14 * t + 0)) (z_at _ _) ?_
                          refine lv_iconst (v := nI 3) hx hb dX7_does_357 (by decide) ?_
                          refine m_iast (Z' := (zu N 0 t (nI 3), A, P, X)) hx hb hK hP hJ hS mG_s (j := 14 * t + 0) (by omega) (by decide) dX7_does_358 (mS_s (zf_t0 (by omega))) (fun H locs hP hS => ?_)
                          refine lv_goto (tgt := 373) hx hb dX7_does_359 (by decide) ?_
                          exact m_retv hx hb hr hlk hP hS dX7_does_373 (m_eq (by simp only [hN_X7_does, if_neg c7_1, if_neg c33_15, if_neg c33_16, if_neg c33_17, if_neg c33_18, if_neg c33_19, if_neg c33_20, if_neg c33_21, if_neg c33_22, if_neg c33_23, if_neg c33_25, if_pos c33_27]) rfl rfl rfl)
                        · have w0_33 := lv_neT c33_15 (k := nI 0) (a := 0) (by decide)
                          have w1_33 := lv_neT c33_16 (k := nI 1) (a := 1) (by decide)
                          have w2_33 := lv_neT c33_17 (k := nI 2) (a := 2) (by decide)
                          have w3_33 := lv_neT c33_18 (k := nI 3) (a := 3) (by decide)
                          have w4_33 := lv_neT c33_19 (k := nI 4) (a := 4) (by decide)
                          have w5_33 := lv_neT c33_20 (k := nI 5) (a := 5) (by decide)
                          have w6_33 := lv_neT c33_21 (k := nI 6) (a := 6) (by decide)
                          have w7_33 := lv_neT c33_22 (k := nI 7) (a := 7) (by decide)
                          have w8_33 := lv_neT c33_23 (k := nI 8) (a := 8) (by decide)
                          have w9_33 := lv_neT c33_25 (k := nI 9) (a := 9) (by decide)
                          have w10_33 := lv_neT c33_27 (k := nI 10) (a := 10) (by decide)
                          refine lv_tableOut (tgt := 362) hx hb dX7_does_33 (by omega) (by decide) ?_
                          refine lv_aload_n hx hb dX7_does_362 rfl (lv_at hl 1 rfl) ?_
                          refine mgO0 hx hb hts hiX7 hown hK hP (hts (.fieldLink RX7 7 "BarrelProcessorModel" "s" "[I") (by decide +kernel)) dX7_does_363 ?_
                          refine lv_iload_n hx hb dX7_does_366 rfl (lv_at hl 2 rfl) ?_
                          refine lv_iconst (v := nI 0) hx hb dX7_does_367 (by decide) ?_
                          refine m_cSi (As := [.int (nI t), .int (nI 0)]) (rest := [.ref (a 1)]) ⟨hx, hb, hml, hown, hts⟩ (ct_X7_at l D a cI hJ N A P X (nI t) (nI 0)) (va_cwS 2 hts gX7_does_X7_at rfl rfl rfl (by decide +kernel) ⟨Nat.le_of_ble_eq_true rfl, Nat.le_of_ble_eq_true rfl⟩) hK hP hS rfl hl.1 rfl (Nat.le_of_ble_eq_true rfl) dX7_does_368 ⟨Nat.zero_le _, Nat.zero_le _⟩ (fun H locs hP hS => ?_)
                          refine z_val (z := nI (14 * t + 0)) (z_at _ _) ?_
                          refine lv_iconst (v := nI 0) hx hb dX7_does_371 (by decide) ?_
                          refine m_iast (Z' := (zu N 0 t (nI 0), A, P, X)) hx hb hK hP hJ hS mG_s (j := 14 * t + 0) (by omega) (by decide) dX7_does_372 (mS_s (zf_t0 (by omega))) (fun H locs hP hS => ?_)
                          exact m_retv hx hb hr hlk hP hS dX7_does_373 (m_eq (by simp only [hN_X7_does, if_neg c7_1, if_neg c33_15, if_neg c33_16, if_neg c33_17, if_neg c33_18, if_neg c33_19, if_neg c33_20, if_neg c33_21, if_neg c33_22, if_neg c33_23, if_neg c33_25, if_neg c33_27]) rfl rfl rfl)
