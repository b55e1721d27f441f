def g_X3_isIn (ready number : Int32) : Int32 := if (ready &&& ((nI 1) <<< (number &&& 31))) = 0 then nI 0 else nI 1
set_option maxHeartbeats 4000000 in
set_option maxRecDepth 100000 in
theorem ct_X3_isIn (l : Launch) (D : va_G) (a : Nat → Nat) (ca : Nat → ClassId) (hJ : zJ a) (Z : Nat → zM) (ready number : Int32) : zCi l yX3_isIn wsX3_isIn ({ frames := 0, cells := 0, slots := 0, locals := 0 } : Room) D a ca [.int ready, .int number] (Z) (g_X3_isIn ready number) (Z) := by
  refine z_ofi (cc := cX3_isIn) (maxL := 2) (own := RX3) (by decide) rfl (Nat.le_of_ble_eq_true rfl) rfl (fun p e s m below meth c ls hx hb hr hml hts hown hlk hl hK hP hS => ?_)
  have hl : lv_has ls 2 [(0, .int ready), (1, .int number)] := hl
  refine lv_iload_n hx hb dX3_isIn_0 rfl (lv_at hl 0 rfl) ?_
  refine lv_iconst (v := nI 1) hx hb dX3_isIn_1 (by decide) ?_
  refine lv_iload_n hx hb dX3_isIn_2 rfl (lv_at hl 1 rfl) ?_
  refine lv_ishl hx hb dX3_isIn_3 ?_
  refine lv_iand hx hb dX3_isIn_4 ?_
  refine lv_if_eq (tgt := 12) hx hb dX3_isIn_5 (by decide) (fun c5_1 => ?_) (fun c5_1 => ?_)
  · refine lv_iconst (v := nI 0) hx hb dX3_isIn_12 (by decide) ?_
    exact z_reti hx hb hr hlk (by first | rfl | decide) hP hS dX3_isIn_13 (by simp only [g_X3_isIn, if_pos c5_1]) rfl
  · refine lv_iconst (v := nI 1) hx hb dX3_isIn_8 (by decide) ?_
    refine lv_goto (tgt := 13) hx hb dX3_isIn_9 (by decide) ?_
    exact z_reti hx hb hr hlk (by first | rfl | decide) hP hS dX3_isIn_13 (by simp only [g_X3_isIn, if_neg c5_1]) rfl

theorem zb_isIn (x y : Int32) : g_X3_isIn x y = nI 0 ∨ g_X3_isIn x y = nI 1 := by
  unfold g_X3_isIn
  split
  · exact Or.inl rfl
  · exact Or.inr rfl

def g_X3_findNextAfter_lp (owner ready : Int32) : Nat → Nat → Int32
  | 0, i => (-100005)
  | n + 1, i => if (g_X3_isIn ready ((owner + (nI i)) - (owner + (nI i)) / (nI 4) * (nI 4))) = 0 then g_X3_findNextAfter_lp owner ready n (i + 1) else (owner + (nI i)) - (owner + (nI i)) / (nI 4) * (nI 4)
def g_X3_findNextAfter (owner ready : Int32) : Int32 := g_X3_findNextAfter_lp owner ready 3 1
set_option maxHeartbeats 4000000 in
set_option maxRecDepth 100000 in
theorem ct_X3_findNextAfter (l : Launch) (D : va_G) (a : Nat → Nat) (ca : Nat → ClassId) (hJ : zJ a) (Z : Nat → zM) (owner ready : Int32) : zCi l yX3_findNextAfter wsX3_findNextAfter ({ frames := 1, cells := 0, slots := 0, locals := 21 } : Room) D a ca [.int owner, .int ready] (Z) (g_X3_findNextAfter owner ready) (Z) := by
  refine z_ofi (cc := cX3_findNextAfter) (maxL := 4) (own := RX3) (by decide) rfl (Nat.le_of_ble_eq_true rfl) rfl (fun p e s m below meth c ls hx hb hr hml hts hown hlk hl hK hP hS => ?_)
  have hl : lv_has ls 4 [(0, .int owner), (1, .int ready)] := hl
  have lp2 : ∀ (n : Nat) (i : Nat)  (H : Heap) (locs : List Loc) (ls : Array Slot) (hn : i + n = 4) (hl : lv_has ls 4 [(0, .int owner), (1, .int ready), (2, .int (nI i))]) (hP : va_P D vwCl (zW a ca (Z)) H) (hS : va_S (zA a) s.heap H locs), W p l e ({ frames := 1, cells := 0, slots := 0, locals := 21 } : Room) s m ([.int owner, .int ready] : List Value).toArray below meth c H locs 0 0 (zQi below D a ca [.int owner, .int ready] s (g_X3_findNextAfter_lp owner ready n i) (Z)) (F0 m 2 ls []) := by
    intro n
    induction n with
    | zero =>
      intro i H locs ls hn hl hP hS
      refine lv_iload_n hx hb dX3_findNextAfter_2 rfl (lv_at hl 2 rfl) ?_
      refine lv_iconst (v := nI 4) hx hb dX3_findNextAfter_3 (by decide) ?_
      refine lv_icmp_ge (tgt := 29) hx hb dX3_findNextAfter_4 (by decide) (fun c4_1 => ?_) (fun c4_1 => absurd (nI_le (by omega) (by omega)) c4_1)
      refine lv_ldc (v := (-100005)) hx hb hown (hts (.constant RX3 79 (-100005)) (by decide +kernel)) dX3_findNextAfter_29 ?_
      exact z_reti hx hb hr hlk rfl hP hS dX3_findNextAfter_31 (by first | rfl | simp only [g_X3_findNextAfter_lp]) rfl
    | succ n ih =>
      intro i H locs ls hn hl hP hS
      refine lv_iload_n hx hb dX3_findNextAfter_2 rfl (lv_at hl 2 rfl) ?_
      refine lv_iconst (v := nI 4) hx hb dX3_findNextAfter_3 (by decide) ?_
      refine lv_icmp_ge (tgt := 29) hx hb dX3_findNextAfter_4 (by decide) (fun c4_2 => absurd c4_2 (nI_ge (by omega) (by decide))) (fun c4_2 => ?_)
      refine lv_iload_n hx hb dX3_findNextAfter_7 rfl (lv_at hl 0 rfl) ?_
      refine lv_iload_n hx hb dX3_findNextAfter_8 rfl (lv_at hl 2 rfl) ?_
      refine lv_iadd hx hb dX3_findNextAfter_9 ?_
      refine lv_iconst (v := nI 4) hx hb dX3_findNextAfter_10 (by decide) ?_
      refine lv_irem hx hb dX3_findNextAfter_11 (by decide) ?_
      refine lv_istore_n (lv' := [(3, .int ((owner + (nI i)) - (owner + (nI i)) / (nI 4) * (nI 4))), (0, .int owner), (1, .int ready), (2, .int (nI i))]) hx hb dX3_findNextAfter_12 rfl hl (by decide) rfl (fun ls hl => ?_)
      refine lv_iload_n hx hb dX3_findNextAfter_13 rfl (lv_at hl 2 rfl) ?_
      refine lv_iload_n hx hb dX3_findNextAfter_14 rfl (lv_at hl 0 rfl) ?_
      refine z_cSi (As := [.int ready, .int ((owner + (nI i)) - (owner + (nI i)) / (nI 4) * (nI 4))]) (rest := []) ⟨hx, hb, hml, hown, hts⟩ (ct_X3_isIn l D a ca hJ Z ready ((owner + (nI i)) - (owner + (nI i)) / (nI 4) * (nI 4))) (va_cwS 2 hts gX3_findNextAfter_X3_isIn rfl rfl rfl (by decide +kernel) ⟨Nat.le_of_ble_eq_true rfl, Nat.le_of_ble_eq_true rfl⟩) hK hP hS rfl hl.1 rfl (Nat.le_of_ble_eq_true rfl) dX3_findNextAfter_15 ⟨Nat.zero_le _, Nat.zero_le _⟩ (fun H locs hP hS => ?_)
      refine lv_if_eq (tgt := 23) hx hb dX3_findNextAfter_18 (by decide) (fun c18_3 => ?_) (fun c18_3 => ?_)
      · refine lv_iinc (v := nI (i + 1)) (lv' := [(2, .int (nI (i + 1))), (3, .int ((owner + (nI i)) - (owner + (nI i)) / (nI 4) * (nI 4))), (0, .int owner), (1, .int ready)]) hx hb dX3_findNextAfter_23 hl (k := 3) rfl (nI_add _ _) (by decide) rfl (fun ls hl => ?_)
        refine lv_goto (tgt := 2) hx hb dX3_findNextAfter_26 (by decide) ?_
        refine z_toi (r2 := g_X3_findNextAfter_lp owner ready n (i + 1)) (Z2 := _) (by simp only [g_X3_findNextAfter_lp, if_pos c18_3]) rfl ?_
        exact ih (i + 1) _ _ _ (by omega) (lv_sub hl [2, 3, 0] rfl) hP hS
      · refine lv_iload_n hx hb dX3_findNextAfter_21 rfl (lv_at hl 0 rfl) ?_
        exact z_reti hx hb hr hlk rfl hP hS dX3_findNextAfter_22 (by simp only [g_X3_findNextAfter_lp, if_neg c18_3]) rfl
  refine lv_iconst (v := nI 1) hx hb dX3_findNextAfter_0 (by decide) ?_
  refine lv_istore_n (lv' := [(2, .int (nI 1)), (0, .int owner), (1, .int ready)]) hx hb dX3_findNextAfter_1 rfl hl (by decide) rfl (fun ls hl => ?_)
  refine z_toi (r2 := g_X3_findNextAfter_lp owner ready 3 1) (Z2 := _) (by first | rfl | simp only [g_X3_findNextAfter]) rfl ?_
  exact lp2 3 1 _ _ _ (by omega) (lv_sub hl [1, 2, 0] rfl) hP hS

def g_X3_areAllHalted_lp  : Nat → Nat → zM → Int32
  | 0, i, M => nI 1
  | n + 1, i, M => if (M 0 i) = 0 then g_X3_areAllHalted_lp n (i + 1) M else nI 0
def g_X3_areAllHalted  (M : zM) : Int32 := g_X3_areAllHalted_lp 4 0 M
set_option maxHeartbeats 4000000 in
set_option maxRecDepth 100000 in
theorem ct_X3_areAllHalted (l : Launch) (D : va_G) (a : Nat → Nat) (ca : Nat → ClassId) (hJ : zJ a) (Z : Nat → zM) (k : Nat) (M : zM) (hk : k < 6) : zCi l yX3_areAllHalted wsX3_areAllHalted ({ frames := 0, cells := 0, slots := 0, locals := 0 } : Room) D a ca [.ref (a (19 * k))] (va_up Z k M) (g_X3_areAllHalted M) (va_up Z k M) := by
  have hiX0 : ∀ w ∈ wsX00, w ∈ wsX3_areAllHalted := by decide +kernel
  have hiX3 : ∀ w ∈ wsX30, w ∈ wsX3_areAllHalted := by decide +kernel
  refine z_ofi (cc := cX3_areAllHalted) (maxL := 2) (own := RX3) (by decide) rfl (Nat.le_of_ble_eq_true rfl) rfl (fun p e s m below meth c ls hx hb hr hml hts hown hlk hl hK hP hS => ?_)
  have hl : lv_has ls 2 [(0, .ref (a (19 * k)))] := hl
  have lp2 : ∀ (n : Nat) (i : Nat) (M : zM) (H : Heap) (locs : List Loc) (ls : Array Slot) (hn : i + n = 4) (hl : lv_has ls 2 [(0, .ref (a (19 * k))), (1, .int (nI i))]) (hP : va_P D vwCl (zW a ca (va_up Z k M)) H) (hS : va_S (zA a) s.heap H locs), W p l e ({ frames := 0, cells := 0, slots := 0, locals := 0 } : Room) s m ([.ref (a (19 * k))] : List Value).toArray below meth c H locs 0 0 (zQi below D a ca [.ref (a (19 * k))] s (g_X3_areAllHalted_lp n i M) (va_up Z k M)) (F0 m 2 ls []) := by
    intro n
    induction n with
    | zero =>
      intro i M H locs ls hn hl hP hS
      refine lv_iload_n hx hb dX3_areAllHalted_2 rfl (lv_at hl 1 rfl) ?_
      refine lv_iconst (v := nI 4) hx hb dX3_areAllHalted_3 (by decide) ?_
      refine lv_icmp_ge (tgt := 27) hx hb dX3_areAllHalted_4 (by decide) (fun c4_1 => ?_) (fun c4_1 => absurd (nI_le (by omega) (by omega)) c4_1)
      refine lv_iconst (v := nI 1) hx hb dX3_areAllHalted_27 (by decide) ?_
      exact z_reti hx hb hr hlk (by first | rfl | decide) hP hS dX3_areAllHalted_28 (by first | rfl | simp only [g_X3_areAllHalted_lp]) rfl
    | succ n ih =>
      intro i M H locs ls hn hl hP hS
      refine lv_iload_n hx hb dX3_areAllHalted_2 rfl (lv_at hl 1 rfl) ?_
      refine lv_iconst (v := nI 4) hx hb dX3_areAllHalted_3 (by decide) ?_
      refine lv_icmp_ge (tgt := 27) hx hb dX3_areAllHalted_4 (by decide) (fun c4_2 => absurd c4_2 (nI_ge (by omega) (by decide))) (fun c4_2 => ?_)
      refine lv_aload_n hx hb dX3_areAllHalted_7 rfl (lv_at hl 0 rfl) ?_
      refine zgm0 hx hb hts hiX3 hown hK hP hk (hts (.fieldLink RX3 11 "BarrelProcessor$Machine" "threads" "[LBarrelProcessor$HardwareThread;") (by decide +kernel)) dX3_areAllHalted_8 ?_
      refine lv_iload_n hx hb dX3_areAllHalted_11 rfl (lv_at hl 1 rfl) ?_
      refine z_aat hx hb hK hP hk (show i < 4 by omega) dX3_areAllHalted_12 ?_
      refine znt1 hx hb hts hiX0 hown hK hP hk (show i < 4 by omega) (zn_RX3_102 hK) dX3_areAllHalted_13 ?_
      refine lv_if_eq (tgt := 21) hx hb dX3_areAllHalted_16 (by decide) (fun c16_3 => ?_) (fun c16_3 => ?_)
      · refine lv_iinc (v := nI (i + 1)) (lv' := [(1, .int (nI (i + 1))), (0, .ref (a (19 * k)))]) hx hb dX3_areAllHalted_21 hl (k := 1) rfl (nI_add _ _) (by decide) rfl (fun ls hl => ?_)
        refine lv_goto (tgt := 2) hx hb dX3_areAllHalted_24 (by decide) ?_
        refine z_toi (r2 := g_X3_areAllHalted_lp n (i + 1) M) (Z2 := _) (by simp only [g_X3_areAllHalted_lp, if_pos c16_3]) rfl ?_
        exact ih (i + 1) M _ _ _ (by omega) (lv_sub hl [1, 0] rfl) hP hS
      · refine lv_iconst (v := nI 0) hx hb dX3_areAllHalted_19 (by decide) ?_
        exact z_reti hx hb hr hlk (by first | rfl | decide) hP hS dX3_areAllHalted_20 (by simp only [g_X3_areAllHalted_lp, if_neg c16_3]) rfl
  refine lv_iconst (v := nI 0) hx hb dX3_areAllHalted_0 (by decide) ?_
  refine lv_istore_n (lv' := [(1, .int (nI 0)), (0, .ref (a (19 * k)))]) hx hb dX3_areAllHalted_1 rfl hl (by decide) rfl (fun ls hl => ?_)
  refine z_toi (r2 := g_X3_areAllHalted_lp 4 0 M) (Z2 := _) (by first | rfl | simp only [g_X3_areAllHalted]) rfl ?_
  exact lp2 4 0 M _ _ _ (by omega) (lv_sub hl [1, 0] rfl) hP hS

def g_X3_doesBarrierOpen_lp  : Nat → Int32 → Nat → zM → Int32
  | 0, one, i, M => one
  | n + 1, one, i, M => if (M 0 i) = (nI 1) then nI 0 else if (M 0 i) = (nI 2) then nI 0 else if one = 0 then if (M 0 i) = (nI 3) then g_X3_doesBarrierOpen_lp n (nI 1) (i + 1) M else g_X3_doesBarrierOpen_lp n (nI 0) (i + 1) M else g_X3_doesBarrierOpen_lp n (nI 1) (i + 1) M
def g_X3_doesBarrierOpen  (M : zM) : Int32 := g_X3_doesBarrierOpen_lp 4 (nI 0) 0 M
set_option maxHeartbeats 4000000 in
set_option maxRecDepth 100000 in
theorem ct_X3_doesBarrierOpen (l : Launch) (D : va_G) (a : Nat → Nat) (ca : Nat → ClassId) (hJ : zJ a) (Z : Nat → zM) (k : Nat) (M : zM) (hk : k < 6) : zCi l yX3_doesBarrierOpen wsX3_doesBarrierOpen ({ frames := 0, cells := 0, slots := 0, locals := 0 } : Room) D a ca [.ref (a (19 * k))] (va_up Z k M) (g_X3_doesBarrierOpen M) (va_up Z k M) := by
  have hiX0 : ∀ w ∈ wsX00, w ∈ wsX3_doesBarrierOpen := by decide +kernel
  have hiX3 : ∀ w ∈ wsX30, w ∈ wsX3_doesBarrierOpen := by decide +kernel
  refine z_ofi (cc := cX3_doesBarrierOpen) (maxL := 4) (own := RX3) (by decide) rfl (Nat.le_of_ble_eq_true rfl) rfl (fun p e s m below meth c ls hx hb hr hml hts hown hlk hl hK hP hS => ?_)
  have hl : lv_has ls 4 [(0, .ref (a (19 * k)))] := hl
  have lp4 : ∀ (n : Nat) (one : Int32) (i : Nat) (M : zM) (H : Heap) (locs : List Loc) (ls : Array Slot) (hn : i + n = 4) (h1 : one = nI 0 ∨ one = nI 1) (hl : lv_has ls 4 [(0, .ref (a (19 * k))), (1, .int one), (2, .int (nI i))]) (hP : va_P D vwCl (zW a ca (va_up Z k M)) H) (hS : va_S (zA a) s.heap H locs), W p l e ({ frames := 0, cells := 0, slots := 0, locals := 0 } : Room) s m ([.ref (a (19 * k))] : List Value).toArray below meth c H locs 0 0 (zQi below D a ca [.ref (a (19 * k))] s (g_X3_doesBarrierOpen_lp n one i M) (va_up Z k M)) (F0 m 4 ls []) := by
    intro n
    induction n with
    | zero =>
      intro one i M H locs ls hn h1 hl hP hS
      refine lv_iload_n hx hb dX3_doesBarrierOpen_4 rfl (lv_at hl 2 rfl) ?_
      refine lv_iconst (v := nI 4) hx hb dX3_doesBarrierOpen_5 (by decide) ?_
      refine lv_icmp_ge (tgt := 52) hx hb dX3_doesBarrierOpen_6 (by decide) (fun c6_1 => ?_) (fun c6_1 => absurd (nI_le (by omega) (by omega)) c6_1)
      refine lv_iload_n hx hb dX3_doesBarrierOpen_52 rfl (lv_at hl 1 rfl) ?_
      exact z_reti hx hb hr hlk (z_nb h1) hP hS dX3_doesBarrierOpen_53 (by first | rfl | simp only [g_X3_doesBarrierOpen_lp]) rfl
    | succ n ih =>
      intro one i M H locs ls hn h1 hl hP hS
      refine lv_iload_n hx hb dX3_doesBarrierOpen_4 rfl (lv_at hl 2 rfl) ?_
      refine lv_iconst (v := nI 4) hx hb dX3_doesBarrierOpen_5 (by decide) ?_
      refine lv_icmp_ge (tgt := 52) hx hb dX3_doesBarrierOpen_6 (by decide) (fun c6_2 => absurd c6_2 (nI_ge (by omega) (by decide))) (fun c6_2 => ?_)
      refine lv_aload_n hx hb dX3_doesBarrierOpen_9 rfl (lv_at hl 0 rfl) ?_
      refine zgm0 hx hb hts hiX3 hown hK hP hk (hts (.fieldLink RX3 11 "BarrelProcessor$Machine" "threads" "[LBarrelProcessor$HardwareThread;") (by decide +kernel)) dX3_doesBarrierOpen_10 ?_
      refine lv_iload_n hx hb dX3_doesBarrierOpen_13 rfl (lv_at hl 2 rfl) ?_
      refine z_aat hx hb hK hP hk (show i < 4 by omega) dX3_doesBarrierOpen_14 ?_
      refine znt1 hx hb hts hiX0 hown hK hP hk (show i < 4 by omega) (zn_RX3_102 hK) dX3_doesBarrierOpen_15 ?_
      refine lv_istore_n (lv' := [(3, .int (M 0 i)), (0, .ref (a (19 * k))), (1, .int one), (2, .int (nI i))]) hx hb dX3_doesBarrierOpen_18 rfl hl (by decide) rfl (fun ls hl => ?_)
      refine lv_iload_n hx hb dX3_doesBarrierOpen_19 rfl (lv_at hl 0 rfl) ?_
      refine lv_iconst (v := nI 1) hx hb dX3_doesBarrierOpen_20 (by decide) ?_
      refine lv_icmp_eq (tgt := 29) hx hb dX3_doesBarrierOpen_21 (by decide) (fun c21_3 => ?_) (fun c21_3 => ?_)
      · refine lv_iconst (v := nI 0) hx hb dX3_doesBarrierOpen_29 (by decide) ?_
        exact z_reti hx hb hr hlk (by first | rfl | decide) hP hS dX3_doesBarrierOpen_30 (by simp only [g_X3_doesBarrierOpen_lp, if_pos c21_3]) rfl
      · refine lv_iload_n hx hb dX3_doesBarrierOpen_24 rfl (lv_at hl 0 rfl) ?_
        refine lv_iconst (v := nI 2) hx hb dX3_doesBarrierOpen_25 (by decide) ?_
        refine lv_icmp_ne (tgt := 31) hx hb dX3_doesBarrierOpen_26 (by decide) (fun c26_4 => ?_) (fun c26_4 => ?_)
        · refine lv_iload_n hx hb dX3_doesBarrierOpen_31 rfl (lv_at hl 2 rfl) ?_
          refine lv_if_ne (tgt := 40) hx hb dX3_doesBarrierOpen_32 (by decide) (fun c32_5 => ?_) (fun c32_5 => ?_)
          · refine lv_iconst (v := nI 1) hx hb dX3_doesBarrierOpen_40 (by decide) ?_
            refine lv_goto (tgt := 45) hx hb dX3_doesBarrierOpen_41 (by decide) ?_
            refine lv_istore_n (lv' := [(1, .int (nI 1)), (3, .int (M 0 i)), (0, .ref (a (19 * k))), (2, .int (nI i))]) hx hb dX3_doesBarrierOpen_45 rfl hl (by decide) rfl (fun ls hl => ?_)
            refine lv_iinc (v := nI (i + 1)) (lv' := [(2, .int (nI (i + 1))), (1, .int (nI 1)), (3, .int (M 0 i)), (0, .ref (a (19 * k)))]) hx hb dX3_doesBarrierOpen_46 hl (k := 3) rfl (nI_add _ _) (by decide) rfl (fun ls hl => ?_)
            refine lv_goto (tgt := 4) hx hb dX3_doesBarrierOpen_49 (by decide) ?_
            refine z_toi (r2 := g_X3_doesBarrierOpen_lp n (nI 1) (i + 1) M) (Z2 := _) (by simp only [g_X3_doesBarrierOpen_lp, if_neg c21_3, if_neg c26_4, if_neg c32_5]) rfl ?_
            exact ih (nI 1) (i + 1) M _ _ _ (by omega) (by first | exact h1 | exact Or.inl rfl | exact Or.inr rfl) (lv_sub hl [3, 1, 0] rfl) hP hS
          · refine lv_iload_n hx hb dX3_doesBarrierOpen_35 rfl (lv_at hl 0 rfl) ?_
            refine lv_iconst (v := nI 3) hx hb dX3_doesBarrierOpen_36 (by decide) ?_
            refine lv_icmp_ne (tgt := 44) hx hb dX3_doesBarrierOpen_37 (by decide) (fun c37_6 => ?_) (fun c37_6 => ?_)
            · refine lv_iconst (v := nI 0) hx hb dX3_doesBarrierOpen_44 (by decide) ?_
              refine lv_istore_n (lv' := [(1, .int (nI 0)), (3, .int (M 0 i)), (0, .ref (a (19 * k))), (2, .int (nI i))]) hx hb dX3_doesBarrierOpen_45 rfl hl (by decide) rfl (fun ls hl => ?_)
              refine lv_iinc (v := nI (i + 1)) (lv' := [(2, .int (nI (i + 1))), (1, .int (nI 0)), (3, .int (M 0 i)), (0, .ref (a (19 * k)))]) hx hb dX3_doesBarrierOpen_46 hl (k := 3) rfl (nI_add _ _) (by decide) rfl (fun ls hl => ?_)
              refine lv_goto (tgt := 4) hx hb dX3_doesBarrierOpen_49 (by decide) ?_
              refine z_toi (r2 := g_X3_doesBarrierOpen_lp n (nI 0) (i + 1) M) (Z2 := _) (by simp only [g_X3_doesBarrierOpen_lp, if_neg c21_3, if_neg c26_4, if_pos c32_5, if_neg c37_6]) rfl ?_
              exact ih (nI 0) (i + 1) M _ _ _ (by omega) (by first | exact h1 | exact Or.inl rfl | exact Or.inr rfl) (lv_sub hl [3, 1, 0] rfl) hP hS
            · refine lv_iconst (v := nI 1) hx hb dX3_doesBarrierOpen_40 (by decide) ?_
              refine lv_goto (tgt := 45) hx hb dX3_doesBarrierOpen_41 (by decide) ?_
              refine lv_istore_n (lv' := [(1, .int (nI 1)), (3, .int (M 0 i)), (0, .ref (a (19 * k))), (2, .int (nI i))]) hx hb dX3_doesBarrierOpen_45 rfl hl (by decide) rfl (fun ls hl => ?_)
              refine lv_iinc (v := nI (i + 1)) (lv' := [(2, .int (nI (i + 1))), (1, .int (nI 1)), (3, .int (M 0 i)), (0, .ref (a (19 * k)))]) hx hb dX3_doesBarrierOpen_46 hl (k := 3) rfl (nI_add _ _) (by decide) rfl (fun ls hl => ?_)
              refine lv_goto (tgt := 4) hx hb dX3_doesBarrierOpen_49 (by decide) ?_
              refine z_toi (r2 := g_X3_doesBarrierOpen_lp n (nI 1) (i + 1) M) (Z2 := _) (by simp only [g_X3_doesBarrierOpen_lp, if_neg c21_3, if_neg c26_4, if_pos c32_5, if_pos c37_6]) rfl ?_
              exact ih (nI 1) (i + 1) M _ _ _ (by omega) (by first | exact h1 | exact Or.inl rfl | exact Or.inr rfl) (lv_sub hl [3, 1, 0] rfl) hP hS
        · refine lv_iconst (v := nI 0) hx hb dX3_doesBarrierOpen_29 (by decide) ?_
          exact z_reti hx hb hr hlk (by first | rfl | decide) hP hS dX3_doesBarrierOpen_30 (by simp only [g_X3_doesBarrierOpen_lp, if_neg c21_3, if_pos c26_4]) rfl
  refine lv_iconst (v := nI 0) hx hb dX3_doesBarrierOpen_0 (by decide) ?_
  refine lv_istore_n (lv' := [(1, .int (nI 0)), (0, .ref (a (19 * k)))]) hx hb dX3_doesBarrierOpen_1 rfl hl (by decide) rfl (fun ls hl => ?_)
  refine lv_iconst (v := nI 0) hx hb dX3_doesBarrierOpen_2 (by decide) ?_
  refine lv_istore_n (lv' := [(2, .int (nI 0)), (1, .int (nI 0)), (0, .ref (a (19 * k)))]) hx hb dX3_doesBarrierOpen_3 rfl hl (by decide) rfl (fun ls hl => ?_)
  refine z_toi (r2 := g_X3_doesBarrierOpen_lp 4 (nI 0) 0 M) (Z2 := _) (by first | rfl | simp only [g_X3_doesBarrierOpen]) rfl ?_
  exact lp4 4 (nI 0) 0 M _ _ _ (by omega) (Or.inl rfl) (lv_sub hl [2, 1, 0] rfl) hP hS

def g_X3_findReady_lp  : Nat → Int32 → Nat → zM → Int32
  | 0, ready, i, M => ready
  | n + 1, ready, i, M => if (M 0 i) = (nI 1) then g_X3_findReady_lp n (ready ||| ((nI 1) <<< ((nI i) &&& 31))) (i + 1) M else if (M 0 i) = (nI 3) then if (g_X3_doesBarrierOpen M) = 0 then if (g_X0_hasLoadDue i (M 16 0) M) = 0 then g_X3_findReady_lp n ready (i + 1) M else g_X3_findReady_lp n (ready ||| ((nI 1) <<< ((nI i) &&& 31))) (i + 1) M else g_X3_findReady_lp n (ready ||| ((nI 1) <<< ((nI i) &&& 31))) (i + 1) M else if (g_X0_hasLoadDue i (M 16 0) M) = 0 then g_X3_findReady_lp n ready (i + 1) M else g_X3_findReady_lp n (ready ||| ((nI 1) <<< ((nI i) &&& 31))) (i + 1) M
def g_X3_findReady  (M : zM) : Int32 := g_X3_findReady_lp 4 (nI 0) 0 M
set_option maxHeartbeats 4000000 in
set_option maxRecDepth 100000 in
theorem ct_X3_findReady (l : Launch) (D : va_G) (a : Nat → Nat) (ca : Nat → ClassId) (hJ : zJ a) (Z : Nat → zM) (k : Nat) (M : zM) (hk : k < 6) : zCi l yX3_findReady wsX3_findReady ({ frames := 1, cells := 0, slots := 0, locals := 23 } : Room) D a ca [.ref (a (19 * k))] (va_up Z k M) (g_X3_findReady M) (va_up Z k M) := by
  have hiX0 : ∀ w ∈ wsX00, w ∈ wsX3_findReady := by decide +kernel
  have hiX3 : ∀ w ∈ wsX30, w ∈ wsX3_findReady := by decide +kernel
  refine z_ofi (cc := cX3_findReady) (maxL := 5) (own := RX3) (by decide) rfl (Nat.le_of_ble_eq_true rfl) rfl (fun p e s m below meth c ls hx hb hr hml hts hown hlk hl hK hP hS => ?_)
  have hl : lv_has ls 5 [(0, .ref (a (19 * k)))] := hl
  have lp9 : ∀ (n : Nat) (ready : Int32) (i : Nat) (M : zM) (H : Heap) (locs : List Loc) (ls : Array Slot) (hn : i + n = 4) (hl : lv_has ls 5 [(0, .ref (a (19 * k))), (1, .int (g_X3_doesBarrierOpen M)), (2, .int ready), (3, .int (nI i))]) (hP : va_P D vwCl (zW a ca (va_up Z k M)) H) (hS : va_S (zA a) s.heap H locs), W p l e ({ frames := 1, cells := 0, slots := 0, locals := 23 } : Room) s m ([.ref (a (19 * k))] : List Value).toArray below meth c H locs 0 0 (zQi below D a ca [.ref (a (19 * k))] s (g_X3_findReady_lp n ready i M) (va_up Z k M)) (F0 m 9 ls []) := by
    intro n
    induction n with
    | zero =>
      intro ready i M H locs ls hn hl hP hS
      refine lv_iload_n hx hb dX3_findReady_9 rfl (lv_at hl 3 rfl) ?_
      refine lv_iconst (v := nI 4) hx hb dX3_findReady_10 (by decide) ?_
      refine lv_icmp_ge (tgt := 68) hx hb dX3_findReady_11 (by decide) (fun c11_1 => ?_) (fun c11_1 => absurd (nI_le (by omega) (by omega)) c11_1)
      refine lv_iload_n hx hb dX3_findReady_68 rfl (lv_at hl 2 rfl) ?_
      exact z_reti hx hb hr hlk rfl hP hS dX3_findReady_69 (by first | rfl | simp only [g_X3_findReady_lp]) rfl
    | succ n ih =>
      intro ready i M H locs ls hn hl hP hS
      refine lv_iload_n hx hb dX3_findReady_9 rfl (lv_at hl 3 rfl) ?_
      refine lv_iconst (v := nI 4) hx hb dX3_findReady_10 (by decide) ?_
      refine lv_icmp_ge (tgt := 68) hx hb dX3_findReady_11 (by decide) (fun c11_2 => absurd c11_2 (nI_ge (by omega) (by decide))) (fun c11_2 => ?_)
      refine lv_aload_n hx hb dX3_findReady_14 rfl (lv_at hl 0 rfl) ?_
      refine zgm0 hx hb hts hiX3 hown hK hP hk (hts (.fieldLink RX3 11 "BarrelProcessor$Machine" "threads" "[LBarrelProcessor$HardwareThread;") (by decide +kernel)) dX3_findReady_15 ?_
      refine lv_iload_n hx hb dX3_findReady_18 rfl (lv_at hl 3 rfl) ?_
      refine z_aat hx hb hK hP hk (show i < 4 by omega) dX3_findReady_19 ?_
      refine lv_astore (lv' := [(4, .ref (a (19 * k + (2 + i)))), (0, .ref (a (19 * k))), (1, .int (g_X3_doesBarrierOpen M)), (2, .int ready), (3, .int (nI i))]) hx hb dX3_findReady_20 hl (by decide) rfl (fun ls hl => ?_)
      refine lv_aload hx hb dX3_findReady_22 (lv_at hl 0 rfl) ?_
      refine znt1 hx hb hts hiX0 hown hK hP hk (show i < 4 by omega) (zn_RX3_102 hK) dX3_findReady_24 ?_
      refine lv_iconst (v := nI 1) hx hb dX3_findReady_27 (by decide) ?_
      refine lv_icmp_eq (tgt := 56) hx hb dX3_findReady_28 (by decide) (fun c28_3 => ?_) (fun c28_3 => ?_)
      · refine lv_iload_n hx hb dX3_findReady_56 rfl (lv_at hl 3 rfl) ?_
        refine lv_iconst (v := nI 1) hx hb dX3_findReady_57 (by decide) ?_
        refine lv_iload_n hx hb dX3_findReady_58 rfl (lv_at hl 4 rfl) ?_
        refine lv_ishl hx hb dX3_findReady_59 ?_
        refine lv_ior hx hb dX3_findReady_60 ?_
        refine lv_istore_n (lv' := [(2, .int (ready ||| ((nI 1) <<< ((nI i) &&& 31)))), (4, .ref (a (19 * k + (2 + i)))), (0, .ref (a (19 * k))), (1, .int (g_X3_doesBarrierOpen M)), (3, .int (nI i))]) hx hb dX3_findReady_61 rfl hl (by decide) rfl (fun ls hl => ?_)
        refine lv_iinc (v := nI (i + 1)) (lv' := [(3, .int (nI (i + 1))), (2, .int (ready ||| ((nI 1) <<< ((nI i) &&& 31)))), (4, .ref (a (19 * k + (2 + i)))), (0, .ref (a (19 * k))), (1, .int (g_X3_doesBarrierOpen M))]) hx hb dX3_findReady_62 hl (k := 4) rfl (nI_add _ _) (by decide) rfl (fun ls hl => ?_)
        refine lv_goto (tgt := 9) hx hb dX3_findReady_65 (by decide) ?_
        refine z_toi (r2 := g_X3_findReady_lp n (ready ||| ((nI 1) <<< ((nI i) &&& 31))) (i + 1) M) (Z2 := _) (by simp only [g_X3_findReady_lp, if_pos c28_3]) rfl ?_
        exact ih (ready ||| ((nI 1) <<< ((nI i) &&& 31))) (i + 1) M _ _ _ (by omega) (lv_sub hl [3, 4, 1, 0] rfl) hP hS
      · refine lv_aload hx hb dX3_findReady_31 (lv_at hl 0 rfl) ?_
        refine znt1 hx hb hts hiX0 hown hK hP hk (show i < 4 by omega) (zn_RX3_102 hK) dX3_findReady_33 ?_
        refine lv_iconst (v := nI 3) hx hb dX3_findReady_36 (by decide) ?_
        refine lv_icmp_ne (tgt := 44) hx hb dX3_findReady_37 (by decide) (fun c37_4 => ?_) (fun c37_4 => ?_)
        · refine lv_aload hx hb dX3_findReady_44 (lv_at hl 0 rfl) ?_
          refine lv_aload_n hx hb dX3_findReady_46 rfl (lv_at hl 1 rfl) ?_
          refine zgm7 hx hb hts hiX3 hown hK hP hk (hts (.fieldLink RX3 62 "BarrelProcessor$Machine" "cycle" "I") (by decide +kernel)) dX3_findReady_47 ?_
          refine z_cVi (As := [.int (M 16 0)]) (rest := []) ⟨hx, hb, hml, hown, hts⟩ (ct_X0_hasLoadDue l D a ca hJ Z k M i hk (show i < 4 by omega) (M 16 0)) (cwV 1 hts gX3_findReady_X0_hasLoadDue rfl rfl rfl (by decide +kernel) ⟨Nat.le_of_ble_eq_true rfl, Nat.le_of_ble_eq_true rfl⟩) hK hP hS (va_recv (ci := 0) hK.1 hP rfl (zG_t hk (show i < 4 by omega))) rfl hl.1 rfl (Nat.le_of_ble_eq_true rfl) dX3_findReady_50 ⟨Nat.zero_le _, Nat.zero_le _⟩ (fun H locs hP hS => ?_)
          refine lv_if_eq (tgt := 62) hx hb dX3_findReady_53 (by decide) (fun c53_5 => ?_) (fun c53_5 => ?_)
          · refine lv_iinc (v := nI (i + 1)) (lv' := [(3, .int (nI (i + 1))), (4, .ref (a (19 * k + (2 + i)))), (0, .ref (a (19 * k))), (1, .int (g_X3_doesBarrierOpen M)), (2, .int ready)]) hx hb dX3_findReady_62 hl (k := 4) rfl (nI_add _ _) (by decide) rfl (fun ls hl => ?_)
            refine lv_goto (tgt := 9) hx hb dX3_findReady_65 (by decide) ?_
            refine z_toi (r2 := g_X3_findReady_lp n ready (i + 1) M) (Z2 := _) (by simp only [g_X3_findReady_lp, if_neg c28_3, if_neg c37_4, if_pos c53_5]) rfl ?_
            exact ih ready (i + 1) M _ _ _ (by omega) (lv_sub hl [2, 3, 4, 0] rfl) hP hS
          · refine lv_iload_n hx hb dX3_findReady_56 rfl (lv_at hl 3 rfl) ?_
            refine lv_iconst (v := nI 1) hx hb dX3_findReady_57 (by decide) ?_
            refine lv_iload_n hx hb dX3_findReady_58 rfl (lv_at hl 4 rfl) ?_
            refine lv_ishl hx hb dX3_findReady_59 ?_
            refine lv_ior hx hb dX3_findReady_60 ?_
            refine lv_istore_n (lv' := [(2, .int (ready ||| ((nI 1) <<< ((nI i) &&& 31)))), (4, .ref (a (19 * k + (2 + i)))), (0, .ref (a (19 * k))), (1, .int (g_X3_doesBarrierOpen M)), (3, .int (nI i))]) hx hb dX3_findReady_61 rfl hl (by decide) rfl (fun ls hl => ?_)
            refine lv_iinc (v := nI (i + 1)) (lv' := [(3, .int (nI (i + 1))), (2, .int (ready ||| ((nI 1) <<< ((nI i) &&& 31)))), (4, .ref (a (19 * k + (2 + i)))), (0, .ref (a (19 * k))), (1, .int (g_X3_doesBarrierOpen M))]) hx hb dX3_findReady_62 hl (k := 4) rfl (nI_add _ _) (by decide) rfl (fun ls hl => ?_)
            refine lv_goto (tgt := 9) hx hb dX3_findReady_65 (by decide) ?_
            refine z_toi (r2 := g_X3_findReady_lp n (ready ||| ((nI 1) <<< ((nI i) &&& 31))) (i + 1) M) (Z2 := _) (by simp only [g_X3_findReady_lp, if_neg c28_3, if_neg c37_4, if_neg c53_5]) rfl ?_
            exact ih (ready ||| ((nI 1) <<< ((nI i) &&& 31))) (i + 1) M _ _ _ (by omega) (lv_sub hl [3, 4, 1, 0] rfl) hP hS
        · refine lv_iload_n hx hb dX3_findReady_40 rfl (lv_at hl 2 rfl) ?_
          refine lv_if_ne (tgt := 56) hx hb dX3_findReady_41 (by decide) (fun c41_6 => ?_) (fun c41_6 => ?_)
          · refine lv_iload_n hx hb dX3_findReady_56 rfl (lv_at hl 3 rfl) ?_
            refine lv_iconst (v := nI 1) hx hb dX3_findReady_57 (by decide) ?_
            refine lv_iload_n hx hb dX3_findReady_58 rfl (lv_at hl 4 rfl) ?_
            refine lv_ishl hx hb dX3_findReady_59 ?_
            refine lv_ior hx hb dX3_findReady_60 ?_
            refine lv_istore_n (lv' := [(2, .int (ready ||| ((nI 1) <<< ((nI i) &&& 31)))), (4, .ref (a (19 * k + (2 + i)))), (0, .ref (a (19 * k))), (1, .int (g_X3_doesBarrierOpen M)), (3, .int (nI i))]) hx hb dX3_findReady_61 rfl hl (by decide) rfl (fun ls hl => ?_)
            refine lv_iinc (v := nI (i + 1)) (lv' := [(3, .int (nI (i + 1))), (2, .int (ready ||| ((nI 1) <<< ((nI i) &&& 31)))), (4, .ref (a (19 * k + (2 + i)))), (0, .ref (a (19 * k))), (1, .int (g_X3_doesBarrierOpen M))]) hx hb dX3_findReady_62 hl (k := 4) rfl (nI_add _ _) (by decide) rfl (fun ls hl => ?_)
            refine lv_goto (tgt := 9) hx hb dX3_findReady_65 (by decide) ?_
            refine z_toi (r2 := g_X3_findReady_lp n (ready ||| ((nI 1) <<< ((nI i) &&& 31))) (i + 1) M) (Z2 := _) (by simp only [g_X3_findReady_lp, if_neg c28_3, if_pos c37_4, if_neg c41_6]) rfl ?_
            exact ih (ready ||| ((nI 1) <<< ((nI i) &&& 31))) (i + 1) M _ _ _ (by omega) (lv_sub hl [3, 4, 1, 0] rfl) hP hS
          · refine lv_aload hx hb dX3_findReady_44 (lv_at hl 0 rfl) ?_
            refine lv_aload_n hx hb dX3_findReady_46 rfl (lv_at hl 1 rfl) ?_
            refine zgm7 hx hb hts hiX3 hown hK hP hk (hts (.fieldLink RX3 62 "BarrelProcessor$Machine" "cycle" "I") (by decide +kernel)) dX3_findReady_47 ?_
            refine z_cVi (As := [.int (M 16 0)]) (rest := []) ⟨hx, hb, hml, hown, hts⟩ (ct_X0_hasLoadDue l D a ca hJ Z k M i hk (show i < 4 by omega) (M 16 0)) (cwV 1 hts gX3_findReady_X0_hasLoadDue rfl rfl rfl (by decide +kernel) ⟨Nat.le_of_ble_eq_true rfl, Nat.le_of_ble_eq_true rfl⟩) hK hP hS (va_recv (ci := 0) hK.1 hP rfl (zG_t hk (show i < 4 by omega))) rfl hl.1 rfl (Nat.le_of_ble_eq_true rfl) dX3_findReady_50 ⟨Nat.zero_le _, Nat.zero_le _⟩ (fun H locs hP hS => ?_)
            refine lv_if_eq (tgt := 62) hx hb dX3_findReady_53 (by decide) (fun c53_7 => ?_) (fun c53_7 => ?_)
            · refine lv_iinc (v := nI (i + 1)) (lv' := [(3, .int (nI (i + 1))), (4, .ref (a (19 * k + (2 + i)))), (0, .ref (a (19 * k))), (1, .int (g_X3_doesBarrierOpen M)), (2, .int ready)]) hx hb dX3_findReady_62 hl (k := 4) rfl (nI_add _ _) (by decide) rfl (fun ls hl => ?_)
              refine lv_goto (tgt := 9) hx hb dX3_findReady_65 (by decide) ?_
              refine z_toi (r2 := g_X3_findReady_lp n ready (i + 1) M) (Z2 := _) (by simp only [g_X3_findReady_lp, if_neg c28_3, if_pos c37_4, if_pos c41_6, if_pos c53_7]) rfl ?_
              exact ih ready (i + 1) M _ _ _ (by omega) (lv_sub hl [2, 3, 4, 0] rfl) hP hS
            · refine lv_iload_n hx hb dX3_findReady_56 rfl (lv_at hl 3 rfl) ?_
              refine lv_iconst (v := nI 1) hx hb dX3_findReady_57 (by decide) ?_
              refine lv_iload_n hx hb dX3_findReady_58 rfl (lv_at hl 4 rfl) ?_
              refine lv_ishl hx hb dX3_findReady_59 ?_
              refine lv_ior hx hb dX3_findReady_60 ?_
              refine lv_istore_n (lv' := [(2, .int (ready ||| ((nI 1) <<< ((nI i) &&& 31)))), (4, .ref (a (19 * k + (2 + i)))), (0, .ref (a (19 * k))), (1, .int (g_X3_doesBarrierOpen M)), (3, .int (nI i))]) hx hb dX3_findReady_61 rfl hl (by decide) rfl (fun ls hl => ?_)
              refine lv_iinc (v := nI (i + 1)) (lv' := [(3, .int (nI (i + 1))), (2, .int (ready ||| ((nI 1) <<< ((nI i) &&& 31)))), (4, .ref (a (19 * k + (2 + i)))), (0, .ref (a (19 * k))), (1, .int (g_X3_doesBarrierOpen M))]) hx hb dX3_findReady_62 hl (k := 4) rfl (nI_add _ _) (by decide) rfl (fun ls hl => ?_)
              refine lv_goto (tgt := 9) hx hb dX3_findReady_65 (by decide) ?_
              refine z_toi (r2 := g_X3_findReady_lp n (ready ||| ((nI 1) <<< ((nI i) &&& 31))) (i + 1) M) (Z2 := _) (by simp only [g_X3_findReady_lp, if_neg c28_3, if_pos c37_4, if_pos c41_6, if_neg c53_7]) rfl ?_
              exact ih (ready ||| ((nI 1) <<< ((nI i) &&& 31))) (i + 1) M _ _ _ (by omega) (lv_sub hl [3, 4, 1, 0] rfl) hP hS
  refine lv_aload_n hx hb dX3_findReady_0 rfl (lv_at hl 0 rfl) ?_
  refine z_cVi (As := []) (rest := []) ⟨hx, hb, hml, hown, hts⟩ (ct_X3_doesBarrierOpen l D a ca hJ Z k M hk) (cwV 0 hts gX3_findReady_X3_doesBarrierOpen rfl rfl rfl (by decide +kernel) ⟨Nat.le_of_ble_eq_true rfl, Nat.le_of_ble_eq_true rfl⟩) hK hP hS (va_recv (ci := 3) hK.1 hP rfl (zG_m hk)) rfl hl.1 rfl (Nat.le_of_ble_eq_true rfl) dX3_findReady_1 ⟨Nat.zero_le _, Nat.zero_le _⟩ (fun H locs hP hS => ?_)
  refine lv_istore_n (lv' := [(1, .int (g_X3_doesBarrierOpen M)), (0, .ref (a (19 * k)))]) hx hb dX3_findReady_4 rfl hl (by decide) rfl (fun ls hl => ?_)
  refine lv_iconst (v := nI 0) hx hb dX3_findReady_5 (by decide) ?_
  refine lv_istore_n (lv' := [(2, .int (nI 0)), (1, .int (g_X3_doesBarrierOpen M)), (0, .ref (a (19 * k)))]) hx hb dX3_findReady_6 rfl hl (by decide) rfl (fun ls hl => ?_)
  refine lv_iconst (v := nI 0) hx hb dX3_findReady_7 (by decide) ?_
  refine lv_istore_n (lv' := [(3, .int (nI 0)), (2, .int (nI 0)), (1, .int (g_X3_doesBarrierOpen M)), (0, .ref (a (19 * k)))]) hx hb dX3_findReady_8 rfl hl (by decide) rfl (fun ls hl => ?_)
  refine z_toi (r2 := g_X3_findReady_lp 4 (nI 0) 0 M) (Z2 := _) (by first | rfl | simp only [g_X3_findReady]) rfl ?_
  exact lp9 4 (nI 0) 0 M _ _ _ (by omega) (lv_sub hl [3, 2, 1, 0] rfl) hP hS

def g_X3_slotOwner  (M : zM) : Int32 := M 14 ((M 16 0).toBitVec.toNat % 8)
set_option maxHeartbeats 4000000 in
set_option maxRecDepth 100000 in
theorem ct_X3_slotOwner (l : Launch) (D : va_G) (a : Nat → Nat) (ca : Nat → ClassId) (hJ : zJ a) (Z : Nat → zM) (k : Nat) (M : zM) (hk : k < 6) : zCi l yX3_slotOwner wsX3_slotOwner ({ frames := 0, cells := 0, slots := 0, locals := 0 } : Room) D a ca [.ref (a (19 * k))] (va_up Z k M) (g_X3_slotOwner M) (va_up Z k M) := by
  have hiX3 : ∀ w ∈ wsX30, w ∈ wsX3_slotOwner := by decide +kernel
  refine z_ofi (cc := cX3_slotOwner) (maxL := 1) (own := RX3) (by decide) rfl (Nat.le_of_ble_eq_true rfl) rfl (fun p e s m below meth c ls hx hb hr hml hts hown hlk hl hK hP hS => ?_)
  have hl : lv_has ls 1 [(0, .ref (a (19 * k)))] := hl
  refine lv_aload_n hx hb dX3_slotOwner_0 rfl (lv_at hl 0 rfl) ?_
  refine zgm4 hx hb hts hiX3 hown hK hP hk (hts (.fieldLink RX3 31 "BarrelProcessor$Machine" "slots" "[I") (by decide +kernel)) dX3_slotOwner_1 ?_
  refine lv_aload_n hx hb dX3_slotOwner_4 rfl (lv_at hl 0 rfl) ?_
  refine zgm7 hx hb hts hiX3 hown hK hP hk (hts (.fieldLink RX3 62 "BarrelProcessor$Machine" "cycle" "I") (by decide +kernel)) dX3_slotOwner_5 ?_
  refine lv_bipush (v := nI 7) hx hb dX3_slotOwner_8 (by decide) ?_
  refine lv_iand hx hb dX3_slotOwner_10 ?_
  refine z_val (z := nI ((M 16 0).toBitVec.toNat % 8)) (pk_and _ 3 (by decide)) ?_
  refine z_iald hx hb hK hP (zG_sl hk) (j := (M 16 0).toBitVec.toNat % 8) (by omega) (by decide) dX3_slotOwner_11 ?_
  exact z_reti hx hb hr hlk rfl hP hS dX3_slotOwner_12 (by first | rfl | simp only [g_X3_slotOwner]) rfl

def g_X3_findLongestWaiting_lp (ready : Int32)  : Nat → Int32 → Int32 → Nat → zM → Int32
  | 0, longest, earliest, i, M => longest
  | n + 1, longest, earliest, i, M => if (g_X3_isIn ready (nI i)) = 0 then g_X3_findLongestWaiting_lp ready n longest earliest (i + 1) M else if longest = (-100005) then g_X3_findLongestWaiting_lp ready n (nI i) (M 5 i) (i + 1) M else if earliest ≤ (M 5 i) then g_X3_findLongestWaiting_lp ready n longest earliest (i + 1) M else g_X3_findLongestWaiting_lp ready n (nI i) (M 5 i) (i + 1) M
def g_X3_findLongestWaiting (ready : Int32)  (M : zM) : Int32 := g_X3_findLongestWaiting_lp ready 4 (-100005) (nI 0) 0 M
set_option maxHeartbeats 4000000 in
set_option maxRecDepth 100000 in
theorem ct_X3_findLongestWaiting (l : Launch) (D : va_G) (a : Nat → Nat) (ca : Nat → ClassId) (hJ : zJ a) (Z : Nat → zM) (k : Nat) (M : zM) (hk : k < 6) (ready : Int32) : zCi l yX3_findLongestWaiting wsX3_findLongestWaiting ({ frames := 1, cells := 0, slots := 0, locals := 21 } : Room) D a ca [.ref (a (19 * k)), .int ready] (va_up Z k M) (g_X3_findLongestWaiting ready M) (va_up Z k M) := by
  have hiX0 : ∀ w ∈ wsX00, w ∈ wsX3_findLongestWaiting := by decide +kernel
  have hiX3 : ∀ w ∈ wsX30, w ∈ wsX3_findLongestWaiting := by decide +kernel
  refine z_ofi (cc := cX3_findLongestWaiting) (maxL := 6) (own := RX3) (by decide) rfl (Nat.le_of_ble_eq_true rfl) rfl (fun p e s m below meth c ls hx hb hr hml hts hown hlk hl hK hP hS => ?_)
  have hl : lv_has ls 6 [(0, .ref (a (19 * k))), (1, .int ready)] := hl
  have lp8 : ∀ (n : Nat) (longest : Int32) (earliest : Int32) (i : Nat) (M : zM) (H : Heap) (locs : List Loc) (ls : Array Slot) (hn : i + n = 4) (hl : lv_has ls 6 [(0, .ref (a (19 * k))), (1, .int ready), (2, .int longest), (3, .int earliest), (4, .int (nI i))]) (hP : va_P D vwCl (zW a ca (va_up Z k M)) H) (hS : va_S (zA a) s.heap H locs), W p l e ({ frames := 1, cells := 0, slots := 0, locals := 21 } : Room) s m ([.ref (a (19 * k)), .int ready] : List Value).toArray below meth c H locs 0 0 (zQi below D a ca [.ref (a (19 * k)), .int ready] s (g_X3_findLongestWaiting_lp ready n longest earliest i M) (va_up Z k M)) (F0 m 8 ls []) := by
    intro n
    induction n with
    | zero =>
      intro longest earliest i M H locs ls hn hl hP hS
      refine lv_iload hx hb dX3_findLongestWaiting_8 (lv_at hl 4 rfl) ?_
      refine lv_iconst (v := nI 4) hx hb dX3_findLongestWaiting_10 (by decide) ?_
      refine lv_icmp_ge (tgt := 59) hx hb dX3_findLongestWaiting_11 (by decide) (fun c11_1 => ?_) (fun c11_1 => absurd (nI_le (by omega) (by omega)) c11_1)
      refine lv_iload_n hx hb dX3_findLongestWaiting_59 rfl (lv_at hl 2 rfl) ?_
      exact z_reti hx hb hr hlk rfl hP hS dX3_findLongestWaiting_60 (by first | rfl | simp only [g_X3_findLongestWaiting_lp]) rfl
    | succ n ih =>
      intro longest earliest i M H locs ls hn hl hP hS
      refine lv_iload hx hb dX3_findLongestWaiting_8 (lv_at hl 4 rfl) ?_
      refine lv_iconst (v := nI 4) hx hb dX3_findLongestWaiting_10 (by decide) ?_
      refine lv_icmp_ge (tgt := 59) hx hb dX3_findLongestWaiting_11 (by decide) (fun c11_2 => absurd c11_2 (nI_ge (by omega) (by decide))) (fun c11_2 => ?_)
      refine lv_aload_n hx hb dX3_findLongestWaiting_14 rfl (lv_at hl 0 rfl) ?_
      refine zgm0 hx hb hts hiX3 hown hK hP hk (hts (.fieldLink RX3 11 "BarrelProcessor$Machine" "threads" "[LBarrelProcessor$HardwareThread;") (by decide +kernel)) dX3_findLongestWaiting_15 ?_
      refine lv_iload hx hb dX3_findLongestWaiting_18 (lv_at hl 4 rfl) ?_
      refine z_aat hx hb hK hP hk (show i < 4 by omega) dX3_findLongestWaiting_20 ?_
      refine znt6 hx hb hts hiX0 hown hK hP hk (show i < 4 by omega) (zn_RX3_109 hK) dX3_findLongestWaiting_21 ?_
      refine lv_istore (lv' := [(5, .int (M 5 i)), (0, .ref (a (19 * k))), (1, .int ready), (2, .int longest), (3, .int earliest), (4, .int (nI i))]) hx hb dX3_findLongestWaiting_24 hl (by decide) rfl (fun ls hl => ?_)
      refine lv_iload_n hx hb dX3_findLongestWaiting_26 rfl (lv_at hl 2 rfl) ?_
      refine lv_iload hx hb dX3_findLongestWaiting_27 (lv_at hl 5 rfl) ?_
      refine z_cSi (As := [.int ready, .int (nI i)]) (rest := []) ⟨hx, hb, hml, hown, hts⟩ (ct_X3_isIn l D a ca hJ (va_up Z k M) ready (nI i)) (va_cwS 2 hts gX3_findLongestWaiting_X3_isIn rfl rfl rfl (by decide +kernel) ⟨Nat.le_of_ble_eq_true rfl, Nat.le_of_ble_eq_true rfl⟩) hK hP hS rfl hl.1 rfl (Nat.le_of_ble_eq_true rfl) dX3_findLongestWaiting_29 ⟨Nat.zero_le _, Nat.zero_le _⟩ (fun H locs hP hS => ?_)
      refine lv_if_eq (tgt := 53) hx hb dX3_findLongestWaiting_32 (by decide) (fun c32_3 => ?_) (fun c32_3 => ?_)
      · refine lv_iinc (v := nI (i + 1)) (lv' := [(4, .int (nI (i + 1))), (5, .int (M 5 i)), (0, .ref (a (19 * k))), (1, .int ready), (2, .int longest), (3, .int earliest)]) hx hb dX3_findLongestWaiting_53 hl (k := 5) rfl (nI_add _ _) (by decide) rfl (fun ls hl => ?_)
        refine lv_goto (tgt := 8) hx hb dX3_findLongestWaiting_56 (by decide) ?_
        refine z_toi (r2 := g_X3_findLongestWaiting_lp ready n longest earliest (i + 1) M) (Z2 := _) (by simp only [g_X3_findLongestWaiting_lp, if_pos c32_3]) rfl ?_
        exact ih longest earliest (i + 1) M _ _ _ (by omega) (lv_sub hl [2, 3, 4, 5, 0] rfl) hP hS
      · refine lv_iload_n hx hb dX3_findLongestWaiting_35 rfl (lv_at hl 3 rfl) ?_
        refine lv_ldc (v := (-100005)) hx hb hown (hts (.constant RX3 79 (-100005)) (by decide +kernel)) dX3_findLongestWaiting_36 ?_
        refine lv_icmp_eq (tgt := 47) hx hb dX3_findLongestWaiting_38 (by decide) (fun c38_4 => ?_) (fun c38_4 => ?_)
        · refine lv_iload hx hb dX3_findLongestWaiting_47 (lv_at hl 5 rfl) ?_
          refine lv_istore_n (lv' := [(2, .int (nI i)), (5, .int (M 5 i)), (0, .ref (a (19 * k))), (1, .int ready), (3, .int earliest), (4, .int (nI i))]) hx hb dX3_findLongestWaiting_49 rfl hl (by decide) rfl (fun ls hl => ?_)
          refine lv_iload hx hb dX3_findLongestWaiting_50 (lv_at hl 1 rfl) ?_
          refine lv_istore_n (lv' := [(3, .int (M 5 i)), (2, .int (nI i)), (5, .int (M 5 i)), (0, .ref (a (19 * k))), (1, .int ready), (4, .int (nI i))]) hx hb dX3_findLongestWaiting_52 rfl hl (by decide) rfl (fun ls hl => ?_)
          refine lv_iinc (v := nI (i + 1)) (lv' := [(4, .int (nI (i + 1))), (3, .int (M 5 i)), (2, .int (nI i)), (5, .int (M 5 i)), (0, .ref (a (19 * k))), (1, .int ready)]) hx hb dX3_findLongestWaiting_53 hl (k := 5) rfl (nI_add _ _) (by decide) rfl (fun ls hl => ?_)
          refine lv_goto (tgt := 8) hx hb dX3_findLongestWaiting_56 (by decide) ?_
          refine z_toi (r2 := g_X3_findLongestWaiting_lp ready n (nI i) (M 5 i) (i + 1) M) (Z2 := _) (by simp only [g_X3_findLongestWaiting_lp, if_neg c32_3, if_pos c38_4]) rfl ?_
          exact ih (nI i) (M 5 i) (i + 1) M _ _ _ (by omega) (lv_sub hl [4, 5, 2, 1, 0] rfl) hP hS
        · refine lv_iload hx hb dX3_findLongestWaiting_41 (lv_at hl 0 rfl) ?_
          refine lv_iload_n hx hb dX3_findLongestWaiting_43 rfl (lv_at hl 4 rfl) ?_
          refine lv_icmp_ge (tgt := 53) hx hb dX3_findLongestWaiting_44 (by decide) (fun c44_5 => ?_) (fun c44_5 => ?_)
          · refine lv_iinc (v := nI (i + 1)) (lv' := [(4, .int (nI (i + 1))), (5, .int (M 5 i)), (0, .ref (a (19 * k))), (1, .int ready), (2, .int longest), (3, .int earliest)]) hx hb dX3_findLongestWaiting_53 hl (k := 5) rfl (nI_add _ _) (by decide) rfl (fun ls hl => ?_)
            refine lv_goto (tgt := 8) hx hb dX3_findLongestWaiting_56 (by decide) ?_
            refine z_toi (r2 := g_X3_findLongestWaiting_lp ready n longest earliest (i + 1) M) (Z2 := _) (by simp only [g_X3_findLongestWaiting_lp, if_neg c32_3, if_neg c38_4, if_pos c44_5]) rfl ?_
            exact ih longest earliest (i + 1) M _ _ _ (by omega) (lv_sub hl [2, 3, 4, 5, 0] rfl) hP hS
          · refine lv_iload hx hb dX3_findLongestWaiting_47 (lv_at hl 5 rfl) ?_
            refine lv_istore_n (lv' := [(2, .int (nI i)), (5, .int (M 5 i)), (0, .ref (a (19 * k))), (1, .int ready), (3, .int earliest), (4, .int (nI i))]) hx hb dX3_findLongestWaiting_49 rfl hl (by decide) rfl (fun ls hl => ?_)
            refine lv_iload hx hb dX3_findLongestWaiting_50 (lv_at hl 1 rfl) ?_
            refine lv_istore_n (lv' := [(3, .int (M 5 i)), (2, .int (nI i)), (5, .int (M 5 i)), (0, .ref (a (19 * k))), (1, .int ready), (4, .int (nI i))]) hx hb dX3_findLongestWaiting_52 rfl hl (by decide) rfl (fun ls hl => ?_)
            refine lv_iinc (v := nI (i + 1)) (lv' := [(4, .int (nI (i + 1))), (3, .int (M 5 i)), (2, .int (nI i)), (5, .int (M 5 i)), (0, .ref (a (19 * k))), (1, .int ready)]) hx hb dX3_findLongestWaiting_53 hl (k := 5) rfl (nI_add _ _) (by decide) rfl (fun ls hl => ?_)
            refine lv_goto (tgt := 8) hx hb dX3_findLongestWaiting_56 (by decide) ?_
            refine z_toi (r2 := g_X3_findLongestWaiting_lp ready n (nI i) (M 5 i) (i + 1) M) (Z2 := _) (by simp only [g_X3_findLongestWaiting_lp, if_neg c32_3, if_neg c38_4, if_neg c44_5]) rfl ?_
            exact ih (nI i) (M 5 i) (i + 1) M _ _ _ (by omega) (lv_sub hl [4, 5, 2, 1, 0] rfl) hP hS
  refine lv_ldc (v := (-100005)) hx hb hown (hts (.constant RX3 79 (-100005)) (by decide +kernel)) dX3_findLongestWaiting_0 ?_
  refine lv_istore_n (lv' := [(2, .int (-100005)), (0, .ref (a (19 * k))), (1, .int ready)]) hx hb dX3_findLongestWaiting_2 rfl hl (by decide) rfl (fun ls hl => ?_)
  refine lv_iconst (v := nI 0) hx hb dX3_findLongestWaiting_3 (by decide) ?_
  refine lv_istore_n (lv' := [(3, .int (nI 0)), (2, .int (-100005)), (0, .ref (a (19 * k))), (1, .int ready)]) hx hb dX3_findLongestWaiting_4 rfl hl (by decide) rfl (fun ls hl => ?_)
  refine lv_iconst (v := nI 0) hx hb dX3_findLongestWaiting_5 (by decide) ?_
  refine lv_istore (lv' := [(4, .int (nI 0)), (3, .int (nI 0)), (2, .int (-100005)), (0, .ref (a (19 * k))), (1, .int ready)]) hx hb dX3_findLongestWaiting_6 hl (by decide) rfl (fun ls hl => ?_)
  refine z_toi (r2 := g_X3_findLongestWaiting_lp ready 4 (-100005) (nI 0) 0 M) (Z2 := _) (by first | rfl | simp only [g_X3_findLongestWaiting]) rfl ?_
  exact lp8 4 (-100005) (nI 0) 0 M _ _ _ (by omega) (lv_sub hl [3, 4, 2, 1, 0] rfl) hP hS

def g_X3_findIssuer  (M : zM) : Int32 := if (g_X3_isIn (g_X3_findReady M) (g_X3_slotOwner M)) = 0 then if (M 15 1) = (nI 1) then (g_X3_findNextAfter (g_X3_slotOwner M) (g_X3_findReady M)) else if (M 15 1) = (nI 2) then (g_X3_findLongestWaiting (g_X3_findReady M) M) else (-100005) else (g_X3_slotOwner M)
set_option maxHeartbeats 4000000 in
set_option maxRecDepth 100000 in
theorem ct_X3_findIssuer (l : Launch) (D : va_G) (a : Nat → Nat) (ca : Nat → ClassId) (hJ : zJ a) (Z : Nat → zM) (k : Nat) (M : zM) (hk : k < 6) : zCi l yX3_findIssuer wsX3_findIssuer ({ frames := 2, cells := 0, slots := 0, locals := 47 } : Room) D a ca [.ref (a (19 * k))] (va_up Z k M) (g_X3_findIssuer M) (va_up Z k M) := by
  have hiX3 : ∀ w ∈ wsX30, w ∈ wsX3_findIssuer := by decide +kernel
  refine z_ofi (cc := cX3_findIssuer) (maxL := 3) (own := RX3) (by decide) rfl (Nat.le_of_ble_eq_true rfl) rfl (fun p e s m below meth c ls hx hb hr hml hts hown hlk hl hK hP hS => ?_)
  have hl : lv_has ls 3 [(0, .ref (a (19 * k)))] := hl
  refine lv_aload_n hx hb dX3_findIssuer_0 rfl (lv_at hl 0 rfl) ?_
  refine z_cVi (As := []) (rest := []) ⟨hx, hb, hml, hown, hts⟩ (ct_X3_findReady l D a ca hJ Z k M hk) (cwV 0 hts gX3_findIssuer_X3_findReady rfl rfl rfl (by decide +kernel) ⟨Nat.le_of_ble_eq_true rfl, Nat.le_of_ble_eq_true rfl⟩) hK hP hS (va_recv (ci := 3) hK.1 hP rfl (zG_m hk)) rfl hl.1 rfl (Nat.le_of_ble_eq_true rfl) dX3_findIssuer_1 ⟨Nat.zero_le _, Nat.zero_le _⟩ (fun H locs hP hS => ?_)
  refine lv_istore_n (lv' := [(1, .int (g_X3_findReady M)), (0, .ref (a (19 * k)))]) hx hb dX3_findIssuer_4 rfl hl (by decide) rfl (fun ls hl => ?_)
  refine lv_aload_n hx hb dX3_findIssuer_5 rfl (lv_at hl 1 rfl) ?_
  refine z_cVi (As := []) (rest := []) ⟨hx, hb, hml, hown, hts⟩ (ct_X3_slotOwner l D a ca hJ Z k M hk) (cwV 0 hts gX3_findIssuer_X3_slotOwner rfl rfl rfl (by decide +kernel) ⟨Nat.le_of_ble_eq_true rfl, Nat.le_of_ble_eq_true rfl⟩) hK hP hS (va_recv (ci := 3) hK.1 hP rfl (zG_m hk)) rfl hl.1 rfl (Nat.le_of_ble_eq_true rfl) dX3_findIssuer_6 ⟨Nat.zero_le _, Nat.zero_le _⟩ (fun H locs hP hS => ?_)
  refine lv_istore_n (lv' := [(2, .int (g_X3_slotOwner M)), (1, .int (g_X3_findReady M)), (0, .ref (a (19 * k)))]) hx hb dX3_findIssuer_9 rfl hl (by decide) rfl (fun ls hl => ?_)
  refine lv_iload_n hx hb dX3_findIssuer_10 rfl (lv_at hl 1 rfl) ?_
  refine lv_iload_n hx hb dX3_findIssuer_11 rfl (lv_at hl 0 rfl) ?_
  refine z_cSi (As := [.int (g_X3_findReady M), .int (g_X3_slotOwner M)]) (rest := []) ⟨hx, hb, hml, hown, hts⟩ (ct_X3_isIn l D a ca hJ (va_up Z k M) (g_X3_findReady M) (g_X3_slotOwner M)) (va_cwS 2 hts gX3_findIssuer_X3_isIn rfl rfl rfl (by decide +kernel) ⟨Nat.le_of_ble_eq_true rfl, Nat.le_of_ble_eq_true rfl⟩) hK hP hS rfl hl.1 rfl (Nat.le_of_ble_eq_true rfl) dX3_findIssuer_12 ⟨Nat.zero_le _, Nat.zero_le _⟩ (fun H locs hP hS => ?_)
  refine lv_if_eq (tgt := 20) hx hb dX3_findIssuer_15 (by decide) (fun c15_1 => ?_) (fun c15_1 => ?_)
  · refine lv_aload_n hx hb dX3_findIssuer_20 rfl (lv_at hl 2 rfl) ?_
    refine zgm5 hx hb hts hiX3 hown hK hP hk (hts (.fieldLink RX3 34 "BarrelProcessor$Machine" "settings" "[I") (by decide +kernel)) dX3_findIssuer_21 ?_
    refine lv_iconst (v := nI 1) hx hb dX3_findIssuer_24 (by decide) ?_
    refine z_iald hx hb hK hP (zG_se hk) (j := 1) (by omega) (by decide) dX3_findIssuer_25 ?_
    refine lv_iconst (v := nI 1) hx hb dX3_findIssuer_26 (by decide) ?_
    refine lv_icmp_ne (tgt := 36) hx hb dX3_findIssuer_27 (by decide) (fun c27_2 => ?_) (fun c27_2 => ?_)
    · refine lv_aload_n hx hb dX3_findIssuer_36 rfl (lv_at hl 2 rfl) ?_
      refine zgm5 hx hb hts hiX3 hown hK hP hk (hts (.fieldLink RX3 34 "BarrelProcessor$Machine" "settings" "[I") (by decide +kernel)) dX3_findIssuer_37 ?_
      refine lv_iconst (v := nI 1) hx hb dX3_findIssuer_40 (by decide) ?_
      refine z_iald hx hb hK hP (zG_se hk) (j := 1) (by omega) (by decide) dX3_findIssuer_41 ?_
      refine lv_iconst (v := nI 2) hx hb dX3_findIssuer_42 (by decide) ?_
      refine lv_icmp_ne (tgt := 52) hx hb dX3_findIssuer_43 (by decide) (fun c43_3 => ?_) (fun c43_3 => ?_)
      · refine lv_ldc (v := (-100005)) hx hb hown (hts (.constant RX3 79 (-100005)) (by decide +kernel)) dX3_findIssuer_52 ?_
        exact z_reti hx hb hr hlk rfl hP hS dX3_findIssuer_54 (by simp only [g_X3_findIssuer, if_pos c15_1, if_neg c27_2, if_neg c43_3]) rfl
      · refine lv_aload_n hx hb dX3_findIssuer_46 rfl (lv_at hl 2 rfl) ?_
        refine lv_iload_n hx hb dX3_findIssuer_47 rfl (lv_at hl 1 rfl) ?_
        refine z_cVi (As := [.int (g_X3_findReady M)]) (rest := []) ⟨hx, hb, hml, hown, hts⟩ (ct_X3_findLongestWaiting l D a ca hJ Z k M hk (g_X3_findReady M)) (cwV 1 hts gX3_findIssuer_X3_findLongestWaiting rfl rfl rfl (by decide +kernel) ⟨Nat.le_of_ble_eq_true rfl, Nat.le_of_ble_eq_true rfl⟩) hK hP hS (va_recv (ci := 3) hK.1 hP rfl (zG_m hk)) rfl hl.1 rfl (Nat.le_of_ble_eq_true rfl) dX3_findIssuer_48 ⟨Nat.zero_le _, Nat.zero_le _⟩ (fun H locs hP hS => ?_)
        exact z_reti hx hb hr hlk rfl hP hS dX3_findIssuer_51 (by simp only [g_X3_findIssuer, if_pos c15_1, if_neg c27_2, if_pos c43_3]) rfl
    · refine lv_iload_n hx hb dX3_findIssuer_30 rfl (lv_at hl 0 rfl) ?_
      refine lv_iload_n hx hb dX3_findIssuer_31 rfl (lv_at hl 1 rfl) ?_
      refine z_cSi (As := [.int (g_X3_slotOwner M), .int (g_X3_findReady M)]) (rest := []) ⟨hx, hb, hml, hown, hts⟩ (ct_X3_findNextAfter l D a ca hJ (va_up Z k M) (g_X3_slotOwner M) (g_X3_findReady M)) (va_cwS 2 hts gX3_findIssuer_X3_findNextAfter rfl rfl rfl (by decide +kernel) ⟨Nat.le_of_ble_eq_true rfl, Nat.le_of_ble_eq_true rfl⟩) hK hP hS rfl hl.1 rfl (Nat.le_of_ble_eq_true rfl) dX3_findIssuer_32 ⟨Nat.zero_le _, Nat.zero_le _⟩ (fun H locs hP hS => ?_)
      exact z_reti hx hb hr hlk rfl hP hS dX3_findIssuer_35 (by simp only [g_X3_findIssuer, if_pos c15_1, if_pos c27_2]) rfl
  · refine lv_iload_n hx hb dX3_findIssuer_18 rfl (lv_at hl 0 rfl) ?_
    exact z_reti hx hb hr hlk rfl hP hS dX3_findIssuer_19 (by simp only [g_X3_findIssuer, if_neg c15_1]) rfl

def g_X3_isAtBreakpoint  (M : zM) : Int32 := if (g_X6_isThread (g_X3_findIssuer M)) = 0 then nI 0 else if (g_X6_isPlace (M 1 (zc (g_X3_findIssuer M)))) = 0 then nI 0 else if (M 12 (zc (M 1 (zc (g_X3_findIssuer M))))) = (nI 1) then nI 1 else nI 0
set_option maxHeartbeats 4000000 in
set_option maxRecDepth 100000 in
theorem ct_X3_isAtBreakpoint (l : Launch) (D : va_G) (a : Nat → Nat) (ca : Nat → ClassId) (hJ : zJ a) (Z : Nat → zM) (k : Nat) (M : zM) (hk : k < 6) : zCi l yX3_isAtBreakpoint wsX3_isAtBreakpoint ({ frames := 3, cells := 0, slots := 0, locals := 69 } : Room) D a ca [.ref (a (19 * k))] (va_up Z k M) (g_X3_isAtBreakpoint M) (va_up Z k M) := by
  have hiX0 : ∀ w ∈ wsX00, w ∈ wsX3_isAtBreakpoint := by decide +kernel
  have hiX3 : ∀ w ∈ wsX30, w ∈ wsX3_isAtBreakpoint := by decide +kernel
  refine z_ofi (cc := cX3_isAtBreakpoint) (maxL := 3) (own := RX3) (by decide) rfl (Nat.le_of_ble_eq_true rfl) rfl (fun p e s m below meth c ls hx hb hr hml hts hown hlk hl hK hP hS => ?_)
  have hl : lv_has ls 3 [(0, .ref (a (19 * k)))] := hl
  refine lv_aload_n hx hb dX3_isAtBreakpoint_0 rfl (lv_at hl 0 rfl) ?_
  refine z_cVi (As := []) (rest := []) ⟨hx, hb, hml, hown, hts⟩ (ct_X3_findIssuer l D a ca hJ Z k M hk) (cwV 0 hts gX3_isAtBreakpoint_X3_findIssuer rfl rfl rfl (by decide +kernel) ⟨Nat.le_of_ble_eq_true rfl, Nat.le_of_ble_eq_true rfl⟩) hK hP hS (va_recv (ci := 3) hK.1 hP rfl (zG_m hk)) rfl hl.1 rfl (Nat.le_of_ble_eq_true rfl) dX3_isAtBreakpoint_1 ⟨Nat.zero_le _, Nat.zero_le _⟩ (fun H locs hP hS => ?_)
  refine lv_istore_n (lv' := [(1, .int (g_X3_findIssuer M)), (0, .ref (a (19 * k)))]) hx hb dX3_isAtBreakpoint_4 rfl hl (by decide) rfl (fun ls hl => ?_)
  refine lv_iload_n hx hb dX3_isAtBreakpoint_5 rfl (lv_at hl 0 rfl) ?_
  refine z_cNi (As := [.int (g_X3_findIssuer M)]) (rest := []) ⟨hx, hb, hml, hown, hts⟩ (ct_X6_isThread l D a ca hJ (va_up Z k M) (g_X3_findIssuer M)) ⟨va_cnB 1 hts gX3_isAtBreakpoint_X6_isThread_n115 rfl rfl rfl (zn_RX3_115 hK) (hts (.initialized RX6) (by decide +kernel)) (by decide +kernel) ⟨Nat.le_of_ble_eq_true rfl, Nat.le_of_ble_eq_true rfl⟩, hts (.static yX6_isThread) (by decide +kernel), trivial⟩ hK hP hS rfl hl.1 rfl (Nat.le_of_ble_eq_true rfl) dX3_isAtBreakpoint_6 ⟨Nat.zero_le _, Nat.zero_le _⟩ (fun H locs hP hS => ?_)
  refine lv_if_ne (tgt := 14) hx hb dX3_isAtBreakpoint_9 (by decide) (fun c9_1 => ?_) (fun c9_1 => ?_)
  · have bt := z_isThread c9_1
    have bt1 := bt.1
    refine lv_aload_n hx hb dX3_isAtBreakpoint_14 rfl (lv_at hl 1 rfl) ?_
    refine zgm0 hx hb hts hiX3 hown hK hP hk (hts (.fieldLink RX3 11 "BarrelProcessor$Machine" "threads" "[LBarrelProcessor$HardwareThread;") (by decide +kernel)) dX3_isAtBreakpoint_15 ?_
    refine lv_iload_n hx hb dX3_isAtBreakpoint_18 rfl (lv_at hl 0 rfl) ?_
    refine z_val (z := nI (zc (g_X3_findIssuer M))) bt.2 ?_
    refine z_aat hx hb hK hP hk bt.1 dX3_isAtBreakpoint_19 ?_
    refine znt2 hx hb hts hiX0 hown hK hP hk bt.1 (zn_RX3_118 hK) dX3_isAtBreakpoint_20 ?_
    refine lv_istore_n (lv' := [(2, .int (M 1 (zc (g_X3_findIssuer M)))), (1, .int (g_X3_findIssuer M)), (0, .ref (a (19 * k)))]) hx hb dX3_isAtBreakpoint_23 rfl hl (by decide) rfl (fun ls hl => ?_)
    refine lv_iload_n hx hb dX3_isAtBreakpoint_24 rfl (lv_at hl 0 rfl) ?_
    refine z_cNi (As := [.int (M 1 (zc (g_X3_findIssuer M)))]) (rest := []) ⟨hx, hb, hml, hown, hts⟩ (ct_X6_isPlace l D a ca hJ (va_up Z k M) (M 1 (zc (g_X3_findIssuer M)))) ⟨va_cnB 1 hts gX3_isAtBreakpoint_X6_isPlace_n121 rfl rfl rfl (zn_RX3_121 hK) (hts (.initialized RX6) (by decide +kernel)) (by decide +kernel) ⟨Nat.le_of_ble_eq_true rfl, Nat.le_of_ble_eq_true rfl⟩, hts (.static yX6_isPlace) (by decide +kernel), trivial⟩ hK hP hS rfl hl.1 rfl (Nat.le_of_ble_eq_true rfl) dX3_isAtBreakpoint_25 ⟨Nat.zero_le _, Nat.zero_le _⟩ (fun H locs hP hS => ?_)
    refine lv_if_eq (tgt := 45) hx hb dX3_isAtBreakpoint_28 (by decide) (fun c28_2 => ?_) (fun c28_2 => ?_)
    · refine lv_iconst (v := nI 0) hx hb dX3_isAtBreakpoint_45 (by decide) ?_
      exact z_reti hx hb hr hlk (by first | rfl | decide) hP hS dX3_isAtBreakpoint_46 (by simp only [g_X3_isAtBreakpoint, if_neg c9_1, if_pos c28_2]) rfl
    · have bp := z_isPlace c28_2
      have bp1 := bp.1
      refine lv_aload_n hx hb dX3_isAtBreakpoint_31 rfl (lv_at hl 2 rfl) ?_
      refine zgm2 hx hb hts hiX3 hown hK hP hk (hts (.fieldLink RX3 24 "BarrelProcessor$Machine" "breakpoints" "[I") (by decide +kernel)) dX3_isAtBreakpoint_32 ?_
      refine lv_iload_n hx hb dX3_isAtBreakpoint_35 rfl (lv_at hl 0 rfl) ?_
      refine z_val (z := nI (zc (M 1 (zc (g_X3_findIssuer M))))) bp.2 ?_
      refine z_iald hx hb hK hP (zG_bk hk) (j := zc (M 1 (zc (g_X3_findIssuer M)))) bp.1 (by decide) dX3_isAtBreakpoint_36 ?_
      refine lv_iconst (v := nI 1) hx hb dX3_isAtBreakpoint_37 (by decide) ?_
      refine lv_icmp_ne (tgt := 45) hx hb dX3_isAtBreakpoint_38 (by decide) (fun c38_3 => ?_) (fun c38_3 => ?_)
      · refine lv_iconst (v := nI 0) hx hb dX3_isAtBreakpoint_45 (by decide) ?_
        exact z_reti hx hb hr hlk (by first | rfl | decide) hP hS dX3_isAtBreakpoint_46 (by simp only [g_X3_isAtBreakpoint, if_neg c9_1, if_neg c28_2, if_neg c38_3]) rfl
      · refine lv_iconst (v := nI 1) hx hb dX3_isAtBreakpoint_41 (by decide) ?_
        refine lv_goto (tgt := 46) hx hb dX3_isAtBreakpoint_42 (by decide) ?_
        exact z_reti hx hb hr hlk (by first | rfl | decide) hP hS dX3_isAtBreakpoint_46 (by simp only [g_X3_isAtBreakpoint, if_neg c9_1, if_neg c28_2, if_pos c38_3]) rfl
  · refine lv_iconst (v := nI 0) hx hb dX3_isAtBreakpoint_12 (by decide) ?_
    exact z_reti hx hb hr hlk (by first | rfl | decide) hP hS dX3_isAtBreakpoint_13 (by simp only [g_X3_isAtBreakpoint, if_pos c9_1]) rfl

def g_X3_countBreakpoints_lp  : Nat → Int32 → Nat → zM → Int32
  | 0, count, i, M => count
  | n + 1, count, i, M => g_X3_countBreakpoints_lp n (count + (M 12 i)) (i + 1) M
def g_X3_countBreakpoints  (M : zM) : Int32 := g_X3_countBreakpoints_lp 48 (nI 0) 0 M
set_option maxHeartbeats 4000000 in
set_option maxRecDepth 100000 in
theorem ct_X3_countBreakpoints (l : Launch) (D : va_G) (a : Nat → Nat) (ca : Nat → ClassId) (hJ : zJ a) (Z : Nat → zM) (k : Nat) (M : zM) (hk : k < 6) : zCi l yX3_countBreakpoints wsX3_countBreakpoints ({ frames := 0, cells := 0, slots := 0, locals := 0 } : Room) D a ca [.ref (a (19 * k))] (va_up Z k M) (g_X3_countBreakpoints M) (va_up Z k M) := by
  have hiX3 : ∀ w ∈ wsX30, w ∈ wsX3_countBreakpoints := by decide +kernel
  refine z_ofi (cc := cX3_countBreakpoints) (maxL := 3) (own := RX3) (by decide) rfl (Nat.le_of_ble_eq_true rfl) rfl (fun p e s m below meth c ls hx hb hr hml hts hown hlk hl hK hP hS => ?_)
  have hl : lv_has ls 3 [(0, .ref (a (19 * k)))] := hl
  have lp4 : ∀ (n : Nat) (count : Int32) (i : Nat) (M : zM) (H : Heap) (locs : List Loc) (ls : Array Slot) (hn : i + n = 48) (hl : lv_has ls 3 [(0, .ref (a (19 * k))), (1, .int count), (2, .int (nI i))]) (hP : va_P D vwCl (zW a ca (va_up Z k M)) H) (hS : va_S (zA a) s.heap H locs), W p l e ({ frames := 0, cells := 0, slots := 0, locals := 0 } : Room) s m ([.ref (a (19 * k))] : List Value).toArray below meth c H locs 0 0 (zQi below D a ca [.ref (a (19 * k))] s (g_X3_countBreakpoints_lp n count i M) (va_up Z k M)) (F0 m 4 ls []) := by
    intro n
    induction n with
    | zero =>
      intro count i M H locs ls hn hl hP hS
      refine lv_iload_n hx hb dX3_countBreakpoints_4 rfl (lv_at hl 2 rfl) ?_
      refine lv_bipush (v := nI 48) hx hb dX3_countBreakpoints_5 (by decide) ?_
      refine lv_icmp_ge (tgt := 25) hx hb dX3_countBreakpoints_7 (by decide) (fun c7_1 => ?_) (fun c7_1 => absurd (nI_le (by omega) (by omega)) c7_1)
      refine lv_iload_n hx hb dX3_countBreakpoints_25 rfl (lv_at hl 1 rfl) ?_
      exact z_reti hx hb hr hlk rfl hP hS dX3_countBreakpoints_26 (by first | rfl | simp only [g_X3_countBreakpoints_lp]) rfl
    | succ n ih =>
      intro count i M H locs ls hn hl hP hS
      refine lv_iload_n hx hb dX3_countBreakpoints_4 rfl (lv_at hl 2 rfl) ?_
      refine lv_bipush (v := nI 48) hx hb dX3_countBreakpoints_5 (by decide) ?_
      refine lv_icmp_ge (tgt := 25) hx hb dX3_countBreakpoints_7 (by decide) (fun c7_2 => absurd c7_2 (nI_ge (by omega) (by decide))) (fun c7_2 => ?_)
      refine lv_iload_n hx hb dX3_countBreakpoints_10 rfl (lv_at hl 1 rfl) ?_
      refine lv_aload_n hx hb dX3_countBreakpoints_11 rfl (lv_at hl 0 rfl) ?_
      refine zgm2 hx hb hts hiX3 hown hK hP hk (hts (.fieldLink RX3 24 "BarrelProcessor$Machine" "breakpoints" "[I") (by decide +kernel)) dX3_countBreakpoints_12 ?_
      refine lv_iload_n hx hb dX3_countBreakpoints_15 rfl (lv_at hl 2 rfl) ?_
      refine z_iald hx hb hK hP (zG_bk hk) (j := i) (by omega) (by decide) dX3_countBreakpoints_16 ?_
      refine lv_iadd hx hb dX3_countBreakpoints_17 ?_
      refine lv_istore_n (lv' := [(1, .int (count + (M 12 i))), (0, .ref (a (19 * k))), (2, .int (nI i))]) hx hb dX3_countBreakpoints_18 rfl hl (by decide) rfl (fun ls hl => ?_)
      refine lv_iinc (v := nI (i + 1)) (lv' := [(2, .int (nI (i + 1))), (1, .int (count + (M 12 i))), (0, .ref (a (19 * k)))]) hx hb dX3_countBreakpoints_19 hl (k := 2) rfl (nI_add _ _) (by decide) rfl (fun ls hl => ?_)
      refine lv_goto (tgt := 4) hx hb dX3_countBreakpoints_22 (by decide) ?_
      refine z_toi (r2 := g_X3_countBreakpoints_lp n (count + (M 12 i)) (i + 1) M) (Z2 := _) (by first | rfl | simp only [g_X3_countBreakpoints_lp]) rfl ?_
      exact ih (count + (M 12 i)) (i + 1) M _ _ _ (by omega) (lv_sub hl [2, 1, 0] rfl) hP hS
  refine lv_iconst (v := nI 0) hx hb dX3_countBreakpoints_0 (by decide) ?_
  refine lv_istore_n (lv' := [(1, .int (nI 0)), (0, .ref (a (19 * k)))]) hx hb dX3_countBreakpoints_1 rfl hl (by decide) rfl (fun ls hl => ?_)
  refine lv_iconst (v := nI 0) hx hb dX3_countBreakpoints_2 (by decide) ?_
  refine lv_istore_n (lv' := [(2, .int (nI 0)), (1, .int (nI 0)), (0, .ref (a (19 * k)))]) hx hb dX3_countBreakpoints_3 rfl hl (by decide) rfl (fun ls hl => ?_)
  refine z_toi (r2 := g_X3_countBreakpoints_lp 48 (nI 0) 0 M) (Z2 := _) (by first | rfl | simp only [g_X3_countBreakpoints]) rfl ?_
  exact lp4 48 (nI 0) 0 M _ _ _ (by omega) (lv_sub hl [2, 1, 0] rfl) hP hS
