theorem xR_try2 {Z : Nat → zM} {x y : Int32} (h : ∀ k, k < 6 → xR (Z k)) : ∀ k, k < 6 → xR (h_tryOut2 Z x y k) := by
  intro k hk
  unfold h_tryOut2
  by_cases e : k = 1
  · subst e
    rw [va_up_self]
    refine xR_end _ _ _ (xR_e ?_ ?_ (h 0 (by decide)))
    · rw [zu_c _ _ _ (by decide), zu_c _ _ _ (by decide)]
    · rw [zu_c _ _ _ (by decide), zu_c _ _ _ (by decide)]
  · rw [va_up_ne _ _ e]
    exact h k hk

def g_cyclesLeft2 (Z : Nat → zM) : Int32 := (g_tryOut2 Z ((Z 0) 15 0) ((Z 0) 15 1))
def h_cyclesLeft2 (Z : Nat → zM) : Nat → zM := h_tryOut2 Z ((Z 0) 15 0) ((Z 0) 15 1)
set_option maxHeartbeats 4000000 in
set_option maxRecDepth 100000 in
theorem ct_cyclesLeft2 (l : Launch) (D : va_G) (a : Nat → Nat) (ca : Nat → ClassId) (hJ : zJ a) (Z : Nat → zM) (hI : zOK (Z 0)) (hXR : ∀ k, k < 6 → xR (Z k)) : zCi l yX6_cyclesLeft wsX6_cyclesLeft ({ frames := 6, cells := 0, slots := 0, locals := 139 } : Room) D a ca [.ref (a 114)] (Z) (g_cyclesLeft2 Z) (h_cyclesLeft2 Z) := by
  have hiX3 : ∀ w ∈ wsX30, w ∈ wsX6_cyclesLeft := by decide +kernel
  have hiX6 : ∀ w ∈ wsX60, w ∈ wsX6_cyclesLeft := by decide +kernel
  refine z_ofi (cc := cX6_cyclesLeft) (maxL := 1) (own := RX6) (by decide) rfl (Nat.le_of_ble_eq_true rfl) rfl (fun p e s m below meth c ls hx hb hr hml hts hown hlk hl hK hP hS => ?_)
  have hl : lv_has ls 1 [(0, .ref (a 114))] := hl
  refine lv_aload_n hx hb dX6_cyclesLeft_0 rfl (lv_at hl 0 rfl) ?_
  refine lv_aload_n hx hb dX6_cyclesLeft_1 rfl (lv_at hl 0 rfl) ?_
  have hP := zfoc_in (Z := Z) (k := 6) (M := Z 6) rfl hP
  refine zgb0' hx hb hts hiX6 hown hK hP  (hts (.fieldLink RX6 10 "BarrelProcessor" "machine" "LBarrelProcessor$Machine;") (by decide +kernel)) dX6_cyclesLeft_2 ?_
  have hP := zfoc_out (Z := Z) (k := 6) rfl hP
  have hP := zfoc_in (Z := Z) (k := 0) (M := Z 0) rfl hP
  refine znm5 hx hb hts hiX3 hown hK hP (by omega) (zn_RX6_119 hK) dX6_cyclesLeft_5 ?_
  refine lv_iconst (v := nI 0) hx hb dX6_cyclesLeft_8 (by decide) ?_
  refine z_iald hx hb hK hP (zG_se (by omega)) (j := 0) (by omega) (by decide) dX6_cyclesLeft_9 ?_
  refine lv_aload_n hx hb dX6_cyclesLeft_10 rfl (lv_at hl 0 rfl) ?_
  have hP := zfoc_out (Z := Z) (k := 0) rfl hP
  have hP := zfoc_in (Z := Z) (k := 6) (M := Z 6) rfl hP
  refine zgb0' hx hb hts hiX6 hown hK hP  (hts (.fieldLink RX6 10 "BarrelProcessor" "machine" "LBarrelProcessor$Machine;") (by decide +kernel)) dX6_cyclesLeft_11 ?_
  have hP := zfoc_out (Z := Z) (k := 6) rfl hP
  have hP := zfoc_in (Z := Z) (k := 0) (M := Z 0) rfl hP
  refine znm5 hx hb hts hiX3 hown hK hP (by omega) (zn_RX6_119 hK) dX6_cyclesLeft_14 ?_
  refine lv_iconst (v := nI 1) hx hb dX6_cyclesLeft_17 (by decide) ?_
  refine z_iald hx hb hK hP (zG_se (by omega)) (j := 1) (by omega) (by decide) dX6_cyclesLeft_18 ?_
  have hP := zfoc_out (Z := Z) (k := 0) rfl hP
  refine z_cVi (As := [.int ((Z 0) 15 0), .int ((Z 0) 15 1)]) (rest := []) ⟨hx, hb, hml, hown, hts⟩ (ct_tryOut2 l D a ca hJ Z ((Z 0) 15 0) ((Z 0) 15 1) hI hXR) (cwV 2 hts gX6_cyclesLeft_X6_tryOut rfl rfl rfl (by decide +kernel) ⟨Nat.le_of_ble_eq_true rfl, Nat.le_of_ble_eq_true rfl⟩) hK hP hS (va_recv (ci := 6) hK.1 (zfoc_in (Z := Z) (k := 6) (M := Z 6) rfl hP) rfl zG_b) rfl hl.1 rfl (Nat.le_of_ble_eq_true rfl) dX6_cyclesLeft_19 ⟨Nat.zero_le _, Nat.zero_le _⟩ (fun H locs hP hS => ?_)
  exact z_reti hx hb hr hlk rfl hP hS dX6_cyclesLeft_22 (by first | rfl | simp only [g_cyclesLeft2]) (by first | rfl | simp only [h_cyclesLeft2])

def g_cyclesIf2 (Z : Nat → zM) (latency : Int32) (lend : Int32) : Int32 := if (g_X6_isWithin latency (nI 0) (nI 20)) = 0 then (-100002) else if (g_X6_isWithin lend (nI 0) (nI 2)) = 0 then (-100002) else (g_tryOut2 Z latency lend)
def h_cyclesIf2 (Z : Nat → zM) (latency : Int32) (lend : Int32) : Nat → zM := if (g_X6_isWithin latency (nI 0) (nI 20)) = 0 then Z else if (g_X6_isWithin lend (nI 0) (nI 2)) = 0 then Z else h_tryOut2 Z latency lend
set_option maxHeartbeats 4000000 in
set_option maxRecDepth 100000 in
theorem ct_cyclesIf2 (l : Launch) (D : va_G) (a : Nat → Nat) (ca : Nat → ClassId) (hJ : zJ a) (Z : Nat → zM) (latency : Int32) (lend : Int32) (hI : zOK (Z 0)) (hXR : ∀ k, k < 6 → xR (Z k)) : zCi l yX6_cyclesIf wsX6_cyclesIf ({ frames := 6, cells := 0, slots := 0, locals := 139 } : Room) D a ca [.ref (a 114), .int latency, .int lend] (Z) (g_cyclesIf2 Z latency lend) (h_cyclesIf2 Z latency lend) := by
  refine z_ofi (cc := cX6_cyclesIf) (maxL := 3) (own := RX6) (by decide) rfl (Nat.le_of_ble_eq_true rfl) rfl (fun p e s m below meth c ls hx hb hr hml hts hown hlk hl hK hP hS => ?_)
  have hl : lv_has ls 3 [(0, .ref (a 114)), (1, .int latency), (2, .int lend)] := hl
  refine lv_iload_n hx hb dX6_cyclesIf_0 rfl (lv_at hl 1 rfl) ?_
  refine lv_iconst (v := nI 0) hx hb dX6_cyclesIf_1 (by decide) ?_
  refine lv_bipush (v := nI 20) hx hb dX6_cyclesIf_2 (by decide) ?_
  refine z_cSi (As := [.int latency, .int (nI 0), .int (nI 20)]) (rest := []) ⟨hx, hb, hml, hown, hts⟩ (ct_X6_isWithin l D a ca hJ Z latency (nI 0) (nI 20)) (va_cwS 3 hts gX6_cyclesIf_X6_isWithin rfl rfl rfl (by decide +kernel) ⟨Nat.le_of_ble_eq_true rfl, Nat.le_of_ble_eq_true rfl⟩) hK hP hS rfl hl.1 rfl (Nat.le_of_ble_eq_true rfl) dX6_cyclesIf_4 ⟨Nat.zero_le _, Nat.zero_le _⟩ (fun H locs hP hS => ?_)
  refine lv_if_eq (tgt := 19) hx hb dX6_cyclesIf_7 (by decide) (fun c7_1 => ?_) (fun c7_1 => ?_)
  · refine lv_ldc (v := (-100002)) hx hb hown (hts (.constant RX6 91 (-100002)) (by decide +kernel)) dX6_cyclesIf_19 ?_
    exact z_reti hx hb hr hlk rfl hP hS dX6_cyclesIf_21 (by simp only [g_cyclesIf2, if_pos c7_1]) (by simp only [h_cyclesIf2, if_pos c7_1])
  · refine lv_iload_n hx hb dX6_cyclesIf_10 rfl (lv_at hl 2 rfl) ?_
    refine lv_iconst (v := nI 0) hx hb dX6_cyclesIf_11 (by decide) ?_
    refine lv_iconst (v := nI 2) hx hb dX6_cyclesIf_12 (by decide) ?_
    refine z_cSi (As := [.int lend, .int (nI 0), .int (nI 2)]) (rest := []) ⟨hx, hb, hml, hown, hts⟩ (ct_X6_isWithin l D a ca hJ Z lend (nI 0) (nI 2)) (va_cwS 3 hts gX6_cyclesIf_X6_isWithin rfl rfl rfl (by decide +kernel) ⟨Nat.le_of_ble_eq_true rfl, Nat.le_of_ble_eq_true rfl⟩) hK hP hS rfl hl.1 rfl (Nat.le_of_ble_eq_true rfl) dX6_cyclesIf_13 ⟨Nat.zero_le _, Nat.zero_le _⟩ (fun H locs hP hS => ?_)
    refine lv_if_ne (tgt := 22) hx hb dX6_cyclesIf_16 (by decide) (fun c16_2 => ?_) (fun c16_2 => ?_)
    · refine lv_aload_n hx hb dX6_cyclesIf_22 rfl (lv_at hl 0 rfl) ?_
      refine lv_iload_n hx hb dX6_cyclesIf_23 rfl (lv_at hl 1 rfl) ?_
      refine lv_iload_n hx hb dX6_cyclesIf_24 rfl (lv_at hl 2 rfl) ?_
      refine z_cVi (As := [.int latency, .int lend]) (rest := []) ⟨hx, hb, hml, hown, hts⟩ (ct_tryOut2 l D a ca hJ Z latency lend hI hXR) (cwV 2 hts gX6_cyclesIf_X6_tryOut rfl rfl rfl (by decide +kernel) ⟨Nat.le_of_ble_eq_true rfl, Nat.le_of_ble_eq_true rfl⟩) hK hP hS (va_recv (ci := 6) hK.1 (zfoc_in (Z := Z) (k := 6) (M := Z 6) rfl hP) rfl zG_b) rfl hl.1 rfl (Nat.le_of_ble_eq_true rfl) dX6_cyclesIf_25 ⟨Nat.zero_le _, Nat.zero_le _⟩ (fun H locs hP hS => ?_)
      exact z_reti hx hb hr hlk rfl hP hS dX6_cyclesIf_28 (by simp only [g_cyclesIf2, if_neg c7_1, if_neg c16_2]) (by simp only [h_cyclesIf2, if_neg c7_1, if_neg c16_2])
    · refine lv_ldc (v := (-100002)) hx hb hown (hts (.constant RX6 91 (-100002)) (by decide +kernel)) dX6_cyclesIf_19 ?_
      exact z_reti hx hb hr hlk rfl hP hS dX6_cyclesIf_21 (by simp only [g_cyclesIf2, if_neg c7_1, if_pos c16_2]) (by simp only [h_cyclesIf2, if_neg c7_1, if_pos c16_2])

def g_finalWord2 (Z : Nat → zM) (word : Int32) : Int32 := if (g_X6_isWord word) = 0 then (-100001) else if (g_tryOut2 Z ((Z 0) 15 0) ((Z 0) 15 1)) = (-100005) then (-100005) else ((h_tryOut2 Z ((Z 0) 15 0) ((Z 0) 15 1)) 1) 13 (zc word)
def h_finalWord2 (Z : Nat → zM) (word : Int32) : Nat → zM := if (g_X6_isWord word) = 0 then Z else if (g_tryOut2 Z ((Z 0) 15 0) ((Z 0) 15 1)) = (-100005) then h_tryOut2 Z ((Z 0) 15 0) ((Z 0) 15 1) else h_tryOut2 Z ((Z 0) 15 0) ((Z 0) 15 1)
set_option maxHeartbeats 4000000 in
set_option maxRecDepth 100000 in
theorem ct_finalWord2 (l : Launch) (D : va_G) (a : Nat → Nat) (ca : Nat → ClassId) (hJ : zJ a) (Z : Nat → zM) (word : Int32) (hI : zOK (Z 0)) (hXR : ∀ k, k < 6 → xR (Z k)) : zCi l yX6_finalWord wsX6_finalWord ({ frames := 6, cells := 0, slots := 0, locals := 139 } : Room) D a ca [.ref (a 114), .int word] (Z) (g_finalWord2 Z word) (h_finalWord2 Z word) := by
  have hiX3 : ∀ w ∈ wsX30, w ∈ wsX6_finalWord := by decide +kernel
  have hiX6 : ∀ w ∈ wsX60, w ∈ wsX6_finalWord := by decide +kernel
  refine z_ofi (cc := cX6_finalWord) (maxL := 3) (own := RX6) (by decide) rfl (Nat.le_of_ble_eq_true rfl) rfl (fun p e s m below meth c ls hx hb hr hml hts hown hlk hl hK hP hS => ?_)
  have hl : lv_has ls 3 [(0, .ref (a 114)), (1, .int word)] := hl
  refine lv_iload_n hx hb dX6_finalWord_0 rfl (lv_at hl 1 rfl) ?_
  refine z_cSi (As := [.int word]) (rest := []) ⟨hx, hb, hml, hown, hts⟩ (ct_X6_isWord l D a ca hJ Z word) (va_cwS 1 hts gX6_finalWord_X6_isWord rfl rfl rfl (by decide +kernel) ⟨Nat.le_of_ble_eq_true rfl, Nat.le_of_ble_eq_true rfl⟩) hK hP hS rfl hl.1 rfl (Nat.le_of_ble_eq_true rfl) dX6_finalWord_1 ⟨Nat.zero_le _, Nat.zero_le _⟩ (fun H locs hP hS => ?_)
  refine lv_if_ne (tgt := 10) hx hb dX6_finalWord_4 (by decide) (fun c4_1 => ?_) (fun c4_1 => ?_)
  · have bw := z_isWord c4_1
    refine lv_aload_n hx hb dX6_finalWord_10 rfl (lv_at hl 0 rfl) ?_
    refine lv_aload_n hx hb dX6_finalWord_11 rfl (lv_at hl 0 rfl) ?_
    have hP := zfoc_in (Z := Z) (k := 6) (M := Z 6) rfl hP
    refine zgb0' hx hb hts hiX6 hown hK hP  (hts (.fieldLink RX6 10 "BarrelProcessor" "machine" "LBarrelProcessor$Machine;") (by decide +kernel)) dX6_finalWord_12 ?_
    have hP := zfoc_out (Z := Z) (k := 6) rfl hP
    have hP := zfoc_in (Z := Z) (k := 0) (M := Z 0) rfl hP
    refine znm5 hx hb hts hiX3 hown hK hP (by omega) (zn_RX6_119 hK) dX6_finalWord_15 ?_
    refine lv_iconst (v := nI 0) hx hb dX6_finalWord_18 (by decide) ?_
    refine z_iald hx hb hK hP (zG_se (by omega)) (j := 0) (by omega) (by decide) dX6_finalWord_19 ?_
    refine lv_aload_n hx hb dX6_finalWord_20 rfl (lv_at hl 0 rfl) ?_
    have hP := zfoc_out (Z := Z) (k := 0) rfl hP
    have hP := zfoc_in (Z := Z) (k := 6) (M := Z 6) rfl hP
    refine zgb0' hx hb hts hiX6 hown hK hP  (hts (.fieldLink RX6 10 "BarrelProcessor" "machine" "LBarrelProcessor$Machine;") (by decide +kernel)) dX6_finalWord_21 ?_
    have hP := zfoc_out (Z := Z) (k := 6) rfl hP
    have hP := zfoc_in (Z := Z) (k := 0) (M := Z 0) rfl hP
    refine znm5 hx hb hts hiX3 hown hK hP (by omega) (zn_RX6_119 hK) dX6_finalWord_24 ?_
    refine lv_iconst (v := nI 1) hx hb dX6_finalWord_27 (by decide) ?_
    refine z_iald hx hb hK hP (zG_se (by omega)) (j := 1) (by omega) (by decide) dX6_finalWord_28 ?_
    have hP := zfoc_out (Z := Z) (k := 0) rfl hP
    refine z_cVi (As := [.int ((Z 0) 15 0), .int ((Z 0) 15 1)]) (rest := []) ⟨hx, hb, hml, hown, hts⟩ (ct_tryOut2 l D a ca hJ Z ((Z 0) 15 0) ((Z 0) 15 1) hI hXR) (cwV 2 hts gX6_finalWord_X6_tryOut rfl rfl rfl (by decide +kernel) ⟨Nat.le_of_ble_eq_true rfl, Nat.le_of_ble_eq_true rfl⟩) hK hP hS (va_recv (ci := 6) hK.1 (zfoc_in (Z := Z) (k := 6) (M := Z 6) rfl hP) rfl zG_b) rfl hl.1 rfl (Nat.le_of_ble_eq_true rfl) dX6_finalWord_29 ⟨Nat.zero_le _, Nat.zero_le _⟩ (fun H locs hP hS => ?_)
    refine lv_istore_n (lv' := [(2, .int (g_tryOut2 Z ((Z 0) 15 0) ((Z 0) 15 1))), (0, .ref (a 114)), (1, .int word)]) hx hb dX6_finalWord_32 rfl hl (by decide) rfl (fun ls hl => ?_)
    refine lv_iload_n hx hb dX6_finalWord_33 rfl (lv_at hl 0 rfl) ?_
    refine lv_ldc (v := (-100005)) hx hb hown (hts (.constant RX6 42 (-100005)) (by decide +kernel)) dX6_finalWord_34 ?_
    refine lv_icmp_ne (tgt := 44) hx hb dX6_finalWord_36 (by decide) (fun c36_2 => ?_) (fun c36_2 => ?_)
    · refine lv_aload_n hx hb dX6_finalWord_44 rfl (lv_at hl 1 rfl) ?_
      have hP := zfoc_in (Z := h_tryOut2 Z ((Z 0) 15 0) ((Z 0) 15 1)) (k := 6) (M := (h_tryOut2 Z ((Z 0) 15 0) ((Z 0) 15 1)) 6) rfl hP
      refine zgb1' hx hb hts hiX6 hown hK hP  (hts (.fieldLink RX6 16 "BarrelProcessor" "trial" "LBarrelProcessor$Machine;") (by decide +kernel)) dX6_finalWord_45 ?_
      have hP := zfoc_out (Z := h_tryOut2 Z ((Z 0) 15 0) ((Z 0) 15 1)) (k := 6) rfl hP
      have hP := zfoc_in (Z := h_tryOut2 Z ((Z 0) 15 0) ((Z 0) 15 1)) (k := 1) (M := (h_tryOut2 Z ((Z 0) 15 0) ((Z 0) 15 1)) 1) rfl hP
      refine znm3 hx hb hts hiX3 hown hK hP (by omega) (zn_RX6_103 hK) dX6_finalWord_48 ?_
      refine lv_iload_n hx hb dX6_finalWord_51 rfl (lv_at hl 2 rfl) ?_
      refine z_val (z := nI (zc word)) bw.2 ?_
      refine z_iald hx hb hK hP (zG_wd (by omega)) (j := zc word) bw.1 (by decide) dX6_finalWord_52 ?_
      exact z_reti hx hb hr hlk rfl (zfoc_out (Z := h_tryOut2 Z ((Z 0) 15 0) ((Z 0) 15 1)) (k := 1) rfl hP) hS dX6_finalWord_53 (by simp only [g_finalWord2, if_neg c4_1, if_neg c36_2]) (by simp only [h_finalWord2, if_neg c4_1, if_neg c36_2])
    · refine lv_ldc (v := (-100005)) hx hb hown (hts (.constant RX6 42 (-100005)) (by decide +kernel)) dX6_finalWord_39 ?_
      refine lv_goto (tgt := 53) hx hb dX6_finalWord_41 (by decide) ?_
      exact z_reti hx hb hr hlk rfl hP hS dX6_finalWord_53 (by simp only [g_finalWord2, if_neg c4_1, if_pos c36_2]) (by simp only [h_finalWord2, if_neg c4_1, if_pos c36_2])
  · refine lv_ldc (v := (-100001)) hx hb hown (hts (.constant RX6 37 (-100001)) (by decide +kernel)) dX6_finalWord_7 ?_
    exact z_reti hx hb hr hlk rfl hP hS dX6_finalWord_9 (by simp only [g_finalWord2, if_pos c4_1]) (by simp only [h_finalWord2, if_pos c4_1])

def g_assemble2 (Z : Nat → zM) (place : Int32) : Int32 := if (g_X6_isPlace place) = 0 then (-100001) else if (g_X4_findFault (Z 6)) = (-100005) then if (nI (zc place + (zc ((h_X4_findFault (Z 6)) 1 2)))) ≤ (nI 48) then nI (zc ((h_X4_findFault (Z 6)) 1 2)) else (-100004) else (-100003)
def h_assemble2 (Z : Nat → zM) (place : Int32) : Nat → zM := if (g_X6_isPlace place) = 0 then Z else if (g_X4_findFault (Z 6)) = (-100005) then if (nI (zc place + (zc ((h_X4_findFault (Z 6)) 1 2)))) ≤ (nI 48) then va_up (h_remember2 (va_up Z 6 (h_X4_findFault (Z 6)))) 0 (h_copyRows_x (h_remember2 (va_up Z 6 (h_X4_findFault (Z 6)))) (zc ((h_X4_findFault (Z 6)) 1 2)) (zc place) ((h_remember2 (va_up Z 6 (h_X4_findFault (Z 6)))) 0)) else va_up Z 6 (h_X4_findFault (Z 6)) else va_up Z 6 (h_X4_findFault (Z 6))
set_option maxHeartbeats 4000000 in
set_option maxRecDepth 100000 in
theorem ct_assemble2 (l : Launch) (D : va_G) (a : Nat → Nat) (ca : Nat → ClassId) (hJ : zJ a) (qs qv : Nat) (Z : Nat → zM) (place : Int32) (hX : xQ 51 (Z 6)) (hN : zIn (Z 6 0 0) 4) (hC : zIn (Z 6 0 1) 5) (hXR : ∀ k, k < 6 → xR (Z k)) : zTi l yX6_assemble wsX6_assemble ({ frames := 6, cells := 0, slots := 0, locals := 134 } : Room) D a ca qs qv [.ref (a 114), .int place] (Z) (g_assemble2 Z place) (h_assemble2 Z place) := by
  have hiX3 : ∀ w ∈ wsX30, w ∈ wsX6_assemble := by decide +kernel
  have hiX4 : ∀ w ∈ wsX40, w ∈ wsX6_assemble := by decide +kernel
  have hiX6 : ∀ w ∈ wsX60, w ∈ wsX6_assemble := by decide +kernel
  refine t_ofi (cc := cX6_assemble) (maxL := 3) (own := RX6) (by decide) rfl (Nat.le_of_ble_eq_true rfl) rfl (fun p e s m below meth c ls hx hb hr hml hts hown hlk hl hK hE hP hS => ?_)
  have hl : lv_has ls 3 [(0, .ref (a 114)), (1, .int place)] := hl
  refine lv_iload_n hx hb dX6_assemble_0 rfl (lv_at hl 1 rfl) ?_
  refine z_cSi (As := [.int place]) (rest := []) ⟨hx, hb, hml, hown, hts⟩ (ct_X6_isPlace l D a ca hJ Z place) (va_cwS 1 hts gX6_assemble_X6_isPlace rfl rfl rfl (by decide +kernel) ⟨Nat.le_of_ble_eq_true rfl, Nat.le_of_ble_eq_true rfl⟩) hK hP hS rfl hl.1 rfl (Nat.le_of_ble_eq_true rfl) dX6_assemble_1 ⟨Nat.zero_le _, Nat.zero_le _⟩ (fun H locs hP hS => ?_)
  refine lv_if_ne (tgt := 10) hx hb dX6_assemble_4 (by decide) (fun c4_1 => ?_) (fun c4_1 => ?_)
  · have bp := z_isPlace c4_1
    have bp1 := bp.1
    refine lv_aload_n hx hb dX6_assemble_10 rfl (lv_at hl 0 rfl) ?_
    have hP := zfoc_in (Z := Z) (k := 6) (M := Z 6) rfl hP
    refine zgb3 hx hb hts hiX6 hown hK hP  (hts (.fieldLink RX6 29 "BarrelProcessor" "text" "LBarrelProcessor$Text;") (by decide +kernel)) dX6_assemble_11 ?_
    refine t_cVi (As := []) (rest := []) ⟨hx, hb, hml, hown, hts⟩ (ct_X4_findFault l D a ca hJ qs qv Z (Z 6) hX) (cwV 0 hts gX6_assemble_X4_findFault rfl rfl rfl (by decide +kernel) ⟨Nat.le_of_ble_eq_true rfl, Nat.le_of_ble_eq_true rfl⟩) hE hK hP hS (va_recv (ci := 4) hK.1 hP rfl zG_x) rfl hl.1 rfl (Nat.le_of_ble_eq_true rfl) dX6_assemble_14 ⟨Nat.zero_le _, Nat.zero_le _⟩ (fun H locs hP hS => ?_)
    refine lv_ldc (v := (-100005)) hx hb hown (hts (.constant RX6 42 (-100005)) (by decide +kernel)) dX6_assemble_17 ?_
    refine lv_icmp_eq (tgt := 25) hx hb dX6_assemble_19 (by decide) (fun c19_2 => ?_) (fun c19_2 => ?_)
    · refine lv_aload_n hx hb dX6_assemble_25 rfl (lv_at hl 0 rfl) ?_
      refine zgb3 hx hb hts hiX6 hown hK hP  (hts (.fieldLink RX6 29 "BarrelProcessor" "text" "LBarrelProcessor$Text;") (by decide +kernel)) dX6_assemble_26 ?_
      refine znx4 hx hb hts hiX4 hown hK hP  (zn_RX6_44 hK) dX6_assemble_29 ?_
      refine z_val (z := nI (zc ((h_X4_findFault (Z 6)) 1 2))) (xQ_findFault hX).2.2.1.2 ?_
      refine lv_istore_n (lv' := [(2, .int (nI (zc ((h_X4_findFault (Z 6)) 1 2)))), (0, .ref (a 114)), (1, .int place)]) hx hb dX6_assemble_32 rfl hl (by decide) rfl (fun ls hl => ?_)
      refine lv_iload_n hx hb dX6_assemble_33 rfl (lv_at hl 2 rfl) ?_
      refine z_val (z := nI (zc place)) bp.2 ?_
      refine lv_iload_n hx hb dX6_assemble_34 rfl (lv_at hl 0 rfl) ?_
      refine lv_iadd hx hb dX6_assemble_35 ?_
      refine z_val (z := nI (zc place + (zc ((h_X4_findFault (Z 6)) 1 2)))) (nI_add _ _) ?_
      refine lv_bipush (v := nI 48) hx hb dX6_assemble_36 (by decide) ?_
      refine lv_icmp_le (tgt := 44) hx hb dX6_assemble_38 (by decide) (fun c38_3 => ?_) (fun c38_3 => ?_)
      · have h9 := (xQ_findFault hX).2.2.1.1
        have b4 : zc place + zc (h_X4_findFault (Z 6) 1 2) ≤ 48 := (nI_leI (by omega) (by decide)).mp c38_3
        refine lv_aload_n hx hb dX6_assemble_44 rfl (lv_at hl 1 rfl) ?_
        refine zgb2 hx hb hts hiX6 hown hK hP  (hts (.fieldLink RX6 22 "BarrelProcessor" "history" "LBarrelProcessor$History;") (by decide +kernel)) dX6_assemble_45 ?_
        refine lv_aload_n hx hb dX6_assemble_48 rfl (lv_at hl 1 rfl) ?_
        refine zgb0' hx hb hts hiX6 hown hK hP  (hts (.fieldLink RX6 10 "BarrelProcessor" "machine" "LBarrelProcessor$Machine;") (by decide +kernel)) dX6_assemble_49 ?_
        refine z_cVv (As := [.ref (a (19 * 0))]) (rest := []) ⟨hx, hb, hml, hown, hts⟩ (ct_remember2 l D a ca hJ (va_up Z 6 (h_X4_findFault (Z 6))) (by rw [va_up_self, ff_0]; exact hN) (by rw [va_up_self, ff_0]; exact hC) (fun k hk => by rw [va_up_ne _ _ (by omega)]; exact hXR k hk)) (cwV 1 hts gX6_assemble_X1_remember rfl rfl rfl (by decide +kernel) ⟨Nat.le_of_ble_eq_true rfl, Nat.le_of_ble_eq_true rfl⟩) hK hP hS (va_recv (ci := 1) hK.1 (zfoc_in (Z := va_up Z 6 (h_X4_findFault (Z 6))) (k := 6) (M := h_X4_findFault (Z 6)) (va_up_self _ _ _).symm hP) rfl zG_h) rfl hl.1 rfl (Nat.le_of_ble_eq_true rfl) dX6_assemble_52 ⟨Nat.zero_le _, Nat.zero_le _⟩ (fun H locs hP hS => ?_)
        refine lv_aload_n hx hb dX6_assemble_55 rfl (lv_at hl 1 rfl) ?_
        have hP := zfoc_in (Z := h_remember2 (va_up Z 6 (h_X4_findFault (Z 6)))) (k := 6) (M := (h_remember2 (va_up Z 6 (h_X4_findFault (Z 6)))) 6) rfl hP
        refine zgb0' hx hb hts hiX6 hown hK hP  (hts (.fieldLink RX6 10 "BarrelProcessor" "machine" "LBarrelProcessor$Machine;") (by decide +kernel)) dX6_assemble_56 ?_
        have hP := zfoc_out (Z := h_remember2 (va_up Z 6 (h_X4_findFault (Z 6)))) (k := 6) rfl hP
        have hP := zfoc_in (Z := h_remember2 (va_up Z 6 (h_X4_findFault (Z 6)))) (k := 0) (M := (h_remember2 (va_up Z 6 (h_X4_findFault (Z 6)))) 0) rfl hP
        refine znm1 hx hb hts hiX3 hown hK hP (by omega) (zn_RX6_53 hK) dX6_assemble_59 ?_
        refine lv_aload_n hx hb dX6_assemble_62 rfl (lv_at hl 1 rfl) ?_
        have hP := zfoc_out (Z := h_remember2 (va_up Z 6 (h_X4_findFault (Z 6)))) (k := 0) rfl hP
        have hP := zfoc_in (Z := h_remember2 (va_up Z 6 (h_X4_findFault (Z 6)))) (k := 6) (M := (h_remember2 (va_up Z 6 (h_X4_findFault (Z 6)))) 6) rfl hP
        refine zgb3 hx hb hts hiX6 hown hK hP  (hts (.fieldLink RX6 29 "BarrelProcessor" "text" "LBarrelProcessor$Text;") (by decide +kernel)) dX6_assemble_63 ?_
        refine znx3 hx hb hts hiX4 hown hK hP  (zn_RX6_57 hK) dX6_assemble_66 ?_
        refine lv_iload_n hx hb dX6_assemble_69 rfl (lv_at hl 0 rfl) ?_
        refine lv_iload_n hx hb dX6_assemble_70 rfl (lv_at hl 2 rfl) ?_
        refine z_val (z := nI (zc place)) bp.2 ?_
        have hP := zfoc_out (Z := h_remember2 (va_up Z 6 (h_X4_findFault (Z 6)))) (k := 6) rfl hP
        have hP := zfoc_in (Z := h_remember2 (va_up Z 6 (h_X4_findFault (Z 6)))) (k := 0) (M := (h_remember2 (va_up Z 6 (h_X4_findFault (Z 6)))) 0) rfl hP
        refine z_cVv (As := [.ref (a 119), .int (nI (zc ((h_X4_findFault (Z 6)) 1 2))), .int (nI (zc place))]) (rest := []) ⟨hx, hb, hml, hown, hts⟩ (ct_copyRows_x l D a ca hJ (h_remember2 (va_up Z 6 (h_X4_findFault (Z 6)))) 0 ((h_remember2 (va_up Z 6 (h_X4_findFault (Z 6)))) 0) (by omega) (by omega) (zc ((h_X4_findFault (Z 6)) 1 2)) (zc place) (by omega)) (cwV 3 hts gX6_assemble_X2_copyRows rfl rfl rfl (by decide +kernel) ⟨Nat.le_of_ble_eq_true rfl, Nat.le_of_ble_eq_true rfl⟩) hK hP hS (va_recv (ci := 2) hK.1 hP rfl (zG_p (by omega))) rfl hl.1 rfl (Nat.le_of_ble_eq_true rfl) dX6_assemble_71 ⟨Nat.zero_le _, Nat.zero_le _⟩ (fun H locs hP hS => ?_)
        refine lv_iload_n hx hb dX6_assemble_74 rfl (lv_at hl 0 rfl) ?_
        exact z_reti hx hb hr hlk rfl hP hS dX6_assemble_75 (by simp only [g_assemble2, if_neg c4_1, if_pos c19_2, if_pos c38_3]) (by simp only [h_assemble2, if_neg c4_1, if_pos c19_2, if_pos c38_3])
      · refine lv_ldc (v := (-100004)) hx hb hown (hts (.constant RX6 48 (-100004)) (by decide +kernel)) dX6_assemble_41 ?_
        exact z_reti hx hb hr hlk rfl hP hS dX6_assemble_43 (by simp only [g_assemble2, if_neg c4_1, if_pos c19_2, if_neg c38_3]) (by simp only [h_assemble2, if_neg c4_1, if_pos c19_2, if_neg c38_3])
    · refine lv_ldc (v := (-100003)) hx hb hown (hts (.constant RX6 43 (-100003)) (by decide +kernel)) dX6_assemble_22 ?_
      exact z_reti hx hb hr hlk rfl hP hS dX6_assemble_24 (by simp only [g_assemble2, if_neg c4_1, if_neg c19_2]) (by simp only [h_assemble2, if_neg c4_1, if_neg c19_2])
  · refine lv_ldc (v := (-100001)) hx hb hown (hts (.constant RX6 37 (-100001)) (by decide +kernel)) dX6_assemble_7 ?_
    exact z_reti hx hb hr hlk rfl hP hS dX6_assemble_9 (by simp only [g_assemble2, if_pos c4_1]) (by simp only [h_assemble2, if_pos c4_1])
