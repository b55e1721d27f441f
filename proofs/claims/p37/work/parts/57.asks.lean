section ZB
variable {p : Program} {l : Launch} {e : Env} {R : Room} {s : State} {m : MethodId} {args : Array Value} {below : List Frame} {meth : Method} {c : Code} {H : Heap} {locs : List Loc} {cells slots : Nat} {Q : State → Prop}
variable {cc : ByteArray} {pc : Nat} {ls : Array Slot} {rest st0 : List Value} {D : va_G} {a : Nat → Nat} {ca : Nat → ClassId} {Z : Nat → zM} {X : zM} {own : String} {index : Nat} {Ts : List Cond}
theorem zgb0' (hx : p.tables.exec = Jvm.exec) (hb : c.code = cc) (hts : ∀ w ∈ Ts, w.before args s = true) (hin : ∀ w ∈ wsX60, w ∈ Ts) (hown : s.vm.findClass own = some m.cls) (hK : zK D ca s) (hP : va_P D vwCl (zW a ca (va_up Z 6 X)) H) (hl : (Cond.fieldLink own index "BarrelProcessor" "machine" "LBarrelProcessor$Machine;").before args s = true) (hdg : decode cc pc = .ok (.getfield index, 3)) (kk : W p l e R s m args below meth c H locs cells slots Q (F0 m (pc + 3) ls (.ref (a (19 * 0)) :: rest))) : W p l e R s m args below meth c H locs cells slots Q (F0 m pc ls (.ref (a 114) :: rest)) :=
  zgb0 hx hb hts hin hown hK hP hl hdg kk
theorem zgb1' (hx : p.tables.exec = Jvm.exec) (hb : c.code = cc) (hts : ∀ w ∈ Ts, w.before args s = true) (hin : ∀ w ∈ wsX60, w ∈ Ts) (hown : s.vm.findClass own = some m.cls) (hK : zK D ca s) (hP : va_P D vwCl (zW a ca (va_up Z 6 X)) H) (hl : (Cond.fieldLink own index "BarrelProcessor" "trial" "LBarrelProcessor$Machine;").before args s = true) (hdg : decode cc pc = .ok (.getfield index, 3)) (kk : W p l e R s m args below meth c H locs cells slots Q (F0 m (pc + 3) ls (.ref (a (19 * 1)) :: rest))) : W p l e R s m args below meth c H locs cells slots Q (F0 m pc ls (.ref (a 114) :: rest)) :=
  zgb1 hx hb hts hin hown hK hP hl hdg kk
end ZB
theorem rem_0 (Z : Nat → zM) : h_X1_remember Z 0 = Z 0 := (va_up_ne _ _ (by decide)).trans (va_up_ne _ _ (by omega))
theorem z_nn {x : Int32} (h : ¬ x < 0) : zIn x (2 ^ 31) := by
  obtain ⟨j, h1, rfl⟩ := nI_of h
  exact zIn_nI h1 (by decide)
theorem z_run {x : Int32} (h : ¬ g_X6_isWithin x (nI 1) (nI 200) = 0) : zIn x 201 := by
  unfold g_X6_isWithin at h
  by_cases c1 : x < nI 1
  · simp only [if_pos c1] at h
    exact absurd rfl h
  · by_cases c2 : nI 200 < x
    · simp only [if_neg c1, if_pos c2] at h
      exact absurd rfl h
    · have c0 : ¬ x < 0 := by
        intro q
        apply c1
        rw [Int32.lt_iff_toInt_lt] at q ⊢
        have e1 : (nI 1).toInt = 1 := by decide
        have e0 : (0 : Int32).toInt = 0 := by decide
        omega
      obtain ⟨j, h1, rfl⟩ := nI_of c0
      have c3 : ¬ 200 < j := fun q => c2 (nI_lt q h1)
      exact zIn_nI (by omega) (by decide)
theorem va_cpy_in {α : Type} (f g : Nat → α) {n i : Nat} (h : i < n) : va_cpy f g 0 0 n i = f i := by
  unfold va_cpy
  rw [if_pos ⟨Nat.zero_le _, by omega⟩]
  congr 1
  omega

def g_X6_state (Z : Nat → zM) (thread : Int32) : Int32 := if (g_X6_isThread thread) = 0 then (-100001) else (Z 0) 0 (zc thread)
set_option maxHeartbeats 4000000 in
set_option maxRecDepth 100000 in
theorem ct_X6_state (l : Launch) (D : va_G) (a : Nat → Nat) (ca : Nat → ClassId) (hJ : zJ a) (Z : Nat → zM) (thread : Int32) : zCi l yX6_state wsX6_state ({ frames := 2, cells := 0, slots := 0, locals := 42 } : Room) D a ca [.ref (a 114), .int thread] (Z) (g_X6_state Z thread) (Z) := by
  have hiX0 : ∀ w ∈ wsX00, w ∈ wsX6_state := by decide +kernel
  have hiX3 : ∀ w ∈ wsX30, w ∈ wsX6_state := by decide +kernel
  have hiX6 : ∀ w ∈ wsX60, w ∈ wsX6_state := by decide +kernel
  refine z_ofi (cc := cX6_state) (maxL := 2) (own := RX6) (by decide) rfl (Nat.le_of_ble_eq_true rfl) rfl (fun p e s m below meth c ls hx hb hr hml hts hown hlk hl hK hP hS => ?_)
  have hl : lv_has ls 2 [(0, .ref (a 114)), (1, .int thread)] := hl
  refine lv_iload_n hx hb dX6_state_0 rfl (lv_at hl 1 rfl) ?_
  refine z_cSi (As := [.int thread]) (rest := []) ⟨hx, hb, hml, hown, hts⟩ (ct_X6_isThread l D a ca hJ Z thread) (va_cwS 1 hts gX6_state_X6_isThread rfl rfl rfl (by decide +kernel) ⟨Nat.le_of_ble_eq_true rfl, Nat.le_of_ble_eq_true rfl⟩) hK hP hS rfl hl.1 rfl (Nat.le_of_ble_eq_true rfl) dX6_state_1 ⟨Nat.zero_le _, Nat.zero_le _⟩ (fun H locs hP hS => ?_)
  refine lv_if_eq (tgt := 22) hx hb dX6_state_4 (by decide) (fun c4_1 => ?_) (fun c4_1 => ?_)
  · refine lv_ldc (v := (-100001)) hx hb hown (hts (.constant RX6 37 (-100001)) (by decide +kernel)) dX6_state_22 ?_
    exact z_reti hx hb hr hlk rfl hP hS dX6_state_24 (by simp only [g_X6_state, if_pos c4_1]) rfl
  · have bt := z_isThread c4_1
    refine lv_aload_n hx hb dX6_state_7 rfl (lv_at hl 0 rfl) ?_
    have hP := zfoc_in (Z := Z) (k := 6) (M := Z 6) rfl hP
    refine zgb0' hx hb hts hiX6 hown hK hP  (hts (.fieldLink RX6 10 "BarrelProcessor" "machine" "LBarrelProcessor$Machine;") (by decide +kernel)) dX6_state_8 ?_
    have hP := zfoc_out (Z := Z) (k := 6) rfl hP
    have hP := zfoc_in (Z := Z) (k := 0) (M := Z 0) rfl hP
    refine znm0 hx hb hts hiX3 hown hK hP (by omega) (zn_RX6_69 hK) dX6_state_11 ?_
    refine lv_iload_n hx hb dX6_state_14 rfl (lv_at hl 1 rfl) ?_
    refine z_val (z := nI (zc thread)) bt.2 ?_
    refine z_aat hx hb hK hP (by omega) bt.1 dX6_state_15 ?_
    refine znt1 hx hb hts hiX0 hown hK hP (by omega) bt.1 (zn_RX6_73 hK) dX6_state_16 ?_
    refine lv_goto (tgt := 24) hx hb dX6_state_19 (by decide) ?_
    exact z_reti hx hb hr hlk rfl (zfoc_out (Z := Z) (k := 0) rfl hP) hS dX6_state_24 (by simp only [g_X6_state, if_neg c4_1]) rfl

def g_X6_programCounter (Z : Nat → zM) (thread : Int32) : Int32 := if (g_X6_isThread thread) = 0 then (-100001) else (Z 0) 1 (zc thread)
set_option maxHeartbeats 4000000 in
set_option maxRecDepth 100000 in
theorem ct_X6_programCounter (l : Launch) (D : va_G) (a : Nat → Nat) (ca : Nat → ClassId) (hJ : zJ a) (Z : Nat → zM) (thread : Int32) : zCi l yX6_programCounter wsX6_programCounter ({ frames := 2, cells := 0, slots := 0, locals := 42 } : Room) D a ca [.ref (a 114), .int thread] (Z) (g_X6_programCounter Z thread) (Z) := by
  have hiX0 : ∀ w ∈ wsX00, w ∈ wsX6_programCounter := by decide +kernel
  have hiX3 : ∀ w ∈ wsX30, w ∈ wsX6_programCounter := by decide +kernel
  have hiX6 : ∀ w ∈ wsX60, w ∈ wsX6_programCounter := by decide +kernel
  refine z_ofi (cc := cX6_programCounter) (maxL := 2) (own := RX6) (by decide) rfl (Nat.le_of_ble_eq_true rfl) rfl (fun p e s m below meth c ls hx hb hr hml hts hown hlk hl hK hP hS => ?_)
  have hl : lv_has ls 2 [(0, .ref (a 114)), (1, .int thread)] := hl
  refine lv_iload_n hx hb dX6_programCounter_0 rfl (lv_at hl 1 rfl) ?_
  refine z_cSi (As := [.int thread]) (rest := []) ⟨hx, hb, hml, hown, hts⟩ (ct_X6_isThread l D a ca hJ Z thread) (va_cwS 1 hts gX6_programCounter_X6_isThread rfl rfl rfl (by decide +kernel) ⟨Nat.le_of_ble_eq_true rfl, Nat.le_of_ble_eq_true rfl⟩) hK hP hS rfl hl.1 rfl (Nat.le_of_ble_eq_true rfl) dX6_programCounter_1 ⟨Nat.zero_le _, Nat.zero_le _⟩ (fun H locs hP hS => ?_)
  refine lv_if_eq (tgt := 22) hx hb dX6_programCounter_4 (by decide) (fun c4_1 => ?_) (fun c4_1 => ?_)
  · refine lv_ldc (v := (-100001)) hx hb hown (hts (.constant RX6 37 (-100001)) (by decide +kernel)) dX6_programCounter_22 ?_
    exact z_reti hx hb hr hlk rfl hP hS dX6_programCounter_24 (by simp only [g_X6_programCounter, if_pos c4_1]) rfl
  · have bt := z_isThread c4_1
    refine lv_aload_n hx hb dX6_programCounter_7 rfl (lv_at hl 0 rfl) ?_
    have hP := zfoc_in (Z := Z) (k := 6) (M := Z 6) rfl hP
    refine zgb0' hx hb hts hiX6 hown hK hP  (hts (.fieldLink RX6 10 "BarrelProcessor" "machine" "LBarrelProcessor$Machine;") (by decide +kernel)) dX6_programCounter_8 ?_
    have hP := zfoc_out (Z := Z) (k := 6) rfl hP
    have hP := zfoc_in (Z := Z) (k := 0) (M := Z 0) rfl hP
    refine znm0 hx hb hts hiX3 hown hK hP (by omega) (zn_RX6_69 hK) dX6_programCounter_11 ?_
    refine lv_iload_n hx hb dX6_programCounter_14 rfl (lv_at hl 1 rfl) ?_
    refine z_val (z := nI (zc thread)) bt.2 ?_
    refine z_aat hx hb hK hP (by omega) bt.1 dX6_programCounter_15 ?_
    refine znt2 hx hb hts hiX0 hown hK hP (by omega) bt.1 (zn_RX6_143 hK) dX6_programCounter_16 ?_
    refine lv_goto (tgt := 24) hx hb dX6_programCounter_19 (by decide) ?_
    exact z_reti hx hb hr hlk rfl (zfoc_out (Z := Z) (k := 0) rfl hP) hS dX6_programCounter_24 (by simp only [g_X6_programCounter, if_neg c4_1]) rfl

def g_X6_executed (Z : Nat → zM) (thread : Int32) : Int32 := if (g_X6_isThread thread) = 0 then (-100001) else (Z 0) 6 (zc thread)
set_option maxHeartbeats 4000000 in
set_option maxRecDepth 100000 in
theorem ct_X6_executed (l : Launch) (D : va_G) (a : Nat → Nat) (ca : Nat → ClassId) (hJ : zJ a) (Z : Nat → zM) (thread : Int32) : zCi l yX6_executed wsX6_executed ({ frames := 2, cells := 0, slots := 0, locals := 42 } : Room) D a ca [.ref (a 114), .int thread] (Z) (g_X6_executed Z thread) (Z) := by
  have hiX0 : ∀ w ∈ wsX00, w ∈ wsX6_executed := by decide +kernel
  have hiX3 : ∀ w ∈ wsX30, w ∈ wsX6_executed := by decide +kernel
  have hiX6 : ∀ w ∈ wsX60, w ∈ wsX6_executed := by decide +kernel
  refine z_ofi (cc := cX6_executed) (maxL := 2) (own := RX6) (by decide) rfl (Nat.le_of_ble_eq_true rfl) rfl (fun p e s m below meth c ls hx hb hr hml hts hown hlk hl hK hP hS => ?_)
  have hl : lv_has ls 2 [(0, .ref (a 114)), (1, .int thread)] := hl
  refine lv_iload_n hx hb dX6_executed_0 rfl (lv_at hl 1 rfl) ?_
  refine z_cSi (As := [.int thread]) (rest := []) ⟨hx, hb, hml, hown, hts⟩ (ct_X6_isThread l D a ca hJ Z thread) (va_cwS 1 hts gX6_executed_X6_isThread rfl rfl rfl (by decide +kernel) ⟨Nat.le_of_ble_eq_true rfl, Nat.le_of_ble_eq_true rfl⟩) hK hP hS rfl hl.1 rfl (Nat.le_of_ble_eq_true rfl) dX6_executed_1 ⟨Nat.zero_le _, Nat.zero_le _⟩ (fun H locs hP hS => ?_)
  refine lv_if_eq (tgt := 22) hx hb dX6_executed_4 (by decide) (fun c4_1 => ?_) (fun c4_1 => ?_)
  · refine lv_ldc (v := (-100001)) hx hb hown (hts (.constant RX6 37 (-100001)) (by decide +kernel)) dX6_executed_22 ?_
    exact z_reti hx hb hr hlk rfl hP hS dX6_executed_24 (by simp only [g_X6_executed, if_pos c4_1]) rfl
  · have bt := z_isThread c4_1
    refine lv_aload_n hx hb dX6_executed_7 rfl (lv_at hl 0 rfl) ?_
    have hP := zfoc_in (Z := Z) (k := 6) (M := Z 6) rfl hP
    refine zgb0' hx hb hts hiX6 hown hK hP  (hts (.fieldLink RX6 10 "BarrelProcessor" "machine" "LBarrelProcessor$Machine;") (by decide +kernel)) dX6_executed_8 ?_
    have hP := zfoc_out (Z := Z) (k := 6) rfl hP
    have hP := zfoc_in (Z := Z) (k := 0) (M := Z 0) rfl hP
    refine znm0 hx hb hts hiX3 hown hK hP (by omega) (zn_RX6_69 hK) dX6_executed_11 ?_
    refine lv_iload_n hx hb dX6_executed_14 rfl (lv_at hl 1 rfl) ?_
    refine z_val (z := nI (zc thread)) bt.2 ?_
    refine z_aat hx hb hK hP (by omega) bt.1 dX6_executed_15 ?_
    refine znt7 hx hb hts hiX0 hown hK hP (by omega) bt.1 (zn_RX6_158 hK) dX6_executed_16 ?_
    refine lv_goto (tgt := 24) hx hb dX6_executed_19 (by decide) ?_
    exact z_reti hx hb hr hlk rfl (zfoc_out (Z := Z) (k := 0) rfl hP) hS dX6_executed_24 (by simp only [g_X6_executed, if_neg c4_1]) rfl

def g_X6_lent (Z : Nat → zM) (thread : Int32) : Int32 := if (g_X6_isThread thread) = 0 then (-100001) else (Z 0) 7 (zc thread)
set_option maxHeartbeats 4000000 in
set_option maxRecDepth 100000 in
theorem ct_X6_lent (l : Launch) (D : va_G) (a : Nat → Nat) (ca : Nat → ClassId) (hJ : zJ a) (Z : Nat → zM) (thread : Int32) : zCi l yX6_lent wsX6_lent ({ frames := 2, cells := 0, slots := 0, locals := 42 } : Room) D a ca [.ref (a 114), .int thread] (Z) (g_X6_lent Z thread) (Z) := by
  have hiX0 : ∀ w ∈ wsX00, w ∈ wsX6_lent := by decide +kernel
  have hiX3 : ∀ w ∈ wsX30, w ∈ wsX6_lent := by decide +kernel
  have hiX6 : ∀ w ∈ wsX60, w ∈ wsX6_lent := by decide +kernel
  refine z_ofi (cc := cX6_lent) (maxL := 2) (own := RX6) (by decide) rfl (Nat.le_of_ble_eq_true rfl) rfl (fun p e s m below meth c ls hx hb hr hml hts hown hlk hl hK hP hS => ?_)
  have hl : lv_has ls 2 [(0, .ref (a 114)), (1, .int thread)] := hl
  refine lv_iload_n hx hb dX6_lent_0 rfl (lv_at hl 1 rfl) ?_
  refine z_cSi (As := [.int thread]) (rest := []) ⟨hx, hb, hml, hown, hts⟩ (ct_X6_isThread l D a ca hJ Z thread) (va_cwS 1 hts gX6_lent_X6_isThread rfl rfl rfl (by decide +kernel) ⟨Nat.le_of_ble_eq_true rfl, Nat.le_of_ble_eq_true rfl⟩) hK hP hS rfl hl.1 rfl (Nat.le_of_ble_eq_true rfl) dX6_lent_1 ⟨Nat.zero_le _, Nat.zero_le _⟩ (fun H locs hP hS => ?_)
  refine lv_if_eq (tgt := 22) hx hb dX6_lent_4 (by decide) (fun c4_1 => ?_) (fun c4_1 => ?_)
  · refine lv_ldc (v := (-100001)) hx hb hown (hts (.constant RX6 37 (-100001)) (by decide +kernel)) dX6_lent_22 ?_
    exact z_reti hx hb hr hlk rfl hP hS dX6_lent_24 (by simp only [g_X6_lent, if_pos c4_1]) rfl
  · have bt := z_isThread c4_1
    refine lv_aload_n hx hb dX6_lent_7 rfl (lv_at hl 0 rfl) ?_
    have hP := zfoc_in (Z := Z) (k := 6) (M := Z 6) rfl hP
    refine zgb0' hx hb hts hiX6 hown hK hP  (hts (.fieldLink RX6 10 "BarrelProcessor" "machine" "LBarrelProcessor$Machine;") (by decide +kernel)) dX6_lent_8 ?_
    have hP := zfoc_out (Z := Z) (k := 6) rfl hP
    have hP := zfoc_in (Z := Z) (k := 0) (M := Z 0) rfl hP
    refine znm0 hx hb hts hiX3 hown hK hP (by omega) (zn_RX6_69 hK) dX6_lent_11 ?_
    refine lv_iload_n hx hb dX6_lent_14 rfl (lv_at hl 1 rfl) ?_
    refine z_val (z := nI (zc thread)) bt.2 ?_
    refine z_aat hx hb hK hP (by omega) bt.1 dX6_lent_15 ?_
    refine znt8 hx hb hts hiX0 hown hK hP (by omega) bt.1 (zn_RX6_161 hK) dX6_lent_16 ?_
    refine lv_goto (tgt := 24) hx hb dX6_lent_19 (by decide) ?_
    exact z_reti hx hb hr hlk rfl (zfoc_out (Z := Z) (k := 0) rfl hP) hS dX6_lent_24 (by simp only [g_X6_lent, if_neg c4_1]) rfl

def g_X6_starved (Z : Nat → zM) (thread : Int32) : Int32 := if (g_X6_isThread thread) = 0 then (-100001) else (Z 0) 9 (zc thread)
set_option maxHeartbeats 4000000 in
set_option maxRecDepth 100000 in
theorem ct_X6_starved (l : Launch) (D : va_G) (a : Nat → Nat) (ca : Nat → ClassId) (hJ : zJ a) (Z : Nat → zM) (thread : Int32) : zCi l yX6_starved wsX6_starved ({ frames := 2, cells := 0, slots := 0, locals := 42 } : Room) D a ca [.ref (a 114), .int thread] (Z) (g_X6_starved Z thread) (Z) := by
  have hiX0 : ∀ w ∈ wsX00, w ∈ wsX6_starved := by decide +kernel
  have hiX3 : ∀ w ∈ wsX30, w ∈ wsX6_starved := by decide +kernel
  have hiX6 : ∀ w ∈ wsX60, w ∈ wsX6_starved := by decide +kernel
  refine z_ofi (cc := cX6_starved) (maxL := 2) (own := RX6) (by decide) rfl (Nat.le_of_ble_eq_true rfl) rfl (fun p e s m below meth c ls hx hb hr hml hts hown hlk hl hK hP hS => ?_)
  have hl : lv_has ls 2 [(0, .ref (a 114)), (1, .int thread)] := hl
  refine lv_iload_n hx hb dX6_starved_0 rfl (lv_at hl 1 rfl) ?_
  refine z_cSi (As := [.int thread]) (rest := []) ⟨hx, hb, hml, hown, hts⟩ (ct_X6_isThread l D a ca hJ Z thread) (va_cwS 1 hts gX6_starved_X6_isThread rfl rfl rfl (by decide +kernel) ⟨Nat.le_of_ble_eq_true rfl, Nat.le_of_ble_eq_true rfl⟩) hK hP hS rfl hl.1 rfl (Nat.le_of_ble_eq_true rfl) dX6_starved_1 ⟨Nat.zero_le _, Nat.zero_le _⟩ (fun H locs hP hS => ?_)
  refine lv_if_eq (tgt := 22) hx hb dX6_starved_4 (by decide) (fun c4_1 => ?_) (fun c4_1 => ?_)
  · refine lv_ldc (v := (-100001)) hx hb hown (hts (.constant RX6 37 (-100001)) (by decide +kernel)) dX6_starved_22 ?_
    exact z_reti hx hb hr hlk rfl hP hS dX6_starved_24 (by simp only [g_X6_starved, if_pos c4_1]) rfl
  · have bt := z_isThread c4_1
    refine lv_aload_n hx hb dX6_starved_7 rfl (lv_at hl 0 rfl) ?_
    have hP := zfoc_in (Z := Z) (k := 6) (M := Z 6) rfl hP
    refine zgb0' hx hb hts hiX6 hown hK hP  (hts (.fieldLink RX6 10 "BarrelProcessor" "machine" "LBarrelProcessor$Machine;") (by decide +kernel)) dX6_starved_8 ?_
    have hP := zfoc_out (Z := Z) (k := 6) rfl hP
    have hP := zfoc_in (Z := Z) (k := 0) (M := Z 0) rfl hP
    refine znm0 hx hb hts hiX3 hown hK hP (by omega) (zn_RX6_69 hK) dX6_starved_11 ?_
    refine lv_iload_n hx hb dX6_starved_14 rfl (lv_at hl 1 rfl) ?_
    refine z_val (z := nI (zc thread)) bt.2 ?_
    refine z_aat hx hb hK hP (by omega) bt.1 dX6_starved_15 ?_
    refine znt10 hx hb hts hiX0 hown hK hP (by omega) bt.1 (zn_RX6_164 hK) dX6_starved_16 ?_
    refine lv_goto (tgt := 24) hx hb dX6_starved_19 (by decide) ?_
    exact z_reti hx hb hr hlk rfl (zfoc_out (Z := Z) (k := 0) rfl hP) hS dX6_starved_24 (by simp only [g_X6_starved, if_neg c4_1]) rfl

def g_X6_word (Z : Nat → zM) (word : Int32) : Int32 := if (g_X6_isWord word) = 0 then (-100001) else (Z 0) 13 (zc word)
set_option maxHeartbeats 4000000 in
set_option maxRecDepth 100000 in
theorem ct_X6_word (l : Launch) (D : va_G) (a : Nat → Nat) (ca : Nat → ClassId) (hJ : zJ a) (Z : Nat → zM) (word : Int32) : zCi l yX6_word wsX6_word ({ frames := 2, cells := 0, slots := 0, locals := 42 } : Room) D a ca [.ref (a 114), .int word] (Z) (g_X6_word Z word) (Z) := by
  have hiX3 : ∀ w ∈ wsX30, w ∈ wsX6_word := by decide +kernel
  have hiX6 : ∀ w ∈ wsX60, w ∈ wsX6_word := by decide +kernel
  refine z_ofi (cc := cX6_word) (maxL := 2) (own := RX6) (by decide) rfl (Nat.le_of_ble_eq_true rfl) rfl (fun p e s m below meth c ls hx hb hr hml hts hown hlk hl hK hP hS => ?_)
  have hl : lv_has ls 2 [(0, .ref (a 114)), (1, .int word)] := hl
  refine lv_iload_n hx hb dX6_word_0 rfl (lv_at hl 1 rfl) ?_
  refine z_cSi (As := [.int word]) (rest := []) ⟨hx, hb, hml, hown, hts⟩ (ct_X6_isWord l D a ca hJ Z word) (va_cwS 1 hts gX6_word_X6_isWord rfl rfl rfl (by decide +kernel) ⟨Nat.le_of_ble_eq_true rfl, Nat.le_of_ble_eq_true rfl⟩) hK hP hS rfl hl.1 rfl (Nat.le_of_ble_eq_true rfl) dX6_word_1 ⟨Nat.zero_le _, Nat.zero_le _⟩ (fun H locs hP hS => ?_)
  refine lv_if_eq (tgt := 19) hx hb dX6_word_4 (by decide) (fun c4_1 => ?_) (fun c4_1 => ?_)
  · refine lv_ldc (v := (-100001)) hx hb hown (hts (.constant RX6 37 (-100001)) (by decide +kernel)) dX6_word_19 ?_
    exact z_reti hx hb hr hlk rfl hP hS dX6_word_21 (by simp only [g_X6_word, if_pos c4_1]) rfl
  · have bt := z_isWord c4_1
    refine lv_aload_n hx hb dX6_word_7 rfl (lv_at hl 0 rfl) ?_
    have hP := zfoc_in (Z := Z) (k := 6) (M := Z 6) rfl hP
    refine zgb0' hx hb hts hiX6 hown hK hP  (hts (.fieldLink RX6 10 "BarrelProcessor" "machine" "LBarrelProcessor$Machine;") (by decide +kernel)) dX6_word_8 ?_
    have hP := zfoc_out (Z := Z) (k := 6) rfl hP
    have hP := zfoc_in (Z := Z) (k := 0) (M := Z 0) rfl hP
    refine znm3 hx hb hts hiX3 hown hK hP (by omega) (zn_RX6_103 hK) dX6_word_11 ?_
    refine lv_iload_n hx hb dX6_word_14 rfl (lv_at hl 1 rfl) ?_
    refine z_val (z := nI (zc word)) bt.2 ?_
    refine z_iald hx hb hK hP (zG_wd (by omega)) (j := zc word) (by have h9 := bt.1; omega) (by decide) dX6_word_15 ?_
    refine lv_goto (tgt := 21) hx hb dX6_word_16 (by decide) ?_
    exact z_reti hx hb hr hlk rfl (zfoc_out (Z := Z) (k := 0) rfl hP) hS dX6_word_21 (by simp only [g_X6_word, if_neg c4_1]) rfl

def g_X6_operation (Z : Nat → zM) (place : Int32) : Int32 := if (g_X6_isPlace place) = 0 then (-100001) else (Z 0) 10 (zc place)
set_option maxHeartbeats 4000000 in
set_option maxRecDepth 100000 in
theorem ct_X6_operation (l : Launch) (D : va_G) (a : Nat → Nat) (ca : Nat → ClassId) (hJ : zJ a) (Z : Nat → zM) (place : Int32) : zCi l yX6_operation wsX6_operation ({ frames := 2, cells := 0, slots := 0, locals := 42 } : Room) D a ca [.ref (a 114), .int place] (Z) (g_X6_operation Z place) (Z) := by
  have hiX2 : ∀ w ∈ wsX20, w ∈ wsX6_operation := by decide +kernel
  have hiX3 : ∀ w ∈ wsX30, w ∈ wsX6_operation := by decide +kernel
  have hiX6 : ∀ w ∈ wsX60, w ∈ wsX6_operation := by decide +kernel
  refine z_ofi (cc := cX6_operation) (maxL := 2) (own := RX6) (by decide) rfl (Nat.le_of_ble_eq_true rfl) rfl (fun p e s m below meth c ls hx hb hr hml hts hown hlk hl hK hP hS => ?_)
  have hl : lv_has ls 2 [(0, .ref (a 114)), (1, .int place)] := hl
  refine lv_iload_n hx hb dX6_operation_0 rfl (lv_at hl 1 rfl) ?_
  refine z_cSi (As := [.int place]) (rest := []) ⟨hx, hb, hml, hown, hts⟩ (ct_X6_isPlace l D a ca hJ Z place) (va_cwS 1 hts gX6_operation_X6_isPlace rfl rfl rfl (by decide +kernel) ⟨Nat.le_of_ble_eq_true rfl, Nat.le_of_ble_eq_true rfl⟩) hK hP hS rfl hl.1 rfl (Nat.le_of_ble_eq_true rfl) dX6_operation_1 ⟨Nat.zero_le _, Nat.zero_le _⟩ (fun H locs hP hS => ?_)
  refine lv_if_eq (tgt := 22) hx hb dX6_operation_4 (by decide) (fun c4_1 => ?_) (fun c4_1 => ?_)
  · refine lv_ldc (v := (-100001)) hx hb hown (hts (.constant RX6 37 (-100001)) (by decide +kernel)) dX6_operation_22 ?_
    exact z_reti hx hb hr hlk rfl hP hS dX6_operation_24 (by simp only [g_X6_operation, if_pos c4_1]) rfl
  · have bt := z_isPlace c4_1
    refine lv_aload_n hx hb dX6_operation_7 rfl (lv_at hl 0 rfl) ?_
    have hP := zfoc_in (Z := Z) (k := 6) (M := Z 6) rfl hP
    refine zgb0' hx hb hts hiX6 hown hK hP  (hts (.fieldLink RX6 10 "BarrelProcessor" "machine" "LBarrelProcessor$Machine;") (by decide +kernel)) dX6_operation_8 ?_
    have hP := zfoc_out (Z := Z) (k := 6) rfl hP
    have hP := zfoc_in (Z := Z) (k := 0) (M := Z 0) rfl hP
    refine znm1 hx hb hts hiX3 hown hK hP (by omega) (zn_RX6_53 hK) dX6_operation_11 ?_
    refine znp0 hx hb hts hiX2 hown hK hP (by omega) (zn_RX6_146 hK) dX6_operation_14 ?_
    refine lv_iload_n hx hb dX6_operation_17 rfl (lv_at hl 1 rfl) ?_
    refine z_val (z := nI (zc place)) bt.2 ?_
    refine z_iald hx hb hK hP (zG_op (by omega)) (j := zc place) (by have h9 := bt.1; omega) (by decide) dX6_operation_18 ?_
    refine lv_goto (tgt := 24) hx hb dX6_operation_19 (by decide) ?_
    exact z_reti hx hb hr hlk rfl (zfoc_out (Z := Z) (k := 0) rfl hP) hS dX6_operation_24 (by simp only [g_X6_operation, if_neg c4_1]) rfl

def g_X6_slot (Z : Nat → zM) (slot : Int32) : Int32 := if (g_X6_isSlot slot) = 0 then (-100001) else (Z 0) 14 (zc slot)
set_option maxHeartbeats 4000000 in
set_option maxRecDepth 100000 in
theorem ct_X6_slot (l : Launch) (D : va_G) (a : Nat → Nat) (ca : Nat → ClassId) (hJ : zJ a) (Z : Nat → zM) (slot : Int32) : zCi l yX6_slot wsX6_slot ({ frames := 2, cells := 0, slots := 0, locals := 42 } : Room) D a ca [.ref (a 114), .int slot] (Z) (g_X6_slot Z slot) (Z) := by
  have hiX3 : ∀ w ∈ wsX30, w ∈ wsX6_slot := by decide +kernel
  have hiX6 : ∀ w ∈ wsX60, w ∈ wsX6_slot := by decide +kernel
  refine z_ofi (cc := cX6_slot) (maxL := 2) (own := RX6) (by decide) rfl (Nat.le_of_ble_eq_true rfl) rfl (fun p e s m below meth c ls hx hb hr hml hts hown hlk hl hK hP hS => ?_)
  have hl : lv_has ls 2 [(0, .ref (a 114)), (1, .int slot)] := hl
  refine lv_iload_n hx hb dX6_slot_0 rfl (lv_at hl 1 rfl) ?_
  refine z_cSi (As := [.int slot]) (rest := []) ⟨hx, hb, hml, hown, hts⟩ (ct_X6_isSlot l D a ca hJ Z slot) (va_cwS 1 hts gX6_slot_X6_isSlot rfl rfl rfl (by decide +kernel) ⟨Nat.le_of_ble_eq_true rfl, Nat.le_of_ble_eq_true rfl⟩) hK hP hS rfl hl.1 rfl (Nat.le_of_ble_eq_true rfl) dX6_slot_1 ⟨Nat.zero_le _, Nat.zero_le _⟩ (fun H locs hP hS => ?_)
  refine lv_if_eq (tgt := 19) hx hb dX6_slot_4 (by decide) (fun c4_1 => ?_) (fun c4_1 => ?_)
  · refine lv_ldc (v := (-100001)) hx hb hown (hts (.constant RX6 37 (-100001)) (by decide +kernel)) dX6_slot_19 ?_
    exact z_reti hx hb hr hlk rfl hP hS dX6_slot_21 (by simp only [g_X6_slot, if_pos c4_1]) rfl
  · have bt := z_isSlot c4_1
    refine lv_aload_n hx hb dX6_slot_7 rfl (lv_at hl 0 rfl) ?_
    have hP := zfoc_in (Z := Z) (k := 6) (M := Z 6) rfl hP
    refine zgb0' hx hb hts hiX6 hown hK hP  (hts (.fieldLink RX6 10 "BarrelProcessor" "machine" "LBarrelProcessor$Machine;") (by decide +kernel)) dX6_slot_8 ?_
    have hP := zfoc_out (Z := Z) (k := 6) rfl hP
    have hP := zfoc_in (Z := Z) (k := 0) (M := Z 0) rfl hP
    refine znm4 hx hb hts hiX3 hown hK hP (by omega) (zn_RX6_109 hK) dX6_slot_11 ?_
    refine lv_iload_n hx hb dX6_slot_14 rfl (lv_at hl 1 rfl) ?_
    refine z_val (z := nI (zc slot)) bt.2 ?_
    refine z_iald hx hb hK hP (zG_sl (by omega)) (j := zc slot) (by have h9 := bt.1; omega) (by decide) dX6_slot_15 ?_
    refine lv_goto (tgt := 21) hx hb dX6_slot_16 (by decide) ?_
    exact z_reti hx hb hr hlk rfl (zfoc_out (Z := Z) (k := 0) rfl hP) hS dX6_slot_21 (by simp only [g_X6_slot, if_neg c4_1]) rfl

def g_X6_setting (Z : Nat → zM) (setting : Int32) : Int32 := if (g_X6_isSetting setting) = 0 then (-100001) else (Z 0) 15 (zc setting)
set_option maxHeartbeats 4000000 in
set_option maxRecDepth 100000 in
theorem ct_X6_setting (l : Launch) (D : va_G) (a : Nat → Nat) (ca : Nat → ClassId) (hJ : zJ a) (Z : Nat → zM) (setting : Int32) : zCi l yX6_setting wsX6_setting ({ frames := 2, cells := 0, slots := 0, locals := 42 } : Room) D a ca [.ref (a 114), .int setting] (Z) (g_X6_setting Z setting) (Z) := by
  have hiX3 : ∀ w ∈ wsX30, w ∈ wsX6_setting := by decide +kernel
  have hiX6 : ∀ w ∈ wsX60, w ∈ wsX6_setting := by decide +kernel
  refine z_ofi (cc := cX6_setting) (maxL := 2) (own := RX6) (by decide) rfl (Nat.le_of_ble_eq_true rfl) rfl (fun p e s m below meth c ls hx hb hr hml hts hown hlk hl hK hP hS => ?_)
  have hl : lv_has ls 2 [(0, .ref (a 114)), (1, .int setting)] := hl
  refine lv_iload_n hx hb dX6_setting_0 rfl (lv_at hl 1 rfl) ?_
  refine z_cSi (As := [.int setting]) (rest := []) ⟨hx, hb, hml, hown, hts⟩ (ct_X6_isSetting l D a ca hJ Z setting) (va_cwS 1 hts gX6_setting_X6_isSetting rfl rfl rfl (by decide +kernel) ⟨Nat.le_of_ble_eq_true rfl, Nat.le_of_ble_eq_true rfl⟩) hK hP hS rfl hl.1 rfl (Nat.le_of_ble_eq_true rfl) dX6_setting_1 ⟨Nat.zero_le _, Nat.zero_le _⟩ (fun H locs hP hS => ?_)
  refine lv_if_eq (tgt := 19) hx hb dX6_setting_4 (by decide) (fun c4_1 => ?_) (fun c4_1 => ?_)
  · refine lv_ldc (v := (-100001)) hx hb hown (hts (.constant RX6 37 (-100001)) (by decide +kernel)) dX6_setting_19 ?_
    exact z_reti hx hb hr hlk rfl hP hS dX6_setting_21 (by simp only [g_X6_setting, if_pos c4_1]) rfl
  · have bt := z_isSetting c4_1
    refine lv_aload_n hx hb dX6_setting_7 rfl (lv_at hl 0 rfl) ?_
    have hP := zfoc_in (Z := Z) (k := 6) (M := Z 6) rfl hP
    refine zgb0' hx hb hts hiX6 hown hK hP  (hts (.fieldLink RX6 10 "BarrelProcessor" "machine" "LBarrelProcessor$Machine;") (by decide +kernel)) dX6_setting_8 ?_
    have hP := zfoc_out (Z := Z) (k := 6) rfl hP
    have hP := zfoc_in (Z := Z) (k := 0) (M := Z 0) rfl hP
    refine znm5 hx hb hts hiX3 hown hK hP (by omega) (zn_RX6_119 hK) dX6_setting_11 ?_
    refine lv_iload_n hx hb dX6_setting_14 rfl (lv_at hl 1 rfl) ?_
    refine z_val (z := nI (zc setting)) bt.2 ?_
    refine z_iald hx hb hK hP (zG_se (by omega)) (j := zc setting) (by have h9 := bt.1; omega) (by decide) dX6_setting_15 ?_
    refine lv_goto (tgt := 21) hx hb dX6_setting_16 (by decide) ?_
    exact z_reti hx hb hr hlk rfl (zfoc_out (Z := Z) (k := 0) rfl hP) hS dX6_setting_21 (by simp only [g_X6_setting, if_neg c4_1]) rfl

def g_X6_breakpoint (Z : Nat → zM) (place : Int32) : Int32 := if (g_X6_isPlace place) = 0 then (-100001) else (Z 0) 12 (zc place)
set_option maxHeartbeats 4000000 in
set_option maxRecDepth 100000 in
theorem ct_X6_breakpoint (l : Launch) (D : va_G) (a : Nat → Nat) (ca : Nat → ClassId) (hJ : zJ a) (Z : Nat → zM) (place : Int32) : zCi l yX6_breakpoint wsX6_breakpoint ({ frames := 2, cells := 0, slots := 0, locals := 42 } : Room) D a ca [.ref (a 114), .int place] (Z) (g_X6_breakpoint Z place) (Z) := by
  have hiX3 : ∀ w ∈ wsX30, w ∈ wsX6_breakpoint := by decide +kernel
  have hiX6 : ∀ w ∈ wsX60, w ∈ wsX6_breakpoint := by decide +kernel
  refine z_ofi (cc := cX6_breakpoint) (maxL := 2) (own := RX6) (by decide) rfl (Nat.le_of_ble_eq_true rfl) rfl (fun p e s m below meth c ls hx hb hr hml hts hown hlk hl hK hP hS => ?_)
  have hl : lv_has ls 2 [(0, .ref (a 114)), (1, .int place)] := hl
  refine lv_iload_n hx hb dX6_breakpoint_0 rfl (lv_at hl 1 rfl) ?_
  refine z_cSi (As := [.int place]) (rest := []) ⟨hx, hb, hml, hown, hts⟩ (ct_X6_isPlace l D a ca hJ Z place) (va_cwS 1 hts gX6_breakpoint_X6_isPlace rfl rfl rfl (by decide +kernel) ⟨Nat.le_of_ble_eq_true rfl, Nat.le_of_ble_eq_true rfl⟩) hK hP hS rfl hl.1 rfl (Nat.le_of_ble_eq_true rfl) dX6_breakpoint_1 ⟨Nat.zero_le _, Nat.zero_le _⟩ (fun H locs hP hS => ?_)
  refine lv_if_eq (tgt := 19) hx hb dX6_breakpoint_4 (by decide) (fun c4_1 => ?_) (fun c4_1 => ?_)
  · refine lv_ldc (v := (-100001)) hx hb hown (hts (.constant RX6 37 (-100001)) (by decide +kernel)) dX6_breakpoint_19 ?_
    exact z_reti hx hb hr hlk rfl hP hS dX6_breakpoint_21 (by simp only [g_X6_breakpoint, if_pos c4_1]) rfl
  · have bt := z_isPlace c4_1
    refine lv_aload_n hx hb dX6_breakpoint_7 rfl (lv_at hl 0 rfl) ?_
    have hP := zfoc_in (Z := Z) (k := 6) (M := Z 6) rfl hP
    refine zgb0' hx hb hts hiX6 hown hK hP  (hts (.fieldLink RX6 10 "BarrelProcessor" "machine" "LBarrelProcessor$Machine;") (by decide +kernel)) dX6_breakpoint_8 ?_
    have hP := zfoc_out (Z := Z) (k := 6) rfl hP
    have hP := zfoc_in (Z := Z) (k := 0) (M := Z 0) rfl hP
    refine znm2 hx hb hts hiX3 hown hK hP (by omega) (zn_RX6_122 hK) dX6_breakpoint_11 ?_
    refine lv_iload_n hx hb dX6_breakpoint_14 rfl (lv_at hl 1 rfl) ?_
    refine z_val (z := nI (zc place)) bt.2 ?_
    refine z_iald hx hb hK hP (zG_bk (by omega)) (j := zc place) (by have h9 := bt.1; omega) (by decide) dX6_breakpoint_15 ?_
    refine lv_goto (tgt := 21) hx hb dX6_breakpoint_16 (by decide) ?_
    exact z_reti hx hb hr hlk rfl (zfoc_out (Z := Z) (k := 0) rfl hP) hS dX6_breakpoint_21 (by simp only [g_X6_breakpoint, if_neg c4_1]) rfl

def g_X6_register (Z : Nat → zM) (thread : Int32) (register : Int32) : Int32 := if (g_X6_isThread thread) = 0 then (-100001) else if (g_X6_isRegister register) = 0 then (-100001) else (Z 0) ((zc thread) + 20) (zc register)
set_option maxHeartbeats 4000000 in
set_option maxRecDepth 100000 in
theorem ct_X6_register (l : Launch) (D : va_G) (a : Nat → Nat) (ca : Nat → ClassId) (hJ : zJ a) (Z : Nat → zM) (thread : Int32) (register : Int32) : zCi l yX6_register wsX6_register ({ frames := 2, cells := 0, slots := 0, locals := 42 } : Room) D a ca [.ref (a 114), .int thread, .int register] (Z) (g_X6_register Z thread register) (Z) := by
  have hiX0 : ∀ w ∈ wsX00, w ∈ wsX6_register := by decide +kernel
  have hiX3 : ∀ w ∈ wsX30, w ∈ wsX6_register := by decide +kernel
  have hiX6 : ∀ w ∈ wsX60, w ∈ wsX6_register := by decide +kernel
  refine z_ofi (cc := cX6_register) (maxL := 3) (own := RX6) (by decide) rfl (Nat.le_of_ble_eq_true rfl) rfl (fun p e s m below meth c ls hx hb hr hml hts hown hlk hl hK hP hS => ?_)
  have hl : lv_has ls 3 [(0, .ref (a 114)), (1, .int thread), (2, .int register)] := hl
  refine lv_iload_n hx hb dX6_register_0 rfl (lv_at hl 1 rfl) ?_
  refine z_cSi (As := [.int thread]) (rest := []) ⟨hx, hb, hml, hown, hts⟩ (ct_X6_isThread l D a ca hJ Z thread) (va_cwS 1 hts gX6_register_X6_isThread rfl rfl rfl (by decide +kernel) ⟨Nat.le_of_ble_eq_true rfl, Nat.le_of_ble_eq_true rfl⟩) hK hP hS rfl hl.1 rfl (Nat.le_of_ble_eq_true rfl) dX6_register_1 ⟨Nat.zero_le _, Nat.zero_le _⟩ (fun H locs hP hS => ?_)
  refine lv_if_eq (tgt := 14) hx hb dX6_register_4 (by decide) (fun c4_1 => ?_) (fun c4_1 => ?_)
  · refine lv_ldc (v := (-100001)) hx hb hown (hts (.constant RX6 37 (-100001)) (by decide +kernel)) dX6_register_14 ?_
    exact z_reti hx hb hr hlk rfl hP hS dX6_register_16 (by simp only [g_X6_register, if_pos c4_1]) rfl
  · have bt := z_isThread c4_1
    refine lv_iload_n hx hb dX6_register_7 rfl (lv_at hl 2 rfl) ?_
    refine z_cSi (As := [.int register]) (rest := []) ⟨hx, hb, hml, hown, hts⟩ (ct_X6_isRegister l D a ca hJ Z register) (va_cwS 1 hts gX6_register_X6_isRegister rfl rfl rfl (by decide +kernel) ⟨Nat.le_of_ble_eq_true rfl, Nat.le_of_ble_eq_true rfl⟩) hK hP hS rfl hl.1 rfl (Nat.le_of_ble_eq_true rfl) dX6_register_8 ⟨Nat.zero_le _, Nat.zero_le _⟩ (fun H locs hP hS => ?_)
    refine lv_if_ne (tgt := 17) hx hb dX6_register_11 (by decide) (fun c11_2 => ?_) (fun c11_2 => ?_)
    · have br := z_isRegister c11_2
      refine lv_aload_n hx hb dX6_register_17 rfl (lv_at hl 0 rfl) ?_
      have hP := zfoc_in (Z := Z) (k := 6) (M := Z 6) rfl hP
      refine zgb0' hx hb hts hiX6 hown hK hP  (hts (.fieldLink RX6 10 "BarrelProcessor" "machine" "LBarrelProcessor$Machine;") (by decide +kernel)) dX6_register_18 ?_
      have hP := zfoc_out (Z := Z) (k := 6) rfl hP
      have hP := zfoc_in (Z := Z) (k := 0) (M := Z 0) rfl hP
      refine znm0 hx hb hts hiX3 hown hK hP (by omega) (zn_RX6_69 hK) dX6_register_21 ?_
      refine lv_iload_n hx hb dX6_register_24 rfl (lv_at hl 1 rfl) ?_
      refine z_val (z := nI (zc thread)) bt.2 ?_
      refine z_aat hx hb hK hP (by omega) bt.1 dX6_register_25 ?_
      refine znt0 hx hb hts hiX0 hown hK hP (by omega) bt.1 (zn_RX6_92 hK) dX6_register_26 ?_
      refine lv_iload_n hx hb dX6_register_29 rfl (lv_at hl 2 rfl) ?_
      refine z_val (z := nI (zc register)) br.2 ?_
      refine z_iald hx hb hK hP (zG_rg (by omega) bt.1) (j := zc register) br.1 (by decide) dX6_register_30 ?_
      exact z_reti hx hb hr hlk rfl (zfoc_out (Z := Z) (k := 0) rfl hP) hS dX6_register_31 (by simp only [g_X6_register, if_neg c4_1, if_neg c11_2]) rfl
    · refine lv_ldc (v := (-100001)) hx hb hown (hts (.constant RX6 37 (-100001)) (by decide +kernel)) dX6_register_14 ?_
      exact z_reti hx hb hr hlk rfl hP hS dX6_register_16 (by simp only [g_X6_register, if_neg c4_1, if_pos c11_2]) rfl

def g_X6_operand (Z : Nat → zM) (place : Int32) (operand : Int32) : Int32 := if (g_X6_isPlace place) = 0 then (-100001) else if (g_X6_isWithin operand (nI 0) (nI 1)) = 0 then (-100002) else (Z 0) 11 ((zc place) * 2 + (zc operand))
set_option maxHeartbeats 4000000 in
set_option maxRecDepth 100000 in
theorem ct_X6_operand (l : Launch) (D : va_G) (a : Nat → Nat) (ca : Nat → ClassId) (hJ : zJ a) (Z : Nat → zM) (place : Int32) (operand : Int32) : zCi l yX6_operand wsX6_operand ({ frames := 2, cells := 0, slots := 0, locals := 42 } : Room) D a ca [.ref (a 114), .int place, .int operand] (Z) (g_X6_operand Z place operand) (Z) := by
  have hiX2 : ∀ w ∈ wsX20, w ∈ wsX6_operand := by decide +kernel
  have hiX3 : ∀ w ∈ wsX30, w ∈ wsX6_operand := by decide +kernel
  have hiX6 : ∀ w ∈ wsX60, w ∈ wsX6_operand := by decide +kernel
  refine z_ofi (cc := cX6_operand) (maxL := 3) (own := RX6) (by decide) rfl (Nat.le_of_ble_eq_true rfl) rfl (fun p e s m below meth c ls hx hb hr hml hts hown hlk hl hK hP hS => ?_)
  have hl : lv_has ls 3 [(0, .ref (a 114)), (1, .int place), (2, .int operand)] := hl
  refine lv_iload_n hx hb dX6_operand_0 rfl (lv_at hl 1 rfl) ?_
  refine z_cSi (As := [.int place]) (rest := []) ⟨hx, hb, hml, hown, hts⟩ (ct_X6_isPlace l D a ca hJ Z place) (va_cwS 1 hts gX6_operand_X6_isPlace rfl rfl rfl (by decide +kernel) ⟨Nat.le_of_ble_eq_true rfl, Nat.le_of_ble_eq_true rfl⟩) hK hP hS rfl hl.1 rfl (Nat.le_of_ble_eq_true rfl) dX6_operand_1 ⟨Nat.zero_le _, Nat.zero_le _⟩ (fun H locs hP hS => ?_)
  refine lv_if_ne (tgt := 10) hx hb dX6_operand_4 (by decide) (fun c4_1 => ?_) (fun c4_1 => ?_)
  · have bp := z_isPlace c4_1
    refine lv_iload_n hx hb dX6_operand_10 rfl (lv_at hl 2 rfl) ?_
    refine lv_iconst (v := nI 0) hx hb dX6_operand_11 (by decide) ?_
    refine lv_iconst (v := nI 1) hx hb dX6_operand_12 (by decide) ?_
    refine z_cSi (As := [.int operand, .int (nI 0), .int (nI 1)]) (rest := []) ⟨hx, hb, hml, hown, hts⟩ (ct_X6_isWithin l D a ca hJ Z operand (nI 0) (nI 1)) (va_cwS 3 hts gX6_operand_X6_isWithin rfl rfl rfl (by decide +kernel) ⟨Nat.le_of_ble_eq_true rfl, Nat.le_of_ble_eq_true rfl⟩) hK hP hS rfl hl.1 rfl (Nat.le_of_ble_eq_true rfl) dX6_operand_13 ⟨Nat.zero_le _, Nat.zero_le _⟩ (fun H locs hP hS => ?_)
    refine lv_if_ne (tgt := 22) hx hb dX6_operand_16 (by decide) (fun c16_2 => ?_) (fun c16_2 => ?_)
    · have bo : zIn operand 2 := z_within (n := 1) (by decide) c16_2
      refine lv_aload_n hx hb dX6_operand_22 rfl (lv_at hl 0 rfl) ?_
      have hP := zfoc_in (Z := Z) (k := 6) (M := Z 6) rfl hP
      refine zgb0' hx hb hts hiX6 hown hK hP  (hts (.fieldLink RX6 10 "BarrelProcessor" "machine" "LBarrelProcessor$Machine;") (by decide +kernel)) dX6_operand_23 ?_
      have hP := zfoc_out (Z := Z) (k := 6) rfl hP
      have hP := zfoc_in (Z := Z) (k := 0) (M := Z 0) rfl hP
      refine znm1 hx hb hts hiX3 hown hK hP (by omega) (zn_RX6_53 hK) dX6_operand_26 ?_
      refine znp1 hx hb hts hiX2 hown hK hP (by omega) (zn_RX6_149 hK) dX6_operand_29 ?_
      refine lv_iload_n hx hb dX6_operand_32 rfl (lv_at hl 1 rfl) ?_
      refine z_val (z := nI (zc place)) bp.2 ?_
      refine lv_iconst (v := nI 2) hx hb dX6_operand_33 (by decide) ?_
      refine lv_imul hx hb dX6_operand_34 ?_
      refine z_val (z := nI ((zc place) * 2)) (pk_mul _ _) ?_
      refine lv_iload_n hx hb dX6_operand_35 rfl (lv_at hl 2 rfl) ?_
      refine z_val (z := nI (zc operand)) bo.2 ?_
      refine lv_iadd hx hb dX6_operand_36 ?_
      refine z_val (z := nI ((zc place) * 2 + (zc operand))) (nI_add _ _) ?_
      refine z_iald hx hb hK hP (zG_od (by omega)) (j := (zc place) * 2 + (zc operand)) (by have h1 := bp.1; have h2 := bo.1; omega) (by decide) dX6_operand_37 ?_
      exact z_reti hx hb hr hlk rfl (zfoc_out (Z := Z) (k := 0) rfl hP) hS dX6_operand_38 (by simp only [g_X6_operand, if_neg c4_1, if_neg c16_2]) rfl
    · refine lv_ldc (v := (-100002)) hx hb hown (hts (.constant RX6 91 (-100002)) (by decide +kernel)) dX6_operand_19 ?_
      exact z_reti hx hb hr hlk rfl hP hS dX6_operand_21 (by simp only [g_X6_operand, if_neg c4_1, if_pos c16_2]) rfl
  · refine lv_ldc (v := (-100001)) hx hb hown (hts (.constant RX6 37 (-100001)) (by decide +kernel)) dX6_operand_7 ?_
    exact z_reti hx hb hr hlk rfl hP hS dX6_operand_9 (by simp only [g_X6_operand, if_pos c4_1]) rfl

def g_X6_cycle (Z : Nat → zM) : Int32 := (Z 0) 16 0
set_option maxHeartbeats 4000000 in
set_option maxRecDepth 100000 in
theorem ct_X6_cycle (l : Launch) (D : va_G) (a : Nat → Nat) (ca : Nat → ClassId) (hJ : zJ a) (Z : Nat → zM) : zCi l yX6_cycle wsX6_cycle ({ frames := 0, cells := 0, slots := 0, locals := 0 } : Room) D a ca [.ref (a 114)] (Z) (g_X6_cycle Z) (Z) := by
  have hiX3 : ∀ w ∈ wsX30, w ∈ wsX6_cycle := by decide +kernel
  have hiX6 : ∀ w ∈ wsX60, w ∈ wsX6_cycle := by decide +kernel
  refine z_ofi (cc := cX6_cycle) (maxL := 1) (own := RX6) (by decide) rfl (Nat.le_of_ble_eq_true rfl) rfl (fun p e s m below meth c ls hx hb hr hml hts hown hlk hl hK hP hS => ?_)
  have hl : lv_has ls 1 [(0, .ref (a 114))] := hl
  refine lv_aload_n hx hb dX6_cycle_0 rfl (lv_at hl 0 rfl) ?_
  have hP := zfoc_in (Z := Z) (k := 6) (M := Z 6) rfl hP
  refine zgb0' hx hb hts hiX6 hown hK hP  (hts (.fieldLink RX6 10 "BarrelProcessor" "machine" "LBarrelProcessor$Machine;") (by decide +kernel)) dX6_cycle_1 ?_
  have hP := zfoc_out (Z := Z) (k := 6) rfl hP
  have hP := zfoc_in (Z := Z) (k := 0) (M := Z 0) rfl hP
  refine znm7 hx hb hts hiX3 hown hK hP (by omega) (zn_RX6_152 hK) dX6_cycle_4 ?_
  exact z_reti hx hb hr hlk rfl (zfoc_out (Z := Z) (k := 0) rfl hP) hS dX6_cycle_7 (by first | rfl | simp only [g_X6_cycle]) rfl

def g_X6_idle (Z : Nat → zM) : Int32 := (Z 0) 17 0
set_option maxHeartbeats 4000000 in
set_option maxRecDepth 100000 in
theorem ct_X6_idle (l : Launch) (D : va_G) (a : Nat → Nat) (ca : Nat → ClassId) (hJ : zJ a) (Z : Nat → zM) : zCi l yX6_idle wsX6_idle ({ frames := 0, cells := 0, slots := 0, locals := 0 } : Room) D a ca [.ref (a 114)] (Z) (g_X6_idle Z) (Z) := by
  have hiX3 : ∀ w ∈ wsX30, w ∈ wsX6_idle := by decide +kernel
  have hiX6 : ∀ w ∈ wsX60, w ∈ wsX6_idle := by decide +kernel
  refine z_ofi (cc := cX6_idle) (maxL := 1) (own := RX6) (by decide) rfl (Nat.le_of_ble_eq_true rfl) rfl (fun p e s m below meth c ls hx hb hr hml hts hown hlk hl hK hP hS => ?_)
  have hl : lv_has ls 1 [(0, .ref (a 114))] := hl
  refine lv_aload_n hx hb dX6_idle_0 rfl (lv_at hl 0 rfl) ?_
  have hP := zfoc_in (Z := Z) (k := 6) (M := Z 6) rfl hP
  refine zgb0' hx hb hts hiX6 hown hK hP  (hts (.fieldLink RX6 10 "BarrelProcessor" "machine" "LBarrelProcessor$Machine;") (by decide +kernel)) dX6_idle_1 ?_
  have hP := zfoc_out (Z := Z) (k := 6) rfl hP
  have hP := zfoc_in (Z := Z) (k := 0) (M := Z 0) rfl hP
  refine znm8 hx hb hts hiX3 hown hK hP (by omega) (zn_RX6_155 hK) dX6_idle_4 ?_
  exact z_reti hx hb hr hlk rfl (zfoc_out (Z := Z) (k := 0) rfl hP) hS dX6_idle_7 (by first | rfl | simp only [g_X6_idle]) rfl

def g_X6_trace (Z : Nat → zM) (ago : Int32) (part : Int32) : Int32 := if ago < 0 then (-100002) else if (g_X6_isWithin part (nI 0) (nI 2)) = 0 then (-100002) else (g_X5_lookUp (zc ago) (zc part) (Z 0))
set_option maxHeartbeats 4000000 in
set_option maxRecDepth 100000 in
theorem ct_X6_trace (l : Launch) (D : va_G) (a : Nat → Nat) (ca : Nat → ClassId) (hJ : zJ a) (Z : Nat → zM) (ago : Int32) (part : Int32) (hI : zOK (Z 0)) : zCi l yX6_trace wsX6_trace ({ frames := 1, cells := 0, slots := 0, locals := 23 } : Room) D a ca [.ref (a 114), .int ago, .int part] (Z) (g_X6_trace Z ago part) (Z) := by
  have hiX3 : ∀ w ∈ wsX30, w ∈ wsX6_trace := by decide +kernel
  have hiX6 : ∀ w ∈ wsX60, w ∈ wsX6_trace := by decide +kernel
  refine z_ofi (cc := cX6_trace) (maxL := 3) (own := RX6) (by decide) rfl (Nat.le_of_ble_eq_true rfl) rfl (fun p e s m below meth c ls hx hb hr hml hts hown hlk hl hK hP hS => ?_)
  have hl : lv_has ls 3 [(0, .ref (a 114)), (1, .int ago), (2, .int part)] := hl
  refine lv_iload_n hx hb dX6_trace_0 rfl (lv_at hl 1 rfl) ?_
  refine lv_if_lt (tgt := 13) hx hb dX6_trace_1 (by decide) (fun c1_1 => ?_) (fun c1_1 => ?_)
  · refine lv_ldc (v := (-100002)) hx hb hown (hts (.constant RX6 91 (-100002)) (by decide +kernel)) dX6_trace_13 ?_
    exact z_reti hx hb hr hlk rfl hP hS dX6_trace_15 (by simp only [g_X6_trace, if_pos c1_1]) rfl
  · have ba := z_nn c1_1
    refine lv_iload_n hx hb dX6_trace_4 rfl (lv_at hl 2 rfl) ?_
    refine lv_iconst (v := nI 0) hx hb dX6_trace_5 (by decide) ?_
    refine lv_iconst (v := nI 2) hx hb dX6_trace_6 (by decide) ?_
    refine z_cSi (As := [.int part, .int (nI 0), .int (nI 2)]) (rest := []) ⟨hx, hb, hml, hown, hts⟩ (ct_X6_isWithin l D a ca hJ Z part (nI 0) (nI 2)) (va_cwS 3 hts gX6_trace_X6_isWithin rfl rfl rfl (by decide +kernel) ⟨Nat.le_of_ble_eq_true rfl, Nat.le_of_ble_eq_true rfl⟩) hK hP hS rfl hl.1 rfl (Nat.le_of_ble_eq_true rfl) dX6_trace_7 ⟨Nat.zero_le _, Nat.zero_le _⟩ (fun H locs hP hS => ?_)
    refine lv_if_ne (tgt := 16) hx hb dX6_trace_10 (by decide) (fun c10_2 => ?_) (fun c10_2 => ?_)
    · have bq : zIn part 3 := z_within (n := 2) (by decide) c10_2
      refine lv_aload_n hx hb dX6_trace_16 rfl (lv_at hl 0 rfl) ?_
      have hP := zfoc_in (Z := Z) (k := 6) (M := Z 6) rfl hP
      refine zgb0' hx hb hts hiX6 hown hK hP  (hts (.fieldLink RX6 10 "BarrelProcessor" "machine" "LBarrelProcessor$Machine;") (by decide +kernel)) dX6_trace_17 ?_
      have hP := zfoc_out (Z := Z) (k := 6) rfl hP
      have hP := zfoc_in (Z := Z) (k := 0) (M := Z 0) rfl hP
      refine znm6 hx hb hts hiX3 hown hK hP (by omega) (zn_RX6_169 hK) dX6_trace_20 ?_
      refine lv_iload_n hx hb dX6_trace_23 rfl (lv_at hl 1 rfl) ?_
      refine z_val (z := nI (zc ago)) ba.2 ?_
      refine lv_iload_n hx hb dX6_trace_24 rfl (lv_at hl 2 rfl) ?_
      refine z_val (z := nI (zc part)) bq.2 ?_
      refine z_cVi (As := [.int (nI (zc ago)), .int (nI (zc part))]) (rest := []) ⟨hx, hb, hml, hown, hts⟩ (ct_X5_lookUp l D a ca hJ Z 0 (Z 0) (by omega) (zc ago) (zc part) ba.1 bq.1 hI) (cwV 2 hts gX6_trace_X5_lookUp rfl rfl rfl (by decide +kernel) ⟨Nat.le_of_ble_eq_true rfl, Nat.le_of_ble_eq_true rfl⟩) hK hP hS (va_recv (ci := 5) hK.1 hP rfl (zG_c (by omega))) rfl hl.1 rfl (Nat.le_of_ble_eq_true rfl) dX6_trace_25 ⟨Nat.zero_le _, Nat.zero_le _⟩ (fun H locs hP hS => ?_)
      exact z_reti hx hb hr hlk rfl (zfoc_out (Z := Z) (k := 0) rfl hP) hS dX6_trace_28 (by simp only [g_X6_trace, if_neg c1_1, if_neg c10_2]) rfl
    · refine lv_ldc (v := (-100002)) hx hb hown (hts (.constant RX6 91 (-100002)) (by decide +kernel)) dX6_trace_13 ?_
      exact z_reti hx hb hr hlk rfl hP hS dX6_trace_15 (by simp only [g_X6_trace, if_neg c1_1, if_pos c10_2]) rfl

def g_X6_use (Z : Nat → zM) : UInt32 := if ((Z 0) 16 0) = 0 then FP.fconst0 else FP.fdiv (FP.i2f (((Z 0) 16 0) - ((Z 0) 17 0))) (FP.i2f ((Z 0) 16 0))
set_option maxHeartbeats 4000000 in
set_option maxRecDepth 100000 in
theorem ct_X6_use (l : Launch) (D : va_G) (a : Nat → Nat) (ca : Nat → ClassId) (hJ : zJ a) (Z : Nat → zM) : zCf l yX6_use wsX6_use ({ frames := 0, cells := 0, slots := 0, locals := 0 } : Room) D a ca [.ref (a 114)] (Z) (g_X6_use Z) (Z) := by
  have hiX3 : ∀ w ∈ wsX30, w ∈ wsX6_use := by decide +kernel
  have hiX6 : ∀ w ∈ wsX60, w ∈ wsX6_use := by decide +kernel
  refine z_off (cc := cX6_use) (maxL := 1) (own := RX6) (by decide) rfl (Nat.le_of_ble_eq_true rfl) rfl (fun p e s m below meth c ls hx hb hr hml hts hown hlk hl hK hP hS => ?_)
  have hl : lv_has ls 1 [(0, .ref (a 114))] := hl
  refine lv_aload_n hx hb dX6_use_0 rfl (lv_at hl 0 rfl) ?_
  have hP := zfoc_in (Z := Z) (k := 6) (M := Z 6) rfl hP
  refine zgb0' hx hb hts hiX6 hown hK hP  (hts (.fieldLink RX6 10 "BarrelProcessor" "machine" "LBarrelProcessor$Machine;") (by decide +kernel)) dX6_use_1 ?_
  have hP := zfoc_out (Z := Z) (k := 6) rfl hP
  have hP := zfoc_in (Z := Z) (k := 0) (M := Z 0) rfl hP
  refine znm7 hx hb hts hiX3 hown hK hP (by omega) (zn_RX6_152 hK) dX6_use_4 ?_
  refine lv_if_ne (tgt := 12) hx hb dX6_use_7 (by decide) (fun c7_1 => ?_) (fun c7_1 => ?_)
  · have bz := c7_1
    refine lv_aload_n hx hb dX6_use_12 rfl (lv_at hl 0 rfl) ?_
    have hP := zfoc_out (Z := Z) (k := 0) rfl hP
    have hP := zfoc_in (Z := Z) (k := 6) (M := Z 6) rfl hP
    refine zgb0' hx hb hts hiX6 hown hK hP  (hts (.fieldLink RX6 10 "BarrelProcessor" "machine" "LBarrelProcessor$Machine;") (by decide +kernel)) dX6_use_13 ?_
    have hP := zfoc_out (Z := Z) (k := 6) rfl hP
    have hP := zfoc_in (Z := Z) (k := 0) (M := Z 0) rfl hP
    refine znm7 hx hb hts hiX3 hown hK hP (by omega) (zn_RX6_152 hK) dX6_use_16 ?_
    refine lv_aload_n hx hb dX6_use_19 rfl (lv_at hl 0 rfl) ?_
    have hP := zfoc_out (Z := Z) (k := 0) rfl hP
    have hP := zfoc_in (Z := Z) (k := 6) (M := Z 6) rfl hP
    refine zgb0' hx hb hts hiX6 hown hK hP  (hts (.fieldLink RX6 10 "BarrelProcessor" "machine" "LBarrelProcessor$Machine;") (by decide +kernel)) dX6_use_20 ?_
    have hP := zfoc_out (Z := Z) (k := 6) rfl hP
    have hP := zfoc_in (Z := Z) (k := 0) (M := Z 0) rfl hP
    refine znm8 hx hb hts hiX3 hown hK hP (by omega) (zn_RX6_155 hK) dX6_use_23 ?_
    refine lv_isub hx hb dX6_use_26 ?_
    refine lv_i2f hx hb dX6_use_27 ?_
    refine lv_aload_n hx hb dX6_use_28 rfl (lv_at hl 0 rfl) ?_
    have hP := zfoc_out (Z := Z) (k := 0) rfl hP
    have hP := zfoc_in (Z := Z) (k := 6) (M := Z 6) rfl hP
    refine zgb0' hx hb hts hiX6 hown hK hP  (hts (.fieldLink RX6 10 "BarrelProcessor" "machine" "LBarrelProcessor$Machine;") (by decide +kernel)) dX6_use_29 ?_
    have hP := zfoc_out (Z := Z) (k := 6) rfl hP
    have hP := zfoc_in (Z := Z) (k := 0) (M := Z 0) rfl hP
    refine znm7 hx hb hts hiX3 hown hK hP (by omega) (zn_RX6_152 hK) dX6_use_32 ?_
    refine lv_i2f hx hb dX6_use_35 ?_
    refine lv_fdiv hx hb dX6_use_36 (us_nn bz) ?_
    exact z_retf hx hb hr hlk (zfoc_out (Z := Z) (k := 0) rfl hP) hS dX6_use_37 (by simp only [g_X6_use, if_neg c7_1]) rfl
  · refine lv_fconst0 hx hb dX6_use_10 ?_
    exact z_retf hx hb hr hlk (zfoc_out (Z := Z) (k := 0) rfl hP) hS dX6_use_11 (by simp only [g_X6_use, if_pos c7_1]) rfl

def g_X6_nextThread (Z : Nat → zM) : Int32 := (g_X3_findIssuer (Z 0))
set_option maxHeartbeats 4000000 in
set_option maxRecDepth 100000 in
theorem ct_X6_nextThread (l : Launch) (D : va_G) (a : Nat → Nat) (ca : Nat → ClassId) (hJ : zJ a) (Z : Nat → zM) : zCi l yX6_nextThread wsX6_nextThread ({ frames := 3, cells := 0, slots := 0, locals := 69 } : Room) D a ca [.ref (a 114)] (Z) (g_X6_nextThread Z) (Z) := by
  have hiX6 : ∀ w ∈ wsX60, w ∈ wsX6_nextThread := by decide +kernel
  refine z_ofi (cc := cX6_nextThread) (maxL := 1) (own := RX6) (by decide) rfl (Nat.le_of_ble_eq_true rfl) rfl (fun p e s m below meth c ls hx hb hr hml hts hown hlk hl hK hP hS => ?_)
  have hl : lv_has ls 1 [(0, .ref (a 114))] := hl
  refine lv_aload_n hx hb dX6_nextThread_0 rfl (lv_at hl 0 rfl) ?_
  have hP := zfoc_in (Z := Z) (k := 6) (M := Z 6) rfl hP
  refine zgb0' hx hb hts hiX6 hown hK hP  (hts (.fieldLink RX6 10 "BarrelProcessor" "machine" "LBarrelProcessor$Machine;") (by decide +kernel)) dX6_nextThread_1 ?_
  have hP := zfoc_out (Z := Z) (k := 6) rfl hP
  have hP := zfoc_in (Z := Z) (k := 0) (M := Z 0) rfl hP
  refine z_cVi (As := []) (rest := []) ⟨hx, hb, hml, hown, hts⟩ (ct_X3_findIssuer l D a ca hJ Z 0 (Z 0) (by omega)) (cwV 0 hts gX6_nextThread_X3_findIssuer rfl rfl rfl (by decide +kernel) ⟨Nat.le_of_ble_eq_true rfl, Nat.le_of_ble_eq_true rfl⟩) hK hP hS (va_recv (ci := 3) hK.1 hP rfl (zG_m (by omega))) rfl hl.1 rfl (Nat.le_of_ble_eq_true rfl) dX6_nextThread_4 ⟨Nat.zero_le _, Nat.zero_le _⟩ (fun H locs hP hS => ?_)
  exact z_reti hx hb hr hlk rfl (zfoc_out (Z := Z) (k := 0) rfl hP) hS dX6_nextThread_7 (by first | rfl | simp only [g_X6_nextThread]) rfl
