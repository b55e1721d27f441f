/-! a cell of the script -/
def cv_w (xs : Nat → Int32) (L k : Nat) : Int32 := if Int32.ofNat L ≤ nI k then nI 60493 * (nI k + nI 5) + nI 23 else xs (nI k).toNatClampNeg
def cv (xs : Nat → Int32) (L k : Nat) : Nat := (cv_w xs L k).toBitVec.toNat % 2 ^ 31
def cv_c (xs : Nat → Int32) (L k : Nat) : Int32 := nI ((cv_w xs L k).toBitVec.toNat % 2 ^ 31)
theorem cv_lt (xs : Nat → Int32) (L k : Nat) : cv xs L k < 2 ^ 31 := Nat.mod_lt _ (by decide)
set_option maxHeartbeats 4000000 in
set_option maxRecDepth 100000 in
theorem ct_L_cell (l : Launch) (b L : Nat) (xs : Nat → Int32) (k : Nat) (hL : L ≤ 260) (hk : k < 1000) : xTi l yL_cell wsL_cell ({ frames := 0, cells := 0, slots := 0, locals := 0 } : Room) b L xs [.ref b, .int (nI k)] (cv_c xs L k) := by
  refine x_ofi (cc := cL_cell) (maxL := 2) (own := RL) (by decide) rfl (Nat.le_of_ble_eq_true rfl) rfl (fun p e s m below meth c ls hx hb hr hml hts hown hlk hl hX hbl hS => ?_)
  have hl : lv_has ls 2 [(0, .ref b), (1, .int (nI k))] := hl
  have in_of : ¬ Int32.ofNat L ≤ nI k → vp_in (nI k) L := fun q => vp_in_nI (Nat.lt_of_not_le (fun h => q (nI_le h (by omega)))) (by omega)
  refine lv_iload_n hx hb dL_cell_0 rfl (lv_at hl 1 rfl) ?_
  refine lv_aload_n hx hb dL_cell_1 rfl (lv_at hl 0 rfl) ?_
  refine va_slen hx hb hX hbl (fun h => h) hS dL_cell_2 ?_
  refine lv_icmp_ge (tgt := 12) hx hb dL_cell_3 (by decide) (fun c3_1 => ?_) (fun c3_1 => ?_)
  · refine lv_ldc (v := nI 60493) hx hb hown (hts (.constant RL 7 (nI 60493)) (by decide +kernel)) dL_cell_12 ?_
    refine lv_iload_n hx hb dL_cell_14 rfl (lv_at hl 1 rfl) ?_
    refine lv_iconst (v := nI 5) hx hb dL_cell_15 (by decide) ?_
    refine lv_iadd hx hb dL_cell_16 ?_
    refine lv_imul hx hb dL_cell_17 ?_
    refine lv_bipush (v := nI 23) hx hb dL_cell_18 (by decide) ?_
    refine lv_iadd hx hb dL_cell_20 ?_
    refine lv_ldc (v := nI 2147483647) hx hb hown (hts (.constant RL 8 (nI 2147483647)) (by decide +kernel)) dL_cell_21 ?_
    refine lv_iand hx hb dL_cell_23 ?_
    refine z_val (z := nI (_ % 2 ^ 31)) (pk_and _ 31 (by decide)) ?_
    exact x_reti hx hb hr hlk rfl hS dL_cell_24 (by simp only [cv_c, cv_w, if_pos c3_1])
  · refine lv_aload_n hx hb dL_cell_6 rfl (lv_at hl 0 rfl) ?_
    refine lv_iload_n hx hb dL_cell_7 rfl (lv_at hl 1 rfl) ?_
    refine va_sld hx hb hX hbl (fun h => h) hS (in_of c3_1) dL_cell_8 ?_
    refine lv_goto (tgt := 21) hx hb dL_cell_9 (by decide) ?_
    refine lv_ldc (v := nI 2147483647) hx hb hown (hts (.constant RL 8 (nI 2147483647)) (by decide +kernel)) dL_cell_21 ?_
    refine lv_iand hx hb dL_cell_23 ?_
    refine z_val (z := nI (_ % 2 ^ 31)) (pk_and _ 31 (by decide)) ?_
    exact x_reti hx hb hr hlk rfl hS dL_cell_24 (by simp only [cv_c, cv_w, if_neg c3_1])
