theorem nb_fun {D : va_G} {cl : List vw_C} {ws : va_W} {H : Heap} {q n : Nat} {c : ClassId} {f g : Nat → Int32} (i : Nat) (hi : ws[i]? = some (q, .inl (c, n, .inl f))) (e : ∀ j, j < n → f j = g j) (hP : va_P D cl ws H) : va_P D cl (ws.set i (q, .inl (c, n, .inl g))) H := by
  have key : arrV c n (fun j => .int (f j)) = arrV c n (fun j => .int (g j)) := by
    unfold arrV
    congr 2
    funext j
    exact congrArg Value.int (e j.val j.isLt)
  intro k r hr
  by_cases hk : k = i
  · subst hk
    rw [List.getElem?_set_self (List.getElem?_eq_some_iff.mp hi).1] at hr
    cases hr
    have h0 := hP k _ hi
    show H[q]? = some (arrV c n (fun j => .int (g j)))
    rw [← key]
    exact h0
  · rw [List.getElem?_set_ne (Ne.symm hk)] at hr
    exact hP k r hr
set_option maxHeartbeats 4000000 in
set_option maxRecDepth 100000 in
theorem ct_fill_n (l : Launch) (D : va_G) (ca : Nat → ClassId) (q n : Nat) (f : Nat → Int32) (hn : n < 1000000) (v : Int32) : nC l yJ7_fill_53178 wsJ7_fill_53178 ({ frames := 0, cells := 0, slots := 0, locals := 0 } : Room) D ca [.ref q, .int v] q (.inl (ca 0, n, .inl f)) 0 0 (fun (_ : Nat) => [(q, .inl (ca 0, n, .inl (fun _ => v)))]) := by
  refine n_of (cc := cJ7_fill_53178) (maxL := 4) (own := RJ7) (by decide) rfl (Nat.le_of_ble_eq_true rfl) rfl (fun p e s m below meth c ls A hx hb hr hml hts hown hlk hnm hl hK hO hP hD hS hA => ?_)
  have hl : lv_has ls 4 [(0, .ref q), (1, .int v)] := hl
  have lp : ∀ (k i : Nat) (g : Nat → Int32) (H : Heap) (locs : List Loc) (ls : Array Slot) (hn2 : i + k = n) (hg : ∀ j, j < i → g j = v) (hl : lv_has ls 4 [(0, .ref q), (1, .int v), (2, .int (nI i)), (3, .int (nI n))]) (hP : va_P D vwCl [(q, .inl (ca 0, n, .inl g))] H) (hD : va_D A [(q, .inl (ca 0, n, .inl g))]) (hS : va_S A s.heap H locs), W p l e ({ frames := 0, cells := 0, slots := 0, locals := 0 } : Room) s m ([.ref q, .int v] : List Value).toArray below meth c H locs 0 0 (nQ below D A [.ref q, .int v] s (fun (_ : Nat) => [(q, .inl (ca 0, n, .inl (fun _ => v)))]) 0 0) (F0 m 5 ls []) := by
    intro k
    induction k with
    | zero =>
      intro i g H locs ls hn2 hg hl hP hD hS
      refine lv_iload_n hx hb dJ7_fill_53178_5 rfl (lv_at hl 2 rfl) ?_
      refine lv_iload_n hx hb dJ7_fill_53178_6 rfl (lv_at hl 3 rfl) ?_
      refine lv_icmp_ge (tgt := 20) hx hb dJ7_fill_53178_7 (by decide) (fun c9 => ?_) (fun c9 => absurd (nI_le (by omega) (by omega)) c9)
      exact n_ret (0 : Nat) hx hb hr hlk (nb_fun 0 rfl (fun j hj => hg j (by omega)) hP) (va_D.set (p := 0) (a := q) (e0 := .inl (ca 0, n, .inl g)) hD rfl) hS (Nat.le_refl _) (Nat.le_refl _) dJ7_fill_53178_20
    | succ k ih =>
      intro i g H locs ls hn2 hg hl hP hD hS
      refine lv_iload_n hx hb dJ7_fill_53178_5 rfl (lv_at hl 2 rfl) ?_
      refine lv_iload_n hx hb dJ7_fill_53178_6 rfl (lv_at hl 3 rfl) ?_
      refine lv_icmp_ge (tgt := 20) hx hb dJ7_fill_53178_7 (by decide) (fun c9 => absurd c9 (nI_ge (by omega) (by omega))) (fun c9 => ?_)
      refine lv_aload_n hx hb dJ7_fill_53178_10 rfl (lv_at hl 0 rfl) ?_
      refine lv_iload_n hx hb dJ7_fill_53178_11 rfl (lv_at hl 2 rfl) ?_
      refine lv_iload_n hx hb dJ7_fill_53178_12 rfl (lv_at hl 1 rfl) ?_
      refine va_iast hx hb hK.1 hP hD hS 0 0 rfl rfl (vp_in_nI (by omega) (by omega)) dJ7_fill_53178_13 (fun H locs hP hD hS => ?_)
      rw [nI_clamp (by omega)] at hP hD
      refine lv_iinc (v := nI (i + 1)) (lv' := [(2, .int (nI (i + 1))), (0, .ref q), (1, .int v), (3, .int (nI n))]) hx hb dJ7_fill_53178_14 hl (k := 2) rfl (nI_add _ _) (by decide) rfl (fun ls hl => ?_)
      refine lv_goto (tgt := 5) hx hb dJ7_fill_53178_17 (by decide) ?_
      refine ih (i + 1) (upd g i v) _ _ _ (by omega) (fun j hj => ?_) (lv_sub hl [1, 2, 0, 3] rfl) hP hD hS
      unfold upd
      by_cases e : j = i
      · rw [if_pos e]
      · rw [if_neg e]
        exact hg j (by omega)
  refine lv_iconst (v := nI 0) hx hb dJ7_fill_53178_0 (by decide) ?_
  refine lv_istore_n (lv' := [(2, .int (nI 0)), (0, .ref q), (1, .int v)]) hx hb dJ7_fill_53178_1 rfl hl (by decide) rfl (fun ls hl => ?_)
  refine lv_aload_n hx hb dJ7_fill_53178_2 rfl (lv_at hl 1 rfl) ?_
  refine va_alen (v := nI n) hx hb hK.1 hP 0 0 rfl rfl rfl dJ7_fill_53178_3 ?_
  refine lv_istore_n (lv' := [(3, .int (nI n)), (2, .int (nI 0)), (0, .ref q), (1, .int v)]) hx hb dJ7_fill_53178_4 rfl hl (by decide) rfl (fun ls hl => ?_)
  exact lp n 0 f _ _ _ (by omega) (fun j hj => absurd hj (Nat.not_lt_zero _)) (lv_sub hl [2, 3, 1, 0] rfl) hP hD hS

set_option maxHeartbeats 4000000 in
set_option maxRecDepth 100000 in
theorem ct_X0_init (l : Launch) (D : va_G) (ca : Nat → ClassId) (b : Nat) : nC l yX0_init wsX0_init ({ frames := 1, cells := 1, slots := 4, locals := 12 } : Room) D ca [.ref b] b (.inr (0, [.null, .int 0, .int 0, .int 0, .int 0, .int 0, .int 0, .int 0, .int 0, .int 0, .int 0])) 1 4 (fun (u : Nat → Nat) => [(b, .inr (0, [.ref (u 0), .int (nI 0), .int 0, .int 0, .int 0, .int 0, .int (-1), .int 0, .int 0, .int 0, .int 0])), (u 0, .inl (ca 0, 4, .inl (fun _ => 0)))]) := by
  have hiX0 : ∀ w ∈ wsX00, w ∈ wsX0_init := by decide +kernel
  refine n_of (cc := cX0_init) (maxL := 1) (own := RX0) (by decide) rfl (Nat.le_of_ble_eq_true rfl) rfl (fun p e s m below meth c ls A hx hb hr hml hts hown hlk hnm hl hK hO hP hD hS hA => ?_)
  have hin : meth.name = "<init>" := hnm
  have hl : lv_has ls 1 [(0, .ref b)] := hl
  refine lv_aload_n hx hb dX0_init_0 rfl (lv_at hl 0 rfl) ?_
  refine W.objInit hx hb hown (hts (.methodLink RX0 3 objectInit) (by decide +kernel)) (hts (.instanceMethod objectInit) (by decide +kernel)) (hts _ (List.mem_of_getElem? (i := 3) rfl)) rfl (by rw [hml]; exact hl.1) rfl dX0_init_1 (Nat.le_of_ble_eq_true rfl) (Nat.le_of_ble_eq_true rfl) ?_
  refine W.eq (g2 := F0 m 4 ls []) rfl ?_
  refine lv_aload_n hx hb dX0_init_4 rfl (lv_at hl 0 rfl) ?_
  refine lv_iconst (v := nI 4) hx hb dX0_init_5 (by decide) ?_
  refine n_newa (n := 4) hx hb (hts (.arrayClass .int) (by decide +kernel)) hK hP hD hS hA (by decide) (Nat.le_of_ble_eq_true rfl) (Nat.le_of_ble_eq_true rfl) dX0_init_6 (fun q6 H hP hD hS => ?_)
  have hP : va_P D vwCl ([(b, .inr (0, [.null, .int 0, .int 0, .int 0, .int 0, .int 0, .int 0, .int 0, .int 0, .int 0, .int 0])), (q6, .inl (ca 0, 4, .inl (fun _ => 0)))]) H := hP
  have hD : va_D A ([(b, .inr (0, [.null, .int 0, .int 0, .int 0, .int 0, .int 0, .int 0, .int 0, .int 0, .int 0, .int 0])), (q6, .inl (ca 0, 4, .inl (fun _ => 0)))]) := hD
  refine va_putF (D := D) (ci := 0) (v := .ref q6) (ty := tyX0 0) (C := RX0) (T := TX0) (N := 11) hx hb hts hiX0 tyX0 tyX0_ok nmX0 hown hK.1 hP hD hS 0 rfl rfl 0 (by decide) (hts (.fieldLink RX0 9 "BarrelProcessor$HardwareThread" "registers" "[I") (by decide +kernel)) (fun _ h9 => h9) rfl hin rfl (tyX0_ok 0 (by decide)) rfl rfl (Nat.le_of_ble_eq_true rfl) dX0_init_8 (fun H locs hP hD hS => ?_)
  have hP : va_P D vwCl ([(b, .inr (0, [.ref q6, .int 0, .int 0, .int 0, .int 0, .int 0, .int 0, .int 0, .int 0, .int 0, .int 0])), (q6, .inl (ca 0, 4, .inl (fun _ => 0)))]) H := hP
  have hD : va_D A ([(b, .inr (0, [.ref q6, .int 0, .int 0, .int 0, .int 0, .int 0, .int 0, .int 0, .int 0, .int 0, .int 0])), (q6, .inl (ca 0, 4, .inl (fun _ => 0)))]) := hD
  refine lv_aload_n hx hb dX0_init_11 rfl (lv_at hl 0 rfl) ?_
  refine lv_iconst (v := nI 0) hx hb dX0_init_12 (by decide) ?_
  refine va_put (D := D) (ci := 0) (v := .int (nI 0)) (ty := tyX0 1) (C := RX0) (T := TX0) (N := 11) hx hb hts hiX0 tyX0 tyX0_ok nmX0 hown hK.1 hP hD hS 0 rfl rfl 1 (by decide) (hts (.fieldLink RX0 15 "BarrelProcessor$HardwareThread" "state" "I") (by decide +kernel)) (fun _ h9 => h9) rfl (tyX0_ok 1 (by decide)) rfl rfl (Nat.le_of_ble_eq_true rfl) dX0_init_13 (fun H locs hP hD hS => ?_)
  have hP : va_P D vwCl ([(b, .inr (0, [.ref q6, .int (nI 0), .int 0, .int 0, .int 0, .int 0, .int 0, .int 0, .int 0, .int 0, .int 0])), (q6, .inl (ca 0, 4, .inl (fun _ => 0)))]) H := hP
  have hD : va_D A ([(b, .inr (0, [.ref q6, .int (nI 0), .int 0, .int 0, .int 0, .int 0, .int 0, .int 0, .int 0, .int 0, .int 0])), (q6, .inl (ca 0, 4, .inl (fun _ => 0)))]) := hD
  refine lv_aload_n hx hb dX0_init_16 rfl (lv_at hl 0 rfl) ?_
  refine lv_iconst (v := (-1)) hx hb dX0_init_17 (by decide) ?_
  refine va_put (D := D) (ci := 0) (v := .int ((-1))) (ty := tyX0 6) (C := RX0) (T := TX0) (N := 11) hx hb hts hiX0 tyX0 tyX0_ok nmX0 hown hK.1 hP hD hS 0 rfl rfl 6 (by decide) (hts (.fieldLink RX0 19 "BarrelProcessor$HardwareThread" "lastIssue" "I") (by decide +kernel)) (fun _ h9 => h9) rfl (tyX0_ok 6 (by decide)) rfl rfl (Nat.le_of_ble_eq_true rfl) dX0_init_18 (fun H locs hP hD hS => ?_)
  have hP : va_P D vwCl ([(b, .inr (0, [.ref q6, .int (nI 0), .int 0, .int 0, .int 0, .int 0, .int ((-1)), .int 0, .int 0, .int 0, .int 0])), (q6, .inl (ca 0, 4, .inl (fun _ => 0)))]) H := hP
  have hD : va_D A ([(b, .inr (0, [.ref q6, .int (nI 0), .int 0, .int 0, .int 0, .int 0, .int ((-1)), .int 0, .int 0, .int 0, .int 0])), (q6, .inl (ca 0, 4, .inl (fun _ => 0)))]) := hD
  have hP := hP.sub (ws' := (fun (u : Nat → Nat) => [(b, .inr (0, [.ref (u 0), .int (nI 0), .int 0, .int 0, .int 0, .int 0, .int (-1), .int 0, .int 0, .int 0, .int 0])), (u 0, .inl (ca 0, 4, .inl (fun _ => 0)))]) (fun j => ([q6] : List Nat).getD j 0)) [0, 1] rfl
  have hD := hD.sub (ws' := (fun (u : Nat → Nat) => [(b, .inr (0, [.ref (u 0), .int (nI 0), .int 0, .int 0, .int 0, .int 0, .int (-1), .int 0, .int 0, .int 0, .int 0])), (u 0, .inl (ca 0, 4, .inl (fun _ => 0)))]) (fun j => ([q6] : List Nat).getD j 0)) [0, 1] (by decide) rfl
  exact n_ret (fun j => ([q6] : List Nat).getD j 0) hx hb hr hlk hP hD hS (Nat.le_of_ble_eq_true rfl) (Nat.le_of_ble_eq_true rfl) dX0_init_21

set_option maxHeartbeats 4000000 in
set_option maxRecDepth 100000 in
theorem ct_X5_init (l : Launch) (D : va_G) (ca : Nat → ClassId) (b : Nat) : nC l yX5_init wsX5_init ({ frames := 1, cells := 1, slots := 48, locals := 12 } : Room) D ca [.ref b] b (.inr (5, [.null, .int 0, .int 0])) 1 48 (fun (u : Nat → Nat) => [(b, .inr (5, [.ref (u 0), .int 0, .int 0])), (u 0, .inl (ca 0, 48, .inl (fun _ => 0)))]) := by
  have hiX5 : ∀ w ∈ wsX50, w ∈ wsX5_init := by decide +kernel
  refine n_of (cc := cX5_init) (maxL := 1) (own := RX5) (by decide) rfl (Nat.le_of_ble_eq_true rfl) rfl (fun p e s m below meth c ls A hx hb hr hml hts hown hlk hnm hl hK hO hP hD hS hA => ?_)
  have hin : meth.name = "<init>" := hnm
  have hl : lv_has ls 1 [(0, .ref b)] := hl
  refine lv_aload_n hx hb dX5_init_0 rfl (lv_at hl 0 rfl) ?_
  refine W.objInit hx hb hown (hts (.methodLink RX5 3 objectInit) (by decide +kernel)) (hts (.instanceMethod objectInit) (by decide +kernel)) (hts _ (List.mem_of_getElem? (i := 3) rfl)) rfl (by rw [hml]; exact hl.1) rfl dX5_init_1 (Nat.le_of_ble_eq_true rfl) (Nat.le_of_ble_eq_true rfl) ?_
  refine W.eq (g2 := F0 m 4 ls []) rfl ?_
  refine lv_aload_n hx hb dX5_init_4 rfl (lv_at hl 0 rfl) ?_
  refine lv_bipush (v := nI 48) hx hb dX5_init_5 (by decide) ?_
  refine n_newa (n := 48) hx hb (hts (.arrayClass .int) (by decide +kernel)) hK hP hD hS hA (by decide) (Nat.le_of_ble_eq_true rfl) (Nat.le_of_ble_eq_true rfl) dX5_init_7 (fun q7 H hP hD hS => ?_)
  have hP : va_P D vwCl ([(b, .inr (5, [.null, .int 0, .int 0])), (q7, .inl (ca 0, 48, .inl (fun _ => 0)))]) H := hP
  have hD : va_D A ([(b, .inr (5, [.null, .int 0, .int 0])), (q7, .inl (ca 0, 48, .inl (fun _ => 0)))]) := hD
  refine va_putF (D := D) (ci := 5) (v := .ref q7) (ty := tyX5 0) (C := RX5) (T := TX5) (N := 3) hx hb hts hiX5 tyX5 tyX5_ok nmX5 hown hK.1 hP hD hS 0 rfl rfl 0 (by decide) (hts (.fieldLink RX5 11 "BarrelProcessor$Trace" "parts" "[I") (by decide +kernel)) (fun _ h9 => h9) rfl hin rfl (tyX5_ok 0 (by decide)) rfl rfl (Nat.le_of_ble_eq_true rfl) dX5_init_9 (fun H locs hP hD hS => ?_)
  have hP : va_P D vwCl ([(b, .inr (5, [.ref q7, .int 0, .int 0])), (q7, .inl (ca 0, 48, .inl (fun _ => 0)))]) H := hP
  have hD : va_D A ([(b, .inr (5, [.ref q7, .int 0, .int 0])), (q7, .inl (ca 0, 48, .inl (fun _ => 0)))]) := hD
  have hP := hP.sub (ws' := (fun (u : Nat → Nat) => [(b, .inr (5, [.ref (u 0), .int 0, .int 0])), (u 0, .inl (ca 0, 48, .inl (fun _ => 0)))]) (fun j => ([q7] : List Nat).getD j 0)) [0, 1] rfl
  have hD := hD.sub (ws' := (fun (u : Nat → Nat) => [(b, .inr (5, [.ref (u 0), .int 0, .int 0])), (u 0, .inl (ca 0, 48, .inl (fun _ => 0)))]) (fun j => ([q7] : List Nat).getD j 0)) [0, 1] (by decide) rfl
  exact n_ret (fun j => ([q7] : List Nat).getD j 0) hx hb hr hlk hP hD hS (Nat.le_of_ble_eq_true rfl) (Nat.le_of_ble_eq_true rfl) dX5_init_12

set_option maxHeartbeats 4000000 in
set_option maxRecDepth 100000 in
theorem ct_X2_init (l : Launch) (D : va_G) (ca : Nat → ClassId) (b : Nat) : nC l yX2_init wsX2_init ({ frames := 1, cells := 2, slots := 150, locals := 23 } : Room) D ca [.ref b] b (.inr (2, [.null, .null])) 2 150 (fun (u : Nat → Nat) => [(b, .inr (2, [.ref (u 0), .ref (u 1)])), (u 0, .inl (ca 0, 50, .inl (fun _ => nI 11))), (u 1, .inl (ca 0, 100, .inl (fun _ => (-100005))))]) := by
  have hiX2 : ∀ w ∈ wsX20, w ∈ wsX2_init := by decide +kernel
  refine n_of (cc := cX2_init) (maxL := 1) (own := RX2) (by decide) rfl (Nat.le_of_ble_eq_true rfl) rfl (fun p e s m below meth c ls A hx hb hr hml hts hown hlk hnm hl hK hO hP hD hS hA => ?_)
  have hin : meth.name = "<init>" := hnm
  have hl : lv_has ls 1 [(0, .ref b)] := hl
  refine lv_aload_n hx hb dX2_init_0 rfl (lv_at hl 0 rfl) ?_
  refine W.objInit hx hb hown (hts (.methodLink RX2 3 objectInit) (by decide +kernel)) (hts (.instanceMethod objectInit) (by decide +kernel)) (hts _ (List.mem_of_getElem? (i := 3) rfl)) rfl (by rw [hml]; exact hl.1) rfl dX2_init_1 (Nat.le_of_ble_eq_true rfl) (Nat.le_of_ble_eq_true rfl) ?_
  refine W.eq (g2 := F0 m 4 ls []) rfl ?_
  refine lv_aload_n hx hb dX2_init_4 rfl (lv_at hl 0 rfl) ?_
  refine lv_bipush (v := nI 50) hx hb dX2_init_5 (by decide) ?_
  refine n_newa (n := 50) hx hb (hts (.arrayClass .int) (by decide +kernel)) hK hP hD hS hA (by decide) (Nat.le_of_ble_eq_true rfl) (Nat.le_of_ble_eq_true rfl) dX2_init_7 (fun q7 H hP hD hS => ?_)
  have hP : va_P D vwCl ([(b, .inr (2, [.null, .null])), (q7, .inl (ca 0, 50, .inl (fun _ => 0)))]) H := hP
  have hD : va_D A ([(b, .inr (2, [.null, .null])), (q7, .inl (ca 0, 50, .inl (fun _ => 0)))]) := hD
  refine va_putF (D := D) (ci := 2) (v := .ref q7) (ty := tyX2 0) (C := RX2) (T := TX2) (N := 2) hx hb hts hiX2 tyX2 tyX2_ok nmX2 hown hK.1 hP hD hS 0 rfl rfl 0 (by decide) (hts (.fieldLink RX2 11 "BarrelProcessor$Instructions" "operations" "[I") (by decide +kernel)) (fun _ h9 => h9) rfl hin rfl (tyX2_ok 0 (by decide)) rfl rfl (Nat.le_of_ble_eq_true rfl) dX2_init_9 (fun H locs hP hD hS => ?_)
  have hP : va_P D vwCl ([(b, .inr (2, [.ref q7, .null])), (q7, .inl (ca 0, 50, .inl (fun _ => 0)))]) H := hP
  have hD : va_D A ([(b, .inr (2, [.ref q7, .null])), (q7, .inl (ca 0, 50, .inl (fun _ => 0)))]) := hD
  refine lv_aload_n hx hb dX2_init_12 rfl (lv_at hl 0 rfl) ?_
  refine lv_bipush (v := nI 100) hx hb dX2_init_13 (by decide) ?_
  refine n_newa (n := 100) hx hb (hts (.arrayClass .int) (by decide +kernel)) hK hP hD hS hA (by decide) (Nat.le_of_ble_eq_true rfl) (Nat.le_of_ble_eq_true rfl) dX2_init_15 (fun q15 H hP hD hS => ?_)
  have hP : va_P D vwCl ([(b, .inr (2, [.ref q7, .null])), (q7, .inl (ca 0, 50, .inl (fun _ => 0))), (q15, .inl (ca 0, 100, .inl (fun _ => 0)))]) H := hP
  have hD : va_D A ([(b, .inr (2, [.ref q7, .null])), (q7, .inl (ca 0, 50, .inl (fun _ => 0))), (q15, .inl (ca 0, 100, .inl (fun _ => 0)))]) := hD
  refine va_putF (D := D) (ci := 2) (v := .ref q15) (ty := tyX2 1) (C := RX2) (T := TX2) (N := 2) hx hb hts hiX2 tyX2 tyX2_ok nmX2 hown hK.1 hP hD hS 0 rfl rfl 1 (by decide) (hts (.fieldLink RX2 15 "BarrelProcessor$Instructions" "operands" "[I") (by decide +kernel)) (fun _ h9 => h9) rfl hin rfl (tyX2_ok 1 (by decide)) rfl rfl (Nat.le_of_ble_eq_true rfl) dX2_init_17 (fun H locs hP hD hS => ?_)
  have hP : va_P D vwCl ([(b, .inr (2, [.ref q7, .ref q15])), (q7, .inl (ca 0, 50, .inl (fun _ => 0))), (q15, .inl (ca 0, 100, .inl (fun _ => 0)))]) H := hP
  have hD : va_D A ([(b, .inr (2, [.ref q7, .ref q15])), (q7, .inl (ca 0, 50, .inl (fun _ => 0))), (q15, .inl (ca 0, 100, .inl (fun _ => 0)))]) := hD
  refine lv_aload_n hx hb dX2_init_20 rfl (lv_at hl 0 rfl) ?_
  refine va_get (C := RX2) (T := TX2) (N := 2) hx hb hts hiX2 hown hK.1 hP 0 rfl (ci := 2) rfl 0 (by decide) (hts (.fieldLink RX2 11 "BarrelProcessor$Instructions" "operations" "[I") (by decide +kernel)) (fun _ h => h) rfl dX2_init_21 ?_
  refine lv_bipush (v := nI 11) hx hb dX2_init_24 (by decide) ?_
  have hP := hP.sub (ws' := [(b, .inr (2, [.ref q7, .ref q15])), (q15, .inl (ca 0, 100, .inl (fun _ => 0))), (q7, .inl (ca 0, 50, .inl (fun _ => 0)))]) [0, 2, 1] rfl
  have hD := hD.sub (ws' := [(b, .inr (2, [.ref q7, .ref q15])), (q15, .inl (ca 0, 100, .inl (fun _ => 0))), (q7, .inl (ca 0, 50, .inl (fun _ => 0)))]) [0, 2, 1] (by decide) rfl
  have hP : va_P D vwCl ([(b, .inr (2, [.ref q7, .ref q15])), (q15, .inl (ca 0, 100, .inl (fun _ => 0)))] ++ [(q7, .inl (ca 0, 50, .inl (fun _ => 0)))]) H := hP
  have hD : va_D A ([(b, .inr (2, [.ref q7, .ref q15])), (q15, .inl (ca 0, 100, .inl (fun _ => 0)))] ++ [(q7, .inl (ca 0, 50, .inl (fun _ => 0)))]) := hD
  refine n_callS (X := [(b, .inr (2, [.ref q7, .ref q15])), (q15, .inl (ca 0, 100, .inl (fun _ => 0)))]) (As := [.int (nI 11)]) (rest := []) ⟨hx, hb, hml, hown, hts⟩ (ct_fill_n l D ca q7 50 (fun _ => 0) (by decide) (nI 11)) (va_cwS 2 hts gX2_init_J7_fill_53178 rfl rfl rfl (by decide +kernel) ⟨Nat.le_of_ble_eq_true rfl, Nat.le_of_ble_eq_true rfl⟩) hK hO hP hD hS hA rfl hl.1 rfl (Nat.le_of_ble_eq_true rfl) dX2_init_26 ⟨Nat.le_of_ble_eq_true rfl, Nat.le_of_ble_eq_true rfl⟩ (fun u26 H locs hP hD hS => ?_)
  have hP : va_P D vwCl ([(b, .inr (2, [.ref q7, .ref q15])), (q15, .inl (ca 0, 100, .inl (fun _ => 0))), (q7, .inl (ca 0, 50, .inl (fun _ => nI 11)))]) H := hP
  have hD : va_D A ([(b, .inr (2, [.ref q7, .ref q15])), (q15, .inl (ca 0, 100, .inl (fun _ => 0))), (q7, .inl (ca 0, 50, .inl (fun _ => nI 11)))]) := hD
  refine lv_aload_n hx hb dX2_init_29 rfl (lv_at hl 0 rfl) ?_
  refine va_get (C := RX2) (T := TX2) (N := 2) hx hb hts hiX2 hown hK.1 hP 0 rfl (ci := 2) rfl 1 (by decide) (hts (.fieldLink RX2 15 "BarrelProcessor$Instructions" "operands" "[I") (by decide +kernel)) (fun _ h => h) rfl dX2_init_30 ?_
  refine lv_ldc (v := (-100005)) hx hb hown (hts (.constant RX2 24 (-100005)) (by decide +kernel)) dX2_init_33 ?_
  have hP := hP.sub (ws' := [(b, .inr (2, [.ref q7, .ref q15])), (q7, .inl (ca 0, 50, .inl (fun _ => nI 11))), (q15, .inl (ca 0, 100, .inl (fun _ => 0)))]) [0, 2, 1] rfl
  have hD := hD.sub (ws' := [(b, .inr (2, [.ref q7, .ref q15])), (q7, .inl (ca 0, 50, .inl (fun _ => nI 11))), (q15, .inl (ca 0, 100, .inl (fun _ => 0)))]) [0, 2, 1] (by decide) rfl
  have hP : va_P D vwCl ([(b, .inr (2, [.ref q7, .ref q15])), (q7, .inl (ca 0, 50, .inl (fun _ => nI 11)))] ++ [(q15, .inl (ca 0, 100, .inl (fun _ => 0)))]) H := hP
  have hD : va_D A ([(b, .inr (2, [.ref q7, .ref q15])), (q7, .inl (ca 0, 50, .inl (fun _ => nI 11)))] ++ [(q15, .inl (ca 0, 100, .inl (fun _ => 0)))]) := hD
  refine n_callS (X := [(b, .inr (2, [.ref q7, .ref q15])), (q7, .inl (ca 0, 50, .inl (fun _ => nI 11)))]) (As := [.int ((-100005))]) (rest := []) ⟨hx, hb, hml, hown, hts⟩ (ct_fill_n l D ca q15 100 (fun _ => 0) (by decide) ((-100005))) (va_cwS 2 hts gX2_init_J7_fill_53178 rfl rfl rfl (by decide +kernel) ⟨Nat.le_of_ble_eq_true rfl, Nat.le_of_ble_eq_true rfl⟩) hK hO hP hD hS hA rfl hl.1 rfl (Nat.le_of_ble_eq_true rfl) dX2_init_35 ⟨Nat.le_of_ble_eq_true rfl, Nat.le_of_ble_eq_true rfl⟩ (fun u35 H locs hP hD hS => ?_)
  have hP : va_P D vwCl ([(b, .inr (2, [.ref q7, .ref q15])), (q7, .inl (ca 0, 50, .inl (fun _ => nI 11))), (q15, .inl (ca 0, 100, .inl (fun _ => (-100005))))]) H := hP
  have hD : va_D A ([(b, .inr (2, [.ref q7, .ref q15])), (q7, .inl (ca 0, 50, .inl (fun _ => nI 11))), (q15, .inl (ca 0, 100, .inl (fun _ => (-100005))))]) := hD
  have hP := hP.sub (ws' := (fun (u : Nat → Nat) => [(b, .inr (2, [.ref (u 0), .ref (u 1)])), (u 0, .inl (ca 0, 50, .inl (fun _ => nI 11))), (u 1, .inl (ca 0, 100, .inl (fun _ => (-100005))))]) (fun j => ([q7, q15] : List Nat).getD j 0)) [0, 1, 2] rfl
  have hD := hD.sub (ws' := (fun (u : Nat → Nat) => [(b, .inr (2, [.ref (u 0), .ref (u 1)])), (u 0, .inl (ca 0, 50, .inl (fun _ => nI 11))), (u 1, .inl (ca 0, 100, .inl (fun _ => (-100005))))]) (fun j => ([q7, q15] : List Nat).getD j 0)) [0, 1, 2] (by decide) rfl
  exact n_ret (fun j => ([q7, q15] : List Nat).getD j 0) hx hb hr hlk hP hD hS (Nat.le_of_ble_eq_true rfl) (Nat.le_of_ble_eq_true rfl) dX2_init_38

set_option maxHeartbeats 4000000 in
set_option maxRecDepth 100000 in
theorem ct_X4_init (l : Launch) (D : va_G) (ca : Nat → ClassId) (b : Nat) : nC l yX4_init wsX4_init ({ frames := 2, cells := 4, slots := 252, locals := 43 } : Room) D ca [.ref b] b (.inr (4, [.null, .int 0, .int 0, .null, .int 0, .int 0])) 4 252 (fun (u : Nat → Nat) => [(b, .inr (4, [.ref (u 0), .int 0, .int 0, .ref (u 1), .int 0, .int 0])), (u 0, .inl (ca 3, 100, .inl (fun _ => 0))), (u 1, .inr (2, [.ref (u 2), .ref (u 3)])), (u 2, .inl (ca 0, 50, .inl (fun _ => nI 11))), (u 3, .inl (ca 0, 100, .inl (fun _ => (-100005))))]) := by
  have hiX2 : ∀ w ∈ wsX20, w ∈ wsX4_init := by decide +kernel
  have hiX4 : ∀ w ∈ wsX40, w ∈ wsX4_init := by decide +kernel
  refine n_of (cc := cX4_init) (maxL := 1) (own := RX4) (by decide) rfl (Nat.le_of_ble_eq_true rfl) rfl (fun p e s m below meth c ls A hx hb hr hml hts hown hlk hnm hl hK hO hP hD hS hA => ?_)
  have hin : meth.name = "<init>" := hnm
  have hl : lv_has ls 1 [(0, .ref b)] := hl
  refine lv_aload_n hx hb dX4_init_0 rfl (lv_at hl 0 rfl) ?_
  refine W.objInit hx hb hown (hts (.methodLink RX4 3 objectInit) (by decide +kernel)) (hts (.instanceMethod objectInit) (by decide +kernel)) (hts _ (List.mem_of_getElem? (i := 3) rfl)) rfl (by rw [hml]; exact hl.1) rfl dX4_init_1 (Nat.le_of_ble_eq_true rfl) (Nat.le_of_ble_eq_true rfl) ?_
  refine W.eq (g2 := F0 m 4 ls []) rfl ?_
  refine lv_aload_n hx hb dX4_init_4 rfl (lv_at hl 0 rfl) ?_
  refine lv_bipush (v := nI 100) hx hb dX4_init_5 (by decide) ?_
  refine n_newc (n := 100) hx hb (hts (.arrayClass .char) (by decide +kernel)) hK hP hD hS hA (by decide) (Nat.le_of_ble_eq_true rfl) (Nat.le_of_ble_eq_true rfl) dX4_init_7 (fun q7 H hP hD hS => ?_)
  have hP : va_P D vwCl ([(b, .inr (4, [.null, .int 0, .int 0, .null, .int 0, .int 0])), (q7, .inl (ca 3, 100, .inl (fun _ => 0)))]) H := hP
  have hD : va_D A ([(b, .inr (4, [.null, .int 0, .int 0, .null, .int 0, .int 0])), (q7, .inl (ca 3, 100, .inl (fun _ => 0)))]) := hD
  refine va_putF (D := D) (ci := 4) (v := .ref q7) (ty := tyX4 0) (C := RX4) (T := TX4) (N := 6) hx hb hts hiX4 tyX4 tyX4_ok nmX4 hown hK.1 hP hD hS 0 rfl rfl 0 (by decide) (hts (.fieldLink RX4 11 "BarrelProcessor$Text" "characters" "[C") (by decide +kernel)) (fun _ h9 => h9) rfl hin rfl (tyX4_ok 0 (by decide)) rfl rfl (Nat.le_of_ble_eq_true rfl) dX4_init_9 (fun H locs hP hD hS => ?_)
  have hP : va_P D vwCl ([(b, .inr (4, [.ref q7, .int 0, .int 0, .null, .int 0, .int 0])), (q7, .inl (ca 3, 100, .inl (fun _ => 0)))]) H := hP
  have hD : va_D A ([(b, .inr (4, [.ref q7, .int 0, .int 0, .null, .int 0, .int 0])), (q7, .inl (ca 3, 100, .inl (fun _ => 0)))]) := hD
  refine lv_aload_n hx hb dX4_init_12 rfl (lv_at hl 0 rfl) ?_
  refine n_new (ci := 2) (fs := [.null, .null]) (C := RX2) (T := TX2) (N := 2) hx hb hts hiX2 tyX2 tyX2_ok hown (hts (.classLink RX4 15 RX2) (by decide +kernel)) (hts (.instantiable RX2 2) (by decide +kernel)) (hts (.initialized RX2) (by decide +kernel)) hK hP hD hS hA rfl (by intro j hj; match j, hj with | 0, _ => rfl | 1, _ => rfl | n + 2, h => exact absurd h (by omega)) (Nat.le_of_ble_eq_true rfl) (Nat.le_of_ble_eq_true rfl) dX4_init_13 (fun q13 H hP hD hS => ?_)
  have hP : va_P D vwCl ([(b, .inr (4, [.ref q7, .int 0, .int 0, .null, .int 0, .int 0])), (q7, .inl (ca 3, 100, .inl (fun _ => 0))), (q13, .inr (2, [.null, .null]))]) H := hP
  have hD : va_D A ([(b, .inr (4, [.ref q7, .int 0, .int 0, .null, .int 0, .int 0])), (q7, .inl (ca 3, 100, .inl (fun _ => 0))), (q13, .inr (2, [.null, .null]))]) := hD
  refine lv_dup hx hb dX4_init_16 rfl ?_
  have hP : va_P D vwCl ([(b, .inr (4, [.ref q7, .int 0, .int 0, .null, .int 0, .int 0])), (q7, .inl (ca 3, 100, .inl (fun _ => 0)))] ++ [(q13, .inr (2, [.null, .null]))]) H := hP
  have hD : va_D A ([(b, .inr (4, [.ref q7, .int 0, .int 0, .null, .int 0, .int 0])), (q7, .inl (ca 3, 100, .inl (fun _ => 0)))] ++ [(q13, .inr (2, [.null, .null]))]) := hD
  refine n_call (X := [(b, .inr (4, [.ref q7, .int 0, .int 0, .null, .int 0, .int 0])), (q7, .inl (ca 3, 100, .inl (fun _ => 0)))]) (rest := [.ref q13, .ref b]) ⟨hx, hb, hml, hown, hts⟩ (ct_X2_init l D ca q13) (cwI 0 hts gX4_init_X2_init rfl rfl rfl (hts (.initialized RX2) (by decide +kernel)) (hts (.methodLink RX4 17 yX2_init) (by decide +kernel)) (hts (.instanceMethod yX2_init) (by decide +kernel)) rfl (by decide +kernel) ⟨Nat.le_of_ble_eq_true rfl, Nat.le_of_ble_eq_true rfl⟩) hK hO hP hD hS hA hl.1 (Nat.le_of_ble_eq_true rfl) dX4_init_17 ⟨Nat.le_of_ble_eq_true rfl, Nat.le_of_ble_eq_true rfl⟩ (fun u17 H locs hP hD hS => ?_)
  have hP : va_P D vwCl ([(b, .inr (4, [.ref q7, .int 0, .int 0, .null, .int 0, .int 0])), (q7, .inl (ca 3, 100, .inl (fun _ => 0))), (q13, .inr (2, [.ref (u17 0), .ref (u17 1)])), ((u17 0), .inl (ca 0, 50, .inl (fun _ => nI 11))), ((u17 1), .inl (ca 0, 100, .inl (fun _ => (-100005))))]) H := hP
  have hD : va_D A ([(b, .inr (4, [.ref q7, .int 0, .int 0, .null, .int 0, .int 0])), (q7, .inl (ca 3, 100, .inl (fun _ => 0))), (q13, .inr (2, [.ref (u17 0), .ref (u17 1)])), ((u17 0), .inl (ca 0, 50, .inl (fun _ => nI 11))), ((u17 1), .inl (ca 0, 100, .inl (fun _ => (-100005))))]) := hD
  refine va_putF (D := D) (ci := 4) (v := .ref q13) (ty := tyX4 3) (C := RX4) (T := TX4) (N := 6) hx hb hts hiX4 tyX4 tyX4_ok nmX4 hown hK.1 hP hD hS 0 rfl rfl 3 (by decide) (hts (.fieldLink RX4 18 "BarrelProcessor$Text" "instructions" "LBarrelProcessor$Instructions;") (by decide +kernel)) (fun _ h9 => h9) rfl hin rfl (tyX4_ok 3 (by decide)) rfl rfl (Nat.le_of_ble_eq_true rfl) dX4_init_20 (fun H locs hP hD hS => ?_)
  have hP : va_P D vwCl ([(b, .inr (4, [.ref q7, .int 0, .int 0, .ref q13, .int 0, .int 0])), (q7, .inl (ca 3, 100, .inl (fun _ => 0))), (q13, .inr (2, [.ref (u17 0), .ref (u17 1)])), ((u17 0), .inl (ca 0, 50, .inl (fun _ => nI 11))), ((u17 1), .inl (ca 0, 100, .inl (fun _ => (-100005))))]) H := hP
  have hD : va_D A ([(b, .inr (4, [.ref q7, .int 0, .int 0, .ref q13, .int 0, .int 0])), (q7, .inl (ca 3, 100, .inl (fun _ => 0))), (q13, .inr (2, [.ref (u17 0), .ref (u17 1)])), ((u17 0), .inl (ca 0, 50, .inl (fun _ => nI 11))), ((u17 1), .inl (ca 0, 100, .inl (fun _ => (-100005))))]) := hD
  have hP := hP.sub (ws' := (fun (u : Nat → Nat) => [(b, .inr (4, [.ref (u 0), .int 0, .int 0, .ref (u 1), .int 0, .int 0])), (u 0, .inl (ca 3, 100, .inl (fun _ => 0))), (u 1, .inr (2, [.ref (u 2), .ref (u 3)])), (u 2, .inl (ca 0, 50, .inl (fun _ => nI 11))), (u 3, .inl (ca 0, 100, .inl (fun _ => (-100005))))]) (fun j => ([q7, q13, u17 0, u17 1] : List Nat).getD j 0)) [0, 1, 2, 3, 4] rfl
  have hD := hD.sub (ws' := (fun (u : Nat → Nat) => [(b, .inr (4, [.ref (u 0), .int 0, .int 0, .ref (u 1), .int 0, .int 0])), (u 0, .inl (ca 3, 100, .inl (fun _ => 0))), (u 1, .inr (2, [.ref (u 2), .ref (u 3)])), (u 2, .inl (ca 0, 50, .inl (fun _ => nI 11))), (u 3, .inl (ca 0, 100, .inl (fun _ => (-100005))))]) (fun j => ([q7, q13, u17 0, u17 1] : List Nat).getD j 0)) [0, 1, 2, 3, 4] (by decide) rfl
  exact n_ret (fun j => ([q7, q13, u17 0, u17 1] : List Nat).getD j 0) hx hb hr hlk hP hD hS (Nat.le_of_ble_eq_true rfl) (Nat.le_of_ble_eq_true rfl) dX4_init_23
