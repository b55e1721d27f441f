/-! the reference that is born -/
def z00 : zM := fun _ _ => 0
def nq1 : Nat → Nat → zM → zM
  | 0, i, N => N
  | n + 1, i, N => nq1 n (i + 1) (zu N 10 i (nI 11))
def nq2 : Nat → Nat → zM → zM
  | 0, i, N => N
  | n + 1, i, N => nq2 n (i + 1) (zu N 14 i (nI (i % 4)))
def nq3 : Nat → Nat → zM → zM
  | 0, i, N => N
  | n + 1, i, N => nq3 n (i + 1) (zu N 5 i (-1))
def zNI : zM := zu (nq3 4 0 (nq2 8 0 (nq1 48 0 z00))) 15 0 (nI 3)
def pC (l : Launch) (y : MethodName) (ws : List Cond) (rm : Room) (av : List Value) (r : Int32) : Prop :=
  ∀ Hh : Heap, Met l y ws rm (va_Pc av (fun U => U.heap = Hh)) (va_Qi (fun (r' : Int32) (_ : Unit) => r' = r) (fun _ t => t.heap = Hh) (fun _ => False)) 0 0 (fun _ => False)
theorem ct_at_p (l : Launch) (x y : Int32) : pC l yX7_at wsX7_at ({ frames := 0, cells := 0, slots := 0, locals := 0 } : Room) [.int x, .int y] (nI 14 * x + y) := by
  intro Hh
  refine Met.ofW (cc := cX7_at) (maxL := 2) (ret := some .int) (by decide) rfl ?_
  intro p e s m args below meth c s₁ B hml hv
  obtain ⟨rfl, hh⟩ := hv
  have hl := lv_entry [.int x, .int y] (n := 2) (Nat.le_of_ble_eq_true rfl)
  rw [lg_entry_eq]
  generalize (lg_sl [.int x, .int y] ++ List.replicate (2 - (lg_sl [.int x, .int y]).length) Slot.unset).toArray = ls at hl ⊢
  have hx := B.exec
  have hb := B.bytes
  have hr := B.returns
  have hlk := B.notSynchronized
  have hl : lv_has ls 2 [(0, .int x), (1, .int y)] := hl
  have hS : va_S (fun _ => False) s.heap s.heap [] := va_S.rf
  refine lv_bipush (v := nI 14) hx hb dX7_at_0 (by decide) ?_
  refine lv_iload_n hx hb dX7_at_2 rfl (lv_at hl 0 rfl) ?_
  refine lv_imul hx hb dX7_at_3 ?_
  refine lv_iload_n hx hb dX7_at_4 rfl (lv_at hl 1 rfl) ?_
  refine lv_iadd hx hb dX7_at_5 ?_
  exact W.zret hx hb hr rfl (fun t ht hW => ⟨⟨_, (), rfl, rfl, ht.trans hh⟩, hS.F ht⟩) hS.2.2 dX7_at_6 hlk
section PB
variable {p : Program} {l : Launch} {e : Env} {R : Room} {s : State} {m : MethodId} {args : Array Value} {below : List Frame} {meth : Method} {c : Code} {H : Heap} {locs : List Loc} {cells slots : Nat} {Q : State → Prop}
variable {cc : ByteArray} {pc : Nat} {ls : Array Slot} {rest st0 : List Value} {A : Nat → Prop} {H0 : Heap} {y : MethodName} {bytes : ByteArray} {maxL nL n index : Nat} {ret : Option FieldType} {wy : List Cond} {rm : Room} {Ts : List Cond} {own : String} {As : List Value} {r : Int32}
theorem p_cSi (S : CallFix p m c cc nL s args Ts own) (hM : pC l y wy rm As r) (cw : CallB R s args own index y bytes maxL ret wy rm 0 0 n ∧ (Cond.static y).before args s = true) (hS : va_S A H0 H locs) (hn : As.length = n) (hsz : ls.size = nL) (hst : st0 = As.reverse ++ rest) (hW : (rest.map fun v => v.category).sum ≤ 8) (hdg : decode cc pc = .ok (.invokestatic index, 3)) (hf : cells ≤ R.cells ∧ slots ≤ R.slots)
    (kk : ∀ locs1 : List Loc, va_S A H0 H locs1 → W p l e R s m args below meth c H locs1 cells slots Q (F0 m (pc + 3) ls (.int r :: rest))) : W p l e R s m args below meth c H locs cells slots Q (F0 m pc ls st0) :=
  va_calli (va_runS (g := F0 m pc ls st0) S (hM H) cw ⟨fun v U g mk q => ⟨q.1, q.2⟩, fun U hU hW => ⟨rfl, hU⟩⟩ rfl hn hsz hst (lv_room hW) hdg hf) hS (fun _ _ h => h.elim) (fun _ h => h.elim) (fun r' u t H1 l1 ht _ hw hB _ _ hS1 => by
    subst hw
    have e : H1 = H := ht.symm.trans hB
    subst e
    exact kk l1 hS1)
end PB

set_option maxHeartbeats 4000000 in
set_option maxRecDepth 100000 in
theorem ct_X7_init (l : Launch) (D : va_G) (ca : Nat → ClassId) (b : Nat) : nC l yX7_init wsX7_init ({ frames := 1, cells := 4, slots := 2146, locals := 40 } : Room) D ca [.ref b] b (.inr (7, [.null, .null, .null, .int 0, .null, .int 0, .int 0, .int 0, .int 0, .int 0, .int 0])) 4 2146 (fun (u : Nat → Nat) => mW (nA b u) (ca 0) (zNI, z00, z00, z00)) := by
  have hiX7 : ∀ w ∈ wsX70, w ∈ wsX7_init := by decide +kernel
  refine n_of (cc := cX7_init) (maxL := 2) (own := RX7) (by decide) rfl (Nat.le_of_ble_eq_true rfl) rfl (fun p e s m below meth c ls A hx hb hr hml hts hown hlk hnm hl hK hO hP hD hS hA => ?_)
  have hin : meth.name = "<init>" := hnm
  have hl : lv_has ls 2 [(0, .ref b)] := hl
  refine lv_aload_n hx hb dX7_init_0 rfl (lv_at hl 0 rfl) ?_
  refine W.objInit hx hb hown (hts (.methodLink RX7 1 objectInit) (by decide +kernel)) (hts (.instanceMethod objectInit) (by decide +kernel)) (hts _ (List.mem_of_getElem? (i := 3) rfl)) rfl (by rw [hml]; exact hl.1) rfl dX7_init_1 (Nat.le_of_ble_eq_true rfl) (Nat.le_of_ble_eq_true rfl) ?_
  refine W.eq (g2 := F0 m 4 ls []) rfl ?_
  refine lv_aload_n hx hb dX7_init_4 rfl (lv_at hl 0 rfl) ?_
  refine lv_sipush (v := nI 341) hx hb dX7_init_5 (by decide) ?_
  refine n_newa (n := 341) hx hb (hts (.arrayClass .int) (by decide +kernel)) hK hP hD hS hA (by decide) (Nat.le_of_ble_eq_true rfl) (Nat.le_of_ble_eq_true rfl) dX7_init_8 (fun q8 H hP hD hS => ?_)
  have hP : va_P D vwCl ([(b, .inr (7, [.null, .null, .null, .int 0, .null, .int 0, .int 0, .int 0, .int 0, .int 0, .int 0])), (q8, .inl (ca 0, 341, .inl (fun _ => 0)))]) H := hP
  have hD : va_D A ([(b, .inr (7, [.null, .null, .null, .int 0, .null, .int 0, .int 0, .int 0, .int 0, .int 0, .int 0])), (q8, .inl (ca 0, 341, .inl (fun _ => 0)))]) := hD
  refine va_putF (D := D) (ci := 7) (v := .ref q8) (ty := tyX7 0) (C := RX7) (T := TX7) (N := 11) hx hb hts hiX7 tyX7 tyX7_ok nmX7 hown hK.1 hP hD hS 0 rfl rfl 0 (by decide) (hts (.fieldLink RX7 7 "BarrelProcessorModel" "s" "[I") (by decide +kernel)) (fun _ h9 => h9) rfl hin rfl (tyX7_ok 0 (by decide)) rfl rfl (Nat.le_of_ble_eq_true rfl) dX7_init_10 (fun H locs hP hD hS => ?_)
  have hP : va_P D vwCl ([(b, .inr (7, [.ref q8, .null, .null, .int 0, .null, .int 0, .int 0, .int 0, .int 0, .int 0, .int 0])), (q8, .inl (ca 0, 341, .inl (fun _ => 0)))]) H := hP
  have hD : va_D A ([(b, .inr (7, [.ref q8, .null, .null, .int 0, .null, .int 0, .int 0, .int 0, .int 0, .int 0, .int 0])), (q8, .inl (ca 0, 341, .inl (fun _ => 0)))]) := hD
  refine lv_aload_n hx hb dX7_init_13 rfl (lv_at hl 0 rfl) ?_
  refine lv_sipush (v := nI 341) hx hb dX7_init_14 (by decide) ?_
  refine n_newa (n := 341) hx hb (hts (.arrayClass .int) (by decide +kernel)) hK hP hD hS hA (by decide) (Nat.le_of_ble_eq_true rfl) (Nat.le_of_ble_eq_true rfl) dX7_init_17 (fun q17 H hP hD hS => ?_)
  have hP : va_P D vwCl ([(b, .inr (7, [.ref q8, .null, .null, .int 0, .null, .int 0, .int 0, .int 0, .int 0, .int 0, .int 0])), (q8, .inl (ca 0, 341, .inl (fun _ => 0))), (q17, .inl (ca 0, 341, .inl (fun _ => 0)))]) H := hP
  have hD : va_D A ([(b, .inr (7, [.ref q8, .null, .null, .int 0, .null, .int 0, .int 0, .int 0, .int 0, .int 0, .int 0])), (q8, .inl (ca 0, 341, .inl (fun _ => 0))), (q17, .inl (ca 0, 341, .inl (fun _ => 0)))]) := hD
  refine va_putF (D := D) (ci := 7) (v := .ref q17) (ty := tyX7 1) (C := RX7) (T := TX7) (N := 11) hx hb hts hiX7 tyX7 tyX7_ok nmX7 hown hK.1 hP hD hS 0 rfl rfl 1 (by decide) (hts (.fieldLink RX7 13 "BarrelProcessorModel" "aside" "[I") (by decide +kernel)) (fun _ h9 => h9) rfl hin rfl (tyX7_ok 1 (by decide)) rfl rfl (Nat.le_of_ble_eq_true rfl) dX7_init_19 (fun H locs hP hD hS => ?_)
  have hP : va_P D vwCl ([(b, .inr (7, [.ref q8, .ref q17, .null, .int 0, .null, .int 0, .int 0, .int 0, .int 0, .int 0, .int 0])), (q8, .inl (ca 0, 341, .inl (fun _ => 0))), (q17, .inl (ca 0, 341, .inl (fun _ => 0)))]) H := hP
  have hD : va_D A ([(b, .inr (7, [.ref q8, .ref q17, .null, .int 0, .null, .int 0, .int 0, .int 0, .int 0, .int 0, .int 0])), (q8, .inl (ca 0, 341, .inl (fun _ => 0))), (q17, .inl (ca 0, 341, .inl (fun _ => 0)))]) := hD
  refine lv_aload_n hx hb dX7_init_22 rfl (lv_at hl 0 rfl) ?_
  refine lv_sipush (v := nI 1364) hx hb dX7_init_23 (by decide) ?_
  refine n_newa (n := 1364) hx hb (hts (.arrayClass .int) (by decide +kernel)) hK hP hD hS hA (by decide) (Nat.le_of_ble_eq_true rfl) (Nat.le_of_ble_eq_true rfl) dX7_init_26 (fun q26 H hP hD hS => ?_)
  have hP : va_P D vwCl ([(b, .inr (7, [.ref q8, .ref q17, .null, .int 0, .null, .int 0, .int 0, .int 0, .int 0, .int 0, .int 0])), (q8, .inl (ca 0, 341, .inl (fun _ => 0))), (q17, .inl (ca 0, 341, .inl (fun _ => 0))), (q26, .inl (ca 0, 1364, .inl (fun _ => 0)))]) H := hP
  have hD : va_D A ([(b, .inr (7, [.ref q8, .ref q17, .null, .int 0, .null, .int 0, .int 0, .int 0, .int 0, .int 0, .int 0])), (q8, .inl (ca 0, 341, .inl (fun _ => 0))), (q17, .inl (ca 0, 341, .inl (fun _ => 0))), (q26, .inl (ca 0, 1364, .inl (fun _ => 0)))]) := hD
  refine va_putF (D := D) (ci := 7) (v := .ref q26) (ty := tyX7 2) (C := RX7) (T := TX7) (N := 11) hx hb hts hiX7 tyX7 tyX7_ok nmX7 hown hK.1 hP hD hS 0 rfl rfl 2 (by decide) (hts (.fieldLink RX7 16 "BarrelProcessorModel" "past" "[I") (by decide +kernel)) (fun _ h9 => h9) rfl hin rfl (tyX7_ok 2 (by decide)) rfl rfl (Nat.le_of_ble_eq_true rfl) dX7_init_28 (fun H locs hP hD hS => ?_)
  have hP : va_P D vwCl ([(b, .inr (7, [.ref q8, .ref q17, .ref q26, .int 0, .null, .int 0, .int 0, .int 0, .int 0, .int 0, .int 0])), (q8, .inl (ca 0, 341, .inl (fun _ => 0))), (q17, .inl (ca 0, 341, .inl (fun _ => 0))), (q26, .inl (ca 0, 1364, .inl (fun _ => 0)))]) H := hP
  have hD : va_D A ([(b, .inr (7, [.ref q8, .ref q17, .ref q26, .int 0, .null, .int 0, .int 0, .int 0, .int 0, .int 0, .int 0])), (q8, .inl (ca 0, 341, .inl (fun _ => 0))), (q17, .inl (ca 0, 341, .inl (fun _ => 0))), (q26, .inl (ca 0, 1364, .inl (fun _ => 0)))]) := hD
  refine lv_aload_n hx hb dX7_init_31 rfl (lv_at hl 0 rfl) ?_
  refine lv_bipush (v := nI 100) hx hb dX7_init_32 (by decide) ?_
  refine n_newa (n := 100) hx hb (hts (.arrayClass .int) (by decide +kernel)) hK hP hD hS hA (by decide) (Nat.le_of_ble_eq_true rfl) (Nat.le_of_ble_eq_true rfl) dX7_init_34 (fun q34 H hP hD hS => ?_)
  have hP : va_P D vwCl ([(b, .inr (7, [.ref q8, .ref q17, .ref q26, .int 0, .null, .int 0, .int 0, .int 0, .int 0, .int 0, .int 0])), (q8, .inl (ca 0, 341, .inl (fun _ => 0))), (q17, .inl (ca 0, 341, .inl (fun _ => 0))), (q26, .inl (ca 0, 1364, .inl (fun _ => 0))), (q34, .inl (ca 0, 100, .inl (fun _ => 0)))]) H := hP
  have hD : va_D A ([(b, .inr (7, [.ref q8, .ref q17, .ref q26, .int 0, .null, .int 0, .int 0, .int 0, .int 0, .int 0, .int 0])), (q8, .inl (ca 0, 341, .inl (fun _ => 0))), (q17, .inl (ca 0, 341, .inl (fun _ => 0))), (q26, .inl (ca 0, 1364, .inl (fun _ => 0))), (q34, .inl (ca 0, 100, .inl (fun _ => 0)))]) := hD
  refine va_putF (D := D) (ci := 7) (v := .ref q34) (ty := tyX7 4) (C := RX7) (T := TX7) (N := 11) hx hb hts hiX7 tyX7 tyX7_ok nmX7 hown hK.1 hP hD hS 0 rfl rfl 4 (by decide) (hts (.fieldLink RX7 19 "BarrelProcessorModel" "text" "[I") (by decide +kernel)) (fun _ h9 => h9) rfl hin rfl (tyX7_ok 4 (by decide)) rfl rfl (Nat.le_of_ble_eq_true rfl) dX7_init_36 (fun H locs hP hD hS => ?_)
  have hP : va_P D vwCl ([(b, .inr (7, [.ref q8, .ref q17, .ref q26, .int 0, .ref q34, .int 0, .int 0, .int 0, .int 0, .int 0, .int 0])), (q8, .inl (ca 0, 341, .inl (fun _ => 0))), (q17, .inl (ca 0, 341, .inl (fun _ => 0))), (q26, .inl (ca 0, 1364, .inl (fun _ => 0))), (q34, .inl (ca 0, 100, .inl (fun _ => 0)))]) H := hP
  have hD : va_D A ([(b, .inr (7, [.ref q8, .ref q17, .ref q26, .int 0, .ref q34, .int 0, .int 0, .int 0, .int 0, .int 0, .int 0])), (q8, .inl (ca 0, 341, .inl (fun _ => 0))), (q17, .inl (ca 0, 341, .inl (fun _ => 0))), (q26, .inl (ca 0, 1364, .inl (fun _ => 0))), (q34, .inl (ca 0, 100, .inl (fun _ => 0)))]) := hD
  have lp95 : ∀ (n i : Nat) (N : zM) (H : Heap) (locs : List Loc) (ls : Array Slot) (hn : i + n = 4) (hN : zu (nq3 n i N) 15 0 (nI 3) = zNI) (hl : lv_has ls 2 [(1, .int (nI i)), (0, .ref b)]) (hP : va_P D vwCl [(b, .inr (7, [.ref q8, .ref q17, .ref q26, .int 0, .ref q34, .int 0, .int 0, .int 0, .int 0, .int 0, .int 0])), (q8, .inl (ca 0, 341, .inl (zen N))), (q17, .inl (ca 0, 341, .inl (fun _ => 0))), (q26, .inl (ca 0, 1364, .inl (fun _ => 0))), (q34, .inl (ca 0, 100, .inl (fun _ => 0)))] H) (hD : va_D A [(b, .inr (7, [.ref q8, .ref q17, .ref q26, .int 0, .ref q34, .int 0, .int 0, .int 0, .int 0, .int 0, .int 0])), (q8, .inl (ca 0, 341, .inl (zen N))), (q17, .inl (ca 0, 341, .inl (fun _ => 0))), (q26, .inl (ca 0, 1364, .inl (fun _ => 0))), (q34, .inl (ca 0, 100, .inl (fun _ => 0)))]) (hS : va_S A s.heap H locs), W p l e ({ frames := 1, cells := 4, slots := 2146, locals := 40 } : Room) s m ([.ref b] : List Value).toArray below meth c H locs 4 2146 (nQ below D A [.ref b] s (fun (u : Nat → Nat) => mW (nA b u) (ca 0) (zNI, z00, z00, z00)) 4 2146) (F0 m 95 ls []) := by
    intro n
    induction n with
    | zero =>
      intro i N H locs ls hn hN hl hP hD hS
      refine lv_iload_n hx hb dX7_init_95 rfl (lv_at hl 0 rfl) ?_
      refine lv_iconst (v := nI 4) hx hb dX7_init_96 (by decide) ?_
      refine lv_icmp_ge (tgt := 118) hx hb dX7_init_97 (by decide) (fun c9 => ?_) (fun c9 => absurd (nI_le (by omega) (by omega)) c9)
      refine lv_aload_n hx hb dX7_init_118 rfl (lv_at hl 1 rfl) ?_
      refine va_get (C := RX7) (T := TX7) (N := 11) hx hb hts hiX7 hown hK.1 hP 0 rfl (ci := 7) rfl 0 (by decide) (hts (.fieldLink RX7 7 "BarrelProcessorModel" "s" "[I") (by decide +kernel)) (fun _ h => h) rfl dX7_init_119 ?_
      refine lv_sipush (v := nI 242) hx hb dX7_init_122 (by decide) ?_
      refine lv_iconst (v := nI 3) hx hb dX7_init_125 (by decide) ?_
      refine va_iast hx hb hK.1 hP hD hS 1 0 rfl rfl (vp_in_nI (by omega) (by decide)) dX7_init_126 (fun H locs hP hD hS => ?_)
      rw [nI_clamp (by omega), zen_u (zf_se (w := 0) (by omega))] at hP hD
      have hP : va_P D vwCl [(b, .inr (7, [.ref q8, .ref q17, .ref q26, .int 0, .ref q34, .int 0, .int 0, .int 0, .int 0, .int 0, .int 0])), (q8, .inl (ca 0, 341, .inl (zen (zu N 15 0 (nI 3))))), (q17, .inl (ca 0, 341, .inl (fun _ => 0))), (q26, .inl (ca 0, 1364, .inl (fun _ => 0))), (q34, .inl (ca 0, 100, .inl (fun _ => 0)))] H := hP
      have hD : va_D A [(b, .inr (7, [.ref q8, .ref q17, .ref q26, .int 0, .ref q34, .int 0, .int 0, .int 0, .int 0, .int 0, .int 0])), (q8, .inl (ca 0, 341, .inl (zen (zu N 15 0 (nI 3))))), (q17, .inl (ca 0, 341, .inl (fun _ => 0))), (q26, .inl (ca 0, 1364, .inl (fun _ => 0))), (q34, .inl (ca 0, 100, .inl (fun _ => 0)))] := hD
      have hN : zu N 15 0 (nI 3) = zNI := hN
      rw [hN] at hP hD
      obtain ⟨u, hu⟩ : ∃ u : Nat → Nat, u = (fun j => ([b, q8, q17, q26, q34] : List Nat).getD j 0) := ⟨_, rfl⟩
      exact n_ret u hx hb hr hlk (by subst hu; exact hP) (by subst hu; exact hD) hS (Nat.le_refl _) (Nat.le_refl _) dX7_init_127
    | succ n ih =>
      intro i N H locs ls hn hN hl hP hD hS
      refine lv_iload_n hx hb dX7_init_95 rfl (lv_at hl 0 rfl) ?_
      refine lv_iconst (v := nI 4) hx hb dX7_init_96 (by decide) ?_
      refine lv_icmp_ge (tgt := 118) hx hb dX7_init_97 (by decide) (fun c9 => absurd c9 (nI_ge (by omega) (by decide))) (fun c9 => ?_)
      refine lv_aload_n hx hb dX7_init_100 rfl (lv_at hl 1 rfl) ?_
      refine va_get (C := RX7) (T := TX7) (N := 11) hx hb hts hiX7 hown hK.1 hP 0 rfl (ci := 7) rfl 0 (by decide) (hts (.fieldLink RX7 7 "BarrelProcessorModel" "s" "[I") (by decide +kernel)) (fun _ h => h) rfl dX7_init_101 ?_
      refine lv_iload_n hx hb dX7_init_104 rfl (lv_at hl 0 rfl) ?_
      refine lv_bipush (v := nI 9) hx hb dX7_init_105 (by decide) ?_
      refine p_cSi (As := [.int (nI i), .int (nI 9)]) (rest := [.ref q8]) ⟨hx, hb, hml, hown, hts⟩ (ct_at_p l (nI i) (nI 9)) (va_cwS 2 hts gX7_init_X7_at rfl rfl rfl (by decide +kernel) ⟨Nat.le_of_ble_eq_true rfl, Nat.le_of_ble_eq_true rfl⟩) hS rfl hl.1 rfl (Nat.le_of_ble_eq_true rfl) dX7_init_107 ⟨Nat.le_of_ble_eq_true rfl, Nat.le_of_ble_eq_true rfl⟩ (fun locs hS => ?_)
      refine z_val (z := nI (14 * i + 9)) (z_at _ _) ?_
      refine lv_iconst (v := (-1)) hx hb dX7_init_110 (by decide) ?_
      refine va_iast hx hb hK.1 hP hD hS 1 0 rfl rfl (vp_in_nI (by omega) (by decide)) dX7_init_111 (fun H locs hP hD hS => ?_)
      rw [nI_clamp (by omega), zen_u (zf_t9 (by omega))] at hP hD
      have hP : va_P D vwCl [(b, .inr (7, [.ref q8, .ref q17, .ref q26, .int 0, .ref q34, .int 0, .int 0, .int 0, .int 0, .int 0, .int 0])), (q8, .inl (ca 0, 341, .inl (zen (zu N 5 i (-1))))), (q17, .inl (ca 0, 341, .inl (fun _ => 0))), (q26, .inl (ca 0, 1364, .inl (fun _ => 0))), (q34, .inl (ca 0, 100, .inl (fun _ => 0)))] H := hP
      have hD : va_D A [(b, .inr (7, [.ref q8, .ref q17, .ref q26, .int 0, .ref q34, .int 0, .int 0, .int 0, .int 0, .int 0, .int 0])), (q8, .inl (ca 0, 341, .inl (zen (zu N 5 i (-1))))), (q17, .inl (ca 0, 341, .inl (fun _ => 0))), (q26, .inl (ca 0, 1364, .inl (fun _ => 0))), (q34, .inl (ca 0, 100, .inl (fun _ => 0)))] := hD
      refine lv_iinc (v := nI (i + 1)) (lv' := [(1, .int (nI (i + 1))), (0, .ref b)]) hx hb dX7_init_112 hl (k := 0) rfl (nI_add _ _) (by decide) rfl (fun ls hl => ?_)
      refine lv_goto (tgt := 95) hx hb dX7_init_115 (by decide) ?_
      exact ih (i + 1) (zu N 5 i (-1)) _ _ _ (by omega) hN hl hP hD hS
  have lp68 : ∀ (n i : Nat) (N : zM) (H : Heap) (locs : List Loc) (ls : Array Slot) (hn : i + n = 8) (hN : zu (nq3 4 0 (nq2 n i N)) 15 0 (nI 3) = zNI) (hl : lv_has ls 2 [(1, .int (nI i)), (0, .ref b)]) (hP : va_P D vwCl [(b, .inr (7, [.ref q8, .ref q17, .ref q26, .int 0, .ref q34, .int 0, .int 0, .int 0, .int 0, .int 0, .int 0])), (q8, .inl (ca 0, 341, .inl (zen N))), (q17, .inl (ca 0, 341, .inl (fun _ => 0))), (q26, .inl (ca 0, 1364, .inl (fun _ => 0))), (q34, .inl (ca 0, 100, .inl (fun _ => 0)))] H) (hD : va_D A [(b, .inr (7, [.ref q8, .ref q17, .ref q26, .int 0, .ref q34, .int 0, .int 0, .int 0, .int 0, .int 0, .int 0])), (q8, .inl (ca 0, 341, .inl (zen N))), (q17, .inl (ca 0, 341, .inl (fun _ => 0))), (q26, .inl (ca 0, 1364, .inl (fun _ => 0))), (q34, .inl (ca 0, 100, .inl (fun _ => 0)))]) (hS : va_S A s.heap H locs), W p l e ({ frames := 1, cells := 4, slots := 2146, locals := 40 } : Room) s m ([.ref b] : List Value).toArray below meth c H locs 4 2146 (nQ below D A [.ref b] s (fun (u : Nat → Nat) => mW (nA b u) (ca 0) (zNI, z00, z00, z00)) 4 2146) (F0 m 68 ls []) := by
    intro n
    induction n with
    | zero =>
      intro i N H locs ls hn hN hl hP hD hS
      refine lv_iload_n hx hb dX7_init_68 rfl (lv_at hl 0 rfl) ?_
      refine lv_bipush (v := nI 8) hx hb dX7_init_69 (by decide) ?_
      refine lv_icmp_ge (tgt := 93) hx hb dX7_init_71 (by decide) (fun c9 => ?_) (fun c9 => absurd (nI_le (by omega) (by omega)) c9)
      refine lv_iconst (v := nI 0) hx hb dX7_init_93 (by decide) ?_
      refine lv_istore_n (lv' := [(1, .int (nI 0)), (0, .ref b)]) hx hb dX7_init_94 rfl hl (by decide) rfl (fun ls hl => ?_)
      exact lp95 4 0 N _ _ _ (by omega) hN hl hP hD hS
    | succ n ih =>
      intro i N H locs ls hn hN hl hP hD hS
      refine lv_iload_n hx hb dX7_init_68 rfl (lv_at hl 0 rfl) ?_
      refine lv_bipush (v := nI 8) hx hb dX7_init_69 (by decide) ?_
      refine lv_icmp_ge (tgt := 93) hx hb dX7_init_71 (by decide) (fun c9 => absurd c9 (nI_ge (by omega) (by decide))) (fun c9 => ?_)
      refine lv_aload_n hx hb dX7_init_74 rfl (lv_at hl 1 rfl) ?_
      refine va_get (C := RX7) (T := TX7) (N := 11) hx hb hts hiX7 hown hK.1 hP 0 rfl (ci := 7) rfl 0 (by decide) (hts (.fieldLink RX7 7 "BarrelProcessorModel" "s" "[I") (by decide +kernel)) (fun _ h => h) rfl dX7_init_75 ?_
      refine lv_sipush (v := nI 234) hx hb dX7_init_78 (by decide) ?_
      refine lv_iload_n hx hb dX7_init_81 rfl (lv_at hl 0 rfl) ?_
      refine lv_iadd hx hb dX7_init_82 ?_
      refine z_val (z := nI (234 + i)) (nI_add _ _) ?_
      refine lv_iload_n hx hb dX7_init_83 rfl (lv_at hl 0 rfl) ?_
      refine lv_iconst (v := nI 4) hx hb dX7_init_84 (by decide) ?_
      refine lv_irem hx hb dX7_init_85 (by decide) ?_
      refine z_val (z := nI (i % 4)) (pk_rem (by omega) (by decide) (by decide)) ?_
      refine va_iast hx hb hK.1 hP hD hS 1 0 rfl rfl (vp_in_nI (by omega) (by decide)) dX7_init_86 (fun H locs hP hD hS => ?_)
      rw [nI_clamp (by omega), zen_u (zf_sl (by omega))] at hP hD
      have hP : va_P D vwCl [(b, .inr (7, [.ref q8, .ref q17, .ref q26, .int 0, .ref q34, .int 0, .int 0, .int 0, .int 0, .int 0, .int 0])), (q8, .inl (ca 0, 341, .inl (zen (zu N 14 i (nI (i % 4)))))), (q17, .inl (ca 0, 341, .inl (fun _ => 0))), (q26, .inl (ca 0, 1364, .inl (fun _ => 0))), (q34, .inl (ca 0, 100, .inl (fun _ => 0)))] H := hP
      have hD : va_D A [(b, .inr (7, [.ref q8, .ref q17, .ref q26, .int 0, .ref q34, .int 0, .int 0, .int 0, .int 0, .int 0, .int 0])), (q8, .inl (ca 0, 341, .inl (zen (zu N 14 i (nI (i % 4)))))), (q17, .inl (ca 0, 341, .inl (fun _ => 0))), (q26, .inl (ca 0, 1364, .inl (fun _ => 0))), (q34, .inl (ca 0, 100, .inl (fun _ => 0)))] := hD
      refine lv_iinc (v := nI (i + 1)) (lv' := [(1, .int (nI (i + 1))), (0, .ref b)]) hx hb dX7_init_87 hl (k := 0) rfl (nI_add _ _) (by decide) rfl (fun ls hl => ?_)
      refine lv_goto (tgt := 68) hx hb dX7_init_90 (by decide) ?_
      exact ih (i + 1) (zu N 14 i (nI (i % 4))) _ _ _ (by omega) hN hl hP hD hS
  have lp41 : ∀ (n i : Nat) (N : zM) (H : Heap) (locs : List Loc) (ls : Array Slot) (hn : i + n = 48) (hN : zu (nq3 4 0 (nq2 8 0 (nq1 n i N))) 15 0 (nI 3) = zNI) (hl : lv_has ls 2 [(1, .int (nI i)), (0, .ref b)]) (hP : va_P D vwCl [(b, .inr (7, [.ref q8, .ref q17, .ref q26, .int 0, .ref q34, .int 0, .int 0, .int 0, .int 0, .int 0, .int 0])), (q8, .inl (ca 0, 341, .inl (zen N))), (q17, .inl (ca 0, 341, .inl (fun _ => 0))), (q26, .inl (ca 0, 1364, .inl (fun _ => 0))), (q34, .inl (ca 0, 100, .inl (fun _ => 0)))] H) (hD : va_D A [(b, .inr (7, [.ref q8, .ref q17, .ref q26, .int 0, .ref q34, .int 0, .int 0, .int 0, .int 0, .int 0, .int 0])), (q8, .inl (ca 0, 341, .inl (zen N))), (q17, .inl (ca 0, 341, .inl (fun _ => 0))), (q26, .inl (ca 0, 1364, .inl (fun _ => 0))), (q34, .inl (ca 0, 100, .inl (fun _ => 0)))]) (hS : va_S A s.heap H locs), W p l e ({ frames := 1, cells := 4, slots := 2146, locals := 40 } : Room) s m ([.ref b] : List Value).toArray below meth c H locs 4 2146 (nQ below D A [.ref b] s (fun (u : Nat → Nat) => mW (nA b u) (ca 0) (zNI, z00, z00, z00)) 4 2146) (F0 m 41 ls []) := by
    intro n
    induction n with
    | zero =>
      intro i N H locs ls hn hN hl hP hD hS
      refine lv_iload_n hx hb dX7_init_41 rfl (lv_at hl 0 rfl) ?_
      refine lv_bipush (v := nI 48) hx hb dX7_init_42 (by decide) ?_
      refine lv_icmp_ge (tgt := 66) hx hb dX7_init_44 (by decide) (fun c9 => ?_) (fun c9 => absurd (nI_le (by omega) (by omega)) c9)
      refine lv_iconst (v := nI 0) hx hb dX7_init_66 (by decide) ?_
      refine lv_istore_n (lv' := [(1, .int (nI 0)), (0, .ref b)]) hx hb dX7_init_67 rfl hl (by decide) rfl (fun ls hl => ?_)
      exact lp68 8 0 N _ _ _ (by omega) hN hl hP hD hS
    | succ n ih =>
      intro i N H locs ls hn hN hl hP hD hS
      refine lv_iload_n hx hb dX7_init_41 rfl (lv_at hl 0 rfl) ?_
      refine lv_bipush (v := nI 48) hx hb dX7_init_42 (by decide) ?_
      refine lv_icmp_ge (tgt := 66) hx hb dX7_init_44 (by decide) (fun c9 => absurd c9 (nI_ge (by omega) (by decide))) (fun c9 => ?_)
      refine lv_aload_n hx hb dX7_init_47 rfl (lv_at hl 1 rfl) ?_
      refine va_get (C := RX7) (T := TX7) (N := 11) hx hb hts hiX7 hown hK.1 hP 0 rfl (ci := 7) rfl 0 (by decide) (hts (.fieldLink RX7 7 "BarrelProcessorModel" "s" "[I") (by decide +kernel)) (fun _ h => h) rfl dX7_init_48 ?_
      refine lv_bipush (v := nI 56) hx hb dX7_init_51 (by decide) ?_
      refine lv_iconst (v := nI 3) hx hb dX7_init_53 (by decide) ?_
      refine lv_iload_n hx hb dX7_init_54 rfl (lv_at hl 0 rfl) ?_
      refine lv_imul hx hb dX7_init_55 ?_
      refine z_val (z := nI (3 * i)) (pk_mul _ _) ?_
      refine lv_iadd hx hb dX7_init_56 ?_
      refine z_val (z := nI (56 + 3 * i)) (nI_add _ _) ?_
      refine lv_bipush (v := nI 11) hx hb dX7_init_57 (by decide) ?_
      refine va_iast hx hb hK.1 hP hD hS 1 0 rfl rfl (vp_in_nI (by omega) (by decide)) dX7_init_59 (fun H locs hP hD hS => ?_)
      rw [nI_clamp (by omega), zen_u (zf_op (by omega))] at hP hD
      have hP : va_P D vwCl [(b, .inr (7, [.ref q8, .ref q17, .ref q26, .int 0, .ref q34, .int 0, .int 0, .int 0, .int 0, .int 0, .int 0])), (q8, .inl (ca 0, 341, .inl (zen (zu N 10 i (nI 11))))), (q17, .inl (ca 0, 341, .inl (fun _ => 0))), (q26, .inl (ca 0, 1364, .inl (fun _ => 0))), (q34, .inl (ca 0, 100, .inl (fun _ => 0)))] H := hP
      have hD : va_D A [(b, .inr (7, [.ref q8, .ref q17, .ref q26, .int 0, .ref q34, .int 0, .int 0, .int 0, .int 0, .int 0, .int 0])), (q8, .inl (ca 0, 341, .inl (zen (zu N 10 i (nI 11))))), (q17, .inl (ca 0, 341, .inl (fun _ => 0))), (q26, .inl (ca 0, 1364, .inl (fun _ => 0))), (q34, .inl (ca 0, 100, .inl (fun _ => 0)))] := hD
      refine lv_iinc (v := nI (i + 1)) (lv' := [(1, .int (nI (i + 1))), (0, .ref b)]) hx hb dX7_init_60 hl (k := 0) rfl (nI_add _ _) (by decide) rfl (fun ls hl => ?_)
      refine lv_goto (tgt := 41) hx hb dX7_init_63 (by decide) ?_
      exact ih (i + 1) (zu N 10 i (nI 11)) _ _ _ (by omega) hN hl hP hD hS
  have hP : va_P D vwCl [(b, .inr (7, [.ref q8, .ref q17, .ref q26, .int 0, .ref q34, .int 0, .int 0, .int 0, .int 0, .int 0, .int 0])), (q8, .inl (ca 0, 341, .inl (zen z00))), (q17, .inl (ca 0, 341, .inl (fun _ => 0))), (q26, .inl (ca 0, 1364, .inl (fun _ => 0))), (q34, .inl (ca 0, 100, .inl (fun _ => 0)))] H := hP
  have hD : va_D A [(b, .inr (7, [.ref q8, .ref q17, .ref q26, .int 0, .ref q34, .int 0, .int 0, .int 0, .int 0, .int 0, .int 0])), (q8, .inl (ca 0, 341, .inl (zen z00))), (q17, .inl (ca 0, 341, .inl (fun _ => 0))), (q26, .inl (ca 0, 1364, .inl (fun _ => 0))), (q34, .inl (ca 0, 100, .inl (fun _ => 0)))] := hD
  refine lv_iconst (v := nI 0) hx hb dX7_init_39 (by decide) ?_
  refine lv_istore_n (lv' := [(1, .int (nI 0)), (0, .ref b)]) hx hb dX7_init_40 rfl hl (by decide) rfl (fun ls hl => ?_)
  exact lp41 48 0 z00 _ _ _ (by omega) rfl hl hP hD hS
