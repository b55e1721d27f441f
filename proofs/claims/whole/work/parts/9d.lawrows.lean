/-! the law's rows: both worlds at once -/
def lA (s : State) : Nat → Prop := fun q => s.heap.size ≤ q
theorem mW_in {am : Nat → Nat} {cI : ClassId} {Y : mY} {k : Nat} {q : Nat × va_E} (h : (mW am cI Y)[k]? = some q) : mA am q.1 := by
  obtain ⟨h1, rfl⟩ := mW_key k q h
  exact ⟨k, h1, rfl⟩
theorem zW_in {a : Nat → Nat} {ca : Nat → ClassId} {Z : Nat → zM} {k : Nat} {q : Nat × va_E} (h : (zW a ca Z)[k]? = some q) : zA a q.1 := by
  obtain ⟨h1, rfl⟩ := zW_key k q h
  exact ⟨k, h1, rfl⟩
theorem zW_b {a : Nat → Nat} {ca : Nat → ClassId} {Z : Nat → zM} : (zW a ca Z)[114]? = some (a 114, .inr (6, zBF a)) := zW_get (by decide)
theorem zStr_lto {qs qv : Nat} {a : Nat → Nat} {s U : State} {H : Heap} {locs : List Loc} (h : zStr qs qv a s) (hU : U.heap = H) (hS : va_S (lA s) s.heap H locs) (hW : s.WarmedH U.vm) : zStr qs qv a U := by
  subst hU
  exact ⟨vk_R.warm hW h.1, jS.moved hW.alike (h.2.kept (fun q h1 _ => hS.2.1 q h1 (Nat.not_le.mpr h1)))⟩
section LR
variable {p : Program} {l : Launch} {e : Env} {R : Room} {s : State} {m : MethodId} {args : Array Value} {below : List Frame} {meth : Method} {c : Code} {H : Heap} {locs : List Loc} {cells slots : Nat} {Q : State → Prop}
variable {cc : ByteArray} {pc : Nat} {ls : Array Slot} {rest st0 : List Value} {D : va_G} {a am : Nat → Nat} {ca : Nat → ClassId} {cI : ClassId} {Z Z' : Nat → zM} {Y Y' : mY} {qs qv : Nat}
variable {y : MethodName} {bytes : ByteArray} {maxL nL n index : Nat} {ret : Option FieldType} {ws : List Cond} {rm : Room} {Ts : List Cond} {own C : String} {b : Addr} {As : List Value} {r : Int32} {rf : UInt32}
theorem w_Zi (S : CallFix p m c cc nL s args Ts own) (hM : zCi l y ws rm D a ca (.ref b :: As) Z r Z') (cw : CallW R s args own C index y bytes maxL ret ws rm 0 0 n) (hK : zK D ca s) (hP : va_P D vwCl (zW a ca Z) H) (hQ : va_P D vwCl (mW am cI Y) H) (hS : va_S (lA s) s.heap H locs) (hz : ∀ q, zA a q → lA s q) (hd : ∀ q, mA am q → ¬ zA a q) (hrv : ∃ cellB : Cell, H[b]? = some cellB ∧ cellB.vm.isStatics = false ∧ s.vm.findClass C = some cellB.cls) (hn : As.length = n) (hsz : ls.size = nL) (hst : st0 = As.reverse ++ .ref b :: rest) (hW : (rest.map fun v => v.category).sum ≤ 8) (hdg : decode cc pc = .ok (.invokevirtual index, 3)) (hf : cells ≤ R.cells ∧ slots ≤ R.slots)
    (kk : ∀ (H1 : Heap) (locs1 : List Loc), va_P D vwCl (zW a ca Z') H1 → va_P D vwCl (mW am cI Y) H1 → va_S (lA s) s.heap H1 locs1 → W p l e R s m args below meth c H1 locs1 cells slots Q (F0 m (pc + 3) ls (.int r :: rest))) : W p l e R s m args below meth c H locs cells slots Q (F0 m pc ls st0) :=
  va_calli (va_runV (g := F0 m pc ls st0) S hM cw ⟨zBlind, hrv, fun U hU hW => ⟨rfl, by rw [hU]; exact hP, hK.warm hW⟩⟩ rfl hn hsz hst (lv_room hW) hdg hf) hS (fun q _ h => hz q h) hz (fun r' u t H1 l1 ht _ hw hB _ hk1 hS1 => by
    subst hw
    rw [ht] at hB
    exact kk H1 l1 hB (hQ.kept (fun k x hx => hk1 x.1 ((hQ k x hx).lt) (hd x.1 (mW_in hx)))) hS1)
theorem w_Zt (S : CallFix p m c cc nL s args Ts own) (hM : zTi l y ws rm D a ca qs qv (.ref b :: As) Z r Z') (cw : CallW R s args own C index y bytes maxL ret ws rm 0 0 n) (hE : zStr qs qv a s) (hK : zK D ca s) (hP : va_P D vwCl (zW a ca Z) H) (hQ : va_P D vwCl (mW am cI Y) H) (hS : va_S (lA s) s.heap H locs) (hz : ∀ q, zA a q → lA s q) (hd : ∀ q, mA am q → ¬ zA a q) (hrv : ∃ cellB : Cell, H[b]? = some cellB ∧ cellB.vm.isStatics = false ∧ s.vm.findClass C = some cellB.cls) (hn : As.length = n) (hsz : ls.size = nL) (hst : st0 = As.reverse ++ .ref b :: rest) (hW : (rest.map fun v => v.category).sum ≤ 8) (hdg : decode cc pc = .ok (.invokevirtual index, 3)) (hf : cells ≤ R.cells ∧ slots ≤ R.slots)
    (kk : ∀ (H1 : Heap) (locs1 : List Loc), va_P D vwCl (zW a ca Z') H1 → va_P D vwCl (mW am cI Y) H1 → va_S (lA s) s.heap H1 locs1 → W p l e R s m args below meth c H1 locs1 cells slots Q (F0 m (pc + 3) ls (.int r :: rest))) : W p l e R s m args below meth c H locs cells slots Q (F0 m pc ls st0) :=
  va_calli (va_runV (g := F0 m pc ls st0) S hM cw ⟨tBlind, hrv, fun U hU hW => ⟨rfl, ⟨by rw [hU]; exact hP, hK.warm hW⟩, zStr_lto hE hU hS hW⟩⟩ rfl hn hsz hst (lv_room hW) hdg hf) hS (fun q _ h => hz q h) hz (fun r' u t H1 l1 ht _ hw hB _ hk1 hS1 => by
    subst hw
    rw [ht] at hB
    exact kk H1 l1 hB (hQ.kept (fun k x hx => hk1 x.1 ((hQ k x hx).lt) (hd x.1 (mW_in hx)))) hS1)
theorem w_Zf (S : CallFix p m c cc nL s args Ts own) (hM : zCf l y ws rm D a ca (.ref b :: As) Z rf Z') (cw : CallW R s args own C index y bytes maxL ret ws rm 0 0 n) (hK : zK D ca s) (hP : va_P D vwCl (zW a ca Z) H) (hQ : va_P D vwCl (mW am cI Y) H) (hS : va_S (lA s) s.heap H locs) (hz : ∀ q, zA a q → lA s q) (hd : ∀ q, mA am q → ¬ zA a q) (hrv : ∃ cellB : Cell, H[b]? = some cellB ∧ cellB.vm.isStatics = false ∧ s.vm.findClass C = some cellB.cls) (hn : As.length = n) (hsz : ls.size = nL) (hst : st0 = As.reverse ++ .ref b :: rest) (hW : (rest.map fun v => v.category).sum ≤ 8) (hdg : decode cc pc = .ok (.invokevirtual index, 3)) (hf : cells ≤ R.cells ∧ slots ≤ R.slots)
    (kk : ∀ (H1 : Heap) (locs1 : List Loc), va_P D vwCl (zW a ca Z') H1 → va_P D vwCl (mW am cI Y) H1 → va_S (lA s) s.heap H1 locs1 → W p l e R s m args below meth c H1 locs1 cells slots Q (F0 m (pc + 3) ls (.float rf :: rest))) : W p l e R s m args below meth c H locs cells slots Q (F0 m pc ls st0) :=
  va_callf (va_runV (g := F0 m pc ls st0) S hM cw ⟨zBlind, hrv, fun U hU hW => ⟨rfl, by rw [hU]; exact hP, hK.warm hW⟩⟩ rfl hn hsz hst (lv_room hW) hdg hf) hS (fun q _ h => hz q h) hz (fun r' u t H1 l1 ht _ hw hB _ hk1 hS1 => by
    subst hw
    rw [ht] at hB
    exact kk H1 l1 hB (hQ.kept (fun k x hx => hk1 x.1 ((hQ k x hx).lt) (hd x.1 (mW_in hx)))) hS1)
theorem w_Mi (S : CallFix p m c cc nL s args Ts own) (hM : mCi l y ws rm D am cI (.ref b :: As) Y r Y') (cw : CallW R s args own C index y bytes maxL ret ws rm 0 0 n) (hK : mK D cI s) (hP : va_P D vwCl (zW a ca Z) H) (hQ : va_P D vwCl (mW am cI Y) H) (hS : va_S (lA s) s.heap H locs) (hz : ∀ q, mA am q → lA s q) (hd : ∀ q, mA am q → ¬ zA a q) (hrv : ∃ cellB : Cell, H[b]? = some cellB ∧ cellB.vm.isStatics = false ∧ s.vm.findClass C = some cellB.cls) (hn : As.length = n) (hsz : ls.size = nL) (hst : st0 = As.reverse ++ .ref b :: rest) (hW : (rest.map fun v => v.category).sum ≤ 8) (hdg : decode cc pc = .ok (.invokevirtual index, 3)) (hf : cells ≤ R.cells ∧ slots ≤ R.slots)
    (kk : ∀ (H1 : Heap) (locs1 : List Loc), va_P D vwCl (zW a ca Z) H1 → va_P D vwCl (mW am cI Y') H1 → va_S (lA s) s.heap H1 locs1 → W p l e R s m args below meth c H1 locs1 cells slots Q (F0 m (pc + 3) ls (.int r :: rest))) : W p l e R s m args below meth c H locs cells slots Q (F0 m pc ls st0) :=
  va_calli (va_runV (g := F0 m pc ls st0) S hM cw ⟨mBlind, hrv, fun U hU hW => ⟨rfl, by rw [hU]; exact hQ, hK.warm hW⟩⟩ rfl hn hsz hst (lv_room hW) hdg hf) hS (fun q _ h => hz q h) hz (fun r' u t H1 l1 ht _ hw hB _ hk1 hS1 => by
    subst hw
    rw [ht] at hB
    exact kk H1 l1 (hP.kept (fun k x hx => hk1 x.1 ((hP k x hx).lt) (fun q => hd x.1 q (zW_in hx)))) hB hS1)
theorem w_Mf (S : CallFix p m c cc nL s args Ts own) (hM : mCf l y ws rm D am cI (.ref b :: As) Y rf Y') (cw : CallW R s args own C index y bytes maxL ret ws rm 0 0 n) (hK : mK D cI s) (hP : va_P D vwCl (zW a ca Z) H) (hQ : va_P D vwCl (mW am cI Y) H) (hS : va_S (lA s) s.heap H locs) (hz : ∀ q, mA am q → lA s q) (hd : ∀ q, mA am q → ¬ zA a q) (hrv : ∃ cellB : Cell, H[b]? = some cellB ∧ cellB.vm.isStatics = false ∧ s.vm.findClass C = some cellB.cls) (hn : As.length = n) (hsz : ls.size = nL) (hst : st0 = As.reverse ++ .ref b :: rest) (hW : (rest.map fun v => v.category).sum ≤ 8) (hdg : decode cc pc = .ok (.invokevirtual index, 3)) (hf : cells ≤ R.cells ∧ slots ≤ R.slots)
    (kk : ∀ (H1 : Heap) (locs1 : List Loc), va_P D vwCl (zW a ca Z) H1 → va_P D vwCl (mW am cI Y') H1 → va_S (lA s) s.heap H1 locs1 → W p l e R s m args below meth c H1 locs1 cells slots Q (F0 m (pc + 3) ls (.float rf :: rest))) : W p l e R s m args below meth c H locs cells slots Q (F0 m pc ls st0) :=
  va_callf (va_runV (g := F0 m pc ls st0) S hM cw ⟨mBlind, hrv, fun U hU hW => ⟨rfl, by rw [hU]; exact hQ, hK.warm hW⟩⟩ rfl hn hsz hst (lv_room hW) hdg hf) hS (fun q _ h => hz q h) hz (fun r' u t H1 l1 ht _ hw hB _ hk1 hS1 => by
    subst hw
    rw [ht] at hB
    exact kk H1 l1 (hP.kept (fun k x hx => hk1 x.1 ((hP k x hx).lt) (fun q => hd x.1 q (zW_in hx)))) hB hS1)
/-- the int of the script at the place i + k -/
def lx (xs : Nat → Int32) (i k : Nat) : Int32 := xs (nI (i + k)).toNatClampNeg
theorem lw_arg {L i k : Nat} {bS : Nat} {xs : Nat → Int32} {nk : Int} (hx : p.tables.exec = Jvm.exec) (hb : c.code = cc) (hX : va_X bS L xs s s.heap) (hbl : bS < s.heap.size) (hS : va_S (lA s) s.heap H locs) (l0 : ls[0]? = some (.val (.ref bS))) (l3 : ls[3]? = some (.val (.int (nI i)))) (hi : i + k < L) (hL : L ≤ 2048) (e0 : decode cc pc = .ok (.aload_n 0, 1)) (e1 : decode cc (pc + 1) = .ok (.iload_n 3, 1)) (e2 : decode cc (pc + 1 + 1) = .ok (.iconst nk, 1)) (hk : Int32.ofInt nk = nI k) (e3 : decode cc (pc + 1 + 1 + 1) = .ok (.iadd, 1)) (e4 : decode cc (pc + 1 + 1 + 1 + 1) = .ok (.iaload, 1))
    (kk : W p l e R s m args below meth c H locs cells slots Q (F0 m (pc + 5) ls (.int (lx xs i k) :: rest))) : W p l e R s m args below meth c H locs cells slots Q (F0 m pc ls rest) := by
  refine lv_aload_n hx hb e0 rfl l0 ?_
  refine lv_iload_n hx hb e1 rfl l3 ?_
  refine lv_iconst (v := nI k) hx hb e2 hk ?_
  refine lv_iadd hx hb e3 ?_
  refine z_val (z := nI (i + k)) (nI_add _ _) ?_
  exact va_sld hx hb hX hbl (Nat.not_le.mpr hbl) hS (vp_in_nI hi (by omega)) e4 kk
def bz (x : Int32) : Int32 := if x = 0 then nI 0 else nI 1
theorem lw_bool {x : Int32} (hx : p.tables.exec = Jvm.exec) (hb : c.code = cc) (e0 : decode cc pc = .ok (.ifCond .eq 7, 3)) (e1 : decode cc (pc + 3) = .ok (.iconst 1, 1)) (e2 : decode cc (pc + 3 + 1) = .ok (.goto 4, 3)) (e3 : decode cc (pc + 7) = .ok (.iconst 0, 1))
    (kk : W p l e R s m args below meth c H locs cells slots Q (F0 m (pc + 8) ls (.int (bz x) :: rest))) : W p l e R s m args below meth c H locs cells slots Q (F0 m pc ls (.int x :: rest)) := by
  refine lv_if_eq (tgt := pc + 7) hx hb e0 (by omega) (fun q => ?_) (fun q => ?_)
  · refine lv_iconst (v := nI 0) hx hb e3 (by decide) ?_
    have k := kk
    unfold bz at k
    rw [if_pos q] at k
    exact k
  · refine lv_iconst (v := nI 1) hx hb e1 (by decide) ?_
    refine lv_goto (tgt := pc + 8) hx hb e2 (by omega) ?_
    have k := kk
    unfold bz at k
    rw [if_neg q] at k
    exact k
end LR
/-- what holds all along the law's loop -/
def LX (p : Program) (s : State) (m : MethodId) (c : Code) (b L : Nat) (xs : Nat → Int32) (D : va_G) (a : Nat → Nat) (ca : Nat → ClassId) (am : Nat → Nat) (qs qv : Nat) : Prop :=
  p.tables.exec = Jvm.exec ∧ c.code = cL_law ∧ c.maxLocals = 8 ∧ s.vm.findClass RL = some m.cls ∧ (∀ w ∈ wsL_law, w.before #[Value.ref b] s = true) ∧ va_X b L xs s s.heap ∧ b < s.heap.size ∧ L ≤ 2048 ∧ zJ a ∧ mJ am ∧ zK D ca s ∧ mK D (ca 0) s ∧ zStr qs qv a s ∧ (∀ q, zA a q → lA s q) ∧ (∀ q, mA am q → lA s q) ∧ (∀ q, mA am q → ¬ zA a q)
/-- the float's cast is a number -/
theorem us_dn {r : UInt32} (h : vf_n32 r) : vf_n64 (FP.f2d r) := by
  unfold vf_n32 at h
  rw [UInt32.le_iff_toNat_le, UInt32.toNat_and, show (0x7fffffff : UInt32).toNat = 2 ^ 31 - 1 by decide, Nat.and_two_pow_sub_one_eq_mod, show (0x7f800000 : UInt32).toNat = 2139095040 by decide] at h
  unfold vf_n64
  rw [UInt64.le_iff_toNat_le, UInt64.toNat_and, show (0x7fffffffffffffff : UInt64).toNat = 2 ^ 63 - 1 by decide, Nat.and_two_pow_sub_one_eq_mod, show (0x7ff0000000000000 : UInt64).toNat = 9218868437227405312 by decide]
  refine Nat.le_of_not_lt (fun q => ?_)
  have h1 := (FP.Core.isNaN_bits _).mpr q
  have h2 : FP.Core.fIsNaN r = true := (FP.f2d_nan r).symm.trans h1
  have h3 := (FP.Core.isNaN_bits32 r).mp h2
  omega
theorem use_n (N : zM) : vf_n32 (g_X7_use N) := by
  unfold g_X7_use
  by_cases h : N 16 0 = 0
  · rw [if_pos h]
    unfold vf_n32
    decide
  · rw [if_neg h]
    exact us_nn h
