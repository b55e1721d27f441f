theorem us_nn {x y : Int32} (h : ¬ y = nI 0) : vf_n32 (FP.fdiv (FP.i2f x) (FP.i2f y)) := by
  have hy : y.toInt ≠ 0 := fun q => h (Int32.toInt_inj.mp (q.trans (by decide)))
  have h1 := FP.Core.i2f_mag x
  have h2 := FP.Core.fromInt_ge32 (FP.Core.toNat_i2f y) hy
  have h3 := FP.Core.i2f_mag y
  have h4 := FP.Core.fdiv_mag (K := 160) (L := 127) h1 (by omega) (by omega) (by decide) (by decide)
  unfold vf_n32
  rw [UInt32.le_iff_toNat_le, UInt32.toNat_and]
  have e : (0x7fffffff : UInt32).toNat = 2 ^ 31 - 1 := by decide
  rw [e, Nat.and_two_pow_sub_one_eq_mod]
  have e2 : (0x7f800000 : UInt32).toNat = 255 * 2 ^ 23 := by decide
  rw [e2]
  show (FP.fdiv (FP.i2f x) (FP.i2f y)).toNat % 2 ^ 31 ≤ 255 * 2 ^ 23
  have h5 : (FP.Core.fdiv (FP.Core.i2f x) (FP.Core.i2f y)).toNat % 2 ^ 31 ≤ 255 * 2 ^ 23 := by omega
  exact h5
def mCf (l : Launch) (y : MethodName) (ws : List Cond) (rm : Room) (D : va_G) (a : Nat → Nat) (cI : ClassId) (av : List Value) (Z : mY) (r : UInt32) (Z' : mY) : Prop :=
  Met l y ws rm (va_Pc av (mPre D a cI Z)) (va_Qf (fun (r' : UInt32) (_ : Unit) => r' = r) (fun _ t => va_P D vwCl (mW a cI Z') t.heap) (mA a)) 0 0 (mA a)
def zCf (l : Launch) (y : MethodName) (ws : List Cond) (rm : Room) (D : va_G) (a : Nat → Nat) (ca : Nat → ClassId) (av : List Value) (Z : Nat → zM) (r : UInt32) (Z' : Nat → zM) : Prop :=
  Met l y ws rm (va_Pc av (zPre D a ca Z)) (va_Qf (fun (r' : UInt32) (_ : Unit) => r' = r) (fun _ t => va_P D vwCl (zW a ca Z') t.heap) (zA a)) 0 0 (zA a)
abbrev mQf (below : List Frame) (D : va_G) (a : Nat → Nat) (cI : ClassId) (av : List Value) (s : State) (r : UInt32) (Z' : mY) : State → Prop :=
  MQ below (va_Qf (fun (r' : UInt32) (_ : Unit) => r' = r) (fun _ t => va_P D vwCl (mW a cI Z') t.heap) (mA a)) av.toArray s 0 0 (mA a)
abbrev zQf (below : List Frame) (D : va_G) (a : Nat → Nat) (ca : Nat → ClassId) (av : List Value) (s : State) (r : UInt32) (Z' : Nat → zM) : State → Prop :=
  MQ below (va_Qf (fun (r' : UInt32) (_ : Unit) => r' = r) (fun _ t => va_P D vwCl (zW a ca Z') t.heap) (zA a)) av.toArray s 0 0 (zA a)
section FR
variable {p : Program} {l : Launch} {e : Env} {R : Room} {s : State} {m : MethodId} {args : Array Value} {below : List Frame} {meth : Method} {c : Code} {H : Heap} {locs : List Loc} {cells slots : Nat} {Q : State → Prop}
variable {cc : ByteArray} {pc : Nat} {ls : Array Slot} {rest st0 : List Value} {D : va_G} {a : Nat → Nat} {cI : ClassId} {ca : Nat → ClassId} {H0 : Heap} {av : List Value}
theorem m_off {Z Z' : mY} {y : MethodName} {ws ws' : List Cond} {rm : Room} {r : UInt32} {maxL : Nat} {own : String} (hy : plainName y.cls = true) (hw : ws = Cond.code y cc maxL (some .float) :: ws') (hla : (lg_sl av).length ≤ maxL) (ho : y.cls = own)
    (body : ∀ (p : Program) (e : Env) (s : State) (m : MethodId) (below : List Frame) (meth : Method) (c : Code) (ls : Array Slot), p.tables.exec = Jvm.exec → c.code = cc → meth.sig.returnType = some .float → c.maxLocals = maxL → (∀ w ∈ ws, w.before av.toArray s = true) → s.vm.findClass own = some m.cls → meth.locks = false → lv_has ls maxL (lv_args 0 av) → mK D cI s → va_P D vwCl (mW a cI Z) s.heap → va_S (mA a) s.heap s.heap [] →
      W p l e rm s m av.toArray below meth c s.heap [] 0 0 (mQf below D a cI av s r Z') (F0 m 0 ls [])) : mCf l y ws rm D a cI av Z r Z' := by
  refine Met.ofW (cc := cc) (maxL := maxL) (ret := some .float) hy hw ?_
  intro p e s m args below meth c s₁ B hml hv
  obtain ⟨rfl, hP, hK⟩ := hv
  have hl := lv_entry av (n := maxL) hla
  rw [lg_entry_eq]
  generalize (lg_sl av ++ List.replicate (maxL - (lg_sl av).length) Slot.unset).toArray = ls at hl ⊢
  subst ho
  exact body p e s m below meth c ls B.exec B.bytes B.returns hml (atoms_spec (ws := ws) B.pre) (findClass_of_methodNamed B.named) B.notSynchronized hl hK hP va_S.rf
theorem z_off {Z Z' : Nat → zM} {y : MethodName} {ws ws' : List Cond} {rm : Room} {r : UInt32} {maxL : Nat} {own : String} (hy : plainName y.cls = true) (hw : ws = Cond.code y cc maxL (some .float) :: ws') (hla : (lg_sl av).length ≤ maxL) (ho : y.cls = own)
    (body : ∀ (p : Program) (e : Env) (s : State) (m : MethodId) (below : List Frame) (meth : Method) (c : Code) (ls : Array Slot), p.tables.exec = Jvm.exec → c.code = cc → meth.sig.returnType = some .float → c.maxLocals = maxL → (∀ w ∈ ws, w.before av.toArray s = true) → s.vm.findClass own = some m.cls → meth.locks = false → lv_has ls maxL (lv_args 0 av) → zK D ca s → va_P D vwCl (zW a ca Z) s.heap → va_S (zA a) s.heap s.heap [] →
      W p l e rm s m av.toArray below meth c s.heap [] 0 0 (zQf below D a ca av s r Z') (F0 m 0 ls [])) : zCf l y ws rm D a ca av Z r Z' := by
  refine Met.ofW (cc := cc) (maxL := maxL) (ret := some .float) hy hw ?_
  intro p e s m args below meth c s₁ B hml hv
  obtain ⟨rfl, hP, hK⟩ := hv
  have hl := lv_entry av (n := maxL) hla
  rw [lg_entry_eq]
  generalize (lg_sl av ++ List.replicate (maxL - (lg_sl av).length) Slot.unset).toArray = ls at hl ⊢
  subst ho
  exact body p e s m below meth c ls B.exec B.bytes B.returns hml (atoms_spec (ws := ws) B.pre) (findClass_of_methodNamed B.named) B.notSynchronized hl hK hP va_S.rf
theorem m_retf {Z Z' : mY} {v r : UInt32} (hx : p.tables.exec = Jvm.exec) (hb : c.code = cc) (hr : meth.sig.returnType = some .float) (hlk : meth.locks = false) (hP : va_P D vwCl (mW a cI Z) H) (hS : va_S (mA a) s.heap H locs) (hdg : decode cc pc = .ok (.freturn, 1)) (hv : v = r) (hZ : Z = Z') : W p l e R s m av.toArray below meth c H locs 0 0 (mQf below D a cI av s r Z') (F0 m pc ls [.float v]) := by
  subst hv
  subst hZ
  exact W.fret hx hb hr (fun t ht hW => ⟨⟨v, (), rfl, rfl, by show va_P D vwCl (mW a cI Z) t.heap; rw [ht]; exact hP⟩, hS.F ht⟩) hS.2.2 hdg hlk
theorem z_retf {Z Z' : Nat → zM} {v r : UInt32} (hx : p.tables.exec = Jvm.exec) (hb : c.code = cc) (hr : meth.sig.returnType = some .float) (hlk : meth.locks = false) (hP : va_P D vwCl (zW a ca Z) H) (hS : va_S (zA a) s.heap H locs) (hdg : decode cc pc = .ok (.freturn, 1)) (hv : v = r) (hZ : Z = Z') : W p l e R s m av.toArray below meth c H locs 0 0 (zQf below D a ca av s r Z') (F0 m pc ls [.float v]) := by
  subst hv
  subst hZ
  exact W.fret hx hb hr (fun t ht hW => ⟨⟨v, (), rfl, rfl, by show va_P D vwCl (zW a ca Z) t.heap; rw [ht]; exact hP⟩, hS.F ht⟩) hS.2.2 hdg hlk
end FR

def g_X7_use  (N : zM) : UInt32 := if (N 16 0) = 0 then FP.fconst0 else FP.fdiv (FP.i2f ((N 16 0) - (N 17 0))) (FP.i2f (N 16 0))
set_option maxHeartbeats 4000000 in
set_option maxRecDepth 100000 in
theorem ct_X7_use (l : Launch) (D : va_G) (a : Nat → Nat) (cI : ClassId) (hJ : mJ a) (N A P X : zM)  : mCf l yX7_use wsX7_use ({ frames := 0, cells := 0, slots := 0, locals := 0 } : Room) D a cI [.ref (a 0)] (N, A, P, X) (g_X7_use N) (N, A, P, X) := by
  have hiX7 : ∀ w ∈ wsX70, w ∈ wsX7_use := by decide +kernel
  refine m_off (cc := cX7_use) (maxL := 1) (own := RX7) (by decide) rfl (Nat.le_of_ble_eq_true rfl) rfl (fun p e s m below meth c ls hx hb hr hml hts hown hlk hl hK hP hS => ?_)
  have hl : lv_has ls 1 [(0, .ref (a 0))] := hl
  refine lv_aload_n hx hb dX7_use_0 rfl (lv_at hl 0 rfl) ?_
  refine mgO0 hx hb hts hiX7 hown hK hP (hts (.fieldLink RX7 7 "BarrelProcessorModel" "s" "[I") (by decide +kernel)) dX7_use_1 ?_
  refine lv_sipush (v := nI 232) hx hb dX7_use_4 (by decide) ?_
  refine m_iald hx hb hK hP mG_s (j := 232) (by omega) (by decide) dX7_use_7 ?_
  refine z_val (z := N 16 0) (zen_of zf_232) ?_
  refine lv_if_ne (tgt := 15) hx hb dX7_use_8 (by decide) (fun c8_1 => ?_) (fun c8_1 => ?_)
  · have bz := c8_1
    refine lv_aload_n hx hb dX7_use_15 rfl (lv_at hl 0 rfl) ?_
    refine mgO0 hx hb hts hiX7 hown hK hP (hts (.fieldLink RX7 7 "BarrelProcessorModel" "s" "[I") (by decide +kernel)) dX7_use_16 ?_
    refine lv_sipush (v := nI 232) hx hb dX7_use_19 (by decide) ?_
    refine m_iald hx hb hK hP mG_s (j := 232) (by omega) (by decide) dX7_use_22 ?_
    refine z_val (z := N 16 0) (zen_of zf_232) ?_
    refine lv_aload_n hx hb dX7_use_23 rfl (lv_at hl 0 rfl) ?_
    refine mgO0 hx hb hts hiX7 hown hK hP (hts (.fieldLink RX7 7 "BarrelProcessorModel" "s" "[I") (by decide +kernel)) dX7_use_24 ?_
    refine lv_sipush (v := nI 233) hx hb dX7_use_27 (by decide) ?_
    refine m_iald hx hb hK hP mG_s (j := 233) (by omega) (by decide) dX7_use_30 ?_
    refine z_val (z := N 17 0) (zen_of zf_233) ?_
    refine lv_isub hx hb dX7_use_31 ?_
    refine lv_i2f hx hb dX7_use_32 ?_
    refine lv_aload_n hx hb dX7_use_33 rfl (lv_at hl 0 rfl) ?_
    refine mgO0 hx hb hts hiX7 hown hK hP (hts (.fieldLink RX7 7 "BarrelProcessorModel" "s" "[I") (by decide +kernel)) dX7_use_34 ?_
    refine lv_sipush (v := nI 232) hx hb dX7_use_37 (by decide) ?_
    refine m_iald hx hb hK hP mG_s (j := 232) (by omega) (by decide) dX7_use_40 ?_
    refine z_val (z := N 16 0) (zen_of zf_232) ?_
    refine lv_i2f hx hb dX7_use_41 ?_
    refine lv_fdiv hx hb dX7_use_42 (us_nn bz) ?_
    exact m_retf hx hb hr hlk hP hS dX7_use_43 (by simp only [g_X7_use, if_neg c8_1]) rfl
  · have bz := c8_1
    refine lv_fconst0 hx hb dX7_use_11 ?_
    refine lv_goto (tgt := 43) hx hb dX7_use_12 (by decide) ?_
    exact m_retf hx hb hr hlk hP hS dX7_use_43 (by simp only [g_X7_use, if_pos c8_1]) rfl
