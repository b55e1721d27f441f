theorem us_nn {x y : Int32} (h : ¬ y = nI 0) : vf_n32 (FP.fdiv (FP.i2f x) (FP.i2f y)) := by
  have hy : y.toInt ≠ 0 := fun q => h (Int32.toInt_inj.mp (q.trans (by decide)))
  have h1 := FP.Core.i2f_mag x
  have h2 := FP.Core.fromInt_ge32 (FP.Core.toNat_i2f y) hy
  have h3 := FP.Core.i2f_mag y
  have h4 := FP.Core.fdiv_mag (K := 160) (L := 127) h1 (by omega) (by omega) (by decide) (by decide)
  unfold vf_n32
  rw [UInt32.le_iff_toNat_le, UInt32.toNat_and]
  have e : (0x7fffffff : UInt32).toNat = 2 ^ 31 - 1 := by decide
  rw [e, Nat.and_two_pow_sub_one_eq_mod]
  have e2 : (0x7f800000 : UInt32).toNat = 255 * 2 ^ 23 := by decide
  rw [e2]
  show (FP.fdiv (FP.i2f x) (FP.i2f y)).toNat % 2 ^ 31 ≤ 255 * 2 ^ 23
  have h5 : (FP.Core.fdiv (FP.Core.i2f x) (FP.Core.i2f y)).toNat % 2 ^ 31 ≤ 255 * 2 ^ 23 := by omega
  exact h5
def zCf (l : Launch) (y : MethodName) (ws : List Cond) (rm : Room) (D : va_G) (a : Nat → Nat) (ca : Nat → ClassId) (av : List Value) (Z : Nat → zM) (r : UInt32) (Z' : Nat → zM) : Prop :=
  Met l y ws rm (va_Pc av (zPre D a ca Z)) (va_Qf (fun (r' : UInt32) (_ : Unit) => r' = r) (fun _ t => va_P D vwCl (zW a ca Z') t.heap) (zA a)) 0 0 (zA a)
abbrev zQf (below : List Frame) (D : va_G) (a : Nat → Nat) (ca : Nat → ClassId) (av : List Value) (s : State) (r : UInt32) (Z' : Nat → zM) : State → Prop :=
  MQ below (va_Qf (fun (r' : UInt32) (_ : Unit) => r' = r) (fun _ t => va_P D vwCl (zW a ca Z') t.heap) (zA a)) av.toArray s 0 0 (zA a)
section FR
variable {p : Program} {l : Launch} {e : Env} {R : Room} {s : State} {m : MethodId} {args : Array Value} {below : List Frame} {meth : Method} {c : Code} {H : Heap} {locs : List Loc} {cells slots : Nat} {Q : State → Prop}
variable {cc : ByteArray} {pc : Nat} {ls : Array Slot} {rest st0 : List Value} {D : va_G} {a : Nat → Nat} {cI : ClassId} {ca : Nat → ClassId} {H0 : Heap} {av : List Value}
theorem z_off {Z Z' : Nat → zM} {y : MethodName} {ws ws' : List Cond} {rm : Room} {r : UInt32} {maxL : Nat} {own : String} (hy : plainName y.cls = true) (hw : ws = Cond.code y cc maxL (some .float) :: ws') (hla : (lg_sl av).length ≤ maxL) (ho : y.cls = own)
    (body : ∀ (p : Program) (e : Env) (s : State) (m : MethodId) (below : List Frame) (meth : Method) (c : Code) (ls : Array Slot), p.tables.exec = Jvm.exec → c.code = cc → meth.sig.returnType = some .float → c.maxLocals = maxL → (∀ w ∈ ws, w.before av.toArray s = true) → s.vm.findClass own = some m.cls → meth.locks = false → lv_has ls maxL (lv_args 0 av) → zK D ca s → va_P D vwCl (zW a ca Z) s.heap → va_S (zA a) s.heap s.heap [] →
      W p l e rm s m av.toArray below meth c s.heap [] 0 0 (zQf below D a ca av s r Z') (F0 m 0 ls [])) : zCf l y ws rm D a ca av Z r Z' := by
  refine Met.ofW (cc := cc) (maxL := maxL) (ret := some .float) hy hw ?_
  intro p e s m args below meth c s₁ B hml hv
  obtain ⟨rfl, hP, hK⟩ := hv
  have hl := lv_entry av (n := maxL) hla
  rw [lg_entry_eq]
  generalize (lg_sl av ++ List.replicate (maxL - (lg_sl av).length) Slot.unset).toArray = ls at hl ⊢
  subst ho
  exact body p e s m below meth c ls B.exec B.bytes B.returns hml (atoms_spec (ws := ws) B.pre) (findClass_of_methodNamed B.named) B.notSynchronized hl hK hP va_S.rf
theorem z_retf {Z Z' : Nat → zM} {v r : UInt32} (hx : p.tables.exec = Jvm.exec) (hb : c.code = cc) (hr : meth.sig.returnType = some .float) (hlk : meth.locks = false) (hP : va_P D vwCl (zW a ca Z) H) (hS : va_S (zA a) s.heap H locs) (hdg : decode cc pc = .ok (.freturn, 1)) (hv : v = r) (hZ : Z = Z') : W p l e R s m av.toArray below meth c H locs 0 0 (zQf below D a ca av s r Z') (F0 m pc ls [.float v]) := by
  subst hv
  subst hZ
  exact W.fret hx hb hr (fun t ht hW => ⟨⟨v, (), rfl, rfl, by show va_P D vwCl (zW a ca Z) t.heap; rw [ht]; exact hP⟩, hS.F ht⟩) hS.2.2 hdg hlk
end FR
