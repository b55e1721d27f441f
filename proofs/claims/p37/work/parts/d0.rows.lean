/-! rows for the law's own methods -/
def lA (s : State) : Nat → Prop := fun q => s.heap.size ≤ q
def zB (a a2 : Nat → Nat) : Nat → Prop := fun q => zA a q ∨ zA a2 q
theorem zW_in {a : Nat → Nat} {ca : Nat → ClassId} {Z : Nat → zM} {k : Nat} {q : Nat × va_E} (h : (zW a ca Z)[k]? = some q) : zA a q.1 := by
  obtain ⟨h1, rfl⟩ := zW_key k q h
  exact ⟨k, h1, rfl⟩
theorem zW_b {a : Nat → Nat} {ca : Nat → ClassId} {Z : Nat → zM} : (zW a ca Z)[114]? = some (a 114, .inr (6, zBF a)) := zW_get (by decide)
theorem zStr_toA {qs qv : Nat} {a : Nat → Nat} {A : Nat → Prop} {s U : State} {H : Heap} {locs : List Loc} (h : zStr qs qv a s) (hE : jS qs qv A s s.heap) (hU : U.heap = H) (hS : va_S A s.heap H locs) (hW : s.WarmedH U.vm) (hn : ∀ q, zA a q → A q) : zStr qs qv a U := by
  subst hU
  exact ⟨vk_R.warm hW h.1, (jS.moved hW.alike (hE.kept hS.2.1)).narrow hn⟩
/-- an answer 1, the state but for the trial machine as it was -/
def hTi (l : Launch) (y : MethodName) (ws : List Cond) (rm : Room) (D : va_G) (a : Nat → Nat) (ca : Nat → ClassId) (qs qv : Nat) (av : List Value) (Z : Nat → zM) : Prop :=
  Met l y ws rm (va_Pc av (tPre D a ca qs qv Z)) (va_Qi (fun (r' : Int32) (T : zM) => r' = nI 1 ∧ xR T) (fun T t => va_P D vwCl (zW a ca (va_up Z 1 T)) t.heap) (zA a)) 0 0 (zA a)
abbrev hQi (below : List Frame) (D : va_G) (a : Nat → Nat) (ca : Nat → ClassId) (av : List Value) (s : State) (Z : Nat → zM) : State → Prop :=
  MQ below (va_Qi (fun (r' : Int32) (T : zM) => r' = nI 1 ∧ xR T) (fun T t => va_P D vwCl (zW a ca (va_up Z 1 T)) t.heap) (zA a)) av.toArray s 0 0 (zA a)
/-- two objects: an answer 1, both but for their trial machines as they were -/
def sPre (D : va_G) (a a2 : Nat → Nat) (ca : Nat → ClassId) (Z Z2 : Nat → zM) (U : State) : Prop := va_P D vwCl (zW a ca Z) U.heap ∧ va_P D vwCl (zW a2 ca Z2) U.heap ∧ zK D ca U
theorem sBlind {D : va_G} {a a2 : Nat → Nat} {ca : Nat → ClassId} {Z Z2 : Nat → zM} {av : List Value} : FrameBlind (va_Pc av (sPre D a a2 ca Z Z2)) := fun v U g mk q => ⟨q.1, q.2.1, q.2.2.1, q.2.2.2.call⟩
def sTi (l : Launch) (y : MethodName) (ws : List Cond) (rm : Room) (D : va_G) (a a2 : Nat → Nat) (ca : Nat → ClassId) (av : List Value) (Z Z2 : Nat → zM) : Prop :=
  Met l y ws rm (va_Pc av (sPre D a a2 ca Z Z2)) (va_Qi (fun (r' : Int32) (T : zM × zM) => r' = nI 1 ∧ xR T.1 ∧ xR T.2) (fun T t => va_P D vwCl (zW a ca (va_up Z 1 T.1)) t.heap ∧ va_P D vwCl (zW a2 ca (va_up Z2 1 T.2)) t.heap) (zB a a2)) 0 0 (zB a a2)
abbrev sQi (below : List Frame) (D : va_G) (a a2 : Nat → Nat) (ca : Nat → ClassId) (av : List Value) (s : State) (Z Z2 : Nat → zM) : State → Prop :=
  MQ below (va_Qi (fun (r' : Int32) (T : zM × zM) => r' = nI 1 ∧ xR T.1 ∧ xR T.2) (fun T t => va_P D vwCl (zW a ca (va_up Z 1 T.1)) t.heap ∧ va_P D vwCl (zW a2 ca (va_up Z2 1 T.2)) t.heap) (zB a a2)) av.toArray s 0 0 (zB a a2)
/-- an int out of the script's array, which stays as it is -/
def xPre (b L : Nat) (xs : Nat → Int32) (U : State) : Prop := va_X b L xs U U.heap ∧ b < U.heap.size
theorem xBlind {b L : Nat} {xs : Nat → Int32} {av : List Value} : FrameBlind (va_Pc av (xPre b L xs)) := fun v U g mk q => ⟨q.1, va_X.moved (u := U) (U := U.calling g mk v) (Vm.Alike.refl U.vm) q.2.1, q.2.2⟩
def xTi (l : Launch) (y : MethodName) (ws : List Cond) (rm : Room) (b L : Nat) (xs : Nat → Int32) (av : List Value) (r : Int32) : Prop :=
  Met l y ws rm (va_Pc av (xPre b L xs)) (va_Qi (fun (r' : Int32) (_ : Unit) => r' = r) (fun _ _ => True) (fun _ => False)) 0 0 (fun _ => False)
abbrev xQi (below : List Frame) (av : List Value) (s : State) (r : Int32) : State → Prop :=
  MQ below (va_Qi (fun (r' : Int32) (_ : Unit) => r' = r) (fun _ _ => True) (fun _ => False)) av.toArray s 0 0 (fun _ => False)
section LR
variable {p : Program} {l : Launch} {e : Env} {R : Room} {s : State} {m : MethodId} {args : Array Value} {below : List Frame} {meth : Method} {c : Code} {H : Heap} {locs : List Loc} {cells slots : Nat} {Q : State → Prop} {A : Nat → Prop}
variable {cc : ByteArray} {pc : Nat} {ls : Array Slot} {rest st0 : List Value} {D : va_G} {a a2 : Nat → Nat} {ca : Nat → ClassId} {Z Z2 Z' : Nat → zM} {qs qv : Nat} {av : List Value}
variable {y : MethodName} {bytes : ByteArray} {maxL nL n index : Nat} {ret : Option FieldType} {ws : List Cond} {rm : Room} {Ts : List Cond} {own C : String} {b : Addr} {As : List Value} {r : Int32} {rf : UInt32}
theorem h_ofi {ws ws' : List Cond} {maxL : Nat} {rt : FieldType} (hy : plainName y.cls = true) (hw : ws = Cond.code y cc maxL (some rt) :: ws') (hla : (lg_sl av).length ≤ maxL) (ho : y.cls = own)
    (body : ∀ (p : Program) (e : Env) (s : State) (m : MethodId) (below : List Frame) (meth : Method) (c : Code) (ls : Array Slot), p.tables.exec = Jvm.exec → c.code = cc → meth.sig.returnType = some rt → c.maxLocals = maxL → (∀ w ∈ ws, w.before av.toArray s = true) → s.vm.findClass own = some m.cls → meth.locks = false → lv_has ls maxL (lv_args 0 av) → zK D ca s → zStr qs qv a s → va_P D vwCl (zW a ca Z) s.heap → va_S (zA a) s.heap s.heap [] →
      W p l e rm s m av.toArray below meth c s.heap [] 0 0 (hQi below D a ca av s Z) (F0 m 0 ls [])) : hTi l y ws rm D a ca qs qv av Z := by
  refine Met.ofW (cc := cc) (maxL := maxL) (ret := some rt) hy hw ?_
  intro p e s m args below meth c s₁ B hml hv
  obtain ⟨rfl, ⟨hP, hK⟩, hE⟩ := hv
  have hl := lv_entry av (n := maxL) hla
  rw [lg_entry_eq]
  generalize (lg_sl av ++ List.replicate (maxL - (lg_sl av).length) Slot.unset).toArray = ls at hl ⊢
  subst ho
  exact body p e s m below meth c ls B.exec B.bytes B.returns hml (atoms_spec (ws := ws) B.pre) (findClass_of_methodNamed B.named) B.notSynchronized hl hK hE hP va_S.rf
theorem h_reti {rt : FieldType} {v : Int32} {T : zM} (hx : p.tables.exec = Jvm.exec) (hb : c.code = cc) (hr : meth.sig.returnType = some rt) (hlk : meth.locks = false) (hn : narrow rt (.int v) = .int v) (hP : va_P D vwCl (zW a ca Z') H) (hS : va_S (zA a) s.heap H locs) (hdg : decode cc pc = .ok (.ireturn, 1)) (hv : v = nI 1) (hT : xR T) (hZ : Z' = va_up Z 1 T) : W p l e R s m av.toArray below meth c H locs 0 0 (hQi below D a ca av s Z) (F0 m pc ls [.int v]) := by
  subst hZ
  exact W.zret hx hb hr hn (fun t ht hW => ⟨⟨v, T, rfl, ⟨hv, hT⟩, by show va_P D vwCl (zW a ca (va_up Z 1 T)) t.heap; rw [ht]; exact hP⟩, hS.F ht⟩) hS.2.2 hdg hlk
theorem s_ofi {ws ws' : List Cond} {maxL : Nat} {rt : FieldType} (hy : plainName y.cls = true) (hw : ws = Cond.code y cc maxL (some rt) :: ws') (hla : (lg_sl av).length ≤ maxL) (ho : y.cls = own)
    (body : ∀ (p : Program) (e : Env) (s : State) (m : MethodId) (below : List Frame) (meth : Method) (c : Code) (ls : Array Slot), p.tables.exec = Jvm.exec → c.code = cc → meth.sig.returnType = some rt → c.maxLocals = maxL → (∀ w ∈ ws, w.before av.toArray s = true) → s.vm.findClass own = some m.cls → meth.locks = false → lv_has ls maxL (lv_args 0 av) → zK D ca s → va_P D vwCl (zW a ca Z) s.heap → va_P D vwCl (zW a2 ca Z2) s.heap → va_S (zB a a2) s.heap s.heap [] →
      W p l e rm s m av.toArray below meth c s.heap [] 0 0 (sQi below D a a2 ca av s Z Z2) (F0 m 0 ls [])) : sTi l y ws rm D a a2 ca av Z Z2 := by
  refine Met.ofW (cc := cc) (maxL := maxL) (ret := some rt) hy hw ?_
  intro p e s m args below meth c s₁ B hml hv
  obtain ⟨rfl, hP, hQ, hK⟩ := hv
  have hl := lv_entry av (n := maxL) hla
  rw [lg_entry_eq]
  generalize (lg_sl av ++ List.replicate (maxL - (lg_sl av).length) Slot.unset).toArray = ls at hl ⊢
  subst ho
  exact body p e s m below meth c ls B.exec B.bytes B.returns hml (atoms_spec (ws := ws) B.pre) (findClass_of_methodNamed B.named) B.notSynchronized hl hK hP hQ va_S.rf
theorem s_reti {rt : FieldType} {v : Int32} {T T2 : zM} (hx : p.tables.exec = Jvm.exec) (hb : c.code = cc) (hr : meth.sig.returnType = some rt) (hlk : meth.locks = false) (hn : narrow rt (.int v) = .int v) (hP : va_P D vwCl (zW a ca (va_up Z 1 T)) H) (hQ : va_P D vwCl (zW a2 ca (va_up Z2 1 T2)) H) (hS : va_S (zB a a2) s.heap H locs) (hdg : decode cc pc = .ok (.ireturn, 1)) (hv : v = nI 1) (hT : xR T) (hT2 : xR T2) : W p l e R s m av.toArray below meth c H locs 0 0 (sQi below D a a2 ca av s Z Z2) (F0 m pc ls [.int v]) :=
  W.zret hx hb hr hn (fun t ht hW => ⟨⟨v, (T, T2), rfl, ⟨hv, hT, hT2⟩, by show va_P D vwCl (zW a ca (va_up Z 1 T)) t.heap ∧ va_P D vwCl (zW a2 ca (va_up Z2 1 T2)) t.heap; rw [ht]; exact ⟨hP, hQ⟩⟩, hS.F ht⟩) hS.2.2 hdg hlk
theorem x_ofi {b L : Nat} {xs : Nat → Int32} {ws ws' : List Cond} {maxL : Nat} {rt : FieldType} (hy : plainName y.cls = true) (hw : ws = Cond.code y cc maxL (some rt) :: ws') (hla : (lg_sl av).length ≤ maxL) (ho : y.cls = own)
    (body : ∀ (p : Program) (e : Env) (s : State) (m : MethodId) (below : List Frame) (meth : Method) (c : Code) (ls : Array Slot), p.tables.exec = Jvm.exec → c.code = cc → meth.sig.returnType = some rt → c.maxLocals = maxL → (∀ w ∈ ws, w.before av.toArray s = true) → s.vm.findClass own = some m.cls → meth.locks = false → lv_has ls maxL (lv_args 0 av) → va_X b L xs s s.heap → b < s.heap.size → va_S (fun _ => False) s.heap s.heap [] →
      W p l e rm s m av.toArray below meth c s.heap [] 0 0 (xQi below av s r) (F0 m 0 ls [])) : xTi l y ws rm b L xs av r := by
  refine Met.ofW (cc := cc) (maxL := maxL) (ret := some rt) hy hw ?_
  intro p e s m args below meth c s₁ B hml hv
  obtain ⟨rfl, hX, hbl⟩ := hv
  have hl := lv_entry av (n := maxL) hla
  rw [lg_entry_eq]
  generalize (lg_sl av ++ List.replicate (maxL - (lg_sl av).length) Slot.unset).toArray = ls at hl ⊢
  subst ho
  exact body p e s m below meth c ls B.exec B.bytes B.returns hml (atoms_spec (ws := ws) B.pre) (findClass_of_methodNamed B.named) B.notSynchronized hl hX hbl va_S.rf
theorem x_reti {rt : FieldType} {v : Int32} (hx : p.tables.exec = Jvm.exec) (hb : c.code = cc) (hr : meth.sig.returnType = some rt) (hlk : meth.locks = false) (hn : narrow rt (.int v) = .int v) (hS : va_S (fun _ => False) s.heap H locs) (hdg : decode cc pc = .ok (.ireturn, 1)) (hv : v = r) : W p l e R s m av.toArray below meth c H locs 0 0 (xQi below av s r) (F0 m pc ls [.int v]) :=
  W.zret hx hb hr hn (fun t ht hW => ⟨⟨v, (), rfl, hv, trivial⟩, hS.F ht⟩) hS.2.2 hdg hlk
/-- a float's call -/
theorem z_cVf (S : CallFix p m c cc nL s args Ts own) (hM : zCf l y ws rm D a ca (.ref b :: As) Z rf Z') (cw : CallW R s args own C index y bytes maxL ret ws rm 0 0 n) (hK : zK D ca s) (hP : va_P D vwCl (zW a ca Z) H) (hS : va_S (zA a) s.heap H locs) (hrv : ∃ cellB : Cell, H[b]? = some cellB ∧ cellB.vm.isStatics = false ∧ s.vm.findClass C = some cellB.cls) (hn : As.length = n) (hsz : ls.size = nL) (hst : st0 = As.reverse ++ .ref b :: rest) (hW : (rest.map fun v => v.category).sum ≤ 8) (hdg : decode cc pc = .ok (.invokevirtual index, 3)) (hf : cells ≤ R.cells ∧ slots ≤ R.slots)
    (kk : ∀ (H1 : Heap) (locs1 : List Loc), va_P D vwCl (zW a ca Z') H1 → va_S (zA a) s.heap H1 locs1 → W p l e R s m args below meth c H1 locs1 cells slots Q (F0 m (pc + 3) ls (.float rf :: rest))) : W p l e R s m args below meth c H locs cells slots Q (F0 m pc ls st0) :=
  va_callf (va_runV (g := F0 m pc ls st0) S hM cw ⟨zBlind, hrv, fun U hU hW => ⟨rfl, by rw [hU]; exact hP, hK.warm hW⟩⟩ rfl hn hsz hst (lv_room hW) hdg hf) hS (fun _ _ h => h) (fun _ h => h) (fun r' u t H1 l1 ht _ hw hB _ _ hS1 => by
    subst hw
    rw [ht] at hB
    exact kk H1 l1 hB hS1)
/-! two objects: a call of the one keeps the other's cells -/
theorem w2_i (S : CallFix p m c cc nL s args Ts own) (hM : zCi l y ws rm D a ca (.ref b :: As) Z r Z') (cw : CallW R s args own C index y bytes maxL ret ws rm 0 0 n) (hK : zK D ca s) (hP : va_P D vwCl (zW a ca Z) H) (hQ : va_P D vwCl (zW a2 ca Z2) H) (hS : va_S A s.heap H locs) (hz : ∀ q, zA a q → A q) (hd : ∀ q, zA a2 q → ¬ zA a q) (hrv : ∃ cellB : Cell, H[b]? = some cellB ∧ cellB.vm.isStatics = false ∧ s.vm.findClass C = some cellB.cls) (hn : As.length = n) (hsz : ls.size = nL) (hst : st0 = As.reverse ++ .ref b :: rest) (hW : (rest.map fun v => v.category).sum ≤ 8) (hdg : decode cc pc = .ok (.invokevirtual index, 3)) (hf : cells ≤ R.cells ∧ slots ≤ R.slots)
    (kk : ∀ (H1 : Heap) (locs1 : List Loc), va_P D vwCl (zW a ca Z') H1 → va_P D vwCl (zW a2 ca Z2) H1 → va_S A s.heap H1 locs1 → W p l e R s m args below meth c H1 locs1 cells slots Q (F0 m (pc + 3) ls (.int r :: rest))) : W p l e R s m args below meth c H locs cells slots Q (F0 m pc ls st0) :=
  va_calli (va_runV (g := F0 m pc ls st0) S hM cw ⟨zBlind, hrv, fun U hU hW => ⟨rfl, by rw [hU]; exact hP, hK.warm hW⟩⟩ rfl hn hsz hst (lv_room hW) hdg hf) hS (fun q _ h => hz q h) hz (fun r' u t H1 l1 ht _ hw hB _ hk1 hS1 => by
    subst hw
    rw [ht] at hB
    exact kk H1 l1 hB (hQ.kept (fun k x hx => hk1 x.1 ((hQ k x hx).lt) (hd x.1 (zW_in hx)))) hS1)
theorem w2_t (S : CallFix p m c cc nL s args Ts own) (hM : zTi l y ws rm D a ca qs qv (.ref b :: As) Z r Z') (cw : CallW R s args own C index y bytes maxL ret ws rm 0 0 n) (hE : zStr qs qv a s) (hJA : jS qs qv A s s.heap) (hK : zK D ca s) (hP : va_P D vwCl (zW a ca Z) H) (hQ : va_P D vwCl (zW a2 ca Z2) H) (hS : va_S A s.heap H locs) (hz : ∀ q, zA a q → A q) (hd : ∀ q, zA a2 q → ¬ zA a q) (hrv : ∃ cellB : Cell, H[b]? = some cellB ∧ cellB.vm.isStatics = false ∧ s.vm.findClass C = some cellB.cls) (hn : As.length = n) (hsz : ls.size = nL) (hst : st0 = As.reverse ++ .ref b :: rest) (hW : (rest.map fun v => v.category).sum ≤ 8) (hdg : decode cc pc = .ok (.invokevirtual index, 3)) (hf : cells ≤ R.cells ∧ slots ≤ R.slots)
    (kk : ∀ (H1 : Heap) (locs1 : List Loc), va_P D vwCl (zW a ca Z') H1 → va_P D vwCl (zW a2 ca Z2) H1 → va_S A s.heap H1 locs1 → W p l e R s m args below meth c H1 locs1 cells slots Q (F0 m (pc + 3) ls (.int r :: rest))) : W p l e R s m args below meth c H locs cells slots Q (F0 m pc ls st0) :=
  va_calli (va_runV (g := F0 m pc ls st0) S hM cw ⟨tBlind, hrv, fun U hU hW => ⟨rfl, ⟨by rw [hU]; exact hP, hK.warm hW⟩, zStr_toA hE hJA hU hS hW hz⟩⟩ rfl hn hsz hst (lv_room hW) hdg hf) hS (fun q _ h => hz q h) hz (fun r' u t H1 l1 ht _ hw hB _ hk1 hS1 => by
    subst hw
    rw [ht] at hB
    exact kk H1 l1 hB (hQ.kept (fun k x hx => hk1 x.1 ((hQ k x hx).lt) (hd x.1 (zW_in hx)))) hS1)
theorem w2_S (S : CallFix p m c cc nL s args Ts own) (hM : zTi l y ws rm D a ca qs qv As Z r Z') (cw : CallB R s args own index y bytes maxL ret ws rm 0 0 n ∧ (Cond.static y).before args s = true) (hE : zStr qs qv a s) (hJA : jS qs qv A s s.heap) (hK : zK D ca s) (hP : va_P D vwCl (zW a ca Z) H) (hQ : va_P D vwCl (zW a2 ca Z2) H) (hS : va_S A s.heap H locs) (hz : ∀ q, zA a q → A q) (hd : ∀ q, zA a2 q → ¬ zA a q) (hn : As.length = n) (hsz : ls.size = nL) (hst : st0 = As.reverse ++ rest) (hW : (rest.map fun v => v.category).sum ≤ 8) (hdg : decode cc pc = .ok (.invokestatic index, 3)) (hf : cells ≤ R.cells ∧ slots ≤ R.slots)
    (kk : ∀ (H1 : Heap) (locs1 : List Loc), va_P D vwCl (zW a ca Z') H1 → va_P D vwCl (zW a2 ca Z2) H1 → va_S A s.heap H1 locs1 → W p l e R s m args below meth c H1 locs1 cells slots Q (F0 m (pc + 3) ls (.int r :: rest))) : W p l e R s m args below meth c H locs cells slots Q (F0 m pc ls st0) :=
  va_calli (va_runS (g := F0 m pc ls st0) S hM cw ⟨tBlind, fun U hU hW => ⟨rfl, ⟨by rw [hU]; exact hP, hK.warm hW⟩, zStr_toA hE hJA hU hS hW hz⟩⟩ rfl hn hsz hst (lv_room hW) hdg hf) hS (fun q _ h => hz q h) hz (fun r' u t H1 l1 ht _ hw hB _ hk1 hS1 => by
    subst hw
    rw [ht] at hB
    exact kk H1 l1 hB (hQ.kept (fun k x hx => hk1 x.1 ((hQ k x hx).lt) (hd x.1 (zW_in hx)))) hS1)
theorem w2_h (S : CallFix p m c cc nL s args Ts own) (hM : hTi l y ws rm D a ca qs qv As Z) (cw : CallB R s args own index y bytes maxL ret ws rm 0 0 n ∧ (Cond.static y).before args s = true) (hE : zStr qs qv a s) (hJA : jS qs qv A s s.heap) (hK : zK D ca s) (hP : va_P D vwCl (zW a ca Z) H) (hQ : va_P D vwCl (zW a2 ca Z2) H) (hS : va_S A s.heap H locs) (hz : ∀ q, zA a q → A q) (hd : ∀ q, zA a2 q → ¬ zA a q) (hn : As.length = n) (hsz : ls.size = nL) (hst : st0 = As.reverse ++ rest) (hW : (rest.map fun v => v.category).sum ≤ 8) (hdg : decode cc pc = .ok (.invokestatic index, 3)) (hf : cells ≤ R.cells ∧ slots ≤ R.slots)
    (kk : ∀ (T : zM) (H1 : Heap) (locs1 : List Loc), xR T → va_P D vwCl (zW a ca (va_up Z 1 T)) H1 → va_P D vwCl (zW a2 ca Z2) H1 → va_S A s.heap H1 locs1 → W p l e R s m args below meth c H1 locs1 cells slots Q (F0 m (pc + 3) ls (.int (nI 1) :: rest))) : W p l e R s m args below meth c H locs cells slots Q (F0 m pc ls st0) :=
  va_calli (va_runS (g := F0 m pc ls st0) S hM cw ⟨tBlind, fun U hU hW => ⟨rfl, ⟨by rw [hU]; exact hP, hK.warm hW⟩, zStr_toA hE hJA hU hS hW hz⟩⟩ rfl hn hsz hst (lv_room hW) hdg hf) hS (fun q _ h => hz q h) hz (fun r' T t H1 l1 ht _ hw hB _ hk1 hS1 => by
    obtain ⟨hw1, hw2⟩ := hw
    subst hw1
    rw [ht] at hB
    exact kk T H1 l1 hw2 hB (hQ.kept (fun k x hx => hk1 x.1 ((hQ k x hx).lt) (hd x.1 (zW_in hx)))) hS1)
theorem w2_s (S : CallFix p m c cc nL s args Ts own) (hM : sTi l y ws rm D a a2 ca As Z Z2) (cw : CallB R s args own index y bytes maxL ret ws rm 0 0 n ∧ (Cond.static y).before args s = true) (hK : zK D ca s) (hP : va_P D vwCl (zW a ca Z) H) (hQ : va_P D vwCl (zW a2 ca Z2) H) (hS : va_S A s.heap H locs) (hz : ∀ q, zA a q → A q) (hz2 : ∀ q, zA a2 q → A q) (hn : As.length = n) (hsz : ls.size = nL) (hst : st0 = As.reverse ++ rest) (hW : (rest.map fun v => v.category).sum ≤ 8) (hdg : decode cc pc = .ok (.invokestatic index, 3)) (hf : cells ≤ R.cells ∧ slots ≤ R.slots)
    (kk : ∀ (T T2 : zM) (H1 : Heap) (locs1 : List Loc), xR T → xR T2 → va_P D vwCl (zW a ca (va_up Z 1 T)) H1 → va_P D vwCl (zW a2 ca (va_up Z2 1 T2)) H1 → va_S A s.heap H1 locs1 → W p l e R s m args below meth c H1 locs1 cells slots Q (F0 m (pc + 3) ls (.int (nI 1) :: rest))) : W p l e R s m args below meth c H locs cells slots Q (F0 m pc ls st0) :=
  va_calli (va_runS (g := F0 m pc ls st0) S hM cw ⟨sBlind, fun U hU hW => ⟨rfl, by rw [hU]; exact hP, by rw [hU]; exact hQ, hK.warm hW⟩⟩ rfl hn hsz hst (lv_room hW) hdg hf) hS (fun q _ h => h.elim (hz q) (hz2 q)) (fun q h => h.elim (hz q) (hz2 q)) (fun r' T t H1 l1 ht _ hw hB _ hk1 hS1 => by
    obtain ⟨hw1, hw2, hw3⟩ := hw
    subst hw1
    rw [ht] at hB
    exact kk T.1 T.2 H1 l1 hw2 hw3 hB.1 hB.2 hS1)
theorem w2_x {b0 L : Nat} {xs : Nat → Int32} (S : CallFix p m c cc nL s args Ts own) (hM : xTi l y ws rm b0 L xs As r) (cw : CallB R s args own index y bytes maxL ret ws rm 0 0 n ∧ (Cond.static y).before args s = true) (hX : va_X b0 L xs s s.heap) (hbl : b0 < s.heap.size) (hbA : ¬ A b0) (hP : va_P D vwCl (zW a ca Z) H) (hQ : va_P D vwCl (zW a2 ca Z2) H) (hS : va_S A s.heap H locs) (hn : As.length = n) (hsz : ls.size = nL) (hst : st0 = As.reverse ++ rest) (hW : (rest.map fun v => v.category).sum ≤ 8) (hdg : decode cc pc = .ok (.invokestatic index, 3)) (hf : cells ≤ R.cells ∧ slots ≤ R.slots)
    (kk : ∀ (H1 : Heap) (locs1 : List Loc), va_P D vwCl (zW a ca Z) H1 → va_P D vwCl (zW a2 ca Z2) H1 → va_S A s.heap H1 locs1 → W p l e R s m args below meth c H1 locs1 cells slots Q (F0 m (pc + 3) ls (.int r :: rest))) : W p l e R s m args below meth c H locs cells slots Q (F0 m pc ls st0) :=
  va_calli (va_runS (g := F0 m pc ls st0) S hM cw ⟨xBlind, fun U hU hW => ⟨rfl, by rw [hU]; exact va_X.moved hW.alike (hX.kept (hS.2.1 b0 hbl hbA)), by rw [hU]; exact Nat.lt_of_lt_of_le hbl hS.1⟩⟩ rfl hn hsz hst (lv_room hW) hdg hf) hS (fun q _ h => h.elim) (fun q h => h.elim) (fun r' u t H1 l1 ht _ hw _ _ hk1 hS1 => by
    subst hw
    exact kk H1 l1 (hP.kept (fun k x hx => hk1 x.1 ((hP k x hx).lt) (fun h => h))) (hQ.kept (fun k x hx => hk1 x.1 ((hQ k x hx).lt) (fun h => h))) hS1)
end LR
