/-! constructors: what is born -/
theorem nb_P {D : va_G} {cl : List vw_C} {ws ws' : va_W} {H : Heap} (h : va_P D cl ws H) (hs : ∀ q ∈ ws', q ∈ ws) : va_P D cl ws' H := by
  intro k q hk
  obtain ⟨i, hi⟩ := List.getElem?_of_mem (hs q (List.mem_of_getElem? hk))
  exact h i q hi
theorem nb_swapP {D : va_G} {cl : List vw_C} {X Y : va_W} {H : Heap} (h : va_P D cl (X ++ Y) H) : va_P D cl (Y ++ X) H := by
  refine nb_P h fun q hq => ?_
  rcases List.mem_append.mp hq with h | h
  · exact List.mem_append.mpr (Or.inr h)
  · exact List.mem_append.mpr (Or.inl h)
theorem nb_at {X Y : va_W} {i : Nat} {p : Nat × va_E} (h : (Y ++ X)[i]? = some p) : i < Y.length + X.length ∧ (X ++ Y)[if i < Y.length then X.length + i else i - Y.length]? = some p := by
  have h1 := (List.getElem?_eq_some_iff.mp h).1
  rw [List.length_append] at h1
  refine ⟨h1, ?_⟩
  by_cases c : i < Y.length
  · rw [if_pos c, List.getElem?_append_right (by omega), show X.length + i - X.length = i by omega]
    rw [List.getElem?_append_left c] at h
    exact h
  · rw [if_neg c, List.getElem?_append_left (by omega)]
    rw [List.getElem?_append_right (by omega)] at h
    exact h
theorem nb_swapD {A : Nat → Prop} {X Y : va_W} (h : va_D A (X ++ Y)) : va_D A (Y ++ X) := by
  refine ⟨fun i j p q hp hq e => ?_, fun k q hk => h.2 _ q (nb_at hk).2⟩
  obtain ⟨hi, hp'⟩ := nb_at hp
  obtain ⟨hj, hq'⟩ := nb_at hq
  have h1 := h.1 _ _ p q hp' hq' e
  by_cases c1 : i < Y.length
  · by_cases c2 : j < Y.length
    · rw [if_pos c1, if_pos c2] at h1
      omega
    · rw [if_pos c1, if_neg c2] at h1
      omega
  · by_cases c2 : j < Y.length
    · rw [if_neg c1, if_pos c2] at h1
      omega
    · rw [if_neg c1, if_neg c2] at h1
      omega
def nAO (U : State) : Prop := va_AO RX0 U ∧ va_AO RX3 U
theorem nAO.moved {u U : State} (hvm : u.vm.Alike U.vm) (h : nAO u) : nAO U := ⟨va_AO.moved hvm h.1, va_AO.moved hvm h.2⟩
def nPre (D : va_G) (ca : Nat → ClassId) (b : Nat) (e0 : va_E) (sz : Nat) (U : State) : Prop := U.heap.size = sz ∧ va_P D vwCl [(b, e0)] U.heap ∧ zK D ca U ∧ nAO U ∧ va_D (fun _ => True) [(b, e0)]
def nC {S : Type} (l : Launch) (y : MethodName) (ws : List Cond) (rm : Room) (D : va_G) (ca : Nat → ClassId) (av : List Value) (b : Nat) (e0 : va_E) (mc ms : Nat) (W1 : S → va_W) : Prop :=
  ∀ sz, Met l y ws rm (va_Pc av (nPre D ca b e0 sz)) (va_Qv (fun (_ : S) => True) (fun u t => va_P D vwCl (W1 u) t.heap ∧ va_D (va_A [(b, e0)] sz) (W1 u)) (va_A [(b, e0)] sz)) mc ms (va_A [(b, e0)] sz)
abbrev nQ {S : Type} (below : List Frame) (D : va_G) (A : Nat → Prop) (av : List Value) (s : State) (W1 : S → va_W) (mc ms : Nat) : State → Prop :=
  MQ below (va_Qv (fun (_ : S) => True) (fun u t => va_P D vwCl (W1 u) t.heap ∧ va_D A (W1 u)) A) av.toArray s mc ms A
theorem nBlind {D : va_G} {ca : Nat → ClassId} {b : Nat} {e0 : va_E} {sz : Nat} {av : List Value} : FrameBlind (va_Pc av (nPre D ca b e0 sz)) := fun v U g mk q => ⟨q.1, q.2.1, q.2.2.1, q.2.2.2.1.call, nAO.moved (u := U) (U := U.calling g mk v) (Vm.Alike.refl U.vm) q.2.2.2.2.1, q.2.2.2.2.2⟩
section NB
variable {p : Program} {l : Launch} {e : Env} {R : Room} {s : State} {m : MethodId} {args : Array Value} {below : List Frame} {meth : Method} {c : Code} {H : Heap} {locs : List Loc} {cells slots : Nat} {Q : State → Prop}
variable {cc : ByteArray} {pc : Nat} {ls : Array Slot} {rest st0 : List Value} {D : va_G} {ca : Nat → ClassId} {H0 : Heap} {av : List Value} {A : Nat → Prop} {b : Nat} {e0 : va_E} {S9 : Type} {W1 : S9 → va_W} {X ws : va_W} {mc ms : Nat}
theorem n_of {y : MethodName} {ws ws' : List Cond} {rm : Room} {maxL : Nat} {own : String} (hy : plainName y.cls = true) (hw : ws = Cond.code y cc maxL none :: ws') (hla : (lg_sl av).length ≤ maxL) (ho : y.cls = own)
    (body : ∀ (p : Program) (e : Env) (s : State) (m : MethodId) (below : List Frame) (meth : Method) (c : Code) (ls : Array Slot) (A : Nat → Prop), p.tables.exec = Jvm.exec → c.code = cc → meth.sig.returnType = none → c.maxLocals = maxL → (∀ w ∈ ws, w.before av.toArray s = true) → s.vm.findClass own = some m.cls → meth.locks = false → meth.name = y.name → lv_has ls maxL (lv_args 0 av) → zK D ca s → nAO s → va_P D vwCl [(b, e0)] s.heap → va_D A [(b, e0)] → va_S A s.heap s.heap [] → (∀ q, s.heap.size ≤ q → A q) →
      W p l e rm s m av.toArray below meth c s.heap [] 0 0 (nQ below D A av s W1 mc ms) (F0 m 0 ls [])) : nC l y ws rm D ca av b e0 mc ms W1 := by
  intro sz
  refine Met.ofW (cc := cc) (maxL := maxL) (ret := none) hy hw ?_
  intro p e s m args below meth c s₁ B hml hv
  obtain ⟨rfl, hsz, hP, hK, hO, hD0⟩ := hv
  subst hsz
  have hl := lv_entry av (n := maxL) hla
  rw [lg_entry_eq]
  generalize (lg_sl av ++ List.replicate (maxL - (lg_sl av).length) Slot.unset).toArray = ls at hl ⊢
  subst ho
  exact body p e s m below meth c ls (va_A [(b, e0)] s.heap.size) B.exec B.bytes B.returns hml (atoms_spec (ws := ws) B.pre) (findClass_of_methodNamed B.named) B.notSynchronized (name_of_methodNamed B.named B.method).1 hl hK hO hP (hD0.self (sz := s.heap.size)) va_S.rf (fun q h => Or.inr h)
theorem n_ret (u : S9) (hx : p.tables.exec = Jvm.exec) (hb : c.code = cc) (hr : meth.sig.returnType = none) (hlk : meth.locks = false) (hP : va_P D vwCl (W1 u) H) (hD : va_D A (W1 u)) (hS : va_S A s.heap H locs) (hc : cells ≤ mc) (hs : slots ≤ ms) (hdg : decode cc pc = .ok (.return_, 1)) : W p l e R s m av.toArray below meth c H locs cells slots (nQ below D A av s W1 mc ms) (F0 m pc ls []) := by
  refine W.widen (k := mc) (n := ms) hc hs ?_
  exact W.vret hx hb hr (fun t ht hW => ⟨⟨u, rfl, trivial, by rw [ht]; exact hP, hD⟩, hS.F ht⟩) hS.2.2 hdg hlk
theorem n_new {own C : String} {T : u_T} {N ci index : Nat} {Ts : List Cond} (hx : p.tables.exec = Jvm.exec) (hb : c.code = cc) (hts : ∀ w ∈ Ts, w.before args s = true) (hin : ∀ w ∈ u_ws C T N, w ∈ Ts) (ty : Nat → FieldType) (hty : ∀ k, k < N → parseFieldDescriptor (T k).2.2.1 = some (ty k)) (hown : s.vm.findClass own = some m.cls) (hcl : (Cond.classLink own index C).before args s = true) (hinst : (Cond.instantiable C N).before args s = true) (hini : (Cond.initialized C).before args s = true)
    (hK : zK D ca s) (hP : va_P D vwCl ws H) (hD : va_D A ws) (hS : va_S A H0 H locs) (hA : ∀ q, H0.size ≤ q → A q) (hc : vwCl[ci]? = some (C, T, N)) {fs : List Value} (hfs : ∀ j, j < N → defaultValue (ty j) = vp_V fs j) (hcells : cells + 1 ≤ R.cells) (hslots : slots + N ≤ R.slots) (hdg : decode cc pc = .ok (.new index, 3))
    (kk : ∀ (q : Nat) (H1 : Heap), va_P D vwCl (ws ++ [(q, .inr (ci, fs))]) H1 → va_D A (ws ++ [(q, .inr (ci, fs))]) → va_S A H0 H1 locs → W p l e R s m args below meth c H1 locs (cells + 1) (slots + N) Q (F0 m (pc + 3) ls (.ref q :: rest))) : W p l e R s m args below meth c H locs cells slots Q (F0 m pc ls rest) :=
  va_new hx hb hts hin ty hty hown hcl hinst hini hK.1 hP hD hS hA hc hfs hcells hslots hdg kk
theorem n_newa {n : Nat} (hx : p.tables.exec = Jvm.exec) (hb : c.code = cc) (harr : (Cond.arrayClass .int).before args s = true) (hK : zK D ca s) (hP : va_P D vwCl ws H) (hD : va_D A ws) (hS : va_S A H0 H locs) (hA : ∀ q, H0.size ≤ q → A q) (hn : n < 1000000) (hcells : cells + 1 ≤ R.cells) (hslots : slots + n ≤ R.slots) (hdg : decode cc pc = .ok (.newarray .int, 2))
    (kk : ∀ (q : Nat) (H1 : Heap), va_P D vwCl (ws ++ [(q, .inl (ca 0, n, .inl (fun _ => 0)))]) H1 → va_D A (ws ++ [(q, .inl (ca 0, n, .inl (fun _ => 0)))]) → va_S A H0 H1 locs → W p l e R s m args below meth c H1 locs (cells + 1) (slots + n) Q (F0 m (pc + 2) ls (.ref q :: rest))) : W p l e R s m args below meth c H locs cells slots Q (F0 m pc ls (.int (nI n) :: rest)) := by
  refine va_newa (atype := .int) (ty := .int) (a0 := (n, .inl (fun _ => 0))) hx hb harr rfl hK.1 hP hD hS hA (fun _ => rfl) (nI_pos (by omega)) (nI_clamp (by omega)) (by show n * 4 ≤ 536870912; omega) hcells hslots hdg (fun q cA H1 hK2 hP hD hS => ?_)
  have h1 : s.vm.findClass ("[" ++ FieldType.int.toString) = some cA := (hK2.2 4 (cA, .int) rfl).2
  have h2 : s.vm.findClass ("[" ++ FieldType.int.toString) = some (ca 0) := (hK.1.2 0 (ca 0, .int) rfl).2
  have e : cA = ca 0 := Option.some.inj (h1.symm.trans h2)
  subst e
  exact kk q H1 hP hD hS
theorem n_newc {n : Nat} (hx : p.tables.exec = Jvm.exec) (hb : c.code = cc) (harr : (Cond.arrayClass .char).before args s = true) (hK : zK D ca s) (hP : va_P D vwCl ws H) (hD : va_D A ws) (hS : va_S A H0 H locs) (hA : ∀ q, H0.size ≤ q → A q) (hn : n < 1000000) (hcells : cells + 1 ≤ R.cells) (hslots : slots + n ≤ R.slots) (hdg : decode cc pc = .ok (.newarray .char, 2))
    (kk : ∀ (q : Nat) (H1 : Heap), va_P D vwCl (ws ++ [(q, .inl (ca 3, n, .inl (fun _ => 0)))]) H1 → va_D A (ws ++ [(q, .inl (ca 3, n, .inl (fun _ => 0)))]) → va_S A H0 H1 locs → W p l e R s m args below meth c H1 locs (cells + 1) (slots + n) Q (F0 m (pc + 2) ls (.ref q :: rest))) : W p l e R s m args below meth c H locs cells slots Q (F0 m pc ls (.int (nI n) :: rest)) := by
  refine va_newa (atype := .char) (ty := .char) (a0 := (n, .inl (fun _ => 0))) hx hb harr rfl hK.1 hP hD hS hA (fun _ => rfl) (nI_pos (by omega)) (nI_clamp (by omega)) (by show n * 2 ≤ 536870912; omega) hcells hslots hdg (fun q cA H1 hK2 hP hD hS => ?_)
  have h1 : s.vm.findClass ("[" ++ FieldType.char.toString) = some cA := (hK2.2 4 (cA, .char) rfl).2
  have h2 : s.vm.findClass ("[" ++ FieldType.char.toString) = some (ca 3) := (hK.1.2 3 (ca 3, .char) rfl).2
  have e : cA = ca 3 := Option.some.inj (h1.symm.trans h2)
  subst e
  exact kk q H1 hP hD hS
theorem n_newq {own C : String} {index n i : Nat} (hx : p.tables.exec = Jvm.exec) (hb : c.code = cc) (hown : s.vm.findClass own = some m.cls) (hcl : (Cond.classLink own index C).before args s = true) (hov : va_AO C s) (hi : i < 4) (hty : (zTy ca)[i]? = some (ca i, .object C)) (hK : zK D ca s) (hP : va_P D vwCl ws H) (hD : va_D A ws) (hS : va_S A H0 H locs) (hA : ∀ q, H0.size ≤ q → A q) (hn : n < 1000000) (hcells : cells + 1 ≤ R.cells) (hslots : slots + n ≤ R.slots) (hdg : decode cc pc = .ok (.anewarray index, 3))
    (kk : ∀ (q : Nat) (H1 : Heap), va_P D vwCl (ws ++ [(q, .inl (ca i, n, .inr (.inr (.inr (.inr (fun _ => none))))))]) H1 → va_D A (ws ++ [(q, .inl (ca i, n, .inr (.inr (.inr (.inr (fun _ => none))))))]) → va_S A H0 H1 locs → W p l e R s m args below meth c H1 locs (cells + 1) (slots + n) Q (F0 m (pc + 3) ls (.ref q :: rest))) : W p l e R s m args below meth c H locs cells slots Q (F0 m pc ls (.int (nI n) :: rest)) := by
  refine va_newq (C := C) (N' := n) hx hb hown hcl hov hK.1 hP hD hS hA (nI_pos (by omega)) (nI_clamp (by omega)) (by omega) hcells hslots hdg (fun q cA H1 hK2 hP hD hS => ?_)
  obtain ⟨_, _, _, _, _, h1⟩ := (hK2.2 4 (cA, .object C) rfl).2
  obtain ⟨_, _, _, _, _, h2⟩ := (hK.1.2 i (ca i, .object C) hty).2
  have e : cA = ca i := Option.some.inj (h1.symm.trans h2)
  subst e
  exact kk q H1 hP hD hS
variable {y : MethodName} {bytes : ByteArray} {maxL nL n index : Nat} {wy : List Cond} {rm : Room} {Ts : List Cond} {own host : String} {q : Nat} {As : List Value}
theorem n_join (hP : va_P D vwCl (X ++ [(q, e0)]) H) (hD : va_D A (X ++ [(q, e0)])) {H1 : Heap} {w1 : va_W} (hk : ∀ r : Nat, r < H.size → ¬ va_A [(q, e0)] H.size r → H1[r]? = H[r]?) (hF : ∀ r, va_A [(q, e0)] H.size r → A r) (hP1 : va_P D vwCl w1 H1) (hD1 : va_D (va_A [(q, e0)] H.size) w1) : va_P D vwCl (X ++ w1) H1 ∧ va_D A (X ++ w1) := by
  obtain ⟨h1, h2⟩ := va_joinQ (X := [(q, e0)]) (cx := [(q, e0)]) (wr := []) (pl := X) (nb_swapP hP) (nb_swapD hD) [0] [] rfl rfl rfl (fun i h => by cases h) hk hF hP1 hD1
  exact ⟨nb_swapP h1, nb_swapD h2⟩
theorem n_call {fs : List Value} {ci : Nat} (S : CallFix p m c cc nL s args Ts own) (hM : nC l y wy rm D ca [.ref q] q (.inr (ci, fs)) mc ms W1) (cw : CallB R s args own index y bytes maxL none wy rm mc ms 0 ∧ y.name = "<init>" ∧ (Cond.instanceMethod y).before args s = true) (hK : zK D ca s) (hO : nAO s) (hP : va_P D vwCl (X ++ [(q, .inr (ci, fs))]) H) (hD : va_D A (X ++ [(q, .inr (ci, fs))])) (hS : va_S A H0 H locs) (hA : ∀ q, H0.size ≤ q → A q) (hsz : ls.size = nL) (hW : (rest.map fun v => v.category).sum ≤ 8) (hdg : decode cc pc = .ok (.invokespecial index, 3)) (hf : cells + mc ≤ R.cells ∧ slots + ms ≤ R.slots)
    (kk : ∀ (u : S9) (H1 : Heap) (locs1 : List Loc), va_P D vwCl (X ++ W1 u) H1 → va_D A (X ++ W1 u) → va_S A H0 H1 locs1 → W p l e R s m args below meth c H1 locs1 (cells + mc) (slots + ms) Q (F0 m (pc + 3) ls rest)) : W p l e R s m args below meth c H locs cells slots Q (F0 m pc ls (.ref q :: rest)) := by
  have hPc := (nb_swapP hP).sub (ws' := [(q, .inr (ci, fs))]) [0] rfl
  have hDc := (nb_swapD hD).sub (ws' := [(q, .inr (ci, fs))]) [0] (by decide) rfl
  have hFc := va_free (wc := [(q, .inr (ci, fs))]) (nb_swapD hD) hS hA [0] rfl
  refine va_callv (va_runI (As := []) (rest := rest) (g := F0 m pc ls (.ref q :: rest)) S (hM H.size) cw ⟨nBlind, fun U hU hW => ⟨rfl, by rw [hU], by rw [hU]; exact hPc, hK.warm hW, nAO.moved hW.alike hO, hDc.weaken (fun _ _ _ _ => trivial)⟩⟩ rfl rfl hsz rfl (lv_room hW) hdg hf) hS (fun q _ h => hFc q h) hFc (fun u t H1 locs ht hvm h5 hB hz1 hk1 hS => ?_)
  obtain ⟨hP1, hD1⟩ := hB
  rw [ht] at hP1
  obtain ⟨hP2, hD2⟩ := n_join hP hD hk1 hFc hP1 hD1
  exact kk u H1 locs hP2 hD2 hS
theorem n_callN {fs : List Value} {ci : Nat} (S : CallFix p m c cc nL s args Ts own) (hM : nC l y wy rm D ca [.ref q] q (.inr (ci, fs)) mc ms W1) (cw : va_CN R s args own index y host bytes maxL none wy rm mc ms 0 ∧ y.name = "<init>" ∧ (Cond.instanceMethod y).before args s = true) (hK : zK D ca s) (hO : nAO s) (hP : va_P D vwCl (X ++ [(q, .inr (ci, fs))]) H) (hD : va_D A (X ++ [(q, .inr (ci, fs))])) (hS : va_S A H0 H locs) (hA : ∀ q, H0.size ≤ q → A q) (hsz : ls.size = nL) (hW : (rest.map fun v => v.category).sum ≤ 8) (hdg : decode cc pc = .ok (.invokespecial index, 3)) (hf : cells + mc ≤ R.cells ∧ slots + ms ≤ R.slots)
    (kk : ∀ (u : S9) (H1 : Heap) (locs1 : List Loc), va_P D vwCl (X ++ W1 u) H1 → va_D A (X ++ W1 u) → va_S A H0 H1 locs1 → W p l e R s m args below meth c H1 locs1 (cells + mc) (slots + ms) Q (F0 m (pc + 3) ls rest)) : W p l e R s m args below meth c H locs cells slots Q (F0 m pc ls (.ref q :: rest)) := by
  have hPc := (nb_swapP hP).sub (ws' := [(q, .inr (ci, fs))]) [0] rfl
  have hDc := (nb_swapD hD).sub (ws' := [(q, .inr (ci, fs))]) [0] (by decide) rfl
  have hFc := va_free (wc := [(q, .inr (ci, fs))]) (nb_swapD hD) hS hA [0] rfl
  refine va_callv (va_runIN (As := []) (rest := rest) (g := F0 m pc ls (.ref q :: rest)) S (hM H.size) cw ⟨nBlind, fun U hU hW => ⟨rfl, by rw [hU], by rw [hU]; exact hPc, hK.warm hW, nAO.moved hW.alike hO, hDc.weaken (fun _ _ _ _ => trivial)⟩⟩ rfl rfl hsz rfl (lv_room hW) hdg hf) hS (fun q _ h => hFc q h) hFc (fun u t H1 locs ht hvm h5 hB hz1 hk1 hS => ?_)
  obtain ⟨hP1, hD1⟩ := hB
  rw [ht] at hP1
  obtain ⟨hP2, hD2⟩ := n_join hP hD hk1 hFc hP1 hD1
  exact kk u H1 locs hP2 hD2 hS
theorem n_callS (S : CallFix p m c cc nL s args Ts own) (hM : nC l y wy rm D ca (.ref q :: As) q e0 0 0 W1) (cw : CallB R s args own index y bytes maxL none wy rm 0 0 n ∧ (Cond.static y).before args s = true) (hK : zK D ca s) (hO : nAO s) (hP : va_P D vwCl (X ++ [(q, e0)]) H) (hD : va_D A (X ++ [(q, e0)])) (hS : va_S A H0 H locs) (hA : ∀ q, H0.size ≤ q → A q) (hn : (Value.ref q :: As).length = n) (hsz : ls.size = nL) (hst : st0 = (Value.ref q :: As).reverse ++ rest) (hW : (rest.map fun v => v.category).sum ≤ 8) (hdg : decode cc pc = .ok (.invokestatic index, 3)) (hf : cells ≤ R.cells ∧ slots ≤ R.slots)
    (kk : ∀ (u : S9) (H1 : Heap) (locs1 : List Loc), va_P D vwCl (X ++ W1 u) H1 → va_D A (X ++ W1 u) → va_S A H0 H1 locs1 → W p l e R s m args below meth c H1 locs1 cells slots Q (F0 m (pc + 3) ls rest)) : W p l e R s m args below meth c H locs cells slots Q (F0 m pc ls st0) := by
  have hPc := (nb_swapP hP).sub (ws' := [(q, e0)]) [0] rfl
  have hDc := (nb_swapD hD).sub (ws' := [(q, e0)]) [0] (by decide) rfl
  have hFc := va_free (wc := [(q, e0)]) (nb_swapD hD) hS hA [0] rfl
  refine va_callv (va_runS (g := F0 m pc ls st0) S (hM H.size) cw ⟨nBlind, fun U hU hW => ⟨rfl, by rw [hU], by rw [hU]; exact hPc, hK.warm hW, nAO.moved hW.alike hO, hDc.weaken (fun _ _ _ _ => trivial)⟩⟩ rfl hn hsz hst (lv_room hW) hdg hf) hS (fun q _ h => hFc q h) hFc (fun u t H1 locs ht hvm h5 hB hz1 hk1 hS => ?_)
  obtain ⟨hP1, hD1⟩ := hB
  rw [ht] at hP1
  obtain ⟨hP2, hD2⟩ := n_join hP hD hk1 hFc hP1 hD1
  exact kk u H1 locs hP2 hD2 hS
end NB
theorem nb_row {D : va_G} {cl : List vw_C} {ws : va_W} {H : Heap} {q n : Nat} {c : ClassId} {f g : Nat → Option Nat} (i : Nat) (hi : ws[i]? = some (q, .inl (c, n, .inr (.inr (.inr (.inr f)))))) (e : ∀ j, j < n → f j = g j) (hP : va_P D cl ws H) : va_P D cl (ws.set i (q, .inl (c, n, .inr (.inr (.inr (.inr g)))))) H := by
  have key : arrV c n (fun j => va_rf (f j)) = arrV c n (fun j => va_rf (g j)) := by
    unfold arrV
    congr 2
    funext j
    exact congrArg va_rf (e j.val j.isLt)
  intro k r hr
  by_cases hk : k = i
  · subst hk
    rw [List.getElem?_set_self (List.getElem?_eq_some_iff.mp hi).1] at hr
    cases hr
    have h0 := hP k _ hi
    show H[q]? = some (arrV c n (fun j => va_rf (g j)))
    rw [← key]
    exact h0
  · rw [List.getElem?_set_ne (Ne.symm hk)] at hr
    exact hP k r hr
