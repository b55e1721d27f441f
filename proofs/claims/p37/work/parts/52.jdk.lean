/-! the constant text that the class looks its letters up in, and the library's methods that do it: no cell is written -/
def jL (i : Nat) : Int32 := ([115, 97, 100, 109, 108, 119, 120, 106, 122, 110, 98, 104] : List Int32).getD i 0
def jS (qs qv : Nat) (A : Nat → Prop) (U : State) (Hh : Heap) : Prop := vk_S 1 [12] [[115, 97, 100, 109, 108, 119, 120, 106, 122, 110, 98, 104]] (fun _ => qs) (fun _ => qv) A U Hh ∧ va_Z "java/lang/String" "COMPACT_STRINGS" "Z" (.int (nI 1)) A U Hh
theorem jS.moved {qs qv : Nat} {A : Nat → Prop} {u U : State} {H : Heap} (hvm : u.vm.Alike U.vm) (h : jS qs qv A u H) : jS qs qv A U H := ⟨vk_S.moved hvm h.1, va_Z.moved hvm h.2⟩
theorem jS.kept {qs qv : Nat} {A : Nat → Prop} {U : State} {H H1 : Heap} (h : jS qs qv A U H) (hq : ∀ a : Nat, a < H.size → ¬ A a → H1[a]? = H[a]?) : jS qs qv A U H1 := ⟨h.1.kept hq, h.2.kept hq⟩
theorem jS.narrow {qs qv : Nat} {A B : Nat → Prop} {U : State} {H : Heap} (h : jS qs qv A U H) (hAB : ∀ q, B q → A q) : jS qs qv B U H := ⟨h.1.narrow hAB, h.2.narrow hAB⟩
def jPre (qs qv : Nat) (Hh : Heap) (U : State) : Prop := U.heap = Hh ∧ jS qs qv (fun _ => False) U Hh
def jC (l : Launch) (y : MethodName) (ws : List Cond) (rm : Room) (qs qv : Nat) (Hh : Heap) (av : List Value) (r : Int32) : Prop :=
  Met l y ws rm (va_Pc av (jPre qs qv Hh)) (va_Qi (fun (r' : Int32) (_ : Unit) => r' = r) (fun _ t => t.heap = Hh) (fun _ => False)) 0 0 (fun _ => False)
abbrev jQ (below : List Frame) (Hh : Heap) (av : List Value) (s : State) (r : Int32) : State → Prop :=
  MQ below (va_Qi (fun (r' : Int32) (_ : Unit) => r' = r) (fun _ t => t.heap = Hh) (fun _ => False)) av.toArray s 0 0 (fun _ => False)
theorem jBlind {qs qv : Nat} {Hh : Heap} {av : List Value} : FrameBlind (va_Pc av (jPre qs qv Hh)) := fun v U g mk q => ⟨q.1, q.2.1, jS.moved (u := U) (U := U.calling g mk v) (Vm.Alike.refl U.vm) q.2.2⟩
section JR
variable {p : Program} {l : Launch} {e : Env} {R : Room} {s : State} {m : MethodId} {args : Array Value} {below : List Frame} {meth : Method} {c : Code} {H : Heap} {locs : List Loc} {cells slots : Nat} {Q : State → Prop}
variable {cc : ByteArray} {pc : Nat} {ls : Array Slot} {rest st0 : List Value} {qs qv : Nat} {Hh : Heap} {H0 : Heap} {av : List Value}
theorem j_ofi {y : MethodName} {ws ws' : List Cond} {rm : Room} {r : Int32} {maxL : Nat} {rt : FieldType} {own : String} (hy : plainName y.cls = true) (hw : ws = Cond.code y cc maxL (some rt) :: ws') (hla : (lg_sl av).length ≤ maxL) (ho : y.cls = own)
    (body : ∀ (p : Program) (e : Env) (s : State) (m : MethodId) (below : List Frame) (meth : Method) (c : Code) (ls : Array Slot), p.tables.exec = Jvm.exec → c.code = cc → meth.sig.returnType = some rt → c.maxLocals = maxL → (∀ w ∈ ws, w.before av.toArray s = true) → s.vm.findClass own = some m.cls → meth.locks = false → lv_has ls maxL (lv_args 0 av) → jS qs qv (fun _ => False) s s.heap → va_S (fun _ => False) s.heap s.heap [] →
      W p l e rm s m av.toArray below meth c s.heap [] 0 0 (jQ below s.heap av s r) (F0 m 0 ls [])) : jC l y ws rm qs qv Hh av r := by
  refine Met.ofW (cc := cc) (maxL := maxL) (ret := some rt) hy hw ?_
  intro p e s m args below meth c s₁ B hml hv
  obtain ⟨rfl, hh, hK⟩ := hv
  subst hh
  have hl := lv_entry av (n := maxL) hla
  rw [lg_entry_eq]
  generalize (lg_sl av ++ List.replicate (maxL - (lg_sl av).length) Slot.unset).toArray = ls at hl ⊢
  subst ho
  exact body p e s m below meth c ls B.exec B.bytes B.returns hml (atoms_spec (ws := ws) B.pre) (findClass_of_methodNamed B.named) B.notSynchronized hl hK va_S.rf
theorem j_reti {rt : FieldType} {v r : Int32} (hx : p.tables.exec = Jvm.exec) (hb : c.code = cc) (hr : meth.sig.returnType = some rt) (hlk : meth.locks = false) (hn : narrow rt (.int v) = .int v) (hP : H = Hh) (hS : va_S (fun _ => False) s.heap H locs) (hdg : decode cc pc = .ok (.ireturn, 1)) (hv : v = r) (hZ : Hh = Hh) : W p l e R s m av.toArray below meth c H locs 0 0 (jQ below Hh av s r) (F0 m pc ls [.int v]) := by
  subst hv
  exact W.zret hx hb hr hn (fun t ht hW => ⟨⟨v, (), rfl, rfl, ht.trans hP⟩, hS.F ht⟩) hS.2.2 hdg hlk
theorem j_toi {r r2 : Int32} {Z2 : Nat} {g : JFrame} (hr : r = r2) (hZ : Z2 = Z2) (kk : W p l e R s m args below meth c H locs cells slots (jQ below Hh av s r2) g) : W p l e R s m args below meth c H locs cells slots (jQ below Hh av s r) g := by
  subst hr
  exact kk
variable {y : MethodName} {bytes : ByteArray} {maxL nL n index : Nat} {ret : Option FieldType} {ws : List Cond} {rm : Room} {Ts : List Cond} {own C host : String} {b : Addr} {As : List Value} {r : Int32}
theorem j_cVi (S : CallFix p m c cc nL s args Ts own) (hM : jC l y ws rm qs qv s.heap (.ref b :: As) r) (cw : CallW R s args own C index y bytes maxL ret ws rm 0 0 n) (hE : jS qs qv (fun _ => False) s s.heap) (hP : H = s.heap) (hS : va_S (fun _ => False) s.heap H locs) (hrv : ∃ cellB : Cell, H[b]? = some cellB ∧ cellB.vm.isStatics = false ∧ s.vm.findClass C = some cellB.cls) (hn : As.length = n) (hsz : ls.size = nL) (hst : st0 = As.reverse ++ .ref b :: rest) (hW : (rest.map fun v => v.category).sum ≤ 8) (hdg : decode cc pc = .ok (.invokevirtual index, 3)) (hf : cells ≤ R.cells ∧ slots ≤ R.slots)
    (kk : ∀ (H1 : Heap) (locs1 : List Loc), H1 = s.heap → va_S (fun _ => False) s.heap H1 locs1 → W p l e R s m args below meth c H1 locs1 cells slots Q (F0 m (pc + 3) ls (.int r :: rest))) : W p l e R s m args below meth c H locs cells slots Q (F0 m pc ls st0) :=
  va_calli (va_runV (g := F0 m pc ls st0) S hM cw ⟨jBlind, hrv, fun U hU hW => ⟨rfl, by rw [hU]; exact hP, jS.moved hW.alike hE⟩⟩ rfl hn hsz hst (lv_room hW) hdg hf) hS (fun _ _ h => h) (fun _ h => h) (fun r' u t H1 l1 ht _ hw hB _ _ hS1 => by subst hw; exact kk H1 l1 (ht.symm.trans hB) hS1)
theorem j_cSi (S : CallFix p m c cc nL s args Ts own) (hM : jC l y ws rm qs qv s.heap As r) (cw : CallB R s args own index y bytes maxL ret ws rm 0 0 n ∧ (Cond.static y).before args s = true) (hE : jS qs qv (fun _ => False) s s.heap) (hP : H = s.heap) (hS : va_S (fun _ => False) s.heap H locs) (hn : As.length = n) (hsz : ls.size = nL) (hst : st0 = As.reverse ++ rest) (hW : (rest.map fun v => v.category).sum ≤ 8) (hdg : decode cc pc = .ok (.invokestatic index, 3)) (hf : cells ≤ R.cells ∧ slots ≤ R.slots)
    (kk : ∀ (H1 : Heap) (locs1 : List Loc), H1 = s.heap → va_S (fun _ => False) s.heap H1 locs1 → W p l e R s m args below meth c H1 locs1 cells slots Q (F0 m (pc + 3) ls (.int r :: rest))) : W p l e R s m args below meth c H locs cells slots Q (F0 m pc ls st0) :=
  va_calli (va_runS (g := F0 m pc ls st0) S hM cw ⟨jBlind, fun U hU hW => ⟨rfl, by rw [hU]; exact hP, jS.moved hW.alike hE⟩⟩ rfl hn hsz hst (lv_room hW) hdg hf) hS (fun _ _ h => h) (fun _ h => h) (fun r' u t H1 l1 ht _ hw hB _ _ hS1 => by subst hw; exact kk H1 l1 (ht.symm.trans hB) hS1)
end JR

def g_J0_isLatin1_aae02  : Int32 := nI 1
set_option maxHeartbeats 4000000 in
set_option maxRecDepth 100000 in
theorem ct_J0_isLatin1_aae02 (l : Launch) (qs qv : Nat) (Hh : Heap)  : jC l yJ0_isLatin1_aae02 wsJ0_isLatin1_aae02 ({ frames := 0, cells := 0, slots := 0, locals := 0 } : Room) qs qv Hh [.ref qs] (nI 1) := by
  refine j_ofi (cc := cJ0_isLatin1_aae02) (maxL := 1) (own := RJ0) (by decide) rfl (Nat.le_of_ble_eq_true rfl) rfl (fun p e s m below meth c ls hx hb hr hml hts hown hlk hl hE hS => ?_)
  have hP : s.heap = s.heap := rfl
  have hl : lv_has ls 1 [(0, .ref qs)] := hl
  refine va_gets (v := .int (nI 1)) hx hb hE.2 hS hown (hts (.fieldLink RJ0 38 "java/lang/String" "COMPACT_STRINGS" "Z") (by decide +kernel)) (fun _ h => h) dJ0_isLatin1_aae02_0 ?_
  refine lv_if_eq (tgt := 17) hx hb dJ0_isLatin1_aae02_3 (by decide) (fun c3_1 => absurd c3_1 (by decide)) (fun c3_1 => ?_)
  refine lv_aload_n hx hb dJ0_isLatin1_aae02_6 rfl (lv_at hl 0 rfl) ?_
  refine vk_getf hx hb (hE.1.1 0 (by decide)).2.1 hS hown (hts (.fieldLink RJ0 15 "java/lang/String" "coder" "B") (by decide +kernel)) (fun _ h => h) dJ0_isLatin1_aae02_7 ?_
  refine lv_if_ne (tgt := 17) hx hb dJ0_isLatin1_aae02_10 (by decide) (fun c10_2 => absurd (by decide) c10_2) (fun c10_2 => ?_)
  refine lv_iconst (v := nI 1) hx hb dJ0_isLatin1_aae02_13 (by decide) ?_
  refine lv_goto (tgt := 18) hx hb dJ0_isLatin1_aae02_14 (by decide) ?_
  exact j_reti hx hb hr hlk (by first | rfl | decide) hP hS dJ0_isLatin1_aae02_18 (by first | rfl | simp only [g_J0_isLatin1_aae02]) rfl

def g_J0_coder_7d493  : Int32 := nI 0
set_option maxHeartbeats 4000000 in
set_option maxRecDepth 100000 in
theorem ct_J0_coder_7d493 (l : Launch) (qs qv : Nat) (Hh : Heap)  : jC l yJ0_coder_7d493 wsJ0_coder_7d493 ({ frames := 0, cells := 0, slots := 0, locals := 0 } : Room) qs qv Hh [.ref qs] (nI 0) := by
  refine j_ofi (cc := cJ0_coder_7d493) (maxL := 1) (own := RJ0) (by decide) rfl (Nat.le_of_ble_eq_true rfl) rfl (fun p e s m below meth c ls hx hb hr hml hts hown hlk hl hE hS => ?_)
  have hP : s.heap = s.heap := rfl
  have hl : lv_has ls 1 [(0, .ref qs)] := hl
  refine va_gets (v := .int (nI 1)) hx hb hE.2 hS hown (hts (.fieldLink RJ0 38 "java/lang/String" "COMPACT_STRINGS" "Z") (by decide +kernel)) (fun _ h => h) dJ0_coder_7d493_0 ?_
  refine lv_if_eq (tgt := 13) hx hb dJ0_coder_7d493_3 (by decide) (fun c3_1 => absurd c3_1 (by decide)) (fun c3_1 => ?_)
  refine lv_aload_n hx hb dJ0_coder_7d493_6 rfl (lv_at hl 0 rfl) ?_
  refine vk_getf hx hb (hE.1.1 0 (by decide)).2.1 hS hown (hts (.fieldLink RJ0 15 "java/lang/String" "coder" "B") (by decide +kernel)) (fun _ h => h) dJ0_coder_7d493_7 ?_
  refine lv_goto (tgt := 14) hx hb dJ0_coder_7d493_10 (by decide) ?_
  exact j_reti hx hb hr hlk (by first | rfl | decide) hP hS dJ0_coder_7d493_14 (by first | rfl | simp only [g_J0_coder_7d493]) rfl

def g_J0_length_8abf5  : Int32 := nI 12
set_option maxHeartbeats 4000000 in
set_option maxRecDepth 100000 in
theorem ct_J0_length_8abf5 (l : Launch) (qs qv : Nat) (Hh : Heap)  : jC l yJ0_length_8abf5 wsJ0_length_8abf5 ({ frames := 1, cells := 0, slots := 0, locals := 20 } : Room) qs qv Hh [.ref qs] (nI 12) := by
  refine j_ofi (cc := cJ0_length_8abf5) (maxL := 1) (own := RJ0) (by decide) rfl (Nat.le_of_ble_eq_true rfl) rfl (fun p e s m below meth c ls hx hb hr hml hts hown hlk hl hE hS => ?_)
  have hP : s.heap = s.heap := rfl
  have hl : lv_has ls 1 [(0, .ref qs)] := hl
  refine lv_aload_n hx hb dJ0_length_8abf5_0 rfl (lv_at hl 0 rfl) ?_
  refine vk_getf hx hb (hE.1.1 0 (by decide)).2.2.1 hS hown (hts (.fieldLink RJ0 9 "java/lang/String" "value" "[B") (by decide +kernel)) (fun _ h => h) dJ0_length_8abf5_1 ?_
  refine va_tlen (v := nI 12) hx hb (hE.1.1 0 (by decide)).2.2.2 hS rfl dJ0_length_8abf5_4 ?_
  refine lv_aload_n hx hb dJ0_length_8abf5_5 rfl (lv_at hl 0 rfl) ?_
  refine j_cVi (As := []) (rest := [.int (nI 12)]) ⟨hx, hb, hml, hown, hts⟩ (ct_J0_coder_7d493 l qs qv s.heap ) (cwV 0 hts gJ0_length_8abf5_J0_coder_7d493 rfl rfl rfl (by decide +kernel) ⟨Nat.le_of_ble_eq_true rfl, Nat.le_of_ble_eq_true rfl⟩) hE hP hS (vk_recv (i := 0) hE.1 (by decide) hS) rfl hl.1 rfl (Nat.le_of_ble_eq_true rfl) dJ0_length_8abf5_6 ⟨Nat.zero_le _, Nat.zero_le _⟩ (fun H locs hP hS => ?_)
  refine lv_ishr hx hb dJ0_length_8abf5_9 ?_
  refine z_val (z := nI 12) (by decide) ?_
  exact j_reti hx hb hr hlk rfl hP hS dJ0_length_8abf5_10 (by first | rfl | simp only [g_J0_length_8abf5]) rfl

def g_J1_canEncode_9a6ad (ch : Int32) : Int32 := if ch < 0 then nI 0 else if (nI 255) < ch then nI 0 else nI 1
set_option maxHeartbeats 4000000 in
set_option maxRecDepth 100000 in
theorem ct_J1_canEncode_9a6ad (l : Launch) (qs qv : Nat) (Hh : Heap) (ch : Int32) : jC l yJ1_canEncode_9a6ad wsJ1_canEncode_9a6ad ({ frames := 0, cells := 0, slots := 0, locals := 0 } : Room) qs qv Hh [.int ch] (g_J1_canEncode_9a6ad ch) := by
  refine j_ofi (cc := cJ1_canEncode_9a6ad) (maxL := 1) (own := RJ1) (by decide) rfl (Nat.le_of_ble_eq_true rfl) rfl (fun p e s m below meth c ls hx hb hr hml hts hown hlk hl hE hS => ?_)
  have hP : s.heap = s.heap := rfl
  have hl : lv_has ls 1 [(0, .int ch)] := hl
  refine lv_iload_n hx hb dJ1_canEncode_9a6ad_0 rfl (lv_at hl 0 rfl) ?_
  refine lv_if_lt (tgt := 15) hx hb dJ1_canEncode_9a6ad_1 (by decide) (fun c1_1 => ?_) (fun c1_1 => ?_)
  · refine lv_iconst (v := nI 0) hx hb dJ1_canEncode_9a6ad_15 (by decide) ?_
    exact j_reti hx hb hr hlk (by first | rfl | decide) hP hS dJ1_canEncode_9a6ad_16 (by simp only [g_J1_canEncode_9a6ad, if_pos c1_1]) rfl
  · refine lv_iload_n hx hb dJ1_canEncode_9a6ad_4 rfl (lv_at hl 0 rfl) ?_
    refine lv_sipush (v := nI 255) hx hb dJ1_canEncode_9a6ad_5 (by decide) ?_
    refine lv_icmp_gt (tgt := 15) hx hb dJ1_canEncode_9a6ad_8 (by decide) (fun c8_2 => ?_) (fun c8_2 => ?_)
    · refine lv_iconst (v := nI 0) hx hb dJ1_canEncode_9a6ad_15 (by decide) ?_
      exact j_reti hx hb hr hlk (by first | rfl | decide) hP hS dJ1_canEncode_9a6ad_16 (by simp only [g_J1_canEncode_9a6ad, if_neg c1_1, if_pos c8_2]) rfl
    · refine lv_iconst (v := nI 1) hx hb dJ1_canEncode_9a6ad_11 (by decide) ?_
      refine lv_goto (tgt := 16) hx hb dJ1_canEncode_9a6ad_12 (by decide) ?_
      exact j_reti hx hb hr hlk (by first | rfl | decide) hP hS dJ1_canEncode_9a6ad_16 (by simp only [g_J1_canEncode_9a6ad, if_neg c1_1, if_neg c8_2]) rfl

def g_J1_indexOfChar_lp (ch : Int32) : Nat → Nat → Int32
  | 0, i => (-1)
  | n + 1, i => if (jL i) = ch.toInt8.toInt32 then nI i else g_J1_indexOfChar_lp ch n (i + 1)
def g_J1_indexOfChar_4cfef (ch : Int32) : Int32 := g_J1_indexOfChar_lp ch 12 0
set_option maxHeartbeats 4000000 in
set_option maxRecDepth 100000 in
theorem ct_J1_indexOfChar_4cfef (l : Launch) (qs qv : Nat) (Hh : Heap) (ch : Int32) : jC l yJ1_indexOfChar_4cfef wsJ1_indexOfChar_4cfef ({ frames := 0, cells := 0, slots := 0, locals := 0 } : Room) qs qv Hh [.ref qv, .int ch, .int (nI 0), .int (nI 12)] (g_J1_indexOfChar_4cfef ch) := by
  refine j_ofi (cc := cJ1_indexOfChar_4cfef) (maxL := 6) (own := RJ1) (by decide) rfl (Nat.le_of_ble_eq_true rfl) rfl (fun p e s m below meth c ls hx hb hr hml hts hown hlk hl hE hS => ?_)
  have hP : s.heap = s.heap := rfl
  have hl : lv_has ls 6 [(0, .ref qv), (1, .int ch), (2, .int (nI 0)), (3, .int (nI 12))] := hl
  have lp7 : ∀ (n : Nat) (i : Nat) (H : Heap) (locs : List Loc) (ls : Array Slot) (hn : i + n = 12) (hl : lv_has ls 6 [(0, .ref qv), (1, .int ch), (2, .int (nI 0)), (3, .int (nI 12)), (4, .int ch.toInt8.toInt32), (5, .int (nI i))]) (hP : H = s.heap) (hS : va_S (fun _ => False) s.heap H locs), W p l e ({ frames := 0, cells := 0, slots := 0, locals := 0 } : Room) s m ([.ref qv, .int ch, .int (nI 0), .int (nI 12)] : List Value).toArray below meth c H locs 0 0 (jQ below s.heap [.ref qv, .int ch, .int (nI 0), .int (nI 12)] s (g_J1_indexOfChar_lp ch n i)) (F0 m 7 ls []) := by
    intro n
    induction n with
    | zero =>
      intro i H locs ls hn hl hP hS
      refine lv_iload hx hb dJ1_indexOfChar_4cfef_7 (lv_at hl 5 rfl) ?_
      refine lv_iload_n hx hb dJ1_indexOfChar_4cfef_9 rfl (lv_at hl 3 rfl) ?_
      refine lv_icmp_ge (tgt := 31) hx hb dJ1_indexOfChar_4cfef_10 (by decide) (fun c10_1 => ?_) (fun c10_1 => absurd (nI_le (by omega) (by omega)) c10_1)
      refine lv_iconst (v := (-1)) hx hb dJ1_indexOfChar_4cfef_31 (by decide) ?_
      exact j_reti hx hb hr hlk rfl hP hS dJ1_indexOfChar_4cfef_32 (by first | rfl | simp only [g_J1_indexOfChar_lp]) rfl
    | succ n ih =>
      intro i H locs ls hn hl hP hS
      refine lv_iload hx hb dJ1_indexOfChar_4cfef_7 (lv_at hl 5 rfl) ?_
      refine lv_iload_n hx hb dJ1_indexOfChar_4cfef_9 rfl (lv_at hl 3 rfl) ?_
      refine lv_icmp_ge (tgt := 31) hx hb dJ1_indexOfChar_4cfef_10 (by decide) (fun c10_2 => absurd c10_2 (nI_ge (by omega) (by decide))) (fun c10_2 => ?_)
      refine lv_aload_n hx hb dJ1_indexOfChar_4cfef_13 rfl (lv_at hl 0 rfl) ?_
      refine lv_iload hx hb dJ1_indexOfChar_4cfef_14 (lv_at hl 5 rfl) ?_
      refine va_tb (v := .int (jL i)) hx hb (hE.1.1 0 (by decide)).2.2.2 hS (vp_in_nI (N := 12) (by omega) (by decide)) (by rw [nI_clamp (by omega)]; rfl) dJ1_indexOfChar_4cfef_16 ?_
      refine lv_iload hx hb dJ1_indexOfChar_4cfef_17 (lv_at hl 4 rfl) ?_
      refine lv_icmp_ne (tgt := 25) hx hb dJ1_indexOfChar_4cfef_19 (by decide) (fun c19_3 => ?_) (fun c19_3 => ?_)
      · refine lv_iinc (v := nI (i + 1)) (lv' := [(5, .int (nI (i + 1))), (0, .ref qv), (1, .int ch), (2, .int (nI 0)), (3, .int (nI 12)), (4, .int ch.toInt8.toInt32)]) hx hb dJ1_indexOfChar_4cfef_25 hl (k := 5) rfl (nI_add _ _) (by decide) rfl (fun ls hl => ?_)
        refine lv_goto (tgt := 7) hx hb dJ1_indexOfChar_4cfef_28 (by decide) ?_
        refine j_toi (r2 := g_J1_indexOfChar_lp ch n (i + 1)) (Z2 := 0) (by simp only [g_J1_indexOfChar_lp, if_neg c19_3]) rfl ?_
        exact ih (i + 1) _ _ _ (by omega) (lv_sub hl [1, 2, 3, 4, 5, 0] rfl) hP hS
      · refine lv_iload hx hb dJ1_indexOfChar_4cfef_22 (lv_at hl 5 rfl) ?_
        exact j_reti hx hb hr hlk rfl hP hS dJ1_indexOfChar_4cfef_24 (by simp only [g_J1_indexOfChar_lp, if_pos c19_3]) rfl
  refine lv_iload_n hx hb dJ1_indexOfChar_4cfef_0 rfl (lv_at hl 1 rfl) ?_
  refine lv_i2b (v := ch.toInt8.toInt32) hx hb dJ1_indexOfChar_4cfef_1 rfl ?_
  refine lv_istore (lv' := [(4, .int ch.toInt8.toInt32), (0, .ref qv), (1, .int ch), (2, .int (nI 0)), (3, .int (nI 12))]) hx hb dJ1_indexOfChar_4cfef_2 hl (by decide) rfl (fun ls hl => ?_)
  refine lv_iload_n hx hb dJ1_indexOfChar_4cfef_4 rfl (lv_at hl 3 rfl) ?_
  refine lv_istore (lv' := [(5, .int (nI 0)), (4, .int ch.toInt8.toInt32), (0, .ref qv), (1, .int ch), (2, .int (nI 0)), (3, .int (nI 12))]) hx hb dJ1_indexOfChar_4cfef_5 hl (by decide) rfl (fun ls hl => ?_)
  refine j_toi (r2 := g_J1_indexOfChar_lp ch 12 0) (Z2 := 0) (by first | rfl | simp only [g_J1_indexOfChar_4cfef]) rfl ?_
  exact lp7 12 0 _ _ _ (by omega) (lv_sub hl [2, 3, 4, 5, 1, 0] rfl) hP hS

def g_J1_indexOf_4cfef (ch : Int32) : Int32 := if (g_J1_canEncode_9a6ad ch) = 0 then (-1) else (g_J1_indexOfChar_4cfef ch)
set_option maxHeartbeats 4000000 in
set_option maxRecDepth 100000 in
theorem ct_J1_indexOf_4cfef (l : Launch) (qs qv : Nat) (Hh : Heap) (ch : Int32) : jC l yJ1_indexOf_4cfef wsJ1_indexOf_4cfef ({ frames := 1, cells := 0, slots := 0, locals := 25 } : Room) qs qv Hh [.ref qv, .int ch, .int (nI 0), .int (nI 12)] (g_J1_indexOf_4cfef ch) := by
  refine j_ofi (cc := cJ1_indexOf_4cfef) (maxL := 4) (own := RJ1) (by decide) rfl (Nat.le_of_ble_eq_true rfl) rfl (fun p e s m below meth c ls hx hb hr hml hts hown hlk hl hE hS => ?_)
  have hP : s.heap = s.heap := rfl
  have hl : lv_has ls 4 [(0, .ref qv), (1, .int ch), (2, .int (nI 0)), (3, .int (nI 12))] := hl
  refine lv_iload_n hx hb dJ1_indexOf_4cfef_0 rfl (lv_at hl 1 rfl) ?_
  refine j_cSi (As := [.int ch]) (rest := []) ⟨hx, hb, hml, hown, hts⟩ (ct_J1_canEncode_9a6ad l qs qv s.heap ch) (va_cwS 1 hts gJ1_indexOf_4cfef_J1_canEncode_9a6ad rfl rfl rfl (by decide +kernel) ⟨Nat.le_of_ble_eq_true rfl, Nat.le_of_ble_eq_true rfl⟩) hE hP hS rfl hl.1 rfl (Nat.le_of_ble_eq_true rfl) dJ1_indexOf_4cfef_1 ⟨Nat.zero_le _, Nat.zero_le _⟩ (fun H locs hP hS => ?_)
  refine lv_if_ne (tgt := 9) hx hb dJ1_indexOf_4cfef_4 (by decide) (fun c4_1 => ?_) (fun c4_1 => ?_)
  · refine lv_iload_n hx hb dJ1_indexOf_4cfef_9 rfl (lv_at hl 2 rfl) ?_
    refine lv_iconst (v := nI 0) hx hb dJ1_indexOf_4cfef_10 (by decide) ?_
    refine va_mmax hx hb (hml.trans hl.1.symm) hown (hts (.methodLink RJ1 92 Lib.Math.max.name) (by decide +kernel)) (hts (.static Lib.Math.max.name) (by decide +kernel)) (hts (.initialized "java/lang/Math") (by decide +kernel)) (hts (.code Lib.Math.max.name Lib.Math.max.code 2 (some .int)) (by decide +kernel)) (Nat.le_of_ble_eq_true rfl) (Nat.le_of_ble_eq_true rfl) (Nat.zero_le _) (Nat.zero_le _) dJ1_indexOf_4cfef_11 ?_
    refine z_val (z := nI 0) (by decide) ?_
    refine z_val (z := nI 0) (by decide) ?_
    refine lv_istore_n (lv' := [(2, .int (nI 0)), (0, .ref qv), (1, .int ch), (3, .int (nI 12))]) hx hb dJ1_indexOf_4cfef_14 rfl hl (by decide) rfl (fun ls hl => ?_)
    refine lv_iload_n hx hb dJ1_indexOf_4cfef_15 rfl (lv_at hl 3 rfl) ?_
    refine lv_aload_n hx hb dJ1_indexOf_4cfef_16 rfl (lv_at hl 1 rfl) ?_
    refine va_tlen (v := nI 12) hx hb (hE.1.1 0 (by decide)).2.2.2 hS rfl dJ1_indexOf_4cfef_17 ?_
    refine va_mmin hx hb (hml.trans hl.1.symm) hown (hts (.methodLink RJ1 38 Lib.Math.min.name) (by decide +kernel)) (hts (.static Lib.Math.min.name) (by decide +kernel)) (hts (.initialized "java/lang/Math") (by decide +kernel)) (hts (.code Lib.Math.min.name Lib.Math.min.code 2 (some .int)) (by decide +kernel)) (Nat.le_of_ble_eq_true rfl) (Nat.le_of_ble_eq_true rfl) (Nat.zero_le _) (Nat.zero_le _) dJ1_indexOf_4cfef_18 ?_
    refine z_val (z := nI 12) (by decide) ?_
    refine z_val (z := nI 12) (by decide) ?_
    refine lv_istore_n (lv' := [(3, .int (nI 12)), (2, .int (nI 0)), (0, .ref qv), (1, .int ch)]) hx hb dJ1_indexOf_4cfef_21 rfl hl (by decide) rfl (fun ls hl => ?_)
    refine lv_iload_n hx hb dJ1_indexOf_4cfef_22 rfl (lv_at hl 1 rfl) ?_
    refine lv_iload_n hx hb dJ1_indexOf_4cfef_23 rfl (lv_at hl 0 rfl) ?_
    refine lv_icmp_lt (tgt := 29) hx hb dJ1_indexOf_4cfef_24 (by decide) (fun c24_2 => ?_) (fun c24_2 => absurd (by decide) c24_2)
    refine lv_aload_n hx hb dJ1_indexOf_4cfef_29 rfl (lv_at hl 2 rfl) ?_
    refine lv_iload_n hx hb dJ1_indexOf_4cfef_30 rfl (lv_at hl 3 rfl) ?_
    refine lv_iload_n hx hb dJ1_indexOf_4cfef_31 rfl (lv_at hl 1 rfl) ?_
    refine lv_iload_n hx hb dJ1_indexOf_4cfef_32 rfl (lv_at hl 0 rfl) ?_
    refine j_cSi (As := [.ref qv, .int ch, .int (nI 0), .int (nI 12)]) (rest := []) ⟨hx, hb, hml, hown, hts⟩ (ct_J1_indexOfChar_4cfef l qs qv s.heap ch) (va_cwS 4 hts gJ1_indexOf_4cfef_J1_indexOfChar_4cfef rfl rfl rfl (by decide +kernel) ⟨Nat.le_of_ble_eq_true rfl, Nat.le_of_ble_eq_true rfl⟩) hE hP hS rfl hl.1 rfl (Nat.le_of_ble_eq_true rfl) dJ1_indexOf_4cfef_33 ⟨Nat.zero_le _, Nat.zero_le _⟩ (fun H locs hP hS => ?_)
    exact j_reti hx hb hr hlk rfl hP hS dJ1_indexOf_4cfef_36 (by simp only [g_J1_indexOf_4cfef, if_neg c4_1]) rfl
  · refine lv_iconst (v := (-1)) hx hb dJ1_indexOf_4cfef_7 (by decide) ?_
    exact j_reti hx hb hr hlk rfl hP hS dJ1_indexOf_4cfef_8 (by simp only [g_J1_indexOf_4cfef, if_pos c4_1]) rfl

def g_J0_indexOf_7cf53 (ch : Int32) : Int32 := (g_J1_indexOf_4cfef ch)
set_option maxHeartbeats 4000000 in
set_option maxRecDepth 100000 in
theorem ct_J0_indexOf_7cf53 (l : Launch) (qs qv : Nat) (Hh : Heap) (ch : Int32) : jC l yJ0_indexOf_7cf53 wsJ0_indexOf_7cf53 ({ frames := 2, cells := 0, slots := 0, locals := 48 } : Room) qs qv Hh [.ref qs, .int ch, .int (nI 0)] (g_J0_indexOf_7cf53 ch) := by
  refine j_ofi (cc := cJ0_indexOf_7cf53) (maxL := 3) (own := RJ0) (by decide) rfl (Nat.le_of_ble_eq_true rfl) rfl (fun p e s m below meth c ls hx hb hr hml hts hown hlk hl hE hS => ?_)
  have hP : s.heap = s.heap := rfl
  have hl : lv_has ls 3 [(0, .ref qs), (1, .int ch), (2, .int (nI 0))] := hl
  refine lv_aload_n hx hb dJ0_indexOf_7cf53_0 rfl (lv_at hl 0 rfl) ?_
  refine j_cVi (As := []) (rest := []) ⟨hx, hb, hml, hown, hts⟩ (ct_J0_isLatin1_aae02 l qs qv s.heap ) (cwV 0 hts gJ0_indexOf_7cf53_J0_isLatin1_aae02 rfl rfl rfl (by decide +kernel) ⟨Nat.le_of_ble_eq_true rfl, Nat.le_of_ble_eq_true rfl⟩) hE hP hS (vk_recv (i := 0) hE.1 (by decide) hS) rfl hl.1 rfl (Nat.le_of_ble_eq_true rfl) dJ0_indexOf_7cf53_1 ⟨Nat.zero_le _, Nat.zero_le _⟩ (fun H locs hP hS => ?_)
  refine lv_if_eq (tgt := 23) hx hb dJ0_indexOf_7cf53_4 (by decide) (fun c4_1 => absurd c4_1 (by decide)) (fun c4_1 => ?_)
  refine lv_aload_n hx hb dJ0_indexOf_7cf53_7 rfl (lv_at hl 0 rfl) ?_
  refine vk_getf hx hb (hE.1.1 0 (by decide)).2.2.1 hS hown (hts (.fieldLink RJ0 9 "java/lang/String" "value" "[B") (by decide +kernel)) (fun _ h => h) dJ0_indexOf_7cf53_8 ?_
  refine lv_iload_n hx hb dJ0_indexOf_7cf53_11 rfl (lv_at hl 1 rfl) ?_
  refine lv_iload_n hx hb dJ0_indexOf_7cf53_12 rfl (lv_at hl 2 rfl) ?_
  refine lv_aload_n hx hb dJ0_indexOf_7cf53_13 rfl (lv_at hl 0 rfl) ?_
  refine j_cVi (As := []) (rest := [.int (nI 0), .int ch, .ref qv]) ⟨hx, hb, hml, hown, hts⟩ (ct_J0_length_8abf5 l qs qv s.heap ) (cwV 0 hts gJ0_indexOf_7cf53_J0_length_8abf5 rfl rfl rfl (by decide +kernel) ⟨Nat.le_of_ble_eq_true rfl, Nat.le_of_ble_eq_true rfl⟩) hE hP hS (vk_recv (i := 0) hE.1 (by decide) hS) rfl hl.1 rfl (Nat.le_of_ble_eq_true rfl) dJ0_indexOf_7cf53_14 ⟨Nat.zero_le _, Nat.zero_le _⟩ (fun H locs hP hS => ?_)
  refine j_cSi (As := [.ref qv, .int ch, .int (nI 0), .int (nI 12)]) (rest := []) ⟨hx, hb, hml, hown, hts⟩ (ct_J1_indexOf_4cfef l qs qv s.heap ch) (va_cwS 4 hts gJ0_indexOf_7cf53_J1_indexOf_4cfef rfl rfl rfl (by decide +kernel) ⟨Nat.le_of_ble_eq_true rfl, Nat.le_of_ble_eq_true rfl⟩) hE hP hS rfl hl.1 rfl (Nat.le_of_ble_eq_true rfl) dJ0_indexOf_7cf53_17 ⟨Nat.zero_le _, Nat.zero_le _⟩ (fun H locs hP hS => ?_)
  refine lv_goto (tgt := 36) hx hb dJ0_indexOf_7cf53_20 (by decide) ?_
  exact j_reti hx hb hr hlk rfl hP hS dJ0_indexOf_7cf53_36 (by first | rfl | simp only [g_J0_indexOf_7cf53]) rfl

def g_J0_indexOf_0f7a4 (ch : Int32) : Int32 := (g_J0_indexOf_7cf53 ch)
set_option maxHeartbeats 4000000 in
set_option maxRecDepth 100000 in
theorem ct_J0_indexOf_0f7a4 (l : Launch) (qs qv : Nat) (Hh : Heap) (ch : Int32) : jC l yJ0_indexOf_0f7a4 wsJ0_indexOf_0f7a4 ({ frames := 3, cells := 0, slots := 0, locals := 70 } : Room) qs qv Hh [.ref qs, .int ch] (g_J0_indexOf_0f7a4 ch) := by
  refine j_ofi (cc := cJ0_indexOf_0f7a4) (maxL := 2) (own := RJ0) (by decide) rfl (Nat.le_of_ble_eq_true rfl) rfl (fun p e s m below meth c ls hx hb hr hml hts hown hlk hl hE hS => ?_)
  have hP : s.heap = s.heap := rfl
  have hl : lv_has ls 2 [(0, .ref qs), (1, .int ch)] := hl
  refine lv_aload_n hx hb dJ0_indexOf_0f7a4_0 rfl (lv_at hl 0 rfl) ?_
  refine lv_iload_n hx hb dJ0_indexOf_0f7a4_1 rfl (lv_at hl 1 rfl) ?_
  refine lv_iconst (v := nI 0) hx hb dJ0_indexOf_0f7a4_2 (by decide) ?_
  refine j_cVi (As := [.int ch, .int (nI 0)]) (rest := []) ⟨hx, hb, hml, hown, hts⟩ (ct_J0_indexOf_7cf53 l qs qv s.heap ch) (cwV 2 hts gJ0_indexOf_0f7a4_J0_indexOf_7cf53 rfl rfl rfl (by decide +kernel) ⟨Nat.le_of_ble_eq_true rfl, Nat.le_of_ble_eq_true rfl⟩) hE hP hS (vk_recv (i := 0) hE.1 (by decide) hS) rfl hl.1 rfl (Nat.le_of_ble_eq_true rfl) dJ0_indexOf_0f7a4_3 ⟨Nat.zero_le _, Nat.zero_le _⟩ (fun H locs hP hS => ?_)
  exact j_reti hx hb hr hlk rfl hP hS dJ0_indexOf_0f7a4_6 (by first | rfl | simp only [g_J0_indexOf_0f7a4]) rfl

/-! the class's methods that look letters up -/
def zStr (qs qv : Nat) (a : Nat → Nat) (U : State) : Prop := vk_R RX4 41 "sadmlwxjznbh" qs U ∧ jS qs qv (zA a) U U.heap
def tPre (D : va_G) (a : Nat → Nat) (ca : Nat → ClassId) (qs qv : Nat) (Z : Nat → zM) (U : State) : Prop := zPre D a ca Z U ∧ zStr qs qv a U
def zTi (l : Launch) (y : MethodName) (ws : List Cond) (rm : Room) (D : va_G) (a : Nat → Nat) (ca : Nat → ClassId) (qs qv : Nat) (av : List Value) (Z : Nat → zM) (r : Int32) (Z' : Nat → zM) : Prop :=
  Met l y ws rm (va_Pc av (tPre D a ca qs qv Z)) (va_Qi (fun (r' : Int32) (_ : Unit) => r' = r) (fun _ t => va_P D vwCl (zW a ca Z') t.heap) (zA a)) 0 0 (zA a)
theorem zStr.to {qs qv : Nat} {a : Nat → Nat} {s U : State} {H : Heap} {locs : List Loc} (h : zStr qs qv a s) (hU : U.heap = H) (hS : va_S (zA a) s.heap H locs) (hW : s.WarmedH U.vm) : zStr qs qv a U := by
  subst hU
  exact ⟨vk_R.warm hW h.1, jS.moved hW.alike (h.2.kept hS.2.1)⟩
theorem zStr.call {qs qv : Nat} {a : Nat → Nat} {U : State} {g : JFrame} {mk : MethodId} {v : Array Value} (h : zStr qs qv a U) : zStr qs qv a (U.calling g mk v) := ⟨vk_R.same (u := U) rfl h.1, jS.moved (u := U) (U := U.calling g mk v) (Vm.Alike.refl U.vm) h.2⟩
theorem tBlind {D : va_G} {a : Nat → Nat} {ca : Nat → ClassId} {qs qv : Nat} {Z : Nat → zM} {av : List Value} : FrameBlind (va_Pc av (tPre D a ca qs qv Z)) := fun v U g mk q => ⟨q.1, ⟨q.2.1.1, q.2.1.2.call⟩, q.2.2.call⟩
section TR
variable {p : Program} {l : Launch} {e : Env} {R : Room} {s : State} {m : MethodId} {args : Array Value} {below : List Frame} {meth : Method} {c : Code} {H : Heap} {locs : List Loc} {cells slots : Nat} {Q : State → Prop}
variable {cc : ByteArray} {pc : Nat} {ls : Array Slot} {rest st0 : List Value} {D : va_G} {a : Nat → Nat} {ca : Nat → ClassId} {qs qv : Nat} {Z Z' : Nat → zM} {av : List Value}
theorem t_ofi {y : MethodName} {ws ws' : List Cond} {rm : Room} {r : Int32} {maxL : Nat} {rt : FieldType} {own : String} (hy : plainName y.cls = true) (hw : ws = Cond.code y cc maxL (some rt) :: ws') (hla : (lg_sl av).length ≤ maxL) (ho : y.cls = own)
    (body : ∀ (p : Program) (e : Env) (s : State) (m : MethodId) (below : List Frame) (meth : Method) (c : Code) (ls : Array Slot), p.tables.exec = Jvm.exec → c.code = cc → meth.sig.returnType = some rt → c.maxLocals = maxL → (∀ w ∈ ws, w.before av.toArray s = true) → s.vm.findClass own = some m.cls → meth.locks = false → lv_has ls maxL (lv_args 0 av) → zK D ca s → zStr qs qv a s → va_P D vwCl (zW a ca Z) s.heap → va_S (zA a) s.heap s.heap [] →
      W p l e rm s m av.toArray below meth c s.heap [] 0 0 (zQi below D a ca av s r Z') (F0 m 0 ls [])) : zTi l y ws rm D a ca qs qv av Z r Z' := by
  refine Met.ofW (cc := cc) (maxL := maxL) (ret := some rt) hy hw ?_
  intro p e s m args below meth c s₁ B hml hv
  obtain ⟨rfl, ⟨hP, hK⟩, hE⟩ := hv
  have hl := lv_entry av (n := maxL) hla
  rw [lg_entry_eq]
  generalize (lg_sl av ++ List.replicate (maxL - (lg_sl av).length) Slot.unset).toArray = ls at hl ⊢
  subst ho
  exact body p e s m below meth c ls B.exec B.bytes B.returns hml (atoms_spec (ws := ws) B.pre) (findClass_of_methodNamed B.named) B.notSynchronized hl hK hE hP va_S.rf
variable {y : MethodName} {bytes : ByteArray} {maxL nL n index : Nat} {ret : Option FieldType} {ws : List Cond} {rm : Room} {Ts : List Cond} {own C host : String} {b : Addr} {As : List Value} {r : Int32}
theorem t_cVi (S : CallFix p m c cc nL s args Ts own) (hM : zTi l y ws rm D a ca qs qv (.ref b :: As) Z r Z') (cw : CallW R s args own C index y bytes maxL ret ws rm 0 0 n) (hE : zStr qs qv a s) (hK : zK D ca s) (hP : va_P D vwCl (zW a ca Z) H) (hS : va_S (zA a) s.heap H locs) (hrv : ∃ cellB : Cell, H[b]? = some cellB ∧ cellB.vm.isStatics = false ∧ s.vm.findClass C = some cellB.cls) (hn : As.length = n) (hsz : ls.size = nL) (hst : st0 = As.reverse ++ .ref b :: rest) (hW : (rest.map fun v => v.category).sum ≤ 8) (hdg : decode cc pc = .ok (.invokevirtual index, 3)) (hf : cells ≤ R.cells ∧ slots ≤ R.slots)
    (kk : ∀ (H1 : Heap) (locs1 : List Loc), va_P D vwCl (zW a ca Z') H1 → va_S (zA a) s.heap H1 locs1 → W p l e R s m args below meth c H1 locs1 cells slots Q (F0 m (pc + 3) ls (.int r :: rest))) : W p l e R s m args below meth c H locs cells slots Q (F0 m pc ls st0) :=
  va_calli (va_runV (g := F0 m pc ls st0) S hM cw ⟨tBlind, hrv, fun U hU hW => ⟨rfl, ⟨by rw [hU]; exact hP, hK.warm hW⟩, hE.to hU hS hW⟩⟩ rfl hn hsz hst (lv_room hW) hdg hf) hS (fun _ _ h => h) (fun _ h => h) (fun r' u t H1 l1 ht _ hw hB _ _ hS1 => by subst hw; rw [ht] at hB; exact kk H1 l1 hB hS1)
theorem z_cJ (S : CallFix p m c cc nL s args Ts own) (hM : ∀ Hh : Heap, jC l y ws rm qs qv Hh (.ref qs :: As) r) (cw : CallW R s args own "java/lang/String" index y bytes maxL ret ws rm 0 0 n) (hE : zStr qs qv a s) (hP : va_P D vwCl (zW a ca Z) H) (hS : va_S (zA a) s.heap H locs) (hn : As.length = n) (hsz : ls.size = nL) (hst : st0 = As.reverse ++ .ref qs :: rest) (hW : (rest.map fun v => v.category).sum ≤ 8) (hdg : decode cc pc = .ok (.invokevirtual index, 3)) (hf : cells ≤ R.cells ∧ slots ≤ R.slots)
    (kk : ∀ (H1 : Heap) (locs1 : List Loc), va_P D vwCl (zW a ca Z) H1 → va_S (zA a) s.heap H1 locs1 → W p l e R s m args below meth c H1 locs1 cells slots Q (F0 m (pc + 3) ls (.int r :: rest))) : W p l e R s m args below meth c H locs cells slots Q (F0 m pc ls st0) :=
  va_calli (va_runV (g := F0 m pc ls st0) S (hM H) cw ⟨jBlind, vk_recv (i := 0) hE.2.1 (by decide) hS, fun U hU hW => ⟨rfl, hU, jS.moved hW.alike ((hE.2.kept hS.2.1).narrow (fun _ h => h.elim))⟩⟩ rfl hn hsz hst (lv_room hW) hdg hf) hS (fun _ _ h => h.elim) (fun _ h => h.elim) (fun r' u t H1 l1 ht _ hw hB _ _ hS1 => by
    subst hw
    have e : H1 = H := ht.symm.trans hB
    subst e
    exact kk _ l1 hP hS1)
end TR
