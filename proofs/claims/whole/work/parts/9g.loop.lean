/-! THE CLAIM OUT OF ONE WALK OF THE LAW'S BODY. Your part is whole_start (and what it stands on); all else here is the same for every law, but numbers. -/
def R_law : String := "BarrelProcessorLaw"
def lw_P (b : Addr) (xs : List Int32) (args : Array Value) (s : State) : Prop := args = #[.ref b] ∧ s.IntsAt b xs ∧ xs.length ≤ 2048 ∧ (Jvm.Cond.and given_1 narrow_1).before args s = true
/-- what a walk over the start with the record d0 says of its end, said of the start itself -/
theorem lw_closed {s t : State} {o : Outcome} {d0 : Drawn} {L : List Loc} {k n : Nat} (hd0 : s.drawn.sameBut d0 lw_cs) (hv : ∃ v, o = .returned v) (hW : (s.setDrawn d0).WarmedH t.vm) (hs : (s.setDrawn d0).sameButNew ({ t with vm := s.vm } : State) L k n) : State.butDraws s t lw_cs (fun t1 => Framed s o t1 L k n) := by
  have h2 : t.drawn = d0 := congrArg State.drawn hs.1
  refine ⟨⟨hv, hW, State.sameButNew.setDrawn hs s.drawn⟩, ?_, by decide⟩
  rw [h2]
  exact hd0
def lw_Q (_ : Array Value) (s : State) (o : Outcome) (t : State) : Prop := o = .returned (some (.int 1)) ∧ State.butDraws s t lw_cs (fun t1 => Framed s o t1 [] 600000 7302250)
def lw_Z (below : List Frame) (a : Array Value) (s : State) : State → Prop := fun t => ∃ o, t.status = .running ∧ Ended t below o ∧ lw_Q a s o t
/-- the law's own end, with 1 on the stack, nothing written that was there before, its room as the claim has it; d0: the record of draws at this point (at the entry s.drawn: begin with 'refine W.base ?_' and 'have hd0 := Drawn.sameBut.refl s.drawn lw_cs') -/
theorem lw_ret {p : Program} {l : Launch} {e : Env} {s : State} {m : MethodId} {below : List Frame} {meth : Method} {c : Code} {b : Nat} {d0 : Drawn} (hd0 : s.drawn.sameBut d0 lw_cs) (hx : p.tables.exec = Jvm.exec) (hb : c.code = code) (hr : meth.sig.returnType = ret) (hlocks : meth.locks = false) {pc : Nat} {H : Heap} {ls : Array Slot} (hdg : decode code pc = .ok (.ireturn, 1)) : W p l e room_1 (s.setDrawn d0) m #[Value.ref b] below meth c H [] 600000 7302250 (lw_Z below #[Value.ref b] s) (F0 m pc ls [.int 1]) := by
  intro T hT X
  obtain ⟨fs, hret, hrun, hended, hW, hframe⟩ := X.leave (v := some (.int 1)) (hlocks := hlocks) (fun h => by rw [hr] at h; cases h)
  have hmeth' : T.vm.method? m = some meth := X.method'
  refine ⟨T.setFrames fs, ?_, .returned (some (.int 1)), hrun, hended, rfl, lw_closed hd0 ⟨_, rfl⟩ hW hframe⟩
  jvm_step X.here [X.here.top, hx, hb, hdg, hmeth', hr, ret, narrow_b1]
  (try refine ⟨rfl, ?_⟩); (try refine ⟨rfl, ?_⟩)
  first | (intro acts; rw [hret _ acts rfl rfl rfl]) | rw [hret _ _ rfl rfl rfl]
  exact Steps.refl _
/-- what holds at the law's entry: the machine, the code, the tables' words (any of lw_tbl by 'hts w (by decide +kernel)'), the script of L ints xs at the cell b, what the Statement gives of the start (any of its parts by flat_of_before) -/
def lw_At (p : Program) (s : State) (m : MethodId) (meth : Method) (c : Code) (b L : Nat) (xs : Nat → Int32) : Prop :=
  p.tables.exec = Jvm.exec ∧ c.code = code ∧ meth.sig.returnType = ret ∧ c.maxLocals = 8 ∧ s.vm.findClass R_law = some m.cls ∧ (∀ w ∈ lw_tbl, w.before #[Value.ref b] s = true) ∧ va_X b L xs s s.heap ∧ b < s.heap.size ∧ meth.locks = false ∧ (Jvm.Cond.and given_1 narrow_1).before #[Value.ref b] s = true
/-! the law's loop -/
theorem law_gt {L i : Nat} (hL : L ≤ 2048) (hi : i ≤ 4096) : Int32.ofNat L - nI 4 < nI i ↔ L < i + 4 := by
  rw [Int32.lt_iff_toInt_lt, nI_toInt (by omega)]
  by_cases h : 4 ≤ L
  · have e : Int32.ofNat L = nI (L - 4) + nI 4 := by
      rw [nI_add, show L - 4 + 4 = L by omega]
      rfl
    rw [e, Int32.add_sub_cancel, nI_toInt (by omega)]
    omega
  · have k : ∀ L, L < 4 → (Int32.ofNat L - nI 4).toInt = (L : Int) - 4 := by decide
    rw [k L (by omega)]
    omega
set_option maxHeartbeats 4000000 in
set_option maxRecDepth 100000 in
theorem law_loop {p : Program} {l : Launch} {e : Env} {s : State} {m : MethodId} {below : List Frame} {meth : Method} {c : Code} {cells slots : Nat} {D : va_G} {a am : Nat → Nat} {ca : Nat → ClassId} {qs qv b L : Nat} {xs : Nat → Int32} (C0 : lw_At p s m meth c b L xs) (X0 : LX p s m c b L xs D a ca am qs qv) (hf : cells ≤ 600000 ∧ slots ≤ 7302250) (hf2 : cells ≤ room_1.cells ∧ slots ≤ room_1.slots) :
    ∀ (n j : Nat) (Z : Nat → zM) (N A P X : zM) (H : Heap) (locs : List Loc) (ls : Array Slot), L < 4 * j + 4 * n → 4 * j ≤ 2048 → IV (200 * j) Z N P X → va_P D vwCl (zW a ca Z) H → va_P D vwCl (mW am (ca 0) (N, A, P, X)) H → va_S (lA s) s.heap H locs → lv_has ls 8 [(0, .ref b), (1, .ref (a 114)), (2, .ref (am 0)), (3, .int (nI (4 * j)))] → W p l e room_1 s m #[Value.ref b] below meth c H locs cells slots (lw_Z below #[Value.ref b] s) (F0 m 18 ls []) := by
  have X1 := X0
  obtain ⟨hx, hb, hml, hown, hts, hX, hbl, hL, hJ, hM, hK, hKm, hE, hz, hzm, hd⟩ := X1
  obtain ⟨-, hbc, hr, -, -, -, -, -, hlocks, -⟩ := C0
  intro n
  induction n with
  | zero =>
    intro j Z N A P X H locs ls hn hj hV hP hQ hS hl
    refine lv_iload_n hx hb dL_law_18 rfl (lv_at hl 3 rfl) ?_
    refine lv_aload_n hx hb dL_law_19 rfl (lv_at hl 0 rfl) ?_
    refine va_slen hx hb hX hbl (Nat.not_le.mpr hbl) hS dL_law_20 ?_
    refine lv_iconst (v := nI 4) hx hb dL_law_21 (by decide) ?_
    refine lv_isub hx hb dL_law_22 ?_
    refine lv_icmp_gt (tgt := 1038) hx hb dL_law_23 (by decide) (fun _ => ?_) (fun g => absurd ((law_gt hL (by omega)).mpr (by omega)) g)
    refine lv_iconst (v := 1) hx hb dL_law_1038 (by decide) ?_
    refine va_forget (fun q hq => hS.2.2 q hq) ?_
    refine W.widen (k := 600000) (n := 7302250) hf.1 hf.2 ?_
    refine W.base ?_
    exact lw_ret (Drawn.sameBut.refl s.drawn lw_cs) hx hbc hr hlocks dL_law_1039
  | succ n ih =>
    intro j Z N A P X H locs ls hn hj hV hP hQ hS hl
    refine lv_iload_n hx hb dL_law_18 rfl (lv_at hl 3 rfl) ?_
    refine lv_aload_n hx hb dL_law_19 rfl (lv_at hl 0 rfl) ?_
    refine va_slen hx hb hX hbl (Nat.not_le.mpr hbl) hS dL_law_20 ?_
    refine lv_iconst (v := nI 4) hx hb dL_law_21 (by decide) ?_
    refine lv_isub hx hb dL_law_22 ?_
    refine lv_icmp_gt (tgt := 1038) hx hb dL_law_23 (by decide) (fun _ => ?_) (fun g => ?_)
    · refine lv_iconst (v := 1) hx hb dL_law_1038 (by decide) ?_
      refine va_forget (fun q hq => hS.2.2 q hq) ?_
      refine W.widen (k := 600000) (n := 7302250) hf.1 hf.2 ?_
      refine W.base ?_
      exact lw_ret (Drawn.sameBut.refl s.drawn lw_cs) hx hbc hr hlocks dL_law_1039
    · have hi : 4 * j + 4 ≤ L := Nat.le_of_not_lt (fun q => g ((law_gt hL (by omega)).mpr q))
      have hB : 200 * j + 700 < 1000000 := by omega
      refine lv_aload_n hx hb dL_law_26 rfl (lv_at hl 0 rfl) ?_
      refine lv_iload_n hx hb dL_law_27 rfl (lv_at hl 3 rfl) ?_
      refine va_sld hx hb hX hbl (Nat.not_le.mpr hbl) hS (vp_in_nI (show 4 * j < L by omega) (by omega)) dL_law_28 ?_
      refine lv_bipush (v := nI 63) hx hb dL_law_29 (by decide) ?_
      refine lv_iand hx hb dL_law_31 ?_
      obtain ⟨k, hk, ek⟩ := pk_andE (xs (nI (4 * j)).toNatClampNeg) (m := nI 63) 6 (by decide)
      refine z_val (z := nI k) ek ?_
      have kk : LK p l e s m below meth c cells slots (lw_Z below #[Value.ref b] s) D a am ca b (4 * j) (200 * j) := by
        intro Z N A P X H locs ls hV hP hQ hS hl
        refine lv_iinc (v := nI (4 * (j + 1))) (lv' := [(3, .int (nI (4 * (j + 1)))), (0, .ref b), (1, .ref (a 114)), (2, .ref (am 0))]) hx hb dL_law_1032 hl (k := 3) rfl ?_ (by decide) rfl (fun ls hl => ?_)
        · rw [show Int32.ofInt 4 = nI 4 by decide, nI_add, show 4 * j + 4 = 4 * (j + 1) by omega]
        · refine lv_goto (tgt := 18) hx hb dL_law_1035 (by decide) ?_
          exact ih (j + 1) Z N A P X H locs ls (by omega) (by omega) (by rw [show 200 * (j + 1) = 200 * j + 200 by omega]; exact hV) hP hQ hS (lv_sub hl [1, 2, 3, 0] rfl)
      match k, hk with
      | 0, _ => exact lv_tableIn (off := 152) (tgt := 184) hx hb dL_law_32 (by decide) (by decide) (by decide) (by decide) (cs_assemble X0 hi hB hV hl hP hQ hS hf2 kk)
      | 1, _ => exact lv_tableIn (off := 175) (tgt := 207) hx hb dL_law_32 (by decide) (by decide) (by decide) (by decide) (cs_start X0 hi hB hV hl hP hQ hS hf2 kk)
      | 2, _ => exact lv_tableIn (off := 208) (tgt := 240) hx hb dL_law_32 (by decide) (by decide) (by decide) (by decide) (cs_halt X0 hi hB hV hl hP hQ hS hf2 kk)
      | 3, _ => exact lv_tableIn (off := 231) (tgt := 263) hx hb dL_law_32 (by decide) (by decide) (by decide) (by decide) (cs_setRegister X0 hi hB hV hl hP hQ hS hf2 kk)
      | 4, _ => exact lv_tableIn (off := 274) (tgt := 306) hx hb dL_law_32 (by decide) (by decide) (by decide) (by decide) (cs_setWord X0 hi hB hV hl hP hQ hS hf2 kk)
      | 5, _ => exact lv_tableIn (off := 307) (tgt := 339) hx hb dL_law_32 (by decide) (by decide) (by decide) (by decide) (cs_setSlot X0 hi hB hV hl hP hQ hS hf2 kk)
      | 6, _ => exact lv_tableIn (off := 340) (tgt := 372) hx hb dL_law_32 (by decide) (by decide) (by decide) (by decide) (cs_set X0 hi hB hV hl hP hQ hS hf2 kk)
      | 7, _ => exact lv_tableIn (off := 373) (tgt := 405) hx hb dL_law_32 (by decide) (by decide) (by decide) (by decide) (cs_setBreakpoint X0 hi hB hV hl hP hQ hS hf2 kk)
      | 8, _ => exact lv_tableIn (off := 422) (tgt := 454) hx hb dL_law_32 (by decide) (by decide) (by decide) (by decide) (cs_run X0 hi hB hV hl hP hQ hS hf2 kk)
      | 9, _ => exact lv_tableIn (off := 445) (tgt := 477) hx hb dL_law_32 (by decide) (by decide) (by decide) (by decide) (cs_append X0 hi hB hV hl hP hQ hS hf2 kk)
      | 10, _ => exact lv_tableIn (off := 468) (tgt := 500) hx hb dL_law_32 (by decide) (by decide) (by decide) (by decide) (cs_clearText X0 hi hB hV hl hP hQ hS hf2 kk)
      | 11, _ => exact lv_tableIn (off := 481) (tgt := 513) hx hb dL_law_32 (by decide) (by decide) (by decide) (by decide) (cs_fault X0 hi hB hV hl hP hQ hS hf2 kk)
      | 12, _ => exact lv_tableIn (off := 494) (tgt := 526) hx hb dL_law_32 (by decide) (by decide) (by decide) (by decide) (cs_undo X0 hi hB hV hl hP hQ hS hf2 kk)
      | 13, _ => exact lv_tableIn (off := 507) (tgt := 539) hx hb dL_law_32 (by decide) (by decide) (by decide) (by decide) (cs_state X0 hi hB hV hl hP hQ hS hf2 kk)
      | 14, _ => exact lv_tableIn (off := 530) (tgt := 562) hx hb dL_law_32 (by decide) (by decide) (by decide) (by decide) (cs_programCounter X0 hi hB hV hl hP hQ hS hf2 kk)
      | 15, _ => exact lv_tableIn (off := 553) (tgt := 585) hx hb dL_law_32 (by decide) (by decide) (by decide) (by decide) (cs_register X0 hi hB hV hl hP hQ hS hf2 kk)
      | 16, _ => exact lv_tableIn (off := 586) (tgt := 618) hx hb dL_law_32 (by decide) (by decide) (by decide) (by decide) (cs_word X0 hi hB hV hl hP hQ hS hf2 kk)
      | 17, _ => exact lv_tableIn (off := 609) (tgt := 641) hx hb dL_law_32 (by decide) (by decide) (by decide) (by decide) (cs_operation X0 hi hB hV hl hP hQ hS hf2 kk)
      | 18, _ => exact lv_tableIn (off := 632) (tgt := 664) hx hb dL_law_32 (by decide) (by decide) (by decide) (by decide) (cs_operand X0 hi hB hV hl hP hQ hS hf2 kk)
      | 19, _ => exact lv_tableIn (off := 665) (tgt := 697) hx hb dL_law_32 (by decide) (by decide) (by decide) (by decide) (cs_slot X0 hi hB hV hl hP hQ hS hf2 kk)
      | 20, _ => exact lv_tableIn (off := 688) (tgt := 720) hx hb dL_law_32 (by decide) (by decide) (by decide) (by decide) (cs_setting X0 hi hB hV hl hP hQ hS hf2 kk)
      | 21, _ => exact lv_tableIn (off := 711) (tgt := 743) hx hb dL_law_32 (by decide) (by decide) (by decide) (by decide) (cs_breakpoint X0 hi hB hV hl hP hQ hS hf2 kk)
      | 22, _ => exact lv_tableIn (off := 734) (tgt := 766) hx hb dL_law_32 (by decide) (by decide) (by decide) (by decide) (cs_cycle X0 hi hB hV hl hP hQ hS hf2 kk)
      | 23, _ => exact lv_tableIn (off := 747) (tgt := 779) hx hb dL_law_32 (by decide) (by decide) (by decide) (by decide) (cs_idle X0 hi hB hV hl hP hQ hS hf2 kk)
      | 24, _ => exact lv_tableIn (off := 760) (tgt := 792) hx hb dL_law_32 (by decide) (by decide) (by decide) (by decide) (cs_executed X0 hi hB hV hl hP hQ hS hf2 kk)
      | 25, _ => exact lv_tableIn (off := 783) (tgt := 815) hx hb dL_law_32 (by decide) (by decide) (by decide) (by decide) (cs_lent X0 hi hB hV hl hP hQ hS hf2 kk)
      | 26, _ => exact lv_tableIn (off := 806) (tgt := 838) hx hb dL_law_32 (by decide) (by decide) (by decide) (by decide) (cs_starved X0 hi hB hV hl hP hQ hS hf2 kk)
      | 27, _ => exact lv_tableIn (off := 829) (tgt := 861) hx hb dL_law_32 (by decide) (by decide) (by decide) (by decide) (cs_trace X0 hi hB hV hl hP hQ hS hf2 kk)
      | 28, _ => exact lv_tableIn (off := 862) (tgt := 894) hx hb dL_law_32 (by decide) (by decide) (by decide) (by decide) (cs_use X0 hi hB hV hl hP hQ hS hf2 kk)
      | 29, _ => exact lv_tableIn (off := 905) (tgt := 937) hx hb dL_law_32 (by decide) (by decide) (by decide) (by decide) (cs_nextThread X0 hi hB hV hl hP hQ hS hf2 kk)
      | 30, _ => exact lv_tableIn (off := 918) (tgt := 950) hx hb dL_law_32 (by decide) (by decide) (by decide) (by decide) (cs_cyclesLeft X0 hi hB hV hl hP hQ hS hf2 kk)
      | 31, _ => exact lv_tableIn (off := 931) (tgt := 963) hx hb dL_law_32 (by decide) (by decide) (by decide) (by decide) (cs_cyclesIf X0 hi hB hV hl hP hQ hS hf2 kk)
      | 32, _ => exact lv_tableIn (off := 964) (tgt := 996) hx hb dL_law_32 (by decide) (by decide) (by decide) (by decide) (cs_bestLend X0 hi hB hV hl hP hQ hS hf2 kk)
      | 33, _ => exact lv_tableIn (off := 977) (tgt := 1009) hx hb dL_law_32 (by decide) (by decide) (by decide) (by decide) (cs_finalWord X0 hi hB hV hl hP hQ hS hf2 kk)
      | n + 34, h34 =>
        refine lv_tableOut (tgt := 1032) hx hb dL_law_32 (Or.inr ?_) (by decide) (kk Z N A P X H locs ls (iv_up hV (by omega) (by omega)) hP hQ hS hl)
        rw [nI_toInt (by omega)]
        omega
