theorem mT_lp (a b : Int32) : ∀ (n k : Nat) (N : zM) (c : Nat), c ≠ 18 → c ≠ 19 → hN_X7_traces_lp a b n k N c = N c := by
  intro n
  induction n with
  | zero =>
    intro k N c h1 h2
    simp only [hN_X7_traces_lp]
    split
    · rw [zu_c _ _ _ h1, zu_c _ _ _ h2, zu_c _ _ _ h2, zu_c _ _ _ h2]
    · rw [zu_c _ _ _ h1, zu_c _ _ _ h2, zu_c _ _ _ h2, zu_c _ _ _ h2]
  | succ n ih =>
    intro k N c h1 h2
    simp only [hN_X7_traces_lp]
    rw [ih _ _ c h1 h2, zu_c _ _ _ h2]
theorem mT {a b : Int32} {N : zM} {c : Nat} (h1 : c ≠ 18) (h2 : c ≠ 19) : hN_X7_traces a b N c = N c := mT_lp a b _ _ N c h1 h2
/-- what the reference's numbers keep; its clock stands at most at B -/
def rOK (B : Nat) (N : zM) : Prop := (∀ t, t < 4 → zIn (N 2 t) 4) ∧ (∀ t, t < 4 → N 0 t = nI 2 → (N 3 t = nI (200 + (zc (N 3 t) - 200)) ∧ zc (N 3 t) - 200 < 32)) ∧ (∀ t, t < 4 → zIn (N 1 t) 49) ∧ (∀ k, k < 8 → zIn (N 14 k) 4) ∧ (zIn (N 16 0) (B + 1) ∧ B < 1000000) ∧ (∀ p, p < 48 → pOK (N 10 p) (N 11 (2 * p)) (N 11 (2 * p + 1))) ∧ zIn (N 18 1) 17
theorem rOK_u {B : Nat} {N : zM} {c i : Nat} {x : Int32} (h : rOK B N) (h0 : c ≠ 0) (h1 : c ≠ 1) (h2 : c ≠ 2) (h3 : c ≠ 3) (h10 : c ≠ 10) (h11 : c ≠ 11) (h14 : c ≠ 14) (h16 : c ≠ 16) (h18 : c ≠ 18) : rOK B (zu N c i x) := by
  unfold rOK
  rw [zu_c N i x (Ne.symm h0), zu_c N i x (Ne.symm h1), zu_c N i x (Ne.symm h2), zu_c N i x (Ne.symm h3), zu_c N i x (Ne.symm h10), zu_c N i x (Ne.symm h11), zu_c N i x (Ne.symm h14), zu_c N i x (Ne.symm h16), zu_c N i x (Ne.symm h18)]
  exact h
theorem rOK_0 {B : Nat} {N : zM} {t : Nat} {x : Int32} (h : rOK B N) (hx : x ≠ nI 2) : rOK B (zu N 0 t x) := by
  refine ⟨h.1, fun q hq e => ?_, h.2.2⟩
  by_cases e1 : q = t
  · subst e1
    rw [zu_s] at e
    exact absurd e hx
  · rw [zu_i _ _ _ e1] at e
    exact h.2.1 q hq e
theorem rOK_1 {B : Nat} {N : zM} {t : Nat} {x : Int32} (h : rOK B N) (hx : zIn x 49) : rOK B (zu N 1 t x) := by
  refine ⟨h.1, h.2.1, fun q hq => ?_, h.2.2.2⟩
  by_cases e1 : q = t
  · subst e1
    rw [zu_s]
    exact hx
  · rw [zu_i _ _ _ e1]
    exact h.2.2.1 q hq
theorem rOK_16 {B : Nat} {N : zM} {x : Int32} (h : rOK B N) {B' : Nat} (hx : zIn x (B' + 1)) (hB : B' < 1000000) : rOK B' (zu N 16 0 x) := by
  refine ⟨h.1, h.2.1, h.2.2.1, h.2.2.2.1, ⟨?_, hB⟩, h.2.2.2.2.2⟩
  rw [zu_s]
  exact hx
theorem rOK_puts {B : Nat} {N : zM} {t r : Nat} {x : Int32} (h : rOK B N) : rOK B (hN_X7_puts t r x N) := by
  unfold hN_X7_puts
  exact rOK_u h (by omega) (by omega) (by omega) (by omega) (by omega) (by omega) (by omega) (by omega) (by omega)
theorem rOK_fin {B : Nat} {N : zM} {t r : Nat} {x : Int32} (h : rOK B N) : rOK B (zu (hN_X7_puts t r x N) 0 t (nI 1)) := rOK_0 (rOK_puts h) (by decide)

def hN_X7_prepares_lq  : Nat → Int32 → Nat → zM → zM
  | 0, opn, i, N => N
  | n + 1, opn, i, N => if opn = 0 then hN_X7_prepares_lq n opn (i + 1) (zu N 0 i (N 0 i)) else if (N 0 i) = (nI 3) then hN_X7_prepares_lq n opn (i + 1) (zu N 0 i (nI 1)) else hN_X7_prepares_lq n opn (i + 1) (zu N 0 i (N 0 i))
def hN_X7_prepares_lp  : Nat → Nat → zM → zM
  | 0, i, N => if ((g_X7_many (nI 1) N) + (g_X7_many (nI 2) N)) = 0 then hN_X7_prepares_lq 4 (nI 1) 0 N else hN_X7_prepares_lq 4 (nI 0) 0 N
  | n + 1, i, N => if (N 0 i) = (nI 2) then if (N 16 0) < (N 4 i) then hN_X7_prepares_lp n (i + 1) N else hN_X7_prepares_lp n (i + 1) (zu (hN_X7_puts i (zc (N 2 i)) (N 13 (zc (N 3 i) - 200)) N) 0 i (nI 1)) else hN_X7_prepares_lp n (i + 1) N
def hN_X7_prepares  (N : zM) : zM := hN_X7_prepares_lp 4 0 N
set_option maxHeartbeats 4000000 in
set_option maxRecDepth 100000 in
theorem ct_X7_prepares (l : Launch) (D : va_G) (a : Nat → Nat) (cI : ClassId) (hJ : mJ a) (N A P X : zM) (B : Nat) (hI : rOK B N) : mCv l yX7_prepares wsX7_prepares ({ frames := 2, cells := 0, slots := 0, locals := 44 } : Room) D a cI [.ref (a 0)] (N, A, P, X) (hN_X7_prepares N, A, P, X) := by
  have hiX7 : ∀ w ∈ wsX70, w ∈ wsX7_prepares := by decide +kernel
  refine m_ofv (cc := cX7_prepares) (maxL := 3) (own := RX7) (by decide) rfl (Nat.le_of_ble_eq_true rfl) rfl (fun p e s m below meth c ls hx hb hr hml hts hown hlk hl hK hP hS => ?_)
  have hl : lv_has ls 3 [(0, .ref (a 0))] := hl
  have lp114 : ∀ (n : Nat) (opn : Int32) (i : Nat) (N : zM) (H : Heap) (locs : List Loc) (ls : Array Slot) (hn : i + n = 4) (hl : lv_has ls 3 [(0, .ref (a 0)), (1, .int opn), (2, .int (nI i))]) (hP : va_P D vwCl (mW a cI (N, A, P, X)) H) (hS : va_S (mA a) s.heap H locs), W p l e ({ frames := 2, cells := 0, slots := 0, locals := 44 } : Room) s m ([.ref (a 0)] : List Value).toArray below meth c H locs 0 0 (mQv below D a cI [.ref (a 0)] s (hN_X7_prepares_lq n opn i N, A, P, X)) (F0 m 114 ls []) := by
    intro n
    induction n with
    | zero =>
      intro opn i N H locs ls hn hl hP hS
      refine lv_iload_n hx hb dX7_prepares_114 rfl (lv_at hl 2 rfl) ?_
      refine lv_iconst (v := nI 4) hx hb dX7_prepares_115 (by decide) ?_
      refine lv_icmp_ge (tgt := 167) hx hb dX7_prepares_116 (by decide) (fun c116_1 => ?_) (fun c116_1 => absurd (nI_le (by omega) (by omega)) c116_1)
      exact m_retv hx hb hr hlk hP hS dX7_prepares_167 (m_eq (by first | rfl | simp only [hN_X7_prepares_lq]) rfl rfl rfl)
    | succ n ih =>
      intro opn i N H locs ls hn hl hP hS
      refine lv_iload_n hx hb dX7_prepares_114 rfl (lv_at hl 2 rfl) ?_
      refine lv_iconst (v := nI 4) hx hb dX7_prepares_115 (by decide) ?_
      refine lv_icmp_ge (tgt := 167) hx hb dX7_prepares_116 (by decide) (fun c116_2 => absurd c116_2 (nI_ge (by omega) (by decide))) (fun c116_2 => ?_)
      refine lv_aload_n hx hb dX7_prepares_119 rfl (lv_at hl 0 rfl) ?_
      refine mgO0 hx hb hts hiX7 hown hK hP (hts (.fieldLink RX7 7 "BarrelProcessorModel" "s" "[I") (by decide +kernel)) dX7_prepares_120 ?_
      refine lv_iload_n hx hb dX7_prepares_123 rfl (lv_at hl 2 rfl) ?_
      refine lv_iconst (v := nI 0) hx hb dX7_prepares_124 (by decide) ?_
      refine m_cSi (As := [.int (nI i), .int (nI 0)]) (rest := [.ref (a 1)]) ⟨hx, hb, hml, hown, hts⟩ (ct_X7_at l D a cI hJ N A P X (nI i) (nI 0)) (va_cwS 2 hts gX7_prepares_X7_at rfl rfl rfl (by decide +kernel) ⟨Nat.le_of_ble_eq_true rfl, Nat.le_of_ble_eq_true rfl⟩) hK hP hS rfl hl.1 rfl (Nat.le_of_ble_eq_true rfl) dX7_prepares_125 ⟨Nat.zero_le _, Nat.zero_le _⟩ (fun H locs hP hS => ?_)
      refine z_val (z := nI (14 * i + 0)) (z_at _ _) ?_
      refine lv_iload_n hx hb dX7_prepares_128 rfl (lv_at hl 1 rfl) ?_
      refine lv_if_eq (tgt := 150) hx hb dX7_prepares_129 (by decide) (fun c129_3 => ?_) (fun c129_3 => ?_)
      · refine lv_aload_n hx hb dX7_prepares_150 rfl (lv_at hl 0 rfl) ?_
        refine mgO0 hx hb hts hiX7 hown hK hP (hts (.fieldLink RX7 7 "BarrelProcessorModel" "s" "[I") (by decide +kernel)) dX7_prepares_151 ?_
        refine lv_iload_n hx hb dX7_prepares_154 rfl (lv_at hl 2 rfl) ?_
        refine lv_iconst (v := nI 0) hx hb dX7_prepares_155 (by decide) ?_
        refine m_cSi (As := [.int (nI i), .int (nI 0)]) (rest := [.ref (a 1), .int (nI (14 * i + 0)), .ref (a 1)]) ⟨hx, hb, hml, hown, hts⟩ (ct_X7_at l D a cI hJ N A P X (nI i) (nI 0)) (va_cwS 2 hts gX7_prepares_X7_at rfl rfl rfl (by decide +kernel) ⟨Nat.le_of_ble_eq_true rfl, Nat.le_of_ble_eq_true rfl⟩) hK hP hS rfl hl.1 rfl (Nat.le_of_ble_eq_true rfl) dX7_prepares_156 ⟨Nat.zero_le _, Nat.zero_le _⟩ (fun H locs hP hS => ?_)
        refine z_val (z := nI (14 * i + 0)) (z_at _ _) ?_
        refine m_iald hx hb hK hP mG_s (j := 14 * i + 0) (by omega) (by decide) dX7_prepares_159 ?_
        refine z_val (z := N 0 i) (zen_of (zf_t0 (by omega))) ?_
        refine m_iast (Z' := (zu N 0 i (N 0 i), A, P, X)) hx hb hK hP hJ hS mG_s (j := 14 * i + 0) (by omega) (by decide) dX7_prepares_160 (mS_s (zf_t0 (by omega))) (fun H locs hP hS => ?_)
        refine lv_iinc (v := nI (i + 1)) (lv' := [(2, .int (nI (i + 1))), (0, .ref (a 0)), (1, .int opn)]) hx hb dX7_prepares_161 hl (k := 2) rfl (nI_add _ _) (by decide) rfl (fun ls hl => ?_)
        refine lv_goto (tgt := 114) hx hb dX7_prepares_164 (by decide) ?_
        refine m_tov (Z2 := (hN_X7_prepares_lq n opn (i + 1) (zu N 0 i (N 0 i)), A, P, X)) (m_eq (by simp only [hN_X7_prepares_lq, if_pos c129_3]) rfl rfl rfl) ?_
        exact ih opn (i + 1) (zu N 0 i (N 0 i)) _ _ _ (by omega) (lv_sub hl [1, 2, 0] rfl) hP hS
      · refine lv_aload_n hx hb dX7_prepares_132 rfl (lv_at hl 0 rfl) ?_
        refine mgO0 hx hb hts hiX7 hown hK hP (hts (.fieldLink RX7 7 "BarrelProcessorModel" "s" "[I") (by decide +kernel)) dX7_prepares_133 ?_
        refine lv_iload_n hx hb dX7_prepares_136 rfl (lv_at hl 2 rfl) ?_
        refine lv_iconst (v := nI 0) hx hb dX7_prepares_137 (by decide) ?_
        refine m_cSi (As := [.int (nI i), .int (nI 0)]) (rest := [.ref (a 1), .int (nI (14 * i + 0)), .ref (a 1)]) ⟨hx, hb, hml, hown, hts⟩ (ct_X7_at l D a cI hJ N A P X (nI i) (nI 0)) (va_cwS 2 hts gX7_prepares_X7_at rfl rfl rfl (by decide +kernel) ⟨Nat.le_of_ble_eq_true rfl, Nat.le_of_ble_eq_true rfl⟩) hK hP hS rfl hl.1 rfl (Nat.le_of_ble_eq_true rfl) dX7_prepares_138 ⟨Nat.zero_le _, Nat.zero_le _⟩ (fun H locs hP hS => ?_)
        refine z_val (z := nI (14 * i + 0)) (z_at _ _) ?_
        refine m_iald hx hb hK hP mG_s (j := 14 * i + 0) (by omega) (by decide) dX7_prepares_141 ?_
        refine z_val (z := N 0 i) (zen_of (zf_t0 (by omega))) ?_
        refine lv_iconst (v := nI 3) hx hb dX7_prepares_142 (by decide) ?_
        refine lv_icmp_ne (tgt := 150) hx hb dX7_prepares_143 (by decide) (fun c143_4 => ?_) (fun c143_4 => ?_)
        · refine lv_aload_n hx hb dX7_prepares_150 rfl (lv_at hl 0 rfl) ?_
          refine mgO0 hx hb hts hiX7 hown hK hP (hts (.fieldLink RX7 7 "BarrelProcessorModel" "s" "[I") (by decide +kernel)) dX7_prepares_151 ?_
          refine lv_iload_n hx hb dX7_prepares_154 rfl (lv_at hl 2 rfl) ?_
          refine lv_iconst (v := nI 0) hx hb dX7_prepares_155 (by decide) ?_
          refine m_cSi (As := [.int (nI i), .int (nI 0)]) (rest := [.ref (a 1), .int (nI (14 * i + 0)), .ref (a 1)]) ⟨hx, hb, hml, hown, hts⟩ (ct_X7_at l D a cI hJ N A P X (nI i) (nI 0)) (va_cwS 2 hts gX7_prepares_X7_at rfl rfl rfl (by decide +kernel) ⟨Nat.le_of_ble_eq_true rfl, Nat.le_of_ble_eq_true rfl⟩) hK hP hS rfl hl.1 rfl (Nat.le_of_ble_eq_true rfl) dX7_prepares_156 ⟨Nat.zero_le _, Nat.zero_le _⟩ (fun H locs hP hS => ?_)
          refine z_val (z := nI (14 * i + 0)) (z_at _ _) ?_
          refine m_iald hx hb hK hP mG_s (j := 14 * i + 0) (by omega) (by decide) dX7_prepares_159 ?_
          refine z_val (z := N 0 i) (zen_of (zf_t0 (by omega))) ?_
          refine m_iast (Z' := (zu N 0 i (N 0 i), A, P, X)) hx hb hK hP hJ hS mG_s (j := 14 * i + 0) (by omega) (by decide) dX7_prepares_160 (mS_s (zf_t0 (by omega))) (fun H locs hP hS => ?_)
          refine lv_iinc (v := nI (i + 1)) (lv' := [(2, .int (nI (i + 1))), (0, .ref (a 0)), (1, .int opn)]) hx hb dX7_prepares_161 hl (k := 2) rfl (nI_add _ _) (by decide) rfl (fun ls hl => ?_)
          refine lv_goto (tgt := 114) hx hb dX7_prepares_164 (by decide) ?_
          refine m_tov (Z2 := (hN_X7_prepares_lq n opn (i + 1) (zu N 0 i (N 0 i)), A, P, X)) (m_eq (by simp only [hN_X7_prepares_lq, if_neg c129_3, if_neg c143_4]) rfl rfl rfl) ?_
          exact ih opn (i + 1) (zu N 0 i (N 0 i)) _ _ _ (by omega) (lv_sub hl [1, 2, 0] rfl) hP hS
        · refine lv_iconst (v := nI 1) hx hb dX7_prepares_146 (by decide) ?_
          refine lv_goto (tgt := 160) hx hb dX7_prepares_147 (by decide) ?_
          refine m_iast (Z' := (zu N 0 i (nI 1), A, P, X)) hx hb hK hP hJ hS mG_s (j := 14 * i + 0) (by omega) (by decide) dX7_prepares_160 (mS_s (zf_t0 (by omega))) (fun H locs hP hS => ?_)
          refine lv_iinc (v := nI (i + 1)) (lv' := [(2, .int (nI (i + 1))), (0, .ref (a 0)), (1, .int opn)]) hx hb dX7_prepares_161 hl (k := 2) rfl (nI_add _ _) (by decide) rfl (fun ls hl => ?_)
          refine lv_goto (tgt := 114) hx hb dX7_prepares_164 (by decide) ?_
          refine m_tov (Z2 := (hN_X7_prepares_lq n opn (i + 1) (zu N 0 i (nI 1)), A, P, X)) (m_eq (by simp only [hN_X7_prepares_lq, if_neg c129_3, if_pos c143_4]) rfl rfl rfl) ?_
          exact ih opn (i + 1) (zu N 0 i (nI 1)) _ _ _ (by omega) (lv_sub hl [1, 2, 0] rfl) hP hS
  have lp2 : ∀ (n : Nat) (i : Nat) (N : zM) (H : Heap) (locs : List Loc) (ls : Array Slot) (hn : i + n = 4) (hI : rOK B N) (hl : lv_has ls 3 [(0, .ref (a 0)), (1, .int (nI i))]) (hP : va_P D vwCl (mW a cI (N, A, P, X)) H) (hS : va_S (mA a) s.heap H locs), W p l e ({ frames := 2, cells := 0, slots := 0, locals := 44 } : Room) s m ([.ref (a 0)] : List Value).toArray below meth c H locs 0 0 (mQv below D a cI [.ref (a 0)] s (hN_X7_prepares_lp n i N, A, P, X)) (F0 m 2 ls []) := by
    intro n
    induction n with
    | zero =>
      intro i N H locs ls hn hI hl hP hS
      refine lv_iload_n hx hb dX7_prepares_2 rfl (lv_at hl 1 rfl) ?_
      refine lv_iconst (v := nI 4) hx hb dX7_prepares_3 (by decide) ?_
      refine lv_icmp_ge (tgt := 92) hx hb dX7_prepares_4 (by decide) (fun c4_5 => ?_) (fun c4_5 => absurd (nI_le (by omega) (by omega)) c4_5)
      refine lv_aload_n hx hb dX7_prepares_92 rfl (lv_at hl 0 rfl) ?_
      refine lv_iconst (v := nI 1) hx hb dX7_prepares_93 (by decide) ?_
      refine m_cVi (As := [.int (nI 1)]) (rest := []) ⟨hx, hb, hml, hown, hts⟩ (ct_X7_many l D a cI hJ N A P X (nI 1)) (cwV 1 hts gX7_prepares_X7_many rfl rfl rfl (by decide +kernel) ⟨Nat.le_of_ble_eq_true rfl, Nat.le_of_ble_eq_true rfl⟩) hK hP hS (va_recv (ci := 7) hK hP rfl mG_O) rfl hl.1 rfl (Nat.le_of_ble_eq_true rfl) dX7_prepares_94 ⟨Nat.zero_le _, Nat.zero_le _⟩ (fun H locs hP hS => ?_)
      refine lv_aload_n hx hb dX7_prepares_97 rfl (lv_at hl 0 rfl) ?_
      refine lv_iconst (v := nI 2) hx hb dX7_prepares_98 (by decide) ?_
      refine m_cVi (As := [.int (nI 2)]) (rest := [.int (g_X7_many (nI 1) N)]) ⟨hx, hb, hml, hown, hts⟩ (ct_X7_many l D a cI hJ N A P X (nI 2)) (cwV 1 hts gX7_prepares_X7_many rfl rfl rfl (by decide +kernel) ⟨Nat.le_of_ble_eq_true rfl, Nat.le_of_ble_eq_true rfl⟩) hK hP hS (va_recv (ci := 7) hK hP rfl mG_O) rfl hl.1 rfl (Nat.le_of_ble_eq_true rfl) dX7_prepares_99 ⟨Nat.zero_le _, Nat.zero_le _⟩ (fun H locs hP hS => ?_)
      refine lv_iadd hx hb dX7_prepares_102 ?_
      refine lv_if_ne (tgt := 110) hx hb dX7_prepares_103 (by decide) (fun c103_6 => ?_) (fun c103_6 => ?_)
      · refine lv_iconst (v := nI 0) hx hb dX7_prepares_110 (by decide) ?_
        refine lv_istore_n (lv' := [(1, .int (nI 0)), (0, .ref (a 0))]) hx hb dX7_prepares_111 rfl hl (by decide) rfl (fun ls hl => ?_)
        refine lv_iconst (v := nI 0) hx hb dX7_prepares_112 (by decide) ?_
        refine lv_istore_n (lv' := [(2, .int (nI 0)), (1, .int (nI 0)), (0, .ref (a 0))]) hx hb dX7_prepares_113 rfl hl (by decide) rfl (fun ls hl => ?_)
        refine m_tov (Z2 := (hN_X7_prepares_lq 4 (nI 0) 0 N, A, P, X)) (m_eq (by simp only [hN_X7_prepares_lp, if_neg c103_6]) rfl rfl rfl) ?_
        exact lp114 4 (nI 0) 0 N _ _ _ (by omega) (lv_sub hl [2, 1, 0] rfl) hP hS
      · refine lv_iconst (v := nI 1) hx hb dX7_prepares_106 (by decide) ?_
        refine lv_goto (tgt := 111) hx hb dX7_prepares_107 (by decide) ?_
        refine lv_istore_n (lv' := [(1, .int (nI 1)), (0, .ref (a 0))]) hx hb dX7_prepares_111 rfl hl (by decide) rfl (fun ls hl => ?_)
        refine lv_iconst (v := nI 0) hx hb dX7_prepares_112 (by decide) ?_
        refine lv_istore_n (lv' := [(2, .int (nI 0)), (1, .int (nI 1)), (0, .ref (a 0))]) hx hb dX7_prepares_113 rfl hl (by decide) rfl (fun ls hl => ?_)
        refine m_tov (Z2 := (hN_X7_prepares_lq 4 (nI 1) 0 N, A, P, X)) (m_eq (by simp only [hN_X7_prepares_lp, if_pos c103_6]) rfl rfl rfl) ?_
        exact lp114 4 (nI 1) 0 N _ _ _ (by omega) (lv_sub hl [2, 1, 0] rfl) hP hS
    | succ n ih =>
      intro i N H locs ls hn hI hl hP hS
      refine lv_iload_n hx hb dX7_prepares_2 rfl (lv_at hl 1 rfl) ?_
      refine lv_iconst (v := nI 4) hx hb dX7_prepares_3 (by decide) ?_
      refine lv_icmp_ge (tgt := 92) hx hb dX7_prepares_4 (by decide) (fun c4_7 => absurd c4_7 (nI_ge (by omega) (by decide))) (fun c4_7 => ?_)
      refine lv_aload_n hx hb dX7_prepares_7 rfl (lv_at hl 0 rfl) ?_
      refine mgO0 hx hb hts hiX7 hown hK hP (hts (.fieldLink RX7 7 "BarrelProcessorModel" "s" "[I") (by decide +kernel)) dX7_prepares_8 ?_
      refine lv_iload_n hx hb dX7_prepares_11 rfl (lv_at hl 1 rfl) ?_
      refine lv_iconst (v := nI 0) hx hb dX7_prepares_12 (by decide) ?_
      refine m_cSi (As := [.int (nI i), .int (nI 0)]) (rest := [.ref (a 1)]) ⟨hx, hb, hml, hown, hts⟩ (ct_X7_at l D a cI hJ N A P X (nI i) (nI 0)) (va_cwS 2 hts gX7_prepares_X7_at rfl rfl rfl (by decide +kernel) ⟨Nat.le_of_ble_eq_true rfl, Nat.le_of_ble_eq_true rfl⟩) hK hP hS rfl hl.1 rfl (Nat.le_of_ble_eq_true rfl) dX7_prepares_13 ⟨Nat.zero_le _, Nat.zero_le _⟩ (fun H locs hP hS => ?_)
      refine z_val (z := nI (14 * i + 0)) (z_at _ _) ?_
      refine m_iald hx hb hK hP mG_s (j := 14 * i + 0) (by omega) (by decide) dX7_prepares_16 ?_
      refine z_val (z := N 0 i) (zen_of (zf_t0 (by omega))) ?_
      refine lv_iconst (v := nI 2) hx hb dX7_prepares_17 (by decide) ?_
      refine lv_icmp_ne (tgt := 86) hx hb dX7_prepares_18 (by decide) (fun c18_8 => ?_) (fun c18_8 => ?_)
      · refine lv_iinc (v := nI (i + 1)) (lv' := [(1, .int (nI (i + 1))), (0, .ref (a 0))]) hx hb dX7_prepares_86 hl (k := 1) rfl (nI_add _ _) (by decide) rfl (fun ls hl => ?_)
        refine lv_goto (tgt := 2) hx hb dX7_prepares_89 (by decide) ?_
        refine m_tov (Z2 := (hN_X7_prepares_lp n (i + 1) N, A, P, X)) (m_eq (by simp only [hN_X7_prepares_lp, if_neg c18_8]) rfl rfl rfl) ?_
        exact ih (i + 1) N _ _ _ (by omega) (by first | exact hI | exact rOK_fin hI) (lv_sub hl [1, 0] rfl) hP hS
      · refine lv_aload_n hx hb dX7_prepares_21 rfl (lv_at hl 0 rfl) ?_
        refine mgO0 hx hb hts hiX7 hown hK hP (hts (.fieldLink RX7 7 "BarrelProcessorModel" "s" "[I") (by decide +kernel)) dX7_prepares_22 ?_
        refine lv_sipush (v := nI 232) hx hb dX7_prepares_25 (by decide) ?_
        refine m_iald hx hb hK hP mG_s (j := 232) (by omega) (by decide) dX7_prepares_28 ?_
        refine z_val (z := N 16 0) (zen_of zf_232) ?_
        refine lv_aload_n hx hb dX7_prepares_29 rfl (lv_at hl 0 rfl) ?_
        refine mgO0 hx hb hts hiX7 hown hK hP (hts (.fieldLink RX7 7 "BarrelProcessorModel" "s" "[I") (by decide +kernel)) dX7_prepares_30 ?_
        refine lv_iload_n hx hb dX7_prepares_33 rfl (lv_at hl 1 rfl) ?_
        refine lv_bipush (v := nI 8) hx hb dX7_prepares_34 (by decide) ?_
        refine m_cSi (As := [.int (nI i), .int (nI 8)]) (rest := [.ref (a 1), .int (N 16 0)]) ⟨hx, hb, hml, hown, hts⟩ (ct_X7_at l D a cI hJ N A P X (nI i) (nI 8)) (va_cwS 2 hts gX7_prepares_X7_at rfl rfl rfl (by decide +kernel) ⟨Nat.le_of_ble_eq_true rfl, Nat.le_of_ble_eq_true rfl⟩) hK hP hS rfl hl.1 rfl (Nat.le_of_ble_eq_true rfl) dX7_prepares_36 ⟨Nat.zero_le _, Nat.zero_le _⟩ (fun H locs hP hS => ?_)
        refine z_val (z := nI (14 * i + 8)) (z_at _ _) ?_
        refine m_iald hx hb hK hP mG_s (j := 14 * i + 8) (by omega) (by decide) dX7_prepares_39 ?_
        refine z_val (z := N 4 i) (zen_of (zf_t8 (by omega))) ?_
        refine lv_icmp_lt (tgt := 86) hx hb dX7_prepares_40 (by decide) (fun c40_9 => ?_) (fun c40_9 => ?_)
        · refine lv_iinc (v := nI (i + 1)) (lv' := [(1, .int (nI (i + 1))), (0, .ref (a 0))]) hx hb dX7_prepares_86 hl (k := 1) rfl (nI_add _ _) (by decide) rfl (fun ls hl => ?_)
          refine lv_goto (tgt := 2) hx hb dX7_prepares_89 (by decide) ?_
          refine m_tov (Z2 := (hN_X7_prepares_lp n (i + 1) N, A, P, X)) (m_eq (by simp only [hN_X7_prepares_lp, if_pos c18_8, if_pos c40_9]) rfl rfl rfl) ?_
          exact ih (i + 1) N _ _ _ (by omega) (by first | exact hI | exact rOK_fin hI) (lv_sub hl [1, 0] rfl) hP hS
        · refine lv_aload_n hx hb dX7_prepares_43 rfl (lv_at hl 0 rfl) ?_
          refine lv_iload_n hx hb dX7_prepares_44 rfl (lv_at hl 1 rfl) ?_
          refine lv_aload_n hx hb dX7_prepares_45 rfl (lv_at hl 0 rfl) ?_
          refine mgO0 hx hb hts hiX7 hown hK hP (hts (.fieldLink RX7 7 "BarrelProcessorModel" "s" "[I") (by decide +kernel)) dX7_prepares_46 ?_
          refine lv_iload_n hx hb dX7_prepares_49 rfl (lv_at hl 1 rfl) ?_
          refine lv_bipush (v := nI 6) hx hb dX7_prepares_50 (by decide) ?_
          refine m_cSi (As := [.int (nI i), .int (nI 6)]) (rest := [.ref (a 1), .int (nI i), .ref (a 0)]) ⟨hx, hb, hml, hown, hts⟩ (ct_X7_at l D a cI hJ N A P X (nI i) (nI 6)) (va_cwS 2 hts gX7_prepares_X7_at rfl rfl rfl (by decide +kernel) ⟨Nat.le_of_ble_eq_true rfl, Nat.le_of_ble_eq_true rfl⟩) hK hP hS rfl hl.1 rfl (Nat.le_of_ble_eq_true rfl) dX7_prepares_52 ⟨Nat.zero_le _, Nat.zero_le _⟩ (fun H locs hP hS => ?_)
          refine z_val (z := nI (14 * i + 6)) (z_at _ _) ?_
          refine m_iald hx hb hK hP mG_s (j := 14 * i + 6) (by omega) (by decide) dX7_prepares_55 ?_
          refine z_val (z := N 2 i) (zen_of (zf_t6 (by omega))) ?_
          refine z_val (z := nI (zc (N 2 i))) (hI.1 i (by omega)).2 ?_
          refine lv_aload_n hx hb dX7_prepares_56 rfl (lv_at hl 0 rfl) ?_
          refine mgO0 hx hb hts hiX7 hown hK hP (hts (.fieldLink RX7 7 "BarrelProcessorModel" "s" "[I") (by decide +kernel)) dX7_prepares_57 ?_
          refine lv_aload_n hx hb dX7_prepares_60 rfl (lv_at hl 0 rfl) ?_
          refine mgO0 hx hb hts hiX7 hown hK hP (hts (.fieldLink RX7 7 "BarrelProcessorModel" "s" "[I") (by decide +kernel)) dX7_prepares_61 ?_
          refine lv_iload_n hx hb dX7_prepares_64 rfl (lv_at hl 1 rfl) ?_
          refine lv_bipush (v := nI 7) hx hb dX7_prepares_65 (by decide) ?_
          refine m_cSi (As := [.int (nI i), .int (nI 7)]) (rest := [.ref (a 1), .ref (a 1), .int (nI (zc (N 2 i))), .int (nI i), .ref (a 0)]) ⟨hx, hb, hml, hown, hts⟩ (ct_X7_at l D a cI hJ N A P X (nI i) (nI 7)) (va_cwS 2 hts gX7_prepares_X7_at rfl rfl rfl (by decide +kernel) ⟨Nat.le_of_ble_eq_true rfl, Nat.le_of_ble_eq_true rfl⟩) hK hP hS rfl hl.1 rfl (Nat.le_of_ble_eq_true rfl) dX7_prepares_67 ⟨Nat.zero_le _, Nat.zero_le _⟩ (fun H locs hP hS => ?_)
          refine z_val (z := nI (14 * i + 7)) (z_at _ _) ?_
          refine m_iald hx hb hK hP mG_s (j := 14 * i + 7) (by omega) (by decide) dX7_prepares_70 ?_
          refine z_val (z := N 3 i) (zen_of (zf_t7 (by omega))) ?_
          refine z_val (z := nI (200 + (zc (N 3 i) - 200))) (hI.2.1 i (by omega) ‹N 0 i = nI 2›).1 ?_
          refine m_iald hx hb hK hP mG_s (j := 200 + (zc (N 3 i) - 200)) (by have h9 := (hI.2.1 i (by omega) ‹N 0 i = nI 2›).2; omega) (by decide) dX7_prepares_71 ?_
          refine z_val (z := N 13 (zc (N 3 i) - 200)) (zen_of (zf_wd (hI.2.1 i (by omega) ‹N 0 i = nI 2›).2)) ?_
          refine m_cVv (As := [.int (nI i), .int (nI (zc (N 2 i))), .int (N 13 (zc (N 3 i) - 200))]) (rest := []) ⟨hx, hb, hml, hown, hts⟩ (ct_X7_puts l D a cI hJ N A P X i (zc (N 2 i)) (N 13 (zc (N 3 i) - 200)) (by omega) ((hI.1 i (by omega)).1)) (cwV 3 hts gX7_prepares_X7_puts rfl rfl rfl (by decide +kernel) ⟨Nat.le_of_ble_eq_true rfl, Nat.le_of_ble_eq_true rfl⟩) hK hP hS (va_recv (ci := 7) hK hP rfl mG_O) rfl hl.1 rfl (Nat.le_of_ble_eq_true rfl) dX7_prepares_72 ⟨Nat.zero_le _, Nat.zero_le _⟩ (fun H locs hP hS => ?_)
          refine lv_aload_n hx hb dX7_prepares_75 rfl (lv_at hl 0 rfl) ?_
          refine mgO0 hx hb hts hiX7 hown hK hP (hts (.fieldLink RX7 7 "BarrelProcessorModel" "s" "[I") (by decide +kernel)) dX7_prepares_76 ?_
          refine lv_iload_n hx hb dX7_prepares_79 rfl (lv_at hl 1 rfl) ?_
          refine lv_iconst (v := nI 0) hx hb dX7_prepares_80 (by decide) ?_
          refine m_cSi (As := [.int (nI i), .int (nI 0)]) (rest := [.ref (a 1)]) ⟨hx, hb, hml, hown, hts⟩ (ct_X7_at l D a cI hJ (hN_X7_puts i (zc (N 2 i)) (N 13 (zc (N 3 i) - 200)) N) A P X (nI i) (nI 0)) (va_cwS 2 hts gX7_prepares_X7_at rfl rfl rfl (by decide +kernel) ⟨Nat.le_of_ble_eq_true rfl, Nat.le_of_ble_eq_true rfl⟩) hK hP hS rfl hl.1 rfl (Nat.le_of_ble_eq_true rfl) dX7_prepares_81 ⟨Nat.zero_le _, Nat.zero_le _⟩ (fun H locs hP hS => ?_)
          refine z_val (z := nI (14 * i + 0)) (z_at _ _) ?_
          refine lv_iconst (v := nI 1) hx hb dX7_prepares_84 (by decide) ?_
          refine m_iast (Z' := (zu (hN_X7_puts i (zc (N 2 i)) (N 13 (zc (N 3 i) - 200)) N) 0 i (nI 1), A, P, X)) hx hb hK hP hJ hS mG_s (j := 14 * i + 0) (by omega) (by decide) dX7_prepares_85 (mS_s (zf_t0 (by omega))) (fun H locs hP hS => ?_)
          refine lv_iinc (v := nI (i + 1)) (lv' := [(1, .int (nI (i + 1))), (0, .ref (a 0))]) hx hb dX7_prepares_86 hl (k := 1) rfl (nI_add _ _) (by decide) rfl (fun ls hl => ?_)
          refine lv_goto (tgt := 2) hx hb dX7_prepares_89 (by decide) ?_
          refine m_tov (Z2 := (hN_X7_prepares_lp n (i + 1) (zu (hN_X7_puts i (zc (N 2 i)) (N 13 (zc (N 3 i) - 200)) N) 0 i (nI 1)), A, P, X)) (m_eq (by simp only [hN_X7_prepares_lp, if_pos c18_8, if_neg c40_9]) rfl rfl rfl) ?_
          exact ih (i + 1) (zu (hN_X7_puts i (zc (N 2 i)) (N 13 (zc (N 3 i) - 200)) N) 0 i (nI 1)) _ _ _ (by omega) (by first | exact hI | exact rOK_fin hI) (lv_sub hl [1, 0] rfl) hP hS
  refine lv_iconst (v := nI 0) hx hb dX7_prepares_0 (by decide) ?_
  refine lv_istore_n (lv' := [(1, .int (nI 0)), (0, .ref (a 0))]) hx hb dX7_prepares_1 rfl hl (by decide) rfl (fun ls hl => ?_)
  refine m_tov (Z2 := (hN_X7_prepares_lp 4 0 N, A, P, X)) (m_eq (by first | rfl | simp only [hN_X7_prepares]) rfl rfl rfl) ?_
  exact lp2 4 0 N _ _ _ (by omega) hI (lv_sub hl [1, 0] rfl) hP hS

def g_X7_issuing_lq  : Nat → Int32 → Nat → zM → Int32
  | 0, found, i, N => found
  | n + 1, found, i, N => if (N 15 1) = (nI 2) then if (g_X7_isReady i N) = 0 then g_X7_issuing_lq n found (i + 1) N else if found = (-1) then g_X7_issuing_lq n (nI i) (i + 1) N else if (N 5 (zc found)) ≤ (N 5 i) then g_X7_issuing_lq n found (i + 1) N else g_X7_issuing_lq n (nI i) (i + 1) N else found
def g_X7_issuing_lp  : Nat → Int32 → Nat → zM → Int32
  | 0, found, k, N => g_X7_issuing_lq 4 found 0 N
  | n + 1, found, k, N => if (N 15 1) = (nI 1) then if (g_X7_isReady (((zc (N 14 (zc (N 16 0) % 8))) + k) % 4) N) = 0 then g_X7_issuing_lp n found (k - 1) N else g_X7_issuing_lp n (nI (((zc (N 14 (zc (N 16 0) % 8))) + k) % 4)) (k - 1) N else g_X7_issuing_lq 4 found 0 N
def g_X7_issuing  (N : zM) : Int32 := if (g_X7_isReady (zc (N 14 ((zc (N 16 0)) % 8))) N) = 0 then if (N 15 1) = 0 then (-1) else g_X7_issuing_lp 3 (-1) 3 N else nI (zc (N 14 ((zc (N 16 0)) % 8)))
set_option maxHeartbeats 4000000 in
set_option maxRecDepth 100000 in
theorem ct_X7_issuing (l : Launch) (D : va_G) (a : Nat → Nat) (cI : ClassId) (hJ : mJ a) (N A P X : zM) (B : Nat) (hI : rOK B N) : mCi l yX7_issuing wsX7_issuing ({ frames := 2, cells := 0, slots := 0, locals := 42 } : Room) D a cI [.ref (a 0)] (N, A, P, X) (g_X7_issuing N) (N, A, P, X) := by
  have hiX7 : ∀ w ∈ wsX70, w ∈ wsX7_issuing := by decide +kernel
  refine m_ofi (cc := cX7_issuing) (maxL := 5) (own := RX7) (by decide) rfl (Nat.le_of_ble_eq_true rfl) rfl (fun p e s m below meth c ls hx hb hr hml hts hown hlk hl hK hP hS => ?_)
  have hl : lv_has ls 5 [(0, .ref (a 0))] := hl
  have bo := (hI.2.2.2.1 (zc (N 16 0) % 8) (Nat.mod_lt _ (by decide))).1
  have lp105 : ∀ (n : Nat) (found : Int32) (i : Nat)  (H : Heap) (locs : List Loc) (ls : Array Slot) (hn : i + n = 4) (hF : found = -1 ∨ zIn found 4) (hl : lv_has ls 5 [(0, .ref (a 0)), (1, .int (nI (zc (N 14 (zc (N 16 0) % 8))))), (2, .int found), (3, .int (nI i))]) (hP : va_P D vwCl (mW a cI (N, A, P, X)) H) (hS : va_S (mA a) s.heap H locs), W p l e ({ frames := 2, cells := 0, slots := 0, locals := 42 } : Room) s m ([.ref (a 0)] : List Value).toArray below meth c H locs 0 0 (mQi below D a cI [.ref (a 0)] s (g_X7_issuing_lq n found i N) (N, A, P, X)) (F0 m 105 ls []) := by
    intro n
    induction n with
    | zero =>
      intro found i H locs ls hn hF hl hP hS
      refine lv_iload_n hx hb dX7_issuing_105 rfl (lv_at hl 3 rfl) ?_
      refine lv_iconst (v := nI 4) hx hb dX7_issuing_106 (by decide) ?_
      refine lv_icmp_ge (tgt := 184) hx hb dX7_issuing_107 (by decide) (fun c107_1 => ?_) (fun c107_1 => absurd (nI_le (by omega) (by omega)) c107_1)
      refine lv_iload_n hx hb dX7_issuing_184 rfl (lv_at hl 2 rfl) ?_
      exact m_reti hx hb hr hlk rfl hP hS dX7_issuing_185 (by first | rfl | simp only [g_X7_issuing_lq]) rfl
    | succ n ih =>
      intro found i H locs ls hn hF hl hP hS
      refine lv_iload_n hx hb dX7_issuing_105 rfl (lv_at hl 3 rfl) ?_
      refine lv_iconst (v := nI 4) hx hb dX7_issuing_106 (by decide) ?_
      refine lv_icmp_ge (tgt := 184) hx hb dX7_issuing_107 (by decide) (fun c107_2 => absurd c107_2 (nI_ge (by omega) (by decide))) (fun c107_2 => ?_)
      refine lv_aload_n hx hb dX7_issuing_110 rfl (lv_at hl 0 rfl) ?_
      refine mgO0 hx hb hts hiX7 hown hK hP (hts (.fieldLink RX7 7 "BarrelProcessorModel" "s" "[I") (by decide +kernel)) dX7_issuing_111 ?_
      refine lv_sipush (v := nI 243) hx hb dX7_issuing_114 (by decide) ?_
      refine m_iald hx hb hK hP mG_s (j := 243) (by omega) (by decide) dX7_issuing_117 ?_
      refine z_val (z := N 15 1) (zen_of zf_243) ?_
      refine lv_iconst (v := nI 2) hx hb dX7_issuing_118 (by decide) ?_
      refine lv_icmp_ne (tgt := 184) hx hb dX7_issuing_119 (by decide) (fun c119_3 => ?_) (fun c119_3 => ?_)
      · refine lv_iload_n hx hb dX7_issuing_184 rfl (lv_at hl 2 rfl) ?_
        exact m_reti hx hb hr hlk rfl hP hS dX7_issuing_185 (by simp only [g_X7_issuing_lq, if_neg c119_3]) rfl
      · refine lv_aload_n hx hb dX7_issuing_122 rfl (lv_at hl 0 rfl) ?_
        refine lv_iload_n hx hb dX7_issuing_123 rfl (lv_at hl 3 rfl) ?_
        refine m_cVi (As := [.int (nI i)]) (rest := []) ⟨hx, hb, hml, hown, hts⟩ (ct_X7_isReady l D a cI hJ N A P X i (by omega)) (cwV 1 hts gX7_issuing_X7_isReady rfl rfl rfl (by decide +kernel) ⟨Nat.le_of_ble_eq_true rfl, Nat.le_of_ble_eq_true rfl⟩) hK hP hS (va_recv (ci := 7) hK hP rfl mG_O) rfl hl.1 rfl (Nat.le_of_ble_eq_true rfl) dX7_issuing_124 ⟨Nat.zero_le _, Nat.zero_le _⟩ (fun H locs hP hS => ?_)
        refine lv_if_eq (tgt := 164) hx hb dX7_issuing_127 (by decide) (fun c127_4 => ?_) (fun c127_4 => ?_)
        · refine lv_iconst (v := nI 0) hx hb dX7_issuing_164 (by decide) ?_
          refine lv_istore (lv' := [(4, .int (nI 0)), (0, .ref (a 0)), (1, .int (nI (zc (N 14 (zc (N 16 0) % 8))))), (2, .int found), (3, .int (nI i))]) hx hb dX7_issuing_165 hl (by decide) rfl (fun ls hl => ?_)
          refine lv_iload hx hb dX7_issuing_167 (lv_at hl 0 rfl) ?_
          refine lv_if_eq (tgt := 176) hx hb dX7_issuing_169 (by decide) (fun c169_5 => ?_) (fun c169_5 => absurd (by decide) c169_5)
          refine lv_iload_n hx hb dX7_issuing_176 rfl (lv_at hl 3 rfl) ?_
          refine lv_istore_n (lv' := [(2, .int found), (4, .int (nI 0)), (0, .ref (a 0)), (1, .int (nI (zc (N 14 (zc (N 16 0) % 8))))), (3, .int (nI i))]) hx hb dX7_issuing_177 rfl hl (by decide) rfl (fun ls hl => ?_)
          refine lv_iinc (v := nI (i + 1)) (lv' := [(3, .int (nI (i + 1))), (2, .int found), (4, .int (nI 0)), (0, .ref (a 0)), (1, .int (nI (zc (N 14 (zc (N 16 0) % 8)))))]) hx hb dX7_issuing_178 hl (k := 4) rfl (nI_add _ _) (by decide) rfl (fun ls hl => ?_)
          refine lv_goto (tgt := 105) hx hb dX7_issuing_181 (by decide) ?_
          refine m_toi (r2 := g_X7_issuing_lq n found (i + 1) N) (Z2 := _) (by simp only [g_X7_issuing_lq, if_pos c119_3, if_pos c127_4]) rfl ?_
          exact ih found (i + 1) _ _ _ (by omega) (by first | exact hF | exact Or.inr (zIn_nI (by omega) (by decide))) (lv_sub hl [3, 4, 1, 0] rfl) hP hS
        · refine lv_iload_n hx hb dX7_issuing_130 rfl (lv_at hl 2 rfl) ?_
          refine lv_iconst (v := (-1)) hx hb dX7_issuing_131 (by decide) ?_
          refine lv_icmp_eq (tgt := 160) hx hb dX7_issuing_132 (by decide) (fun c132_6 => ?_) (fun c132_6 => ?_)
          · refine lv_iconst (v := nI 1) hx hb dX7_issuing_160 (by decide) ?_
            refine lv_goto (tgt := 165) hx hb dX7_issuing_161 (by decide) ?_
            refine lv_istore (lv' := [(4, .int (nI 1)), (0, .ref (a 0)), (1, .int (nI (zc (N 14 (zc (N 16 0) % 8))))), (2, .int found), (3, .int (nI i))]) hx hb dX7_issuing_165 hl (by decide) rfl (fun ls hl => ?_)
            refine lv_iload hx hb dX7_issuing_167 (lv_at hl 0 rfl) ?_
            refine lv_if_eq (tgt := 176) hx hb dX7_issuing_169 (by decide) (fun c169_7 => absurd c169_7 (by decide)) (fun c169_7 => ?_)
            refine lv_iload_n hx hb dX7_issuing_172 rfl (lv_at hl 4 rfl) ?_
            refine lv_goto (tgt := 177) hx hb dX7_issuing_173 (by decide) ?_
            refine lv_istore_n (lv' := [(2, .int (nI i)), (4, .int (nI 1)), (0, .ref (a 0)), (1, .int (nI (zc (N 14 (zc (N 16 0) % 8))))), (3, .int (nI i))]) hx hb dX7_issuing_177 rfl hl (by decide) rfl (fun ls hl => ?_)
            refine lv_iinc (v := nI (i + 1)) (lv' := [(3, .int (nI (i + 1))), (2, .int (nI i)), (4, .int (nI 1)), (0, .ref (a 0)), (1, .int (nI (zc (N 14 (zc (N 16 0) % 8)))))]) hx hb dX7_issuing_178 hl (k := 4) rfl (nI_add _ _) (by decide) rfl (fun ls hl => ?_)
            refine lv_goto (tgt := 105) hx hb dX7_issuing_181 (by decide) ?_
            refine m_toi (r2 := g_X7_issuing_lq n (nI i) (i + 1) N) (Z2 := _) (by simp only [g_X7_issuing_lq, if_pos c119_3, if_neg c127_4, if_pos c132_6]) rfl ?_
            exact ih (nI i) (i + 1) _ _ _ (by omega) (by first | exact hF | exact Or.inr (zIn_nI (by omega) (by decide))) (lv_sub hl [3, 4, 1, 0] rfl) hP hS
          · refine lv_aload_n hx hb dX7_issuing_135 rfl (lv_at hl 0 rfl) ?_
            refine mgO0 hx hb hts hiX7 hown hK hP (hts (.fieldLink RX7 7 "BarrelProcessorModel" "s" "[I") (by decide +kernel)) dX7_issuing_136 ?_
            refine lv_iload_n hx hb dX7_issuing_139 rfl (lv_at hl 3 rfl) ?_
            refine lv_bipush (v := nI 9) hx hb dX7_issuing_140 (by decide) ?_
            refine m_cSi (As := [.int (nI i), .int (nI 9)]) (rest := [.ref (a 1)]) ⟨hx, hb, hml, hown, hts⟩ (ct_X7_at l D a cI hJ N A P X (nI i) (nI 9)) (va_cwS 2 hts gX7_issuing_X7_at rfl rfl rfl (by decide +kernel) ⟨Nat.le_of_ble_eq_true rfl, Nat.le_of_ble_eq_true rfl⟩) hK hP hS rfl hl.1 rfl (Nat.le_of_ble_eq_true rfl) dX7_issuing_142 ⟨Nat.zero_le _, Nat.zero_le _⟩ (fun H locs hP hS => ?_)
            refine z_val (z := nI (14 * i + 9)) (z_at _ _) ?_
            refine m_iald hx hb hK hP mG_s (j := 14 * i + 9) (by omega) (by decide) dX7_issuing_145 ?_
            refine z_val (z := N 5 i) (zen_of (zf_t9 (by omega))) ?_
            refine lv_aload_n hx hb dX7_issuing_146 rfl (lv_at hl 0 rfl) ?_
            refine mgO0 hx hb hts hiX7 hown hK hP (hts (.fieldLink RX7 7 "BarrelProcessorModel" "s" "[I") (by decide +kernel)) dX7_issuing_147 ?_
            refine lv_iload_n hx hb dX7_issuing_150 rfl (lv_at hl 2 rfl) ?_
            refine z_val (z := nI (zc found)) (hF.resolve_left ‹¬ found = -1›).2 ?_
            refine lv_bipush (v := nI 9) hx hb dX7_issuing_151 (by decide) ?_
            refine m_cSi (As := [.int (nI (zc found)), .int (nI 9)]) (rest := [.ref (a 1), .int (N 5 i)]) ⟨hx, hb, hml, hown, hts⟩ (ct_X7_at l D a cI hJ N A P X (nI (zc found)) (nI 9)) (va_cwS 2 hts gX7_issuing_X7_at rfl rfl rfl (by decide +kernel) ⟨Nat.le_of_ble_eq_true rfl, Nat.le_of_ble_eq_true rfl⟩) hK hP hS rfl hl.1 rfl (Nat.le_of_ble_eq_true rfl) dX7_issuing_153 ⟨Nat.zero_le _, Nat.zero_le _⟩ (fun H locs hP hS => ?_)
            refine z_val (z := nI (14 * (zc found) + 9)) (z_at _ _) ?_
            refine m_iald hx hb hK hP mG_s (j := 14 * (zc found) + 9) (by have h9 := (hF.resolve_left ‹¬ found = -1›).1; omega) (by decide) dX7_issuing_156 ?_
            refine z_val (z := N 5 (zc found)) (zen_of (zf_t9 (hF.resolve_left ‹¬ found = -1›).1)) ?_
            refine lv_icmp_ge (tgt := 164) hx hb dX7_issuing_157 (by decide) (fun c157_8 => ?_) (fun c157_8 => ?_)
            · refine lv_iconst (v := nI 0) hx hb dX7_issuing_164 (by decide) ?_
              refine lv_istore (lv' := [(4, .int (nI 0)), (0, .ref (a 0)), (1, .int (nI (zc (N 14 (zc (N 16 0) % 8))))), (2, .int found), (3, .int (nI i))]) hx hb dX7_issuing_165 hl (by decide) rfl (fun ls hl => ?_)
              refine lv_iload hx hb dX7_issuing_167 (lv_at hl 0 rfl) ?_
              refine lv_if_eq (tgt := 176) hx hb dX7_issuing_169 (by decide) (fun c169_9 => ?_) (fun c169_9 => absurd (by decide) c169_9)
              refine lv_iload_n hx hb dX7_issuing_176 rfl (lv_at hl 3 rfl) ?_
              refine lv_istore_n (lv' := [(2, .int found), (4, .int (nI 0)), (0, .ref (a 0)), (1, .int (nI (zc (N 14 (zc (N 16 0) % 8))))), (3, .int (nI i))]) hx hb dX7_issuing_177 rfl hl (by decide) rfl (fun ls hl => ?_)
              refine lv_iinc (v := nI (i + 1)) (lv' := [(3, .int (nI (i + 1))), (2, .int found), (4, .int (nI 0)), (0, .ref (a 0)), (1, .int (nI (zc (N 14 (zc (N 16 0) % 8)))))]) hx hb dX7_issuing_178 hl (k := 4) rfl (nI_add _ _) (by decide) rfl (fun ls hl => ?_)
              refine lv_goto (tgt := 105) hx hb dX7_issuing_181 (by decide) ?_
              refine m_toi (r2 := g_X7_issuing_lq n found (i + 1) N) (Z2 := _) (by simp only [g_X7_issuing_lq, if_pos c119_3, if_neg c127_4, if_neg c132_6, if_pos c157_8]) rfl ?_
              exact ih found (i + 1) _ _ _ (by omega) (by first | exact hF | exact Or.inr (zIn_nI (by omega) (by decide))) (lv_sub hl [3, 4, 1, 0] rfl) hP hS
            · refine lv_iconst (v := nI 1) hx hb dX7_issuing_160 (by decide) ?_
              refine lv_goto (tgt := 165) hx hb dX7_issuing_161 (by decide) ?_
              refine lv_istore (lv' := [(4, .int (nI 1)), (0, .ref (a 0)), (1, .int (nI (zc (N 14 (zc (N 16 0) % 8))))), (2, .int found), (3, .int (nI i))]) hx hb dX7_issuing_165 hl (by decide) rfl (fun ls hl => ?_)
              refine lv_iload hx hb dX7_issuing_167 (lv_at hl 0 rfl) ?_
              refine lv_if_eq (tgt := 176) hx hb dX7_issuing_169 (by decide) (fun c169_10 => absurd c169_10 (by decide)) (fun c169_10 => ?_)
              refine lv_iload_n hx hb dX7_issuing_172 rfl (lv_at hl 4 rfl) ?_
              refine lv_goto (tgt := 177) hx hb dX7_issuing_173 (by decide) ?_
              refine lv_istore_n (lv' := [(2, .int (nI i)), (4, .int (nI 1)), (0, .ref (a 0)), (1, .int (nI (zc (N 14 (zc (N 16 0) % 8))))), (3, .int (nI i))]) hx hb dX7_issuing_177 rfl hl (by decide) rfl (fun ls hl => ?_)
              refine lv_iinc (v := nI (i + 1)) (lv' := [(3, .int (nI (i + 1))), (2, .int (nI i)), (4, .int (nI 1)), (0, .ref (a 0)), (1, .int (nI (zc (N 14 (zc (N 16 0) % 8)))))]) hx hb dX7_issuing_178 hl (k := 4) rfl (nI_add _ _) (by decide) rfl (fun ls hl => ?_)
              refine lv_goto (tgt := 105) hx hb dX7_issuing_181 (by decide) ?_
              refine m_toi (r2 := g_X7_issuing_lq n (nI i) (i + 1) N) (Z2 := _) (by simp only [g_X7_issuing_lq, if_pos c119_3, if_neg c127_4, if_neg c132_6, if_neg c157_8]) rfl ?_
              exact ih (nI i) (i + 1) _ _ _ (by omega) (by first | exact hF | exact Or.inr (zIn_nI (by omega) (by decide))) (lv_sub hl [3, 4, 1, 0] rfl) hP hS
  have lp58 : ∀ (n : Nat) (found : Int32) (k : Nat)  (H : Heap) (locs : List Loc) (ls : Array Slot) (hn : k = n ∧ n ≤ 3) (hF : found = -1 ∨ zIn found 4) (hl : lv_has ls 5 [(0, .ref (a 0)), (1, .int (nI (zc (N 14 (zc (N 16 0) % 8))))), (2, .int found), (3, .int (nI k))]) (hP : va_P D vwCl (mW a cI (N, A, P, X)) H) (hS : va_S (mA a) s.heap H locs), W p l e ({ frames := 2, cells := 0, slots := 0, locals := 42 } : Room) s m ([.ref (a 0)] : List Value).toArray below meth c H locs 0 0 (mQi below D a cI [.ref (a 0)] s (g_X7_issuing_lp n found k N) (N, A, P, X)) (F0 m 58 ls []) := by
    intro n
    induction n with
    | zero =>
      intro found k H locs ls hn hF hl hP hS
      refine lv_iload_n hx hb dX7_issuing_58 rfl (lv_at hl 3 rfl) ?_
      refine lv_if_le (tgt := 103) hx hb dX7_issuing_59 (by decide) (fun c59_11 => ?_) (fun c59_11 => absurd (z_le0 (by omega)) c59_11)
      refine lv_iconst (v := nI 0) hx hb dX7_issuing_103 (by decide) ?_
      refine lv_istore_n (lv' := [(3, .int (nI 0)), (0, .ref (a 0)), (1, .int (nI (zc (N 14 (zc (N 16 0) % 8))))), (2, .int found)]) hx hb dX7_issuing_104 rfl hl (by decide) rfl (fun ls hl => ?_)
      refine m_toi (r2 := g_X7_issuing_lq 4 found 0 N) (Z2 := _) (by first | rfl | simp only [g_X7_issuing_lp]) rfl ?_
      exact lp105 4 found 0 _ _ _ (by omega) hF (lv_sub hl [1, 2, 3, 0] rfl) hP hS
    | succ n ih =>
      intro found k H locs ls hn hF hl hP hS
      refine lv_iload_n hx hb dX7_issuing_58 rfl (lv_at hl 3 rfl) ?_
      refine lv_if_le (tgt := 103) hx hb dX7_issuing_59 (by decide) (fun c59_12 => absurd c59_12 (nI_nle (by omega) (by omega))) (fun c59_12 => ?_)
      refine lv_aload_n hx hb dX7_issuing_62 rfl (lv_at hl 0 rfl) ?_
      refine mgO0 hx hb hts hiX7 hown hK hP (hts (.fieldLink RX7 7 "BarrelProcessorModel" "s" "[I") (by decide +kernel)) dX7_issuing_63 ?_
      refine lv_sipush (v := nI 243) hx hb dX7_issuing_66 (by decide) ?_
      refine m_iald hx hb hK hP mG_s (j := 243) (by omega) (by decide) dX7_issuing_69 ?_
      refine z_val (z := N 15 1) (zen_of zf_243) ?_
      refine lv_iconst (v := nI 1) hx hb dX7_issuing_70 (by decide) ?_
      refine lv_icmp_ne (tgt := 103) hx hb dX7_issuing_71 (by decide) (fun c71_13 => ?_) (fun c71_13 => ?_)
      · refine lv_iconst (v := nI 0) hx hb dX7_issuing_103 (by decide) ?_
        refine lv_istore_n (lv' := [(3, .int (nI 0)), (0, .ref (a 0)), (1, .int (nI (zc (N 14 (zc (N 16 0) % 8))))), (2, .int found)]) hx hb dX7_issuing_104 rfl hl (by decide) rfl (fun ls hl => ?_)
        refine m_toi (r2 := g_X7_issuing_lq 4 found 0 N) (Z2 := _) (by simp only [g_X7_issuing_lp, if_neg c71_13]) rfl ?_
        exact lp105 4 found 0 _ _ _ (by omega) hF (lv_sub hl [1, 2, 3, 0] rfl) hP hS
      · refine lv_iload_n hx hb dX7_issuing_74 rfl (lv_at hl 1 rfl) ?_
        refine lv_iload_n hx hb dX7_issuing_75 rfl (lv_at hl 3 rfl) ?_
        refine lv_iadd hx hb dX7_issuing_76 ?_
        refine z_val (z := nI ((zc (N 14 (zc (N 16 0) % 8))) + k)) (nI_add _ _) ?_
        refine lv_iconst (v := nI 4) hx hb dX7_issuing_77 (by decide) ?_
        refine lv_irem hx hb dX7_issuing_78 (by decide) ?_
        refine z_val (z := nI (((zc (N 14 (zc (N 16 0) % 8))) + k) % 4)) (pk_rem (by omega) (by decide) (by decide)) ?_
        refine lv_istore (lv' := [(4, .int (nI (((zc (N 14 (zc (N 16 0) % 8))) + k) % 4))), (0, .ref (a 0)), (1, .int (nI (zc (N 14 (zc (N 16 0) % 8))))), (2, .int found), (3, .int (nI k))]) hx hb dX7_issuing_79 hl (by decide) rfl (fun ls hl => ?_)
        refine lv_aload_n hx hb dX7_issuing_81 rfl (lv_at hl 1 rfl) ?_
        refine lv_iload hx hb dX7_issuing_82 (lv_at hl 0 rfl) ?_
        refine m_cVi (As := [.int (nI (((zc (N 14 (zc (N 16 0) % 8))) + k) % 4))]) (rest := []) ⟨hx, hb, hml, hown, hts⟩ (ct_X7_isReady l D a cI hJ N A P X (((zc (N 14 (zc (N 16 0) % 8))) + k) % 4) (by omega)) (cwV 1 hts gX7_issuing_X7_isReady rfl rfl rfl (by decide +kernel) ⟨Nat.le_of_ble_eq_true rfl, Nat.le_of_ble_eq_true rfl⟩) hK hP hS (va_recv (ci := 7) hK hP rfl mG_O) rfl hl.1 rfl (Nat.le_of_ble_eq_true rfl) dX7_issuing_84 ⟨Nat.zero_le _, Nat.zero_le _⟩ (fun H locs hP hS => ?_)
        refine lv_if_eq (tgt := 95) hx hb dX7_issuing_87 (by decide) (fun c87_14 => ?_) (fun c87_14 => ?_)
        · refine lv_iload_n hx hb dX7_issuing_95 rfl (lv_at hl 3 rfl) ?_
          refine lv_istore_n (lv' := [(2, .int found), (4, .int (nI (((zc (N 14 (zc (N 16 0) % 8))) + k) % 4))), (0, .ref (a 0)), (1, .int (nI (zc (N 14 (zc (N 16 0) % 8))))), (3, .int (nI k))]) hx hb dX7_issuing_96 rfl hl (by decide) rfl (fun ls hl => ?_)
          refine lv_iinc (v := nI (k - 1)) (lv' := [(3, .int (nI (k - 1))), (2, .int found), (4, .int (nI (((zc (N 14 (zc (N 16 0) % 8))) + k) % 4))), (0, .ref (a 0)), (1, .int (nI (zc (N 14 (zc (N 16 0) % 8)))))]) hx hb dX7_issuing_97 hl (k := 4) rfl (z_dec (by omega)) (by decide) rfl (fun ls hl => ?_)
          refine lv_goto (tgt := 58) hx hb dX7_issuing_100 (by decide) ?_
          refine m_toi (r2 := g_X7_issuing_lp n found (k - 1) N) (Z2 := _) (by simp only [g_X7_issuing_lp, if_pos c71_13, if_pos c87_14]) rfl ?_
          exact ih found (k - 1) _ _ _ (by omega) (by first | exact hF | exact Or.inr (zIn_nI (Nat.mod_lt _ (by decide)) (by decide))) (lv_sub hl [3, 4, 1, 0] rfl) hP hS
        · refine lv_iload hx hb dX7_issuing_90 (lv_at hl 0 rfl) ?_
          refine lv_goto (tgt := 96) hx hb dX7_issuing_92 (by decide) ?_
          refine lv_istore_n (lv' := [(2, .int (nI (((zc (N 14 (zc (N 16 0) % 8))) + k) % 4))), (4, .int (nI (((zc (N 14 (zc (N 16 0) % 8))) + k) % 4))), (0, .ref (a 0)), (1, .int (nI (zc (N 14 (zc (N 16 0) % 8))))), (3, .int (nI k))]) hx hb dX7_issuing_96 rfl hl (by decide) rfl (fun ls hl => ?_)
          refine lv_iinc (v := nI (k - 1)) (lv' := [(3, .int (nI (k - 1))), (2, .int (nI (((zc (N 14 (zc (N 16 0) % 8))) + k) % 4))), (4, .int (nI (((zc (N 14 (zc (N 16 0) % 8))) + k) % 4))), (0, .ref (a 0)), (1, .int (nI (zc (N 14 (zc (N 16 0) % 8)))))]) hx hb dX7_issuing_97 hl (k := 4) rfl (z_dec (by omega)) (by decide) rfl (fun ls hl => ?_)
          refine lv_goto (tgt := 58) hx hb dX7_issuing_100 (by decide) ?_
          refine m_toi (r2 := g_X7_issuing_lp n (nI (((zc (N 14 (zc (N 16 0) % 8))) + k) % 4)) (k - 1) N) (Z2 := _) (by simp only [g_X7_issuing_lp, if_pos c71_13, if_neg c87_14]) rfl ?_
          exact ih (nI (((zc (N 14 (zc (N 16 0) % 8))) + k) % 4)) (k - 1) _ _ _ (by omega) (by first | exact hF | exact Or.inr (zIn_nI (Nat.mod_lt _ (by decide)) (by decide))) (lv_sub hl [3, 4, 1, 0] rfl) hP hS
  refine lv_aload_n hx hb dX7_issuing_0 rfl (lv_at hl 0 rfl) ?_
  refine mgO0 hx hb hts hiX7 hown hK hP (hts (.fieldLink RX7 7 "BarrelProcessorModel" "s" "[I") (by decide +kernel)) dX7_issuing_1 ?_
  refine lv_sipush (v := nI 234) hx hb dX7_issuing_4 (by decide) ?_
  refine lv_aload_n hx hb dX7_issuing_7 rfl (lv_at hl 0 rfl) ?_
  refine mgO0 hx hb hts hiX7 hown hK hP (hts (.fieldLink RX7 7 "BarrelProcessorModel" "s" "[I") (by decide +kernel)) dX7_issuing_8 ?_
  refine lv_sipush (v := nI 232) hx hb dX7_issuing_11 (by decide) ?_
  refine m_iald hx hb hK hP mG_s (j := 232) (by omega) (by decide) dX7_issuing_14 ?_
  refine z_val (z := N 16 0) (zen_of zf_232) ?_
  refine z_val (z := nI (zc (N 16 0))) hI.2.2.2.2.1.1.2 ?_
  refine lv_bipush (v := nI 8) hx hb dX7_issuing_15 (by decide) ?_
  refine lv_irem hx hb dX7_issuing_17 (by decide) ?_
  refine z_val (z := nI ((zc (N 16 0)) % 8)) (pk_rem (by have h9 := hI.2.2.2.2.1; have h8 := h9.1.1; omega) (by decide) (by decide)) ?_
  refine lv_iadd hx hb dX7_issuing_18 ?_
  refine z_val (z := nI (234 + ((zc (N 16 0)) % 8))) (nI_add _ _) ?_
  refine m_iald hx hb hK hP mG_s (j := 234 + ((zc (N 16 0)) % 8)) (by omega) (by decide) dX7_issuing_19 ?_
  refine z_val (z := N 14 ((zc (N 16 0)) % 8)) (zen_of (zf_sl (by omega))) ?_
  refine z_val (z := nI (zc (N 14 ((zc (N 16 0)) % 8)))) (hI.2.2.2.1 _ (Nat.mod_lt _ (by decide))).2 ?_
  refine lv_istore_n (lv' := [(1, .int (nI (zc (N 14 ((zc (N 16 0)) % 8))))), (0, .ref (a 0))]) hx hb dX7_issuing_20 rfl hl (by decide) rfl (fun ls hl => ?_)
  refine lv_aload_n hx hb dX7_issuing_21 rfl (lv_at hl 1 rfl) ?_
  refine lv_iload_n hx hb dX7_issuing_22 rfl (lv_at hl 0 rfl) ?_
  refine m_cVi (As := [.int (nI (zc (N 14 ((zc (N 16 0)) % 8))))]) (rest := []) ⟨hx, hb, hml, hown, hts⟩ (ct_X7_isReady l D a cI hJ N A P X (zc (N 14 ((zc (N 16 0)) % 8))) (by omega)) (cwV 1 hts gX7_issuing_X7_isReady rfl rfl rfl (by decide +kernel) ⟨Nat.le_of_ble_eq_true rfl, Nat.le_of_ble_eq_true rfl⟩) hK hP hS (va_recv (ci := 7) hK hP rfl mG_O) rfl hl.1 rfl (Nat.le_of_ble_eq_true rfl) dX7_issuing_23 ⟨Nat.zero_le _, Nat.zero_le _⟩ (fun H locs hP hS => ?_)
  refine lv_if_ne (tgt := 40) hx hb dX7_issuing_26 (by decide) (fun c26_15 => ?_) (fun c26_15 => ?_)
  · refine lv_aload_n hx hb dX7_issuing_40 rfl (lv_at hl 1 rfl) ?_
    refine lv_iload_n hx hb dX7_issuing_41 rfl (lv_at hl 0 rfl) ?_
    refine m_cVi (As := [.int (nI (zc (N 14 ((zc (N 16 0)) % 8))))]) (rest := []) ⟨hx, hb, hml, hown, hts⟩ (ct_X7_isReady l D a cI hJ N A P X (zc (N 14 ((zc (N 16 0)) % 8))) (by omega)) (cwV 1 hts gX7_issuing_X7_isReady rfl rfl rfl (by decide +kernel) ⟨Nat.le_of_ble_eq_true rfl, Nat.le_of_ble_eq_true rfl⟩) hK hP hS (va_recv (ci := 7) hK hP rfl mG_O) rfl hl.1 rfl (Nat.le_of_ble_eq_true rfl) dX7_issuing_42 ⟨Nat.zero_le _, Nat.zero_le _⟩ (fun H locs hP hS => ?_)
    refine lv_if_eq (tgt := 52) hx hb dX7_issuing_45 (by decide) (fun c45_16 => absurd c45_16 c26_15) (fun c45_16 => ?_)
    refine lv_iload_n hx hb dX7_issuing_48 rfl (lv_at hl 0 rfl) ?_
    refine lv_goto (tgt := 53) hx hb dX7_issuing_49 (by decide) ?_
    exact m_reti hx hb hr hlk rfl hP hS dX7_issuing_53 (by simp only [g_X7_issuing, if_neg c26_15]) rfl
  · refine lv_aload_n hx hb dX7_issuing_29 rfl (lv_at hl 1 rfl) ?_
    refine mgO0 hx hb hts hiX7 hown hK hP (hts (.fieldLink RX7 7 "BarrelProcessorModel" "s" "[I") (by decide +kernel)) dX7_issuing_30 ?_
    refine lv_sipush (v := nI 243) hx hb dX7_issuing_33 (by decide) ?_
    refine m_iald hx hb hK hP mG_s (j := 243) (by omega) (by decide) dX7_issuing_36 ?_
    refine z_val (z := N 15 1) (zen_of zf_243) ?_
    refine lv_if_ne (tgt := 54) hx hb dX7_issuing_37 (by decide) (fun c37_17 => ?_) (fun c37_17 => ?_)
    · refine lv_iconst (v := (-1)) hx hb dX7_issuing_54 (by decide) ?_
      refine lv_istore_n (lv' := [(2, .int (-1)), (1, .int (nI (zc (N 14 ((zc (N 16 0)) % 8))))), (0, .ref (a 0))]) hx hb dX7_issuing_55 rfl hl (by decide) rfl (fun ls hl => ?_)
      refine lv_iconst (v := nI 3) hx hb dX7_issuing_56 (by decide) ?_
      refine lv_istore_n (lv' := [(3, .int (nI 3)), (2, .int (-1)), (1, .int (nI (zc (N 14 ((zc (N 16 0)) % 8))))), (0, .ref (a 0))]) hx hb dX7_issuing_57 rfl hl (by decide) rfl (fun ls hl => ?_)
      refine m_toi (r2 := g_X7_issuing_lp 3 (-1) 3 N) (Z2 := _) (by simp only [g_X7_issuing, if_pos c26_15, if_neg c37_17]) rfl ?_
      exact lp58 3 (-1) 3 _ _ _ (by omega) (Or.inl rfl) (lv_sub hl [3, 2, 1, 0] rfl) hP hS
    · refine lv_aload_n hx hb dX7_issuing_40 rfl (lv_at hl 1 rfl) ?_
      refine lv_iload_n hx hb dX7_issuing_41 rfl (lv_at hl 0 rfl) ?_
      refine m_cVi (As := [.int (nI (zc (N 14 ((zc (N 16 0)) % 8))))]) (rest := []) ⟨hx, hb, hml, hown, hts⟩ (ct_X7_isReady l D a cI hJ N A P X (zc (N 14 ((zc (N 16 0)) % 8))) (by omega)) (cwV 1 hts gX7_issuing_X7_isReady rfl rfl rfl (by decide +kernel) ⟨Nat.le_of_ble_eq_true rfl, Nat.le_of_ble_eq_true rfl⟩) hK hP hS (va_recv (ci := 7) hK hP rfl mG_O) rfl hl.1 rfl (Nat.le_of_ble_eq_true rfl) dX7_issuing_42 ⟨Nat.zero_le _, Nat.zero_le _⟩ (fun H locs hP hS => ?_)
      refine lv_if_eq (tgt := 52) hx hb dX7_issuing_45 (by decide) (fun c45_18 => ?_) (fun c45_18 => absurd c26_15 c45_18)
      refine lv_iconst (v := (-1)) hx hb dX7_issuing_52 (by decide) ?_
      exact m_reti hx hb hr hlk rfl hP hS dX7_issuing_53 (by simp only [g_X7_issuing, if_pos c26_15, if_pos c37_17]) rfl
