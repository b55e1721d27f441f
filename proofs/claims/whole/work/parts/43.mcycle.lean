theorem z_ite {α : Type} {P : α → Prop} {c : Prop} [Decidable c] {x y : α} (h1 : c → P x) (h2 : ¬ c → P y) : P (if c then x else y) := by
  by_cases h : c
  · rw [if_pos h]
    exact h1 h
  · rw [if_neg h]
    exact h2 h
theorem zu_self (M : zM) (c i : Nat) : zu M c i (M c i) = M := by
  funext d
  by_cases h : d = c
  · subst h
    funext j
    by_cases e : j = i
    · subst e
      rw [zu_s]
    · rw [zu_i _ _ _ e]
  · rw [zu_c _ _ _ h]
theorem rOK_prepares_lq {B : Nat} : ∀ (n : Nat) (opn : Int32) (i : Nat) (N : zM), rOK B N → rOK B (hN_X7_prepares_lq n opn i N) := by
  intro n
  induction n with
  | zero =>
    intro opn i N h
    exact h
  | succ n ih =>
    intro opn i N h
    simp only [hN_X7_prepares_lq]
    rw [zu_self]
    split
    · exact ih _ _ _ h
    · split
      · exact ih _ _ _ (rOK_0 h (by decide))
      · exact ih _ _ _ h
theorem rOK_prepares_lp {B : Nat} : ∀ (n i : Nat) (N : zM), rOK B N → rOK B (hN_X7_prepares_lp n i N) := by
  intro n
  induction n with
  | zero =>
    intro i N h
    simp only [hN_X7_prepares_lp]
    split
    · exact rOK_prepares_lq _ _ _ _ h
    · exact rOK_prepares_lq _ _ _ _ h
  | succ n ih =>
    intro i N h
    simp only [hN_X7_prepares_lp]
    split
    · split
      · exact ih _ _ h
      · exact ih _ _ (rOK_fin h)
    · exact ih _ _ h
theorem rOK_prepares {B : Nat} {N : zM} (h : rOK B N) : rOK B (hN_X7_prepares N) := rOK_prepares_lp _ _ _ h
theorem m_issuing_lq (N : zM) : ∀ (n : Nat) (found : Int32) (i : Nat), i + n ≤ 4 → (found = -1 ∨ zIn found 4) → (g_X7_issuing_lq n found i N = -1 ∨ zIn (g_X7_issuing_lq n found i N) 4) := by
  intro n
  induction n with
  | zero =>
    intro found i _ h
    exact h
  | succ n ih =>
    intro found i hi h
    simp only [g_X7_issuing_lq]
    split
    · split
      · exact ih _ _ (by omega) h
      · split
        · exact ih _ _ (by omega) (Or.inr (zIn_nI (by omega) (by decide)))
        · split
          · exact ih _ _ (by omega) h
          · exact ih _ _ (by omega) (Or.inr (zIn_nI (by omega) (by decide)))
    · exact h
theorem m_issuing_lp (N : zM) : ∀ (n : Nat) (found : Int32) (k : Nat), (found = -1 ∨ zIn found 4) → (g_X7_issuing_lp n found k N = -1 ∨ zIn (g_X7_issuing_lp n found k N) 4) := by
  intro n
  induction n with
  | zero =>
    intro found k h
    exact m_issuing_lq N 4 found 0 (by decide) h
  | succ n ih =>
    intro found k h
    simp only [g_X7_issuing_lp]
    split
    · split
      · exact ih _ _ h
      · exact ih _ _ (Or.inr (zIn_nI (Nat.mod_lt _ (by decide)) (by decide)))
    · exact m_issuing_lq N 4 found 0 (by decide) h
theorem m_issuing {B : Nat} {N : zM} (h : rOK B N) : g_X7_issuing N = -1 ∨ zIn (g_X7_issuing N) 4 := by
  unfold g_X7_issuing
  split
  · split
    · exact Or.inl rfl
    · exact m_issuing_lp N 3 (-1) 3 (Or.inl rfl)
  · exact Or.inr (zIn_nI (h.2.2.2.1 _ (Nat.mod_lt _ (by decide))).1 (by decide))

def hN_X7_executes (t : Nat) (N : zM) : zM := if (nI (zc (N 1 t))) = (nI 48) then zu (hN_X7_traces (nI t) (nI (zc (N 1 t))) N) 0 t (nI 0) else hN_X7_does t ((zu (hN_X7_traces (nI t) (nI (zc (N 1 t))) N) 1 t (nI (zc (N 1 t) + 1))) 10 (zc (N 1 t))) ((zu (hN_X7_traces (nI t) (nI (zc (N 1 t))) N) 1 t (nI (zc (N 1 t) + 1))) 11 (2 * (zc (N 1 t)))) ((zu (hN_X7_traces (nI t) (nI (zc (N 1 t))) N) 1 t (nI (zc (N 1 t) + 1))) 11 (2 * (zc (N 1 t)) + 1)) (zu (hN_X7_traces (nI t) (nI (zc (N 1 t))) N) 1 t (nI (zc (N 1 t) + 1)))
set_option maxHeartbeats 4000000 in
set_option maxRecDepth 100000 in
theorem ct_X7_executes (l : Launch) (D : va_G) (a : Nat → Nat) (cI : ClassId) (hJ : mJ a) (N A P X : zM) (t : Nat) (ht : t < 4) (B : Nat) (hI : rOK B N) : mCv l yX7_executes wsX7_executes ({ frames := 3, cells := 0, slots := 0, locals := 70 } : Room) D a cI [.ref (a 0), .int (nI t)] (N, A, P, X) (hN_X7_executes t N, A, P, X) := by
  have hiX7 : ∀ w ∈ wsX70, w ∈ wsX7_executes := by decide +kernel
  refine m_ofv (cc := cX7_executes) (maxL := 3) (own := RX7) (by decide) rfl (Nat.le_of_ble_eq_true rfl) rfl (fun p e s m below meth c ls hx hb hr hml hts hown hlk hl hK hP hS => ?_)
  have hl : lv_has ls 3 [(0, .ref (a 0)), (1, .int (nI t))] := hl
  refine lv_aload_n hx hb dX7_executes_0 rfl (lv_at hl 0 rfl) ?_
  refine mgO0 hx hb hts hiX7 hown hK hP (hts (.fieldLink RX7 7 "BarrelProcessorModel" "s" "[I") (by decide +kernel)) dX7_executes_1 ?_
  refine lv_iload_n hx hb dX7_executes_4 rfl (lv_at hl 1 rfl) ?_
  refine lv_iconst (v := nI 1) hx hb dX7_executes_5 (by decide) ?_
  refine m_cSi (As := [.int (nI t), .int (nI 1)]) (rest := [.ref (a 1)]) ⟨hx, hb, hml, hown, hts⟩ (ct_X7_at l D a cI hJ N A P X (nI t) (nI 1)) (va_cwS 2 hts gX7_executes_X7_at rfl rfl rfl (by decide +kernel) ⟨Nat.le_of_ble_eq_true rfl, Nat.le_of_ble_eq_true rfl⟩) hK hP hS rfl hl.1 rfl (Nat.le_of_ble_eq_true rfl) dX7_executes_6 ⟨Nat.zero_le _, Nat.zero_le _⟩ (fun H locs hP hS => ?_)
  refine z_val (z := nI (14 * t + 1)) (z_at _ _) ?_
  refine m_iald hx hb hK hP mG_s (j := 14 * t + 1) (by omega) (by decide) dX7_executes_9 ?_
  refine z_val (z := N 1 t) (zen_of (zf_t1 (by omega))) ?_
  refine z_val (z := nI (zc (N 1 t))) (hI.2.2.1 t ht).2 ?_
  refine lv_istore_n (lv' := [(2, .int (nI (zc (N 1 t)))), (0, .ref (a 0)), (1, .int (nI t))]) hx hb dX7_executes_10 rfl hl (by decide) rfl (fun ls hl => ?_)
  refine lv_aload_n hx hb dX7_executes_11 rfl (lv_at hl 1 rfl) ?_
  refine lv_iload_n hx hb dX7_executes_12 rfl (lv_at hl 2 rfl) ?_
  refine lv_iload_n hx hb dX7_executes_13 rfl (lv_at hl 0 rfl) ?_
  refine m_cVv (As := [.int (nI t), .int (nI (zc (N 1 t)))]) (rest := []) ⟨hx, hb, hml, hown, hts⟩ (ct_X7_traces l D a cI hJ N A P X (nI t) (nI (zc (N 1 t)))) (cwV 2 hts gX7_executes_X7_traces rfl rfl rfl (by decide +kernel) ⟨Nat.le_of_ble_eq_true rfl, Nat.le_of_ble_eq_true rfl⟩) hK hP hS (va_recv (ci := 7) hK hP rfl mG_O) rfl hl.1 rfl (Nat.le_of_ble_eq_true rfl) dX7_executes_14 ⟨Nat.zero_le _, Nat.zero_le _⟩ (fun H locs hP hS => ?_)
  refine lv_iload_n hx hb dX7_executes_17 rfl (lv_at hl 0 rfl) ?_
  refine lv_bipush (v := nI 48) hx hb dX7_executes_18 (by decide) ?_
  refine lv_icmp_ne (tgt := 35) hx hb dX7_executes_20 (by decide) (fun c20_1 => ?_) (fun c20_1 => ?_)
  · have b1 := (hI.2.2.1 t ht).1
    have b2 : zc (N 1 t) < 48 := Nat.lt_of_le_of_ne (by omega) (fun e => c20_1 (by rw [e]))
    refine lv_aload_n hx hb dX7_executes_35 rfl (lv_at hl 1 rfl) ?_
    refine mgO0 hx hb hts hiX7 hown hK hP (hts (.fieldLink RX7 7 "BarrelProcessorModel" "s" "[I") (by decide +kernel)) dX7_executes_36 ?_
    refine lv_iload_n hx hb dX7_executes_39 rfl (lv_at hl 2 rfl) ?_
    refine lv_iconst (v := nI 1) hx hb dX7_executes_40 (by decide) ?_
    refine m_cSi (As := [.int (nI t), .int (nI 1)]) (rest := [.ref (a 1)]) ⟨hx, hb, hml, hown, hts⟩ (ct_X7_at l D a cI hJ (hN_X7_traces (nI t) (nI (zc (N 1 t))) N) A P X (nI t) (nI 1)) (va_cwS 2 hts gX7_executes_X7_at rfl rfl rfl (by decide +kernel) ⟨Nat.le_of_ble_eq_true rfl, Nat.le_of_ble_eq_true rfl⟩) hK hP hS rfl hl.1 rfl (Nat.le_of_ble_eq_true rfl) dX7_executes_41 ⟨Nat.zero_le _, Nat.zero_le _⟩ (fun H locs hP hS => ?_)
    refine z_val (z := nI (14 * t + 1)) (z_at _ _) ?_
    refine lv_iload_n hx hb dX7_executes_44 rfl (lv_at hl 0 rfl) ?_
    refine lv_iconst (v := nI 1) hx hb dX7_executes_45 (by decide) ?_
    refine lv_iadd hx hb dX7_executes_46 ?_
    refine z_val (z := nI (zc (N 1 t) + 1)) (nI_add _ _) ?_
    refine m_iast (Z' := (zu (hN_X7_traces (nI t) (nI (zc (N 1 t))) N) 1 t (nI (zc (N 1 t) + 1)), A, P, X)) hx hb hK hP hJ hS mG_s (j := 14 * t + 1) (by omega) (by decide) dX7_executes_47 (mS_s (zf_t1 (by omega))) (fun H locs hP hS => ?_)
    refine lv_aload_n hx hb dX7_executes_48 rfl (lv_at hl 1 rfl) ?_
    refine lv_iload_n hx hb dX7_executes_49 rfl (lv_at hl 2 rfl) ?_
    refine lv_aload_n hx hb dX7_executes_50 rfl (lv_at hl 1 rfl) ?_
    refine mgO0 hx hb hts hiX7 hown hK hP (hts (.fieldLink RX7 7 "BarrelProcessorModel" "s" "[I") (by decide +kernel)) dX7_executes_51 ?_
    refine lv_bipush (v := nI 56) hx hb dX7_executes_54 (by decide) ?_
    refine lv_iconst (v := nI 3) hx hb dX7_executes_56 (by decide) ?_
    refine lv_iload_n hx hb dX7_executes_57 rfl (lv_at hl 0 rfl) ?_
    refine lv_imul hx hb dX7_executes_58 ?_
    refine z_val (z := nI (3 * (zc (N 1 t)))) (pk_mul _ _) ?_
    refine lv_iadd hx hb dX7_executes_59 ?_
    refine z_val (z := nI (56 + (3 * (zc (N 1 t))))) (nI_add _ _) ?_
    rw [show 56 + (3 * (zc (N 1 t))) = 56 + 3 * (zc (N 1 t)) by omega]
    refine m_iald hx hb hK hP mG_s (j := 56 + 3 * (zc (N 1 t))) (by omega) (by decide) dX7_executes_60 ?_
    refine z_val (z := (zu (hN_X7_traces (nI t) (nI (zc (N 1 t))) N) 1 t (nI (zc (N 1 t) + 1))) 10 (zc (N 1 t))) (zen_of (zf_op (by omega))) ?_
    refine lv_aload_n hx hb dX7_executes_61 rfl (lv_at hl 1 rfl) ?_
    refine mgO0 hx hb hts hiX7 hown hK hP (hts (.fieldLink RX7 7 "BarrelProcessorModel" "s" "[I") (by decide +kernel)) dX7_executes_62 ?_
    refine lv_bipush (v := nI 56) hx hb dX7_executes_65 (by decide) ?_
    refine lv_iconst (v := nI 3) hx hb dX7_executes_67 (by decide) ?_
    refine lv_iload_n hx hb dX7_executes_68 rfl (lv_at hl 0 rfl) ?_
    refine lv_imul hx hb dX7_executes_69 ?_
    refine z_val (z := nI (3 * (zc (N 1 t)))) (pk_mul _ _) ?_
    refine lv_iadd hx hb dX7_executes_70 ?_
    refine z_val (z := nI (56 + (3 * (zc (N 1 t))))) (nI_add _ _) ?_
    refine lv_iconst (v := nI 1) hx hb dX7_executes_71 (by decide) ?_
    refine lv_iadd hx hb dX7_executes_72 ?_
    refine z_val (z := nI (56 + (3 * (zc (N 1 t))) + 1)) (nI_add _ _) ?_
    rw [show 56 + (3 * (zc (N 1 t))) + 1 = 56 + 3 * (zc (N 1 t)) + 1 by omega]
    refine m_iald hx hb hK hP mG_s (j := 56 + 3 * (zc (N 1 t)) + 1) (by omega) (by decide) dX7_executes_73 ?_
    refine z_val (z := (zu (hN_X7_traces (nI t) (nI (zc (N 1 t))) N) 1 t (nI (zc (N 1 t) + 1))) 11 (2 * (zc (N 1 t)))) (zen_of (zf_o1 (by omega))) ?_
    refine lv_aload_n hx hb dX7_executes_74 rfl (lv_at hl 1 rfl) ?_
    refine mgO0 hx hb hts hiX7 hown hK hP (hts (.fieldLink RX7 7 "BarrelProcessorModel" "s" "[I") (by decide +kernel)) dX7_executes_75 ?_
    refine lv_bipush (v := nI 56) hx hb dX7_executes_78 (by decide) ?_
    refine lv_iconst (v := nI 3) hx hb dX7_executes_80 (by decide) ?_
    refine lv_iload_n hx hb dX7_executes_81 rfl (lv_at hl 0 rfl) ?_
    refine lv_imul hx hb dX7_executes_82 ?_
    refine z_val (z := nI (3 * (zc (N 1 t)))) (pk_mul _ _) ?_
    refine lv_iadd hx hb dX7_executes_83 ?_
    refine z_val (z := nI (56 + (3 * (zc (N 1 t))))) (nI_add _ _) ?_
    refine lv_iconst (v := nI 2) hx hb dX7_executes_84 (by decide) ?_
    refine lv_iadd hx hb dX7_executes_85 ?_
    refine z_val (z := nI (56 + (3 * (zc (N 1 t))) + 2)) (nI_add _ _) ?_
    rw [show 56 + (3 * (zc (N 1 t))) + 2 = 56 + 3 * (zc (N 1 t)) + 2 by omega]
    refine m_iald hx hb hK hP mG_s (j := 56 + 3 * (zc (N 1 t)) + 2) (by omega) (by decide) dX7_executes_86 ?_
    refine z_val (z := (zu (hN_X7_traces (nI t) (nI (zc (N 1 t))) N) 1 t (nI (zc (N 1 t) + 1))) 11 (2 * (zc (N 1 t)) + 1)) (zen_of (zf_o2 (by omega))) ?_
    refine m_cVv (As := [.int (nI t), .int ((zu (hN_X7_traces (nI t) (nI (zc (N 1 t))) N) 1 t (nI (zc (N 1 t) + 1))) 10 (zc (N 1 t))), .int ((zu (hN_X7_traces (nI t) (nI (zc (N 1 t))) N) 1 t (nI (zc (N 1 t) + 1))) 11 (2 * (zc (N 1 t)))), .int ((zu (hN_X7_traces (nI t) (nI (zc (N 1 t))) N) 1 t (nI (zc (N 1 t) + 1))) 11 (2 * (zc (N 1 t)) + 1))]) (rest := []) ⟨hx, hb, hml, hown, hts⟩ (ct_X7_does l D a cI hJ (zu (hN_X7_traces (nI t) (nI (zc (N 1 t))) N) 1 t (nI (zc (N 1 t) + 1))) A P X t ((zu (hN_X7_traces (nI t) (nI (zc (N 1 t))) N) 1 t (nI (zc (N 1 t) + 1))) 10 (zc (N 1 t))) ((zu (hN_X7_traces (nI t) (nI (zc (N 1 t))) N) 1 t (nI (zc (N 1 t) + 1))) 11 (2 * (zc (N 1 t)))) ((zu (hN_X7_traces (nI t) (nI (zc (N 1 t))) N) 1 t (nI (zc (N 1 t) + 1))) 11 (2 * (zc (N 1 t)) + 1)) (by omega) (by rw [zu_c _ _ _ (show (10:Nat) ≠ 1 by decide), zu_c _ _ _ (show (11:Nat) ≠ 1 by decide), mT (show (10:Nat) ≠ 18 by decide) (by decide), mT (show (11:Nat) ≠ 18 by decide) (by decide)]; exact hI.2.2.2.2.2.1 _ b2)) (cwV 4 hts gX7_executes_X7_does rfl rfl rfl (by decide +kernel) ⟨Nat.le_of_ble_eq_true rfl, Nat.le_of_ble_eq_true rfl⟩) hK hP hS (va_recv (ci := 7) hK hP rfl mG_O) rfl hl.1 rfl (Nat.le_of_ble_eq_true rfl) dX7_executes_87 ⟨Nat.zero_le _, Nat.zero_le _⟩ (fun H locs hP hS => ?_)
    exact m_retv hx hb hr hlk hP hS dX7_executes_90 (m_eq (by simp only [hN_X7_executes, if_neg c20_1]) rfl rfl rfl)
  · refine lv_aload_n hx hb dX7_executes_23 rfl (lv_at hl 1 rfl) ?_
    refine mgO0 hx hb hts hiX7 hown hK hP (hts (.fieldLink RX7 7 "BarrelProcessorModel" "s" "[I") (by decide +kernel)) dX7_executes_24 ?_
    refine lv_iload_n hx hb dX7_executes_27 rfl (lv_at hl 2 rfl) ?_
    refine lv_iconst (v := nI 0) hx hb dX7_executes_28 (by decide) ?_
    refine m_cSi (As := [.int (nI t), .int (nI 0)]) (rest := [.ref (a 1)]) ⟨hx, hb, hml, hown, hts⟩ (ct_X7_at l D a cI hJ (hN_X7_traces (nI t) (nI (zc (N 1 t))) N) A P X (nI t) (nI 0)) (va_cwS 2 hts gX7_executes_X7_at rfl rfl rfl (by decide +kernel) ⟨Nat.le_of_ble_eq_true rfl, Nat.le_of_ble_eq_true rfl⟩) hK hP hS rfl hl.1 rfl (Nat.le_of_ble_eq_true rfl) dX7_executes_29 ⟨Nat.zero_le _, Nat.zero_le _⟩ (fun H locs hP hS => ?_)
    refine z_val (z := nI (14 * t + 0)) (z_at _ _) ?_
    refine lv_iconst (v := nI 0) hx hb dX7_executes_32 (by decide) ?_
    refine m_iast (Z' := (zu (hN_X7_traces (nI t) (nI (zc (N 1 t))) N) 0 t (nI 0), A, P, X)) hx hb hK hP hJ hS mG_s (j := 14 * t + 0) (by omega) (by decide) dX7_executes_33 (mS_s (zf_t0 (by omega))) (fun H locs hP hS => ?_)
    exact m_retv hx hb hr hlk hP hS dX7_executes_34 (m_eq (by simp only [hN_X7_executes, if_pos c20_1]) rfl rfl rfl)

theorem rOK_load {B : Nat} {N : zM} {t w : Nat} {r y : Int32} (h : rOK B N) (hr : zIn r 4) (hw : w < 32) : rOK B (zu (zu (zu (zu N 0 t (nI 2)) 2 t r) 3 t (nI (200 + w))) 4 t y) := by
  refine rOK_u ?_ (by decide) (by decide) (by decide) (by decide) (by decide) (by decide) (by decide) (by decide) (by decide)
  refine ⟨fun q hq => ?_, fun q hq e => ?_, ?_⟩
  · rw [zu_c _ _ _ (show (2 : Nat) ≠ 3 by decide)]
    by_cases e1 : q = t
    · subst e1
      rw [zu_s]
      exact hr
    · rw [zu_i _ _ _ e1, zu_c _ _ _ (show (2 : Nat) ≠ 0 by decide)]
      exact h.1 q hq
  · by_cases e1 : q = t
    · subst e1
      rw [zu_s, zc_nI (show 200 + w < 2 ^ 31 by omega)]
      exact ⟨by rw [show 200 + (200 + w - 200) = 200 + w by omega], by omega⟩
    · rw [zu_c _ _ _ (show (0 : Nat) ≠ 3 by decide), zu_c _ _ _ (show (0 : Nat) ≠ 2 by decide), zu_i _ _ _ e1] at e
      rw [zu_i _ _ _ e1, zu_c _ _ _ (show (3 : Nat) ≠ 2 by decide), zu_c _ _ _ (show (3 : Nat) ≠ 0 by decide)]
      exact h.2.1 q hq e
  · rw [zu_c _ _ _ (show (1 : Nat) ≠ 3 by decide), zu_c _ _ _ (show (1 : Nat) ≠ 2 by decide), zu_c _ _ _ (show (1 : Nat) ≠ 0 by decide), zu_c _ _ _ (show (14 : Nat) ≠ 3 by decide), zu_c _ _ _ (show (14 : Nat) ≠ 2 by decide), zu_c _ _ _ (show (14 : Nat) ≠ 0 by decide), zu_c _ _ _ (show (16 : Nat) ≠ 3 by decide), zu_c _ _ _ (show (16 : Nat) ≠ 2 by decide), zu_c _ _ _ (show (16 : Nat) ≠ 0 by decide), zu_c _ _ _ (show (10 : Nat) ≠ 3 by decide), zu_c _ _ _ (show (10 : Nat) ≠ 2 by decide), zu_c _ _ _ (show (10 : Nat) ≠ 0 by decide), zu_c _ _ _ (show (11 : Nat) ≠ 3 by decide), zu_c _ _ _ (show (11 : Nat) ≠ 2 by decide), zu_c _ _ _ (show (11 : Nat) ≠ 0 by decide), zu_c _ _ _ (show (18 : Nat) ≠ 3 by decide), zu_c _ _ _ (show (18 : Nat) ≠ 2 by decide), zu_c _ _ _ (show (18 : Nat) ≠ 0 by decide)]
    exact h.2.2
theorem zIn_up {x : Int32} {m n : Nat} (h : zIn x m) (hm : m ≤ n) : zIn x n := ⟨Nat.lt_of_lt_of_le h.1 hm, h.2⟩
theorem rOK_jumps {B : Nat} {N : zM} {t : Nat} {p b : Int32} (h : rOK B N) (hp : zIn p 48) : rOK B (hN_X7_jumps t p b N) := by
  unfold hN_X7_jumps
  rw [zu_self]
  split
  · exact h
  · exact rOK_1 h (zIn_up hp (by decide))
theorem rOK_does {B : Nat} {N : zM} {t : Nat} {op r q : Int32} (h : rOK B N) (hW : pOK op r q) : rOK B (hN_X7_does t op r q N) := by
  have hu : ∀ w x, rOK B (zu N 13 w x) := fun w x => rOK_u h (by decide) (by decide) (by decide) (by decide) (by decide) (by decide) (by decide) (by decide) (by decide)
  unfold hN_X7_does
  refine z_ite (P := rOK B) (fun _ => ?_) (fun _ => ?_)
  · refine z_ite (P := rOK B) (fun _ => ?_) (fun _ => ?_)
    · exact rOK_puts h
    refine z_ite (P := rOK B) (fun _ => ?_) (fun _ => ?_)
    · exact rOK_puts h
    refine z_ite (P := rOK B) (fun _ => ?_) (fun _ => ?_)
    · exact rOK_puts h
    refine z_ite (P := rOK B) (fun _ => ?_) (fun _ => ?_)
    · exact rOK_puts h
    refine z_ite (P := rOK B) (fun _ => ?_) (fun _ => ?_)
    · exact rOK_load (w := 0) h (hW.1 (Or.inr (Or.inr (Or.inr (Or.inr (Or.inl ‹op = nI 4›)))))) (by omega)
    refine z_ite (P := rOK B) (fun _ => ?_) (fun _ => ?_)
    · exact hu _ _
    refine z_ite (P := rOK B) (fun _ => ?_) (fun _ => ?_)
    · exact rOK_u (rOK_puts h) (by decide) (by decide) (by decide) (by decide) (by decide) (by decide) (by decide) (by decide) (by decide)
    refine z_ite (P := rOK B) (fun _ => ?_) (fun _ => ?_)
    · exact rOK_jumps h (hW.2.2.1 ‹op = nI 7›)
    refine z_ite (P := rOK B) (fun _ => ?_) (fun _ => ?_)
    · exact z_ite (P := rOK B) (fun _ => rOK_jumps h (hW.2.2.2.1 (Or.inl ‹op = nI 8›))) (fun _ => rOK_jumps h (hW.2.2.2.1 (Or.inl ‹op = nI 8›)))
    refine z_ite (P := rOK B) (fun _ => ?_) (fun _ => ?_)
    · exact z_ite (P := rOK B) (fun _ => rOK_jumps h (hW.2.2.2.1 (Or.inr ‹op = nI 9›))) (fun _ => rOK_jumps h (hW.2.2.2.1 (Or.inr ‹op = nI 9›)))
    refine z_ite (P := rOK B) (fun _ => ?_) (fun _ => ?_)
    · exact rOK_0 h (by decide)
    exact rOK_0 h (by decide)
  · refine z_ite (P := rOK B) (fun _ => ?_) (fun _ => ?_)
    · exact rOK_puts h
    refine z_ite (P := rOK B) (fun _ => ?_) (fun _ => ?_)
    · exact rOK_puts h
    refine z_ite (P := rOK B) (fun _ => ?_) (fun _ => ?_)
    · exact rOK_puts h
    refine z_ite (P := rOK B) (fun _ => ?_) (fun _ => ?_)
    · exact rOK_puts h
    refine z_ite (P := rOK B) (fun _ => ?_) (fun _ => ?_)
    · exact rOK_load h (hW.1 (Or.inr (Or.inr (Or.inr (Or.inr (Or.inl ‹op = nI 4›)))))) (Nat.mod_lt _ (by decide))
    refine z_ite (P := rOK B) (fun _ => ?_) (fun _ => ?_)
    · exact hu _ _
    refine z_ite (P := rOK B) (fun _ => ?_) (fun _ => ?_)
    · exact rOK_u (rOK_puts h) (by decide) (by decide) (by decide) (by decide) (by decide) (by decide) (by decide) (by decide) (by decide)
    refine z_ite (P := rOK B) (fun _ => ?_) (fun _ => ?_)
    · exact rOK_jumps h (hW.2.2.1 ‹op = nI 7›)
    refine z_ite (P := rOK B) (fun _ => ?_) (fun _ => ?_)
    · exact z_ite (P := rOK B) (fun _ => rOK_jumps h (hW.2.2.2.1 (Or.inl ‹op = nI 8›))) (fun _ => rOK_jumps h (hW.2.2.2.1 (Or.inl ‹op = nI 8›)))
    refine z_ite (P := rOK B) (fun _ => ?_) (fun _ => ?_)
    · exact z_ite (P := rOK B) (fun _ => rOK_jumps h (hW.2.2.2.1 (Or.inr ‹op = nI 9›))) (fun _ => rOK_jumps h (hW.2.2.2.1 (Or.inr ‹op = nI 9›)))
    refine z_ite (P := rOK B) (fun _ => ?_) (fun _ => ?_)
    · exact rOK_0 h (by decide)
    exact rOK_0 h (by decide)
theorem rOK_18 {B : Nat} {N : zM} {x : Int32} (h : rOK B N) (hx : zIn x 17) : rOK B (zu N 18 1 x) := by
  refine ⟨h.1, h.2.1, h.2.2.1, h.2.2.2.1, h.2.2.2.2.1, h.2.2.2.2.2.1, ?_⟩
  rw [zu_s]
  exact hx
theorem rOK_traces_lp {B : Nat} (a b : Int32) : ∀ (n k : Nat) (N : zM), rOK B N → rOK B (hN_X7_traces_lp a b n k N) := by
  intro n
  induction n with
  | zero =>
    intro k N h
    have h3 : ∀ x y z, rOK B (zu (zu (zu N 19 0 x) 19 1 y) 19 2 z) := fun x y z => rOK_u (rOK_u (rOK_u h (by decide) (by decide) (by decide) (by decide) (by decide) (by decide) (by decide) (by decide) (by decide)) (by decide) (by decide) (by decide) (by decide) (by decide) (by decide) (by decide) (by decide) (by decide)) (by decide) (by decide) (by decide) (by decide) (by decide) (by decide) (by decide) (by decide) (by decide)
    simp only [hN_X7_traces_lp]
    split
    · refine rOK_18 (h3 _ _ _) ?_
      show zIn (N 18 1 + nI 0) 17
      rw [show N 18 1 + nI 0 = N 18 1 from Int32.add_zero _]
      exact h.2.2.2.2.2.2
    · rename_i hc
      refine rOK_18 (h3 _ _ _) ?_
      have e1 : zIn (N 18 1) 17 := h.2.2.2.2.2.2
      have e2 : ¬ nI 16 ≤ N 18 1 := hc
      have e3 : ¬ 16 ≤ zc (N 18 1) := fun q => e2 (by rw [e1.2]; exact nI_le q (by have h9 := e1.1; omega))
      show zIn (N 18 1 + nI 1) 17
      rw [e1.2, nI_add]
      exact zIn_nI (by omega) (by decide)
  | succ n ih =>
    intro k N h
    simp only [hN_X7_traces_lp]
    exact ih _ _ (rOK_u h (by decide) (by decide) (by decide) (by decide) (by decide) (by decide) (by decide) (by decide) (by decide))
theorem rOK_traces {B : Nat} {a b : Int32} {N : zM} (h : rOK B N) : rOK B (hN_X7_traces a b N) := rOK_traces_lp a b _ _ _ h
theorem rOK_executes {B : Nat} {N : zM} {t : Nat} (h : rOK B N) (ht : t < 4) : rOK B (hN_X7_executes t N) := by
  unfold hN_X7_executes
  have h1 : rOK B (hN_X7_traces (nI t) (nI (zc (N 1 t))) N) := rOK_traces h
  split
  · exact rOK_0 h1 (by decide)
  · rename_i hc
    have b1 := (h.2.2.1 t ht).1
    have b2 : zc (N 1 t) < 48 := Nat.lt_of_le_of_ne (by omega) (fun e => hc (by rw [e]))
    have h2 := rOK_1 (t := t) h1 (zIn_nI (show zc (N 1 t) + 1 < 49 by omega) (by decide))
    exact rOK_does h2 (h2.2.2.2.2.2.1 _ b2)

def hN_X7_cycles_lp  : Nat → Int32 → Int32 → Nat → zM → zM
  | 0, own, iss, i, N => if iss = (-1) then zu (zu N 17 0 ((N 17 0) + (nI 1))) 16 0 (((zu N 17 0 ((N 17 0) + (nI 1))) 16 0) + (nI 1)) else if iss = own then zu (hN_X7_executes (zc iss) (zu (zu (zu N 5 (zc iss) (N 16 0)) 6 (zc iss) (((zu N 5 (zc iss) (N 16 0)) 6 (zc iss)) + (nI 1))) 7 (zc iss) (((zu (zu N 5 (zc iss) (N 16 0)) 6 (zc iss) (((zu N 5 (zc iss) (N 16 0)) 6 (zc iss)) + (nI 1))) 7 (zc iss)) + (nI 0)))) 16 0 (((hN_X7_executes (zc iss) (zu (zu (zu N 5 (zc iss) (N 16 0)) 6 (zc iss) (((zu N 5 (zc iss) (N 16 0)) 6 (zc iss)) + (nI 1))) 7 (zc iss) (((zu (zu N 5 (zc iss) (N 16 0)) 6 (zc iss) (((zu N 5 (zc iss) (N 16 0)) 6 (zc iss)) + (nI 1))) 7 (zc iss)) + (nI 0)))) 16 0) + (nI 1)) else zu (hN_X7_executes (zc iss) (zu (zu (zu N 5 (zc iss) (N 16 0)) 6 (zc iss) (((zu N 5 (zc iss) (N 16 0)) 6 (zc iss)) + (nI 1))) 7 (zc iss) (((zu (zu N 5 (zc iss) (N 16 0)) 6 (zc iss) (((zu N 5 (zc iss) (N 16 0)) 6 (zc iss)) + (nI 1))) 7 (zc iss)) + (nI 1)))) 16 0 (((hN_X7_executes (zc iss) (zu (zu (zu N 5 (zc iss) (N 16 0)) 6 (zc iss) (((zu N 5 (zc iss) (N 16 0)) 6 (zc iss)) + (nI 1))) 7 (zc iss) (((zu (zu N 5 (zc iss) (N 16 0)) 6 (zc iss) (((zu N 5 (zc iss) (N 16 0)) 6 (zc iss)) + (nI 1))) 7 (zc iss)) + (nI 1)))) 16 0) + (nI 1))
  | n + 1, own, iss, i, N => if (g_X7_isReady i N) = 0 then if ((zu N 8 i (nI 0)) 8 i) ≤ ((zu N 8 i (nI 0)) 9 i) then hN_X7_cycles_lp n own iss (i + 1) (zu (zu N 8 i (nI 0)) 9 i ((zu N 8 i (nI 0)) 9 i)) else hN_X7_cycles_lp n own iss (i + 1) (zu (zu N 8 i (nI 0)) 9 i ((zu N 8 i (nI 0)) 8 i)) else if (nI i) = iss then if ((zu N 8 i (nI 0)) 8 i) ≤ ((zu N 8 i (nI 0)) 9 i) then hN_X7_cycles_lp n own iss (i + 1) (zu (zu N 8 i (nI 0)) 9 i ((zu N 8 i (nI 0)) 9 i)) else hN_X7_cycles_lp n own iss (i + 1) (zu (zu N 8 i (nI 0)) 9 i ((zu N 8 i (nI 0)) 8 i)) else if ((zu N 8 i ((N 8 i) + (nI 1))) 8 i) ≤ ((zu N 8 i ((N 8 i) + (nI 1))) 9 i) then hN_X7_cycles_lp n own iss (i + 1) (zu (zu N 8 i ((N 8 i) + (nI 1))) 9 i ((zu N 8 i ((N 8 i) + (nI 1))) 9 i)) else hN_X7_cycles_lp n own iss (i + 1) (zu (zu N 8 i ((N 8 i) + (nI 1))) 9 i ((zu N 8 i ((N 8 i) + (nI 1))) 8 i))
def hN_X7_cycles  (N : zM) : zM := hN_X7_cycles_lp 4 ((hN_X7_prepares N) 14 ((zc ((hN_X7_prepares N) 16 0)) % 8)) (g_X7_issuing (hN_X7_prepares N)) 0 (hN_X7_prepares N)
set_option maxHeartbeats 4000000 in
set_option maxRecDepth 100000 in
theorem ct_X7_cycles (l : Launch) (D : va_G) (a : Nat → Nat) (cI : ClassId) (hJ : mJ a) (N A P X : zM) (B : Nat) (hI : rOK B N) : mCv l yX7_cycles wsX7_cycles ({ frames := 4, cells := 0, slots := 0, locals := 92 } : Room) D a cI [.ref (a 0)] (N, A, P, X) (hN_X7_cycles N, A, P, X) := by
  have hiX7 : ∀ w ∈ wsX70, w ∈ wsX7_cycles := by decide +kernel
  refine m_ofv (cc := cX7_cycles) (maxL := 4) (own := RX7) (by decide) rfl (Nat.le_of_ble_eq_true rfl) rfl (fun p e s m below meth c ls hx hb hr hml hts hown hlk hl hK hP hS => ?_)
  have hl : lv_has ls 4 [(0, .ref (a 0))] := hl
  have hJ1 := rOK_prepares hI
  have lp32 : ∀ (n : Nat) (own : Int32) (iss : Int32) (i : Nat) (N : zM) (H : Heap) (locs : List Loc) (ls : Array Slot) (hn : i + n = 4) (hI : rOK B N) (hF : iss = -1 ∨ zIn iss 4) (hl : lv_has ls 4 [(0, .ref (a 0)), (1, .int own), (2, .int iss), (3, .int (nI i))]) (hP : va_P D vwCl (mW a cI (N, A, P, X)) H) (hS : va_S (mA a) s.heap H locs), W p l e ({ frames := 4, cells := 0, slots := 0, locals := 92 } : Room) s m ([.ref (a 0)] : List Value).toArray below meth c H locs 0 0 (mQv below D a cI [.ref (a 0)] s (hN_X7_cycles_lp n own iss i N, A, P, X)) (F0 m 32 ls []) := by
    intro n
    induction n with
    | zero =>
      intro own iss i N H locs ls hn hI hF hl hP hS
      refine lv_iload_n hx hb dX7_cycles_32 rfl (lv_at hl 3 rfl) ?_
      refine lv_iconst (v := nI 4) hx hb dX7_cycles_33 (by decide) ?_
      refine lv_icmp_ge (tgt := 145) hx hb dX7_cycles_34 (by decide) (fun c34_1 => ?_) (fun c34_1 => absurd (nI_le (by omega) (by omega)) c34_1)
      refine lv_iload_n hx hb dX7_cycles_145 rfl (lv_at hl 2 rfl) ?_
      refine lv_iconst (v := (-1)) hx hb dX7_cycles_146 (by decide) ?_
      refine lv_icmp_ne (tgt := 165) hx hb dX7_cycles_147 (by decide) (fun c147_2 => ?_) (fun c147_2 => ?_)
      · have b9 := (hF.resolve_left c147_2).1
        refine lv_aload_n hx hb dX7_cycles_165 rfl (lv_at hl 0 rfl) ?_
        refine mgO0 hx hb hts hiX7 hown hK hP (hts (.fieldLink RX7 7 "BarrelProcessorModel" "s" "[I") (by decide +kernel)) dX7_cycles_166 ?_
        refine lv_iload_n hx hb dX7_cycles_169 rfl (lv_at hl 2 rfl) ?_
        refine z_val (z := nI (zc iss)) (hF.resolve_left ‹¬ iss = -1›).2 ?_
        refine lv_bipush (v := nI 9) hx hb dX7_cycles_170 (by decide) ?_
        refine m_cSi (As := [.int (nI (zc iss)), .int (nI 9)]) (rest := [.ref (a 1)]) ⟨hx, hb, hml, hown, hts⟩ (ct_X7_at l D a cI hJ N A P X (nI (zc iss)) (nI 9)) (va_cwS 2 hts gX7_cycles_X7_at rfl rfl rfl (by decide +kernel) ⟨Nat.le_of_ble_eq_true rfl, Nat.le_of_ble_eq_true rfl⟩) hK hP hS rfl hl.1 rfl (Nat.le_of_ble_eq_true rfl) dX7_cycles_172 ⟨Nat.zero_le _, Nat.zero_le _⟩ (fun H locs hP hS => ?_)
        refine z_val (z := nI (14 * (zc iss) + 9)) (z_at _ _) ?_
        refine lv_aload_n hx hb dX7_cycles_175 rfl (lv_at hl 0 rfl) ?_
        refine mgO0 hx hb hts hiX7 hown hK hP (hts (.fieldLink RX7 7 "BarrelProcessorModel" "s" "[I") (by decide +kernel)) dX7_cycles_176 ?_
        refine lv_sipush (v := nI 232) hx hb dX7_cycles_179 (by decide) ?_
        refine m_iald hx hb hK hP mG_s (j := 232) (by omega) (by decide) dX7_cycles_182 ?_
        refine z_val (z := N 16 0) (zen_of zf_232) ?_
        refine m_iast (Z' := (zu N 5 (zc iss) (N 16 0), A, P, X)) hx hb hK hP hJ hS mG_s (j := 14 * (zc iss) + 9) (by omega) (by decide) dX7_cycles_183 (mS_s (zf_t9 (by omega))) (fun H locs hP hS => ?_)
        refine lv_aload_n hx hb dX7_cycles_184 rfl (lv_at hl 0 rfl) ?_
        refine mgO0 hx hb hts hiX7 hown hK hP (hts (.fieldLink RX7 7 "BarrelProcessorModel" "s" "[I") (by decide +kernel)) dX7_cycles_185 ?_
        refine lv_iload_n hx hb dX7_cycles_188 rfl (lv_at hl 2 rfl) ?_
        refine z_val (z := nI (zc iss)) (hF.resolve_left ‹¬ iss = -1›).2 ?_
        refine lv_bipush (v := nI 12) hx hb dX7_cycles_189 (by decide) ?_
        refine m_cSi (As := [.int (nI (zc iss)), .int (nI 12)]) (rest := [.ref (a 1)]) ⟨hx, hb, hml, hown, hts⟩ (ct_X7_at l D a cI hJ (zu N 5 (zc iss) (N 16 0)) A P X (nI (zc iss)) (nI 12)) (va_cwS 2 hts gX7_cycles_X7_at rfl rfl rfl (by decide +kernel) ⟨Nat.le_of_ble_eq_true rfl, Nat.le_of_ble_eq_true rfl⟩) hK hP hS rfl hl.1 rfl (Nat.le_of_ble_eq_true rfl) dX7_cycles_191 ⟨Nat.zero_le _, Nat.zero_le _⟩ (fun H locs hP hS => ?_)
        refine z_val (z := nI (14 * (zc iss) + 12)) (z_at _ _) ?_
        refine lv_dup2_11 hx hb dX7_cycles_194 rfl rfl ?_
        refine m_iald hx hb hK hP mG_s (j := 14 * (zc iss) + 12) (by omega) (by decide) dX7_cycles_195 ?_
        refine z_val (z := (zu N 5 (zc iss) (N 16 0)) 6 (zc iss)) (zen_of (zf_t12 (by omega))) ?_
        refine lv_iconst (v := nI 1) hx hb dX7_cycles_196 (by decide) ?_
        refine lv_iadd hx hb dX7_cycles_197 ?_
        refine m_iast (Z' := (zu (zu N 5 (zc iss) (N 16 0)) 6 (zc iss) (((zu N 5 (zc iss) (N 16 0)) 6 (zc iss)) + (nI 1)), A, P, X)) hx hb hK hP hJ hS mG_s (j := 14 * (zc iss) + 12) (by omega) (by decide) dX7_cycles_198 (mS_s (zf_t12 (by omega))) (fun H locs hP hS => ?_)
        refine lv_aload_n hx hb dX7_cycles_199 rfl (lv_at hl 0 rfl) ?_
        refine mgO0 hx hb hts hiX7 hown hK hP (hts (.fieldLink RX7 7 "BarrelProcessorModel" "s" "[I") (by decide +kernel)) dX7_cycles_200 ?_
        refine lv_iload_n hx hb dX7_cycles_203 rfl (lv_at hl 2 rfl) ?_
        refine z_val (z := nI (zc iss)) (hF.resolve_left ‹¬ iss = -1›).2 ?_
        refine lv_bipush (v := nI 13) hx hb dX7_cycles_204 (by decide) ?_
        refine m_cSi (As := [.int (nI (zc iss)), .int (nI 13)]) (rest := [.ref (a 1)]) ⟨hx, hb, hml, hown, hts⟩ (ct_X7_at l D a cI hJ (zu (zu N 5 (zc iss) (N 16 0)) 6 (zc iss) (((zu N 5 (zc iss) (N 16 0)) 6 (zc iss)) + (nI 1))) A P X (nI (zc iss)) (nI 13)) (va_cwS 2 hts gX7_cycles_X7_at rfl rfl rfl (by decide +kernel) ⟨Nat.le_of_ble_eq_true rfl, Nat.le_of_ble_eq_true rfl⟩) hK hP hS rfl hl.1 rfl (Nat.le_of_ble_eq_true rfl) dX7_cycles_206 ⟨Nat.zero_le _, Nat.zero_le _⟩ (fun H locs hP hS => ?_)
        refine z_val (z := nI (14 * (zc iss) + 13)) (z_at _ _) ?_
        refine lv_dup2_11 hx hb dX7_cycles_209 rfl rfl ?_
        refine m_iald hx hb hK hP mG_s (j := 14 * (zc iss) + 13) (by omega) (by decide) dX7_cycles_210 ?_
        refine z_val (z := (zu (zu N 5 (zc iss) (N 16 0)) 6 (zc iss) (((zu N 5 (zc iss) (N 16 0)) 6 (zc iss)) + (nI 1))) 7 (zc iss)) (zen_of (zf_t13 (by omega))) ?_
        refine lv_iload_n hx hb dX7_cycles_211 rfl (lv_at hl 2 rfl) ?_
        refine lv_iload_n hx hb dX7_cycles_212 rfl (lv_at hl 1 rfl) ?_
        refine lv_icmp_ne (tgt := 220) hx hb dX7_cycles_213 (by decide) (fun c213_3 => ?_) (fun c213_3 => ?_)
        · refine lv_iconst (v := nI 1) hx hb dX7_cycles_220 (by decide) ?_
          refine lv_iadd hx hb dX7_cycles_221 ?_
          refine m_iast (Z' := (zu (zu (zu N 5 (zc iss) (N 16 0)) 6 (zc iss) (((zu N 5 (zc iss) (N 16 0)) 6 (zc iss)) + (nI 1))) 7 (zc iss) (((zu (zu N 5 (zc iss) (N 16 0)) 6 (zc iss) (((zu N 5 (zc iss) (N 16 0)) 6 (zc iss)) + (nI 1))) 7 (zc iss)) + (nI 1)), A, P, X)) hx hb hK hP hJ hS mG_s (j := 14 * (zc iss) + 13) (by omega) (by decide) dX7_cycles_222 (mS_s (zf_t13 (by omega))) (fun H locs hP hS => ?_)
          refine lv_aload_n hx hb dX7_cycles_223 rfl (lv_at hl 0 rfl) ?_
          refine lv_iload_n hx hb dX7_cycles_224 rfl (lv_at hl 2 rfl) ?_
          refine z_val (z := nI (zc iss)) (hF.resolve_left ‹¬ iss = -1›).2 ?_
          refine m_cVv (As := [.int (nI (zc iss))]) (rest := []) ⟨hx, hb, hml, hown, hts⟩ (ct_X7_executes l D a cI hJ (zu (zu (zu N 5 (zc iss) (N 16 0)) 6 (zc iss) (((zu N 5 (zc iss) (N 16 0)) 6 (zc iss)) + (nI 1))) 7 (zc iss) (((zu (zu N 5 (zc iss) (N 16 0)) 6 (zc iss) (((zu N 5 (zc iss) (N 16 0)) 6 (zc iss)) + (nI 1))) 7 (zc iss)) + (nI 1))) A P X (zc iss) b9 _ (rOK_u (rOK_u (rOK_u hI (by decide) (by decide) (by decide) (by decide) (by decide) (by decide) (by decide) (by decide) (by decide)) (by decide) (by decide) (by decide) (by decide) (by decide) (by decide) (by decide) (by decide) (by decide)) (by decide) (by decide) (by decide) (by decide) (by decide) (by decide) (by decide) (by decide) (by decide))) (cwV 1 hts gX7_cycles_X7_executes rfl rfl rfl (by decide +kernel) ⟨Nat.le_of_ble_eq_true rfl, Nat.le_of_ble_eq_true rfl⟩) hK hP hS (va_recv (ci := 7) hK hP rfl mG_O) rfl hl.1 rfl (Nat.le_of_ble_eq_true rfl) dX7_cycles_225 ⟨Nat.zero_le _, Nat.zero_le _⟩ (fun H locs hP hS => ?_)
          refine lv_aload_n hx hb dX7_cycles_228 rfl (lv_at hl 0 rfl) ?_
          refine mgO0 hx hb hts hiX7 hown hK hP (hts (.fieldLink RX7 7 "BarrelProcessorModel" "s" "[I") (by decide +kernel)) dX7_cycles_229 ?_
          refine lv_sipush (v := nI 232) hx hb dX7_cycles_232 (by decide) ?_
          refine lv_dup2_11 hx hb dX7_cycles_235 rfl rfl ?_
          refine m_iald hx hb hK hP mG_s (j := 232) (by omega) (by decide) dX7_cycles_236 ?_
          refine z_val (z := (hN_X7_executes (zc iss) (zu (zu (zu N 5 (zc iss) (N 16 0)) 6 (zc iss) (((zu N 5 (zc iss) (N 16 0)) 6 (zc iss)) + (nI 1))) 7 (zc iss) (((zu (zu N 5 (zc iss) (N 16 0)) 6 (zc iss) (((zu N 5 (zc iss) (N 16 0)) 6 (zc iss)) + (nI 1))) 7 (zc iss)) + (nI 1)))) 16 0) (zen_of zf_232) ?_
          refine lv_iconst (v := nI 1) hx hb dX7_cycles_237 (by decide) ?_
          refine lv_iadd hx hb dX7_cycles_238 ?_
          refine m_iast (Z' := (zu (hN_X7_executes (zc iss) (zu (zu (zu N 5 (zc iss) (N 16 0)) 6 (zc iss) (((zu N 5 (zc iss) (N 16 0)) 6 (zc iss)) + (nI 1))) 7 (zc iss) (((zu (zu N 5 (zc iss) (N 16 0)) 6 (zc iss) (((zu N 5 (zc iss) (N 16 0)) 6 (zc iss)) + (nI 1))) 7 (zc iss)) + (nI 1)))) 16 0 (((hN_X7_executes (zc iss) (zu (zu (zu N 5 (zc iss) (N 16 0)) 6 (zc iss) (((zu N 5 (zc iss) (N 16 0)) 6 (zc iss)) + (nI 1))) 7 (zc iss) (((zu (zu N 5 (zc iss) (N 16 0)) 6 (zc iss) (((zu N 5 (zc iss) (N 16 0)) 6 (zc iss)) + (nI 1))) 7 (zc iss)) + (nI 1)))) 16 0) + (nI 1)), A, P, X)) hx hb hK hP hJ hS mG_s (j := 232) (by omega) (by decide) dX7_cycles_239 (mS_s zf_232) (fun H locs hP hS => ?_)
          exact m_retv hx hb hr hlk hP hS dX7_cycles_240 (m_eq (by simp only [hN_X7_cycles_lp, if_neg c147_2, if_neg c213_3]) rfl rfl rfl)
        · refine lv_iconst (v := nI 0) hx hb dX7_cycles_216 (by decide) ?_
          refine lv_goto (tgt := 221) hx hb dX7_cycles_217 (by decide) ?_
          refine lv_iadd hx hb dX7_cycles_221 ?_
          refine m_iast (Z' := (zu (zu (zu N 5 (zc iss) (N 16 0)) 6 (zc iss) (((zu N 5 (zc iss) (N 16 0)) 6 (zc iss)) + (nI 1))) 7 (zc iss) (((zu (zu N 5 (zc iss) (N 16 0)) 6 (zc iss) (((zu N 5 (zc iss) (N 16 0)) 6 (zc iss)) + (nI 1))) 7 (zc iss)) + (nI 0)), A, P, X)) hx hb hK hP hJ hS mG_s (j := 14 * (zc iss) + 13) (by omega) (by decide) dX7_cycles_222 (mS_s (zf_t13 (by omega))) (fun H locs hP hS => ?_)
          refine lv_aload_n hx hb dX7_cycles_223 rfl (lv_at hl 0 rfl) ?_
          refine lv_iload_n hx hb dX7_cycles_224 rfl (lv_at hl 2 rfl) ?_
          refine z_val (z := nI (zc iss)) (hF.resolve_left ‹¬ iss = -1›).2 ?_
          refine m_cVv (As := [.int (nI (zc iss))]) (rest := []) ⟨hx, hb, hml, hown, hts⟩ (ct_X7_executes l D a cI hJ (zu (zu (zu N 5 (zc iss) (N 16 0)) 6 (zc iss) (((zu N 5 (zc iss) (N 16 0)) 6 (zc iss)) + (nI 1))) 7 (zc iss) (((zu (zu N 5 (zc iss) (N 16 0)) 6 (zc iss) (((zu N 5 (zc iss) (N 16 0)) 6 (zc iss)) + (nI 1))) 7 (zc iss)) + (nI 0))) A P X (zc iss) b9 _ (rOK_u (rOK_u (rOK_u hI (by decide) (by decide) (by decide) (by decide) (by decide) (by decide) (by decide) (by decide) (by decide)) (by decide) (by decide) (by decide) (by decide) (by decide) (by decide) (by decide) (by decide) (by decide)) (by decide) (by decide) (by decide) (by decide) (by decide) (by decide) (by decide) (by decide) (by decide))) (cwV 1 hts gX7_cycles_X7_executes rfl rfl rfl (by decide +kernel) ⟨Nat.le_of_ble_eq_true rfl, Nat.le_of_ble_eq_true rfl⟩) hK hP hS (va_recv (ci := 7) hK hP rfl mG_O) rfl hl.1 rfl (Nat.le_of_ble_eq_true rfl) dX7_cycles_225 ⟨Nat.zero_le _, Nat.zero_le _⟩ (fun H locs hP hS => ?_)
          refine lv_aload_n hx hb dX7_cycles_228 rfl (lv_at hl 0 rfl) ?_
          refine mgO0 hx hb hts hiX7 hown hK hP (hts (.fieldLink RX7 7 "BarrelProcessorModel" "s" "[I") (by decide +kernel)) dX7_cycles_229 ?_
          refine lv_sipush (v := nI 232) hx hb dX7_cycles_232 (by decide) ?_
          refine lv_dup2_11 hx hb dX7_cycles_235 rfl rfl ?_
          refine m_iald hx hb hK hP mG_s (j := 232) (by omega) (by decide) dX7_cycles_236 ?_
          refine z_val (z := (hN_X7_executes (zc iss) (zu (zu (zu N 5 (zc iss) (N 16 0)) 6 (zc iss) (((zu N 5 (zc iss) (N 16 0)) 6 (zc iss)) + (nI 1))) 7 (zc iss) (((zu (zu N 5 (zc iss) (N 16 0)) 6 (zc iss) (((zu N 5 (zc iss) (N 16 0)) 6 (zc iss)) + (nI 1))) 7 (zc iss)) + (nI 0)))) 16 0) (zen_of zf_232) ?_
          refine lv_iconst (v := nI 1) hx hb dX7_cycles_237 (by decide) ?_
          refine lv_iadd hx hb dX7_cycles_238 ?_
          refine m_iast (Z' := (zu (hN_X7_executes (zc iss) (zu (zu (zu N 5 (zc iss) (N 16 0)) 6 (zc iss) (((zu N 5 (zc iss) (N 16 0)) 6 (zc iss)) + (nI 1))) 7 (zc iss) (((zu (zu N 5 (zc iss) (N 16 0)) 6 (zc iss) (((zu N 5 (zc iss) (N 16 0)) 6 (zc iss)) + (nI 1))) 7 (zc iss)) + (nI 0)))) 16 0 (((hN_X7_executes (zc iss) (zu (zu (zu N 5 (zc iss) (N 16 0)) 6 (zc iss) (((zu N 5 (zc iss) (N 16 0)) 6 (zc iss)) + (nI 1))) 7 (zc iss) (((zu (zu N 5 (zc iss) (N 16 0)) 6 (zc iss) (((zu N 5 (zc iss) (N 16 0)) 6 (zc iss)) + (nI 1))) 7 (zc iss)) + (nI 0)))) 16 0) + (nI 1)), A, P, X)) hx hb hK hP hJ hS mG_s (j := 232) (by omega) (by decide) dX7_cycles_239 (mS_s zf_232) (fun H locs hP hS => ?_)
          exact m_retv hx hb hr hlk hP hS dX7_cycles_240 (m_eq (by simp only [hN_X7_cycles_lp, if_neg c147_2, if_pos c213_3]) rfl rfl rfl)
      · refine lv_aload_n hx hb dX7_cycles_150 rfl (lv_at hl 0 rfl) ?_
        refine mgO0 hx hb hts hiX7 hown hK hP (hts (.fieldLink RX7 7 "BarrelProcessorModel" "s" "[I") (by decide +kernel)) dX7_cycles_151 ?_
        refine lv_sipush (v := nI 233) hx hb dX7_cycles_154 (by decide) ?_
        refine lv_dup2_11 hx hb dX7_cycles_157 rfl rfl ?_
        refine m_iald hx hb hK hP mG_s (j := 233) (by omega) (by decide) dX7_cycles_158 ?_
        refine z_val (z := N 17 0) (zen_of zf_233) ?_
        refine lv_iconst (v := nI 1) hx hb dX7_cycles_159 (by decide) ?_
        refine lv_iadd hx hb dX7_cycles_160 ?_
        refine m_iast (Z' := (zu N 17 0 ((N 17 0) + (nI 1)), A, P, X)) hx hb hK hP hJ hS mG_s (j := 233) (by omega) (by decide) dX7_cycles_161 (mS_s zf_233) (fun H locs hP hS => ?_)
        refine lv_goto (tgt := 228) hx hb dX7_cycles_162 (by decide) ?_
        refine lv_aload_n hx hb dX7_cycles_228 rfl (lv_at hl 0 rfl) ?_
        refine mgO0 hx hb hts hiX7 hown hK hP (hts (.fieldLink RX7 7 "BarrelProcessorModel" "s" "[I") (by decide +kernel)) dX7_cycles_229 ?_
        refine lv_sipush (v := nI 232) hx hb dX7_cycles_232 (by decide) ?_
        refine lv_dup2_11 hx hb dX7_cycles_235 rfl rfl ?_
        refine m_iald hx hb hK hP mG_s (j := 232) (by omega) (by decide) dX7_cycles_236 ?_
        refine z_val (z := (zu N 17 0 ((N 17 0) + (nI 1))) 16 0) (zen_of zf_232) ?_
        refine lv_iconst (v := nI 1) hx hb dX7_cycles_237 (by decide) ?_
        refine lv_iadd hx hb dX7_cycles_238 ?_
        refine m_iast (Z' := (zu (zu N 17 0 ((N 17 0) + (nI 1))) 16 0 (((zu N 17 0 ((N 17 0) + (nI 1))) 16 0) + (nI 1)), A, P, X)) hx hb hK hP hJ hS mG_s (j := 232) (by omega) (by decide) dX7_cycles_239 (mS_s zf_232) (fun H locs hP hS => ?_)
        exact m_retv hx hb hr hlk hP hS dX7_cycles_240 (m_eq (by simp only [hN_X7_cycles_lp, if_pos c147_2]) rfl rfl rfl)
    | succ n ih =>
      intro own iss i N H locs ls hn hI hF hl hP hS
      refine lv_iload_n hx hb dX7_cycles_32 rfl (lv_at hl 3 rfl) ?_
      refine lv_iconst (v := nI 4) hx hb dX7_cycles_33 (by decide) ?_
      refine lv_icmp_ge (tgt := 145) hx hb dX7_cycles_34 (by decide) (fun c34_4 => absurd c34_4 (nI_ge (by omega) (by decide))) (fun c34_4 => ?_)
      refine lv_aload_n hx hb dX7_cycles_37 rfl (lv_at hl 0 rfl) ?_
      refine mgO0 hx hb hts hiX7 hown hK hP (hts (.fieldLink RX7 7 "BarrelProcessorModel" "s" "[I") (by decide +kernel)) dX7_cycles_38 ?_
      refine lv_iload_n hx hb dX7_cycles_41 rfl (lv_at hl 3 rfl) ?_
      refine lv_bipush (v := nI 10) hx hb dX7_cycles_42 (by decide) ?_
      refine m_cSi (As := [.int (nI i), .int (nI 10)]) (rest := [.ref (a 1)]) ⟨hx, hb, hml, hown, hts⟩ (ct_X7_at l D a cI hJ N A P X (nI i) (nI 10)) (va_cwS 2 hts gX7_cycles_X7_at rfl rfl rfl (by decide +kernel) ⟨Nat.le_of_ble_eq_true rfl, Nat.le_of_ble_eq_true rfl⟩) hK hP hS rfl hl.1 rfl (Nat.le_of_ble_eq_true rfl) dX7_cycles_44 ⟨Nat.zero_le _, Nat.zero_le _⟩ (fun H locs hP hS => ?_)
      refine z_val (z := nI (14 * i + 10)) (z_at _ _) ?_
      refine lv_aload_n hx hb dX7_cycles_47 rfl (lv_at hl 0 rfl) ?_
      refine lv_iload_n hx hb dX7_cycles_48 rfl (lv_at hl 3 rfl) ?_
      refine m_cVi (As := [.int (nI i)]) (rest := [.int (nI (14 * i + 10)), .ref (a 1)]) ⟨hx, hb, hml, hown, hts⟩ (ct_X7_isReady l D a cI hJ N A P X i (by omega)) (cwV 1 hts gX7_cycles_X7_isReady rfl rfl rfl (by decide +kernel) ⟨Nat.le_of_ble_eq_true rfl, Nat.le_of_ble_eq_true rfl⟩) hK hP hS (va_recv (ci := 7) hK hP rfl mG_O) rfl hl.1 rfl (Nat.le_of_ble_eq_true rfl) dX7_cycles_49 ⟨Nat.zero_le _, Nat.zero_le _⟩ (fun H locs hP hS => ?_)
      refine lv_if_eq (tgt := 76) hx hb dX7_cycles_52 (by decide) (fun c52_5 => ?_) (fun c52_5 => ?_)
      · refine lv_iconst (v := nI 0) hx hb dX7_cycles_76 (by decide) ?_
        refine m_iast (Z' := (zu N 8 i (nI 0), A, P, X)) hx hb hK hP hJ hS mG_s (j := 14 * i + 10) (by omega) (by decide) dX7_cycles_77 (mS_s (zf_t10 (by omega))) (fun H locs hP hS => ?_)
        refine lv_aload_n hx hb dX7_cycles_78 rfl (lv_at hl 0 rfl) ?_
        refine mgO0 hx hb hts hiX7 hown hK hP (hts (.fieldLink RX7 7 "BarrelProcessorModel" "s" "[I") (by decide +kernel)) dX7_cycles_79 ?_
        refine lv_iload_n hx hb dX7_cycles_82 rfl (lv_at hl 3 rfl) ?_
        refine lv_bipush (v := nI 11) hx hb dX7_cycles_83 (by decide) ?_
        refine m_cSi (As := [.int (nI i), .int (nI 11)]) (rest := [.ref (a 1)]) ⟨hx, hb, hml, hown, hts⟩ (ct_X7_at l D a cI hJ (zu N 8 i (nI 0)) A P X (nI i) (nI 11)) (va_cwS 2 hts gX7_cycles_X7_at rfl rfl rfl (by decide +kernel) ⟨Nat.le_of_ble_eq_true rfl, Nat.le_of_ble_eq_true rfl⟩) hK hP hS rfl hl.1 rfl (Nat.le_of_ble_eq_true rfl) dX7_cycles_85 ⟨Nat.zero_le _, Nat.zero_le _⟩ (fun H locs hP hS => ?_)
        refine z_val (z := nI (14 * i + 11)) (z_at _ _) ?_
        refine lv_aload_n hx hb dX7_cycles_88 rfl (lv_at hl 0 rfl) ?_
        refine mgO0 hx hb hts hiX7 hown hK hP (hts (.fieldLink RX7 7 "BarrelProcessorModel" "s" "[I") (by decide +kernel)) dX7_cycles_89 ?_
        refine lv_iload_n hx hb dX7_cycles_92 rfl (lv_at hl 3 rfl) ?_
        refine lv_bipush (v := nI 10) hx hb dX7_cycles_93 (by decide) ?_
        refine m_cSi (As := [.int (nI i), .int (nI 10)]) (rest := [.ref (a 1), .int (nI (14 * i + 11)), .ref (a 1)]) ⟨hx, hb, hml, hown, hts⟩ (ct_X7_at l D a cI hJ (zu N 8 i (nI 0)) A P X (nI i) (nI 10)) (va_cwS 2 hts gX7_cycles_X7_at rfl rfl rfl (by decide +kernel) ⟨Nat.le_of_ble_eq_true rfl, Nat.le_of_ble_eq_true rfl⟩) hK hP hS rfl hl.1 rfl (Nat.le_of_ble_eq_true rfl) dX7_cycles_95 ⟨Nat.zero_le _, Nat.zero_le _⟩ (fun H locs hP hS => ?_)
        refine z_val (z := nI (14 * i + 10)) (z_at _ _) ?_
        refine m_iald hx hb hK hP mG_s (j := 14 * i + 10) (by omega) (by decide) dX7_cycles_98 ?_
        refine z_val (z := (zu N 8 i (nI 0)) 8 i) (zen_of (zf_t10 (by omega))) ?_
        refine lv_aload_n hx hb dX7_cycles_99 rfl (lv_at hl 0 rfl) ?_
        refine mgO0 hx hb hts hiX7 hown hK hP (hts (.fieldLink RX7 7 "BarrelProcessorModel" "s" "[I") (by decide +kernel)) dX7_cycles_100 ?_
        refine lv_iload_n hx hb dX7_cycles_103 rfl (lv_at hl 3 rfl) ?_
        refine lv_bipush (v := nI 11) hx hb dX7_cycles_104 (by decide) ?_
        refine m_cSi (As := [.int (nI i), .int (nI 11)]) (rest := [.ref (a 1), .int ((zu N 8 i (nI 0)) 8 i), .int (nI (14 * i + 11)), .ref (a 1)]) ⟨hx, hb, hml, hown, hts⟩ (ct_X7_at l D a cI hJ (zu N 8 i (nI 0)) A P X (nI i) (nI 11)) (va_cwS 2 hts gX7_cycles_X7_at rfl rfl rfl (by decide +kernel) ⟨Nat.le_of_ble_eq_true rfl, Nat.le_of_ble_eq_true rfl⟩) hK hP hS rfl hl.1 rfl (Nat.le_of_ble_eq_true rfl) dX7_cycles_106 ⟨Nat.zero_le _, Nat.zero_le _⟩ (fun H locs hP hS => ?_)
        refine z_val (z := nI (14 * i + 11)) (z_at _ _) ?_
        refine m_iald hx hb hK hP mG_s (j := 14 * i + 11) (by omega) (by decide) dX7_cycles_109 ?_
        refine z_val (z := (zu N 8 i (nI 0)) 9 i) (zen_of (zf_t11 (by omega))) ?_
        refine lv_icmp_le (tgt := 127) hx hb dX7_cycles_110 (by decide) (fun c110_6 => ?_) (fun c110_6 => ?_)
        · refine lv_aload_n hx hb dX7_cycles_127 rfl (lv_at hl 0 rfl) ?_
          refine mgO0 hx hb hts hiX7 hown hK hP (hts (.fieldLink RX7 7 "BarrelProcessorModel" "s" "[I") (by decide +kernel)) dX7_cycles_128 ?_
          refine lv_iload_n hx hb dX7_cycles_131 rfl (lv_at hl 3 rfl) ?_
          refine lv_bipush (v := nI 11) hx hb dX7_cycles_132 (by decide) ?_
          refine m_cSi (As := [.int (nI i), .int (nI 11)]) (rest := [.ref (a 1), .int (nI (14 * i + 11)), .ref (a 1)]) ⟨hx, hb, hml, hown, hts⟩ (ct_X7_at l D a cI hJ (zu N 8 i (nI 0)) A P X (nI i) (nI 11)) (va_cwS 2 hts gX7_cycles_X7_at rfl rfl rfl (by decide +kernel) ⟨Nat.le_of_ble_eq_true rfl, Nat.le_of_ble_eq_true rfl⟩) hK hP hS rfl hl.1 rfl (Nat.le_of_ble_eq_true rfl) dX7_cycles_134 ⟨Nat.zero_le _, Nat.zero_le _⟩ (fun H locs hP hS => ?_)
          refine z_val (z := nI (14 * i + 11)) (z_at _ _) ?_
          refine m_iald hx hb hK hP mG_s (j := 14 * i + 11) (by omega) (by decide) dX7_cycles_137 ?_
          refine z_val (z := (zu N 8 i (nI 0)) 9 i) (zen_of (zf_t11 (by omega))) ?_
          refine m_iast (Z' := (zu (zu N 8 i (nI 0)) 9 i ((zu N 8 i (nI 0)) 9 i), A, P, X)) hx hb hK hP hJ hS mG_s (j := 14 * i + 11) (by omega) (by decide) dX7_cycles_138 (mS_s (zf_t11 (by omega))) (fun H locs hP hS => ?_)
          refine lv_iinc (v := nI (i + 1)) (lv' := [(3, .int (nI (i + 1))), (0, .ref (a 0)), (1, .int own), (2, .int iss)]) hx hb dX7_cycles_139 hl (k := 3) rfl (nI_add _ _) (by decide) rfl (fun ls hl => ?_)
          refine lv_goto (tgt := 32) hx hb dX7_cycles_142 (by decide) ?_
          refine m_tov (Z2 := (hN_X7_cycles_lp n own iss (i + 1) (zu (zu N 8 i (nI 0)) 9 i ((zu N 8 i (nI 0)) 9 i)), A, P, X)) (m_eq (by simp only [hN_X7_cycles_lp, if_pos c52_5, if_pos c110_6]) rfl rfl rfl) ?_
          exact ih own iss (i + 1) (zu (zu N 8 i (nI 0)) 9 i ((zu N 8 i (nI 0)) 9 i)) _ _ _ (by omega) (rOK_u (rOK_u hI (by decide) (by decide) (by decide) (by decide) (by decide) (by decide) (by decide) (by decide) (by decide)) (by decide) (by decide) (by decide) (by decide) (by decide) (by decide) (by decide) (by decide) (by decide)) hF (lv_sub hl [1, 2, 3, 0] rfl) hP hS
        · refine lv_aload_n hx hb dX7_cycles_113 rfl (lv_at hl 0 rfl) ?_
          refine mgO0 hx hb hts hiX7 hown hK hP (hts (.fieldLink RX7 7 "BarrelProcessorModel" "s" "[I") (by decide +kernel)) dX7_cycles_114 ?_
          refine lv_iload_n hx hb dX7_cycles_117 rfl (lv_at hl 3 rfl) ?_
          refine lv_bipush (v := nI 10) hx hb dX7_cycles_118 (by decide) ?_
          refine m_cSi (As := [.int (nI i), .int (nI 10)]) (rest := [.ref (a 1), .int (nI (14 * i + 11)), .ref (a 1)]) ⟨hx, hb, hml, hown, hts⟩ (ct_X7_at l D a cI hJ (zu N 8 i (nI 0)) A P X (nI i) (nI 10)) (va_cwS 2 hts gX7_cycles_X7_at rfl rfl rfl (by decide +kernel) ⟨Nat.le_of_ble_eq_true rfl, Nat.le_of_ble_eq_true rfl⟩) hK hP hS rfl hl.1 rfl (Nat.le_of_ble_eq_true rfl) dX7_cycles_120 ⟨Nat.zero_le _, Nat.zero_le _⟩ (fun H locs hP hS => ?_)
          refine z_val (z := nI (14 * i + 10)) (z_at _ _) ?_
          refine m_iald hx hb hK hP mG_s (j := 14 * i + 10) (by omega) (by decide) dX7_cycles_123 ?_
          refine z_val (z := (zu N 8 i (nI 0)) 8 i) (zen_of (zf_t10 (by omega))) ?_
          refine lv_goto (tgt := 138) hx hb dX7_cycles_124 (by decide) ?_
          refine m_iast (Z' := (zu (zu N 8 i (nI 0)) 9 i ((zu N 8 i (nI 0)) 8 i), A, P, X)) hx hb hK hP hJ hS mG_s (j := 14 * i + 11) (by omega) (by decide) dX7_cycles_138 (mS_s (zf_t11 (by omega))) (fun H locs hP hS => ?_)
          refine lv_iinc (v := nI (i + 1)) (lv' := [(3, .int (nI (i + 1))), (0, .ref (a 0)), (1, .int own), (2, .int iss)]) hx hb dX7_cycles_139 hl (k := 3) rfl (nI_add _ _) (by decide) rfl (fun ls hl => ?_)
          refine lv_goto (tgt := 32) hx hb dX7_cycles_142 (by decide) ?_
          refine m_tov (Z2 := (hN_X7_cycles_lp n own iss (i + 1) (zu (zu N 8 i (nI 0)) 9 i ((zu N 8 i (nI 0)) 8 i)), A, P, X)) (m_eq (by simp only [hN_X7_cycles_lp, if_pos c52_5, if_neg c110_6]) rfl rfl rfl) ?_
          exact ih own iss (i + 1) (zu (zu N 8 i (nI 0)) 9 i ((zu N 8 i (nI 0)) 8 i)) _ _ _ (by omega) (rOK_u (rOK_u hI (by decide) (by decide) (by decide) (by decide) (by decide) (by decide) (by decide) (by decide) (by decide)) (by decide) (by decide) (by decide) (by decide) (by decide) (by decide) (by decide) (by decide) (by decide)) hF (lv_sub hl [1, 2, 3, 0] rfl) hP hS
      · refine lv_iload_n hx hb dX7_cycles_55 rfl (lv_at hl 3 rfl) ?_
        refine lv_iload_n hx hb dX7_cycles_56 rfl (lv_at hl 2 rfl) ?_
        refine lv_icmp_eq (tgt := 76) hx hb dX7_cycles_57 (by decide) (fun c57_7 => ?_) (fun c57_7 => ?_)
        · refine lv_iconst (v := nI 0) hx hb dX7_cycles_76 (by decide) ?_
          refine m_iast (Z' := (zu N 8 i (nI 0), A, P, X)) hx hb hK hP hJ hS mG_s (j := 14 * i + 10) (by omega) (by decide) dX7_cycles_77 (mS_s (zf_t10 (by omega))) (fun H locs hP hS => ?_)
          refine lv_aload_n hx hb dX7_cycles_78 rfl (lv_at hl 0 rfl) ?_
          refine mgO0 hx hb hts hiX7 hown hK hP (hts (.fieldLink RX7 7 "BarrelProcessorModel" "s" "[I") (by decide +kernel)) dX7_cycles_79 ?_
          refine lv_iload_n hx hb dX7_cycles_82 rfl (lv_at hl 3 rfl) ?_
          refine lv_bipush (v := nI 11) hx hb dX7_cycles_83 (by decide) ?_
          refine m_cSi (As := [.int (nI i), .int (nI 11)]) (rest := [.ref (a 1)]) ⟨hx, hb, hml, hown, hts⟩ (ct_X7_at l D a cI hJ (zu N 8 i (nI 0)) A P X (nI i) (nI 11)) (va_cwS 2 hts gX7_cycles_X7_at rfl rfl rfl (by decide +kernel) ⟨Nat.le_of_ble_eq_true rfl, Nat.le_of_ble_eq_true rfl⟩) hK hP hS rfl hl.1 rfl (Nat.le_of_ble_eq_true rfl) dX7_cycles_85 ⟨Nat.zero_le _, Nat.zero_le _⟩ (fun H locs hP hS => ?_)
          refine z_val (z := nI (14 * i + 11)) (z_at _ _) ?_
          refine lv_aload_n hx hb dX7_cycles_88 rfl (lv_at hl 0 rfl) ?_
          refine mgO0 hx hb hts hiX7 hown hK hP (hts (.fieldLink RX7 7 "BarrelProcessorModel" "s" "[I") (by decide +kernel)) dX7_cycles_89 ?_
          refine lv_iload_n hx hb dX7_cycles_92 rfl (lv_at hl 3 rfl) ?_
          refine lv_bipush (v := nI 10) hx hb dX7_cycles_93 (by decide) ?_
          refine m_cSi (As := [.int (nI i), .int (nI 10)]) (rest := [.ref (a 1), .int (nI (14 * i + 11)), .ref (a 1)]) ⟨hx, hb, hml, hown, hts⟩ (ct_X7_at l D a cI hJ (zu N 8 i (nI 0)) A P X (nI i) (nI 10)) (va_cwS 2 hts gX7_cycles_X7_at rfl rfl rfl (by decide +kernel) ⟨Nat.le_of_ble_eq_true rfl, Nat.le_of_ble_eq_true rfl⟩) hK hP hS rfl hl.1 rfl (Nat.le_of_ble_eq_true rfl) dX7_cycles_95 ⟨Nat.zero_le _, Nat.zero_le _⟩ (fun H locs hP hS => ?_)
          refine z_val (z := nI (14 * i + 10)) (z_at _ _) ?_
          refine m_iald hx hb hK hP mG_s (j := 14 * i + 10) (by omega) (by decide) dX7_cycles_98 ?_
          refine z_val (z := (zu N 8 i (nI 0)) 8 i) (zen_of (zf_t10 (by omega))) ?_
          refine lv_aload_n hx hb dX7_cycles_99 rfl (lv_at hl 0 rfl) ?_
          refine mgO0 hx hb hts hiX7 hown hK hP (hts (.fieldLink RX7 7 "BarrelProcessorModel" "s" "[I") (by decide +kernel)) dX7_cycles_100 ?_
          refine lv_iload_n hx hb dX7_cycles_103 rfl (lv_at hl 3 rfl) ?_
          refine lv_bipush (v := nI 11) hx hb dX7_cycles_104 (by decide) ?_
          refine m_cSi (As := [.int (nI i), .int (nI 11)]) (rest := [.ref (a 1), .int ((zu N 8 i (nI 0)) 8 i), .int (nI (14 * i + 11)), .ref (a 1)]) ⟨hx, hb, hml, hown, hts⟩ (ct_X7_at l D a cI hJ (zu N 8 i (nI 0)) A P X (nI i) (nI 11)) (va_cwS 2 hts gX7_cycles_X7_at rfl rfl rfl (by decide +kernel) ⟨Nat.le_of_ble_eq_true rfl, Nat.le_of_ble_eq_true rfl⟩) hK hP hS rfl hl.1 rfl (Nat.le_of_ble_eq_true rfl) dX7_cycles_106 ⟨Nat.zero_le _, Nat.zero_le _⟩ (fun H locs hP hS => ?_)
          refine z_val (z := nI (14 * i + 11)) (z_at _ _) ?_
          refine m_iald hx hb hK hP mG_s (j := 14 * i + 11) (by omega) (by decide) dX7_cycles_109 ?_
          refine z_val (z := (zu N 8 i (nI 0)) 9 i) (zen_of (zf_t11 (by omega))) ?_
          refine lv_icmp_le (tgt := 127) hx hb dX7_cycles_110 (by decide) (fun c110_8 => ?_) (fun c110_8 => ?_)
          · refine lv_aload_n hx hb dX7_cycles_127 rfl (lv_at hl 0 rfl) ?_
            refine mgO0 hx hb hts hiX7 hown hK hP (hts (.fieldLink RX7 7 "BarrelProcessorModel" "s" "[I") (by decide +kernel)) dX7_cycles_128 ?_
            refine lv_iload_n hx hb dX7_cycles_131 rfl (lv_at hl 3 rfl) ?_
            refine lv_bipush (v := nI 11) hx hb dX7_cycles_132 (by decide) ?_
            refine m_cSi (As := [.int (nI i), .int (nI 11)]) (rest := [.ref (a 1), .int (nI (14 * i + 11)), .ref (a 1)]) ⟨hx, hb, hml, hown, hts⟩ (ct_X7_at l D a cI hJ (zu N 8 i (nI 0)) A P X (nI i) (nI 11)) (va_cwS 2 hts gX7_cycles_X7_at rfl rfl rfl (by decide +kernel) ⟨Nat.le_of_ble_eq_true rfl, Nat.le_of_ble_eq_true rfl⟩) hK hP hS rfl hl.1 rfl (Nat.le_of_ble_eq_true rfl) dX7_cycles_134 ⟨Nat.zero_le _, Nat.zero_le _⟩ (fun H locs hP hS => ?_)
            refine z_val (z := nI (14 * i + 11)) (z_at _ _) ?_
            refine m_iald hx hb hK hP mG_s (j := 14 * i + 11) (by omega) (by decide) dX7_cycles_137 ?_
            refine z_val (z := (zu N 8 i (nI 0)) 9 i) (zen_of (zf_t11 (by omega))) ?_
            refine m_iast (Z' := (zu (zu N 8 i (nI 0)) 9 i ((zu N 8 i (nI 0)) 9 i), A, P, X)) hx hb hK hP hJ hS mG_s (j := 14 * i + 11) (by omega) (by decide) dX7_cycles_138 (mS_s (zf_t11 (by omega))) (fun H locs hP hS => ?_)
            refine lv_iinc (v := nI (i + 1)) (lv' := [(3, .int (nI (i + 1))), (0, .ref (a 0)), (1, .int own), (2, .int iss)]) hx hb dX7_cycles_139 hl (k := 3) rfl (nI_add _ _) (by decide) rfl (fun ls hl => ?_)
            refine lv_goto (tgt := 32) hx hb dX7_cycles_142 (by decide) ?_
            refine m_tov (Z2 := (hN_X7_cycles_lp n own iss (i + 1) (zu (zu N 8 i (nI 0)) 9 i ((zu N 8 i (nI 0)) 9 i)), A, P, X)) (m_eq (by simp only [hN_X7_cycles_lp, if_neg c52_5, if_pos c57_7, if_pos c110_8]) rfl rfl rfl) ?_
            exact ih own iss (i + 1) (zu (zu N 8 i (nI 0)) 9 i ((zu N 8 i (nI 0)) 9 i)) _ _ _ (by omega) (rOK_u (rOK_u hI (by decide) (by decide) (by decide) (by decide) (by decide) (by decide) (by decide) (by decide) (by decide)) (by decide) (by decide) (by decide) (by decide) (by decide) (by decide) (by decide) (by decide) (by decide)) hF (lv_sub hl [1, 2, 3, 0] rfl) hP hS
          · refine lv_aload_n hx hb dX7_cycles_113 rfl (lv_at hl 0 rfl) ?_
            refine mgO0 hx hb hts hiX7 hown hK hP (hts (.fieldLink RX7 7 "BarrelProcessorModel" "s" "[I") (by decide +kernel)) dX7_cycles_114 ?_
            refine lv_iload_n hx hb dX7_cycles_117 rfl (lv_at hl 3 rfl) ?_
            refine lv_bipush (v := nI 10) hx hb dX7_cycles_118 (by decide) ?_
            refine m_cSi (As := [.int (nI i), .int (nI 10)]) (rest := [.ref (a 1), .int (nI (14 * i + 11)), .ref (a 1)]) ⟨hx, hb, hml, hown, hts⟩ (ct_X7_at l D a cI hJ (zu N 8 i (nI 0)) A P X (nI i) (nI 10)) (va_cwS 2 hts gX7_cycles_X7_at rfl rfl rfl (by decide +kernel) ⟨Nat.le_of_ble_eq_true rfl, Nat.le_of_ble_eq_true rfl⟩) hK hP hS rfl hl.1 rfl (Nat.le_of_ble_eq_true rfl) dX7_cycles_120 ⟨Nat.zero_le _, Nat.zero_le _⟩ (fun H locs hP hS => ?_)
            refine z_val (z := nI (14 * i + 10)) (z_at _ _) ?_
            refine m_iald hx hb hK hP mG_s (j := 14 * i + 10) (by omega) (by decide) dX7_cycles_123 ?_
            refine z_val (z := (zu N 8 i (nI 0)) 8 i) (zen_of (zf_t10 (by omega))) ?_
            refine lv_goto (tgt := 138) hx hb dX7_cycles_124 (by decide) ?_
            refine m_iast (Z' := (zu (zu N 8 i (nI 0)) 9 i ((zu N 8 i (nI 0)) 8 i), A, P, X)) hx hb hK hP hJ hS mG_s (j := 14 * i + 11) (by omega) (by decide) dX7_cycles_138 (mS_s (zf_t11 (by omega))) (fun H locs hP hS => ?_)
            refine lv_iinc (v := nI (i + 1)) (lv' := [(3, .int (nI (i + 1))), (0, .ref (a 0)), (1, .int own), (2, .int iss)]) hx hb dX7_cycles_139 hl (k := 3) rfl (nI_add _ _) (by decide) rfl (fun ls hl => ?_)
            refine lv_goto (tgt := 32) hx hb dX7_cycles_142 (by decide) ?_
            refine m_tov (Z2 := (hN_X7_cycles_lp n own iss (i + 1) (zu (zu N 8 i (nI 0)) 9 i ((zu N 8 i (nI 0)) 8 i)), A, P, X)) (m_eq (by simp only [hN_X7_cycles_lp, if_neg c52_5, if_pos c57_7, if_neg c110_8]) rfl rfl rfl) ?_
            exact ih own iss (i + 1) (zu (zu N 8 i (nI 0)) 9 i ((zu N 8 i (nI 0)) 8 i)) _ _ _ (by omega) (rOK_u (rOK_u hI (by decide) (by decide) (by decide) (by decide) (by decide) (by decide) (by decide) (by decide) (by decide)) (by decide) (by decide) (by decide) (by decide) (by decide) (by decide) (by decide) (by decide) (by decide)) hF (lv_sub hl [1, 2, 3, 0] rfl) hP hS
        · refine lv_aload_n hx hb dX7_cycles_60 rfl (lv_at hl 0 rfl) ?_
          refine mgO0 hx hb hts hiX7 hown hK hP (hts (.fieldLink RX7 7 "BarrelProcessorModel" "s" "[I") (by decide +kernel)) dX7_cycles_61 ?_
          refine lv_iload_n hx hb dX7_cycles_64 rfl (lv_at hl 3 rfl) ?_
          refine lv_bipush (v := nI 10) hx hb dX7_cycles_65 (by decide) ?_
          refine m_cSi (As := [.int (nI i), .int (nI 10)]) (rest := [.ref (a 1), .int (nI (14 * i + 10)), .ref (a 1)]) ⟨hx, hb, hml, hown, hts⟩ (ct_X7_at l D a cI hJ N A P X (nI i) (nI 10)) (va_cwS 2 hts gX7_cycles_X7_at rfl rfl rfl (by decide +kernel) ⟨Nat.le_of_ble_eq_true rfl, Nat.le_of_ble_eq_true rfl⟩) hK hP hS rfl hl.1 rfl (Nat.le_of_ble_eq_true rfl) dX7_cycles_67 ⟨Nat.zero_le _, Nat.zero_le _⟩ (fun H locs hP hS => ?_)
          refine z_val (z := nI (14 * i + 10)) (z_at _ _) ?_
          refine m_iald hx hb hK hP mG_s (j := 14 * i + 10) (by omega) (by decide) dX7_cycles_70 ?_
          refine z_val (z := N 8 i) (zen_of (zf_t10 (by omega))) ?_
          refine lv_iconst (v := nI 1) hx hb dX7_cycles_71 (by decide) ?_
          refine lv_iadd hx hb dX7_cycles_72 ?_
          refine lv_goto (tgt := 77) hx hb dX7_cycles_73 (by decide) ?_
          refine m_iast (Z' := (zu N 8 i ((N 8 i) + (nI 1)), A, P, X)) hx hb hK hP hJ hS mG_s (j := 14 * i + 10) (by omega) (by decide) dX7_cycles_77 (mS_s (zf_t10 (by omega))) (fun H locs hP hS => ?_)
          refine lv_aload_n hx hb dX7_cycles_78 rfl (lv_at hl 0 rfl) ?_
          refine mgO0 hx hb hts hiX7 hown hK hP (hts (.fieldLink RX7 7 "BarrelProcessorModel" "s" "[I") (by decide +kernel)) dX7_cycles_79 ?_
          refine lv_iload_n hx hb dX7_cycles_82 rfl (lv_at hl 3 rfl) ?_
          refine lv_bipush (v := nI 11) hx hb dX7_cycles_83 (by decide) ?_
          refine m_cSi (As := [.int (nI i), .int (nI 11)]) (rest := [.ref (a 1)]) ⟨hx, hb, hml, hown, hts⟩ (ct_X7_at l D a cI hJ (zu N 8 i ((N 8 i) + (nI 1))) A P X (nI i) (nI 11)) (va_cwS 2 hts gX7_cycles_X7_at rfl rfl rfl (by decide +kernel) ⟨Nat.le_of_ble_eq_true rfl, Nat.le_of_ble_eq_true rfl⟩) hK hP hS rfl hl.1 rfl (Nat.le_of_ble_eq_true rfl) dX7_cycles_85 ⟨Nat.zero_le _, Nat.zero_le _⟩ (fun H locs hP hS => ?_)
          refine z_val (z := nI (14 * i + 11)) (z_at _ _) ?_
          refine lv_aload_n hx hb dX7_cycles_88 rfl (lv_at hl 0 rfl) ?_
          refine mgO0 hx hb hts hiX7 hown hK hP (hts (.fieldLink RX7 7 "BarrelProcessorModel" "s" "[I") (by decide +kernel)) dX7_cycles_89 ?_
          refine lv_iload_n hx hb dX7_cycles_92 rfl (lv_at hl 3 rfl) ?_
          refine lv_bipush (v := nI 10) hx hb dX7_cycles_93 (by decide) ?_
          refine m_cSi (As := [.int (nI i), .int (nI 10)]) (rest := [.ref (a 1), .int (nI (14 * i + 11)), .ref (a 1)]) ⟨hx, hb, hml, hown, hts⟩ (ct_X7_at l D a cI hJ (zu N 8 i ((N 8 i) + (nI 1))) A P X (nI i) (nI 10)) (va_cwS 2 hts gX7_cycles_X7_at rfl rfl rfl (by decide +kernel) ⟨Nat.le_of_ble_eq_true rfl, Nat.le_of_ble_eq_true rfl⟩) hK hP hS rfl hl.1 rfl (Nat.le_of_ble_eq_true rfl) dX7_cycles_95 ⟨Nat.zero_le _, Nat.zero_le _⟩ (fun H locs hP hS => ?_)
          refine z_val (z := nI (14 * i + 10)) (z_at _ _) ?_
          refine m_iald hx hb hK hP mG_s (j := 14 * i + 10) (by omega) (by decide) dX7_cycles_98 ?_
          refine z_val (z := (zu N 8 i ((N 8 i) + (nI 1))) 8 i) (zen_of (zf_t10 (by omega))) ?_
          refine lv_aload_n hx hb dX7_cycles_99 rfl (lv_at hl 0 rfl) ?_
          refine mgO0 hx hb hts hiX7 hown hK hP (hts (.fieldLink RX7 7 "BarrelProcessorModel" "s" "[I") (by decide +kernel)) dX7_cycles_100 ?_
          refine lv_iload_n hx hb dX7_cycles_103 rfl (lv_at hl 3 rfl) ?_
          refine lv_bipush (v := nI 11) hx hb dX7_cycles_104 (by decide) ?_
          refine m_cSi (As := [.int (nI i), .int (nI 11)]) (rest := [.ref (a 1), .int ((zu N 8 i ((N 8 i) + (nI 1))) 8 i), .int (nI (14 * i + 11)), .ref (a 1)]) ⟨hx, hb, hml, hown, hts⟩ (ct_X7_at l D a cI hJ (zu N 8 i ((N 8 i) + (nI 1))) A P X (nI i) (nI 11)) (va_cwS 2 hts gX7_cycles_X7_at rfl rfl rfl (by decide +kernel) ⟨Nat.le_of_ble_eq_true rfl, Nat.le_of_ble_eq_true rfl⟩) hK hP hS rfl hl.1 rfl (Nat.le_of_ble_eq_true rfl) dX7_cycles_106 ⟨Nat.zero_le _, Nat.zero_le _⟩ (fun H locs hP hS => ?_)
          refine z_val (z := nI (14 * i + 11)) (z_at _ _) ?_
          refine m_iald hx hb hK hP mG_s (j := 14 * i + 11) (by omega) (by decide) dX7_cycles_109 ?_
          refine z_val (z := (zu N 8 i ((N 8 i) + (nI 1))) 9 i) (zen_of (zf_t11 (by omega))) ?_
          refine lv_icmp_le (tgt := 127) hx hb dX7_cycles_110 (by decide) (fun c110_9 => ?_) (fun c110_9 => ?_)
          · refine lv_aload_n hx hb dX7_cycles_127 rfl (lv_at hl 0 rfl) ?_
            refine mgO0 hx hb hts hiX7 hown hK hP (hts (.fieldLink RX7 7 "BarrelProcessorModel" "s" "[I") (by decide +kernel)) dX7_cycles_128 ?_
            refine lv_iload_n hx hb dX7_cycles_131 rfl (lv_at hl 3 rfl) ?_
            refine lv_bipush (v := nI 11) hx hb dX7_cycles_132 (by decide) ?_
            refine m_cSi (As := [.int (nI i), .int (nI 11)]) (rest := [.ref (a 1), .int (nI (14 * i + 11)), .ref (a 1)]) ⟨hx, hb, hml, hown, hts⟩ (ct_X7_at l D a cI hJ (zu N 8 i ((N 8 i) + (nI 1))) A P X (nI i) (nI 11)) (va_cwS 2 hts gX7_cycles_X7_at rfl rfl rfl (by decide +kernel) ⟨Nat.le_of_ble_eq_true rfl, Nat.le_of_ble_eq_true rfl⟩) hK hP hS rfl hl.1 rfl (Nat.le_of_ble_eq_true rfl) dX7_cycles_134 ⟨Nat.zero_le _, Nat.zero_le _⟩ (fun H locs hP hS => ?_)
            refine z_val (z := nI (14 * i + 11)) (z_at _ _) ?_
            refine m_iald hx hb hK hP mG_s (j := 14 * i + 11) (by omega) (by decide) dX7_cycles_137 ?_
            refine z_val (z := (zu N 8 i ((N 8 i) + (nI 1))) 9 i) (zen_of (zf_t11 (by omega))) ?_
            refine m_iast (Z' := (zu (zu N 8 i ((N 8 i) + (nI 1))) 9 i ((zu N 8 i ((N 8 i) + (nI 1))) 9 i), A, P, X)) hx hb hK hP hJ hS mG_s (j := 14 * i + 11) (by omega) (by decide) dX7_cycles_138 (mS_s (zf_t11 (by omega))) (fun H locs hP hS => ?_)
            refine lv_iinc (v := nI (i + 1)) (lv' := [(3, .int (nI (i + 1))), (0, .ref (a 0)), (1, .int own), (2, .int iss)]) hx hb dX7_cycles_139 hl (k := 3) rfl (nI_add _ _) (by decide) rfl (fun ls hl => ?_)
            refine lv_goto (tgt := 32) hx hb dX7_cycles_142 (by decide) ?_
            refine m_tov (Z2 := (hN_X7_cycles_lp n own iss (i + 1) (zu (zu N 8 i ((N 8 i) + (nI 1))) 9 i ((zu N 8 i ((N 8 i) + (nI 1))) 9 i)), A, P, X)) (m_eq (by simp only [hN_X7_cycles_lp, if_neg c52_5, if_neg c57_7, if_pos c110_9]) rfl rfl rfl) ?_
            exact ih own iss (i + 1) (zu (zu N 8 i ((N 8 i) + (nI 1))) 9 i ((zu N 8 i ((N 8 i) + (nI 1))) 9 i)) _ _ _ (by omega) (rOK_u (rOK_u hI (by decide) (by decide) (by decide) (by decide) (by decide) (by decide) (by decide) (by decide) (by decide)) (by decide) (by decide) (by decide) (by decide) (by decide) (by decide) (by decide) (by decide) (by decide)) hF (lv_sub hl [1, 2, 3, 0] rfl) hP hS
          · refine lv_aload_n hx hb dX7_cycles_113 rfl (lv_at hl 0 rfl) ?_
            refine mgO0 hx hb hts hiX7 hown hK hP (hts (.fieldLink RX7 7 "BarrelProcessorModel" "s" "[I") (by decide +kernel)) dX7_cycles_114 ?_
            refine lv_iload_n hx hb dX7_cycles_117 rfl (lv_at hl 3 rfl) ?_
            refine lv_bipush (v := nI 10) hx hb dX7_cycles_118 (by decide) ?_
            refine m_cSi (As := [.int (nI i), .int (nI 10)]) (rest := [.ref (a 1), .int (nI (14 * i + 11)), .ref (a 1)]) ⟨hx, hb, hml, hown, hts⟩ (ct_X7_at l D a cI hJ (zu N 8 i ((N 8 i) + (nI 1))) A P X (nI i) (nI 10)) (va_cwS 2 hts gX7_cycles_X7_at rfl rfl rfl (by decide +kernel) ⟨Nat.le_of_ble_eq_true rfl, Nat.le_of_ble_eq_true rfl⟩) hK hP hS rfl hl.1 rfl (Nat.le_of_ble_eq_true rfl) dX7_cycles_120 ⟨Nat.zero_le _, Nat.zero_le _⟩ (fun H locs hP hS => ?_)
            refine z_val (z := nI (14 * i + 10)) (z_at _ _) ?_
            refine m_iald hx hb hK hP mG_s (j := 14 * i + 10) (by omega) (by decide) dX7_cycles_123 ?_
            refine z_val (z := (zu N 8 i ((N 8 i) + (nI 1))) 8 i) (zen_of (zf_t10 (by omega))) ?_
            refine lv_goto (tgt := 138) hx hb dX7_cycles_124 (by decide) ?_
            refine m_iast (Z' := (zu (zu N 8 i ((N 8 i) + (nI 1))) 9 i ((zu N 8 i ((N 8 i) + (nI 1))) 8 i), A, P, X)) hx hb hK hP hJ hS mG_s (j := 14 * i + 11) (by omega) (by decide) dX7_cycles_138 (mS_s (zf_t11 (by omega))) (fun H locs hP hS => ?_)
            refine lv_iinc (v := nI (i + 1)) (lv' := [(3, .int (nI (i + 1))), (0, .ref (a 0)), (1, .int own), (2, .int iss)]) hx hb dX7_cycles_139 hl (k := 3) rfl (nI_add _ _) (by decide) rfl (fun ls hl => ?_)
            refine lv_goto (tgt := 32) hx hb dX7_cycles_142 (by decide) ?_
            refine m_tov (Z2 := (hN_X7_cycles_lp n own iss (i + 1) (zu (zu N 8 i ((N 8 i) + (nI 1))) 9 i ((zu N 8 i ((N 8 i) + (nI 1))) 8 i)), A, P, X)) (m_eq (by simp only [hN_X7_cycles_lp, if_neg c52_5, if_neg c57_7, if_neg c110_9]) rfl rfl rfl) ?_
            exact ih own iss (i + 1) (zu (zu N 8 i ((N 8 i) + (nI 1))) 9 i ((zu N 8 i ((N 8 i) + (nI 1))) 8 i)) _ _ _ (by omega) (rOK_u (rOK_u hI (by decide) (by decide) (by decide) (by decide) (by decide) (by decide) (by decide) (by decide) (by decide)) (by decide) (by decide) (by decide) (by decide) (by decide) (by decide) (by decide) (by decide) (by decide)) hF (lv_sub hl [1, 2, 3, 0] rfl) hP hS
  refine lv_aload_n hx hb dX7_cycles_0 rfl (lv_at hl 0 rfl) ?_
  refine m_cVv (As := []) (rest := []) ⟨hx, hb, hml, hown, hts⟩ (ct_X7_prepares l D a cI hJ N A P X _ hI) (cwV 0 hts gX7_cycles_X7_prepares rfl rfl rfl (by decide +kernel) ⟨Nat.le_of_ble_eq_true rfl, Nat.le_of_ble_eq_true rfl⟩) hK hP hS (va_recv (ci := 7) hK hP rfl mG_O) rfl hl.1 rfl (Nat.le_of_ble_eq_true rfl) dX7_cycles_1 ⟨Nat.zero_le _, Nat.zero_le _⟩ (fun H locs hP hS => ?_)
  refine lv_aload_n hx hb dX7_cycles_4 rfl (lv_at hl 0 rfl) ?_
  refine mgO0 hx hb hts hiX7 hown hK hP (hts (.fieldLink RX7 7 "BarrelProcessorModel" "s" "[I") (by decide +kernel)) dX7_cycles_5 ?_
  refine lv_sipush (v := nI 234) hx hb dX7_cycles_8 (by decide) ?_
  refine lv_aload_n hx hb dX7_cycles_11 rfl (lv_at hl 0 rfl) ?_
  refine mgO0 hx hb hts hiX7 hown hK hP (hts (.fieldLink RX7 7 "BarrelProcessorModel" "s" "[I") (by decide +kernel)) dX7_cycles_12 ?_
  refine lv_sipush (v := nI 232) hx hb dX7_cycles_15 (by decide) ?_
  refine m_iald hx hb hK hP mG_s (j := 232) (by omega) (by decide) dX7_cycles_18 ?_
  refine z_val (z := (hN_X7_prepares N) 16 0) (zen_of zf_232) ?_
  refine z_val (z := nI (zc ((hN_X7_prepares N) 16 0))) hJ1.2.2.2.2.1.1.2 ?_
  refine lv_bipush (v := nI 8) hx hb dX7_cycles_19 (by decide) ?_
  refine lv_irem hx hb dX7_cycles_21 (by decide) ?_
  refine z_val (z := nI ((zc ((hN_X7_prepares N) 16 0)) % 8)) (pk_rem (by have h9 := hJ1.2.2.2.2.1.1.1; have h8 := hJ1.2.2.2.2.1.2; omega) (by decide) (by decide)) ?_
  refine lv_iadd hx hb dX7_cycles_22 ?_
  refine z_val (z := nI (234 + ((zc ((hN_X7_prepares N) 16 0)) % 8))) (nI_add _ _) ?_
  refine m_iald hx hb hK hP mG_s (j := 234 + ((zc ((hN_X7_prepares N) 16 0)) % 8)) (by omega) (by decide) dX7_cycles_23 ?_
  refine z_val (z := (hN_X7_prepares N) 14 ((zc ((hN_X7_prepares N) 16 0)) % 8)) (zen_of (zf_sl (by omega))) ?_
  refine lv_istore_n (lv' := [(1, .int ((hN_X7_prepares N) 14 ((zc ((hN_X7_prepares N) 16 0)) % 8))), (0, .ref (a 0))]) hx hb dX7_cycles_24 rfl hl (by decide) rfl (fun ls hl => ?_)
  refine lv_aload_n hx hb dX7_cycles_25 rfl (lv_at hl 1 rfl) ?_
  refine m_cVi (As := []) (rest := []) ⟨hx, hb, hml, hown, hts⟩ (ct_X7_issuing l D a cI hJ (hN_X7_prepares N) A P X _ hJ1) (cwV 0 hts gX7_cycles_X7_issuing rfl rfl rfl (by decide +kernel) ⟨Nat.le_of_ble_eq_true rfl, Nat.le_of_ble_eq_true rfl⟩) hK hP hS (va_recv (ci := 7) hK hP rfl mG_O) rfl hl.1 rfl (Nat.le_of_ble_eq_true rfl) dX7_cycles_26 ⟨Nat.zero_le _, Nat.zero_le _⟩ (fun H locs hP hS => ?_)
  refine lv_istore_n (lv' := [(2, .int (g_X7_issuing (hN_X7_prepares N))), (1, .int ((hN_X7_prepares N) 14 ((zc ((hN_X7_prepares N) 16 0)) % 8))), (0, .ref (a 0))]) hx hb dX7_cycles_29 rfl hl (by decide) rfl (fun ls hl => ?_)
  refine lv_iconst (v := nI 0) hx hb dX7_cycles_30 (by decide) ?_
  refine lv_istore_n (lv' := [(3, .int (nI 0)), (2, .int (g_X7_issuing (hN_X7_prepares N))), (1, .int ((hN_X7_prepares N) 14 ((zc ((hN_X7_prepares N) 16 0)) % 8))), (0, .ref (a 0))]) hx hb dX7_cycles_31 rfl hl (by decide) rfl (fun ls hl => ?_)
  refine m_tov (Z2 := (hN_X7_cycles_lp 4 ((hN_X7_prepares N) 14 ((zc ((hN_X7_prepares N) 16 0)) % 8)) (g_X7_issuing (hN_X7_prepares N)) 0 (hN_X7_prepares N), A, P, X)) (m_eq (by first | rfl | simp only [hN_X7_cycles]) rfl rfl rfl) ?_
  exact lp32 4 ((hN_X7_prepares N) 14 ((zc ((hN_X7_prepares N) 16 0)) % 8)) (g_X7_issuing (hN_X7_prepares N)) 0 (hN_X7_prepares N) _ _ _ (by omega) hJ1 (m_issuing hJ1) (lv_sub hl [3, 2, 1, 0] rfl) hP hS
