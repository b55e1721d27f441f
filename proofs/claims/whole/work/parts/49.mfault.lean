theorem inI {X : zM} {i : Nat} (h2 : i ≠ 2) (h3 : i ≠ 3) (h4 : i < 4) : hX_X7_instruction X 0 i = X 0 i := by
  unfold hX_X7_instruction
  have e1 : ∀ x, (zu (zu (zu (zu X 0 4 (g_X7_operationOf (g_X7_next X))) 0 5 (nI 0)) 0 6 (nI 0)) 0 2 x) 0 i = X 0 i := fun x => by
    rw [zu_i _ _ _ h2, zu_i _ _ _ (by omega), zu_i _ _ _ (by omega), zu_i _ _ _ (by omega)]
  have e2 : (zu (zu (zu X 0 4 (g_X7_operationOf (g_X7_next X))) 0 5 (nI 0)) 0 6 (nI 0)) 0 i = X 0 i := by
    rw [zu_i _ _ _ (by omega), zu_i _ _ _ (by omega), zu_i _ _ _ (by omega)]
  have e3 := e1 (nI (zc (X 0 2) + 1))
  generalize zu (zu (zu (zu X 0 4 (g_X7_operationOf (g_X7_next X))) 0 5 (nI 0)) 0 6 (nI 0)) 0 2 (nI (zc (X 0 2) + 1)) = Y at e3 ⊢
  generalize zu (zu (zu X 0 4 (g_X7_operationOf (g_X7_next X))) 0 5 (nI 0)) 0 6 (nI 0) = U at e2 ⊢
  have hd : ∀ x, (zu (hX_X7_digit (nI 0) (nI 3) Y) 0 5 x) 0 i = X 0 i := fun x => by
    rw [zu_i _ _ _ (by omega), dgI h2 h3]
    exact e3
  generalize g_X7_digit (nI 0) (nI 3) Y = d1
  have hd := hd d1
  generalize zu (hX_X7_digit (nI 0) (nI 3) Y) 0 5 d1 = V at hd ⊢
  let Pq : zM → Prop := fun M => M 0 i = X 0 i
  refine z_ite (P := Pq) (fun _ => (zu_i _ _ _ h3).trans e2) (fun _ => ?_)
  refine z_ite (P := Pq) (fun _ => ((zu_i _ _ _ (by omega)).trans (utI h2 h3)).trans e3) (fun _ => ?_)
  refine z_ite (P := Pq) (fun _ => e3) (fun _ => ?_)
  refine z_ite (P := Pq) (fun _ => (((zu_i _ _ _ (by omega)).trans (nuI h2 h3)).trans (sgI h2 h3)).trans hd) (fun _ => ?_)
  refine z_ite (P := Pq) (fun _ => (((zu_i _ _ _ (by omega)).trans (utI h2 h3)).trans (sgI h2 h3)).trans hd) (fun _ => ?_)
  exact ((zu_i _ _ _ (by omega)).trans (dgI h2 h3)).trans hd
/-! the spot moves on -/
theorem sp_sign {S : Nat} {X : zM} {a : Int32} (h : tOK S X) : zc (X 0 2) ≤ zc (hX_X7_sign a X 0 2) ∧ (hX_X7_sign a X 0 3 = nI 0 → zc (hX_X7_sign a X 0 2) = zc (X 0 2) + 1) := by
  have h1 := h.2.1.1.1
  have h2 := h.2.1.2
  have e0 : zc (nI (zc (X 0 2) + 0)) = zc (X 0 2) := zc_nI (by omega)
  have e1 : zc (nI (zc (X 0 2) + 1)) = zc (X 0 2) + 1 := zc_nI (by omega)
  unfold hX_X7_sign
  repeat' split
  all_goals
    rw [zu_s, zu_i _ _ _ (show (3 : Nat) ≠ 2 by decide), zu_s]
    first
      | (rw [e1]; exact ⟨by omega, fun _ => rfl⟩)
      | exact ⟨by first | (rw [e0]; omega) | (rw [zc_nI (by omega)]; omega), fun q => absurd q (by decide)⟩
theorem sp_digit {S : Nat} {X : zM} {a b : Int32} (h : tOK S X) : zc (X 0 2) ≤ zc (hX_X7_digit a b X 0 2) := by
  have h1 := h.2.1.1.1
  have h2 := h.2.1.2
  unfold hX_X7_digit
  repeat' split
  all_goals
    rw [zu_s, zc_nI (by omega)]
    omega
theorem sp_upTo {S : Nat} {X : zM} {a b : Int32} (h : tOK S X) (hS : S + 2 ≤ 1000000) : zc (X 0 2) ≤ zc (hX_X7_upTo a b X 0 2) := by
  have h0 : tOK (S + 1) (hX_X7_digit a (nI 9) X) := tOK_digit h (by omega)
  have h1 := h0.2.1.1.1
  have h2 : zc (X 0 2) ≤ zc (hX_X7_digit a (nI 9) X 0 2) := sp_digit h
  unfold hX_X7_upTo
  repeat' split
  all_goals first | exact h2 | (rw [zu_s, zc_nI (by omega)]; omega)
theorem sp_number {S : Nat} {X : zM} (h : tOK S X) (hS : S + 3 ≤ 1000000) : zc (X 0 2) ≤ zc (hX_X7_number X 0 2) := by
  have h1 := h.2.1.1.1
  have h2 : tOK (S + 1) (zu X 0 2 (nI (zc (X 0 2) + 1))) := tOK_2 h (by omega) (by omega)
  have h3 : zc (zu X 0 2 (nI (zc (X 0 2) + 1)) 0 2) = zc (X 0 2) + 1 := by rw [zu_s, zc_nI (by omega)]
  have h4 : zc (zu X 0 2 (nI (zc (X 0 2) + 1)) 0 2) ≤ zc (hX_X7_upTo (nI 1) (nI 99) (zu X 0 2 (nI (zc (X 0 2) + 1))) 0 2) := sp_upTo h2 (by omega)
  have h5 : zc (X 0 2) ≤ zc (hX_X7_upTo (nI 0) (nI 99) X 0 2) := sp_upTo h (by omega)
  unfold hX_X7_number
  repeat' split
  all_goals omega
theorem sp_instr {S : Nat} {X : zM} (hT : tOK S X) (hS : S + 8 ≤ 1000000) (h0 : hX_X7_instruction X 0 3 = nI 0) : zc (X 0 2) + 1 ≤ zc (hX_X7_instruction X 0 2) := by
  revert h0
  have h4 : tOK (S + 1) (zu (zu (zu (zu X 0 4 (g_X7_operationOf (g_X7_next X))) 0 5 (nI 0)) 0 6 (nI 0)) 0 2 (nI (zc (X 0 2) + 1))) := (tOK_2 (S' := S + 1) (tOK_i (tOK_i (tOK_i hT (by decide)) (by decide)) (by decide)) (by have h9 := hT.2.1.1.1; omega) (by omega))
  have h9 := hT.2.1.1.1
  have e4 : zc ((zu (zu (zu (zu X 0 4 (g_X7_operationOf (g_X7_next X))) 0 5 (nI 0)) 0 6 (nI 0)) 0 2 (nI (zc (X 0 2) + 1))) 0 2) = zc (X 0 2) + 1 := by rw [zu_s, zc_nI (by omega)]
  unfold hX_X7_instruction
  generalize zu (zu (zu (zu X 0 4 (g_X7_operationOf (g_X7_next X))) 0 5 (nI 0)) 0 6 (nI 0)) 0 2 (nI (zc (X 0 2) + 1)) = Y at h4 e4 ⊢
  generalize zu (zu (zu X 0 4 (g_X7_operationOf (g_X7_next X))) 0 5 (nI 0)) 0 6 (nI 0) = U
  have hd : ∀ x, tOK (S + 1 + 1) (zu (hX_X7_digit (nI 0) (nI 3) Y) 0 5 x) := fun x => tOK_i (tOK_digit h4 (by omega)) (by decide)
  have he : ∀ x, zc (X 0 2) + 1 ≤ zc ((zu (hX_X7_digit (nI 0) (nI 3) Y) 0 5 x) 0 2) := fun x => by
    rw [zu_i _ _ _ (by decide), ← e4]
    exact sp_digit h4
  generalize g_X7_digit (nI 0) (nI 3) Y = d1
  have hd := hd d1
  have he := he d1
  generalize zu (hX_X7_digit (nI 0) (nI 3) Y) 0 5 d1 = V at hd he ⊢
  let Pq : zM → Prop := fun M => M 0 3 = nI 0 → zc (X 0 2) + 1 ≤ zc (M 0 2)
  have hs : ∀ a, zc (X 0 2) + 1 ≤ zc (hX_X7_sign a V 0 2) := fun a => Nat.le_trans he (sp_sign hd).1
  refine z_ite (P := Pq) (fun _ q => absurd ((zu_s _ _ _ _).symm.trans q) (by decide)) (fun _ => ?_)
  refine z_ite (P := Pq) (fun _ _ => ?_) (fun _ => ?_)
  · rw [zu_i _ _ _ (by decide), ← e4]
    exact sp_upTo h4 (by omega)
  refine z_ite (P := Pq) (fun _ _ => by rw [e4]; exact Nat.le_refl _) (fun _ => ?_)
  refine z_ite (P := Pq) (fun _ _ => ?_) (fun _ => ?_)
  · rw [zu_i _ _ _ (by decide)]
    exact Nat.le_trans (hs _) (sp_number (tOK_sign hd (by omega)) (by omega))
  refine z_ite (P := Pq) (fun _ _ => ?_) (fun _ _ => ?_)
  · rw [zu_i _ _ _ (by decide)]
    exact Nat.le_trans (hs _) (sp_upTo (tOK_sign hd (by omega)) (by omega))
  · rw [zu_i _ _ _ (by decide)]
    exact Nat.le_trans he (sp_digit hd)
theorem isf_step {S n : Nat} {X : zM} (hT : tOK S X) (hS : S + 8 ≤ 1000000) (c1 : hX_X7_instruction X 0 3 = 0) (c2 : zc (hX_X7_instruction X 0 2) < zc (hX_X7_instruction X 0 1)) (c3 : hX_X7_sign (nI 59) (hX_X7_instruction X) 0 3 = 0) (hm : zc (X 0 1) + 2 ≤ zc (X 0 2) + (n + 1)) :
    zc (hX_X7_sign (nI 59) (hX_X7_instruction X) 0 2) ≤ zc (hX_X7_sign (nI 59) (hX_X7_instruction X) 0 1) ∧ zc (hX_X7_sign (nI 59) (hX_X7_instruction X) 0 1) + 2 ≤ zc (hX_X7_sign (nI 59) (hX_X7_instruction X) 0 2) + n := by
  have h1 := sp_instr hT hS c1
  have h2 := (sp_sign (a := nI 59) (tOK_instruction hT hS)).2 c3
  have e1 : hX_X7_instruction X 0 1 = X 0 1 := inI (by decide) (by decide) (by decide)
  have e2 : hX_X7_sign (nI 59) (hX_X7_instruction X) 0 1 = hX_X7_instruction X 0 1 := sgI (by decide) (by decide)
  rw [h2, e2]
  rw [e1] at c2 ⊢
  exact ⟨by omega, by omega⟩
theorem isf_start {S : Nat} {X : zM} (hT : tOK S X) : 103 ≤ 103 ∧ ((nI 1 = nI 0 ∧ 1 ≤ 103) ∨ (nI 1 = nI 1 ∧ zc (zu (zu X 0 2 (nI 0)) 0 3 (nI 0) 0 2) ≤ zc (zu (zu X 0 2 (nI 0)) 0 3 (nI 0) 0 1) ∧ zc (zu (zu X 0 2 (nI 0)) 0 3 (nI 0) 0 1) + 2 ≤ zc (zu (zu X 0 2 (nI 0)) 0 3 (nI 0) 0 2) + 103)) := by
  rw [zu_i _ _ _ (show (2 : Nat) ≠ 3 by decide), zu_s, zu_i _ _ _ (show (1 : Nat) ≠ 3 by decide), zu_i _ _ _ (show (1 : Nat) ≠ 2 by decide), zc_nI (by decide)]
  have h9 := hT.1.1
  exact ⟨by decide, Or.inr ⟨rfl, by omega, by omega⟩⟩

def g_X7_isFaulty_lp  : Nat → Int32 → zM → Int32
  | 0, more, X => 0
  | n + 1, more, X => if more = 0 then X 0 3 else if ((hX_X7_instruction X) 0 3) = 0 then if (nI (zc ((hX_X7_instruction X) 0 1))) ≤ (nI (zc ((hX_X7_instruction X) 0 2))) then g_X7_isFaulty_lp n (nI 0) (hX_X7_instruction X) else if ((hX_X7_sign (nI 59) (hX_X7_instruction X)) 0 3) = 0 then g_X7_isFaulty_lp n (nI 1) (hX_X7_sign (nI 59) (hX_X7_instruction X)) else g_X7_isFaulty_lp n (nI 0) (hX_X7_sign (nI 59) (hX_X7_instruction X)) else g_X7_isFaulty_lp n (nI 0) (hX_X7_instruction X)
def hX_X7_isFaulty_lp  : Nat → Int32 → zM → zM
  | 0, more, X => X
  | n + 1, more, X => if more = 0 then X else if ((hX_X7_instruction X) 0 3) = 0 then if (nI (zc ((hX_X7_instruction X) 0 1))) ≤ (nI (zc ((hX_X7_instruction X) 0 2))) then hX_X7_isFaulty_lp n (nI 0) (hX_X7_instruction X) else if ((hX_X7_sign (nI 59) (hX_X7_instruction X)) 0 3) = 0 then hX_X7_isFaulty_lp n (nI 1) (hX_X7_sign (nI 59) (hX_X7_instruction X)) else hX_X7_isFaulty_lp n (nI 0) (hX_X7_sign (nI 59) (hX_X7_instruction X)) else hX_X7_isFaulty_lp n (nI 0) (hX_X7_instruction X)
def g_X7_isFaulty  (X : zM) : Int32 := g_X7_isFaulty_lp 103 (nI 1) (zu (zu X 0 2 (nI 0)) 0 3 (nI 0))
def hX_X7_isFaulty  (X : zM) : zM := hX_X7_isFaulty_lp 103 (nI 1) (zu (zu X 0 2 (nI 0)) 0 3 (nI 0))
set_option maxHeartbeats 4000000 in
set_option maxRecDepth 100000 in
theorem ct_X7_isFaulty (l : Launch) (D : va_G) (a : Nat → Nat) (cI : ClassId) (hJ : mJ a) (N A P X : zM) (S : Nat) (hT : tOK S X) : mCi l yX7_isFaulty wsX7_isFaulty ({ frames := 5, cells := 0, slots := 0, locals := 109 } : Room) D a cI [.ref (a 0)] (N, A, P, X) (g_X7_isFaulty X) (N, A, P, hX_X7_isFaulty X) := by
  have hiX7 : ∀ w ∈ wsX70, w ∈ wsX7_isFaulty := by decide +kernel
  refine m_ofi (cc := cX7_isFaulty) (maxL := 2) (own := RX7) (by decide) rfl (Nat.le_of_ble_eq_true rfl) rfl (fun p e s m below meth c ls hx hb hr hml hts hown hlk hl hK hP hS => ?_)
  have hl : lv_has ls 2 [(0, .ref (a 0))] := hl
  have lp12 : ∀ (n : Nat) (more : Int32) (X : zM) (H : Heap) (locs : List Loc) (ls : Array Slot) (hn : n ≤ 103 ∧ ((more = nI 0 ∧ 1 ≤ n) ∨ (more = nI 1 ∧ zc (X 0 2) ≤ zc (X 0 1) ∧ zc (X 0 1) + 2 ≤ zc (X 0 2) + n))) (hT : tOK (10 * (104 - n)) X) (hl : lv_has ls 2 [(0, .ref (a 0)), (1, .int more)]) (hP : va_P D vwCl (mW a cI (N, A, P, X)) H) (hS : va_S (mA a) s.heap H locs), W p l e ({ frames := 5, cells := 0, slots := 0, locals := 109 } : Room) s m ([.ref (a 0)] : List Value).toArray below meth c H locs 0 0 (mQi below D a cI [.ref (a 0)] s (g_X7_isFaulty_lp n more X) (N, A, P, hX_X7_isFaulty_lp n more X)) (F0 m 12 ls []) := by
    intro n
    induction n with
    | zero =>
      intro more X H locs ls hn hT hl hP hS
      exfalso; rcases hn with ⟨_, ⟨_, h⟩ | ⟨_, h1, h2⟩⟩ <;> omega
    | succ n ih =>
      intro more X H locs ls hn hT hl hP hS
      refine lv_iload_n hx hb dX7_isFaulty_12 rfl (lv_at hl 1 rfl) ?_
      refine lv_if_eq (tgt := 70) hx hb dX7_isFaulty_13 (by decide) (fun c13_1 => ?_) (fun c13_1 => ?_)
      · refine lv_aload_n hx hb dX7_isFaulty_70 rfl (lv_at hl 0 rfl) ?_
        refine mgO7 hx hb hts hiX7 hown hK hP (hts (.fieldLink RX7 125 "BarrelProcessorModel" "isWrong" "Z") (by decide +kernel)) dX7_isFaulty_71 ?_
        exact m_reti hx hb hr hlk (m_nb hT.2.2) hP hS dX7_isFaulty_74 (by simp only [g_X7_isFaulty_lp, if_pos c13_1]) (m_eq rfl rfl rfl (by simp only [hX_X7_isFaulty_lp, if_pos c13_1]))
      · have hT1 := tOK_instruction hT (by omega)
        have hm := hn.2.resolve_left (fun q => c13_1 q.1)
        have hm2 := hm.2
        refine lv_aload_n hx hb dX7_isFaulty_16 rfl (lv_at hl 0 rfl) ?_
        refine m_cVv (As := []) (rest := []) ⟨hx, hb, hml, hown, hts⟩ (ct_X7_instruction l D a cI hJ N A P X _ hT (by omega)) (cwV 0 hts gX7_isFaulty_X7_instruction rfl rfl rfl (by decide +kernel) ⟨Nat.le_of_ble_eq_true rfl, Nat.le_of_ble_eq_true rfl⟩) hK hP hS (va_recv (ci := 7) hK hP rfl mG_O) rfl hl.1 rfl (Nat.le_of_ble_eq_true rfl) dX7_isFaulty_17 ⟨Nat.zero_le _, Nat.zero_le _⟩ (fun H locs hP hS => ?_)
        refine lv_aload_n hx hb dX7_isFaulty_20 rfl (lv_at hl 0 rfl) ?_
        refine mgO7 hx hb hts hiX7 hown hK hP (hts (.fieldLink RX7 125 "BarrelProcessorModel" "isWrong" "Z") (by decide +kernel)) dX7_isFaulty_21 ?_
        refine lv_if_ne (tgt := 42) hx hb dX7_isFaulty_24 (by decide) (fun c24_2 => ?_) (fun c24_2 => ?_)
        · refine lv_iconst (v := nI 0) hx hb dX7_isFaulty_42 (by decide) ?_
          refine lv_istore_n (lv' := [(1, .int (nI 0)), (0, .ref (a 0))]) hx hb dX7_isFaulty_43 rfl hl (by decide) rfl (fun ls hl => ?_)
          refine lv_iload_n hx hb dX7_isFaulty_44 rfl (lv_at hl 0 rfl) ?_
          refine lv_if_eq (tgt := 12) hx hb dX7_isFaulty_45 (by decide) (fun c45_3 => ?_) (fun c45_3 => absurd (by decide) c45_3)
          refine m_toi (r2 := g_X7_isFaulty_lp n (nI 0) (hX_X7_instruction X)) (Z2 := (N, A, P, hX_X7_isFaulty_lp n (nI 0) (hX_X7_instruction X))) (by simp only [g_X7_isFaulty_lp, if_neg c13_1, if_neg c24_2]) (m_eq rfl rfl rfl (by simp only [hX_X7_isFaulty_lp, if_neg c13_1, if_neg c24_2])) ?_
          exact ih (nI 0) (hX_X7_instruction X) _ _ _ ⟨by omega, Or.inl ⟨rfl, by omega⟩⟩ (tOK_up hT1 (by omega) (by omega)) (lv_sub hl [1, 0] rfl) hP hS
        · refine lv_aload_n hx hb dX7_isFaulty_27 rfl (lv_at hl 0 rfl) ?_
          refine mgO6 hx hb hts hiX7 hown hK hP (hts (.fieldLink RX7 88 "BarrelProcessorModel" "spot" "I") (by decide +kernel)) dX7_isFaulty_28 ?_
          refine z_val (z := nI (zc ((hX_X7_instruction X) 0 2))) hT1.2.1.1.2 ?_
          refine lv_aload_n hx hb dX7_isFaulty_31 rfl (lv_at hl 0 rfl) ?_
          refine mgO5 hx hb hts hiX7 hown hK hP (hts (.fieldLink RX7 81 "BarrelProcessorModel" "length" "I") (by decide +kernel)) dX7_isFaulty_32 ?_
          refine z_val (z := nI (zc ((hX_X7_instruction X) 0 1))) hT1.1.2 ?_
          refine lv_icmp_ge (tgt := 42) hx hb dX7_isFaulty_35 (by decide) (fun c35_4 => ?_) (fun c35_4 => ?_)
          · refine lv_iconst (v := nI 0) hx hb dX7_isFaulty_42 (by decide) ?_
            refine lv_istore_n (lv' := [(1, .int (nI 0)), (0, .ref (a 0))]) hx hb dX7_isFaulty_43 rfl hl (by decide) rfl (fun ls hl => ?_)
            refine lv_iload_n hx hb dX7_isFaulty_44 rfl (lv_at hl 0 rfl) ?_
            refine lv_if_eq (tgt := 12) hx hb dX7_isFaulty_45 (by decide) (fun c45_5 => ?_) (fun c45_5 => absurd (by decide) c45_5)
            refine m_toi (r2 := g_X7_isFaulty_lp n (nI 0) (hX_X7_instruction X)) (Z2 := (N, A, P, hX_X7_isFaulty_lp n (nI 0) (hX_X7_instruction X))) (by simp only [g_X7_isFaulty_lp, if_neg c13_1, if_pos c24_2, if_pos c35_4]) (m_eq rfl rfl rfl (by simp only [hX_X7_isFaulty_lp, if_neg c13_1, if_pos c24_2, if_pos c35_4])) ?_
            exact ih (nI 0) (hX_X7_instruction X) _ _ _ ⟨by omega, Or.inl ⟨rfl, by omega⟩⟩ (tOK_up hT1 (by omega) (by omega)) (lv_sub hl [1, 0] rfl) hP hS
          · have b5 : zc ((hX_X7_instruction X) 0 2) < zc ((hX_X7_instruction X) 0 1) := Nat.lt_of_not_le (fun q => c35_4 (nI_le q (by have h9 := hT1.2.1.1.1; omega)))
            refine lv_iconst (v := nI 1) hx hb dX7_isFaulty_38 (by decide) ?_
            refine lv_goto (tgt := 43) hx hb dX7_isFaulty_39 (by decide) ?_
            refine lv_istore_n (lv' := [(1, .int (nI 1)), (0, .ref (a 0))]) hx hb dX7_isFaulty_43 rfl hl (by decide) rfl (fun ls hl => ?_)
            refine lv_iload_n hx hb dX7_isFaulty_44 rfl (lv_at hl 0 rfl) ?_
            refine lv_if_eq (tgt := 12) hx hb dX7_isFaulty_45 (by decide) (fun c45_6 => absurd c45_6 (by decide)) (fun c45_6 => ?_)
            refine lv_aload_n hx hb dX7_isFaulty_48 rfl (lv_at hl 1 rfl) ?_
            refine lv_bipush (v := nI 59) hx hb dX7_isFaulty_49 (by decide) ?_
            refine m_cVv (As := [.int (nI 59)]) (rest := []) ⟨hx, hb, hml, hown, hts⟩ (ct_X7_sign l D a cI hJ N A P (hX_X7_instruction X) (nI 59) _ hT1) (cwV 1 hts gX7_isFaulty_X7_sign rfl rfl rfl (by decide +kernel) ⟨Nat.le_of_ble_eq_true rfl, Nat.le_of_ble_eq_true rfl⟩) hK hP hS (va_recv (ci := 7) hK hP rfl mG_O) rfl hl.1 rfl (Nat.le_of_ble_eq_true rfl) dX7_isFaulty_51 ⟨Nat.zero_le _, Nat.zero_le _⟩ (fun H locs hP hS => ?_)
            refine lv_aload_n hx hb dX7_isFaulty_54 rfl (lv_at hl 1 rfl) ?_
            refine mgO7 hx hb hts hiX7 hown hK hP (hts (.fieldLink RX7 125 "BarrelProcessorModel" "isWrong" "Z") (by decide +kernel)) dX7_isFaulty_55 ?_
            refine lv_if_ne (tgt := 65) hx hb dX7_isFaulty_58 (by decide) (fun c58_7 => ?_) (fun c58_7 => ?_)
            · refine lv_iconst (v := nI 0) hx hb dX7_isFaulty_65 (by decide) ?_
              refine lv_istore_n (lv' := [(1, .int (nI 0)), (0, .ref (a 0))]) hx hb dX7_isFaulty_66 rfl hl (by decide) rfl (fun ls hl => ?_)
              refine lv_goto (tgt := 12) hx hb dX7_isFaulty_67 (by decide) ?_
              refine m_toi (r2 := g_X7_isFaulty_lp n (nI 0) (hX_X7_sign (nI 59) (hX_X7_instruction X))) (Z2 := (N, A, P, hX_X7_isFaulty_lp n (nI 0) (hX_X7_sign (nI 59) (hX_X7_instruction X)))) (by simp only [g_X7_isFaulty_lp, if_neg c13_1, if_pos c24_2, if_neg c35_4, if_neg c58_7]) (m_eq rfl rfl rfl (by simp only [hX_X7_isFaulty_lp, if_neg c13_1, if_pos c24_2, if_neg c35_4, if_neg c58_7])) ?_
              exact ih (nI 0) (hX_X7_sign (nI 59) (hX_X7_instruction X)) _ _ _ ⟨by omega, Or.inl ⟨rfl, by omega⟩⟩ (tOK_up (tOK_sign hT1 (by omega)) (by omega) (by omega)) (lv_sub hl [1, 0] rfl) hP hS
            · refine lv_iconst (v := nI 1) hx hb dX7_isFaulty_61 (by decide) ?_
              refine lv_goto (tgt := 66) hx hb dX7_isFaulty_62 (by decide) ?_
              refine lv_istore_n (lv' := [(1, .int (nI 1)), (0, .ref (a 0))]) hx hb dX7_isFaulty_66 rfl hl (by decide) rfl (fun ls hl => ?_)
              refine lv_goto (tgt := 12) hx hb dX7_isFaulty_67 (by decide) ?_
              refine m_toi (r2 := g_X7_isFaulty_lp n (nI 1) (hX_X7_sign (nI 59) (hX_X7_instruction X))) (Z2 := (N, A, P, hX_X7_isFaulty_lp n (nI 1) (hX_X7_sign (nI 59) (hX_X7_instruction X)))) (by simp only [g_X7_isFaulty_lp, if_neg c13_1, if_pos c24_2, if_neg c35_4, if_pos c58_7]) (m_eq rfl rfl rfl (by simp only [hX_X7_isFaulty_lp, if_neg c13_1, if_pos c24_2, if_neg c35_4, if_pos c58_7])) ?_
              exact ih (nI 1) (hX_X7_sign (nI 59) (hX_X7_instruction X)) _ _ _ ⟨by omega, Or.inr ⟨rfl, isf_step hT (by omega) c24_2 b5 c58_7 (by omega)⟩⟩ (tOK_up (tOK_sign hT1 (by omega)) (by omega) (by omega)) (lv_sub hl [1, 0] rfl) hP hS
  refine lv_aload_n hx hb dX7_isFaulty_0 rfl (lv_at hl 0 rfl) ?_
  refine lv_iconst (v := nI 0) hx hb dX7_isFaulty_1 (by decide) ?_
  refine mpO6 hx hb hts hiX7 hown hK hP hJ hS (hts (.fieldLink RX7 88 "BarrelProcessorModel" "spot" "I") (by decide +kernel)) dX7_isFaulty_2 (fun H locs hP hS => ?_)
  refine lv_aload_n hx hb dX7_isFaulty_5 rfl (lv_at hl 0 rfl) ?_
  refine lv_iconst (v := nI 0) hx hb dX7_isFaulty_6 (by decide) ?_
  refine mpO7 hx hb hts hiX7 hown hK hP hJ hS (by first | exact Or.inl rfl | exact Or.inr rfl | exact hw) (hts (.fieldLink RX7 125 "BarrelProcessorModel" "isWrong" "Z") (by decide +kernel)) dX7_isFaulty_7 (fun H locs hP hS => ?_)
  refine lv_iconst (v := nI 1) hx hb dX7_isFaulty_10 (by decide) ?_
  refine lv_istore_n (lv' := [(1, .int (nI 1)), (0, .ref (a 0))]) hx hb dX7_isFaulty_11 rfl hl (by decide) rfl (fun ls hl => ?_)
  refine m_toi (r2 := g_X7_isFaulty_lp 103 (nI 1) (zu (zu X 0 2 (nI 0)) 0 3 (nI 0))) (Z2 := (N, A, P, hX_X7_isFaulty_lp 103 (nI 1) (zu (zu X 0 2 (nI 0)) 0 3 (nI 0)))) (by first | rfl | simp only [g_X7_isFaulty]) (m_eq rfl rfl rfl (by first | rfl | simp only [hX_X7_isFaulty])) ?_
  exact lp12 103 (nI 1) (zu (zu X 0 2 (nI 0)) 0 3 (nI 0)) _ _ _ (isf_start hT) (tOK_3 (tOK_2 (S' := 10 * (104 - 103)) hT (by decide) (by decide)) (Or.inl rfl)) (lv_sub hl [1, 0] rfl) hP hS
