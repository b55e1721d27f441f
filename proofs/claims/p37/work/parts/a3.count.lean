/-! the counters and the trace hang together -/
def tr (M : zM) (ago part : Nat) : Int32 := M 19 (((zc (M 18 0) + 15 - ago) % 16) * 3 + part)
def sxf (f : Nat → Int32) : Nat := zc (f 0) + zc (f 1) + zc (f 2) + zc (f 3)
def ct1 (B : Nat) (M : zM) : Prop := zIn (M 16 0) (B + 1) ∧ zIn (M 17 0) (B + 1) ∧ (∀ t, t < 4 → zIn (M 6 t) (B + 1) ∧ zIn (M 7 t) (B + 1) ∧ zIn (M 8 t) (B + 1) ∧ zIn (M 9 t) (B + 1)) ∧ sxf (M 6) + zc (M 17 0) = zc (M 16 0) ∧ (∀ t, t < 4 → zc (M 7 t) ≤ zc (M 6 t) ∧ zc (M 8 t) ≤ zc (M 16 0) ∧ zc (M 9 t) ≤ zc (M 16 0)) ∧ (zIn (M 18 0) 16 ∧ zIn (M 18 1) 17 ∧ zc (M 18 1) = (if sxf (M 6) < 16 then sxf (M 6) else 16)) ∧ (∀ ago, ago < zc (M 18 1) → zIn (tr M ago 0) (B + 1) ∧ zIn (tr M ago 1) 4 ∧ zIn (tr M ago 2) 49 ∧ zc (tr M ago 0) < (if ago = 0 then zc (M 16 0) else zc (tr M (ago - 1) 0)))
theorem ct1_up {B B' : Nat} {M : zM} (h : ct1 B M) (hB : B ≤ B') : ct1 B' M := by
  obtain ⟨h1, h2, h3, h4, h5, h6, h7⟩ := h
  refine ⟨zIn_up h1 (by omega), zIn_up h2 (by omega), fun t ht => ?_, h4, h5, h6, fun ago ha => ?_⟩
  · obtain ⟨a, b, c, d⟩ := h3 t ht
    exact ⟨zIn_up a (by omega), zIn_up b (by omega), zIn_up c (by omega), zIn_up d (by omega)⟩
  · obtain ⟨a, b, c, d⟩ := h7 ago ha
    exact ⟨zIn_up a (by omega), b, c, d⟩
theorem ct1_of {B : Nat} {M N : zM} (h : ct1 B M) (e : ∀ c, (6 ≤ c ∧ c < 10) ∨ (16 ≤ c ∧ c < 20) → N c = M c) : ct1 B N := by
  have et : ∀ ago p, tr N ago p = tr M ago p := by
    intro ago p
    unfold tr
    rw [e 18 (by omega), e 19 (by omega)]
  unfold ct1
  rw [e 16 (by omega), e 17 (by omega), e 6 (by omega), e 7 (by omega), e 8 (by omega), e 9 (by omega), e 18 (by omega)]
  obtain ⟨h1, h2, h3, h4, h5, h6, h7⟩ := h
  refine ⟨h1, h2, h3, h4, h5, h6, fun ago ha => ?_⟩
  rw [et, et, et, et]
  exact h7 ago ha
theorem zIn_s {x : Int32} {n : Nat} (h : zIn x n) (hn : n < 2 ^ 31) : zIn (x + nI 1) (n + 1) ∧ zc (x + nI 1) = zc x + 1 := by
  have h1 := h.1
  rw [show x + nI 1 = nI (zc x) + nI 1 by rw [← h.2], nI_add]
  exact ⟨zIn_nI (by omega) (by omega), zc_nI (by omega)⟩
theorem cc_b {b i : Nat} {x : Int32} {M : zM} (hb : b < 2 ^ 31) (h8 : zIn (M 8 i) b) (h9 : zIn (M 9 i) b) : (zIn ((h_X0_countCycle i x M) 8 i) (b + 1) ∧ zIn ((h_X0_countCycle i x M) 9 i) (b + 1)) ∧ ∀ t, t ≠ i → (h_X0_countCycle i x M) 8 t = M 8 t ∧ (h_X0_countCycle i x M) 9 t = M 9 t := by
  have step : ∀ v, zIn v (b + 1) → (zIn ((zu (zu M 8 i v) 9 i (if ((zu M 8 i v) 9 i) < ((zu M 8 i v) 8 i) then ((zu M 8 i v) 8 i) else ((zu M 8 i v) 9 i))) 8 i) (b + 1) ∧ zIn ((zu (zu M 8 i v) 9 i (if ((zu M 8 i v) 9 i) < ((zu M 8 i v) 8 i) then ((zu M 8 i v) 8 i) else ((zu M 8 i v) 9 i))) 9 i) (b + 1)) ∧ ∀ t, t ≠ i → (zu (zu M 8 i v) 9 i (if ((zu M 8 i v) 9 i) < ((zu M 8 i v) 8 i) then ((zu M 8 i v) 8 i) else ((zu M 8 i v) 9 i))) 8 t = M 8 t ∧ (zu (zu M 8 i v) 9 i (if ((zu M 8 i v) 9 i) < ((zu M 8 i v) 8 i) then ((zu M 8 i v) 8 i) else ((zu M 8 i v) 9 i))) 9 t = M 9 t := by
    intro v hv
    have e8 : (zu M 8 i v) 8 i = v := zu_s _ _ _ _
    have e9 : (zu M 8 i v) 9 = M 9 := zu_c _ _ _ (by decide)
    rw [e8, e9]
    refine ⟨⟨?_, ?_⟩, fun t ht => ⟨?_, ?_⟩⟩
    · rw [zu_c _ _ _ (by decide), zu_s]
      exact hv
    · rw [zu_s]
      exact z_ite (P := fun x => zIn x (b + 1)) (fun _ => hv) (fun _ => zIn_up h9 (by omega))
    · rw [zu_c _ _ _ (by decide), zu_i _ _ _ ht]
    · rw [zu_i _ _ _ ht, e9]
  unfold h_X0_countCycle
  by_cases c : x = 0
  · rw [if_pos c]
    exact step _ (zIn_nI (by omega) (by omega))
  · rw [if_neg c]
    exact step _ (zIn_s h8 hb).1
theorem cs_b {b : Nat} {x : Int32} (hb : b < 2 ^ 31) : ∀ (n i : Nat) (M : zM), i + n = 4 → (∀ t, t < i → zIn (M 8 t) (b + 1) ∧ zIn (M 9 t) (b + 1)) → (∀ t, i ≤ t → t < 4 → zIn (M 8 t) b ∧ zIn (M 9 t) b) → ∀ t, t < 4 → zIn ((h_X3_countStarving_lp x n i M) 8 t) (b + 1) ∧ zIn ((h_X3_countStarving_lp x n i M) 9 t) (b + 1) := by
  intro n
  induction n with
  | zero => exact fun i M hi h1 _ t ht => h1 t (by omega)
  | succ n ih =>
    intro i M hi h1 h2 t ht
    have go : ∀ y, zIn ((h_X3_countStarving_lp x n (i + 1) (h_X0_countCycle i y M)) 8 t) (b + 1) ∧ zIn ((h_X3_countStarving_lp x n (i + 1) (h_X0_countCycle i y M)) 9 t) (b + 1) := by
      intro y
      obtain ⟨a1, a2⟩ := h2 i (Nat.le_refl _) (by omega)
      obtain ⟨k1, k2⟩ := cc_b (x := y) hb a1 a2
      refine ih (i + 1) _ (by omega) (fun u hu => ?_) (fun u hu hu4 => ?_) t ht
      · by_cases e : u = i
        · rw [e]
          exact k1
        · rw [(k2 u e).1, (k2 u e).2]
          exact h1 u (by omega)
      · rw [(k2 u (by omega)).1, (k2 u (by omega)).2]
        exact h2 u (by omega) hu4
    simp only [h_X3_countStarving_lp]
    by_cases c1 : M 0 i = nI 1
    · rw [if_pos c1]
      by_cases c2 : nI i = x
      · rw [if_pos c2]
        exact go _
      · rw [if_neg c2]
        exact go _
    · rw [if_neg c1]
      exact go _
theorem sx_up {f : Nat → Int32} {t : Nat} {x : Int32} (ht : t < 4) : sxf (upd f t x) + zc (f t) = sxf f + zc x := by
  have e : ∀ j, upd f t x j = if j = t then x else f j := fun j => rfl
  unfold sxf
  rw [e, e, e, e]
  match t, ht with
  | 0, _ =>
    rw [if_pos rfl, if_neg (by decide), if_neg (by decide), if_neg (by decide)]
    omega
  | 1, _ =>
    rw [if_neg (by decide), if_pos rfl, if_neg (by decide), if_neg (by decide)]
    omega
  | 2, _ =>
    rw [if_neg (by decide), if_neg (by decide), if_pos rfl, if_neg (by decide)]
    omega
  | 3, _ =>
    rw [if_neg (by decide), if_neg (by decide), if_neg (by decide), if_pos rfl]
    omega
  | n + 4, h => exact absurd h (by omega)
theorem sx_le {f : Nat → Int32} {t : Nat} (ht : t < 4) : zc (f t) ≤ sxf f := by
  unfold sxf
  match t, ht with
  | 0, _ => omega
  | 1, _ => omega
  | 2, _ => omega
  | 3, _ => omega
  | n + 4, h => exact absurd h (by omega)
theorem nt_18 (x y z : Int32) (A : zM) : (h_X5_note x y z A) 18 0 = nI ((zc (A 18 0) + 1) % 16) ∧ (h_X5_note x y z A) 18 1 = (if (nI 16) < (nI (zc (A 18 1) + 1)) then (nI 16) else (nI (zc (A 18 1) + 1))) := by
  unfold h_X5_note
  rw [zu_i _ _ _ (by decide), zu_s, zu_s]
  exact ⟨rfl, rfl⟩
theorem nt_19 (x y z : Int32) (A : zM) : ∀ q, (h_X5_note x y z A) 19 q = (zu (zu (zu A 19 ((zc (A 18 0)) * 3) x) 19 ((zc (A 18 0)) * 3 + 1) y) 19 ((zc (A 18 0)) * 3 + 2) z) 19 q := by
  intro q
  unfold h_X5_note
  rw [zu_c _ _ _ (by decide), zu_c _ _ _ (by decide)]
theorem nt_0 {x y z : Int32} {A : zM} (hn : zIn (A 18 0) 16) : tr (h_X5_note x y z A) 0 0 = x ∧ tr (h_X5_note x y z A) 0 1 = y ∧ tr (h_X5_note x y z A) 0 2 = z := by
  have h1 := hn.1
  unfold tr
  rw [(nt_18 x y z A).1, zc_nI (by omega), show ((zc (A 18 0) + 1) % 16 + 15 - 0) % 16 = zc (A 18 0) by omega, nt_19, nt_19, nt_19]
  refine ⟨?_, ?_, ?_⟩
  · rw [zu_i _ _ _ (by omega), zu_i _ _ _ (by omega), Nat.add_zero, zu_s]
  · rw [zu_i _ _ _ (by omega), zu_s]
  · rw [zu_s]
theorem nt_s {x y z : Int32} {A : zM} {ago p : Nat} (hn : zIn (A 18 0) 16) (h0 : 0 < ago) (h2 : ago < 16) (hp : p < 3) : tr (h_X5_note x y z A) ago p = tr A (ago - 1) p := by
  have h1 := hn.1
  unfold tr
  rw [(nt_18 x y z A).1, zc_nI (by omega), nt_19]
  have r1 : ((zc (A 18 0) + 1) % 16 + 15 - ago) % 16 = (zc (A 18 0) + 15 - (ago - 1)) % 16 := by omega
  have r2 : (zc (A 18 0) + 15 - (ago - 1)) % 16 ≠ zc (A 18 0) := by omega
  rw [r1, zu_i _ _ _ (by omega), zu_i _ _ _ (by omega), zu_i _ _ _ (by omega)]
theorem nt_n {x y z : Int32} {A : zM} (h : zIn (A 18 1) 17) : zIn ((h_X5_note x y z A) 18 1) 17 ∧ zc ((h_X5_note x y z A) 18 1) = (if zc (A 18 1) < 16 then zc (A 18 1) + 1 else 16) := by
  have h1 := h.1
  rw [(nt_18 x y z A).2]
  by_cases c : zc (A 18 1) < 16
  · rw [if_neg (nI_nlt (by omega) (by decide)), if_pos c]
    exact ⟨zIn_nI (by omega) (by decide), zc_nI (by omega)⟩
  · rw [if_pos (nI_lt (by omega) (by omega)), if_neg c]
    exact ⟨zIn_nI (by omega) (by decide), zc_nI (by decide)⟩
/-- a cycle in which no thread issues -/
theorem ct1_idle {B : Nat} {M N : zM} (hB : B + 2 < 2 ^ 31) (h : ct1 B M) (e16 : N 16 0 = M 16 0 + nI 1) (e17 : N 17 0 = M 17 0 + nI 1) (e : ∀ c, c = 6 ∨ c = 7 ∨ c = 18 ∨ c = 19 → N c = M c) (h8 : ∀ t, t < 4 → zIn (N 8 t) (zc (M 16 0) + 2) ∧ zIn (N 9 t) (zc (M 16 0) + 2)) : ct1 (B + 1) N := by
  obtain ⟨h1, h2, h3, h4, h5, h6, h7⟩ := h
  have a1 := h1.1
  have s16 := zIn_s h1 (by omega)
  have s17 := zIn_s h2 (by omega)
  have et : ∀ ago p, tr N ago p = tr M ago p := by
    intro ago p
    unfold tr
    rw [e 18 (by omega), e 19 (by omega)]
  unfold ct1
  rw [e16, e17, e 6 (by omega), e 7 (by omega), e 18 (by omega), s16.2, s17.2]
  refine ⟨s16.1, s17.1, fun t ht => ?_, by omega, fun t ht => ?_, h6, fun ago ha => ?_⟩
  · obtain ⟨b1, b2, b3, b4⟩ := h3 t ht
    exact ⟨zIn_up b1 (by omega), zIn_up b2 (by omega), zIn_up (h8 t ht).1 (by omega), zIn_up (h8 t ht).2 (by omega)⟩
  · have b8 := (h8 t ht).1.1
    have b9 := (h8 t ht).2.1
    exact ⟨(h5 t ht).1, by omega, by omega⟩
  · rw [et, et, et, et]
    obtain ⟨b1, b2, b3, b4⟩ := h7 ago ha
    refine ⟨zIn_up b1 (by omega), b2, b3, ?_⟩
    by_cases c : ago = 0
    · rw [if_pos c] at b4 ⊢
      omega
    · rw [if_neg c] at b4 ⊢
      exact b4
/-- a cycle in which thread t issues -/
theorem ct1_issue {B t : Nat} {M N A : zM} {z : Int32} (hB : B + 2 < 2 ^ 31) (ht4 : t < 4) (h : ct1 B M) (hz : zIn z 49) (e16 : N 16 0 = M 16 0 + nI 1) (e17 : N 17 0 = M 17 0) (e6 : N 6 = upd (M 6) t (M 6 t + nI 1)) (e7 : N 7 = M 7 ∨ N 7 = upd (M 7) t (M 7 t + nI 1)) (e18 : N 18 = (h_X5_note (M 16 0) (nI t) z A) 18) (e19 : N 19 = (h_X5_note (M 16 0) (nI t) z A) 19) (eA : A 18 = M 18 ∧ A 19 = M 19) (h8 : ∀ t, t < 4 → zIn (N 8 t) (zc (M 16 0) + 2) ∧ zIn (N 9 t) (zc (M 16 0) + 2)) : ct1 (B + 1) N := by
  obtain ⟨h1, h2, h3, h4, h5, ⟨h60, h61, h62⟩, h7⟩ := h
  have a1 := h1.1
  have s16 := zIn_s h1 (by omega)
  have et : ∀ ago p, tr N ago p = tr (h_X5_note (M 16 0) (nI t) z A) ago p := by
    intro ago p
    unfold tr
    rw [e18, e19]
  have eAt : ∀ ago p, tr A ago p = tr M ago p := by
    intro ago p
    unfold tr
    rw [eA.1, eA.2]
  have hA0 : zIn (A 18 0) 16 := by
    rw [eA.1]
    exact h60
  have hA1 : zIn (A 18 1) 17 := by
    rw [eA.1]
    exact h61
  have nn := @nt_n (M 16 0) (nI t) z A hA1
  have s6 := zIn_s (h3 t ht4).1 (by omega)
  have s7 := zIn_s (h3 t ht4).2.1 (by omega)
  have l6 := sx_le (f := M 6) ht4
  have u6 : ∀ u, N 6 u = if u = t then M 6 t + nI 1 else M 6 u := fun u => by
    rw [e6]
    rfl
  have hsx : sxf (N 6) = sxf (M 6) + 1 := by
    have k := sx_up (f := M 6) (x := M 6 t + nI 1) ht4
    rw [← e6, s6.2] at k
    omega
  have hn18 : zc (N 18 1) = (if zc (M 18 1) < 16 then zc (M 18 1) + 1 else 16) := by
    rw [e18, nn.2, eA.1]
  have h7n : ∀ u, u < 4 → zIn (N 7 u) (B + 2) ∧ zc (N 7 u) ≤ zc (N 6 u) := by
    intro u hu
    have q := (h5 u hu).1
    rw [u6]
    rcases e7 with e7 | e7
    · rw [e7]
      refine ⟨zIn_up (h3 u hu).2.1 (by omega), ?_⟩
      by_cases c : u = t
      · rw [if_pos c, s6.2]
        rw [c] at q ⊢
        omega
      · rw [if_neg c]
        exact q
    · rw [e7]
      show zIn (if u = t then M 7 t + nI 1 else M 7 u) (B + 2) ∧ zc (if u = t then M 7 t + nI 1 else M 7 u) ≤ _
      by_cases c : u = t
      · rw [if_pos c, if_pos c, s6.2, s7.2]
        rw [c] at q
        exact ⟨s7.1, by omega⟩
      · rw [if_neg c, if_neg c]
        exact ⟨zIn_up (h3 u hu).2.1 (by omega), q⟩
  unfold ct1
  rw [e16, e17, s16.2, hsx]
  refine ⟨s16.1, zIn_up h2 (by omega), fun u hu => ?_, by omega, fun u hu => ?_, ⟨?_, ?_, ?_⟩, fun ago ha => ?_⟩
  · refine ⟨?_, (h7n u hu).1, zIn_up (h8 u hu).1 (by omega), zIn_up (h8 u hu).2 (by omega)⟩
    rw [u6]
    exact z_ite (P := fun x => zIn x (B + 1 + 1)) (fun _ => s6.1) (fun _ => zIn_up (h3 u hu).1 (by omega))
  · have b8 := (h8 u hu).1.1
    have b9 := (h8 u hu).2.1
    exact ⟨(h7n u hu).2, by omega, by omega⟩
  · rw [e18, (nt_18 _ _ _ _).1]
    exact zIn_nI (Nat.mod_lt _ (by decide)) (by decide)
  · rw [e18]
    exact nn.1
  · rw [hn18, h62]
    by_cases c : sxf (M 6) < 16
    · rw [if_pos c, if_pos c]
      by_cases c2 : sxf (M 6) + 1 < 16
      · rw [if_pos c2]
      · rw [if_neg c2]
        omega
    · rw [if_neg c, if_neg (show ¬ 16 < 16 by decide), if_neg (by omega)]
  · have h18 := h61.1
    have ha2 : ago < 16 ∧ (0 < ago → ago - 1 < zc (M 18 1)) := by
      rw [hn18] at ha
      by_cases c : zc (M 18 1) < 16
      · rw [if_pos c] at ha
        omega
      · rw [if_neg c] at ha
        omega
    rw [et, et, et, et]
    by_cases c : ago = 0
    · subst c
      obtain ⟨b0, b1, b2⟩ := @nt_0 (M 16 0) (nI t) z A hA0
      rw [b0, b1, b2, if_pos rfl]
      exact ⟨zIn_up h1 (by omega), zIn_nI ht4 (by decide), hz, by omega⟩
    · rw [if_neg c, nt_s hA0 (by omega) ha2.1 (by decide), nt_s hA0 (by omega) ha2.1 (by decide), nt_s hA0 (by omega) ha2.1 (by decide), eAt, eAt, eAt]
      obtain ⟨b1, b2, b3, b4⟩ := h7 (ago - 1) (ha2.2 (by omega))
      refine ⟨zIn_up b1 (by omega), b2, b3, ?_⟩
      by_cases c1 : ago - 1 = 0
      · rw [if_pos c1] at b4
        rw [c1, (@nt_0 (M 16 0) (nI t) z A hA0).1]
        rw [c1] at b4
        exact b4
      · rw [if_neg c1] at b4
        rw [nt_s hA0 (by omega) (by omega) (by decide), eAt]
        exact b4
theorem ct1_cycle {B : Nat} {M : zM} (hB : B + 2 < 2 ^ 31) (hs : st1 M) (h : ct1 B M) : ct1 (B + 1) (h_X3_runCycle M) := by
  unfold h_X3_runCycle
  have e2 : ∀ c, 1 ≤ c ∧ c < 20 → (h_X3_openBarrier (h_X3_finishLoads M)) c = M c := fun c hc => kc_prep hc M
  have s2 := st1_prep hs
  generalize h_X3_openBarrier (h_X3_finishLoads M) = M2 at *
  have e3 : ∀ c, 1 ≤ c ∧ c < 20 ∧ c ≠ 8 ∧ c ≠ 9 → (h_X3_countStarving (g_X3_findIssuer M2) M2) c = M c := fun c hc => (kc_cs (by omega) _ _ _ _).trans (e2 c (by omega))
  have s3 : st1 (h_X3_countStarving (g_X3_findIssuer M2) M2) := st1_cs s2
  have b3 : ∀ t, t < 4 → zIn ((h_X3_countStarving (g_X3_findIssuer M2) M2) 8 t) (zc (M 16 0) + 1 + 1) ∧ zIn ((h_X3_countStarving (g_X3_findIssuer M2) M2) 9 t) (zc (M 16 0) + 1 + 1) := by
    have a1 := h.1.1
    refine cs_b (b := zc (M 16 0) + 1) (by omega) 4 0 M2 rfl (fun t ht => absurd ht (Nat.not_lt_zero _)) (fun t _ ht => ?_)
    rw [e2 8 (by omega), e2 9 (by omega)]
    have q := h.2.2.2.2.1 t ht
    have p := h.2.2.1 t ht
    exact ⟨⟨by omega, p.2.2.1.2⟩, ⟨by omega, p.2.2.2.2⟩⟩
  generalize h_X3_countStarving (g_X3_findIssuer M2) M2 = M3 at *
  by_cases c : g_X6_isThread (g_X3_findIssuer M2) = 0
  · rw [if_pos c]
    refine ct1_idle hB h ?_ ?_ (fun c hc => ?_) (fun t ht => ?_)
    · rw [zu_s, zu_c _ _ _ (by decide), e3 16 (by decide)]
    · rw [zu_c _ _ _ (by decide), zu_s, e3 17 (by decide)]
    · rw [zu_c _ _ _ (by omega), zu_c _ _ _ (by omega)]
      exact e3 c (by omega)
    · rw [zu_c _ _ _ (by decide), zu_c _ _ _ (by decide), zu_c _ _ _ (by decide), zu_c _ _ _ (by decide)]
      exact b3 t ht
  · rw [if_neg c]
    have ht := (z_isThread c).1
    generalize zc (g_X3_findIssuer M2) = t at *
    have e5 : ∀ c, 5 ≤ c ∧ c < 20 ∧ c ≠ 13 → (h_X3_executeNext t (h_X3_noteIssue t M3)) c = (h_X3_noteIssue t M3) c := fun c hc => kc_ex hc _ _
    obtain ⟨A, f1, f2, f3, f4⟩ := ni_form t M3
    generalize h_X3_executeNext t (h_X3_noteIssue t M3) = M5 at *
    rw [f1] at e5
    have g : ∀ c, c = 8 ∨ c = 9 ∨ c = 16 ∨ c = 17 → M5 c = M3 c := by
      intro c hc
      rw [e5 c (by omega), kc_nt (by omega) (by omega)]
      exact f4 c (by omega) (by omega) (by omega)
    have e16 : M3 16 0 = M 16 0 := by rw [e3 16 (by decide)]
    rw [e16] at e5
    refine ct1_issue (A := A) (z := M3 1 t) hB ht h (s3.2.1 t ht) ?_ ?_ ?_ ?_ ?_ ?_ ⟨?_, ?_⟩ (fun u hu => ?_)
    · rw [zu_s, g 16 (by omega), e16]
    · rw [zu_c _ _ _ (by decide), g 17 (by omega), e3 17 (by decide)]
    · rw [zu_c _ _ _ (by decide), e5 6 (by omega), kc_nt (by decide) (by decide), f2, e3 6 (by decide)]
    · rw [zu_c _ _ _ (by decide), e5 7 (by omega), kc_nt (by decide) (by decide), ← e3 7 (by decide)]
      exact f3
    · rw [zu_c _ _ _ (by decide), e5 18 (by omega)]
    · rw [zu_c _ _ _ (by decide), e5 19 (by omega)]
    · rw [f4 18 (by decide) (by decide) (by decide), e3 18 (by decide)]
    · rw [f4 19 (by decide) (by decide) (by decide), e3 19 (by decide)]
    · rw [zu_c _ _ _ (by decide), zu_c _ _ _ (by decide), g 8 (by omega), g 9 (by omega)]
      exact b3 u hu
