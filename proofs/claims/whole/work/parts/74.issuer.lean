/-! the issuing thread -/
def iR (x y : Int32) : Prop := (x = (-100005) ∧ y = (-1)) ∨ ∃ t, t < 4 ∧ x = nI t ∧ y = nI t
theorem q_tn {x : Int32} {n : Nat} (h : zIn x n) (hn : n ≤ 2 ^ 31) : x.toBitVec.toNat = zc x := by
  have h1 := h.1
  have h2 := h.2
  generalize zc x = j at h1 h2
  subst h2
  show (BitVec.ofNat 32 j).toNat = j
  rw [BitVec.toNat_ofNat, Nat.mod_eq_of_lt (by omega)]
theorem q_rI {N : zM} {t : Nat} : g_X7_isReady t N = 0 ↔ ¬ N 0 t = nI 1 := by
  unfold g_X7_isReady
  by_cases c : N 0 t = nI 1
  · rw [if_pos c]
    exact ⟨fun q => absurd q (by decide), fun q => absurd c q⟩
  · rw [if_neg c]
    exact ⟨fun _ => c, fun _ => by decide⟩
theorem q_t1 {t : Nat} (ht : t < 4) : ¬ nI t = (-1) := z4 (P := fun t => ¬ nI t = (-1)) (by decide) (by decide) (by decide) (by decide) ht
theorem q_t5 {t : Nat} (ht : t < 4) : ¬ nI t = (-100005) := z4 (P := fun t => ¬ nI t = (-100005)) (by decide) (by decide) (by decide) (by decide) ht
theorem iss_long {ready : Int32} {M N : zM} (hr : ∀ t, t < 4 → ((¬ g_X3_isIn ready (nI t) = 0) ↔ N 0 t = nI 1)) (e5 : M 5 = N 5) (h2 : N 15 1 = nI 2) : ∀ (n i : Nat) (lo ea f : Int32), i + n = 4 → ((lo = (-100005) ∧ f = (-1)) ∨ ∃ t, t < 4 ∧ lo = nI t ∧ f = nI t ∧ ea = M 5 t) → iR (g_X3_findLongestWaiting_lp ready n lo ea i M) (g_X7_issuing_lq n f i N) := by
  intro n
  induction n with
  | zero =>
    intro i lo ea f hn h
    rcases h with ⟨h1, h3⟩ | ⟨t, ht, h1, h3, _⟩
    · exact Or.inl ⟨h1, h3⟩
    · exact Or.inr ⟨t, ht, h1, h3⟩
  | succ n ih =>
    intro i lo ea f hn h
    simp only [g_X3_findLongestWaiting_lp, g_X7_issuing_lq]
    rw [if_pos h2]
    by_cases c : N 0 i = nI 1
    · rw [if_neg ((hr i (by omega)).mpr c), if_neg (fun q => q_rI.mp q c)]
      rcases h with ⟨h1, h3⟩ | ⟨t, ht, h1, h3, h4⟩
      · rw [if_pos h1, if_pos h3]
        exact ih _ _ _ _ (by omega) (Or.inr ⟨i, by omega, rfl, rfl, rfl⟩)
      · have k1 : ¬ lo = (-100005) := by rw [h1]; exact q_t5 ht
        have k2 : ¬ f = (-1) := by rw [h3]; exact q_t1 ht
        have k3 : N 5 (zc f) = ea := by rw [h3, zc_nI (by omega), h4, e5]
        rw [if_neg k1, if_neg k2, k3, e5]
        by_cases c2 : ea ≤ N 5 i
        · rw [if_pos c2, if_pos c2]
          exact ih _ _ _ _ (by omega) (Or.inr ⟨t, ht, h1, h3, h4⟩)
        · rw [if_neg c2, if_neg c2]
          exact ih _ _ _ _ (by omega) (Or.inr ⟨i, by omega, rfl, rfl, by rw [e5]⟩)
    · have c9 : g_X3_isIn ready (nI i) = 0 := by
        by_cases q : g_X3_isIn ready (nI i) = 0
        · exact q
        · exact absurd ((hr i (by omega)).mp q) c
      rw [if_pos c9, if_pos (q_rI.mpr c)]
      exact ih _ _ _ _ (by omega) h
theorem iss_lq {N : zM} {f : Int32} (h2 : ¬ N 15 1 = nI 2) : ∀ n i, g_X7_issuing_lq n f i N = f := by
  intro n
  cases n with
  | zero => exact fun _ => rfl
  | succ n =>
    intro i
    simp only [g_X7_issuing_lq]
    rw [if_neg h2]
theorem iss_next {ready : Int32} {N : zM} {o : Nat} (ho : o < 4) (ho2 : zc (N 14 (zc (N 16 0) % 8)) = o) (hr : ∀ t, t < 4 → ((¬ g_X3_isIn ready (nI t) = 0) ↔ N 0 t = nI 1)) (h1 : N 15 1 = nI 1) : iR (g_X3_findNextAfter (nI o) ready) (g_X7_issuing_lp 3 (-1) 3 N) := by
  have h2 : ¬ N 15 1 = nI 2 := fun q => absurd (h1.symm.trans q) (by decide)
  have num : ∀ i, i < 4 → (nI o + nI i) - (nI o + nI i) / (nI 4) * (nI 4) = nI ((o + i) % 4) := by
    intro i hi
    rw [nI_add]
    exact pk_rem (by omega) (by decide) (by decide)
  have lt : ∀ i, (o + i) % 4 < 4 := fun i => Nat.mod_lt _ (by decide)
  have cls : ∀ i, (g_X3_isIn ready (nI ((o + i) % 4)) = 0) ↔ ¬ N 0 ((o + i) % 4) = nI 1 := by
    intro i
    have h := hr _ (lt i)
    by_cases q : g_X3_isIn ready (nI ((o + i) % 4)) = 0
    · exact ⟨fun _ r => (h.mpr r) q, fun _ => q⟩
    · exact ⟨fun r => absurd r q, fun r => absurd (h.mp q) r⟩
  unfold g_X3_findNextAfter
  simp only [g_X3_findNextAfter_lp, g_X7_issuing_lp, ho2, if_pos h1]
  rw [num 1 (by omega), num (1 + 1) (by omega), num (1 + 1 + 1) (by omega)]
  have z1 := cls 1
  have z2 := cls (1 + 1)
  have z3 := cls (1 + 1 + 1)
  have y1 : g_X7_isReady ((o + 1) % 4) N = 0 ↔ ¬ N 0 ((o + 1) % 4) = nI 1 := q_rI
  have y2 : g_X7_isReady ((o + 2) % 4) N = 0 ↔ ¬ N 0 ((o + 2) % 4) = nI 1 := q_rI
  have y3 : g_X7_isReady ((o + 3) % 4) N = 0 ↔ ¬ N 0 ((o + 3) % 4) = nI 1 := q_rI
  by_cases c1 : N 0 ((o + 1) % 4) = nI 1
  · rw [if_neg (fun q => z1.mp q c1)]
    have fin : ∀ f, iR (nI ((o + 1) % 4)) (if g_X7_isReady ((o + (3 - 1 - 1)) % 4) N = 0 then g_X7_issuing_lq 4 f 0 N else g_X7_issuing_lq 4 (nI ((o + (3 - 1 - 1)) % 4)) 0 N) := by
      intro f
      rw [if_neg (show ¬ g_X7_isReady ((o + (3 - 1 - 1)) % 4) N = 0 from fun q => y1.mp q c1), iss_lq h2]
      exact Or.inr ⟨_, lt 1, rfl, rfl⟩
    exact z_ite (P := fun y => iR (nI ((o + 1) % 4)) y) (fun _ => z_ite (P := fun y => iR (nI ((o + 1) % 4)) y) (fun _ => fin _) (fun _ => fin _)) (fun _ => z_ite (P := fun y => iR (nI ((o + 1) % 4)) y) (fun _ => fin _) (fun _ => fin _))
  · rw [if_pos (z1.mpr c1)]
    have k1 : ∀ f, (if g_X7_isReady ((o + (3 - 1 - 1)) % 4) N = 0 then g_X7_issuing_lq 4 f 0 N else g_X7_issuing_lq 4 (nI ((o + (3 - 1 - 1)) % 4)) 0 N) = f := by
      intro f
      rw [if_pos (show g_X7_isReady ((o + (3 - 1 - 1)) % 4) N = 0 from y1.mpr c1), iss_lq h2]
    simp only [k1]
    by_cases c2 : N 0 ((o + 2) % 4) = nI 1
    · rw [if_neg (fun q => z2.mp q c2)]
      have fin : ∀ f, iR (nI ((o + (1 + 1)) % 4)) (if g_X7_isReady ((o + (3 - 1)) % 4) N = 0 then f else nI ((o + (3 - 1)) % 4)) := by
        intro f
        rw [if_neg (show ¬ g_X7_isReady ((o + (3 - 1)) % 4) N = 0 from fun q => y2.mp q c2)]
        exact Or.inr ⟨_, lt 2, rfl, rfl⟩
      exact z_ite (P := fun y => iR (nI ((o + (1 + 1)) % 4)) y) (fun _ => fin _) (fun _ => fin _)
    · rw [if_pos (z2.mpr c2)]
      have k2 : ∀ f, (if g_X7_isReady ((o + (3 - 1)) % 4) N = 0 then f else nI ((o + (3 - 1)) % 4)) = f := by
        intro f
        rw [if_pos (show g_X7_isReady ((o + (3 - 1)) % 4) N = 0 from y2.mpr c2)]
      simp only [k2]
      by_cases c3 : N 0 ((o + 3) % 4) = nI 1
      · rw [if_neg (fun q => z3.mp q c3), if_neg (fun q => y3.mp q c3)]
        exact Or.inr ⟨_, lt 3, rfl, rfl⟩
      · rw [if_pos (z3.mpr c3), if_pos (y3.mpr c3)]
        exact Or.inl ⟨rfl, rfl⟩
theorem iss_all {M N : zM} (hr : ∀ t, t < 4 → ((¬ g_X3_isIn (g_X3_findReady M) (nI t) = 0) ↔ N 0 t = nI 1)) (e5 : M 5 = N 5) (e14 : M 14 = N 14) (e15 : M 15 = N 15) (e16 : M 16 = N 16) (hs : ∀ k, k < 8 → zIn (N 14 k) 4) (hc : zIn (N 16 0) (2 ^ 31)) : iR (g_X3_findIssuer M) (g_X7_issuing N) := by
  have own := hs (zc (N 16 0) % 8) (Nat.mod_lt _ (by decide))
  have e1 : g_X3_slotOwner M = nI (zc (N 14 (zc (N 16 0) % 8))) := by
    unfold g_X3_slotOwner
    rw [e14, e16, q_tn hc (by decide)]
    exact own.2
  have ho := own.1
  unfold g_X3_findIssuer g_X7_issuing
  rw [e1, e15]
  generalize hO : zc (N 14 (zc (N 16 0) % 8)) = o at ho ⊢
  by_cases c : N 0 o = nI 1
  · rw [if_neg ((hr o ho).mpr c), if_neg (fun q => q_rI.mp q c)]
    exact Or.inr ⟨o, ho, rfl, rfl⟩
  · have c9 : g_X3_isIn (g_X3_findReady M) (nI o) = 0 := by
      by_cases q : g_X3_isIn (g_X3_findReady M) (nI o) = 0
      · exact q
      · exact absurd ((hr o ho).mp q) c
    rw [if_pos c9, if_pos (q_rI.mpr c)]
    by_cases l1 : N 15 1 = nI 1
    · rw [if_pos l1, if_neg (fun q => absurd (l1.symm.trans q) (by decide))]
      exact iss_next ho hO hr l1
    · rw [if_neg l1]
      by_cases l2 : N 15 1 = nI 2
      · rw [if_pos l2, if_neg (fun q => absurd (l2.symm.trans q) (by decide))]
        simp only [g_X7_issuing_lp]
        rw [if_neg l1]
        exact iss_long hr e5 l2 4 0 _ _ _ (by omega) (Or.inl ⟨rfl, rfl⟩)
      · rw [if_neg l2]
        refine z_ite (P := fun y => iR (-100005) y) (fun _ => Or.inl ⟨rfl, rfl⟩) (fun _ => ?_)
        simp only [g_X7_issuing_lp]
        rw [if_neg l1, iss_lq l2]
        exact Or.inl ⟨rfl, rfl⟩
