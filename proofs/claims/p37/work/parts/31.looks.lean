def g_X6_isWithin (value lowest highest : Int32) : Int32 := if value < lowest then nI 0 else if highest < value then nI 0 else nI 1
set_option maxHeartbeats 4000000 in
set_option maxRecDepth 100000 in
theorem ct_X6_isWithin (l : Launch) (D : va_G) (a : Nat → Nat) (ca : Nat → ClassId) (hJ : zJ a) (Z : Nat → zM) (value lowest highest : Int32) : zCi l yX6_isWithin wsX6_isWithin ({ frames := 0, cells := 0, slots := 0, locals := 0 } : Room) D a ca [.int value, .int lowest, .int highest] (Z) (g_X6_isWithin value lowest highest) (Z) := by
  refine z_ofi (cc := cX6_isWithin) (maxL := 3) (own := RX6) (by decide) rfl (Nat.le_of_ble_eq_true rfl) rfl (fun p e s m below meth c ls hx hb hr hml hts hown hlk hl hK hP hS => ?_)
  have hl : lv_has ls 3 [(0, .int value), (1, .int lowest), (2, .int highest)] := hl
  refine lv_iload_n hx hb dX6_isWithin_0 rfl (lv_at hl 0 rfl) ?_
  refine lv_iload_n hx hb dX6_isWithin_1 rfl (lv_at hl 1 rfl) ?_
  refine lv_icmp_lt (tgt := 14) hx hb dX6_isWithin_2 (by decide) (fun c2_1 => ?_) (fun c2_1 => ?_)
  · refine lv_iconst (v := nI 0) hx hb dX6_isWithin_14 (by decide) ?_
    exact z_reti hx hb hr hlk (by first | rfl | decide) hP hS dX6_isWithin_15 (by simp only [g_X6_isWithin, if_pos c2_1]) rfl
  · refine lv_iload_n hx hb dX6_isWithin_5 rfl (lv_at hl 0 rfl) ?_
    refine lv_iload_n hx hb dX6_isWithin_6 rfl (lv_at hl 2 rfl) ?_
    refine lv_icmp_gt (tgt := 14) hx hb dX6_isWithin_7 (by decide) (fun c7_2 => ?_) (fun c7_2 => ?_)
    · refine lv_iconst (v := nI 0) hx hb dX6_isWithin_14 (by decide) ?_
      exact z_reti hx hb hr hlk (by first | rfl | decide) hP hS dX6_isWithin_15 (by simp only [g_X6_isWithin, if_neg c2_1, if_pos c7_2]) rfl
    · refine lv_iconst (v := nI 1) hx hb dX6_isWithin_10 (by decide) ?_
      refine lv_goto (tgt := 15) hx hb dX6_isWithin_11 (by decide) ?_
      exact z_reti hx hb hr hlk (by first | rfl | decide) hP hS dX6_isWithin_15 (by simp only [g_X6_isWithin, if_neg c2_1, if_neg c7_2]) rfl

theorem z_nb {v : Int32} (h : v = nI 0 ∨ v = nI 1) : narrow .boolean (.int v) = .int v := by
  rcases h with rfl | rfl
  · first | rfl | decide
  · first | rfl | decide
theorem zb_isWithin (x y z : Int32) : g_X6_isWithin x y z = nI 0 ∨ g_X6_isWithin x y z = nI 1 := by
  unfold g_X6_isWithin
  by_cases c1 : x < y
  · exact Or.inl (by simp only [if_pos c1])
  · by_cases c2 : z < x
    · exact Or.inl (by simp only [if_neg c1, if_pos c2])
    · exact Or.inr (by simp only [if_neg c1, if_neg c2])

def g_X6_isThread (thread : Int32) : Int32 := (g_X6_isWithin thread (nI 0) (nI 3))
set_option maxHeartbeats 4000000 in
set_option maxRecDepth 100000 in
theorem ct_X6_isThread (l : Launch) (D : va_G) (a : Nat → Nat) (ca : Nat → ClassId) (hJ : zJ a) (Z : Nat → zM) (thread : Int32) : zCi l yX6_isThread wsX6_isThread ({ frames := 1, cells := 0, slots := 0, locals := 22 } : Room) D a ca [.int thread] (Z) (g_X6_isThread thread) (Z) := by
  refine z_ofi (cc := cX6_isThread) (maxL := 1) (own := RX6) (by decide) rfl (Nat.le_of_ble_eq_true rfl) rfl (fun p e s m below meth c ls hx hb hr hml hts hown hlk hl hK hP hS => ?_)
  have hl : lv_has ls 1 [(0, .int thread)] := hl
  refine lv_iload_n hx hb dX6_isThread_0 rfl (lv_at hl 0 rfl) ?_
  refine lv_iconst (v := nI 0) hx hb dX6_isThread_1 (by decide) ?_
  refine lv_iconst (v := nI 3) hx hb dX6_isThread_2 (by decide) ?_
  refine z_cSi (As := [.int thread, .int (nI 0), .int (nI 3)]) (rest := []) ⟨hx, hb, hml, hown, hts⟩ (ct_X6_isWithin l D a ca hJ Z thread (nI 0) (nI 3)) (va_cwS 3 hts gX6_isThread_X6_isWithin rfl rfl rfl (by decide +kernel) ⟨Nat.le_of_ble_eq_true rfl, Nat.le_of_ble_eq_true rfl⟩) hK hP hS rfl hl.1 rfl (Nat.le_of_ble_eq_true rfl) dX6_isThread_3 ⟨Nat.zero_le _, Nat.zero_le _⟩ (fun H locs hP hS => ?_)
  exact z_reti hx hb hr hlk (z_nb (zb_isWithin _ _ _)) hP hS dX6_isThread_6 (by first | rfl | simp only [g_X6_isThread]) rfl

def g_X6_isRegister (register : Int32) : Int32 := (g_X6_isWithin register (nI 0) (nI 3))
set_option maxHeartbeats 4000000 in
set_option maxRecDepth 100000 in
theorem ct_X6_isRegister (l : Launch) (D : va_G) (a : Nat → Nat) (ca : Nat → ClassId) (hJ : zJ a) (Z : Nat → zM) (register : Int32) : zCi l yX6_isRegister wsX6_isRegister ({ frames := 1, cells := 0, slots := 0, locals := 22 } : Room) D a ca [.int register] (Z) (g_X6_isRegister register) (Z) := by
  refine z_ofi (cc := cX6_isRegister) (maxL := 1) (own := RX6) (by decide) rfl (Nat.le_of_ble_eq_true rfl) rfl (fun p e s m below meth c ls hx hb hr hml hts hown hlk hl hK hP hS => ?_)
  have hl : lv_has ls 1 [(0, .int register)] := hl
  refine lv_iload_n hx hb dX6_isRegister_0 rfl (lv_at hl 0 rfl) ?_
  refine lv_iconst (v := nI 0) hx hb dX6_isRegister_1 (by decide) ?_
  refine lv_iconst (v := nI 3) hx hb dX6_isRegister_2 (by decide) ?_
  refine z_cSi (As := [.int register, .int (nI 0), .int (nI 3)]) (rest := []) ⟨hx, hb, hml, hown, hts⟩ (ct_X6_isWithin l D a ca hJ Z register (nI 0) (nI 3)) (va_cwS 3 hts gX6_isRegister_X6_isWithin rfl rfl rfl (by decide +kernel) ⟨Nat.le_of_ble_eq_true rfl, Nat.le_of_ble_eq_true rfl⟩) hK hP hS rfl hl.1 rfl (Nat.le_of_ble_eq_true rfl) dX6_isRegister_3 ⟨Nat.zero_le _, Nat.zero_le _⟩ (fun H locs hP hS => ?_)
  exact z_reti hx hb hr hlk (z_nb (zb_isWithin _ _ _)) hP hS dX6_isRegister_6 (by first | rfl | simp only [g_X6_isRegister]) rfl

def g_X6_isPlace (place : Int32) : Int32 := (g_X6_isWithin place (nI 0) (nI 47))
set_option maxHeartbeats 4000000 in
set_option maxRecDepth 100000 in
theorem ct_X6_isPlace (l : Launch) (D : va_G) (a : Nat → Nat) (ca : Nat → ClassId) (hJ : zJ a) (Z : Nat → zM) (place : Int32) : zCi l yX6_isPlace wsX6_isPlace ({ frames := 1, cells := 0, slots := 0, locals := 22 } : Room) D a ca [.int place] (Z) (g_X6_isPlace place) (Z) := by
  refine z_ofi (cc := cX6_isPlace) (maxL := 1) (own := RX6) (by decide) rfl (Nat.le_of_ble_eq_true rfl) rfl (fun p e s m below meth c ls hx hb hr hml hts hown hlk hl hK hP hS => ?_)
  have hl : lv_has ls 1 [(0, .int place)] := hl
  refine lv_iload_n hx hb dX6_isPlace_0 rfl (lv_at hl 0 rfl) ?_
  refine lv_iconst (v := nI 0) hx hb dX6_isPlace_1 (by decide) ?_
  refine lv_bipush (v := nI 47) hx hb dX6_isPlace_2 (by decide) ?_
  refine z_cSi (As := [.int place, .int (nI 0), .int (nI 47)]) (rest := []) ⟨hx, hb, hml, hown, hts⟩ (ct_X6_isWithin l D a ca hJ Z place (nI 0) (nI 47)) (va_cwS 3 hts gX6_isPlace_X6_isWithin rfl rfl rfl (by decide +kernel) ⟨Nat.le_of_ble_eq_true rfl, Nat.le_of_ble_eq_true rfl⟩) hK hP hS rfl hl.1 rfl (Nat.le_of_ble_eq_true rfl) dX6_isPlace_4 ⟨Nat.zero_le _, Nat.zero_le _⟩ (fun H locs hP hS => ?_)
  exact z_reti hx hb hr hlk (z_nb (zb_isWithin _ _ _)) hP hS dX6_isPlace_7 (by first | rfl | simp only [g_X6_isPlace]) rfl

def g_X6_isWord (word : Int32) : Int32 := (g_X6_isWithin word (nI 0) (nI 31))
set_option maxHeartbeats 4000000 in
set_option maxRecDepth 100000 in
theorem ct_X6_isWord (l : Launch) (D : va_G) (a : Nat → Nat) (ca : Nat → ClassId) (hJ : zJ a) (Z : Nat → zM) (word : Int32) : zCi l yX6_isWord wsX6_isWord ({ frames := 1, cells := 0, slots := 0, locals := 22 } : Room) D a ca [.int word] (Z) (g_X6_isWord word) (Z) := by
  refine z_ofi (cc := cX6_isWord) (maxL := 1) (own := RX6) (by decide) rfl (Nat.le_of_ble_eq_true rfl) rfl (fun p e s m below meth c ls hx hb hr hml hts hown hlk hl hK hP hS => ?_)
  have hl : lv_has ls 1 [(0, .int word)] := hl
  refine lv_iload_n hx hb dX6_isWord_0 rfl (lv_at hl 0 rfl) ?_
  refine lv_iconst (v := nI 0) hx hb dX6_isWord_1 (by decide) ?_
  refine lv_bipush (v := nI 31) hx hb dX6_isWord_2 (by decide) ?_
  refine z_cSi (As := [.int word, .int (nI 0), .int (nI 31)]) (rest := []) ⟨hx, hb, hml, hown, hts⟩ (ct_X6_isWithin l D a ca hJ Z word (nI 0) (nI 31)) (va_cwS 3 hts gX6_isWord_X6_isWithin rfl rfl rfl (by decide +kernel) ⟨Nat.le_of_ble_eq_true rfl, Nat.le_of_ble_eq_true rfl⟩) hK hP hS rfl hl.1 rfl (Nat.le_of_ble_eq_true rfl) dX6_isWord_4 ⟨Nat.zero_le _, Nat.zero_le _⟩ (fun H locs hP hS => ?_)
  exact z_reti hx hb hr hlk (z_nb (zb_isWithin _ _ _)) hP hS dX6_isWord_7 (by first | rfl | simp only [g_X6_isWord]) rfl

def g_X6_isSlot (slot : Int32) : Int32 := (g_X6_isWithin slot (nI 0) (nI 7))
set_option maxHeartbeats 4000000 in
set_option maxRecDepth 100000 in
theorem ct_X6_isSlot (l : Launch) (D : va_G) (a : Nat → Nat) (ca : Nat → ClassId) (hJ : zJ a) (Z : Nat → zM) (slot : Int32) : zCi l yX6_isSlot wsX6_isSlot ({ frames := 1, cells := 0, slots := 0, locals := 22 } : Room) D a ca [.int slot] (Z) (g_X6_isSlot slot) (Z) := by
  refine z_ofi (cc := cX6_isSlot) (maxL := 1) (own := RX6) (by decide) rfl (Nat.le_of_ble_eq_true rfl) rfl (fun p e s m below meth c ls hx hb hr hml hts hown hlk hl hK hP hS => ?_)
  have hl : lv_has ls 1 [(0, .int slot)] := hl
  refine lv_iload_n hx hb dX6_isSlot_0 rfl (lv_at hl 0 rfl) ?_
  refine lv_iconst (v := nI 0) hx hb dX6_isSlot_1 (by decide) ?_
  refine lv_bipush (v := nI 7) hx hb dX6_isSlot_2 (by decide) ?_
  refine z_cSi (As := [.int slot, .int (nI 0), .int (nI 7)]) (rest := []) ⟨hx, hb, hml, hown, hts⟩ (ct_X6_isWithin l D a ca hJ Z slot (nI 0) (nI 7)) (va_cwS 3 hts gX6_isSlot_X6_isWithin rfl rfl rfl (by decide +kernel) ⟨Nat.le_of_ble_eq_true rfl, Nat.le_of_ble_eq_true rfl⟩) hK hP hS rfl hl.1 rfl (Nat.le_of_ble_eq_true rfl) dX6_isSlot_4 ⟨Nat.zero_le _, Nat.zero_le _⟩ (fun H locs hP hS => ?_)
  exact z_reti hx hb hr hlk (z_nb (zb_isWithin _ _ _)) hP hS dX6_isSlot_7 (by first | rfl | simp only [g_X6_isSlot]) rfl

def g_X6_isSetting (setting : Int32) : Int32 := (g_X6_isWithin setting (nI 0) (nI 1))
set_option maxHeartbeats 4000000 in
set_option maxRecDepth 100000 in
theorem ct_X6_isSetting (l : Launch) (D : va_G) (a : Nat → Nat) (ca : Nat → ClassId) (hJ : zJ a) (Z : Nat → zM) (setting : Int32) : zCi l yX6_isSetting wsX6_isSetting ({ frames := 1, cells := 0, slots := 0, locals := 22 } : Room) D a ca [.int setting] (Z) (g_X6_isSetting setting) (Z) := by
  refine z_ofi (cc := cX6_isSetting) (maxL := 1) (own := RX6) (by decide) rfl (Nat.le_of_ble_eq_true rfl) rfl (fun p e s m below meth c ls hx hb hr hml hts hown hlk hl hK hP hS => ?_)
  have hl : lv_has ls 1 [(0, .int setting)] := hl
  refine lv_iload_n hx hb dX6_isSetting_0 rfl (lv_at hl 0 rfl) ?_
  refine lv_iconst (v := nI 0) hx hb dX6_isSetting_1 (by decide) ?_
  refine lv_iconst (v := nI 1) hx hb dX6_isSetting_2 (by decide) ?_
  refine z_cSi (As := [.int setting, .int (nI 0), .int (nI 1)]) (rest := []) ⟨hx, hb, hml, hown, hts⟩ (ct_X6_isWithin l D a ca hJ Z setting (nI 0) (nI 1)) (va_cwS 3 hts gX6_isSetting_X6_isWithin rfl rfl rfl (by decide +kernel) ⟨Nat.le_of_ble_eq_true rfl, Nat.le_of_ble_eq_true rfl⟩) hK hP hS rfl hl.1 rfl (Nat.le_of_ble_eq_true rfl) dX6_isSetting_3 ⟨Nat.zero_le _, Nat.zero_le _⟩ (fun H locs hP hS => ?_)
  exact z_reti hx hb hr hlk (z_nb (zb_isWithin _ _ _)) hP hS dX6_isSetting_6 (by first | rfl | simp only [g_X6_isSetting]) rfl

def g_X6_isValue (value : Int32) : Int32 := (g_X6_isWithin value (-32768) (nI 32767))
set_option maxHeartbeats 4000000 in
set_option maxRecDepth 100000 in
theorem ct_X6_isValue (l : Launch) (D : va_G) (a : Nat → Nat) (ca : Nat → ClassId) (hJ : zJ a) (Z : Nat → zM) (value : Int32) : zCi l yX6_isValue wsX6_isValue ({ frames := 1, cells := 0, slots := 0, locals := 22 } : Room) D a ca [.int value] (Z) (g_X6_isValue value) (Z) := by
  refine z_ofi (cc := cX6_isValue) (maxL := 1) (own := RX6) (by decide) rfl (Nat.le_of_ble_eq_true rfl) rfl (fun p e s m below meth c ls hx hb hr hml hts hown hlk hl hK hP hS => ?_)
  have hl : lv_has ls 1 [(0, .int value)] := hl
  refine lv_iload_n hx hb dX6_isValue_0 rfl (lv_at hl 0 rfl) ?_
  refine lv_sipush (v := (-32768)) hx hb dX6_isValue_1 (by decide) ?_
  refine lv_sipush (v := nI 32767) hx hb dX6_isValue_4 (by decide) ?_
  refine z_cSi (As := [.int value, .int (-32768), .int (nI 32767)]) (rest := []) ⟨hx, hb, hml, hown, hts⟩ (ct_X6_isWithin l D a ca hJ Z value (-32768) (nI 32767)) (va_cwS 3 hts gX6_isValue_X6_isWithin rfl rfl rfl (by decide +kernel) ⟨Nat.le_of_ble_eq_true rfl, Nat.le_of_ble_eq_true rfl⟩) hK hP hS rfl hl.1 rfl (Nat.le_of_ble_eq_true rfl) dX6_isValue_7 ⟨Nat.zero_le _, Nat.zero_le _⟩ (fun H locs hP hS => ?_)
  exact z_reti hx hb hr hlk (z_nb (zb_isWithin _ _ _)) hP hS dX6_isValue_10 (by first | rfl | simp only [g_X6_isValue]) rfl

theorem z_within {x : Int32} {n : Nat} (hn : n < 2 ^ 31) (h : ¬ g_X6_isWithin x (nI 0) (nI n) = 0) : zIn x (n + 1) := by
  unfold g_X6_isWithin at h
  by_cases c1 : x < nI 0
  · simp only [if_pos c1] at h
    exact absurd rfl h
  · by_cases c2 : nI n < x
    · simp only [if_neg c1, if_pos c2] at h
      exact absurd rfl h
    · obtain ⟨j, h1, rfl⟩ := nI_of (x := x) c1
      have c3 : ¬ n < j := fun q => c2 (nI_lt q h1)
      exact zIn_nI (by omega) (by omega)
theorem z_isThread {x : Int32} (h : ¬ g_X6_isThread x = 0) : zIn x 4 := z_within (n := 3) (by decide) h
theorem z_isRegister {x : Int32} (h : ¬ g_X6_isRegister x = 0) : zIn x 4 := z_within (n := 3) (by decide) h
theorem z_isPlace {x : Int32} (h : ¬ g_X6_isPlace x = 0) : zIn x 48 := z_within (n := 47) (by decide) h
theorem z_isWord {x : Int32} (h : ¬ g_X6_isWord x = 0) : zIn x 32 := z_within (n := 31) (by decide) h
theorem z_isSlot {x : Int32} (h : ¬ g_X6_isSlot x = 0) : zIn x 8 := z_within (n := 7) (by decide) h
theorem z_isSetting {x : Int32} (h : ¬ g_X6_isSetting x = 0) : zIn x 2 := z_within (n := 1) (by decide) h
/-! what a machine's state keeps: the places that its code uses without a look -/
def zOK (M : zM) : Prop := (∀ t, t < 4 → zIn (M 2 t) 4) ∧ (∀ t, t < 4 → zIn (M 3 t) 32) ∧ zIn (M 18 0) 16 ∧ zIn (M 18 1) 17
theorem zOK_r {M : zM} {c : Nat} {f : Nat → Int32} (h2 : c ≠ 2) (h3 : c ≠ 3) (h18 : c ≠ 18) (h : zOK M) : zOK (zr M c f) := by
  unfold zOK
  rw [zr_n M f (Ne.symm h2), zr_n M f (Ne.symm h3), zr_n M f (Ne.symm h18)]
  exact h
theorem zOK_u {M : zM} {c i : Nat} {x : Int32} (h2 : c ≠ 2) (h3 : c ≠ 3) (h18 : c ≠ 18) (h : zOK M) : zOK (zu M c i x) := zOK_r h2 h3 h18 h
theorem zOK_2 {M : zM} {i : Nat} {x : Int32} (hx : zIn x 4) (h : zOK M) : zOK (zu M 2 i x) := by
  refine ⟨fun t ht => ?_, ?_, ?_, ?_⟩
  · by_cases e : t = i
    · subst e
      rw [zu_s]
      exact hx
    · rw [zu_i _ _ _ e]
      exact h.1 t ht
  · rw [zu_c _ _ _ (by decide)]
    exact h.2.1
  · rw [zu_c _ _ _ (by decide)]
    exact h.2.2.1
  · rw [zu_c _ _ _ (by decide)]
    exact h.2.2.2
theorem zOK_3 {M : zM} {i : Nat} {x : Int32} (hx : zIn x 32) (h : zOK M) : zOK (zu M 3 i x) := by
  refine ⟨?_, fun t ht => ?_, ?_, ?_⟩
  · rw [zu_c _ _ _ (by decide)]
    exact h.1
  · by_cases e : t = i
    · subst e
      rw [zu_s]
      exact hx
    · rw [zu_i _ _ _ e]
      exact h.2.1 t ht
  · rw [zu_c _ _ _ (by decide)]
    exact h.2.2.1
  · rw [zu_c _ _ _ (by decide)]
    exact h.2.2.2
theorem zOK_180 {M : zM} {x : Int32} (hx : zIn x 16) (h : zOK M) : zOK (zu M 18 0 x) := by
  refine ⟨?_, ?_, ?_, ?_⟩
  · rw [zu_c _ _ _ (by decide)]
    exact h.1
  · rw [zu_c _ _ _ (by decide)]
    exact h.2.1
  · rw [zu_s]
    exact hx
  · rw [zu_i _ _ _ (by decide)]
    exact h.2.2.2
theorem zOK_181 {M : zM} {x : Int32} (hx : zIn x 17) (h : zOK M) : zOK (zu M 18 1 x) := by
  refine ⟨?_, ?_, ?_, ?_⟩
  · rw [zu_c _ _ _ (by decide)]
    exact h.1
  · rw [zu_c _ _ _ (by decide)]
    exact h.2.1
  · rw [zu_i _ _ _ (by decide)]
    exact h.2.2.1
  · rw [zu_s]
    exact hx

def g_replace_wd (j : Nat) (value : Int32) (M : zM) : Int32 := M 13 j
def h_replace_wd (j : Nat) (value : Int32) (M : zM) : zM := zu M 13 j value
set_option maxHeartbeats 4000000 in
set_option maxRecDepth 100000 in
theorem ct_replace_wd (l : Launch) (D : va_G) (a : Nat → Nat) (ca : Nat → ClassId) (hJ : zJ a) (Z : Nat → zM) (M : zM) (j : Nat) (hj : j < 32) (value : Int32) : zCi l yX6_replace wsX6_replace ({ frames := 0, cells := 0, slots := 0, locals := 0 } : Room) D a ca [.ref (a (19 * 0 + 14)), .int (nI j), .int value] (va_up Z 0 M) (g_replace_wd j value M) (va_up Z 0 (h_replace_wd j value M)) := by
  refine z_ofi (cc := cX6_replace) (maxL := 4) (own := RX6) (by decide) rfl (Nat.le_of_ble_eq_true rfl) rfl (fun p e s m below meth c ls hx hb hr hml hts hown hlk hl hK hP hS => ?_)
  have hl : lv_has ls 4 [(0, .ref (a (19 * 0 + 14))), (1, .int (nI j)), (2, .int value)] := hl
  refine lv_aload_n hx hb dX6_replace_0 rfl (lv_at hl 0 rfl) ?_
  refine lv_iload_n hx hb dX6_replace_1 rfl (lv_at hl 1 rfl) ?_
  refine z_iald hx hb hK hP (zG_wd (by decide)) (j := j) (by omega) (by decide) dX6_replace_2 ?_
  refine lv_istore_n (lv' := [(3, .int (M 13 j)), (0, .ref (a (19 * 0 + 14))), (1, .int (nI j)), (2, .int value)]) hx hb dX6_replace_3 rfl hl (by decide) rfl (fun ls hl => ?_)
  refine lv_aload_n hx hb dX6_replace_4 rfl (lv_at hl 1 rfl) ?_
  refine lv_iload_n hx hb dX6_replace_5 rfl (lv_at hl 2 rfl) ?_
  refine lv_iload_n hx hb dX6_replace_6 rfl (lv_at hl 3 rfl) ?_
  refine z_iast (Z' := va_up Z 0 (zu M 13 j value)) hx hb hK hP hJ hS (zG_wd (by decide)) (j := j) (by omega) (by decide) dX6_replace_7 (zS_wd (by decide)) (fun H locs hP hS => ?_)
  refine lv_iload_n hx hb dX6_replace_8 rfl (lv_at hl 0 rfl) ?_
  exact z_reti hx hb hr hlk rfl hP hS dX6_replace_9 (by first | rfl | simp only [g_replace_wd]) (congrArg (va_up Z 0) (by first | rfl | simp only [h_replace_wd]))

def g_replace_sl (j : Nat) (value : Int32) (M : zM) : Int32 := M 14 j
def h_replace_sl (j : Nat) (value : Int32) (M : zM) : zM := zu M 14 j value
set_option maxHeartbeats 4000000 in
set_option maxRecDepth 100000 in
theorem ct_replace_sl (l : Launch) (D : va_G) (a : Nat → Nat) (ca : Nat → ClassId) (hJ : zJ a) (Z : Nat → zM) (M : zM) (j : Nat) (hj : j < 8) (value : Int32) : zCi l yX6_replace wsX6_replace ({ frames := 0, cells := 0, slots := 0, locals := 0 } : Room) D a ca [.ref (a (19 * 0 + 15)), .int (nI j), .int value] (va_up Z 0 M) (g_replace_sl j value M) (va_up Z 0 (h_replace_sl j value M)) := by
  refine z_ofi (cc := cX6_replace) (maxL := 4) (own := RX6) (by decide) rfl (Nat.le_of_ble_eq_true rfl) rfl (fun p e s m below meth c ls hx hb hr hml hts hown hlk hl hK hP hS => ?_)
  have hl : lv_has ls 4 [(0, .ref (a (19 * 0 + 15))), (1, .int (nI j)), (2, .int value)] := hl
  refine lv_aload_n hx hb dX6_replace_0 rfl (lv_at hl 0 rfl) ?_
  refine lv_iload_n hx hb dX6_replace_1 rfl (lv_at hl 1 rfl) ?_
  refine z_iald hx hb hK hP (zG_sl (by decide)) (j := j) (by omega) (by decide) dX6_replace_2 ?_
  refine lv_istore_n (lv' := [(3, .int (M 14 j)), (0, .ref (a (19 * 0 + 15))), (1, .int (nI j)), (2, .int value)]) hx hb dX6_replace_3 rfl hl (by decide) rfl (fun ls hl => ?_)
  refine lv_aload_n hx hb dX6_replace_4 rfl (lv_at hl 1 rfl) ?_
  refine lv_iload_n hx hb dX6_replace_5 rfl (lv_at hl 2 rfl) ?_
  refine lv_iload_n hx hb dX6_replace_6 rfl (lv_at hl 3 rfl) ?_
  refine z_iast (Z' := va_up Z 0 (zu M 14 j value)) hx hb hK hP hJ hS (zG_sl (by decide)) (j := j) (by omega) (by decide) dX6_replace_7 (zS_sl (by decide)) (fun H locs hP hS => ?_)
  refine lv_iload_n hx hb dX6_replace_8 rfl (lv_at hl 0 rfl) ?_
  exact z_reti hx hb hr hlk rfl hP hS dX6_replace_9 (by first | rfl | simp only [g_replace_sl]) (congrArg (va_up Z 0) (by first | rfl | simp only [h_replace_sl]))

def g_replace_se (j : Nat) (value : Int32) (M : zM) : Int32 := M 15 j
def h_replace_se (j : Nat) (value : Int32) (M : zM) : zM := zu M 15 j value
set_option maxHeartbeats 4000000 in
set_option maxRecDepth 100000 in
theorem ct_replace_se (l : Launch) (D : va_G) (a : Nat → Nat) (ca : Nat → ClassId) (hJ : zJ a) (Z : Nat → zM) (M : zM) (j : Nat) (hj : j < 2) (value : Int32) : zCi l yX6_replace wsX6_replace ({ frames := 0, cells := 0, slots := 0, locals := 0 } : Room) D a ca [.ref (a (19 * 0 + 16)), .int (nI j), .int value] (va_up Z 0 M) (g_replace_se j value M) (va_up Z 0 (h_replace_se j value M)) := by
  refine z_ofi (cc := cX6_replace) (maxL := 4) (own := RX6) (by decide) rfl (Nat.le_of_ble_eq_true rfl) rfl (fun p e s m below meth c ls hx hb hr hml hts hown hlk hl hK hP hS => ?_)
  have hl : lv_has ls 4 [(0, .ref (a (19 * 0 + 16))), (1, .int (nI j)), (2, .int value)] := hl
  refine lv_aload_n hx hb dX6_replace_0 rfl (lv_at hl 0 rfl) ?_
  refine lv_iload_n hx hb dX6_replace_1 rfl (lv_at hl 1 rfl) ?_
  refine z_iald hx hb hK hP (zG_se (by decide)) (j := j) (by omega) (by decide) dX6_replace_2 ?_
  refine lv_istore_n (lv' := [(3, .int (M 15 j)), (0, .ref (a (19 * 0 + 16))), (1, .int (nI j)), (2, .int value)]) hx hb dX6_replace_3 rfl hl (by decide) rfl (fun ls hl => ?_)
  refine lv_aload_n hx hb dX6_replace_4 rfl (lv_at hl 1 rfl) ?_
  refine lv_iload_n hx hb dX6_replace_5 rfl (lv_at hl 2 rfl) ?_
  refine lv_iload_n hx hb dX6_replace_6 rfl (lv_at hl 3 rfl) ?_
  refine z_iast (Z' := va_up Z 0 (zu M 15 j value)) hx hb hK hP hJ hS (zG_se (by decide)) (j := j) (by omega) (by decide) dX6_replace_7 (zS_se (by decide)) (fun H locs hP hS => ?_)
  refine lv_iload_n hx hb dX6_replace_8 rfl (lv_at hl 0 rfl) ?_
  exact z_reti hx hb hr hlk rfl hP hS dX6_replace_9 (by first | rfl | simp only [g_replace_se]) (congrArg (va_up Z 0) (by first | rfl | simp only [h_replace_se]))

def g_replace_rg (t : Nat) (j : Nat) (value : Int32) (M : zM) : Int32 := M (t + 20) j
def h_replace_rg (t : Nat) (j : Nat) (value : Int32) (M : zM) : zM := zu M (t + 20) j value
set_option maxHeartbeats 4000000 in
set_option maxRecDepth 100000 in
theorem ct_replace_rg (l : Launch) (D : va_G) (a : Nat → Nat) (ca : Nat → ClassId) (hJ : zJ a) (Z : Nat → zM) (M : zM) (t : Nat) (ht : t < 4) (j : Nat) (hj : j < 4) (value : Int32) : zCi l yX6_replace wsX6_replace ({ frames := 0, cells := 0, slots := 0, locals := 0 } : Room) D a ca [.ref (a (19 * 0 + (6 + t))), .int (nI j), .int value] (va_up Z 0 M) (g_replace_rg t j value M) (va_up Z 0 (h_replace_rg t j value M)) := by
  refine z_ofi (cc := cX6_replace) (maxL := 4) (own := RX6) (by decide) rfl (Nat.le_of_ble_eq_true rfl) rfl (fun p e s m below meth c ls hx hb hr hml hts hown hlk hl hK hP hS => ?_)
  have hl : lv_has ls 4 [(0, .ref (a (19 * 0 + (6 + t)))), (1, .int (nI j)), (2, .int value)] := hl
  refine lv_aload_n hx hb dX6_replace_0 rfl (lv_at hl 0 rfl) ?_
  refine lv_iload_n hx hb dX6_replace_1 rfl (lv_at hl 1 rfl) ?_
  refine z_iald hx hb hK hP (zG_rg (by decide) ht) (j := j) (by omega) (by decide) dX6_replace_2 ?_
  refine lv_istore_n (lv' := [(3, .int (M (t + 20) j)), (0, .ref (a (19 * 0 + (6 + t)))), (1, .int (nI j)), (2, .int value)]) hx hb dX6_replace_3 rfl hl (by decide) rfl (fun ls hl => ?_)
  refine lv_aload_n hx hb dX6_replace_4 rfl (lv_at hl 1 rfl) ?_
  refine lv_iload_n hx hb dX6_replace_5 rfl (lv_at hl 2 rfl) ?_
  refine lv_iload_n hx hb dX6_replace_6 rfl (lv_at hl 3 rfl) ?_
  refine z_iast (Z' := va_up Z 0 (zu M (t + 20) j value)) hx hb hK hP hJ hS (zG_rg (by decide) ht) (j := j) (by omega) (by decide) dX6_replace_7 (zS_rg (by decide) ht) (fun H locs hP hS => ?_)
  refine lv_iload_n hx hb dX6_replace_8 rfl (lv_at hl 0 rfl) ?_
  exact z_reti hx hb hr hlk rfl hP hS dX6_replace_9 (by first | rfl | simp only [g_replace_rg]) (congrArg (va_up Z 0) (by first | rfl | simp only [h_replace_rg]))
