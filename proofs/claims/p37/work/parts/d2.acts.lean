/-! one act of the law -/
def az (y : Int32) (k : Nat) : Int32 := y >>> ((nI 5 * nI k) &&& 31)
def aw (y : Int32) (k : Nat) : Int32 := az y k - az y k / nI 12 * nI 12
def ao (y : Int32) (k : Nat) : Int32 := if aw y k = nI 7 then az y k / nI 12 - az y k / nI 12 / nI 16 * nI 16 else az y k / nI 12 - az y k / nI 12 / nI 4 * nI 4
def ab_ (y : Int32) (k : Nat) : Int32 := if aw y k = 0 then az y k / nI 48 - az y k / nI 48 / nI 41 * nI 41 - nI 20 else if aw y k ≤ nI 7 then az y k / nI 48 - az y k / nI 48 / nI 4 * nI 4 else az y k / nI 48 - az y k / nI 48 / nI 16 * nI 16
def aZ (k : Nat) (Z : Nat → zM) : Nat → zM := if nI k ≤ 0 then Z else h_X6_append Z (nI 59)
def aT (y : Int32) (k : Nat) (Z : Nat → zM) : Int32 × (Nat → zM) := (g_L_types (aZ k Z) (aw y k) (ao y k) (ab_ y k), h_L_types (aZ k Z) (aw y k) (ao y k) (ab_ y k))
def aL (mn y : Int32) : Nat → Nat → Int32 → (Nat → zM) → Int32 × (Nat → zM)
  | 0, _, len, Z => (len, Z)
  | n + 1, k, len, Z => if mn ≤ nI k then (len, Z) else aL mn y n (k + 1) (aT y k Z).1 (aT y k Z).2
def aX (y : Int32) (q : Int32 × (Nat → zM)) : Int32 × (Nat → zM) := if 0 ≤ q.1 then (g_assemble2 q.2 (y / nI 4 - y / nI 4 / nI 10 * nI 10), h_assemble2 q.2 (y / nI 4 - y / nI 4 / nI 10 * nI 10)) else ((-9), q.2)
def aA (mn y : Int32) (Z : Nat → zM) : Int32 × (Nat → zM) := aX y (aL mn y 4 0 (g_X6_clearText Z) (h_X6_clearText Z))
theorem pa_aL {B : Nat} {mn y : Int32} : ∀ (n k : Nat) (len : Int32) (Z : Nat → zM), IVp B Z → IVp B (aL mn y n k len Z).2 := by
  intro n
  induction n with
  | zero => exact fun _ _ _ h => h
  | succ n ih =>
    intro k len Z h
    simp only [aL]
    refine z_ite (P := fun q : Int32 × (Nat → zM) => IVp B q.2) (fun _ => h) (fun _ => ih _ _ _ ?_)
    exact pa_types (z_ite (P := IVp B) (fun _ => h) (fun _ => pa_append h _)) _ _ _
theorem pa_aA {B : Nat} {mn y : Int32} {Z : Nat → zM} (h : IVp B Z) : IVp B (aA mn y Z).2 := by
  unfold aA aX
  have k := pa_aL (mn := mn) (y := y) 4 0 (g_X6_clearText Z) (h_X6_clearText Z) (pa_clearText h)
  exact z_ite (P := fun q : Int32 × (Nat → zM) => IVp B q.2) (fun _ => pa_assemble k _) (fun _ => k)
theorem pe_aT {T : zM} {Z : Nat → zM} (y : Int32) (k : Nat) : aT y k (va_up Z 1 T) = ((aT y k Z).1, va_up (aT y k Z).2 1 T) := by
  have e1 : aZ k (va_up Z 1 T) = va_up (aZ k Z) 1 T := by
    unfold aZ
    rw [(pe_append _).2, tz_ite]
  unfold aT
  rw [e1, (pe_types _ _ _).1, (pe_types _ _ _).2]
theorem pe_aL {T : zM} {mn y : Int32} : ∀ (n k : Nat) (len : Int32) (Z : Nat → zM), aL mn y n k len (va_up Z 1 T) = ((aL mn y n k len Z).1, va_up (aL mn y n k len Z).2 1 T) := by
  intro n
  induction n with
  | zero => exact fun _ _ _ => rfl
  | succ n ih =>
    intro k len Z
    simp only [aL]
    rw [pe_aT]
    by_cases c : mn ≤ nI k
    · rw [if_pos c, if_pos c]
    · rw [if_neg c, if_neg c]
      exact ih _ _ _
theorem pe_aA {T : zM} {mn y : Int32} {Z : Nat → zM} : aA mn y (va_up Z 1 T) = ((aA mn y Z).1, va_up (aA mn y Z).2 1 T) := by
  unfold aA
  rw [(pe_clearText).1, (pe_clearText).2, pe_aL]
  generalize aL mn y 4 0 (g_X6_clearText Z) (h_X6_clearText Z) = q
  unfold aX
  by_cases c : 0 ≤ q.1
  · rw [if_pos c, if_pos c, (pe_assemble _).1, (pe_assemble _).2]
  · rw [if_neg c, if_neg c]
def g_L_acts (Z : Nat → zM) (j : Nat) : Int32 := if (nI (j % 32)) = nI 0 then if (((nI (j / 32)) / (nI 4)) - ((nI (j / 32)) / (nI 4)) / (nI 7) * (nI 7)) = 0 then g_start2 Z (nI (j / 32 % 4)) (((nI (j / 32)) / (nI 28)) - ((nI (j / 32)) / (nI 28)) / (nI 48) * (nI 48)) else g_start2 Z (nI (j / 32 % 4)) (((nI (j / 32)) / (nI 28)) - ((nI (j / 32)) / (nI 28)) / (nI 12) * (nI 12)) else if (nI (j % 32)) = nI 1 then if (((nI (j / 32)) / (nI 4)) - ((nI (j / 32)) / (nI 4)) / (nI 7) * (nI 7)) = 0 then g_start2 Z (nI (j / 32 % 4)) (((nI (j / 32)) / (nI 28)) - ((nI (j / 32)) / (nI 28)) / (nI 48) * (nI 48)) else g_start2 Z (nI (j / 32 % 4)) (((nI (j / 32)) / (nI 28)) - ((nI (j / 32)) / (nI 28)) / (nI 12) * (nI 12)) else if (nI (j % 32)) = nI 2 then if (((nI (j / 32)) / (nI 4)) - ((nI (j / 32)) / (nI 4)) / (nI 7) * (nI 7)) = 0 then g_start2 Z (nI (j / 32 % 4)) (((nI (j / 32)) / (nI 28)) - ((nI (j / 32)) / (nI 28)) / (nI 48) * (nI 48)) else g_start2 Z (nI (j / 32 % 4)) (((nI (j / 32)) / (nI 28)) - ((nI (j / 32)) / (nI 28)) / (nI 12) * (nI 12)) else if (nI (j % 32)) = nI 3 then if (((nI (j / 32)) / (nI 4)) - ((nI (j / 32)) / (nI 4)) / (nI 7) * (nI 7)) = 0 then g_start2 Z (nI (j / 32 % 4)) (((nI (j / 32)) / (nI 28)) - ((nI (j / 32)) / (nI 28)) / (nI 48) * (nI 48)) else g_start2 Z (nI (j / 32 % 4)) (((nI (j / 32)) / (nI 28)) - ((nI (j / 32)) / (nI 28)) / (nI 12) * (nI 12)) else if (nI (j % 32)) = nI 4 then g_halt2 Z (nI (j / 32 % 4)) else if (nI (j % 32)) = nI 5 then g_setRegister2 Z (nI (j / 32 % 4)) (((nI (j / 32)) / (nI 4)) - ((nI (j / 32)) / (nI 4)) / (nI 4) * (nI 4)) ((((nI (j / 32)) / (nI 16)) - ((nI (j / 32)) / (nI 16)) / (nI 65536) * (nI 65536)) - (nI 32768)) else if (nI (j % 32)) = nI 6 then g_setWord2 Z ((nI (j / 32)) - (nI (j / 32)) / (nI 32) * (nI 32)) ((((nI (j / 32)) / (nI 32)) - ((nI (j / 32)) / (nI 32)) / (nI 65536) * (nI 65536)) - (nI 32768)) else if (nI (j % 32)) = nI 7 then g_setSlot2 Z ((nI (j / 32)) - (nI (j / 32)) / (nI 8) * (nI 8)) (((nI (j / 32)) / (nI 8)) - ((nI (j / 32)) / (nI 8)) / (nI 4) * (nI 4)) else if (nI (j % 32)) = nI 8 then if ((nI (j / 32)) - (nI (j / 32)) / (nI 2) * (nI 2)) = 0 then g_set2 Z (nI 0) (((nI (j / 32)) / (nI 2)) - ((nI (j / 32)) / (nI 2)) / (nI 21) * (nI 21)) else g_set2 Z (nI 1) (((nI (j / 32)) / (nI 2)) - ((nI (j / 32)) / (nI 2)) / (nI 3) * (nI 3)) else if (nI (j % 32)) = nI 9 then if ((nI (j / 32)) - (nI (j / 32)) / (nI 2) * (nI 2)) = 0 then g_set2 Z (nI 0) (((nI (j / 32)) / (nI 2)) - ((nI (j / 32)) / (nI 2)) / (nI 21) * (nI 21)) else g_set2 Z (nI 1) (((nI (j / 32)) / (nI 2)) - ((nI (j / 32)) / (nI 2)) / (nI 3) * (nI 3)) else if (nI (j % 32)) = nI 10 then if (((nI (j / 32)) / (nI 48)) - ((nI (j / 32)) / (nI 48)) / (nI 3) * (nI 3)) ≤ 0 then g_setBreakpoint2 Z ((nI (j / 32)) - (nI (j / 32)) / (nI 48) * (nI 48)) (nI 0) else g_setBreakpoint2 Z ((nI (j / 32)) - (nI (j / 32)) / (nI 48) * (nI 48)) (nI 1) else if (nI (j % 32)) = nI 11 then g_undo2 Z else if (nI (j % 32)) = nI 12 then (aA (nI (1 + j / 32 % 4)) (nI (j / 32)) Z).1 else if (nI (j % 32)) = nI 13 then (aA (nI (1 + j / 32 % 4)) (nI (j / 32)) Z).1 else if (nI (j % 32)) = nI 14 then (aA (nI (1 + j / 32 % 4)) (nI (j / 32)) Z).1 else if (nI (j % 32)) = nI 15 then (aA (nI (1 + j / 32 % 4)) (nI (j / 32)) Z).1 else if (nI (j % 32)) = nI 16 then (aA (nI (1 + j / 32 % 4)) (nI (j / 32)) Z).1 else if ((nI (j / 32)) - (nI (j / 32)) / (nI 5) * (nI 5)) = 0 then g_run2 Z ((nI 1) + ((nI (j / 32)) - (nI (j / 32)) / (nI 60) * (nI 60))) else g_run2 Z ((nI 1) + ((nI (j / 32)) - (nI (j / 32)) / (nI 6) * (nI 6)))
def h_L_acts (Z : Nat → zM) (j : Nat) : Nat → zM := if (nI (j % 32)) = nI 0 then if (((nI (j / 32)) / (nI 4)) - ((nI (j / 32)) / (nI 4)) / (nI 7) * (nI 7)) = 0 then h_start2 Z (nI (j / 32 % 4)) (((nI (j / 32)) / (nI 28)) - ((nI (j / 32)) / (nI 28)) / (nI 48) * (nI 48)) else h_start2 Z (nI (j / 32 % 4)) (((nI (j / 32)) / (nI 28)) - ((nI (j / 32)) / (nI 28)) / (nI 12) * (nI 12)) else if (nI (j % 32)) = nI 1 then if (((nI (j / 32)) / (nI 4)) - ((nI (j / 32)) / (nI 4)) / (nI 7) * (nI 7)) = 0 then h_start2 Z (nI (j / 32 % 4)) (((nI (j / 32)) / (nI 28)) - ((nI (j / 32)) / (nI 28)) / (nI 48) * (nI 48)) else h_start2 Z (nI (j / 32 % 4)) (((nI (j / 32)) / (nI 28)) - ((nI (j / 32)) / (nI 28)) / (nI 12) * (nI 12)) else if (nI (j % 32)) = nI 2 then if (((nI (j / 32)) / (nI 4)) - ((nI (j / 32)) / (nI 4)) / (nI 7) * (nI 7)) = 0 then h_start2 Z (nI (j / 32 % 4)) (((nI (j / 32)) / (nI 28)) - ((nI (j / 32)) / (nI 28)) / (nI 48) * (nI 48)) else h_start2 Z (nI (j / 32 % 4)) (((nI (j / 32)) / (nI 28)) - ((nI (j / 32)) / (nI 28)) / (nI 12) * (nI 12)) else if (nI (j % 32)) = nI 3 then if (((nI (j / 32)) / (nI 4)) - ((nI (j / 32)) / (nI 4)) / (nI 7) * (nI 7)) = 0 then h_start2 Z (nI (j / 32 % 4)) (((nI (j / 32)) / (nI 28)) - ((nI (j / 32)) / (nI 28)) / (nI 48) * (nI 48)) else h_start2 Z (nI (j / 32 % 4)) (((nI (j / 32)) / (nI 28)) - ((nI (j / 32)) / (nI 28)) / (nI 12) * (nI 12)) else if (nI (j % 32)) = nI 4 then h_halt2 Z (nI (j / 32 % 4)) else if (nI (j % 32)) = nI 5 then h_setRegister2 Z (nI (j / 32 % 4)) (((nI (j / 32)) / (nI 4)) - ((nI (j / 32)) / (nI 4)) / (nI 4) * (nI 4)) ((((nI (j / 32)) / (nI 16)) - ((nI (j / 32)) / (nI 16)) / (nI 65536) * (nI 65536)) - (nI 32768)) else if (nI (j % 32)) = nI 6 then h_setWord2 Z ((nI (j / 32)) - (nI (j / 32)) / (nI 32) * (nI 32)) ((((nI (j / 32)) / (nI 32)) - ((nI (j / 32)) / (nI 32)) / (nI 65536) * (nI 65536)) - (nI 32768)) else if (nI (j % 32)) = nI 7 then h_setSlot2 Z ((nI (j / 32)) - (nI (j / 32)) / (nI 8) * (nI 8)) (((nI (j / 32)) / (nI 8)) - ((nI (j / 32)) / (nI 8)) / (nI 4) * (nI 4)) else if (nI (j % 32)) = nI 8 then if ((nI (j / 32)) - (nI (j / 32)) / (nI 2) * (nI 2)) = 0 then h_set2 Z (nI 0) (((nI (j / 32)) / (nI 2)) - ((nI (j / 32)) / (nI 2)) / (nI 21) * (nI 21)) else h_set2 Z (nI 1) (((nI (j / 32)) / (nI 2)) - ((nI (j / 32)) / (nI 2)) / (nI 3) * (nI 3)) else if (nI (j % 32)) = nI 9 then if ((nI (j / 32)) - (nI (j / 32)) / (nI 2) * (nI 2)) = 0 then h_set2 Z (nI 0) (((nI (j / 32)) / (nI 2)) - ((nI (j / 32)) / (nI 2)) / (nI 21) * (nI 21)) else h_set2 Z (nI 1) (((nI (j / 32)) / (nI 2)) - ((nI (j / 32)) / (nI 2)) / (nI 3) * (nI 3)) else if (nI (j % 32)) = nI 10 then if (((nI (j / 32)) / (nI 48)) - ((nI (j / 32)) / (nI 48)) / (nI 3) * (nI 3)) ≤ 0 then h_setBreakpoint2 Z ((nI (j / 32)) - (nI (j / 32)) / (nI 48) * (nI 48)) (nI 0) else h_setBreakpoint2 Z ((nI (j / 32)) - (nI (j / 32)) / (nI 48) * (nI 48)) (nI 1) else if (nI (j % 32)) = nI 11 then h_undo2 Z else if (nI (j % 32)) = nI 12 then (aA (nI (1 + j / 32 % 4)) (nI (j / 32)) Z).2 else if (nI (j % 32)) = nI 13 then (aA (nI (1 + j / 32 % 4)) (nI (j / 32)) Z).2 else if (nI (j % 32)) = nI 14 then (aA (nI (1 + j / 32 % 4)) (nI (j / 32)) Z).2 else if (nI (j % 32)) = nI 15 then (aA (nI (1 + j / 32 % 4)) (nI (j / 32)) Z).2 else if (nI (j % 32)) = nI 16 then (aA (nI (1 + j / 32 % 4)) (nI (j / 32)) Z).2 else if ((nI (j / 32)) - (nI (j / 32)) / (nI 5) * (nI 5)) = 0 then h_run2 Z ((nI 1) + ((nI (j / 32)) - (nI (j / 32)) / (nI 60) * (nI 60))) else h_run2 Z ((nI 1) + ((nI (j / 32)) - (nI (j / 32)) / (nI 6) * (nI 6)))
/-- two answers, two states, by one condition -/
theorem q_it2 {c : Prop} [Decidable c] {T : zM} {g1 g2 k1 k2 : Int32} {h1 h2 w1 w2 : Nat → zM} (a : c → g1 = k1 ∧ h1 = va_up w1 1 T) (b : ¬ c → g2 = k2 ∧ h2 = va_up w2 1 T) : (if c then g1 else g2) = (if c then k1 else k2) ∧ (if c then h1 else h2) = va_up (if c then w1 else w2) 1 T := by
  by_cases q : c
  · rw [if_pos q, if_pos q, if_pos q, if_pos q]
    exact a q
  · rw [if_neg q, if_neg q, if_neg q, if_neg q]
    exact b q
theorem pe_acts {T : zM} {Z : Nat → zM} (j : Nat) : g_L_acts (va_up Z 1 T) j = g_L_acts Z j ∧ h_L_acts (va_up Z 1 T) j = va_up (h_L_acts Z j) 1 T := by
  unfold g_L_acts h_L_acts
  have eA : ∀ mn y : Int32, (aA mn y (va_up Z 1 T)).1 = (aA mn y Z).1 ∧ (aA mn y (va_up Z 1 T)).2 = va_up (aA mn y Z).2 1 T := fun mn y => by
    rw [pe_aA]
    exact ⟨rfl, rfl⟩
  exact (q_it2 (fun _ => (q_it2 (fun _ => pe_start _ _) (fun _ => pe_start _ _))) (fun _ => (q_it2 (fun _ => (q_it2 (fun _ => pe_start _ _) (fun _ => pe_start _ _))) (fun _ => (q_it2 (fun _ => (q_it2 (fun _ => pe_start _ _) (fun _ => pe_start _ _))) (fun _ => (q_it2 (fun _ => (q_it2 (fun _ => pe_start _ _) (fun _ => pe_start _ _))) (fun _ => (q_it2 (fun _ => pe_halt _) (fun _ => (q_it2 (fun _ => pe_setRegister _ _ _) (fun _ => (q_it2 (fun _ => pe_setWord _ _) (fun _ => (q_it2 (fun _ => pe_setSlot _ _) (fun _ => (q_it2 (fun _ => (q_it2 (fun _ => pe_set _ _) (fun _ => pe_set _ _))) (fun _ => (q_it2 (fun _ => (q_it2 (fun _ => pe_set _ _) (fun _ => pe_set _ _))) (fun _ => (q_it2 (fun _ => (q_it2 (fun _ => pe_setBreakpoint _ _) (fun _ => pe_setBreakpoint _ _))) (fun _ => (q_it2 (fun _ => pe_undo) (fun _ => (q_it2 (fun _ => eA _ _) (fun _ => (q_it2 (fun _ => eA _ _) (fun _ => (q_it2 (fun _ => eA _ _) (fun _ => (q_it2 (fun _ => eA _ _) (fun _ => (q_it2 (fun _ => eA _ _) (fun _ => (q_it2 (fun _ => pe_run _) (fun _ => pe_run _))))))))))))))))))))))))))))))))))))
theorem pa_acts {B : Nat} {Z : Nat → zM} (hB : B + 300 < 2 ^ 31) (h : IVp B Z) (j : Nat) : IVp (B + 200) (h_L_acts Z j) := by
  unfold h_L_acts
  exact (z_ite (P := IVp (B + 200)) (fun _ => (z_ite (P := IVp (B + 200)) (fun _ => ivp_up (pa_start h _ _) (by omega)) (fun _ => ivp_up (pa_start h _ _) (by omega)))) (fun _ => (z_ite (P := IVp (B + 200)) (fun _ => (z_ite (P := IVp (B + 200)) (fun _ => ivp_up (pa_start h _ _) (by omega)) (fun _ => ivp_up (pa_start h _ _) (by omega)))) (fun _ => (z_ite (P := IVp (B + 200)) (fun _ => (z_ite (P := IVp (B + 200)) (fun _ => ivp_up (pa_start h _ _) (by omega)) (fun _ => ivp_up (pa_start h _ _) (by omega)))) (fun _ => (z_ite (P := IVp (B + 200)) (fun _ => (z_ite (P := IVp (B + 200)) (fun _ => ivp_up (pa_start h _ _) (by omega)) (fun _ => ivp_up (pa_start h _ _) (by omega)))) (fun _ => (z_ite (P := IVp (B + 200)) (fun _ => ivp_up (pa_halt h _) (by omega)) (fun _ => (z_ite (P := IVp (B + 200)) (fun _ => ivp_up (pa_setRegister h _ _ _) (by omega)) (fun _ => (z_ite (P := IVp (B + 200)) (fun _ => ivp_up (pa_setWord h _ _) (by omega)) (fun _ => (z_ite (P := IVp (B + 200)) (fun _ => ivp_up (pa_setSlot h _ _) (by omega)) (fun _ => (z_ite (P := IVp (B + 200)) (fun _ => (z_ite (P := IVp (B + 200)) (fun _ => ivp_up (pa_set h _ _) (by omega)) (fun _ => ivp_up (pa_set h _ _) (by omega)))) (fun _ => (z_ite (P := IVp (B + 200)) (fun _ => (z_ite (P := IVp (B + 200)) (fun _ => ivp_up (pa_set h _ _) (by omega)) (fun _ => ivp_up (pa_set h _ _) (by omega)))) (fun _ => (z_ite (P := IVp (B + 200)) (fun _ => (z_ite (P := IVp (B + 200)) (fun _ => ivp_up (pa_setBreakpoint h _ _) (by omega)) (fun _ => ivp_up (pa_setBreakpoint h _ _) (by omega)))) (fun _ => (z_ite (P := IVp (B + 200)) (fun _ => ivp_up (pa_undo h) (by omega)) (fun _ => (z_ite (P := IVp (B + 200)) (fun _ => ivp_up (pa_aA h) (by omega)) (fun _ => (z_ite (P := IVp (B + 200)) (fun _ => ivp_up (pa_aA h) (by omega)) (fun _ => (z_ite (P := IVp (B + 200)) (fun _ => ivp_up (pa_aA h) (by omega)) (fun _ => (z_ite (P := IVp (B + 200)) (fun _ => ivp_up (pa_aA h) (by omega)) (fun _ => (z_ite (P := IVp (B + 200)) (fun _ => ivp_up (pa_aA h) (by omega)) (fun _ => (z_ite (P := IVp (B + 200)) (fun _ => pa_run hB h _) (fun _ => pa_run hB h _))))))))))))))))))))))))))))))))))))
set_option maxHeartbeats 8000000 in
set_option maxRecDepth 100000 in
theorem ct_L_acts (l : Launch) (D : va_G) (a : Nat → Nat) (ca : Nat → ClassId) (hJ : zJ a) (qs qv : Nat) (Z : Nat → zM) (B : Nat) (j : Nat) (hj : j < 2 ^ 31) (hV : IVp B Z) : zTi l yL_acts wsL_acts ({ frames := 7, cells := 0, slots := 0, locals := 156 } : Room) D a ca qs qv [.ref (a 114), .int (nI j)] Z (g_L_acts Z j) (h_L_acts Z j) := by
  refine t_ofi (cc := cL_acts) (maxL := 9) (own := RL) (by decide) rfl (Nat.le_of_ble_eq_true rfl) rfl (fun p e s m below meth c ls hx hb hr hml hts hown hlk hl hK hE hP hS => ?_)
  have hl : lv_has ls 9 [(0, .ref (a 114)), (1, .int (nI j))] := hl
  have kx : ∀ (k : Nat) (len : Int32) (Zc : Nat → zM) (H : Heap) (locs : List Loc) (ls : Array Slot) (hV : IVp B Zc) (hl : lv_has ls 9 [(6, .int (nI k)), (5, .int (nI (1 + j / 32 % 4))), (4, .int len), (3, .int (nI (j / 32 % 4))), (2, .int (nI (j / 32))), (0, .ref (a 114)), (1, .int (nI j))]) (hP : va_P D vwCl (zW a ca Zc) H) (hS : va_S (zA a) s.heap H locs), W p l e ({ frames := 7, cells := 0, slots := 0, locals := 156 } : Room) s m ([.ref (a 114), .int (nI j)] : List Value).toArray below meth c H locs 0 0 (zQi below D a ca [.ref (a 114), .int (nI j)] s (aX (nI (j / 32)) (len, Zc)).1 (aX (nI (j / 32)) (len, Zc)).2) (F0 m 387 ls []) := by
    intro k len Zc H locs ls hV hl hP hS
    refine lv_iload hx hb dL_acts_387 (lv_at hl 2 rfl) ?_
    refine lv_if_ge (tgt := 397) hx hb dL_acts_389 (by decide) (fun c389_1 => ?_) (fun c389_1 => ?_)
    · refine lv_aload_n hx hb dL_acts_397 rfl (lv_at hl 5 rfl) ?_
      refine lv_iload_n hx hb dL_acts_398 rfl (lv_at hl 4 rfl) ?_
      refine lv_iconst (v := nI 4) hx hb dL_acts_399 (by decide) ?_
      refine lv_idiv hx hb dL_acts_400 (by decide) ?_
      refine lv_bipush (v := nI 10) hx hb dL_acts_401 (by decide) ?_
      refine lv_irem hx hb dL_acts_403 (by decide) ?_
      refine t_cVi (As := [.int (((nI (j / 32)) / (nI 4)) - ((nI (j / 32)) / (nI 4)) / (nI 10) * (nI 10))]) (rest := []) ⟨hx, hb, hml, hown, hts⟩ (ct_assemble2 l D a ca hJ qs qv Zc (((nI (j / 32)) / (nI 4)) - ((nI (j / 32)) / (nI 4)) / (nI 10) * (nI 10)) hV.2.2.2.2 hV.2.2.1 hV.2.2.2.1 hV.1) (cwV 1 hts gL_acts_X6_assemble rfl rfl rfl (by decide +kernel) ⟨Nat.le_of_ble_eq_true rfl, Nat.le_of_ble_eq_true rfl⟩) hE hK hP hS (va_recv (ci := 6) hK.1 hP rfl zW_b) rfl hl.1 rfl (Nat.le_of_ble_eq_true rfl) dL_acts_404 ⟨Nat.zero_le _, Nat.zero_le _⟩ (fun H locs hP hS => ?_)
      exact z_reti hx hb hr hlk rfl hP hS dL_acts_407 (by simp only [aX, if_pos c389_1]) (by simp only [aX, if_pos c389_1])
    · refine lv_bipush (v := (-9)) hx hb dL_acts_392 (by decide) ?_
      refine lv_goto (tgt := 407) hx hb dL_acts_394 (by decide) ?_
      exact z_reti hx hb hr hlk rfl hP hS dL_acts_407 (by simp only [aX, if_neg c389_1]) (by simp only [aX, if_neg c389_1])
  have lp : ∀ (n k : Nat) (len : Int32) (Zc : Nat → zM) (H : Heap) (locs : List Loc) (ls : Array Slot) (hn : k + n = 4) (hV : IVp B Zc) (hl : lv_has ls 9 [(6, .int (nI k)), (5, .int (nI (1 + j / 32 % 4))), (4, .int len), (3, .int (nI (j / 32 % 4))), (2, .int (nI (j / 32))), (0, .ref (a 114)), (1, .int (nI j))]) (hP : va_P D vwCl (zW a ca Zc) H) (hS : va_S (zA a) s.heap H locs), W p l e ({ frames := 7, cells := 0, slots := 0, locals := 156 } : Room) s m ([.ref (a 114), .int (nI j)] : List Value).toArray below meth c H locs 0 0 (zQi below D a ca [.ref (a 114), .int (nI j)] s (aX (nI (j / 32)) (aL (nI (1 + j / 32 % 4)) (nI (j / 32)) n k len Zc)).1 (aX (nI (j / 32)) (aL (nI (1 + j / 32 % 4)) (nI (j / 32)) n k len Zc)).2) (F0 m 264 ls []) := by
    intro n
    induction n with
    | zero =>
      intro k len Zc H locs ls hn hV hl hP hS
      refine lv_iload hx hb dL_acts_264 (lv_at hl 0 rfl) ?_
      refine lv_iload hx hb dL_acts_266 (lv_at hl 1 rfl) ?_
      refine lv_icmp_ge (tgt := 387) hx hb dL_acts_268 (by decide) (fun _ => ?_) (fun c268_1 => absurd (nI_le (by omega) (by omega)) c268_1)
      exact kx _ _ _ _ _ _ hV (lv_sub hl [0, 1, 2, 3, 4, 5, 6] rfl) hP hS
    | succ n ih =>
      intro k len Zc H locs ls hn hV hl hP hS
      refine lv_iload hx hb dL_acts_264 (lv_at hl 0 rfl) ?_
      refine lv_iload hx hb dL_acts_266 (lv_at hl 1 rfl) ?_
      refine lv_icmp_ge (tgt := 387) hx hb dL_acts_268 (by decide) (fun c268_1 => ?_) (fun c268_1 => ?_)
      · exact z_toi (r2 := (aX (nI (j / 32)) (len, Zc)).1) (Z2 := (aX (nI (j / 32)) (len, Zc)).2) (by simp only [aL, if_pos c268_1]) (by simp only [aL, if_pos c268_1]) (kx _ _ _ _ _ _ hV (lv_sub hl [0, 1, 2, 3, 4, 5, 6] rfl) hP hS)
      · refine lv_iload_n hx hb dL_acts_271 rfl (lv_at hl 4 rfl) ?_
        refine lv_iconst (v := nI 5) hx hb dL_acts_272 (by decide) ?_
        refine lv_iload hx hb dL_acts_273 (lv_at hl 0 rfl) ?_
        refine lv_imul hx hb dL_acts_275 ?_
        refine lv_ishr hx hb dL_acts_276 ?_
        refine z_val (z := az (nI (j / 32)) k) rfl ?_
        refine lv_istore (lv' := [(7, .int (az (nI (j / 32)) k)), (6, .int (nI k)), (5, .int (nI (1 + j / 32 % 4))), (4, .int len), (3, .int (nI (j / 32 % 4))), (2, .int (nI (j / 32))), (0, .ref (a 114)), (1, .int (nI j))]) hx hb dL_acts_277 hl (by decide) rfl (fun ls hl => ?_)
        refine lv_iload hx hb dL_acts_279 (lv_at hl 0 rfl) ?_
        refine lv_bipush (v := nI 12) hx hb dL_acts_281 (by decide) ?_
        refine lv_irem hx hb dL_acts_283 (by decide) ?_
        refine z_val (z := aw (nI (j / 32)) k) rfl ?_
        refine lv_istore (lv' := [(8, .int (aw (nI (j / 32)) k)), (7, .int (az (nI (j / 32)) k)), (6, .int (nI k)), (5, .int (nI (1 + j / 32 % 4))), (4, .int len), (3, .int (nI (j / 32 % 4))), (2, .int (nI (j / 32))), (0, .ref (a 114)), (1, .int (nI j))]) hx hb dL_acts_284 hl (by decide) rfl (fun ls hl => ?_)
        refine lv_iload hx hb dL_acts_286 (lv_at hl 2 rfl) ?_
        refine lv_if_le (tgt := 300) hx hb dL_acts_288 (by decide) (fun c288_2 => ?_) (fun c288_2 => ?_)
        · refine lv_iload hx hb dL_acts_300 (lv_at hl 4 rfl) ?_
          refine lv_istore (lv' := [(4, .int len), (8, .int (aw (nI (j / 32)) k)), (7, .int (az (nI (j / 32)) k)), (6, .int (nI k)), (5, .int (nI (1 + j / 32 % 4))), (3, .int (nI (j / 32 % 4))), (2, .int (nI (j / 32))), (0, .ref (a 114)), (1, .int (nI j))]) hx hb dL_acts_302 hl (by decide) rfl (fun ls hl => ?_)
          refine lv_aload_n hx hb dL_acts_304 rfl (lv_at hl 7 rfl) ?_
          refine lv_iload hx hb dL_acts_305 (lv_at hl 1 rfl) ?_
          refine lv_iload hx hb dL_acts_307 (lv_at hl 1 rfl) ?_
          refine lv_bipush (v := nI 7) hx hb dL_acts_309 (by decide) ?_
          refine lv_icmp_ne (tgt := 325) hx hb dL_acts_311 (by decide) (fun c311_3 => ?_) (fun c311_3 => ?_)
          · refine lv_iload hx hb dL_acts_325 (lv_at hl 2 rfl) ?_
            refine lv_bipush (v := nI 12) hx hb dL_acts_327 (by decide) ?_
            refine lv_idiv hx hb dL_acts_329 (by decide) ?_
            refine lv_iconst (v := nI 4) hx hb dL_acts_330 (by decide) ?_
            refine lv_irem hx hb dL_acts_331 (by decide) ?_
            refine lv_iload hx hb dL_acts_332 (lv_at hl 1 rfl) ?_
            refine lv_if_ne (tgt := 351) hx hb dL_acts_334 (by decide) (fun c334_4 => ?_) (fun c334_4 => ?_)
            · refine lv_iload hx hb dL_acts_351 (lv_at hl 1 rfl) ?_
              refine lv_bipush (v := nI 7) hx hb dL_acts_353 (by decide) ?_
              refine lv_icmp_le (tgt := 369) hx hb dL_acts_355 (by decide) (fun c355_5 => ?_) (fun c355_5 => ?_)
              · refine lv_iload hx hb dL_acts_369 (lv_at hl 2 rfl) ?_
                refine lv_bipush (v := nI 48) hx hb dL_acts_371 (by decide) ?_
                refine lv_idiv hx hb dL_acts_373 (by decide) ?_
                refine lv_iconst (v := nI 4) hx hb dL_acts_374 (by decide) ?_
                refine lv_irem hx hb dL_acts_375 (by decide) ?_
                refine z_cSi (As := [.ref (a 114), .int (aw (nI (j / 32)) k), .int (((az (nI (j / 32)) k) / (nI 12)) - ((az (nI (j / 32)) k) / (nI 12)) / (nI 4) * (nI 4)), .int (((az (nI (j / 32)) k) / (nI 48)) - ((az (nI (j / 32)) k) / (nI 48)) / (nI 4) * (nI 4))]) (rest := []) ⟨hx, hb, hml, hown, hts⟩ (ct_L_types l D a ca hJ Zc (aw (nI (j / 32)) k) (((az (nI (j / 32)) k) / (nI 12)) - ((az (nI (j / 32)) k) / (nI 12)) / (nI 4) * (nI 4)) (((az (nI (j / 32)) k) / (nI 48)) - ((az (nI (j / 32)) k) / (nI 48)) / (nI 4) * (nI 4)) hV.2.2.2.2) (va_cwS 4 hts gL_acts_L_types rfl rfl rfl (by decide +kernel) ⟨Nat.le_of_ble_eq_true rfl, Nat.le_of_ble_eq_true rfl⟩) hK hP hS rfl hl.1 rfl (Nat.le_of_ble_eq_true rfl) dL_acts_376 ⟨Nat.zero_le _, Nat.zero_le _⟩ (fun H locs hP hS => ?_)
                refine lv_istore (lv' := [(4, .int (g_L_types Zc (aw (nI (j / 32)) k) (((az (nI (j / 32)) k) / (nI 12)) - ((az (nI (j / 32)) k) / (nI 12)) / (nI 4) * (nI 4)) (((az (nI (j / 32)) k) / (nI 48)) - ((az (nI (j / 32)) k) / (nI 48)) / (nI 4) * (nI 4)))), (8, .int (aw (nI (j / 32)) k)), (7, .int (az (nI (j / 32)) k)), (6, .int (nI k)), (5, .int (nI (1 + j / 32 % 4))), (3, .int (nI (j / 32 % 4))), (2, .int (nI (j / 32))), (0, .ref (a 114)), (1, .int (nI j))]) hx hb dL_acts_379 hl (by decide) rfl (fun ls hl => ?_)
                refine lv_iinc (v := nI (k + 1)) (lv' := [(6, .int (nI (k + 1))), (4, .int (g_L_types Zc (aw (nI (j / 32)) k) (((az (nI (j / 32)) k) / (nI 12)) - ((az (nI (j / 32)) k) / (nI 12)) / (nI 4) * (nI 4)) (((az (nI (j / 32)) k) / (nI 48)) - ((az (nI (j / 32)) k) / (nI 48)) / (nI 4) * (nI 4)))), (8, .int (aw (nI (j / 32)) k)), (7, .int (az (nI (j / 32)) k)), (5, .int (nI (1 + j / 32 % 4))), (3, .int (nI (j / 32 % 4))), (2, .int (nI (j / 32))), (0, .ref (a 114)), (1, .int (nI j))]) hx hb dL_acts_381 hl (k := 3) rfl (nI_add _ _) (by decide) rfl (fun ls hl => ?_)
                refine lv_goto (tgt := 264) hx hb dL_acts_384 (by decide) ?_
                exact z_toi (r2 := (aX (nI (j / 32)) (aL (nI (1 + j / 32 % 4)) (nI (j / 32)) n (k + 1) (g_L_types Zc (aw (nI (j / 32)) k) (((az (nI (j / 32)) k) / (nI 12)) - ((az (nI (j / 32)) k) / (nI 12)) / (nI 4) * (nI 4)) (((az (nI (j / 32)) k) / (nI 48)) - ((az (nI (j / 32)) k) / (nI 48)) / (nI 4) * (nI 4))) (h_L_types Zc (aw (nI (j / 32)) k) (((az (nI (j / 32)) k) / (nI 12)) - ((az (nI (j / 32)) k) / (nI 12)) / (nI 4) * (nI 4)) (((az (nI (j / 32)) k) / (nI 48)) - ((az (nI (j / 32)) k) / (nI 48)) / (nI 4) * (nI 4))))).1) (Z2 := (aX (nI (j / 32)) (aL (nI (1 + j / 32 % 4)) (nI (j / 32)) n (k + 1) (g_L_types Zc (aw (nI (j / 32)) k) (((az (nI (j / 32)) k) / (nI 12)) - ((az (nI (j / 32)) k) / (nI 12)) / (nI 4) * (nI 4)) (((az (nI (j / 32)) k) / (nI 48)) - ((az (nI (j / 32)) k) / (nI 48)) / (nI 4) * (nI 4))) (h_L_types Zc (aw (nI (j / 32)) k) (((az (nI (j / 32)) k) / (nI 12)) - ((az (nI (j / 32)) k) / (nI 12)) / (nI 4) * (nI 4)) (((az (nI (j / 32)) k) / (nI 48)) - ((az (nI (j / 32)) k) / (nI 48)) / (nI 4) * (nI 4))))).2) (by simp only [aL, aT, aZ, ao, ab_, if_neg c268_1, if_pos c288_2, if_neg c311_3, if_neg c334_4, if_pos c355_5]) (by simp only [aL, aT, aZ, ao, ab_, if_neg c268_1, if_pos c288_2, if_neg c311_3, if_neg c334_4, if_pos c355_5]) (ih (k + 1) _ _ _ _ _ (by omega) (pa_types hV _ _ _) (lv_sub hl [0, 4, 1, 5, 6, 7, 8] rfl) hP hS)
              · refine lv_iload hx hb dL_acts_358 (lv_at hl 2 rfl) ?_
                refine lv_bipush (v := nI 48) hx hb dL_acts_360 (by decide) ?_
                refine lv_idiv hx hb dL_acts_362 (by decide) ?_
                refine lv_bipush (v := nI 16) hx hb dL_acts_363 (by decide) ?_
                refine lv_irem hx hb dL_acts_365 (by decide) ?_
                refine lv_goto (tgt := 376) hx hb dL_acts_366 (by decide) ?_
                refine z_cSi (As := [.ref (a 114), .int (aw (nI (j / 32)) k), .int (((az (nI (j / 32)) k) / (nI 12)) - ((az (nI (j / 32)) k) / (nI 12)) / (nI 4) * (nI 4)), .int (((az (nI (j / 32)) k) / (nI 48)) - ((az (nI (j / 32)) k) / (nI 48)) / (nI 16) * (nI 16))]) (rest := []) ⟨hx, hb, hml, hown, hts⟩ (ct_L_types l D a ca hJ Zc (aw (nI (j / 32)) k) (((az (nI (j / 32)) k) / (nI 12)) - ((az (nI (j / 32)) k) / (nI 12)) / (nI 4) * (nI 4)) (((az (nI (j / 32)) k) / (nI 48)) - ((az (nI (j / 32)) k) / (nI 48)) / (nI 16) * (nI 16)) hV.2.2.2.2) (va_cwS 4 hts gL_acts_L_types rfl rfl rfl (by decide +kernel) ⟨Nat.le_of_ble_eq_true rfl, Nat.le_of_ble_eq_true rfl⟩) hK hP hS rfl hl.1 rfl (Nat.le_of_ble_eq_true rfl) dL_acts_376 ⟨Nat.zero_le _, Nat.zero_le _⟩ (fun H locs hP hS => ?_)
                refine lv_istore (lv' := [(4, .int (g_L_types Zc (aw (nI (j / 32)) k) (((az (nI (j / 32)) k) / (nI 12)) - ((az (nI (j / 32)) k) / (nI 12)) / (nI 4) * (nI 4)) (((az (nI (j / 32)) k) / (nI 48)) - ((az (nI (j / 32)) k) / (nI 48)) / (nI 16) * (nI 16)))), (8, .int (aw (nI (j / 32)) k)), (7, .int (az (nI (j / 32)) k)), (6, .int (nI k)), (5, .int (nI (1 + j / 32 % 4))), (3, .int (nI (j / 32 % 4))), (2, .int (nI (j / 32))), (0, .ref (a 114)), (1, .int (nI j))]) hx hb dL_acts_379 hl (by decide) rfl (fun ls hl => ?_)
                refine lv_iinc (v := nI (k + 1)) (lv' := [(6, .int (nI (k + 1))), (4, .int (g_L_types Zc (aw (nI (j / 32)) k) (((az (nI (j / 32)) k) / (nI 12)) - ((az (nI (j / 32)) k) / (nI 12)) / (nI 4) * (nI 4)) (((az (nI (j / 32)) k) / (nI 48)) - ((az (nI (j / 32)) k) / (nI 48)) / (nI 16) * (nI 16)))), (8, .int (aw (nI (j / 32)) k)), (7, .int (az (nI (j / 32)) k)), (5, .int (nI (1 + j / 32 % 4))), (3, .int (nI (j / 32 % 4))), (2, .int (nI (j / 32))), (0, .ref (a 114)), (1, .int (nI j))]) hx hb dL_acts_381 hl (k := 3) rfl (nI_add _ _) (by decide) rfl (fun ls hl => ?_)
                refine lv_goto (tgt := 264) hx hb dL_acts_384 (by decide) ?_
                exact z_toi (r2 := (aX (nI (j / 32)) (aL (nI (1 + j / 32 % 4)) (nI (j / 32)) n (k + 1) (g_L_types Zc (aw (nI (j / 32)) k) (((az (nI (j / 32)) k) / (nI 12)) - ((az (nI (j / 32)) k) / (nI 12)) / (nI 4) * (nI 4)) (((az (nI (j / 32)) k) / (nI 48)) - ((az (nI (j / 32)) k) / (nI 48)) / (nI 16) * (nI 16))) (h_L_types Zc (aw (nI (j / 32)) k) (((az (nI (j / 32)) k) / (nI 12)) - ((az (nI (j / 32)) k) / (nI 12)) / (nI 4) * (nI 4)) (((az (nI (j / 32)) k) / (nI 48)) - ((az (nI (j / 32)) k) / (nI 48)) / (nI 16) * (nI 16))))).1) (Z2 := (aX (nI (j / 32)) (aL (nI (1 + j / 32 % 4)) (nI (j / 32)) n (k + 1) (g_L_types Zc (aw (nI (j / 32)) k) (((az (nI (j / 32)) k) / (nI 12)) - ((az (nI (j / 32)) k) / (nI 12)) / (nI 4) * (nI 4)) (((az (nI (j / 32)) k) / (nI 48)) - ((az (nI (j / 32)) k) / (nI 48)) / (nI 16) * (nI 16))) (h_L_types Zc (aw (nI (j / 32)) k) (((az (nI (j / 32)) k) / (nI 12)) - ((az (nI (j / 32)) k) / (nI 12)) / (nI 4) * (nI 4)) (((az (nI (j / 32)) k) / (nI 48)) - ((az (nI (j / 32)) k) / (nI 48)) / (nI 16) * (nI 16))))).2) (by simp only [aL, aT, aZ, ao, ab_, if_neg c268_1, if_pos c288_2, if_neg c311_3, if_neg c334_4, if_neg c355_5]) (by simp only [aL, aT, aZ, ao, ab_, if_neg c268_1, if_pos c288_2, if_neg c311_3, if_neg c334_4, if_neg c355_5]) (ih (k + 1) _ _ _ _ _ (by omega) (pa_types hV _ _ _) (lv_sub hl [0, 4, 1, 5, 6, 7, 8] rfl) hP hS)
            · refine lv_iload hx hb dL_acts_337 (lv_at hl 2 rfl) ?_
              refine lv_bipush (v := nI 48) hx hb dL_acts_339 (by decide) ?_
              refine lv_idiv hx hb dL_acts_341 (by decide) ?_
              refine lv_bipush (v := nI 41) hx hb dL_acts_342 (by decide) ?_
              refine lv_irem hx hb dL_acts_344 (by decide) ?_
              refine lv_bipush (v := nI 20) hx hb dL_acts_345 (by decide) ?_
              refine lv_isub hx hb dL_acts_347 ?_
              refine lv_goto (tgt := 376) hx hb dL_acts_348 (by decide) ?_
              refine z_cSi (As := [.ref (a 114), .int (aw (nI (j / 32)) k), .int (((az (nI (j / 32)) k) / (nI 12)) - ((az (nI (j / 32)) k) / (nI 12)) / (nI 4) * (nI 4)), .int ((((az (nI (j / 32)) k) / (nI 48)) - ((az (nI (j / 32)) k) / (nI 48)) / (nI 41) * (nI 41)) - (nI 20))]) (rest := []) ⟨hx, hb, hml, hown, hts⟩ (ct_L_types l D a ca hJ Zc (aw (nI (j / 32)) k) (((az (nI (j / 32)) k) / (nI 12)) - ((az (nI (j / 32)) k) / (nI 12)) / (nI 4) * (nI 4)) ((((az (nI (j / 32)) k) / (nI 48)) - ((az (nI (j / 32)) k) / (nI 48)) / (nI 41) * (nI 41)) - (nI 20)) hV.2.2.2.2) (va_cwS 4 hts gL_acts_L_types rfl rfl rfl (by decide +kernel) ⟨Nat.le_of_ble_eq_true rfl, Nat.le_of_ble_eq_true rfl⟩) hK hP hS rfl hl.1 rfl (Nat.le_of_ble_eq_true rfl) dL_acts_376 ⟨Nat.zero_le _, Nat.zero_le _⟩ (fun H locs hP hS => ?_)
              refine lv_istore (lv' := [(4, .int (g_L_types Zc (aw (nI (j / 32)) k) (((az (nI (j / 32)) k) / (nI 12)) - ((az (nI (j / 32)) k) / (nI 12)) / (nI 4) * (nI 4)) ((((az (nI (j / 32)) k) / (nI 48)) - ((az (nI (j / 32)) k) / (nI 48)) / (nI 41) * (nI 41)) - (nI 20)))), (8, .int (aw (nI (j / 32)) k)), (7, .int (az (nI (j / 32)) k)), (6, .int (nI k)), (5, .int (nI (1 + j / 32 % 4))), (3, .int (nI (j / 32 % 4))), (2, .int (nI (j / 32))), (0, .ref (a 114)), (1, .int (nI j))]) hx hb dL_acts_379 hl (by decide) rfl (fun ls hl => ?_)
              refine lv_iinc (v := nI (k + 1)) (lv' := [(6, .int (nI (k + 1))), (4, .int (g_L_types Zc (aw (nI (j / 32)) k) (((az (nI (j / 32)) k) / (nI 12)) - ((az (nI (j / 32)) k) / (nI 12)) / (nI 4) * (nI 4)) ((((az (nI (j / 32)) k) / (nI 48)) - ((az (nI (j / 32)) k) / (nI 48)) / (nI 41) * (nI 41)) - (nI 20)))), (8, .int (aw (nI (j / 32)) k)), (7, .int (az (nI (j / 32)) k)), (5, .int (nI (1 + j / 32 % 4))), (3, .int (nI (j / 32 % 4))), (2, .int (nI (j / 32))), (0, .ref (a 114)), (1, .int (nI j))]) hx hb dL_acts_381 hl (k := 3) rfl (nI_add _ _) (by decide) rfl (fun ls hl => ?_)
              refine lv_goto (tgt := 264) hx hb dL_acts_384 (by decide) ?_
              exact z_toi (r2 := (aX (nI (j / 32)) (aL (nI (1 + j / 32 % 4)) (nI (j / 32)) n (k + 1) (g_L_types Zc (aw (nI (j / 32)) k) (((az (nI (j / 32)) k) / (nI 12)) - ((az (nI (j / 32)) k) / (nI 12)) / (nI 4) * (nI 4)) ((((az (nI (j / 32)) k) / (nI 48)) - ((az (nI (j / 32)) k) / (nI 48)) / (nI 41) * (nI 41)) - (nI 20))) (h_L_types Zc (aw (nI (j / 32)) k) (((az (nI (j / 32)) k) / (nI 12)) - ((az (nI (j / 32)) k) / (nI 12)) / (nI 4) * (nI 4)) ((((az (nI (j / 32)) k) / (nI 48)) - ((az (nI (j / 32)) k) / (nI 48)) / (nI 41) * (nI 41)) - (nI 20))))).1) (Z2 := (aX (nI (j / 32)) (aL (nI (1 + j / 32 % 4)) (nI (j / 32)) n (k + 1) (g_L_types Zc (aw (nI (j / 32)) k) (((az (nI (j / 32)) k) / (nI 12)) - ((az (nI (j / 32)) k) / (nI 12)) / (nI 4) * (nI 4)) ((((az (nI (j / 32)) k) / (nI 48)) - ((az (nI (j / 32)) k) / (nI 48)) / (nI 41) * (nI 41)) - (nI 20))) (h_L_types Zc (aw (nI (j / 32)) k) (((az (nI (j / 32)) k) / (nI 12)) - ((az (nI (j / 32)) k) / (nI 12)) / (nI 4) * (nI 4)) ((((az (nI (j / 32)) k) / (nI 48)) - ((az (nI (j / 32)) k) / (nI 48)) / (nI 41) * (nI 41)) - (nI 20))))).2) (by simp only [aL, aT, aZ, ao, ab_, if_neg c268_1, if_pos c288_2, if_neg c311_3, if_pos c334_4]) (by simp only [aL, aT, aZ, ao, ab_, if_neg c268_1, if_pos c288_2, if_neg c311_3, if_pos c334_4]) (ih (k + 1) _ _ _ _ _ (by omega) (pa_types hV _ _ _) (lv_sub hl [0, 4, 1, 5, 6, 7, 8] rfl) hP hS)
          · refine lv_iload hx hb dL_acts_314 (lv_at hl 2 rfl) ?_
            refine lv_bipush (v := nI 12) hx hb dL_acts_316 (by decide) ?_
            refine lv_idiv hx hb dL_acts_318 (by decide) ?_
            refine lv_bipush (v := nI 16) hx hb dL_acts_319 (by decide) ?_
            refine lv_irem hx hb dL_acts_321 (by decide) ?_
            refine lv_goto (tgt := 332) hx hb dL_acts_322 (by decide) ?_
            refine lv_iload hx hb dL_acts_332 (lv_at hl 1 rfl) ?_
            refine lv_if_ne (tgt := 351) hx hb dL_acts_334 (by decide) (fun c334_6 => ?_) (fun c334_6 => ?_)
            · refine lv_iload hx hb dL_acts_351 (lv_at hl 1 rfl) ?_
              refine lv_bipush (v := nI 7) hx hb dL_acts_353 (by decide) ?_
              refine lv_icmp_le (tgt := 369) hx hb dL_acts_355 (by decide) (fun c355_7 => ?_) (fun c355_7 => ?_)
              · refine lv_iload hx hb dL_acts_369 (lv_at hl 2 rfl) ?_
                refine lv_bipush (v := nI 48) hx hb dL_acts_371 (by decide) ?_
                refine lv_idiv hx hb dL_acts_373 (by decide) ?_
                refine lv_iconst (v := nI 4) hx hb dL_acts_374 (by decide) ?_
                refine lv_irem hx hb dL_acts_375 (by decide) ?_
                refine z_cSi (As := [.ref (a 114), .int (aw (nI (j / 32)) k), .int (((az (nI (j / 32)) k) / (nI 12)) - ((az (nI (j / 32)) k) / (nI 12)) / (nI 16) * (nI 16)), .int (((az (nI (j / 32)) k) / (nI 48)) - ((az (nI (j / 32)) k) / (nI 48)) / (nI 4) * (nI 4))]) (rest := []) ⟨hx, hb, hml, hown, hts⟩ (ct_L_types l D a ca hJ Zc (aw (nI (j / 32)) k) (((az (nI (j / 32)) k) / (nI 12)) - ((az (nI (j / 32)) k) / (nI 12)) / (nI 16) * (nI 16)) (((az (nI (j / 32)) k) / (nI 48)) - ((az (nI (j / 32)) k) / (nI 48)) / (nI 4) * (nI 4)) hV.2.2.2.2) (va_cwS 4 hts gL_acts_L_types rfl rfl rfl (by decide +kernel) ⟨Nat.le_of_ble_eq_true rfl, Nat.le_of_ble_eq_true rfl⟩) hK hP hS rfl hl.1 rfl (Nat.le_of_ble_eq_true rfl) dL_acts_376 ⟨Nat.zero_le _, Nat.zero_le _⟩ (fun H locs hP hS => ?_)
                refine lv_istore (lv' := [(4, .int (g_L_types Zc (aw (nI (j / 32)) k) (((az (nI (j / 32)) k) / (nI 12)) - ((az (nI (j / 32)) k) / (nI 12)) / (nI 16) * (nI 16)) (((az (nI (j / 32)) k) / (nI 48)) - ((az (nI (j / 32)) k) / (nI 48)) / (nI 4) * (nI 4)))), (8, .int (aw (nI (j / 32)) k)), (7, .int (az (nI (j / 32)) k)), (6, .int (nI k)), (5, .int (nI (1 + j / 32 % 4))), (3, .int (nI (j / 32 % 4))), (2, .int (nI (j / 32))), (0, .ref (a 114)), (1, .int (nI j))]) hx hb dL_acts_379 hl (by decide) rfl (fun ls hl => ?_)
                refine lv_iinc (v := nI (k + 1)) (lv' := [(6, .int (nI (k + 1))), (4, .int (g_L_types Zc (aw (nI (j / 32)) k) (((az (nI (j / 32)) k) / (nI 12)) - ((az (nI (j / 32)) k) / (nI 12)) / (nI 16) * (nI 16)) (((az (nI (j / 32)) k) / (nI 48)) - ((az (nI (j / 32)) k) / (nI 48)) / (nI 4) * (nI 4)))), (8, .int (aw (nI (j / 32)) k)), (7, .int (az (nI (j / 32)) k)), (5, .int (nI (1 + j / 32 % 4))), (3, .int (nI (j / 32 % 4))), (2, .int (nI (j / 32))), (0, .ref (a 114)), (1, .int (nI j))]) hx hb dL_acts_381 hl (k := 3) rfl (nI_add _ _) (by decide) rfl (fun ls hl => ?_)
                refine lv_goto (tgt := 264) hx hb dL_acts_384 (by decide) ?_
                exact z_toi (r2 := (aX (nI (j / 32)) (aL (nI (1 + j / 32 % 4)) (nI (j / 32)) n (k + 1) (g_L_types Zc (aw (nI (j / 32)) k) (((az (nI (j / 32)) k) / (nI 12)) - ((az (nI (j / 32)) k) / (nI 12)) / (nI 16) * (nI 16)) (((az (nI (j / 32)) k) / (nI 48)) - ((az (nI (j / 32)) k) / (nI 48)) / (nI 4) * (nI 4))) (h_L_types Zc (aw (nI (j / 32)) k) (((az (nI (j / 32)) k) / (nI 12)) - ((az (nI (j / 32)) k) / (nI 12)) / (nI 16) * (nI 16)) (((az (nI (j / 32)) k) / (nI 48)) - ((az (nI (j / 32)) k) / (nI 48)) / (nI 4) * (nI 4))))).1) (Z2 := (aX (nI (j / 32)) (aL (nI (1 + j / 32 % 4)) (nI (j / 32)) n (k + 1) (g_L_types Zc (aw (nI (j / 32)) k) (((az (nI (j / 32)) k) / (nI 12)) - ((az (nI (j / 32)) k) / (nI 12)) / (nI 16) * (nI 16)) (((az (nI (j / 32)) k) / (nI 48)) - ((az (nI (j / 32)) k) / (nI 48)) / (nI 4) * (nI 4))) (h_L_types Zc (aw (nI (j / 32)) k) (((az (nI (j / 32)) k) / (nI 12)) - ((az (nI (j / 32)) k) / (nI 12)) / (nI 16) * (nI 16)) (((az (nI (j / 32)) k) / (nI 48)) - ((az (nI (j / 32)) k) / (nI 48)) / (nI 4) * (nI 4))))).2) (by simp only [aL, aT, aZ, ao, ab_, if_neg c268_1, if_pos c288_2, if_pos c311_3, if_neg c334_6, if_pos c355_7]) (by simp only [aL, aT, aZ, ao, ab_, if_neg c268_1, if_pos c288_2, if_pos c311_3, if_neg c334_6, if_pos c355_7]) (ih (k + 1) _ _ _ _ _ (by omega) (pa_types hV _ _ _) (lv_sub hl [0, 4, 1, 5, 6, 7, 8] rfl) hP hS)
              · refine lv_iload hx hb dL_acts_358 (lv_at hl 2 rfl) ?_
                refine lv_bipush (v := nI 48) hx hb dL_acts_360 (by decide) ?_
                refine lv_idiv hx hb dL_acts_362 (by decide) ?_
                refine lv_bipush (v := nI 16) hx hb dL_acts_363 (by decide) ?_
                refine lv_irem hx hb dL_acts_365 (by decide) ?_
                refine lv_goto (tgt := 376) hx hb dL_acts_366 (by decide) ?_
                refine z_cSi (As := [.ref (a 114), .int (aw (nI (j / 32)) k), .int (((az (nI (j / 32)) k) / (nI 12)) - ((az (nI (j / 32)) k) / (nI 12)) / (nI 16) * (nI 16)), .int (((az (nI (j / 32)) k) / (nI 48)) - ((az (nI (j / 32)) k) / (nI 48)) / (nI 16) * (nI 16))]) (rest := []) ⟨hx, hb, hml, hown, hts⟩ (ct_L_types l D a ca hJ Zc (aw (nI (j / 32)) k) (((az (nI (j / 32)) k) / (nI 12)) - ((az (nI (j / 32)) k) / (nI 12)) / (nI 16) * (nI 16)) (((az (nI (j / 32)) k) / (nI 48)) - ((az (nI (j / 32)) k) / (nI 48)) / (nI 16) * (nI 16)) hV.2.2.2.2) (va_cwS 4 hts gL_acts_L_types rfl rfl rfl (by decide +kernel) ⟨Nat.le_of_ble_eq_true rfl, Nat.le_of_ble_eq_true rfl⟩) hK hP hS rfl hl.1 rfl (Nat.le_of_ble_eq_true rfl) dL_acts_376 ⟨Nat.zero_le _, Nat.zero_le _⟩ (fun H locs hP hS => ?_)
                refine lv_istore (lv' := [(4, .int (g_L_types Zc (aw (nI (j / 32)) k) (((az (nI (j / 32)) k) / (nI 12)) - ((az (nI (j / 32)) k) / (nI 12)) / (nI 16) * (nI 16)) (((az (nI (j / 32)) k) / (nI 48)) - ((az (nI (j / 32)) k) / (nI 48)) / (nI 16) * (nI 16)))), (8, .int (aw (nI (j / 32)) k)), (7, .int (az (nI (j / 32)) k)), (6, .int (nI k)), (5, .int (nI (1 + j / 32 % 4))), (3, .int (nI (j / 32 % 4))), (2, .int (nI (j / 32))), (0, .ref (a 114)), (1, .int (nI j))]) hx hb dL_acts_379 hl (by decide) rfl (fun ls hl => ?_)
                refine lv_iinc (v := nI (k + 1)) (lv' := [(6, .int (nI (k + 1))), (4, .int (g_L_types Zc (aw (nI (j / 32)) k) (((az (nI (j / 32)) k) / (nI 12)) - ((az (nI (j / 32)) k) / (nI 12)) / (nI 16) * (nI 16)) (((az (nI (j / 32)) k) / (nI 48)) - ((az (nI (j / 32)) k) / (nI 48)) / (nI 16) * (nI 16)))), (8, .int (aw (nI (j / 32)) k)), (7, .int (az (nI (j / 32)) k)), (5, .int (nI (1 + j / 32 % 4))), (3, .int (nI (j / 32 % 4))), (2, .int (nI (j / 32))), (0, .ref (a 114)), (1, .int (nI j))]) hx hb dL_acts_381 hl (k := 3) rfl (nI_add _ _) (by decide) rfl (fun ls hl => ?_)
                refine lv_goto (tgt := 264) hx hb dL_acts_384 (by decide) ?_
                exact z_toi (r2 := (aX (nI (j / 32)) (aL (nI (1 + j / 32 % 4)) (nI (j / 32)) n (k + 1) (g_L_types Zc (aw (nI (j / 32)) k) (((az (nI (j / 32)) k) / (nI 12)) - ((az (nI (j / 32)) k) / (nI 12)) / (nI 16) * (nI 16)) (((az (nI (j / 32)) k) / (nI 48)) - ((az (nI (j / 32)) k) / (nI 48)) / (nI 16) * (nI 16))) (h_L_types Zc (aw (nI (j / 32)) k) (((az (nI (j / 32)) k) / (nI 12)) - ((az (nI (j / 32)) k) / (nI 12)) / (nI 16) * (nI 16)) (((az (nI (j / 32)) k) / (nI 48)) - ((az (nI (j / 32)) k) / (nI 48)) / (nI 16) * (nI 16))))).1) (Z2 := (aX (nI (j / 32)) (aL (nI (1 + j / 32 % 4)) (nI (j / 32)) n (k + 1) (g_L_types Zc (aw (nI (j / 32)) k) (((az (nI (j / 32)) k) / (nI 12)) - ((az (nI (j / 32)) k) / (nI 12)) / (nI 16) * (nI 16)) (((az (nI (j / 32)) k) / (nI 48)) - ((az (nI (j / 32)) k) / (nI 48)) / (nI 16) * (nI 16))) (h_L_types Zc (aw (nI (j / 32)) k) (((az (nI (j / 32)) k) / (nI 12)) - ((az (nI (j / 32)) k) / (nI 12)) / (nI 16) * (nI 16)) (((az (nI (j / 32)) k) / (nI 48)) - ((az (nI (j / 32)) k) / (nI 48)) / (nI 16) * (nI 16))))).2) (by simp only [aL, aT, aZ, ao, ab_, if_neg c268_1, if_pos c288_2, if_pos c311_3, if_neg c334_6, if_neg c355_7]) (by simp only [aL, aT, aZ, ao, ab_, if_neg c268_1, if_pos c288_2, if_pos c311_3, if_neg c334_6, if_neg c355_7]) (ih (k + 1) _ _ _ _ _ (by omega) (pa_types hV _ _ _) (lv_sub hl [0, 4, 1, 5, 6, 7, 8] rfl) hP hS)
            · refine lv_iload hx hb dL_acts_337 (lv_at hl 2 rfl) ?_
              refine lv_bipush (v := nI 48) hx hb dL_acts_339 (by decide) ?_
              refine lv_idiv hx hb dL_acts_341 (by decide) ?_
              refine lv_bipush (v := nI 41) hx hb dL_acts_342 (by decide) ?_
              refine lv_irem hx hb dL_acts_344 (by decide) ?_
              refine lv_bipush (v := nI 20) hx hb dL_acts_345 (by decide) ?_
              refine lv_isub hx hb dL_acts_347 ?_
              refine lv_goto (tgt := 376) hx hb dL_acts_348 (by decide) ?_
              refine z_cSi (As := [.ref (a 114), .int (aw (nI (j / 32)) k), .int (((az (nI (j / 32)) k) / (nI 12)) - ((az (nI (j / 32)) k) / (nI 12)) / (nI 16) * (nI 16)), .int ((((az (nI (j / 32)) k) / (nI 48)) - ((az (nI (j / 32)) k) / (nI 48)) / (nI 41) * (nI 41)) - (nI 20))]) (rest := []) ⟨hx, hb, hml, hown, hts⟩ (ct_L_types l D a ca hJ Zc (aw (nI (j / 32)) k) (((az (nI (j / 32)) k) / (nI 12)) - ((az (nI (j / 32)) k) / (nI 12)) / (nI 16) * (nI 16)) ((((az (nI (j / 32)) k) / (nI 48)) - ((az (nI (j / 32)) k) / (nI 48)) / (nI 41) * (nI 41)) - (nI 20)) hV.2.2.2.2) (va_cwS 4 hts gL_acts_L_types rfl rfl rfl (by decide +kernel) ⟨Nat.le_of_ble_eq_true rfl, Nat.le_of_ble_eq_true rfl⟩) hK hP hS rfl hl.1 rfl (Nat.le_of_ble_eq_true rfl) dL_acts_376 ⟨Nat.zero_le _, Nat.zero_le _⟩ (fun H locs hP hS => ?_)
              refine lv_istore (lv' := [(4, .int (g_L_types Zc (aw (nI (j / 32)) k) (((az (nI (j / 32)) k) / (nI 12)) - ((az (nI (j / 32)) k) / (nI 12)) / (nI 16) * (nI 16)) ((((az (nI (j / 32)) k) / (nI 48)) - ((az (nI (j / 32)) k) / (nI 48)) / (nI 41) * (nI 41)) - (nI 20)))), (8, .int (aw (nI (j / 32)) k)), (7, .int (az (nI (j / 32)) k)), (6, .int (nI k)), (5, .int (nI (1 + j / 32 % 4))), (3, .int (nI (j / 32 % 4))), (2, .int (nI (j / 32))), (0, .ref (a 114)), (1, .int (nI j))]) hx hb dL_acts_379 hl (by decide) rfl (fun ls hl => ?_)
              refine lv_iinc (v := nI (k + 1)) (lv' := [(6, .int (nI (k + 1))), (4, .int (g_L_types Zc (aw (nI (j / 32)) k) (((az (nI (j / 32)) k) / (nI 12)) - ((az (nI (j / 32)) k) / (nI 12)) / (nI 16) * (nI 16)) ((((az (nI (j / 32)) k) / (nI 48)) - ((az (nI (j / 32)) k) / (nI 48)) / (nI 41) * (nI 41)) - (nI 20)))), (8, .int (aw (nI (j / 32)) k)), (7, .int (az (nI (j / 32)) k)), (5, .int (nI (1 + j / 32 % 4))), (3, .int (nI (j / 32 % 4))), (2, .int (nI (j / 32))), (0, .ref (a 114)), (1, .int (nI j))]) hx hb dL_acts_381 hl (k := 3) rfl (nI_add _ _) (by decide) rfl (fun ls hl => ?_)
              refine lv_goto (tgt := 264) hx hb dL_acts_384 (by decide) ?_
              exact z_toi (r2 := (aX (nI (j / 32)) (aL (nI (1 + j / 32 % 4)) (nI (j / 32)) n (k + 1) (g_L_types Zc (aw (nI (j / 32)) k) (((az (nI (j / 32)) k) / (nI 12)) - ((az (nI (j / 32)) k) / (nI 12)) / (nI 16) * (nI 16)) ((((az (nI (j / 32)) k) / (nI 48)) - ((az (nI (j / 32)) k) / (nI 48)) / (nI 41) * (nI 41)) - (nI 20))) (h_L_types Zc (aw (nI (j / 32)) k) (((az (nI (j / 32)) k) / (nI 12)) - ((az (nI (j / 32)) k) / (nI 12)) / (nI 16) * (nI 16)) ((((az (nI (j / 32)) k) / (nI 48)) - ((az (nI (j / 32)) k) / (nI 48)) / (nI 41) * (nI 41)) - (nI 20))))).1) (Z2 := (aX (nI (j / 32)) (aL (nI (1 + j / 32 % 4)) (nI (j / 32)) n (k + 1) (g_L_types Zc (aw (nI (j / 32)) k) (((az (nI (j / 32)) k) / (nI 12)) - ((az (nI (j / 32)) k) / (nI 12)) / (nI 16) * (nI 16)) ((((az (nI (j / 32)) k) / (nI 48)) - ((az (nI (j / 32)) k) / (nI 48)) / (nI 41) * (nI 41)) - (nI 20))) (h_L_types Zc (aw (nI (j / 32)) k) (((az (nI (j / 32)) k) / (nI 12)) - ((az (nI (j / 32)) k) / (nI 12)) / (nI 16) * (nI 16)) ((((az (nI (j / 32)) k) / (nI 48)) - ((az (nI (j / 32)) k) / (nI 48)) / (nI 41) * (nI 41)) - (nI 20))))).2) (by simp only [aL, aT, aZ, ao, ab_, if_neg c268_1, if_pos c288_2, if_pos c311_3, if_pos c334_6]) (by simp only [aL, aT, aZ, ao, ab_, if_neg c268_1, if_pos c288_2, if_pos c311_3, if_pos c334_6]) (ih (k + 1) _ _ _ _ _ (by omega) (pa_types hV _ _ _) (lv_sub hl [0, 4, 1, 5, 6, 7, 8] rfl) hP hS)
        · refine lv_aload_n hx hb dL_acts_291 rfl (lv_at hl 7 rfl) ?_
          refine lv_bipush (v := nI 59) hx hb dL_acts_292 (by decide) ?_
          refine z_cVi (As := [.int (nI 59)]) (rest := []) ⟨hx, hb, hml, hown, hts⟩ (ct_X6_append l D a ca hJ Zc (nI 59) hV.2.2.2.2) (cwV 1 hts gL_acts_X6_append rfl rfl rfl (by decide +kernel) ⟨Nat.le_of_ble_eq_true rfl, Nat.le_of_ble_eq_true rfl⟩) hK hP hS (va_recv (ci := 6) hK.1 hP rfl zW_b) rfl hl.1 rfl (Nat.le_of_ble_eq_true rfl) dL_acts_294 ⟨Nat.zero_le _, Nat.zero_le _⟩ (fun H locs hP hS => ?_)
          refine lv_goto (tgt := 302) hx hb dL_acts_297 (by decide) ?_
          refine lv_istore (lv' := [(4, .int (g_X6_append Zc (nI 59))), (8, .int (aw (nI (j / 32)) k)), (7, .int (az (nI (j / 32)) k)), (6, .int (nI k)), (5, .int (nI (1 + j / 32 % 4))), (3, .int (nI (j / 32 % 4))), (2, .int (nI (j / 32))), (0, .ref (a 114)), (1, .int (nI j))]) hx hb dL_acts_302 hl (by decide) rfl (fun ls hl => ?_)
          refine lv_aload_n hx hb dL_acts_304 rfl (lv_at hl 7 rfl) ?_
          refine lv_iload hx hb dL_acts_305 (lv_at hl 1 rfl) ?_
          refine lv_iload hx hb dL_acts_307 (lv_at hl 1 rfl) ?_
          refine lv_bipush (v := nI 7) hx hb dL_acts_309 (by decide) ?_
          refine lv_icmp_ne (tgt := 325) hx hb dL_acts_311 (by decide) (fun c311_8 => ?_) (fun c311_8 => ?_)
          · refine lv_iload hx hb dL_acts_325 (lv_at hl 2 rfl) ?_
            refine lv_bipush (v := nI 12) hx hb dL_acts_327 (by decide) ?_
            refine lv_idiv hx hb dL_acts_329 (by decide) ?_
            refine lv_iconst (v := nI 4) hx hb dL_acts_330 (by decide) ?_
            refine lv_irem hx hb dL_acts_331 (by decide) ?_
            refine lv_iload hx hb dL_acts_332 (lv_at hl 1 rfl) ?_
            refine lv_if_ne (tgt := 351) hx hb dL_acts_334 (by decide) (fun c334_9 => ?_) (fun c334_9 => ?_)
            · refine lv_iload hx hb dL_acts_351 (lv_at hl 1 rfl) ?_
              refine lv_bipush (v := nI 7) hx hb dL_acts_353 (by decide) ?_
              refine lv_icmp_le (tgt := 369) hx hb dL_acts_355 (by decide) (fun c355_10 => ?_) (fun c355_10 => ?_)
              · refine lv_iload hx hb dL_acts_369 (lv_at hl 2 rfl) ?_
                refine lv_bipush (v := nI 48) hx hb dL_acts_371 (by decide) ?_
                refine lv_idiv hx hb dL_acts_373 (by decide) ?_
                refine lv_iconst (v := nI 4) hx hb dL_acts_374 (by decide) ?_
                refine lv_irem hx hb dL_acts_375 (by decide) ?_
                refine z_cSi (As := [.ref (a 114), .int (aw (nI (j / 32)) k), .int (((az (nI (j / 32)) k) / (nI 12)) - ((az (nI (j / 32)) k) / (nI 12)) / (nI 4) * (nI 4)), .int (((az (nI (j / 32)) k) / (nI 48)) - ((az (nI (j / 32)) k) / (nI 48)) / (nI 4) * (nI 4))]) (rest := []) ⟨hx, hb, hml, hown, hts⟩ (ct_L_types l D a ca hJ (h_X6_append Zc (nI 59)) (aw (nI (j / 32)) k) (((az (nI (j / 32)) k) / (nI 12)) - ((az (nI (j / 32)) k) / (nI 12)) / (nI 4) * (nI 4)) (((az (nI (j / 32)) k) / (nI 48)) - ((az (nI (j / 32)) k) / (nI 48)) / (nI 4) * (nI 4)) (xq_app hV.2.2.2.2)) (va_cwS 4 hts gL_acts_L_types rfl rfl rfl (by decide +kernel) ⟨Nat.le_of_ble_eq_true rfl, Nat.le_of_ble_eq_true rfl⟩) hK hP hS rfl hl.1 rfl (Nat.le_of_ble_eq_true rfl) dL_acts_376 ⟨Nat.zero_le _, Nat.zero_le _⟩ (fun H locs hP hS => ?_)
                refine lv_istore (lv' := [(4, .int (g_L_types (h_X6_append Zc (nI 59)) (aw (nI (j / 32)) k) (((az (nI (j / 32)) k) / (nI 12)) - ((az (nI (j / 32)) k) / (nI 12)) / (nI 4) * (nI 4)) (((az (nI (j / 32)) k) / (nI 48)) - ((az (nI (j / 32)) k) / (nI 48)) / (nI 4) * (nI 4)))), (8, .int (aw (nI (j / 32)) k)), (7, .int (az (nI (j / 32)) k)), (6, .int (nI k)), (5, .int (nI (1 + j / 32 % 4))), (3, .int (nI (j / 32 % 4))), (2, .int (nI (j / 32))), (0, .ref (a 114)), (1, .int (nI j))]) hx hb dL_acts_379 hl (by decide) rfl (fun ls hl => ?_)
                refine lv_iinc (v := nI (k + 1)) (lv' := [(6, .int (nI (k + 1))), (4, .int (g_L_types (h_X6_append Zc (nI 59)) (aw (nI (j / 32)) k) (((az (nI (j / 32)) k) / (nI 12)) - ((az (nI (j / 32)) k) / (nI 12)) / (nI 4) * (nI 4)) (((az (nI (j / 32)) k) / (nI 48)) - ((az (nI (j / 32)) k) / (nI 48)) / (nI 4) * (nI 4)))), (8, .int (aw (nI (j / 32)) k)), (7, .int (az (nI (j / 32)) k)), (5, .int (nI (1 + j / 32 % 4))), (3, .int (nI (j / 32 % 4))), (2, .int (nI (j / 32))), (0, .ref (a 114)), (1, .int (nI j))]) hx hb dL_acts_381 hl (k := 3) rfl (nI_add _ _) (by decide) rfl (fun ls hl => ?_)
                refine lv_goto (tgt := 264) hx hb dL_acts_384 (by decide) ?_
                exact z_toi (r2 := (aX (nI (j / 32)) (aL (nI (1 + j / 32 % 4)) (nI (j / 32)) n (k + 1) (g_L_types (h_X6_append Zc (nI 59)) (aw (nI (j / 32)) k) (((az (nI (j / 32)) k) / (nI 12)) - ((az (nI (j / 32)) k) / (nI 12)) / (nI 4) * (nI 4)) (((az (nI (j / 32)) k) / (nI 48)) - ((az (nI (j / 32)) k) / (nI 48)) / (nI 4) * (nI 4))) (h_L_types (h_X6_append Zc (nI 59)) (aw (nI (j / 32)) k) (((az (nI (j / 32)) k) / (nI 12)) - ((az (nI (j / 32)) k) / (nI 12)) / (nI 4) * (nI 4)) (((az (nI (j / 32)) k) / (nI 48)) - ((az (nI (j / 32)) k) / (nI 48)) / (nI 4) * (nI 4))))).1) (Z2 := (aX (nI (j / 32)) (aL (nI (1 + j / 32 % 4)) (nI (j / 32)) n (k + 1) (g_L_types (h_X6_append Zc (nI 59)) (aw (nI (j / 32)) k) (((az (nI (j / 32)) k) / (nI 12)) - ((az (nI (j / 32)) k) / (nI 12)) / (nI 4) * (nI 4)) (((az (nI (j / 32)) k) / (nI 48)) - ((az (nI (j / 32)) k) / (nI 48)) / (nI 4) * (nI 4))) (h_L_types (h_X6_append Zc (nI 59)) (aw (nI (j / 32)) k) (((az (nI (j / 32)) k) / (nI 12)) - ((az (nI (j / 32)) k) / (nI 12)) / (nI 4) * (nI 4)) (((az (nI (j / 32)) k) / (nI 48)) - ((az (nI (j / 32)) k) / (nI 48)) / (nI 4) * (nI 4))))).2) (by simp only [aL, aT, aZ, ao, ab_, if_neg c268_1, if_neg c288_2, if_neg c311_8, if_neg c334_9, if_pos c355_10]) (by simp only [aL, aT, aZ, ao, ab_, if_neg c268_1, if_neg c288_2, if_neg c311_8, if_neg c334_9, if_pos c355_10]) (ih (k + 1) _ _ _ _ _ (by omega) (pa_types (pa_append hV _) _ _ _) (lv_sub hl [0, 4, 1, 5, 6, 7, 8] rfl) hP hS)
              · refine lv_iload hx hb dL_acts_358 (lv_at hl 2 rfl) ?_
                refine lv_bipush (v := nI 48) hx hb dL_acts_360 (by decide) ?_
                refine lv_idiv hx hb dL_acts_362 (by decide) ?_
                refine lv_bipush (v := nI 16) hx hb dL_acts_363 (by decide) ?_
                refine lv_irem hx hb dL_acts_365 (by decide) ?_
                refine lv_goto (tgt := 376) hx hb dL_acts_366 (by decide) ?_
                refine z_cSi (As := [.ref (a 114), .int (aw (nI (j / 32)) k), .int (((az (nI (j / 32)) k) / (nI 12)) - ((az (nI (j / 32)) k) / (nI 12)) / (nI 4) * (nI 4)), .int (((az (nI (j / 32)) k) / (nI 48)) - ((az (nI (j / 32)) k) / (nI 48)) / (nI 16) * (nI 16))]) (rest := []) ⟨hx, hb, hml, hown, hts⟩ (ct_L_types l D a ca hJ (h_X6_append Zc (nI 59)) (aw (nI (j / 32)) k) (((az (nI (j / 32)) k) / (nI 12)) - ((az (nI (j / 32)) k) / (nI 12)) / (nI 4) * (nI 4)) (((az (nI (j / 32)) k) / (nI 48)) - ((az (nI (j / 32)) k) / (nI 48)) / (nI 16) * (nI 16)) (xq_app hV.2.2.2.2)) (va_cwS 4 hts gL_acts_L_types rfl rfl rfl (by decide +kernel) ⟨Nat.le_of_ble_eq_true rfl, Nat.le_of_ble_eq_true rfl⟩) hK hP hS rfl hl.1 rfl (Nat.le_of_ble_eq_true rfl) dL_acts_376 ⟨Nat.zero_le _, Nat.zero_le _⟩ (fun H locs hP hS => ?_)
                refine lv_istore (lv' := [(4, .int (g_L_types (h_X6_append Zc (nI 59)) (aw (nI (j / 32)) k) (((az (nI (j / 32)) k) / (nI 12)) - ((az (nI (j / 32)) k) / (nI 12)) / (nI 4) * (nI 4)) (((az (nI (j / 32)) k) / (nI 48)) - ((az (nI (j / 32)) k) / (nI 48)) / (nI 16) * (nI 16)))), (8, .int (aw (nI (j / 32)) k)), (7, .int (az (nI (j / 32)) k)), (6, .int (nI k)), (5, .int (nI (1 + j / 32 % 4))), (3, .int (nI (j / 32 % 4))), (2, .int (nI (j / 32))), (0, .ref (a 114)), (1, .int (nI j))]) hx hb dL_acts_379 hl (by decide) rfl (fun ls hl => ?_)
                refine lv_iinc (v := nI (k + 1)) (lv' := [(6, .int (nI (k + 1))), (4, .int (g_L_types (h_X6_append Zc (nI 59)) (aw (nI (j / 32)) k) (((az (nI (j / 32)) k) / (nI 12)) - ((az (nI (j / 32)) k) / (nI 12)) / (nI 4) * (nI 4)) (((az (nI (j / 32)) k) / (nI 48)) - ((az (nI (j / 32)) k) / (nI 48)) / (nI 16) * (nI 16)))), (8, .int (aw (nI (j / 32)) k)), (7, .int (az (nI (j / 32)) k)), (5, .int (nI (1 + j / 32 % 4))), (3, .int (nI (j / 32 % 4))), (2, .int (nI (j / 32))), (0, .ref (a 114)), (1, .int (nI j))]) hx hb dL_acts_381 hl (k := 3) rfl (nI_add _ _) (by decide) rfl (fun ls hl => ?_)
                refine lv_goto (tgt := 264) hx hb dL_acts_384 (by decide) ?_
                exact z_toi (r2 := (aX (nI (j / 32)) (aL (nI (1 + j / 32 % 4)) (nI (j / 32)) n (k + 1) (g_L_types (h_X6_append Zc (nI 59)) (aw (nI (j / 32)) k) (((az (nI (j / 32)) k) / (nI 12)) - ((az (nI (j / 32)) k) / (nI 12)) / (nI 4) * (nI 4)) (((az (nI (j / 32)) k) / (nI 48)) - ((az (nI (j / 32)) k) / (nI 48)) / (nI 16) * (nI 16))) (h_L_types (h_X6_append Zc (nI 59)) (aw (nI (j / 32)) k) (((az (nI (j / 32)) k) / (nI 12)) - ((az (nI (j / 32)) k) / (nI 12)) / (nI 4) * (nI 4)) (((az (nI (j / 32)) k) / (nI 48)) - ((az (nI (j / 32)) k) / (nI 48)) / (nI 16) * (nI 16))))).1) (Z2 := (aX (nI (j / 32)) (aL (nI (1 + j / 32 % 4)) (nI (j / 32)) n (k + 1) (g_L_types (h_X6_append Zc (nI 59)) (aw (nI (j / 32)) k) (((az (nI (j / 32)) k) / (nI 12)) - ((az (nI (j / 32)) k) / (nI 12)) / (nI 4) * (nI 4)) (((az (nI (j / 32)) k) / (nI 48)) - ((az (nI (j / 32)) k) / (nI 48)) / (nI 16) * (nI 16))) (h_L_types (h_X6_append Zc (nI 59)) (aw (nI (j / 32)) k) (((az (nI (j / 32)) k) / (nI 12)) - ((az (nI (j / 32)) k) / (nI 12)) / (nI 4) * (nI 4)) (((az (nI (j / 32)) k) / (nI 48)) - ((az (nI (j / 32)) k) / (nI 48)) / (nI 16) * (nI 16))))).2) (by simp only [aL, aT, aZ, ao, ab_, if_neg c268_1, if_neg c288_2, if_neg c311_8, if_neg c334_9, if_neg c355_10]) (by simp only [aL, aT, aZ, ao, ab_, if_neg c268_1, if_neg c288_2, if_neg c311_8, if_neg c334_9, if_neg c355_10]) (ih (k + 1) _ _ _ _ _ (by omega) (pa_types (pa_append hV _) _ _ _) (lv_sub hl [0, 4, 1, 5, 6, 7, 8] rfl) hP hS)
            · refine lv_iload hx hb dL_acts_337 (lv_at hl 2 rfl) ?_
              refine lv_bipush (v := nI 48) hx hb dL_acts_339 (by decide) ?_
              refine lv_idiv hx hb dL_acts_341 (by decide) ?_
              refine lv_bipush (v := nI 41) hx hb dL_acts_342 (by decide) ?_
              refine lv_irem hx hb dL_acts_344 (by decide) ?_
              refine lv_bipush (v := nI 20) hx hb dL_acts_345 (by decide) ?_
              refine lv_isub hx hb dL_acts_347 ?_
              refine lv_goto (tgt := 376) hx hb dL_acts_348 (by decide) ?_
              refine z_cSi (As := [.ref (a 114), .int (aw (nI (j / 32)) k), .int (((az (nI (j / 32)) k) / (nI 12)) - ((az (nI (j / 32)) k) / (nI 12)) / (nI 4) * (nI 4)), .int ((((az (nI (j / 32)) k) / (nI 48)) - ((az (nI (j / 32)) k) / (nI 48)) / (nI 41) * (nI 41)) - (nI 20))]) (rest := []) ⟨hx, hb, hml, hown, hts⟩ (ct_L_types l D a ca hJ (h_X6_append Zc (nI 59)) (aw (nI (j / 32)) k) (((az (nI (j / 32)) k) / (nI 12)) - ((az (nI (j / 32)) k) / (nI 12)) / (nI 4) * (nI 4)) ((((az (nI (j / 32)) k) / (nI 48)) - ((az (nI (j / 32)) k) / (nI 48)) / (nI 41) * (nI 41)) - (nI 20)) (xq_app hV.2.2.2.2)) (va_cwS 4 hts gL_acts_L_types rfl rfl rfl (by decide +kernel) ⟨Nat.le_of_ble_eq_true rfl, Nat.le_of_ble_eq_true rfl⟩) hK hP hS rfl hl.1 rfl (Nat.le_of_ble_eq_true rfl) dL_acts_376 ⟨Nat.zero_le _, Nat.zero_le _⟩ (fun H locs hP hS => ?_)
              refine lv_istore (lv' := [(4, .int (g_L_types (h_X6_append Zc (nI 59)) (aw (nI (j / 32)) k) (((az (nI (j / 32)) k) / (nI 12)) - ((az (nI (j / 32)) k) / (nI 12)) / (nI 4) * (nI 4)) ((((az (nI (j / 32)) k) / (nI 48)) - ((az (nI (j / 32)) k) / (nI 48)) / (nI 41) * (nI 41)) - (nI 20)))), (8, .int (aw (nI (j / 32)) k)), (7, .int (az (nI (j / 32)) k)), (6, .int (nI k)), (5, .int (nI (1 + j / 32 % 4))), (3, .int (nI (j / 32 % 4))), (2, .int (nI (j / 32))), (0, .ref (a 114)), (1, .int (nI j))]) hx hb dL_acts_379 hl (by decide) rfl (fun ls hl => ?_)
              refine lv_iinc (v := nI (k + 1)) (lv' := [(6, .int (nI (k + 1))), (4, .int (g_L_types (h_X6_append Zc (nI 59)) (aw (nI (j / 32)) k) (((az (nI (j / 32)) k) / (nI 12)) - ((az (nI (j / 32)) k) / (nI 12)) / (nI 4) * (nI 4)) ((((az (nI (j / 32)) k) / (nI 48)) - ((az (nI (j / 32)) k) / (nI 48)) / (nI 41) * (nI 41)) - (nI 20)))), (8, .int (aw (nI (j / 32)) k)), (7, .int (az (nI (j / 32)) k)), (5, .int (nI (1 + j / 32 % 4))), (3, .int (nI (j / 32 % 4))), (2, .int (nI (j / 32))), (0, .ref (a 114)), (1, .int (nI j))]) hx hb dL_acts_381 hl (k := 3) rfl (nI_add _ _) (by decide) rfl (fun ls hl => ?_)
              refine lv_goto (tgt := 264) hx hb dL_acts_384 (by decide) ?_
              exact z_toi (r2 := (aX (nI (j / 32)) (aL (nI (1 + j / 32 % 4)) (nI (j / 32)) n (k + 1) (g_L_types (h_X6_append Zc (nI 59)) (aw (nI (j / 32)) k) (((az (nI (j / 32)) k) / (nI 12)) - ((az (nI (j / 32)) k) / (nI 12)) / (nI 4) * (nI 4)) ((((az (nI (j / 32)) k) / (nI 48)) - ((az (nI (j / 32)) k) / (nI 48)) / (nI 41) * (nI 41)) - (nI 20))) (h_L_types (h_X6_append Zc (nI 59)) (aw (nI (j / 32)) k) (((az (nI (j / 32)) k) / (nI 12)) - ((az (nI (j / 32)) k) / (nI 12)) / (nI 4) * (nI 4)) ((((az (nI (j / 32)) k) / (nI 48)) - ((az (nI (j / 32)) k) / (nI 48)) / (nI 41) * (nI 41)) - (nI 20))))).1) (Z2 := (aX (nI (j / 32)) (aL (nI (1 + j / 32 % 4)) (nI (j / 32)) n (k + 1) (g_L_types (h_X6_append Zc (nI 59)) (aw (nI (j / 32)) k) (((az (nI (j / 32)) k) / (nI 12)) - ((az (nI (j / 32)) k) / (nI 12)) / (nI 4) * (nI 4)) ((((az (nI (j / 32)) k) / (nI 48)) - ((az (nI (j / 32)) k) / (nI 48)) / (nI 41) * (nI 41)) - (nI 20))) (h_L_types (h_X6_append Zc (nI 59)) (aw (nI (j / 32)) k) (((az (nI (j / 32)) k) / (nI 12)) - ((az (nI (j / 32)) k) / (nI 12)) / (nI 4) * (nI 4)) ((((az (nI (j / 32)) k) / (nI 48)) - ((az (nI (j / 32)) k) / (nI 48)) / (nI 41) * (nI 41)) - (nI 20))))).2) (by simp only [aL, aT, aZ, ao, ab_, if_neg c268_1, if_neg c288_2, if_neg c311_8, if_pos c334_9]) (by simp only [aL, aT, aZ, ao, ab_, if_neg c268_1, if_neg c288_2, if_neg c311_8, if_pos c334_9]) (ih (k + 1) _ _ _ _ _ (by omega) (pa_types (pa_append hV _) _ _ _) (lv_sub hl [0, 4, 1, 5, 6, 7, 8] rfl) hP hS)
          · refine lv_iload hx hb dL_acts_314 (lv_at hl 2 rfl) ?_
            refine lv_bipush (v := nI 12) hx hb dL_acts_316 (by decide) ?_
            refine lv_idiv hx hb dL_acts_318 (by decide) ?_
            refine lv_bipush (v := nI 16) hx hb dL_acts_319 (by decide) ?_
            refine lv_irem hx hb dL_acts_321 (by decide) ?_
            refine lv_goto (tgt := 332) hx hb dL_acts_322 (by decide) ?_
            refine lv_iload hx hb dL_acts_332 (lv_at hl 1 rfl) ?_
            refine lv_if_ne (tgt := 351) hx hb dL_acts_334 (by decide) (fun c334_11 => ?_) (fun c334_11 => ?_)
            · refine lv_iload hx hb dL_acts_351 (lv_at hl 1 rfl) ?_
              refine lv_bipush (v := nI 7) hx hb dL_acts_353 (by decide) ?_
              refine lv_icmp_le (tgt := 369) hx hb dL_acts_355 (by decide) (fun c355_12 => ?_) (fun c355_12 => ?_)
              · refine lv_iload hx hb dL_acts_369 (lv_at hl 2 rfl) ?_
                refine lv_bipush (v := nI 48) hx hb dL_acts_371 (by decide) ?_
                refine lv_idiv hx hb dL_acts_373 (by decide) ?_
                refine lv_iconst (v := nI 4) hx hb dL_acts_374 (by decide) ?_
                refine lv_irem hx hb dL_acts_375 (by decide) ?_
                refine z_cSi (As := [.ref (a 114), .int (aw (nI (j / 32)) k), .int (((az (nI (j / 32)) k) / (nI 12)) - ((az (nI (j / 32)) k) / (nI 12)) / (nI 16) * (nI 16)), .int (((az (nI (j / 32)) k) / (nI 48)) - ((az (nI (j / 32)) k) / (nI 48)) / (nI 4) * (nI 4))]) (rest := []) ⟨hx, hb, hml, hown, hts⟩ (ct_L_types l D a ca hJ (h_X6_append Zc (nI 59)) (aw (nI (j / 32)) k) (((az (nI (j / 32)) k) / (nI 12)) - ((az (nI (j / 32)) k) / (nI 12)) / (nI 16) * (nI 16)) (((az (nI (j / 32)) k) / (nI 48)) - ((az (nI (j / 32)) k) / (nI 48)) / (nI 4) * (nI 4)) (xq_app hV.2.2.2.2)) (va_cwS 4 hts gL_acts_L_types rfl rfl rfl (by decide +kernel) ⟨Nat.le_of_ble_eq_true rfl, Nat.le_of_ble_eq_true rfl⟩) hK hP hS rfl hl.1 rfl (Nat.le_of_ble_eq_true rfl) dL_acts_376 ⟨Nat.zero_le _, Nat.zero_le _⟩ (fun H locs hP hS => ?_)
                refine lv_istore (lv' := [(4, .int (g_L_types (h_X6_append Zc (nI 59)) (aw (nI (j / 32)) k) (((az (nI (j / 32)) k) / (nI 12)) - ((az (nI (j / 32)) k) / (nI 12)) / (nI 16) * (nI 16)) (((az (nI (j / 32)) k) / (nI 48)) - ((az (nI (j / 32)) k) / (nI 48)) / (nI 4) * (nI 4)))), (8, .int (aw (nI (j / 32)) k)), (7, .int (az (nI (j / 32)) k)), (6, .int (nI k)), (5, .int (nI (1 + j / 32 % 4))), (3, .int (nI (j / 32 % 4))), (2, .int (nI (j / 32))), (0, .ref (a 114)), (1, .int (nI j))]) hx hb dL_acts_379 hl (by decide) rfl (fun ls hl => ?_)
                refine lv_iinc (v := nI (k + 1)) (lv' := [(6, .int (nI (k + 1))), (4, .int (g_L_types (h_X6_append Zc (nI 59)) (aw (nI (j / 32)) k) (((az (nI (j / 32)) k) / (nI 12)) - ((az (nI (j / 32)) k) / (nI 12)) / (nI 16) * (nI 16)) (((az (nI (j / 32)) k) / (nI 48)) - ((az (nI (j / 32)) k) / (nI 48)) / (nI 4) * (nI 4)))), (8, .int (aw (nI (j / 32)) k)), (7, .int (az (nI (j / 32)) k)), (5, .int (nI (1 + j / 32 % 4))), (3, .int (nI (j / 32 % 4))), (2, .int (nI (j / 32))), (0, .ref (a 114)), (1, .int (nI j))]) hx hb dL_acts_381 hl (k := 3) rfl (nI_add _ _) (by decide) rfl (fun ls hl => ?_)
                refine lv_goto (tgt := 264) hx hb dL_acts_384 (by decide) ?_
                exact z_toi (r2 := (aX (nI (j / 32)) (aL (nI (1 + j / 32 % 4)) (nI (j / 32)) n (k + 1) (g_L_types (h_X6_append Zc (nI 59)) (aw (nI (j / 32)) k) (((az (nI (j / 32)) k) / (nI 12)) - ((az (nI (j / 32)) k) / (nI 12)) / (nI 16) * (nI 16)) (((az (nI (j / 32)) k) / (nI 48)) - ((az (nI (j / 32)) k) / (nI 48)) / (nI 4) * (nI 4))) (h_L_types (h_X6_append Zc (nI 59)) (aw (nI (j / 32)) k) (((az (nI (j / 32)) k) / (nI 12)) - ((az (nI (j / 32)) k) / (nI 12)) / (nI 16) * (nI 16)) (((az (nI (j / 32)) k) / (nI 48)) - ((az (nI (j / 32)) k) / (nI 48)) / (nI 4) * (nI 4))))).1) (Z2 := (aX (nI (j / 32)) (aL (nI (1 + j / 32 % 4)) (nI (j / 32)) n (k + 1) (g_L_types (h_X6_append Zc (nI 59)) (aw (nI (j / 32)) k) (((az (nI (j / 32)) k) / (nI 12)) - ((az (nI (j / 32)) k) / (nI 12)) / (nI 16) * (nI 16)) (((az (nI (j / 32)) k) / (nI 48)) - ((az (nI (j / 32)) k) / (nI 48)) / (nI 4) * (nI 4))) (h_L_types (h_X6_append Zc (nI 59)) (aw (nI (j / 32)) k) (((az (nI (j / 32)) k) / (nI 12)) - ((az (nI (j / 32)) k) / (nI 12)) / (nI 16) * (nI 16)) (((az (nI (j / 32)) k) / (nI 48)) - ((az (nI (j / 32)) k) / (nI 48)) / (nI 4) * (nI 4))))).2) (by simp only [aL, aT, aZ, ao, ab_, if_neg c268_1, if_neg c288_2, if_pos c311_8, if_neg c334_11, if_pos c355_12]) (by simp only [aL, aT, aZ, ao, ab_, if_neg c268_1, if_neg c288_2, if_pos c311_8, if_neg c334_11, if_pos c355_12]) (ih (k + 1) _ _ _ _ _ (by omega) (pa_types (pa_append hV _) _ _ _) (lv_sub hl [0, 4, 1, 5, 6, 7, 8] rfl) hP hS)
              · refine lv_iload hx hb dL_acts_358 (lv_at hl 2 rfl) ?_
                refine lv_bipush (v := nI 48) hx hb dL_acts_360 (by decide) ?_
                refine lv_idiv hx hb dL_acts_362 (by decide) ?_
                refine lv_bipush (v := nI 16) hx hb dL_acts_363 (by decide) ?_
                refine lv_irem hx hb dL_acts_365 (by decide) ?_
                refine lv_goto (tgt := 376) hx hb dL_acts_366 (by decide) ?_
                refine z_cSi (As := [.ref (a 114), .int (aw (nI (j / 32)) k), .int (((az (nI (j / 32)) k) / (nI 12)) - ((az (nI (j / 32)) k) / (nI 12)) / (nI 16) * (nI 16)), .int (((az (nI (j / 32)) k) / (nI 48)) - ((az (nI (j / 32)) k) / (nI 48)) / (nI 16) * (nI 16))]) (rest := []) ⟨hx, hb, hml, hown, hts⟩ (ct_L_types l D a ca hJ (h_X6_append Zc (nI 59)) (aw (nI (j / 32)) k) (((az (nI (j / 32)) k) / (nI 12)) - ((az (nI (j / 32)) k) / (nI 12)) / (nI 16) * (nI 16)) (((az (nI (j / 32)) k) / (nI 48)) - ((az (nI (j / 32)) k) / (nI 48)) / (nI 16) * (nI 16)) (xq_app hV.2.2.2.2)) (va_cwS 4 hts gL_acts_L_types rfl rfl rfl (by decide +kernel) ⟨Nat.le_of_ble_eq_true rfl, Nat.le_of_ble_eq_true rfl⟩) hK hP hS rfl hl.1 rfl (Nat.le_of_ble_eq_true rfl) dL_acts_376 ⟨Nat.zero_le _, Nat.zero_le _⟩ (fun H locs hP hS => ?_)
                refine lv_istore (lv' := [(4, .int (g_L_types (h_X6_append Zc (nI 59)) (aw (nI (j / 32)) k) (((az (nI (j / 32)) k) / (nI 12)) - ((az (nI (j / 32)) k) / (nI 12)) / (nI 16) * (nI 16)) (((az (nI (j / 32)) k) / (nI 48)) - ((az (nI (j / 32)) k) / (nI 48)) / (nI 16) * (nI 16)))), (8, .int (aw (nI (j / 32)) k)), (7, .int (az (nI (j / 32)) k)), (6, .int (nI k)), (5, .int (nI (1 + j / 32 % 4))), (3, .int (nI (j / 32 % 4))), (2, .int (nI (j / 32))), (0, .ref (a 114)), (1, .int (nI j))]) hx hb dL_acts_379 hl (by decide) rfl (fun ls hl => ?_)
                refine lv_iinc (v := nI (k + 1)) (lv' := [(6, .int (nI (k + 1))), (4, .int (g_L_types (h_X6_append Zc (nI 59)) (aw (nI (j / 32)) k) (((az (nI (j / 32)) k) / (nI 12)) - ((az (nI (j / 32)) k) / (nI 12)) / (nI 16) * (nI 16)) (((az (nI (j / 32)) k) / (nI 48)) - ((az (nI (j / 32)) k) / (nI 48)) / (nI 16) * (nI 16)))), (8, .int (aw (nI (j / 32)) k)), (7, .int (az (nI (j / 32)) k)), (5, .int (nI (1 + j / 32 % 4))), (3, .int (nI (j / 32 % 4))), (2, .int (nI (j / 32))), (0, .ref (a 114)), (1, .int (nI j))]) hx hb dL_acts_381 hl (k := 3) rfl (nI_add _ _) (by decide) rfl (fun ls hl => ?_)
                refine lv_goto (tgt := 264) hx hb dL_acts_384 (by decide) ?_
                exact z_toi (r2 := (aX (nI (j / 32)) (aL (nI (1 + j / 32 % 4)) (nI (j / 32)) n (k + 1) (g_L_types (h_X6_append Zc (nI 59)) (aw (nI (j / 32)) k) (((az (nI (j / 32)) k) / (nI 12)) - ((az (nI (j / 32)) k) / (nI 12)) / (nI 16) * (nI 16)) (((az (nI (j / 32)) k) / (nI 48)) - ((az (nI (j / 32)) k) / (nI 48)) / (nI 16) * (nI 16))) (h_L_types (h_X6_append Zc (nI 59)) (aw (nI (j / 32)) k) (((az (nI (j / 32)) k) / (nI 12)) - ((az (nI (j / 32)) k) / (nI 12)) / (nI 16) * (nI 16)) (((az (nI (j / 32)) k) / (nI 48)) - ((az (nI (j / 32)) k) / (nI 48)) / (nI 16) * (nI 16))))).1) (Z2 := (aX (nI (j / 32)) (aL (nI (1 + j / 32 % 4)) (nI (j / 32)) n (k + 1) (g_L_types (h_X6_append Zc (nI 59)) (aw (nI (j / 32)) k) (((az (nI (j / 32)) k) / (nI 12)) - ((az (nI (j / 32)) k) / (nI 12)) / (nI 16) * (nI 16)) (((az (nI (j / 32)) k) / (nI 48)) - ((az (nI (j / 32)) k) / (nI 48)) / (nI 16) * (nI 16))) (h_L_types (h_X6_append Zc (nI 59)) (aw (nI (j / 32)) k) (((az (nI (j / 32)) k) / (nI 12)) - ((az (nI (j / 32)) k) / (nI 12)) / (nI 16) * (nI 16)) (((az (nI (j / 32)) k) / (nI 48)) - ((az (nI (j / 32)) k) / (nI 48)) / (nI 16) * (nI 16))))).2) (by simp only [aL, aT, aZ, ao, ab_, if_neg c268_1, if_neg c288_2, if_pos c311_8, if_neg c334_11, if_neg c355_12]) (by simp only [aL, aT, aZ, ao, ab_, if_neg c268_1, if_neg c288_2, if_pos c311_8, if_neg c334_11, if_neg c355_12]) (ih (k + 1) _ _ _ _ _ (by omega) (pa_types (pa_append hV _) _ _ _) (lv_sub hl [0, 4, 1, 5, 6, 7, 8] rfl) hP hS)
            · refine lv_iload hx hb dL_acts_337 (lv_at hl 2 rfl) ?_
              refine lv_bipush (v := nI 48) hx hb dL_acts_339 (by decide) ?_
              refine lv_idiv hx hb dL_acts_341 (by decide) ?_
              refine lv_bipush (v := nI 41) hx hb dL_acts_342 (by decide) ?_
              refine lv_irem hx hb dL_acts_344 (by decide) ?_
              refine lv_bipush (v := nI 20) hx hb dL_acts_345 (by decide) ?_
              refine lv_isub hx hb dL_acts_347 ?_
              refine lv_goto (tgt := 376) hx hb dL_acts_348 (by decide) ?_
              refine z_cSi (As := [.ref (a 114), .int (aw (nI (j / 32)) k), .int (((az (nI (j / 32)) k) / (nI 12)) - ((az (nI (j / 32)) k) / (nI 12)) / (nI 16) * (nI 16)), .int ((((az (nI (j / 32)) k) / (nI 48)) - ((az (nI (j / 32)) k) / (nI 48)) / (nI 41) * (nI 41)) - (nI 20))]) (rest := []) ⟨hx, hb, hml, hown, hts⟩ (ct_L_types l D a ca hJ (h_X6_append Zc (nI 59)) (aw (nI (j / 32)) k) (((az (nI (j / 32)) k) / (nI 12)) - ((az (nI (j / 32)) k) / (nI 12)) / (nI 16) * (nI 16)) ((((az (nI (j / 32)) k) / (nI 48)) - ((az (nI (j / 32)) k) / (nI 48)) / (nI 41) * (nI 41)) - (nI 20)) (xq_app hV.2.2.2.2)) (va_cwS 4 hts gL_acts_L_types rfl rfl rfl (by decide +kernel) ⟨Nat.le_of_ble_eq_true rfl, Nat.le_of_ble_eq_true rfl⟩) hK hP hS rfl hl.1 rfl (Nat.le_of_ble_eq_true rfl) dL_acts_376 ⟨Nat.zero_le _, Nat.zero_le _⟩ (fun H locs hP hS => ?_)
              refine lv_istore (lv' := [(4, .int (g_L_types (h_X6_append Zc (nI 59)) (aw (nI (j / 32)) k) (((az (nI (j / 32)) k) / (nI 12)) - ((az (nI (j / 32)) k) / (nI 12)) / (nI 16) * (nI 16)) ((((az (nI (j / 32)) k) / (nI 48)) - ((az (nI (j / 32)) k) / (nI 48)) / (nI 41) * (nI 41)) - (nI 20)))), (8, .int (aw (nI (j / 32)) k)), (7, .int (az (nI (j / 32)) k)), (6, .int (nI k)), (5, .int (nI (1 + j / 32 % 4))), (3, .int (nI (j / 32 % 4))), (2, .int (nI (j / 32))), (0, .ref (a 114)), (1, .int (nI j))]) hx hb dL_acts_379 hl (by decide) rfl (fun ls hl => ?_)
              refine lv_iinc (v := nI (k + 1)) (lv' := [(6, .int (nI (k + 1))), (4, .int (g_L_types (h_X6_append Zc (nI 59)) (aw (nI (j / 32)) k) (((az (nI (j / 32)) k) / (nI 12)) - ((az (nI (j / 32)) k) / (nI 12)) / (nI 16) * (nI 16)) ((((az (nI (j / 32)) k) / (nI 48)) - ((az (nI (j / 32)) k) / (nI 48)) / (nI 41) * (nI 41)) - (nI 20)))), (8, .int (aw (nI (j / 32)) k)), (7, .int (az (nI (j / 32)) k)), (5, .int (nI (1 + j / 32 % 4))), (3, .int (nI (j / 32 % 4))), (2, .int (nI (j / 32))), (0, .ref (a 114)), (1, .int (nI j))]) hx hb dL_acts_381 hl (k := 3) rfl (nI_add _ _) (by decide) rfl (fun ls hl => ?_)
              refine lv_goto (tgt := 264) hx hb dL_acts_384 (by decide) ?_
              exact z_toi (r2 := (aX (nI (j / 32)) (aL (nI (1 + j / 32 % 4)) (nI (j / 32)) n (k + 1) (g_L_types (h_X6_append Zc (nI 59)) (aw (nI (j / 32)) k) (((az (nI (j / 32)) k) / (nI 12)) - ((az (nI (j / 32)) k) / (nI 12)) / (nI 16) * (nI 16)) ((((az (nI (j / 32)) k) / (nI 48)) - ((az (nI (j / 32)) k) / (nI 48)) / (nI 41) * (nI 41)) - (nI 20))) (h_L_types (h_X6_append Zc (nI 59)) (aw (nI (j / 32)) k) (((az (nI (j / 32)) k) / (nI 12)) - ((az (nI (j / 32)) k) / (nI 12)) / (nI 16) * (nI 16)) ((((az (nI (j / 32)) k) / (nI 48)) - ((az (nI (j / 32)) k) / (nI 48)) / (nI 41) * (nI 41)) - (nI 20))))).1) (Z2 := (aX (nI (j / 32)) (aL (nI (1 + j / 32 % 4)) (nI (j / 32)) n (k + 1) (g_L_types (h_X6_append Zc (nI 59)) (aw (nI (j / 32)) k) (((az (nI (j / 32)) k) / (nI 12)) - ((az (nI (j / 32)) k) / (nI 12)) / (nI 16) * (nI 16)) ((((az (nI (j / 32)) k) / (nI 48)) - ((az (nI (j / 32)) k) / (nI 48)) / (nI 41) * (nI 41)) - (nI 20))) (h_L_types (h_X6_append Zc (nI 59)) (aw (nI (j / 32)) k) (((az (nI (j / 32)) k) / (nI 12)) - ((az (nI (j / 32)) k) / (nI 12)) / (nI 16) * (nI 16)) ((((az (nI (j / 32)) k) / (nI 48)) - ((az (nI (j / 32)) k) / (nI 48)) / (nI 41) * (nI 41)) - (nI 20))))).2) (by simp only [aL, aT, aZ, ao, ab_, if_neg c268_1, if_neg c288_2, if_pos c311_8, if_pos c334_11]) (by simp only [aL, aT, aZ, ao, ab_, if_neg c268_1, if_neg c288_2, if_pos c311_8, if_pos c334_11]) (ih (k + 1) _ _ _ _ _ (by omega) (pa_types (pa_append hV _) _ _ _) (lv_sub hl [0, 4, 1, 5, 6, 7, 8] rfl) hP hS)
  have k248 : ∀ (ls : Array Slot) (hl : lv_has ls 9 [(3, .int (nI (j / 32 % 4))), (2, .int (nI (j / 32))), (0, .ref (a 114)), (1, .int (nI j))]), W p l e ({ frames := 7, cells := 0, slots := 0, locals := 156 } : Room) s m ([.ref (a 114), .int (nI j)] : List Value).toArray below meth c s.heap [] 0 0 (zQi below D a ca [.ref (a 114), .int (nI j)] s (aA (nI (1 + j / 32 % 4)) (nI (j / 32)) Z).1 (aA (nI (1 + j / 32 % 4)) (nI (j / 32)) Z).2) (F0 m 248 ls []) := by
    intro ls hl
    refine lv_aload_n hx hb dL_acts_248 rfl (lv_at hl 2 rfl) ?_
    refine z_cVi (As := []) (rest := []) ⟨hx, hb, hml, hown, hts⟩ (ct_X6_clearText l D a ca hJ Z ) (cwV 0 hts gL_acts_X6_clearText rfl rfl rfl (by decide +kernel) ⟨Nat.le_of_ble_eq_true rfl, Nat.le_of_ble_eq_true rfl⟩) hK hP hS (va_recv (ci := 6) hK.1 hP rfl zW_b) rfl hl.1 rfl (Nat.le_of_ble_eq_true rfl) dL_acts_249 ⟨Nat.zero_le _, Nat.zero_le _⟩ (fun H locs hP hS => ?_)
    refine lv_istore (lv' := [(4, .int (g_X6_clearText Z)), (3, .int (nI (j / 32 % 4))), (2, .int (nI (j / 32))), (0, .ref (a 114)), (1, .int (nI j))]) hx hb dL_acts_252 hl (by decide) rfl (fun ls hl => ?_)
    refine lv_iconst (v := nI 1) hx hb dL_acts_254 (by decide) ?_
    refine lv_iload_n hx hb dL_acts_255 rfl (lv_at hl 2 rfl) ?_
    refine lv_iconst (v := nI 4) hx hb dL_acts_256 (by decide) ?_
    refine lv_irem hx hb dL_acts_257 (by decide) ?_
    refine z_val (z := nI (j / 32 % 4)) (pk_rem (by omega) (by decide) (by decide)) ?_
    refine lv_iadd hx hb dL_acts_258 ?_
    refine z_val (z := nI (1 + j / 32 % 4)) (nI_add _ _) ?_
    refine lv_istore (lv' := [(5, .int (nI (1 + j / 32 % 4))), (4, .int (g_X6_clearText Z)), (3, .int (nI (j / 32 % 4))), (2, .int (nI (j / 32))), (0, .ref (a 114)), (1, .int (nI j))]) hx hb dL_acts_259 hl (by decide) rfl (fun ls hl => ?_)
    refine lv_iconst (v := nI 0) hx hb dL_acts_261 (by decide) ?_
    refine lv_istore (lv' := [(6, .int (nI 0)), (5, .int (nI (1 + j / 32 % 4))), (4, .int (g_X6_clearText Z)), (3, .int (nI (j / 32 % 4))), (2, .int (nI (j / 32))), (0, .ref (a 114)), (1, .int (nI j))]) hx hb dL_acts_262 hl (by decide) rfl (fun ls hl => ?_)
    exact lp 4 0 _ _ _ _ _ rfl (pa_clearText hV) (lv_sub hl [0, 1, 2, 3, 4, 5, 6] rfl) hP hS
  refine lv_iload_n hx hb dL_acts_0 rfl (lv_at hl 1 rfl) ?_
  refine lv_bipush (v := nI 32) hx hb dL_acts_1 (by decide) ?_
  refine lv_idiv hx hb dL_acts_3 (by decide) ?_
  refine z_val (z := nI (j / 32)) (pk_div hj (by decide) (by decide)) ?_
  refine lv_istore_n (lv' := [(2, .int (nI (j / 32))), (0, .ref (a 114)), (1, .int (nI j))]) hx hb dL_acts_4 rfl hl (by decide) rfl (fun ls hl => ?_)
  refine lv_iload_n hx hb dL_acts_5 rfl (lv_at hl 0 rfl) ?_
  refine lv_iconst (v := nI 4) hx hb dL_acts_6 (by decide) ?_
  refine lv_irem hx hb dL_acts_7 (by decide) ?_
  refine z_val (z := nI (j / 32 % 4)) (pk_rem (by omega) (by decide) (by decide)) ?_
  refine lv_istore_n (lv' := [(3, .int (nI (j / 32 % 4))), (2, .int (nI (j / 32))), (0, .ref (a 114)), (1, .int (nI j))]) hx hb dL_acts_8 rfl hl (by decide) rfl (fun ls hl => ?_)
  refine lv_iload_n hx hb dL_acts_9 rfl (lv_at hl 3 rfl) ?_
  refine lv_bipush (v := nI 32) hx hb dL_acts_10 (by decide) ?_
  refine lv_irem hx hb dL_acts_12 (by decide) ?_
  refine z_val (z := nI (j % 32)) (pk_rem hj (by decide) (by decide)) ?_
  by_cases w13_0 : (nI (j % 32)) = nI 0
  · refine lv_tableIn (tgt := 96) (off := 83) hx hb dL_acts_13 (by rw [w13_0]; decide) (by rw [w13_0]; decide) (by rw [w13_0]; rfl) (by decide) ?_
    refine lv_aload_n hx hb dL_acts_96 rfl (lv_at hl 2 rfl) ?_
    refine lv_iload_n hx hb dL_acts_97 rfl (lv_at hl 0 rfl) ?_
    refine lv_iload_n hx hb dL_acts_98 rfl (lv_at hl 1 rfl) ?_
    refine lv_iconst (v := nI 4) hx hb dL_acts_99 (by decide) ?_
    refine lv_idiv hx hb dL_acts_100 (by decide) ?_
    refine lv_bipush (v := nI 7) hx hb dL_acts_101 (by decide) ?_
    refine lv_irem hx hb dL_acts_103 (by decide) ?_
    refine lv_if_ne (tgt := 117) hx hb dL_acts_104 (by decide) (fun c104_2 => ?_) (fun c104_2 => ?_)
    · refine lv_iload_n hx hb dL_acts_117 rfl (lv_at hl 1 rfl) ?_
      refine lv_bipush (v := nI 28) hx hb dL_acts_118 (by decide) ?_
      refine lv_idiv hx hb dL_acts_120 (by decide) ?_
      refine lv_bipush (v := nI 12) hx hb dL_acts_121 (by decide) ?_
      refine lv_irem hx hb dL_acts_123 (by decide) ?_
      refine z_cVi (As := [.int (nI (j / 32 % 4)), .int (((nI (j / 32)) / (nI 28)) - ((nI (j / 32)) / (nI 28)) / (nI 12) * (nI 12))]) (rest := []) ⟨hx, hb, hml, hown, hts⟩ (ct_start2 l D a ca hJ Z (nI (j / 32 % 4)) (((nI (j / 32)) / (nI 28)) - ((nI (j / 32)) / (nI 28)) / (nI 12) * (nI 12)) hV.2.2.1 hV.2.2.2.1 hV.1) (cwV 2 hts gL_acts_X6_start rfl rfl rfl (by decide +kernel) ⟨Nat.le_of_ble_eq_true rfl, Nat.le_of_ble_eq_true rfl⟩) hK hP hS (va_recv (ci := 6) hK.1 hP rfl zW_b) rfl hl.1 rfl (Nat.le_of_ble_eq_true rfl) dL_acts_124 ⟨Nat.zero_le _, Nat.zero_le _⟩ (fun H locs hP hS => ?_)
      exact z_reti hx hb hr hlk rfl hP hS dL_acts_127 (by simp only [g_L_acts, if_pos w13_0, if_neg c104_2]) (by simp only [h_L_acts, if_pos w13_0, if_neg c104_2])
    · refine lv_iload_n hx hb dL_acts_107 rfl (lv_at hl 1 rfl) ?_
      refine lv_bipush (v := nI 28) hx hb dL_acts_108 (by decide) ?_
      refine lv_idiv hx hb dL_acts_110 (by decide) ?_
      refine lv_bipush (v := nI 48) hx hb dL_acts_111 (by decide) ?_
      refine lv_irem hx hb dL_acts_113 (by decide) ?_
      refine lv_goto (tgt := 124) hx hb dL_acts_114 (by decide) ?_
      refine z_cVi (As := [.int (nI (j / 32 % 4)), .int (((nI (j / 32)) / (nI 28)) - ((nI (j / 32)) / (nI 28)) / (nI 48) * (nI 48))]) (rest := []) ⟨hx, hb, hml, hown, hts⟩ (ct_start2 l D a ca hJ Z (nI (j / 32 % 4)) (((nI (j / 32)) / (nI 28)) - ((nI (j / 32)) / (nI 28)) / (nI 48) * (nI 48)) hV.2.2.1 hV.2.2.2.1 hV.1) (cwV 2 hts gL_acts_X6_start rfl rfl rfl (by decide +kernel) ⟨Nat.le_of_ble_eq_true rfl, Nat.le_of_ble_eq_true rfl⟩) hK hP hS (va_recv (ci := 6) hK.1 hP rfl zW_b) rfl hl.1 rfl (Nat.le_of_ble_eq_true rfl) dL_acts_124 ⟨Nat.zero_le _, Nat.zero_le _⟩ (fun H locs hP hS => ?_)
      exact z_reti hx hb hr hlk rfl hP hS dL_acts_127 (by simp only [g_L_acts, if_pos w13_0, if_pos c104_2]) (by simp only [h_L_acts, if_pos w13_0, if_pos c104_2])
  · by_cases w13_1 : (nI (j % 32)) = nI 1
    · refine lv_tableIn (tgt := 96) (off := 83) hx hb dL_acts_13 (by rw [w13_1]; decide) (by rw [w13_1]; decide) (by rw [w13_1]; rfl) (by decide) ?_
      refine lv_aload_n hx hb dL_acts_96 rfl (lv_at hl 2 rfl) ?_
      refine lv_iload_n hx hb dL_acts_97 rfl (lv_at hl 0 rfl) ?_
      refine lv_iload_n hx hb dL_acts_98 rfl (lv_at hl 1 rfl) ?_
      refine lv_iconst (v := nI 4) hx hb dL_acts_99 (by decide) ?_
      refine lv_idiv hx hb dL_acts_100 (by decide) ?_
      refine lv_bipush (v := nI 7) hx hb dL_acts_101 (by decide) ?_
      refine lv_irem hx hb dL_acts_103 (by decide) ?_
      refine lv_if_ne (tgt := 117) hx hb dL_acts_104 (by decide) (fun c104_3 => ?_) (fun c104_3 => ?_)
      · refine lv_iload_n hx hb dL_acts_117 rfl (lv_at hl 1 rfl) ?_
        refine lv_bipush (v := nI 28) hx hb dL_acts_118 (by decide) ?_
        refine lv_idiv hx hb dL_acts_120 (by decide) ?_
        refine lv_bipush (v := nI 12) hx hb dL_acts_121 (by decide) ?_
        refine lv_irem hx hb dL_acts_123 (by decide) ?_
        refine z_cVi (As := [.int (nI (j / 32 % 4)), .int (((nI (j / 32)) / (nI 28)) - ((nI (j / 32)) / (nI 28)) / (nI 12) * (nI 12))]) (rest := []) ⟨hx, hb, hml, hown, hts⟩ (ct_start2 l D a ca hJ Z (nI (j / 32 % 4)) (((nI (j / 32)) / (nI 28)) - ((nI (j / 32)) / (nI 28)) / (nI 12) * (nI 12)) hV.2.2.1 hV.2.2.2.1 hV.1) (cwV 2 hts gL_acts_X6_start rfl rfl rfl (by decide +kernel) ⟨Nat.le_of_ble_eq_true rfl, Nat.le_of_ble_eq_true rfl⟩) hK hP hS (va_recv (ci := 6) hK.1 hP rfl zW_b) rfl hl.1 rfl (Nat.le_of_ble_eq_true rfl) dL_acts_124 ⟨Nat.zero_le _, Nat.zero_le _⟩ (fun H locs hP hS => ?_)
        exact z_reti hx hb hr hlk rfl hP hS dL_acts_127 (by simp only [g_L_acts, if_neg w13_0, if_pos w13_1, if_neg c104_3]) (by simp only [h_L_acts, if_neg w13_0, if_pos w13_1, if_neg c104_3])
      · refine lv_iload_n hx hb dL_acts_107 rfl (lv_at hl 1 rfl) ?_
        refine lv_bipush (v := nI 28) hx hb dL_acts_108 (by decide) ?_
        refine lv_idiv hx hb dL_acts_110 (by decide) ?_
        refine lv_bipush (v := nI 48) hx hb dL_acts_111 (by decide) ?_
        refine lv_irem hx hb dL_acts_113 (by decide) ?_
        refine lv_goto (tgt := 124) hx hb dL_acts_114 (by decide) ?_
        refine z_cVi (As := [.int (nI (j / 32 % 4)), .int (((nI (j / 32)) / (nI 28)) - ((nI (j / 32)) / (nI 28)) / (nI 48) * (nI 48))]) (rest := []) ⟨hx, hb, hml, hown, hts⟩ (ct_start2 l D a ca hJ Z (nI (j / 32 % 4)) (((nI (j / 32)) / (nI 28)) - ((nI (j / 32)) / (nI 28)) / (nI 48) * (nI 48)) hV.2.2.1 hV.2.2.2.1 hV.1) (cwV 2 hts gL_acts_X6_start rfl rfl rfl (by decide +kernel) ⟨Nat.le_of_ble_eq_true rfl, Nat.le_of_ble_eq_true rfl⟩) hK hP hS (va_recv (ci := 6) hK.1 hP rfl zW_b) rfl hl.1 rfl (Nat.le_of_ble_eq_true rfl) dL_acts_124 ⟨Nat.zero_le _, Nat.zero_le _⟩ (fun H locs hP hS => ?_)
        exact z_reti hx hb hr hlk rfl hP hS dL_acts_127 (by simp only [g_L_acts, if_neg w13_0, if_pos w13_1, if_pos c104_3]) (by simp only [h_L_acts, if_neg w13_0, if_pos w13_1, if_pos c104_3])
    · by_cases w13_2 : (nI (j % 32)) = nI 2
      · refine lv_tableIn (tgt := 96) (off := 83) hx hb dL_acts_13 (by rw [w13_2]; decide) (by rw [w13_2]; decide) (by rw [w13_2]; rfl) (by decide) ?_
        refine lv_aload_n hx hb dL_acts_96 rfl (lv_at hl 2 rfl) ?_
        refine lv_iload_n hx hb dL_acts_97 rfl (lv_at hl 0 rfl) ?_
        refine lv_iload_n hx hb dL_acts_98 rfl (lv_at hl 1 rfl) ?_
        refine lv_iconst (v := nI 4) hx hb dL_acts_99 (by decide) ?_
        refine lv_idiv hx hb dL_acts_100 (by decide) ?_
        refine lv_bipush (v := nI 7) hx hb dL_acts_101 (by decide) ?_
        refine lv_irem hx hb dL_acts_103 (by decide) ?_
        refine lv_if_ne (tgt := 117) hx hb dL_acts_104 (by decide) (fun c104_4 => ?_) (fun c104_4 => ?_)
        · refine lv_iload_n hx hb dL_acts_117 rfl (lv_at hl 1 rfl) ?_
          refine lv_bipush (v := nI 28) hx hb dL_acts_118 (by decide) ?_
          refine lv_idiv hx hb dL_acts_120 (by decide) ?_
          refine lv_bipush (v := nI 12) hx hb dL_acts_121 (by decide) ?_
          refine lv_irem hx hb dL_acts_123 (by decide) ?_
          refine z_cVi (As := [.int (nI (j / 32 % 4)), .int (((nI (j / 32)) / (nI 28)) - ((nI (j / 32)) / (nI 28)) / (nI 12) * (nI 12))]) (rest := []) ⟨hx, hb, hml, hown, hts⟩ (ct_start2 l D a ca hJ Z (nI (j / 32 % 4)) (((nI (j / 32)) / (nI 28)) - ((nI (j / 32)) / (nI 28)) / (nI 12) * (nI 12)) hV.2.2.1 hV.2.2.2.1 hV.1) (cwV 2 hts gL_acts_X6_start rfl rfl rfl (by decide +kernel) ⟨Nat.le_of_ble_eq_true rfl, Nat.le_of_ble_eq_true rfl⟩) hK hP hS (va_recv (ci := 6) hK.1 hP rfl zW_b) rfl hl.1 rfl (Nat.le_of_ble_eq_true rfl) dL_acts_124 ⟨Nat.zero_le _, Nat.zero_le _⟩ (fun H locs hP hS => ?_)
          exact z_reti hx hb hr hlk rfl hP hS dL_acts_127 (by simp only [g_L_acts, if_neg w13_0, if_neg w13_1, if_pos w13_2, if_neg c104_4]) (by simp only [h_L_acts, if_neg w13_0, if_neg w13_1, if_pos w13_2, if_neg c104_4])
        · refine lv_iload_n hx hb dL_acts_107 rfl (lv_at hl 1 rfl) ?_
          refine lv_bipush (v := nI 28) hx hb dL_acts_108 (by decide) ?_
          refine lv_idiv hx hb dL_acts_110 (by decide) ?_
          refine lv_bipush (v := nI 48) hx hb dL_acts_111 (by decide) ?_
          refine lv_irem hx hb dL_acts_113 (by decide) ?_
          refine lv_goto (tgt := 124) hx hb dL_acts_114 (by decide) ?_
          refine z_cVi (As := [.int (nI (j / 32 % 4)), .int (((nI (j / 32)) / (nI 28)) - ((nI (j / 32)) / (nI 28)) / (nI 48) * (nI 48))]) (rest := []) ⟨hx, hb, hml, hown, hts⟩ (ct_start2 l D a ca hJ Z (nI (j / 32 % 4)) (((nI (j / 32)) / (nI 28)) - ((nI (j / 32)) / (nI 28)) / (nI 48) * (nI 48)) hV.2.2.1 hV.2.2.2.1 hV.1) (cwV 2 hts gL_acts_X6_start rfl rfl rfl (by decide +kernel) ⟨Nat.le_of_ble_eq_true rfl, Nat.le_of_ble_eq_true rfl⟩) hK hP hS (va_recv (ci := 6) hK.1 hP rfl zW_b) rfl hl.1 rfl (Nat.le_of_ble_eq_true rfl) dL_acts_124 ⟨Nat.zero_le _, Nat.zero_le _⟩ (fun H locs hP hS => ?_)
          exact z_reti hx hb hr hlk rfl hP hS dL_acts_127 (by simp only [g_L_acts, if_neg w13_0, if_neg w13_1, if_pos w13_2, if_pos c104_4]) (by simp only [h_L_acts, if_neg w13_0, if_neg w13_1, if_pos w13_2, if_pos c104_4])
      · by_cases w13_3 : (nI (j % 32)) = nI 3
        · refine lv_tableIn (tgt := 96) (off := 83) hx hb dL_acts_13 (by rw [w13_3]; decide) (by rw [w13_3]; decide) (by rw [w13_3]; rfl) (by decide) ?_
          refine lv_aload_n hx hb dL_acts_96 rfl (lv_at hl 2 rfl) ?_
          refine lv_iload_n hx hb dL_acts_97 rfl (lv_at hl 0 rfl) ?_
          refine lv_iload_n hx hb dL_acts_98 rfl (lv_at hl 1 rfl) ?_
          refine lv_iconst (v := nI 4) hx hb dL_acts_99 (by decide) ?_
          refine lv_idiv hx hb dL_acts_100 (by decide) ?_
          refine lv_bipush (v := nI 7) hx hb dL_acts_101 (by decide) ?_
          refine lv_irem hx hb dL_acts_103 (by decide) ?_
          refine lv_if_ne (tgt := 117) hx hb dL_acts_104 (by decide) (fun c104_5 => ?_) (fun c104_5 => ?_)
          · refine lv_iload_n hx hb dL_acts_117 rfl (lv_at hl 1 rfl) ?_
            refine lv_bipush (v := nI 28) hx hb dL_acts_118 (by decide) ?_
            refine lv_idiv hx hb dL_acts_120 (by decide) ?_
            refine lv_bipush (v := nI 12) hx hb dL_acts_121 (by decide) ?_
            refine lv_irem hx hb dL_acts_123 (by decide) ?_
            refine z_cVi (As := [.int (nI (j / 32 % 4)), .int (((nI (j / 32)) / (nI 28)) - ((nI (j / 32)) / (nI 28)) / (nI 12) * (nI 12))]) (rest := []) ⟨hx, hb, hml, hown, hts⟩ (ct_start2 l D a ca hJ Z (nI (j / 32 % 4)) (((nI (j / 32)) / (nI 28)) - ((nI (j / 32)) / (nI 28)) / (nI 12) * (nI 12)) hV.2.2.1 hV.2.2.2.1 hV.1) (cwV 2 hts gL_acts_X6_start rfl rfl rfl (by decide +kernel) ⟨Nat.le_of_ble_eq_true rfl, Nat.le_of_ble_eq_true rfl⟩) hK hP hS (va_recv (ci := 6) hK.1 hP rfl zW_b) rfl hl.1 rfl (Nat.le_of_ble_eq_true rfl) dL_acts_124 ⟨Nat.zero_le _, Nat.zero_le _⟩ (fun H locs hP hS => ?_)
            exact z_reti hx hb hr hlk rfl hP hS dL_acts_127 (by simp only [g_L_acts, if_neg w13_0, if_neg w13_1, if_neg w13_2, if_pos w13_3, if_neg c104_5]) (by simp only [h_L_acts, if_neg w13_0, if_neg w13_1, if_neg w13_2, if_pos w13_3, if_neg c104_5])
          · refine lv_iload_n hx hb dL_acts_107 rfl (lv_at hl 1 rfl) ?_
            refine lv_bipush (v := nI 28) hx hb dL_acts_108 (by decide) ?_
            refine lv_idiv hx hb dL_acts_110 (by decide) ?_
            refine lv_bipush (v := nI 48) hx hb dL_acts_111 (by decide) ?_
            refine lv_irem hx hb dL_acts_113 (by decide) ?_
            refine lv_goto (tgt := 124) hx hb dL_acts_114 (by decide) ?_
            refine z_cVi (As := [.int (nI (j / 32 % 4)), .int (((nI (j / 32)) / (nI 28)) - ((nI (j / 32)) / (nI 28)) / (nI 48) * (nI 48))]) (rest := []) ⟨hx, hb, hml, hown, hts⟩ (ct_start2 l D a ca hJ Z (nI (j / 32 % 4)) (((nI (j / 32)) / (nI 28)) - ((nI (j / 32)) / (nI 28)) / (nI 48) * (nI 48)) hV.2.2.1 hV.2.2.2.1 hV.1) (cwV 2 hts gL_acts_X6_start rfl rfl rfl (by decide +kernel) ⟨Nat.le_of_ble_eq_true rfl, Nat.le_of_ble_eq_true rfl⟩) hK hP hS (va_recv (ci := 6) hK.1 hP rfl zW_b) rfl hl.1 rfl (Nat.le_of_ble_eq_true rfl) dL_acts_124 ⟨Nat.zero_le _, Nat.zero_le _⟩ (fun H locs hP hS => ?_)
            exact z_reti hx hb hr hlk rfl hP hS dL_acts_127 (by simp only [g_L_acts, if_neg w13_0, if_neg w13_1, if_neg w13_2, if_pos w13_3, if_pos c104_5]) (by simp only [h_L_acts, if_neg w13_0, if_neg w13_1, if_neg w13_2, if_pos w13_3, if_pos c104_5])
        · by_cases w13_4 : (nI (j % 32)) = nI 4
          · refine lv_tableIn (tgt := 128) (off := 115) hx hb dL_acts_13 (by rw [w13_4]; decide) (by rw [w13_4]; decide) (by rw [w13_4]; rfl) (by decide) ?_
            refine lv_aload_n hx hb dL_acts_128 rfl (lv_at hl 2 rfl) ?_
            refine lv_iload_n hx hb dL_acts_129 rfl (lv_at hl 0 rfl) ?_
            refine z_cVi (As := [.int (nI (j / 32 % 4))]) (rest := []) ⟨hx, hb, hml, hown, hts⟩ (ct_halt2 l D a ca hJ Z (nI (j / 32 % 4)) hV.2.2.1 hV.2.2.2.1 hV.1) (cwV 1 hts gL_acts_X6_halt rfl rfl rfl (by decide +kernel) ⟨Nat.le_of_ble_eq_true rfl, Nat.le_of_ble_eq_true rfl⟩) hK hP hS (va_recv (ci := 6) hK.1 hP rfl zW_b) rfl hl.1 rfl (Nat.le_of_ble_eq_true rfl) dL_acts_130 ⟨Nat.zero_le _, Nat.zero_le _⟩ (fun H locs hP hS => ?_)
            exact z_reti hx hb hr hlk rfl hP hS dL_acts_133 (by simp only [g_L_acts, if_neg w13_0, if_neg w13_1, if_neg w13_2, if_neg w13_3, if_pos w13_4]) (by simp only [h_L_acts, if_neg w13_0, if_neg w13_1, if_neg w13_2, if_neg w13_3, if_pos w13_4])
          · by_cases w13_5 : (nI (j % 32)) = nI 5
            · refine lv_tableIn (tgt := 134) (off := 121) hx hb dL_acts_13 (by rw [w13_5]; decide) (by rw [w13_5]; decide) (by rw [w13_5]; rfl) (by decide) ?_
              refine lv_aload_n hx hb dL_acts_134 rfl (lv_at hl 2 rfl) ?_
              refine lv_iload_n hx hb dL_acts_135 rfl (lv_at hl 0 rfl) ?_
              refine lv_iload_n hx hb dL_acts_136 rfl (lv_at hl 1 rfl) ?_
              refine lv_iconst (v := nI 4) hx hb dL_acts_137 (by decide) ?_
              refine lv_idiv hx hb dL_acts_138 (by decide) ?_
              refine lv_iconst (v := nI 4) hx hb dL_acts_139 (by decide) ?_
              refine lv_irem hx hb dL_acts_140 (by decide) ?_
              refine lv_iload_n hx hb dL_acts_141 rfl (lv_at hl 1 rfl) ?_
              refine lv_bipush (v := nI 16) hx hb dL_acts_142 (by decide) ?_
              refine lv_idiv hx hb dL_acts_144 (by decide) ?_
              refine lv_ldc (v := nI 65536) hx hb hown (hts (.constant RL 35 (nI 65536)) (by decide +kernel)) dL_acts_145 ?_
              refine lv_irem hx hb dL_acts_147 (by decide) ?_
              refine lv_ldc (v := nI 32768) hx hb hown (hts (.constant RL 36 (nI 32768)) (by decide +kernel)) dL_acts_148 ?_
              refine lv_isub hx hb dL_acts_150 ?_
              refine z_cVi (As := [.int (nI (j / 32 % 4)), .int (((nI (j / 32)) / (nI 4)) - ((nI (j / 32)) / (nI 4)) / (nI 4) * (nI 4)), .int ((((nI (j / 32)) / (nI 16)) - ((nI (j / 32)) / (nI 16)) / (nI 65536) * (nI 65536)) - (nI 32768))]) (rest := []) ⟨hx, hb, hml, hown, hts⟩ (ct_setRegister2 l D a ca hJ Z (nI (j / 32 % 4)) (((nI (j / 32)) / (nI 4)) - ((nI (j / 32)) / (nI 4)) / (nI 4) * (nI 4)) ((((nI (j / 32)) / (nI 16)) - ((nI (j / 32)) / (nI 16)) / (nI 65536) * (nI 65536)) - (nI 32768)) hV.2.2.1 hV.2.2.2.1 hV.1) (cwV 3 hts gL_acts_X6_setRegister rfl rfl rfl (by decide +kernel) ⟨Nat.le_of_ble_eq_true rfl, Nat.le_of_ble_eq_true rfl⟩) hK hP hS (va_recv (ci := 6) hK.1 hP rfl zW_b) rfl hl.1 rfl (Nat.le_of_ble_eq_true rfl) dL_acts_151 ⟨Nat.zero_le _, Nat.zero_le _⟩ (fun H locs hP hS => ?_)
              exact z_reti hx hb hr hlk rfl hP hS dL_acts_154 (by simp only [g_L_acts, if_neg w13_0, if_neg w13_1, if_neg w13_2, if_neg w13_3, if_neg w13_4, if_pos w13_5]) (by simp only [h_L_acts, if_neg w13_0, if_neg w13_1, if_neg w13_2, if_neg w13_3, if_neg w13_4, if_pos w13_5])
            · by_cases w13_6 : (nI (j % 32)) = nI 6
              · refine lv_tableIn (tgt := 155) (off := 142) hx hb dL_acts_13 (by rw [w13_6]; decide) (by rw [w13_6]; decide) (by rw [w13_6]; rfl) (by decide) ?_
                refine lv_aload_n hx hb dL_acts_155 rfl (lv_at hl 2 rfl) ?_
                refine lv_iload_n hx hb dL_acts_156 rfl (lv_at hl 1 rfl) ?_
                refine lv_bipush (v := nI 32) hx hb dL_acts_157 (by decide) ?_
                refine lv_irem hx hb dL_acts_159 (by decide) ?_
                refine lv_iload_n hx hb dL_acts_160 rfl (lv_at hl 1 rfl) ?_
                refine lv_bipush (v := nI 32) hx hb dL_acts_161 (by decide) ?_
                refine lv_idiv hx hb dL_acts_163 (by decide) ?_
                refine lv_ldc (v := nI 65536) hx hb hown (hts (.constant RL 35 (nI 65536)) (by decide +kernel)) dL_acts_164 ?_
                refine lv_irem hx hb dL_acts_166 (by decide) ?_
                refine lv_ldc (v := nI 32768) hx hb hown (hts (.constant RL 36 (nI 32768)) (by decide +kernel)) dL_acts_167 ?_
                refine lv_isub hx hb dL_acts_169 ?_
                refine z_cVi (As := [.int ((nI (j / 32)) - (nI (j / 32)) / (nI 32) * (nI 32)), .int ((((nI (j / 32)) / (nI 32)) - ((nI (j / 32)) / (nI 32)) / (nI 65536) * (nI 65536)) - (nI 32768))]) (rest := []) ⟨hx, hb, hml, hown, hts⟩ (ct_setWord2 l D a ca hJ Z ((nI (j / 32)) - (nI (j / 32)) / (nI 32) * (nI 32)) ((((nI (j / 32)) / (nI 32)) - ((nI (j / 32)) / (nI 32)) / (nI 65536) * (nI 65536)) - (nI 32768)) hV.2.2.1 hV.2.2.2.1 hV.1) (cwV 2 hts gL_acts_X6_setWord rfl rfl rfl (by decide +kernel) ⟨Nat.le_of_ble_eq_true rfl, Nat.le_of_ble_eq_true rfl⟩) hK hP hS (va_recv (ci := 6) hK.1 hP rfl zW_b) rfl hl.1 rfl (Nat.le_of_ble_eq_true rfl) dL_acts_170 ⟨Nat.zero_le _, Nat.zero_le _⟩ (fun H locs hP hS => ?_)
                exact z_reti hx hb hr hlk rfl hP hS dL_acts_173 (by simp only [g_L_acts, if_neg w13_0, if_neg w13_1, if_neg w13_2, if_neg w13_3, if_neg w13_4, if_neg w13_5, if_pos w13_6]) (by simp only [h_L_acts, if_neg w13_0, if_neg w13_1, if_neg w13_2, if_neg w13_3, if_neg w13_4, if_neg w13_5, if_pos w13_6])
              · by_cases w13_7 : (nI (j % 32)) = nI 7
                · refine lv_tableIn (tgt := 174) (off := 161) hx hb dL_acts_13 (by rw [w13_7]; decide) (by rw [w13_7]; decide) (by rw [w13_7]; rfl) (by decide) ?_
                  refine lv_aload_n hx hb dL_acts_174 rfl (lv_at hl 2 rfl) ?_
                  refine lv_iload_n hx hb dL_acts_175 rfl (lv_at hl 1 rfl) ?_
                  refine lv_bipush (v := nI 8) hx hb dL_acts_176 (by decide) ?_
                  refine lv_irem hx hb dL_acts_178 (by decide) ?_
                  refine lv_iload_n hx hb dL_acts_179 rfl (lv_at hl 1 rfl) ?_
                  refine lv_bipush (v := nI 8) hx hb dL_acts_180 (by decide) ?_
                  refine lv_idiv hx hb dL_acts_182 (by decide) ?_
                  refine lv_iconst (v := nI 4) hx hb dL_acts_183 (by decide) ?_
                  refine lv_irem hx hb dL_acts_184 (by decide) ?_
                  refine z_cVi (As := [.int ((nI (j / 32)) - (nI (j / 32)) / (nI 8) * (nI 8)), .int (((nI (j / 32)) / (nI 8)) - ((nI (j / 32)) / (nI 8)) / (nI 4) * (nI 4))]) (rest := []) ⟨hx, hb, hml, hown, hts⟩ (ct_setSlot2 l D a ca hJ Z ((nI (j / 32)) - (nI (j / 32)) / (nI 8) * (nI 8)) (((nI (j / 32)) / (nI 8)) - ((nI (j / 32)) / (nI 8)) / (nI 4) * (nI 4)) hV.2.2.1 hV.2.2.2.1 hV.1) (cwV 2 hts gL_acts_X6_setSlot rfl rfl rfl (by decide +kernel) ⟨Nat.le_of_ble_eq_true rfl, Nat.le_of_ble_eq_true rfl⟩) hK hP hS (va_recv (ci := 6) hK.1 hP rfl zW_b) rfl hl.1 rfl (Nat.le_of_ble_eq_true rfl) dL_acts_185 ⟨Nat.zero_le _, Nat.zero_le _⟩ (fun H locs hP hS => ?_)
                  exact z_reti hx hb hr hlk rfl hP hS dL_acts_188 (by simp only [g_L_acts, if_neg w13_0, if_neg w13_1, if_neg w13_2, if_neg w13_3, if_neg w13_4, if_neg w13_5, if_neg w13_6, if_pos w13_7]) (by simp only [h_L_acts, if_neg w13_0, if_neg w13_1, if_neg w13_2, if_neg w13_3, if_neg w13_4, if_neg w13_5, if_neg w13_6, if_pos w13_7])
                · by_cases w13_8 : (nI (j % 32)) = nI 8
                  · refine lv_tableIn (tgt := 189) (off := 176) hx hb dL_acts_13 (by rw [w13_8]; decide) (by rw [w13_8]; decide) (by rw [w13_8]; rfl) (by decide) ?_
                    refine lv_iload_n hx hb dL_acts_189 rfl (lv_at hl 1 rfl) ?_
                    refine lv_iconst (v := nI 2) hx hb dL_acts_190 (by decide) ?_
                    refine lv_irem hx hb dL_acts_191 (by decide) ?_
                    refine lv_if_ne (tgt := 209) hx hb dL_acts_192 (by decide) (fun c192_6 => ?_) (fun c192_6 => ?_)
                    · refine lv_aload_n hx hb dL_acts_209 rfl (lv_at hl 2 rfl) ?_
                      refine lv_iconst (v := nI 1) hx hb dL_acts_210 (by decide) ?_
                      refine lv_iload_n hx hb dL_acts_211 rfl (lv_at hl 1 rfl) ?_
                      refine lv_iconst (v := nI 2) hx hb dL_acts_212 (by decide) ?_
                      refine lv_idiv hx hb dL_acts_213 (by decide) ?_
                      refine lv_iconst (v := nI 3) hx hb dL_acts_214 (by decide) ?_
                      refine lv_irem hx hb dL_acts_215 (by decide) ?_
                      refine z_cVi (As := [.int (nI 1), .int (((nI (j / 32)) / (nI 2)) - ((nI (j / 32)) / (nI 2)) / (nI 3) * (nI 3))]) (rest := []) ⟨hx, hb, hml, hown, hts⟩ (ct_set2 l D a ca hJ Z (nI 1) (((nI (j / 32)) / (nI 2)) - ((nI (j / 32)) / (nI 2)) / (nI 3) * (nI 3)) hV.2.2.1 hV.2.2.2.1 hV.1) (cwV 2 hts gL_acts_X6_set rfl rfl rfl (by decide +kernel) ⟨Nat.le_of_ble_eq_true rfl, Nat.le_of_ble_eq_true rfl⟩) hK hP hS (va_recv (ci := 6) hK.1 hP rfl zW_b) rfl hl.1 rfl (Nat.le_of_ble_eq_true rfl) dL_acts_216 ⟨Nat.zero_le _, Nat.zero_le _⟩ (fun H locs hP hS => ?_)
                      exact z_reti hx hb hr hlk rfl hP hS dL_acts_219 (by simp only [g_L_acts, if_neg w13_0, if_neg w13_1, if_neg w13_2, if_neg w13_3, if_neg w13_4, if_neg w13_5, if_neg w13_6, if_neg w13_7, if_pos w13_8, if_neg c192_6]) (by simp only [h_L_acts, if_neg w13_0, if_neg w13_1, if_neg w13_2, if_neg w13_3, if_neg w13_4, if_neg w13_5, if_neg w13_6, if_neg w13_7, if_pos w13_8, if_neg c192_6])
                    · refine lv_aload_n hx hb dL_acts_195 rfl (lv_at hl 2 rfl) ?_
                      refine lv_iconst (v := nI 0) hx hb dL_acts_196 (by decide) ?_
                      refine lv_iload_n hx hb dL_acts_197 rfl (lv_at hl 1 rfl) ?_
                      refine lv_iconst (v := nI 2) hx hb dL_acts_198 (by decide) ?_
                      refine lv_idiv hx hb dL_acts_199 (by decide) ?_
                      refine lv_bipush (v := nI 21) hx hb dL_acts_200 (by decide) ?_
                      refine lv_irem hx hb dL_acts_202 (by decide) ?_
                      refine z_cVi (As := [.int (nI 0), .int (((nI (j / 32)) / (nI 2)) - ((nI (j / 32)) / (nI 2)) / (nI 21) * (nI 21))]) (rest := []) ⟨hx, hb, hml, hown, hts⟩ (ct_set2 l D a ca hJ Z (nI 0) (((nI (j / 32)) / (nI 2)) - ((nI (j / 32)) / (nI 2)) / (nI 21) * (nI 21)) hV.2.2.1 hV.2.2.2.1 hV.1) (cwV 2 hts gL_acts_X6_set rfl rfl rfl (by decide +kernel) ⟨Nat.le_of_ble_eq_true rfl, Nat.le_of_ble_eq_true rfl⟩) hK hP hS (va_recv (ci := 6) hK.1 hP rfl zW_b) rfl hl.1 rfl (Nat.le_of_ble_eq_true rfl) dL_acts_203 ⟨Nat.zero_le _, Nat.zero_le _⟩ (fun H locs hP hS => ?_)
                      refine lv_goto (tgt := 219) hx hb dL_acts_206 (by decide) ?_
                      exact z_reti hx hb hr hlk rfl hP hS dL_acts_219 (by simp only [g_L_acts, if_neg w13_0, if_neg w13_1, if_neg w13_2, if_neg w13_3, if_neg w13_4, if_neg w13_5, if_neg w13_6, if_neg w13_7, if_pos w13_8, if_pos c192_6]) (by simp only [h_L_acts, if_neg w13_0, if_neg w13_1, if_neg w13_2, if_neg w13_3, if_neg w13_4, if_neg w13_5, if_neg w13_6, if_neg w13_7, if_pos w13_8, if_pos c192_6])
                  · by_cases w13_9 : (nI (j % 32)) = nI 9
                    · refine lv_tableIn (tgt := 189) (off := 176) hx hb dL_acts_13 (by rw [w13_9]; decide) (by rw [w13_9]; decide) (by rw [w13_9]; rfl) (by decide) ?_
                      refine lv_iload_n hx hb dL_acts_189 rfl (lv_at hl 1 rfl) ?_
                      refine lv_iconst (v := nI 2) hx hb dL_acts_190 (by decide) ?_
                      refine lv_irem hx hb dL_acts_191 (by decide) ?_
                      refine lv_if_ne (tgt := 209) hx hb dL_acts_192 (by decide) (fun c192_7 => ?_) (fun c192_7 => ?_)
                      · refine lv_aload_n hx hb dL_acts_209 rfl (lv_at hl 2 rfl) ?_
                        refine lv_iconst (v := nI 1) hx hb dL_acts_210 (by decide) ?_
                        refine lv_iload_n hx hb dL_acts_211 rfl (lv_at hl 1 rfl) ?_
                        refine lv_iconst (v := nI 2) hx hb dL_acts_212 (by decide) ?_
                        refine lv_idiv hx hb dL_acts_213 (by decide) ?_
                        refine lv_iconst (v := nI 3) hx hb dL_acts_214 (by decide) ?_
                        refine lv_irem hx hb dL_acts_215 (by decide) ?_
                        refine z_cVi (As := [.int (nI 1), .int (((nI (j / 32)) / (nI 2)) - ((nI (j / 32)) / (nI 2)) / (nI 3) * (nI 3))]) (rest := []) ⟨hx, hb, hml, hown, hts⟩ (ct_set2 l D a ca hJ Z (nI 1) (((nI (j / 32)) / (nI 2)) - ((nI (j / 32)) / (nI 2)) / (nI 3) * (nI 3)) hV.2.2.1 hV.2.2.2.1 hV.1) (cwV 2 hts gL_acts_X6_set rfl rfl rfl (by decide +kernel) ⟨Nat.le_of_ble_eq_true rfl, Nat.le_of_ble_eq_true rfl⟩) hK hP hS (va_recv (ci := 6) hK.1 hP rfl zW_b) rfl hl.1 rfl (Nat.le_of_ble_eq_true rfl) dL_acts_216 ⟨Nat.zero_le _, Nat.zero_le _⟩ (fun H locs hP hS => ?_)
                        exact z_reti hx hb hr hlk rfl hP hS dL_acts_219 (by simp only [g_L_acts, if_neg w13_0, if_neg w13_1, if_neg w13_2, if_neg w13_3, if_neg w13_4, if_neg w13_5, if_neg w13_6, if_neg w13_7, if_neg w13_8, if_pos w13_9, if_neg c192_7]) (by simp only [h_L_acts, if_neg w13_0, if_neg w13_1, if_neg w13_2, if_neg w13_3, if_neg w13_4, if_neg w13_5, if_neg w13_6, if_neg w13_7, if_neg w13_8, if_pos w13_9, if_neg c192_7])
                      · refine lv_aload_n hx hb dL_acts_195 rfl (lv_at hl 2 rfl) ?_
                        refine lv_iconst (v := nI 0) hx hb dL_acts_196 (by decide) ?_
                        refine lv_iload_n hx hb dL_acts_197 rfl (lv_at hl 1 rfl) ?_
                        refine lv_iconst (v := nI 2) hx hb dL_acts_198 (by decide) ?_
                        refine lv_idiv hx hb dL_acts_199 (by decide) ?_
                        refine lv_bipush (v := nI 21) hx hb dL_acts_200 (by decide) ?_
                        refine lv_irem hx hb dL_acts_202 (by decide) ?_
                        refine z_cVi (As := [.int (nI 0), .int (((nI (j / 32)) / (nI 2)) - ((nI (j / 32)) / (nI 2)) / (nI 21) * (nI 21))]) (rest := []) ⟨hx, hb, hml, hown, hts⟩ (ct_set2 l D a ca hJ Z (nI 0) (((nI (j / 32)) / (nI 2)) - ((nI (j / 32)) / (nI 2)) / (nI 21) * (nI 21)) hV.2.2.1 hV.2.2.2.1 hV.1) (cwV 2 hts gL_acts_X6_set rfl rfl rfl (by decide +kernel) ⟨Nat.le_of_ble_eq_true rfl, Nat.le_of_ble_eq_true rfl⟩) hK hP hS (va_recv (ci := 6) hK.1 hP rfl zW_b) rfl hl.1 rfl (Nat.le_of_ble_eq_true rfl) dL_acts_203 ⟨Nat.zero_le _, Nat.zero_le _⟩ (fun H locs hP hS => ?_)
                        refine lv_goto (tgt := 219) hx hb dL_acts_206 (by decide) ?_
                        exact z_reti hx hb hr hlk rfl hP hS dL_acts_219 (by simp only [g_L_acts, if_neg w13_0, if_neg w13_1, if_neg w13_2, if_neg w13_3, if_neg w13_4, if_neg w13_5, if_neg w13_6, if_neg w13_7, if_neg w13_8, if_pos w13_9, if_pos c192_7]) (by simp only [h_L_acts, if_neg w13_0, if_neg w13_1, if_neg w13_2, if_neg w13_3, if_neg w13_4, if_neg w13_5, if_neg w13_6, if_neg w13_7, if_neg w13_8, if_pos w13_9, if_pos c192_7])
                    · by_cases w13_10 : (nI (j % 32)) = nI 10
                      · refine lv_tableIn (tgt := 220) (off := 207) hx hb dL_acts_13 (by rw [w13_10]; decide) (by rw [w13_10]; decide) (by rw [w13_10]; rfl) (by decide) ?_
                        refine lv_aload_n hx hb dL_acts_220 rfl (lv_at hl 2 rfl) ?_
                        refine lv_iload_n hx hb dL_acts_221 rfl (lv_at hl 1 rfl) ?_
                        refine lv_bipush (v := nI 48) hx hb dL_acts_222 (by decide) ?_
                        refine lv_irem hx hb dL_acts_224 (by decide) ?_
                        refine lv_iload_n hx hb dL_acts_225 rfl (lv_at hl 1 rfl) ?_
                        refine lv_bipush (v := nI 48) hx hb dL_acts_226 (by decide) ?_
                        refine lv_idiv hx hb dL_acts_228 (by decide) ?_
                        refine lv_iconst (v := nI 3) hx hb dL_acts_229 (by decide) ?_
                        refine lv_irem hx hb dL_acts_230 (by decide) ?_
                        refine lv_if_le (tgt := 238) hx hb dL_acts_231 (by decide) (fun c231_8 => ?_) (fun c231_8 => ?_)
                        · refine lv_iconst (v := nI 0) hx hb dL_acts_238 (by decide) ?_
                          refine z_cVi (As := [.int ((nI (j / 32)) - (nI (j / 32)) / (nI 48) * (nI 48)), .int (nI 0)]) (rest := []) ⟨hx, hb, hml, hown, hts⟩ (ct_setBreakpoint2 l D a ca hJ Z ((nI (j / 32)) - (nI (j / 32)) / (nI 48) * (nI 48)) (nI 0) hV.2.2.1 hV.2.2.2.1 hV.1) (cwV 2 hts gL_acts_X6_setBreakpoint rfl rfl rfl (by decide +kernel) ⟨Nat.le_of_ble_eq_true rfl, Nat.le_of_ble_eq_true rfl⟩) hK hP hS (va_recv (ci := 6) hK.1 hP rfl zW_b) rfl hl.1 rfl (Nat.le_of_ble_eq_true rfl) dL_acts_239 ⟨Nat.zero_le _, Nat.zero_le _⟩ (fun H locs hP hS => ?_)
                          exact z_reti hx hb hr hlk rfl hP hS dL_acts_242 (by simp only [g_L_acts, if_neg w13_0, if_neg w13_1, if_neg w13_2, if_neg w13_3, if_neg w13_4, if_neg w13_5, if_neg w13_6, if_neg w13_7, if_neg w13_8, if_neg w13_9, if_pos w13_10, if_pos c231_8]) (by simp only [h_L_acts, if_neg w13_0, if_neg w13_1, if_neg w13_2, if_neg w13_3, if_neg w13_4, if_neg w13_5, if_neg w13_6, if_neg w13_7, if_neg w13_8, if_neg w13_9, if_pos w13_10, if_pos c231_8])
                        · refine lv_iconst (v := nI 1) hx hb dL_acts_234 (by decide) ?_
                          refine lv_goto (tgt := 239) hx hb dL_acts_235 (by decide) ?_
                          refine z_cVi (As := [.int ((nI (j / 32)) - (nI (j / 32)) / (nI 48) * (nI 48)), .int (nI 1)]) (rest := []) ⟨hx, hb, hml, hown, hts⟩ (ct_setBreakpoint2 l D a ca hJ Z ((nI (j / 32)) - (nI (j / 32)) / (nI 48) * (nI 48)) (nI 1) hV.2.2.1 hV.2.2.2.1 hV.1) (cwV 2 hts gL_acts_X6_setBreakpoint rfl rfl rfl (by decide +kernel) ⟨Nat.le_of_ble_eq_true rfl, Nat.le_of_ble_eq_true rfl⟩) hK hP hS (va_recv (ci := 6) hK.1 hP rfl zW_b) rfl hl.1 rfl (Nat.le_of_ble_eq_true rfl) dL_acts_239 ⟨Nat.zero_le _, Nat.zero_le _⟩ (fun H locs hP hS => ?_)
                          exact z_reti hx hb hr hlk rfl hP hS dL_acts_242 (by simp only [g_L_acts, if_neg w13_0, if_neg w13_1, if_neg w13_2, if_neg w13_3, if_neg w13_4, if_neg w13_5, if_neg w13_6, if_neg w13_7, if_neg w13_8, if_neg w13_9, if_pos w13_10, if_neg c231_8]) (by simp only [h_L_acts, if_neg w13_0, if_neg w13_1, if_neg w13_2, if_neg w13_3, if_neg w13_4, if_neg w13_5, if_neg w13_6, if_neg w13_7, if_neg w13_8, if_neg w13_9, if_pos w13_10, if_neg c231_8])
                      · by_cases w13_11 : (nI (j % 32)) = nI 11
                        · refine lv_tableIn (tgt := 243) (off := 230) hx hb dL_acts_13 (by rw [w13_11]; decide) (by rw [w13_11]; decide) (by rw [w13_11]; rfl) (by decide) ?_
                          refine lv_aload_n hx hb dL_acts_243 rfl (lv_at hl 2 rfl) ?_
                          refine z_cVi (As := []) (rest := []) ⟨hx, hb, hml, hown, hts⟩ (ct_undo2 l D a ca hJ Z hV.2.2.1 hV.2.2.2.1 hV.1) (cwV 0 hts gL_acts_X6_undo rfl rfl rfl (by decide +kernel) ⟨Nat.le_of_ble_eq_true rfl, Nat.le_of_ble_eq_true rfl⟩) hK hP hS (va_recv (ci := 6) hK.1 hP rfl zW_b) rfl hl.1 rfl (Nat.le_of_ble_eq_true rfl) dL_acts_244 ⟨Nat.zero_le _, Nat.zero_le _⟩ (fun H locs hP hS => ?_)
                          exact z_reti hx hb hr hlk rfl hP hS dL_acts_247 (by simp only [g_L_acts, if_neg w13_0, if_neg w13_1, if_neg w13_2, if_neg w13_3, if_neg w13_4, if_neg w13_5, if_neg w13_6, if_neg w13_7, if_neg w13_8, if_neg w13_9, if_neg w13_10, if_pos w13_11]) (by simp only [h_L_acts, if_neg w13_0, if_neg w13_1, if_neg w13_2, if_neg w13_3, if_neg w13_4, if_neg w13_5, if_neg w13_6, if_neg w13_7, if_neg w13_8, if_neg w13_9, if_neg w13_10, if_pos w13_11])
                        · by_cases w13_12 : (nI (j % 32)) = nI 12
                          · refine lv_tableIn (tgt := 248) (off := 235) hx hb dL_acts_13 (by rw [w13_12]; decide) (by rw [w13_12]; decide) (by rw [w13_12]; rfl) (by decide) ?_
                            exact z_toi (r2 := (aA (nI (1 + j / 32 % 4)) (nI (j / 32)) Z).1) (Z2 := (aA (nI (1 + j / 32 % 4)) (nI (j / 32)) Z).2) (by simp only [g_L_acts, if_neg w13_0, if_neg w13_1, if_neg w13_2, if_neg w13_3, if_neg w13_4, if_neg w13_5, if_neg w13_6, if_neg w13_7, if_neg w13_8, if_neg w13_9, if_neg w13_10, if_neg w13_11, if_pos w13_12]) (by simp only [h_L_acts, if_neg w13_0, if_neg w13_1, if_neg w13_2, if_neg w13_3, if_neg w13_4, if_neg w13_5, if_neg w13_6, if_neg w13_7, if_neg w13_8, if_neg w13_9, if_neg w13_10, if_neg w13_11, if_pos w13_12]) (k248 _ (lv_sub hl [0, 1, 2, 3] rfl))
                          · by_cases w13_13 : (nI (j % 32)) = nI 13
                            · refine lv_tableIn (tgt := 248) (off := 235) hx hb dL_acts_13 (by rw [w13_13]; decide) (by rw [w13_13]; decide) (by rw [w13_13]; rfl) (by decide) ?_
                              exact z_toi (r2 := (aA (nI (1 + j / 32 % 4)) (nI (j / 32)) Z).1) (Z2 := (aA (nI (1 + j / 32 % 4)) (nI (j / 32)) Z).2) (by simp only [g_L_acts, if_neg w13_0, if_neg w13_1, if_neg w13_2, if_neg w13_3, if_neg w13_4, if_neg w13_5, if_neg w13_6, if_neg w13_7, if_neg w13_8, if_neg w13_9, if_neg w13_10, if_neg w13_11, if_neg w13_12, if_pos w13_13]) (by simp only [h_L_acts, if_neg w13_0, if_neg w13_1, if_neg w13_2, if_neg w13_3, if_neg w13_4, if_neg w13_5, if_neg w13_6, if_neg w13_7, if_neg w13_8, if_neg w13_9, if_neg w13_10, if_neg w13_11, if_neg w13_12, if_pos w13_13]) (k248 _ (lv_sub hl [0, 1, 2, 3] rfl))
                            · by_cases w13_14 : (nI (j % 32)) = nI 14
                              · refine lv_tableIn (tgt := 248) (off := 235) hx hb dL_acts_13 (by rw [w13_14]; decide) (by rw [w13_14]; decide) (by rw [w13_14]; rfl) (by decide) ?_
                                exact z_toi (r2 := (aA (nI (1 + j / 32 % 4)) (nI (j / 32)) Z).1) (Z2 := (aA (nI (1 + j / 32 % 4)) (nI (j / 32)) Z).2) (by simp only [g_L_acts, if_neg w13_0, if_neg w13_1, if_neg w13_2, if_neg w13_3, if_neg w13_4, if_neg w13_5, if_neg w13_6, if_neg w13_7, if_neg w13_8, if_neg w13_9, if_neg w13_10, if_neg w13_11, if_neg w13_12, if_neg w13_13, if_pos w13_14]) (by simp only [h_L_acts, if_neg w13_0, if_neg w13_1, if_neg w13_2, if_neg w13_3, if_neg w13_4, if_neg w13_5, if_neg w13_6, if_neg w13_7, if_neg w13_8, if_neg w13_9, if_neg w13_10, if_neg w13_11, if_neg w13_12, if_neg w13_13, if_pos w13_14]) (k248 _ (lv_sub hl [0, 1, 2, 3] rfl))
                              · by_cases w13_15 : (nI (j % 32)) = nI 15
                                · refine lv_tableIn (tgt := 248) (off := 235) hx hb dL_acts_13 (by rw [w13_15]; decide) (by rw [w13_15]; decide) (by rw [w13_15]; rfl) (by decide) ?_
                                  exact z_toi (r2 := (aA (nI (1 + j / 32 % 4)) (nI (j / 32)) Z).1) (Z2 := (aA (nI (1 + j / 32 % 4)) (nI (j / 32)) Z).2) (by simp only [g_L_acts, if_neg w13_0, if_neg w13_1, if_neg w13_2, if_neg w13_3, if_neg w13_4, if_neg w13_5, if_neg w13_6, if_neg w13_7, if_neg w13_8, if_neg w13_9, if_neg w13_10, if_neg w13_11, if_neg w13_12, if_neg w13_13, if_neg w13_14, if_pos w13_15]) (by simp only [h_L_acts, if_neg w13_0, if_neg w13_1, if_neg w13_2, if_neg w13_3, if_neg w13_4, if_neg w13_5, if_neg w13_6, if_neg w13_7, if_neg w13_8, if_neg w13_9, if_neg w13_10, if_neg w13_11, if_neg w13_12, if_neg w13_13, if_neg w13_14, if_pos w13_15]) (k248 _ (lv_sub hl [0, 1, 2, 3] rfl))
                                · by_cases w13_16 : (nI (j % 32)) = nI 16
                                  · refine lv_tableIn (tgt := 248) (off := 235) hx hb dL_acts_13 (by rw [w13_16]; decide) (by rw [w13_16]; decide) (by rw [w13_16]; rfl) (by decide) ?_
                                    exact z_toi (r2 := (aA (nI (1 + j / 32 % 4)) (nI (j / 32)) Z).1) (Z2 := (aA (nI (1 + j / 32 % 4)) (nI (j / 32)) Z).2) (by simp only [g_L_acts, if_neg w13_0, if_neg w13_1, if_neg w13_2, if_neg w13_3, if_neg w13_4, if_neg w13_5, if_neg w13_6, if_neg w13_7, if_neg w13_8, if_neg w13_9, if_neg w13_10, if_neg w13_11, if_neg w13_12, if_neg w13_13, if_neg w13_14, if_neg w13_15, if_pos w13_16]) (by simp only [h_L_acts, if_neg w13_0, if_neg w13_1, if_neg w13_2, if_neg w13_3, if_neg w13_4, if_neg w13_5, if_neg w13_6, if_neg w13_7, if_neg w13_8, if_neg w13_9, if_neg w13_10, if_neg w13_11, if_neg w13_12, if_neg w13_13, if_neg w13_14, if_neg w13_15, if_pos w13_16]) (k248 _ (lv_sub hl [0, 1, 2, 3] rfl))
                                  · have x0 := lv_neT w13_0 (k := nI 0) (a := 0) (by decide)
                                    have x1 := lv_neT w13_1 (k := nI 1) (a := 1) (by decide)
                                    have x2 := lv_neT w13_2 (k := nI 2) (a := 2) (by decide)
                                    have x3 := lv_neT w13_3 (k := nI 3) (a := 3) (by decide)
                                    have x4 := lv_neT w13_4 (k := nI 4) (a := 4) (by decide)
                                    have x5 := lv_neT w13_5 (k := nI 5) (a := 5) (by decide)
                                    have x6 := lv_neT w13_6 (k := nI 6) (a := 6) (by decide)
                                    have x7 := lv_neT w13_7 (k := nI 7) (a := 7) (by decide)
                                    have x8 := lv_neT w13_8 (k := nI 8) (a := 8) (by decide)
                                    have x9 := lv_neT w13_9 (k := nI 9) (a := 9) (by decide)
                                    have x10 := lv_neT w13_10 (k := nI 10) (a := 10) (by decide)
                                    have x11 := lv_neT w13_11 (k := nI 11) (a := 11) (by decide)
                                    have x12 := lv_neT w13_12 (k := nI 12) (a := 12) (by decide)
                                    have x13 := lv_neT w13_13 (k := nI 13) (a := 13) (by decide)
                                    have x14 := lv_neT w13_14 (k := nI 14) (a := 14) (by decide)
                                    have x15 := lv_neT w13_15 (k := nI 15) (a := 15) (by decide)
                                    have x16 := lv_neT w13_16 (k := nI 16) (a := 16) (by decide)
                                    refine lv_tableOut (tgt := 408) hx hb dL_acts_13 (by omega) (by decide) ?_
                                    refine lv_aload_n hx hb dL_acts_408 rfl (lv_at hl 2 rfl) ?_
                                    refine lv_iconst (v := nI 1) hx hb dL_acts_409 (by decide) ?_
                                    refine lv_iload_n hx hb dL_acts_410 rfl (lv_at hl 1 rfl) ?_
                                    refine lv_iload_n hx hb dL_acts_411 rfl (lv_at hl 1 rfl) ?_
                                    refine lv_iconst (v := nI 5) hx hb dL_acts_412 (by decide) ?_
                                    refine lv_irem hx hb dL_acts_413 (by decide) ?_
                                    refine lv_if_ne (tgt := 422) hx hb dL_acts_414 (by decide) (fun c414_9 => ?_) (fun c414_9 => ?_)
                                    · refine lv_bipush (v := nI 6) hx hb dL_acts_422 (by decide) ?_
                                      refine lv_irem hx hb dL_acts_424 (by decide) ?_
                                      refine lv_iadd hx hb dL_acts_425 ?_
                                      refine z_cVi (As := [.int ((nI 1) + ((nI (j / 32)) - (nI (j / 32)) / (nI 6) * (nI 6)))]) (rest := []) ⟨hx, hb, hml, hown, hts⟩ (ct_run2 l D a ca hJ Z ((nI 1) + ((nI (j / 32)) - (nI (j / 32)) / (nI 6) * (nI 6))) hV.2.2.1 hV.2.2.2.1 hV.1 (ivp_z hV)) (cwV 1 hts gL_acts_X6_run rfl rfl rfl (by decide +kernel) ⟨Nat.le_of_ble_eq_true rfl, Nat.le_of_ble_eq_true rfl⟩) hK hP hS (va_recv (ci := 6) hK.1 hP rfl zW_b) rfl hl.1 rfl (Nat.le_of_ble_eq_true rfl) dL_acts_426 ⟨Nat.zero_le _, Nat.zero_le _⟩ (fun H locs hP hS => ?_)
                                      exact z_reti hx hb hr hlk rfl hP hS dL_acts_429 (by simp only [g_L_acts, if_neg w13_0, if_neg w13_1, if_neg w13_2, if_neg w13_3, if_neg w13_4, if_neg w13_5, if_neg w13_6, if_neg w13_7, if_neg w13_8, if_neg w13_9, if_neg w13_10, if_neg w13_11, if_neg w13_12, if_neg w13_13, if_neg w13_14, if_neg w13_15, if_neg w13_16, if_neg c414_9]) (by simp only [h_L_acts, if_neg w13_0, if_neg w13_1, if_neg w13_2, if_neg w13_3, if_neg w13_4, if_neg w13_5, if_neg w13_6, if_neg w13_7, if_neg w13_8, if_neg w13_9, if_neg w13_10, if_neg w13_11, if_neg w13_12, if_neg w13_13, if_neg w13_14, if_neg w13_15, if_neg w13_16, if_neg c414_9])
                                    · refine lv_bipush (v := nI 60) hx hb dL_acts_417 (by decide) ?_
                                      refine lv_goto (tgt := 424) hx hb dL_acts_419 (by decide) ?_
                                      refine lv_irem hx hb dL_acts_424 (by decide) ?_
                                      refine lv_iadd hx hb dL_acts_425 ?_
                                      refine z_cVi (As := [.int ((nI 1) + ((nI (j / 32)) - (nI (j / 32)) / (nI 60) * (nI 60)))]) (rest := []) ⟨hx, hb, hml, hown, hts⟩ (ct_run2 l D a ca hJ Z ((nI 1) + ((nI (j / 32)) - (nI (j / 32)) / (nI 60) * (nI 60))) hV.2.2.1 hV.2.2.2.1 hV.1 (ivp_z hV)) (cwV 1 hts gL_acts_X6_run rfl rfl rfl (by decide +kernel) ⟨Nat.le_of_ble_eq_true rfl, Nat.le_of_ble_eq_true rfl⟩) hK hP hS (va_recv (ci := 6) hK.1 hP rfl zW_b) rfl hl.1 rfl (Nat.le_of_ble_eq_true rfl) dL_acts_426 ⟨Nat.zero_le _, Nat.zero_le _⟩ (fun H locs hP hS => ?_)
                                      exact z_reti hx hb hr hlk rfl hP hS dL_acts_429 (by simp only [g_L_acts, if_neg w13_0, if_neg w13_1, if_neg w13_2, if_neg w13_3, if_neg w13_4, if_neg w13_5, if_neg w13_6, if_neg w13_7, if_neg w13_8, if_neg w13_9, if_neg w13_10, if_neg w13_11, if_neg w13_12, if_neg w13_13, if_neg w13_14, if_neg w13_15, if_neg w13_16, if_pos c414_9]) (by simp only [h_L_acts, if_neg w13_0, if_neg w13_1, if_neg w13_2, if_neg w13_3, if_neg w13_4, if_neg w13_5, if_neg w13_6, if_neg w13_7, if_neg w13_8, if_neg w13_9, if_neg w13_10, if_neg w13_11, if_neg w13_12, if_neg w13_13, if_neg w13_14, if_neg w13_15, if_neg w13_16, if_pos c414_9])
