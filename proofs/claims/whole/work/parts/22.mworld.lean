/-! the reference's row of 341 numbers, told by kind and place -/
def zfl (j : Nat) : Nat × Nat :=
  if j < 56 then (if j % 14 = 0 then (0, j / 14) else if j % 14 = 1 then (1, j / 14) else if j % 14 < 6 then (j / 14 + 20, j % 14 - 2) else if j % 14 = 6 then (2, j / 14) else if j % 14 = 7 then (3, j / 14) else if j % 14 = 8 then (4, j / 14) else if j % 14 = 9 then (5, j / 14) else if j % 14 = 10 then (8, j / 14) else if j % 14 = 11 then (9, j / 14) else if j % 14 = 12 then (6, j / 14) else (7, j / 14))
  else if j < 200 then (if (j - 56) % 3 = 0 then (10, (j - 56) / 3) else if (j - 56) % 3 = 1 then (11, 2 * ((j - 56) / 3)) else (11, 2 * ((j - 56) / 3) + 1))
  else if j < 232 then (13, j - 200) else if j = 232 then (16, 0) else if j = 233 then (17, 0) else if j < 242 then (14, j - 234) else if j < 244 then (15, j - 242)
  else if j < 292 then (12, j - 244) else if j = 292 then (18, 1) else (19, j - 293)
def zlf (c i : Nat) : Nat :=
  if c = 0 then 14 * i else if c = 1 then 14 * i + 1 else if c = 2 then 14 * i + 6 else if c = 3 then 14 * i + 7 else if c = 4 then 14 * i + 8 else if c = 5 then 14 * i + 9 else if c = 8 then 14 * i + 10 else if c = 9 then 14 * i + 11 else if c = 6 then 14 * i + 12 else if c = 7 then 14 * i + 13
  else if c = 10 then 56 + 3 * i else if c = 11 then 56 + 3 * (i / 2) + 1 + i % 2 else if c = 13 then 200 + i else if c = 16 then 232 else if c = 17 then 233 else if c = 14 then 234 + i else if c = 15 then 242 + i else if c = 12 then 244 + i else if c = 18 then 292 else if c = 19 then 293 + i else 14 * (c - 20) + 2 + i
theorem zlf_zfl (j : Nat) : zlf (zfl j).1 (zfl j).2 = j := by
  unfold zfl
  repeat' split
  all_goals (simp [zlf] <;> omega)
def zen (N : zM) : Nat → Int32 := fun j => N (zfl j).1 (zfl j).2
def zde (f : Nat → Int32) : zM := fun c i => f (zlf c i)
theorem zen_zde (f : Nat → Int32) : zen (zde f) = f := by
  funext j
  show f (zlf (zfl j).1 (zfl j).2) = f j
  rw [zlf_zfl]
theorem zen_of {N : zM} {j c i : Nat} (h : zfl j = (c, i)) : zen N j = N c i := by
  unfold zen
  rw [h]
theorem zen_u {N : zM} {j c i : Nat} {x : Int32} (h : zfl j = (c, i)) : upd (zen N) j x = zen (zu N c i x) := by
  funext q
  by_cases hq : q = j
  · subst hq
    rw [pk_us, zen_of h, zu_s]
  · rw [pk_un hq]
    unfold zen
    by_cases h1 : (zfl q).1 = c
    · have h2 : (zfl q).2 ≠ i := by
        intro e
        apply hq
        have e1 := zlf_zfl q
        have e2 := zlf_zfl j
        rw [h] at e2
        rw [h1, e] at e1
        exact e1.symm.trans e2
      rw [h1, zu_i _ _ _ h2]
    · rw [zu_c _ _ _ h1]
theorem zf_t0 {t : Nat} (ht : t < 4) : zfl (14 * t + 0) = (0, t) := by
  unfold zfl
  rw [if_pos (by omega), show (14 * t + 0) % 14 = 0 by omega, show (14 * t + 0) / 14 = t by omega]
  rfl
theorem zf_t1 {t : Nat} (ht : t < 4) : zfl (14 * t + 1) = (1, t) := by
  unfold zfl
  rw [if_pos (by omega), show (14 * t + 1) % 14 = 1 by omega, show (14 * t + 1) / 14 = t by omega]
  rfl
theorem zf_t6 {t : Nat} (ht : t < 4) : zfl (14 * t + 6) = (2, t) := by
  unfold zfl
  rw [if_pos (by omega), show (14 * t + 6) % 14 = 6 by omega, show (14 * t + 6) / 14 = t by omega]
  rfl
theorem zf_t7 {t : Nat} (ht : t < 4) : zfl (14 * t + 7) = (3, t) := by
  unfold zfl
  rw [if_pos (by omega), show (14 * t + 7) % 14 = 7 by omega, show (14 * t + 7) / 14 = t by omega]
  rfl
theorem zf_t8 {t : Nat} (ht : t < 4) : zfl (14 * t + 8) = (4, t) := by
  unfold zfl
  rw [if_pos (by omega), show (14 * t + 8) % 14 = 8 by omega, show (14 * t + 8) / 14 = t by omega]
  rfl
theorem zf_t9 {t : Nat} (ht : t < 4) : zfl (14 * t + 9) = (5, t) := by
  unfold zfl
  rw [if_pos (by omega), show (14 * t + 9) % 14 = 9 by omega, show (14 * t + 9) / 14 = t by omega]
  rfl
theorem zf_t10 {t : Nat} (ht : t < 4) : zfl (14 * t + 10) = (8, t) := by
  unfold zfl
  rw [if_pos (by omega), show (14 * t + 10) % 14 = 10 by omega, show (14 * t + 10) / 14 = t by omega]
  rfl
theorem zf_t11 {t : Nat} (ht : t < 4) : zfl (14 * t + 11) = (9, t) := by
  unfold zfl
  rw [if_pos (by omega), show (14 * t + 11) % 14 = 11 by omega, show (14 * t + 11) / 14 = t by omega]
  rfl
theorem zf_t12 {t : Nat} (ht : t < 4) : zfl (14 * t + 12) = (6, t) := by
  unfold zfl
  rw [if_pos (by omega), show (14 * t + 12) % 14 = 12 by omega, show (14 * t + 12) / 14 = t by omega]
  rfl
theorem zf_t13 {t : Nat} (ht : t < 4) : zfl (14 * t + 13) = (7, t) := by
  unfold zfl
  rw [if_pos (by omega), show (14 * t + 13) % 14 = 13 by omega, show (14 * t + 13) / 14 = t by omega]
  rfl
theorem zf_rg {t r : Nat} (ht : t < 4) (hr : r < 4) : zfl (14 * t + (2 + r)) = (t + 20, r) := by
  unfold zfl
  rw [if_pos (by omega), show (14 * t + (2 + r)) % 14 = 2 + r by omega, show (14 * t + (2 + r)) / 14 = t by omega, if_neg (by omega), if_neg (by omega), if_pos (by omega), show 2 + r - 2 = r by omega]
theorem zf_op {p : Nat} (hp : p < 48) : zfl (56 + 3 * p) = (10, p) := by
  unfold zfl
  rw [if_neg (by omega), if_pos (by omega), if_pos (by omega), show (56 + 3 * p - 56) / 3 = p by omega]
theorem zf_o1 {p : Nat} (hp : p < 48) : zfl (56 + 3 * p + 1) = (11, 2 * p) := by
  unfold zfl
  rw [if_neg (by omega), if_pos (by omega), if_neg (by omega), if_pos (by omega), show (56 + 3 * p + 1 - 56) / 3 = p by omega]
theorem zf_o2 {p : Nat} (hp : p < 48) : zfl (56 + 3 * p + 2) = (11, 2 * p + 1) := by
  unfold zfl
  rw [if_neg (by omega), if_pos (by omega), if_neg (by omega), if_neg (by omega), show (56 + 3 * p + 2 - 56) / 3 = p by omega]
theorem zf_wd {w : Nat} (hw : w < 32) : zfl (200 + w) = (13, w) := by
  unfold zfl
  rw [if_neg (by omega), if_neg (by omega), if_pos (by omega), show 200 + w - 200 = w by omega]
theorem zf_sl {w : Nat} (hw : w < 8) : zfl (234 + w) = (14, w) := by
  unfold zfl
  rw [if_neg (by omega), if_neg (by omega), if_neg (by omega), if_neg (by omega), if_neg (by omega), if_pos (by omega), show 234 + w - 234 = w by omega]
theorem zf_se {w : Nat} (hw : w < 2) : zfl (242 + w) = (15, w) := by
  unfold zfl
  rw [if_neg (by omega), if_neg (by omega), if_neg (by omega), if_neg (by omega), if_neg (by omega), if_neg (by omega), if_pos (by omega), show 242 + w - 242 = w by omega]
theorem zf_bk {w : Nat} (hw : w < 48) : zfl (244 + w) = (12, w) := by
  unfold zfl
  rw [if_neg (by omega), if_neg (by omega), if_neg (by omega), if_neg (by omega), if_neg (by omega), if_neg (by omega), if_neg (by omega), if_pos (by omega), show 244 + w - 244 = w by omega]
theorem zf_pt (w : Nat) : zfl (293 + w) = (19, w) := by
  unfold zfl
  rw [if_neg (by omega), if_neg (by omega), if_neg (by omega), if_neg (by omega), if_neg (by omega), if_neg (by omega), if_neg (by omega), if_neg (by omega), if_neg (by omega), show 293 + w - 293 = w by omega]
theorem zf_200 : zfl 200 = (13, 0) := by decide
theorem zf_232 : zfl 232 = (16, 0) := by decide
theorem zf_233 : zfl 233 = (17, 0) := by decide
theorem zf_242 : zfl 242 = (15, 0) := by decide
theorem zf_243 : zfl 243 = (15, 1) := by decide
theorem zf_292 : zfl 292 = (18, 1) := by decide
theorem zf_293 : zfl 293 = (19, 0) := by decide
theorem zf_294 : zfl 294 = (19, 1) := by decide
theorem zf_295 : zfl 295 = (19, 2) := by decide
/-! the cells of the reference: its object, then its rows s, aside, past, text -/
abbrev mY : Type := zM × zM × zM × zM
def mOF (a : Nat → Nat) (X : zM) : List Value := [.ref (a 1), .ref (a 2), .ref (a 3), .int (X 0 0), .ref (a 4), .int (X 0 1), .int (X 0 2), .int (X 0 3), .int (X 0 4), .int (X 0 5), .int (X 0 6)]
def mE (a : Nat → Nat) (cI : ClassId) (Y : mY) (i : Nat) : va_E :=
  if i = 0 then .inr (7, mOF a Y.2.2.2) else if i = 1 then .inl (cI, 341, .inl (zen Y.1)) else if i = 2 then .inl (cI, 341, .inl (zen Y.2.1)) else if i = 3 then .inl (cI, 1364, .inl (Y.2.2.1 0)) else .inl (cI, 100, .inl (Y.2.2.2 1))
def mW (a : Nat → Nat) (cI : ClassId) (Y : mY) : va_W := (List.range 5).map (fun i => (a i, mE a cI Y i))
def mA (a : Nat → Nat) : Nat → Prop := fun q => ∃ i, i < 5 ∧ q = a i
def mJ (a : Nat → Nat) : Prop := ∀ i j, i < 5 → j < 5 → a i = a j → i = j
theorem mW_get {a : Nat → Nat} {cI : ClassId} {Y : mY} {i : Nat} (hi : i < 5) : (mW a cI Y)[i]? = some (a i, mE a cI Y i) := by
  simp [mW, hi]
theorem mW_len {a : Nat → Nat} {cI : ClassId} {Y : mY} : (mW a cI Y).length = 5 := by simp [mW]
theorem mW_key {a : Nat → Nat} {cI : ClassId} {Y : mY} : ∀ (k : Nat) (q : Nat × va_E), (mW a cI Y)[k]? = some q → k < 5 ∧ q = (a k, mE a cI Y k) := by
  intro k q h
  by_cases hk : k < 5
  · rw [mW_get hk] at h
    exact ⟨hk, (Option.some.inj h).symm⟩
  · rw [List.getElem?_eq_none (by rw [mW_len]; omega)] at h
    cases h
theorem mD {a : Nat → Nat} (hJ : mJ a) (cI : ClassId) (Y : mY) : va_D (mA a) (mW a cI Y) := by
  refine ⟨fun i j p q hp hq e => ?_, fun k q h => ?_⟩
  · obtain ⟨h1, rfl⟩ := mW_key i p hp
    obtain ⟨h2, rfl⟩ := mW_key j q hq
    exact hJ i j h1 h2 e
  · obtain ⟨h1, rfl⟩ := mW_key k q h
    exact ⟨k, h1, rfl⟩
theorem mW_set {a : Nat → Nat} {cI : ClassId} {Y Y' : mY} {i : Nat} (hi : i < 5) {e : va_E} (h : ∀ j, j < 5 → mE a cI Y' j = if j = i then e else mE a cI Y j) : (mW a cI Y).set i (a i, e) = mW a cI Y' := by
  apply List.ext_getElem?
  intro j
  by_cases hj : j < 5
  · rw [mW_get hj, h j hj]
    by_cases hji : j = i
    · subst hji
      rw [List.getElem?_set_self (by rw [mW_len]; exact hj), if_pos rfl]
    · rw [List.getElem?_set_ne (Ne.symm hji), mW_get hj, if_neg hji]
  · rw [List.getElem?_eq_none (by rw [List.length_set, mW_len]; omega), List.getElem?_eq_none (by rw [mW_len]; omega)]
theorem z5 {P : Nat → Prop} (h0 : P 0) (h1 : P 1) (h2 : P 2) (h3 : P 3) (h4 : P 4) : ∀ j, j < 5 → P j := by
  intro j hj
  match j, hj with
  | 0, _ => exact h0
  | 1, _ => exact h1
  | 2, _ => exact h2
  | 3, _ => exact h3
  | 4, _ => exact h4
  | n + 5, h => exact absurd h (by omega)
theorem m_eq {N N' A A' P P' X X' : zM} (h1 : N = N') (h2 : A = A') (h3 : P = P') (h4 : X = X') : ((N, A, P, X) : mY) = (N', A', P', X') := by
  subst h1
  subst h2
  subst h3
  subst h4
  rfl
theorem mG_O {a : Nat → Nat} {cI : ClassId} {N A P X : zM} : (mW a cI (N, A, P, X))[0]? = some (a 0, .inr (7, mOF a X)) := mW_get (by decide)
theorem mG_s {a : Nat → Nat} {cI : ClassId} {N A P X : zM} : (mW a cI (N, A, P, X))[1]? = some (a 1, .inl (cI, 341, .inl (zen N))) := mW_get (by decide)
theorem mG_as {a : Nat → Nat} {cI : ClassId} {N A P X : zM} : (mW a cI (N, A, P, X))[2]? = some (a 2, .inl (cI, 341, .inl (zen A))) := mW_get (by decide)
theorem mG_pa {a : Nat → Nat} {cI : ClassId} {N A P X : zM} : (mW a cI (N, A, P, X))[3]? = some (a 3, .inl (cI, 1364, .inl (P 0))) := mW_get (by decide)
theorem mG_tx {a : Nat → Nat} {cI : ClassId} {N A P X : zM} : (mW a cI (N, A, P, X))[4]? = some (a 4, .inl (cI, 100, .inl (X 1))) := mW_get (by decide)
theorem mS_s {a : Nat → Nat} {cI : ClassId} {N A P X : zM} {j c i : Nat} {x : Int32} (h : zfl j = (c, i)) : (mW a cI (N, A, P, X)).set 1 (a 1, .inl (cI, 341, .inl (upd (zen N) j x))) = mW a cI (zu N c i x, A, P, X) := by
  rw [zen_u h]
  exact mW_set (by decide) (z5 rfl rfl rfl rfl rfl)
theorem mS_sr {a : Nat → Nat} {cI : ClassId} {N A P X : zM} {f : Nat → Int32} : (mW a cI (N, A, P, X)).set 1 (a 1, .inl (cI, 341, .inl f)) = mW a cI (zde f, A, P, X) := by
  rw [← zen_zde f]
  refine mW_set (by decide) (z5 rfl ?_ rfl rfl rfl)
  show Sum.inl (cI, 341, Sum.inl (zen (zde (zen (zde f))))) = _
  rw [zen_zde]
  rfl
theorem mS_as {a : Nat → Nat} {cI : ClassId} {N A P X : zM} {f : Nat → Int32} : (mW a cI (N, A, P, X)).set 2 (a 2, .inl (cI, 341, .inl f)) = mW a cI (N, zde f, P, X) := by
  rw [← zen_zde f]
  refine mW_set (by decide) (z5 rfl rfl ?_ rfl rfl)
  show Sum.inl (cI, 341, Sum.inl (zen (zde (zen (zde f))))) = _
  rw [zen_zde]
  rfl
theorem mS_pa {a : Nat → Nat} {cI : ClassId} {N A P X : zM} {f : Nat → Int32} : (mW a cI (N, A, P, X)).set 3 (a 3, .inl (cI, 1364, .inl f)) = mW a cI (N, A, zr P 0 f, X) := mW_set (by decide) (z5 rfl rfl rfl rfl rfl)
theorem mS_tx {a : Nat → Nat} {cI : ClassId} {N A P X : zM} {f : Nat → Int32} : (mW a cI (N, A, P, X)).set 4 (a 4, .inl (cI, 100, .inl f)) = mW a cI (N, A, P, zr X 1 f) := mW_set (by decide) (z5 rfl rfl rfl rfl rfl)
theorem mS_O3 {a : Nat → Nat} {cI : ClassId} {N A P X : zM} {x : Int32} : (mW a cI (N, A, P, X)).set 0 (a 0, .inr (7, (mOF a X).set 3 (.int x))) = mW a cI (N, A, P, zu X 0 0 x) := mW_set (by decide) (z5 rfl rfl rfl rfl rfl)
theorem mS_O5 {a : Nat → Nat} {cI : ClassId} {N A P X : zM} {x : Int32} : (mW a cI (N, A, P, X)).set 0 (a 0, .inr (7, (mOF a X).set 5 (.int x))) = mW a cI (N, A, P, zu X 0 1 x) := mW_set (by decide) (z5 rfl rfl rfl rfl rfl)
theorem mS_O6 {a : Nat → Nat} {cI : ClassId} {N A P X : zM} {x : Int32} : (mW a cI (N, A, P, X)).set 0 (a 0, .inr (7, (mOF a X).set 6 (.int x))) = mW a cI (N, A, P, zu X 0 2 x) := mW_set (by decide) (z5 rfl rfl rfl rfl rfl)
theorem mS_O7 {a : Nat → Nat} {cI : ClassId} {N A P X : zM} {x : Int32} : (mW a cI (N, A, P, X)).set 0 (a 0, .inr (7, (mOF a X).set 7 (.int x))) = mW a cI (N, A, P, zu X 0 3 x) := mW_set (by decide) (z5 rfl rfl rfl rfl rfl)
theorem mS_O8 {a : Nat → Nat} {cI : ClassId} {N A P X : zM} {x : Int32} : (mW a cI (N, A, P, X)).set 0 (a 0, .inr (7, (mOF a X).set 8 (.int x))) = mW a cI (N, A, P, zu X 0 4 x) := mW_set (by decide) (z5 rfl rfl rfl rfl rfl)
theorem mS_O9 {a : Nat → Nat} {cI : ClassId} {N A P X : zM} {x : Int32} : (mW a cI (N, A, P, X)).set 0 (a 0, .inr (7, (mOF a X).set 9 (.int x))) = mW a cI (N, A, P, zu X 0 5 x) := mW_set (by decide) (z5 rfl rfl rfl rfl rfl)
theorem mS_O10 {a : Nat → Nat} {cI : ClassId} {N A P X : zM} {x : Int32} : (mW a cI (N, A, P, X)).set 0 (a 0, .inr (7, (mOF a X).set 10 (.int x))) = mW a cI (N, A, P, zu X 0 6 x) := mW_set (by decide) (z5 rfl rfl rfl rfl rfl)
/-- cells that hold the same numbers, place by place, are the same cells -/
theorem mP_congr {D : va_G} {a : Nat → Nat} {cI : ClassId} {N N' A A' P P' X : zM} {H : Heap} (hN : ∀ j, j < 341 → zen N j = zen N' j) (hA : ∀ j, j < 341 → zen A j = zen A' j) (hPp : ∀ j, j < 1364 → P 0 j = P' 0 j) (h : va_P D vwCl (mW a cI (N, A, P, X)) H) : va_P D vwCl (mW a cI (N', A', P', X)) H := by
  have key : ∀ (n : Nat) (f g : Nat → Int32), (∀ j, j < n → f j = g j) → arrV cI n (fun j => .int (f j)) = arrV cI n (fun j => .int (g j)) := by
    intro n f g e
    unfold arrV
    congr 2
    funext j
    exact congrArg Value.int (e j.val j.isLt)
  intro k q hq
  obtain ⟨hk, rfl⟩ := mW_key k q hq
  have h0 := h k _ (mW_get hk)
  revert h0
  refine z5 (P := fun k => va_at D vwCl (a k, mE a cI (N, A, P, X) k) H → va_at D vwCl (a k, mE a cI (N', A', P', X) k) H) ?_ ?_ ?_ ?_ ?_ k hk
  · exact fun h => h
  · intro h0
    show H[a 1]? = some (arrV cI 341 (fun j => .int (zen N' j)))
    rw [← key 341 _ _ hN]
    exact h0
  · intro h0
    show H[a 2]? = some (arrV cI 341 (fun j => .int (zen A' j)))
    rw [← key 341 _ _ hA]
    exact h0
  · intro h0
    show H[a 3]? = some (arrV cI 1364 (fun j => .int (P' 0 j)))
    rw [← key 1364 _ _ hPp]
    exact h0
  · exact fun h => h
def mK (D : va_G) (cI : ClassId) (U : State) : Prop := va_K D vwCl [(cI, .int)] U
theorem mK.warm {D : va_G} {cI : ClassId} {s U : State} (hW : s.WarmedH U.vm) (h : mK D cI s) : mK D cI U := va_K.moved hW.alike h
theorem mK.call {D : va_G} {cI : ClassId} {U : State} {g : JFrame} {mk : MethodId} {a : Array Value} (h : mK D cI U) : mK D cI (U.calling g mk a) := va_K.moved (u := U) (U := U.calling g mk a) (Vm.Alike.refl U.vm) h
def mPre (D : va_G) (a : Nat → Nat) (cI : ClassId) (Z : mY) (U : State) : Prop := va_P D vwCl (mW a cI Z) U.heap ∧ mK D cI U
def mCi (l : Launch) (y : MethodName) (ws : List Cond) (rm : Room) (D : va_G) (a : Nat → Nat) (cI : ClassId) (av : List Value) (Z : mY) (r : Int32) (Z' : mY) : Prop :=
  Met l y ws rm (va_Pc av (mPre D a cI Z)) (va_Qi (fun (r' : Int32) (_ : Unit) => r' = r) (fun _ t => va_P D vwCl (mW a cI Z') t.heap) (mA a)) 0 0 (mA a)
def mCv (l : Launch) (y : MethodName) (ws : List Cond) (rm : Room) (D : va_G) (a : Nat → Nat) (cI : ClassId) (av : List Value) (Z : mY) (Z' : mY) : Prop :=
  Met l y ws rm (va_Pc av (mPre D a cI Z)) (va_Qv (fun (_ : Unit) => True) (fun _ t => va_P D vwCl (mW a cI Z') t.heap) (mA a)) 0 0 (mA a)
abbrev mQi (below : List Frame) (D : va_G) (a : Nat → Nat) (cI : ClassId) (av : List Value) (s : State) (r : Int32) (Z' : mY) : State → Prop :=
  MQ below (va_Qi (fun (r' : Int32) (_ : Unit) => r' = r) (fun _ t => va_P D vwCl (mW a cI Z') t.heap) (mA a)) av.toArray s 0 0 (mA a)
abbrev mQv (below : List Frame) (D : va_G) (a : Nat → Nat) (cI : ClassId) (av : List Value) (s : State) (Z' : mY) : State → Prop :=
  MQ below (va_Qv (fun (_ : Unit) => True) (fun _ t => va_P D vwCl (mW a cI Z') t.heap) (mA a)) av.toArray s 0 0 (mA a)
theorem mBlind {D : va_G} {a : Nat → Nat} {cI : ClassId} {Z : mY} {av : List Value} : FrameBlind (va_Pc av (mPre D a cI Z)) := fun v U g mk q => ⟨q.1, q.2.1, q.2.2.call⟩
section MR
variable {p : Program} {l : Launch} {e : Env} {R : Room} {s : State} {m : MethodId} {args : Array Value} {below : List Frame} {meth : Method} {c : Code} {H : Heap} {locs : List Loc} {cells slots : Nat} {Q : State → Prop}
variable {cc : ByteArray} {pc : Nat} {ls : Array Slot} {rest st0 : List Value} {D : va_G} {a : Nat → Nat} {cI : ClassId} {Z Z' : mY} {H0 : Heap} {av : List Value}
theorem m_ofi {y : MethodName} {ws ws' : List Cond} {rm : Room} {r : Int32} {maxL : Nat} {rt : FieldType} {own : String} (hy : plainName y.cls = true) (hw : ws = Cond.code y cc maxL (some rt) :: ws') (hla : (lg_sl av).length ≤ maxL) (ho : y.cls = own)
    (body : ∀ (p : Program) (e : Env) (s : State) (m : MethodId) (below : List Frame) (meth : Method) (c : Code) (ls : Array Slot), p.tables.exec = Jvm.exec → c.code = cc → meth.sig.returnType = some rt → c.maxLocals = maxL → (∀ w ∈ ws, w.before av.toArray s = true) → s.vm.findClass own = some m.cls → meth.locks = false → lv_has ls maxL (lv_args 0 av) → mK D cI s → va_P D vwCl (mW a cI Z) s.heap → va_S (mA a) s.heap s.heap [] →
      W p l e rm s m av.toArray below meth c s.heap [] 0 0 (mQi below D a cI av s r Z') (F0 m 0 ls [])) : mCi l y ws rm D a cI av Z r Z' := by
  refine Met.ofW (cc := cc) (maxL := maxL) (ret := some rt) hy hw ?_
  intro p e s m args below meth c s₁ B hml hv
  obtain ⟨rfl, hP, hK⟩ := hv
  have hl := lv_entry av (n := maxL) hla
  rw [lg_entry_eq]
  generalize (lg_sl av ++ List.replicate (maxL - (lg_sl av).length) Slot.unset).toArray = ls at hl ⊢
  subst ho
  exact body p e s m below meth c ls B.exec B.bytes B.returns hml (atoms_spec (ws := ws) B.pre) (findClass_of_methodNamed B.named) B.notSynchronized hl hK hP va_S.rf
theorem m_ofv {y : MethodName} {ws ws' : List Cond} {rm : Room} {maxL : Nat} {own : String} (hy : plainName y.cls = true) (hw : ws = Cond.code y cc maxL none :: ws') (hla : (lg_sl av).length ≤ maxL) (ho : y.cls = own)
    (body : ∀ (p : Program) (e : Env) (s : State) (m : MethodId) (below : List Frame) (meth : Method) (c : Code) (ls : Array Slot), p.tables.exec = Jvm.exec → c.code = cc → meth.sig.returnType = none → c.maxLocals = maxL → (∀ w ∈ ws, w.before av.toArray s = true) → s.vm.findClass own = some m.cls → meth.locks = false → lv_has ls maxL (lv_args 0 av) → mK D cI s → va_P D vwCl (mW a cI Z) s.heap → va_S (mA a) s.heap s.heap [] →
      W p l e rm s m av.toArray below meth c s.heap [] 0 0 (mQv below D a cI av s Z') (F0 m 0 ls [])) : mCv l y ws rm D a cI av Z Z' := by
  refine Met.ofW (cc := cc) (maxL := maxL) (ret := none) hy hw ?_
  intro p e s m args below meth c s₁ B hml hv
  obtain ⟨rfl, hP, hK⟩ := hv
  have hl := lv_entry av (n := maxL) hla
  rw [lg_entry_eq]
  generalize (lg_sl av ++ List.replicate (maxL - (lg_sl av).length) Slot.unset).toArray = ls at hl ⊢
  subst ho
  exact body p e s m below meth c ls B.exec B.bytes B.returns hml (atoms_spec (ws := ws) B.pre) (findClass_of_methodNamed B.named) B.notSynchronized hl hK hP va_S.rf
theorem m_reti {rt : FieldType} {v r : Int32} (hx : p.tables.exec = Jvm.exec) (hb : c.code = cc) (hr : meth.sig.returnType = some rt) (hlk : meth.locks = false) (hn : narrow rt (.int v) = .int v) (hP : va_P D vwCl (mW a cI Z) H) (hS : va_S (mA a) s.heap H locs) (hdg : decode cc pc = .ok (.ireturn, 1)) (hv : v = r) (hZ : Z = Z') : W p l e R s m av.toArray below meth c H locs 0 0 (mQi below D a cI av s r Z') (F0 m pc ls [.int v]) := by
  subst hv
  subst hZ
  exact W.zret hx hb hr hn (fun t ht hW => ⟨⟨v, (), rfl, rfl, by show va_P D vwCl (mW a cI Z) t.heap; rw [ht]; exact hP⟩, hS.F ht⟩) hS.2.2 hdg hlk
theorem m_retv (hx : p.tables.exec = Jvm.exec) (hb : c.code = cc) (hr : meth.sig.returnType = none) (hlk : meth.locks = false) (hP : va_P D vwCl (mW a cI Z) H) (hS : va_S (mA a) s.heap H locs) (hdg : decode cc pc = .ok (.return_, 1)) (hZ : Z = Z') : W p l e R s m av.toArray below meth c H locs 0 0 (mQv below D a cI av s Z') (F0 m pc ls []) := by
  subst hZ
  exact W.vret hx hb hr (fun t ht hW => ⟨⟨(), rfl, trivial, by show va_P D vwCl (mW a cI Z) t.heap; rw [ht]; exact hP⟩, hS.F ht⟩) hS.2.2 hdg hlk
theorem m_toi {r r2 : Int32} {Z2 : mY} {g : JFrame} (hr : r = r2) (hZ : Z' = Z2) (kk : W p l e R s m args below meth c H locs cells slots (mQi below D a cI av s r2 Z2) g) : W p l e R s m args below meth c H locs cells slots (mQi below D a cI av s r Z') g := by
  subst hr
  subst hZ
  exact kk
theorem m_tov {Z2 : mY} {g : JFrame} (hZ : Z' = Z2) (kk : W p l e R s m args below meth c H locs cells slots (mQv below D a cI av s Z2) g) : W p l e R s m args below meth c H locs cells slots (mQv below D a cI av s Z') g := by
  subst hZ
  exact kk
theorem m_iald {Z : mY} {q0 b n : Nat} {f : Nat → Int32} (hx : p.tables.exec = Jvm.exec) (hb : c.code = cc) (hK : mK D cI s) (hP : va_P D vwCl (mW a cI Z) H) (he : (mW a cI Z)[q0]? = some (b, .inl (cI, n, .inl f))) {j : Nat} (hj : j < n) (hn : n < 2 ^ 31) (hdg : decode cc pc = .ok (.iaload, 1))
    (kk : W p l e R s m args below meth c H locs cells slots Q (F0 m (pc + 1) ls (.int (f j) :: rest))) : W p l e R s m args below meth c H locs cells slots Q (F0 m pc ls (.int (nI j) :: .ref b :: rest)) :=
  va_iald hx hb hK hP q0 0 he rfl (vp_in_nI hj hn) hdg (by rw [nI_clamp (Nat.lt_trans hj hn)]; exact kk)
theorem m_iast {Z : mY} {q0 b n : Nat} {f : Nat → Int32} {x : Int32} (hx : p.tables.exec = Jvm.exec) (hb : c.code = cc) (hK : mK D cI s) (hP : va_P D vwCl (mW a cI Z) H) (hJ : mJ a) (hS : va_S (mA a) H0 H locs) (he : (mW a cI Z)[q0]? = some (b, .inl (cI, n, .inl f))) {j : Nat} (hj : j < n) (hn : n < 2 ^ 31) (hdg : decode cc pc = .ok (.iastore, 1)) (hset : (mW a cI Z).set q0 (b, .inl (cI, n, .inl (upd f j x))) = mW a cI Z')
    (kk : ∀ (H1 : Heap) (locs1 : List Loc), va_P D vwCl (mW a cI Z') H1 → va_S (mA a) H0 H1 locs1 → W p l e R s m args below meth c H1 locs1 cells slots Q (F0 m (pc + 1) ls rest)) : W p l e R s m args below meth c H locs cells slots Q (F0 m pc ls (.int x :: .int (nI j) :: .ref b :: rest)) := by
  refine va_iast hx hb hK hP (mD hJ cI Z) hS q0 0 he rfl (vp_in_nI hj hn) hdg (fun H1 l1 h1 _ h3 => ?_)
  rw [nI_clamp (Nat.lt_trans hj hn), hset] at h1
  exact kk H1 l1 h1 h3
variable {y : MethodName} {bytes : ByteArray} {maxL nL n index : Nat} {ret : Option FieldType} {ws : List Cond} {rm : Room} {Ts : List Cond} {own C host : String} {b : Addr} {As : List Value} {r : Int32}
theorem m_cVi (S : CallFix p m c cc nL s args Ts own) (hM : mCi l y ws rm D a cI (.ref b :: As) Z r Z') (cw : CallW R s args own C index y bytes maxL ret ws rm 0 0 n) (hK : mK D cI s) (hP : va_P D vwCl (mW a cI Z) H) (hS : va_S (mA a) H0 H locs) (hrv : ∃ cellB : Cell, H[b]? = some cellB ∧ cellB.vm.isStatics = false ∧ s.vm.findClass C = some cellB.cls) (hn : As.length = n) (hsz : ls.size = nL) (hst : st0 = As.reverse ++ .ref b :: rest) (hW : (rest.map fun v => v.category).sum ≤ 8) (hdg : decode cc pc = .ok (.invokevirtual index, 3)) (hf : cells ≤ R.cells ∧ slots ≤ R.slots)
    (kk : ∀ (H1 : Heap) (locs1 : List Loc), va_P D vwCl (mW a cI Z') H1 → va_S (mA a) H0 H1 locs1 → W p l e R s m args below meth c H1 locs1 cells slots Q (F0 m (pc + 3) ls (.int r :: rest))) : W p l e R s m args below meth c H locs cells slots Q (F0 m pc ls st0) :=
  va_calli (va_runV (g := F0 m pc ls st0) S hM cw ⟨mBlind, hrv, fun U hU hW => ⟨rfl, by rw [hU]; exact hP, hK.warm hW⟩⟩ rfl hn hsz hst (lv_room hW) hdg hf) hS (fun _ _ h => h) (fun _ h => h) (fun r' u t H1 l1 ht _ hw hB _ _ hS1 => by subst hw; rw [ht] at hB; exact kk H1 l1 hB hS1)
theorem m_cVv (S : CallFix p m c cc nL s args Ts own) (hM : mCv l y ws rm D a cI (.ref b :: As) Z Z') (cw : CallW R s args own C index y bytes maxL ret ws rm 0 0 n) (hK : mK D cI s) (hP : va_P D vwCl (mW a cI Z) H) (hS : va_S (mA a) H0 H locs) (hrv : ∃ cellB : Cell, H[b]? = some cellB ∧ cellB.vm.isStatics = false ∧ s.vm.findClass C = some cellB.cls) (hn : As.length = n) (hsz : ls.size = nL) (hst : st0 = As.reverse ++ .ref b :: rest) (hW : (rest.map fun v => v.category).sum ≤ 8) (hdg : decode cc pc = .ok (.invokevirtual index, 3)) (hf : cells ≤ R.cells ∧ slots ≤ R.slots)
    (kk : ∀ (H1 : Heap) (locs1 : List Loc), va_P D vwCl (mW a cI Z') H1 → va_S (mA a) H0 H1 locs1 → W p l e R s m args below meth c H1 locs1 cells slots Q (F0 m (pc + 3) ls rest)) : W p l e R s m args below meth c H locs cells slots Q (F0 m pc ls st0) :=
  va_callv (va_runV (g := F0 m pc ls st0) S hM cw ⟨mBlind, hrv, fun U hU hW => ⟨rfl, by rw [hU]; exact hP, hK.warm hW⟩⟩ rfl hn hsz hst (lv_room hW) hdg hf) hS (fun _ _ h => h) (fun _ h => h) (fun u t H1 l1 ht _ _ hB _ _ hS1 => by rw [ht] at hB; exact kk H1 l1 hB hS1)
theorem m_cSi (S : CallFix p m c cc nL s args Ts own) (hM : mCi l y ws rm D a cI As Z r Z') (cw : CallB R s args own index y bytes maxL ret ws rm 0 0 n ∧ (Cond.static y).before args s = true) (hK : mK D cI s) (hP : va_P D vwCl (mW a cI Z) H) (hS : va_S (mA a) H0 H locs) (hn : As.length = n) (hsz : ls.size = nL) (hst : st0 = As.reverse ++ rest) (hW : (rest.map fun v => v.category).sum ≤ 8) (hdg : decode cc pc = .ok (.invokestatic index, 3)) (hf : cells ≤ R.cells ∧ slots ≤ R.slots)
    (kk : ∀ (H1 : Heap) (locs1 : List Loc), va_P D vwCl (mW a cI Z') H1 → va_S (mA a) H0 H1 locs1 → W p l e R s m args below meth c H1 locs1 cells slots Q (F0 m (pc + 3) ls (.int r :: rest))) : W p l e R s m args below meth c H locs cells slots Q (F0 m pc ls st0) :=
  va_calli (va_runS (g := F0 m pc ls st0) S hM cw ⟨mBlind, fun U hU hW => ⟨rfl, by rw [hU]; exact hP, hK.warm hW⟩⟩ rfl hn hsz hst (lv_room hW) hdg hf) hS (fun _ _ h => h) (fun _ h => h) (fun r' u t H1 l1 ht _ hw hB _ _ hS1 => by subst hw; rw [ht] at hB; exact kk H1 l1 hB hS1)
theorem m_cSv (S : CallFix p m c cc nL s args Ts own) (hM : mCv l y ws rm D a cI As Z Z') (cw : CallB R s args own index y bytes maxL ret ws rm 0 0 n ∧ (Cond.static y).before args s = true) (hK : mK D cI s) (hP : va_P D vwCl (mW a cI Z) H) (hS : va_S (mA a) H0 H locs) (hn : As.length = n) (hsz : ls.size = nL) (hst : st0 = As.reverse ++ rest) (hW : (rest.map fun v => v.category).sum ≤ 8) (hdg : decode cc pc = .ok (.invokestatic index, 3)) (hf : cells ≤ R.cells ∧ slots ≤ R.slots)
    (kk : ∀ (H1 : Heap) (locs1 : List Loc), va_P D vwCl (mW a cI Z') H1 → va_S (mA a) H0 H1 locs1 → W p l e R s m args below meth c H1 locs1 cells slots Q (F0 m (pc + 3) ls rest)) : W p l e R s m args below meth c H locs cells slots Q (F0 m pc ls st0) :=
  va_callv (va_runS (g := F0 m pc ls st0) S hM cw ⟨mBlind, fun U hU hW => ⟨rfl, by rw [hU]; exact hP, hK.warm hW⟩⟩ rfl hn hsz hst (lv_room hW) hdg hf) hS (fun _ _ h => h) (fun _ h => h) (fun u t H1 l1 ht _ _ hB _ _ hS1 => by rw [ht] at hB; exact kk H1 l1 hB hS1)
theorem m_nb {v : Int32} (h : v = nI 0 ∨ v = nI 1) : narrow .boolean (.int v) = .int v := by
  rcases h with rfl | rfl
  · first | rfl | decide
  · first | rfl | decide
theorem m_fitb {v : Int32} (h : v = nI 0 ∨ v = nI 1) : fits .boolean (.int v) = true := by
  rcases h with rfl | rfl
  · first | rfl | decide
  · first | rfl | decide
variable {N A P X : zM} {x : Int32}
theorem mgO0 (hx : p.tables.exec = Jvm.exec) (hb : c.code = cc) (hts : ∀ w ∈ Ts, w.before args s = true) (hin : ∀ w ∈ wsX70, w ∈ Ts) (hown : s.vm.findClass own = some m.cls) (hK : mK D cI s) (hP : va_P D vwCl (mW a cI (N, A, P, X)) H) (hl : (Cond.fieldLink own index "BarrelProcessorModel" "s" "[I").before args s = true) (hdg : decode cc pc = .ok (.getfield index, 3)) (kk : W p l e R s m args below meth c H locs cells slots Q (F0 m (pc + 3) ls (.ref (a 1) :: rest))) : W p l e R s m args below meth c H locs cells slots Q (F0 m pc ls (.ref (a 0) :: rest)) :=
  va_get (C := RX7) (T := TX7) (N := 11) hx hb hts hin hown hK hP 0 mG_O (ci := 7) rfl 0 (by decide) hl (fun _ h => h) rfl hdg kk
theorem mgO1 (hx : p.tables.exec = Jvm.exec) (hb : c.code = cc) (hts : ∀ w ∈ Ts, w.before args s = true) (hin : ∀ w ∈ wsX70, w ∈ Ts) (hown : s.vm.findClass own = some m.cls) (hK : mK D cI s) (hP : va_P D vwCl (mW a cI (N, A, P, X)) H) (hl : (Cond.fieldLink own index "BarrelProcessorModel" "aside" "[I").before args s = true) (hdg : decode cc pc = .ok (.getfield index, 3)) (kk : W p l e R s m args below meth c H locs cells slots Q (F0 m (pc + 3) ls (.ref (a 2) :: rest))) : W p l e R s m args below meth c H locs cells slots Q (F0 m pc ls (.ref (a 0) :: rest)) :=
  va_get (C := RX7) (T := TX7) (N := 11) hx hb hts hin hown hK hP 0 mG_O (ci := 7) rfl 1 (by decide) hl (fun _ h => h) rfl hdg kk
theorem mgO2 (hx : p.tables.exec = Jvm.exec) (hb : c.code = cc) (hts : ∀ w ∈ Ts, w.before args s = true) (hin : ∀ w ∈ wsX70, w ∈ Ts) (hown : s.vm.findClass own = some m.cls) (hK : mK D cI s) (hP : va_P D vwCl (mW a cI (N, A, P, X)) H) (hl : (Cond.fieldLink own index "BarrelProcessorModel" "past" "[I").before args s = true) (hdg : decode cc pc = .ok (.getfield index, 3)) (kk : W p l e R s m args below meth c H locs cells slots Q (F0 m (pc + 3) ls (.ref (a 3) :: rest))) : W p l e R s m args below meth c H locs cells slots Q (F0 m pc ls (.ref (a 0) :: rest)) :=
  va_get (C := RX7) (T := TX7) (N := 11) hx hb hts hin hown hK hP 0 mG_O (ci := 7) rfl 2 (by decide) hl (fun _ h => h) rfl hdg kk
theorem mgO3 (hx : p.tables.exec = Jvm.exec) (hb : c.code = cc) (hts : ∀ w ∈ Ts, w.before args s = true) (hin : ∀ w ∈ wsX70, w ∈ Ts) (hown : s.vm.findClass own = some m.cls) (hK : mK D cI s) (hP : va_P D vwCl (mW a cI (N, A, P, X)) H) (hl : (Cond.fieldLink own index "BarrelProcessorModel" "pasts" "I").before args s = true) (hdg : decode cc pc = .ok (.getfield index, 3)) (kk : W p l e R s m args below meth c H locs cells slots Q (F0 m (pc + 3) ls (.int (X 0 0) :: rest))) : W p l e R s m args below meth c H locs cells slots Q (F0 m pc ls (.ref (a 0) :: rest)) :=
  va_get (C := RX7) (T := TX7) (N := 11) hx hb hts hin hown hK hP 0 mG_O (ci := 7) rfl 3 (by decide) hl (fun _ h => h) rfl hdg kk
theorem mgO4 (hx : p.tables.exec = Jvm.exec) (hb : c.code = cc) (hts : ∀ w ∈ Ts, w.before args s = true) (hin : ∀ w ∈ wsX70, w ∈ Ts) (hown : s.vm.findClass own = some m.cls) (hK : mK D cI s) (hP : va_P D vwCl (mW a cI (N, A, P, X)) H) (hl : (Cond.fieldLink own index "BarrelProcessorModel" "text" "[I").before args s = true) (hdg : decode cc pc = .ok (.getfield index, 3)) (kk : W p l e R s m args below meth c H locs cells slots Q (F0 m (pc + 3) ls (.ref (a 4) :: rest))) : W p l e R s m args below meth c H locs cells slots Q (F0 m pc ls (.ref (a 0) :: rest)) :=
  va_get (C := RX7) (T := TX7) (N := 11) hx hb hts hin hown hK hP 0 mG_O (ci := 7) rfl 4 (by decide) hl (fun _ h => h) rfl hdg kk
theorem mgO5 (hx : p.tables.exec = Jvm.exec) (hb : c.code = cc) (hts : ∀ w ∈ Ts, w.before args s = true) (hin : ∀ w ∈ wsX70, w ∈ Ts) (hown : s.vm.findClass own = some m.cls) (hK : mK D cI s) (hP : va_P D vwCl (mW a cI (N, A, P, X)) H) (hl : (Cond.fieldLink own index "BarrelProcessorModel" "length" "I").before args s = true) (hdg : decode cc pc = .ok (.getfield index, 3)) (kk : W p l e R s m args below meth c H locs cells slots Q (F0 m (pc + 3) ls (.int (X 0 1) :: rest))) : W p l e R s m args below meth c H locs cells slots Q (F0 m pc ls (.ref (a 0) :: rest)) :=
  va_get (C := RX7) (T := TX7) (N := 11) hx hb hts hin hown hK hP 0 mG_O (ci := 7) rfl 5 (by decide) hl (fun _ h => h) rfl hdg kk
theorem mgO6 (hx : p.tables.exec = Jvm.exec) (hb : c.code = cc) (hts : ∀ w ∈ Ts, w.before args s = true) (hin : ∀ w ∈ wsX70, w ∈ Ts) (hown : s.vm.findClass own = some m.cls) (hK : mK D cI s) (hP : va_P D vwCl (mW a cI (N, A, P, X)) H) (hl : (Cond.fieldLink own index "BarrelProcessorModel" "spot" "I").before args s = true) (hdg : decode cc pc = .ok (.getfield index, 3)) (kk : W p l e R s m args below meth c H locs cells slots Q (F0 m (pc + 3) ls (.int (X 0 2) :: rest))) : W p l e R s m args below meth c H locs cells slots Q (F0 m pc ls (.ref (a 0) :: rest)) :=
  va_get (C := RX7) (T := TX7) (N := 11) hx hb hts hin hown hK hP 0 mG_O (ci := 7) rfl 6 (by decide) hl (fun _ h => h) rfl hdg kk
theorem mgO7 (hx : p.tables.exec = Jvm.exec) (hb : c.code = cc) (hts : ∀ w ∈ Ts, w.before args s = true) (hin : ∀ w ∈ wsX70, w ∈ Ts) (hown : s.vm.findClass own = some m.cls) (hK : mK D cI s) (hP : va_P D vwCl (mW a cI (N, A, P, X)) H) (hl : (Cond.fieldLink own index "BarrelProcessorModel" "isWrong" "Z").before args s = true) (hdg : decode cc pc = .ok (.getfield index, 3)) (kk : W p l e R s m args below meth c H locs cells slots Q (F0 m (pc + 3) ls (.int (X 0 3) :: rest))) : W p l e R s m args below meth c H locs cells slots Q (F0 m pc ls (.ref (a 0) :: rest)) :=
  va_get (C := RX7) (T := TX7) (N := 11) hx hb hts hin hown hK hP 0 mG_O (ci := 7) rfl 7 (by decide) hl (fun _ h => h) rfl hdg kk
theorem mgO8 (hx : p.tables.exec = Jvm.exec) (hb : c.code = cc) (hts : ∀ w ∈ Ts, w.before args s = true) (hin : ∀ w ∈ wsX70, w ∈ Ts) (hown : s.vm.findClass own = some m.cls) (hK : mK D cI s) (hP : va_P D vwCl (mW a cI (N, A, P, X)) H) (hl : (Cond.fieldLink own index "BarrelProcessorModel" "operation" "I").before args s = true) (hdg : decode cc pc = .ok (.getfield index, 3)) (kk : W p l e R s m args below meth c H locs cells slots Q (F0 m (pc + 3) ls (.int (X 0 4) :: rest))) : W p l e R s m args below meth c H locs cells slots Q (F0 m pc ls (.ref (a 0) :: rest)) :=
  va_get (C := RX7) (T := TX7) (N := 11) hx hb hts hin hown hK hP 0 mG_O (ci := 7) rfl 8 (by decide) hl (fun _ h => h) rfl hdg kk
theorem mgO9 (hx : p.tables.exec = Jvm.exec) (hb : c.code = cc) (hts : ∀ w ∈ Ts, w.before args s = true) (hin : ∀ w ∈ wsX70, w ∈ Ts) (hown : s.vm.findClass own = some m.cls) (hK : mK D cI s) (hP : va_P D vwCl (mW a cI (N, A, P, X)) H) (hl : (Cond.fieldLink own index "BarrelProcessorModel" "first" "I").before args s = true) (hdg : decode cc pc = .ok (.getfield index, 3)) (kk : W p l e R s m args below meth c H locs cells slots Q (F0 m (pc + 3) ls (.int (X 0 5) :: rest))) : W p l e R s m args below meth c H locs cells slots Q (F0 m pc ls (.ref (a 0) :: rest)) :=
  va_get (C := RX7) (T := TX7) (N := 11) hx hb hts hin hown hK hP 0 mG_O (ci := 7) rfl 9 (by decide) hl (fun _ h => h) rfl hdg kk
theorem mgO10 (hx : p.tables.exec = Jvm.exec) (hb : c.code = cc) (hts : ∀ w ∈ Ts, w.before args s = true) (hin : ∀ w ∈ wsX70, w ∈ Ts) (hown : s.vm.findClass own = some m.cls) (hK : mK D cI s) (hP : va_P D vwCl (mW a cI (N, A, P, X)) H) (hl : (Cond.fieldLink own index "BarrelProcessorModel" "second" "I").before args s = true) (hdg : decode cc pc = .ok (.getfield index, 3)) (kk : W p l e R s m args below meth c H locs cells slots Q (F0 m (pc + 3) ls (.int (X 0 6) :: rest))) : W p l e R s m args below meth c H locs cells slots Q (F0 m pc ls (.ref (a 0) :: rest)) :=
  va_get (C := RX7) (T := TX7) (N := 11) hx hb hts hin hown hK hP 0 mG_O (ci := 7) rfl 10 (by decide) hl (fun _ h => h) rfl hdg kk
theorem mpO3 (hx : p.tables.exec = Jvm.exec) (hb : c.code = cc) (hts : ∀ w ∈ Ts, w.before args s = true) (hin : ∀ w ∈ wsX70, w ∈ Ts) (hown : s.vm.findClass own = some m.cls) (hK : mK D cI s) (hP : va_P D vwCl (mW a cI (N, A, P, X)) H) (hJ : mJ a) (hS : va_S (mA a) H0 H locs) (hl : (Cond.fieldLink own index "BarrelProcessorModel" "pasts" "I").before args s = true) (hdg : decode cc pc = .ok (.putfield index, 3)) (kk : ∀ (H1 : Heap) (locs1 : List Loc), va_P D vwCl (mW a cI (N, A, P, zu X 0 0 x)) H1 → va_S (mA a) H0 H1 locs1 → W p l e R s m args below meth c H1 locs1 cells slots Q (F0 m (pc + 3) ls rest)) : W p l e R s m args below meth c H locs cells slots Q (F0 m pc ls (.int x :: .ref (a 0) :: rest)) := by
  refine va_put (C := RX7) (T := TX7) (N := 11) hx hb hts hin tyX7 tyX7_ok nmX7 hown hK hP (mD hJ cI _) hS 0 mG_O (ci := 7) rfl 3 (by decide) hl (fun _ h => h) rfl (ty := .int) (by decide +kernel) rfl rfl (Nat.le_of_ble_eq_true rfl) hdg (fun H1 l1 h1 _ h3 => ?_)
  rw [mS_O3] at h1
  exact kk H1 l1 h1 h3
theorem mpO5 (hx : p.tables.exec = Jvm.exec) (hb : c.code = cc) (hts : ∀ w ∈ Ts, w.before args s = true) (hin : ∀ w ∈ wsX70, w ∈ Ts) (hown : s.vm.findClass own = some m.cls) (hK : mK D cI s) (hP : va_P D vwCl (mW a cI (N, A, P, X)) H) (hJ : mJ a) (hS : va_S (mA a) H0 H locs) (hl : (Cond.fieldLink own index "BarrelProcessorModel" "length" "I").before args s = true) (hdg : decode cc pc = .ok (.putfield index, 3)) (kk : ∀ (H1 : Heap) (locs1 : List Loc), va_P D vwCl (mW a cI (N, A, P, zu X 0 1 x)) H1 → va_S (mA a) H0 H1 locs1 → W p l e R s m args below meth c H1 locs1 cells slots Q (F0 m (pc + 3) ls rest)) : W p l e R s m args below meth c H locs cells slots Q (F0 m pc ls (.int x :: .ref (a 0) :: rest)) := by
  refine va_put (C := RX7) (T := TX7) (N := 11) hx hb hts hin tyX7 tyX7_ok nmX7 hown hK hP (mD hJ cI _) hS 0 mG_O (ci := 7) rfl 5 (by decide) hl (fun _ h => h) rfl (ty := .int) (by decide +kernel) rfl rfl (Nat.le_of_ble_eq_true rfl) hdg (fun H1 l1 h1 _ h3 => ?_)
  rw [mS_O5] at h1
  exact kk H1 l1 h1 h3
theorem mpO6 (hx : p.tables.exec = Jvm.exec) (hb : c.code = cc) (hts : ∀ w ∈ Ts, w.before args s = true) (hin : ∀ w ∈ wsX70, w ∈ Ts) (hown : s.vm.findClass own = some m.cls) (hK : mK D cI s) (hP : va_P D vwCl (mW a cI (N, A, P, X)) H) (hJ : mJ a) (hS : va_S (mA a) H0 H locs) (hl : (Cond.fieldLink own index "BarrelProcessorModel" "spot" "I").before args s = true) (hdg : decode cc pc = .ok (.putfield index, 3)) (kk : ∀ (H1 : Heap) (locs1 : List Loc), va_P D vwCl (mW a cI (N, A, P, zu X 0 2 x)) H1 → va_S (mA a) H0 H1 locs1 → W p l e R s m args below meth c H1 locs1 cells slots Q (F0 m (pc + 3) ls rest)) : W p l e R s m args below meth c H locs cells slots Q (F0 m pc ls (.int x :: .ref (a 0) :: rest)) := by
  refine va_put (C := RX7) (T := TX7) (N := 11) hx hb hts hin tyX7 tyX7_ok nmX7 hown hK hP (mD hJ cI _) hS 0 mG_O (ci := 7) rfl 6 (by decide) hl (fun _ h => h) rfl (ty := .int) (by decide +kernel) rfl rfl (Nat.le_of_ble_eq_true rfl) hdg (fun H1 l1 h1 _ h3 => ?_)
  rw [mS_O6] at h1
  exact kk H1 l1 h1 h3
theorem mpO7 (hx : p.tables.exec = Jvm.exec) (hb : c.code = cc) (hts : ∀ w ∈ Ts, w.before args s = true) (hin : ∀ w ∈ wsX70, w ∈ Ts) (hown : s.vm.findClass own = some m.cls) (hK : mK D cI s) (hP : va_P D vwCl (mW a cI (N, A, P, X)) H) (hJ : mJ a) (hS : va_S (mA a) H0 H locs) (hv : x = nI 0 ∨ x = nI 1) (hl : (Cond.fieldLink own index "BarrelProcessorModel" "isWrong" "Z").before args s = true) (hdg : decode cc pc = .ok (.putfield index, 3)) (kk : ∀ (H1 : Heap) (locs1 : List Loc), va_P D vwCl (mW a cI (N, A, P, zu X 0 3 x)) H1 → va_S (mA a) H0 H1 locs1 → W p l e R s m args below meth c H1 locs1 cells slots Q (F0 m (pc + 3) ls rest)) : W p l e R s m args below meth c H locs cells slots Q (F0 m pc ls (.int x :: .ref (a 0) :: rest)) := by
  refine va_put (C := RX7) (T := TX7) (N := 11) hx hb hts hin tyX7 tyX7_ok nmX7 hown hK hP (mD hJ cI _) hS 0 mG_O (ci := 7) rfl 7 (by decide) hl (fun _ h => h) rfl (ty := .boolean) (by decide +kernel) (m_nb hv) (m_fitb hv) (Nat.le_of_ble_eq_true rfl) hdg (fun H1 l1 h1 _ h3 => ?_)
  rw [mS_O7] at h1
  exact kk H1 l1 h1 h3
theorem mpO8 (hx : p.tables.exec = Jvm.exec) (hb : c.code = cc) (hts : ∀ w ∈ Ts, w.before args s = true) (hin : ∀ w ∈ wsX70, w ∈ Ts) (hown : s.vm.findClass own = some m.cls) (hK : mK D cI s) (hP : va_P D vwCl (mW a cI (N, A, P, X)) H) (hJ : mJ a) (hS : va_S (mA a) H0 H locs) (hl : (Cond.fieldLink own index "BarrelProcessorModel" "operation" "I").before args s = true) (hdg : decode cc pc = .ok (.putfield index, 3)) (kk : ∀ (H1 : Heap) (locs1 : List Loc), va_P D vwCl (mW a cI (N, A, P, zu X 0 4 x)) H1 → va_S (mA a) H0 H1 locs1 → W p l e R s m args below meth c H1 locs1 cells slots Q (F0 m (pc + 3) ls rest)) : W p l e R s m args below meth c H locs cells slots Q (F0 m pc ls (.int x :: .ref (a 0) :: rest)) := by
  refine va_put (C := RX7) (T := TX7) (N := 11) hx hb hts hin tyX7 tyX7_ok nmX7 hown hK hP (mD hJ cI _) hS 0 mG_O (ci := 7) rfl 8 (by decide) hl (fun _ h => h) rfl (ty := .int) (by decide +kernel) rfl rfl (Nat.le_of_ble_eq_true rfl) hdg (fun H1 l1 h1 _ h3 => ?_)
  rw [mS_O8] at h1
  exact kk H1 l1 h1 h3
theorem mpO9 (hx : p.tables.exec = Jvm.exec) (hb : c.code = cc) (hts : ∀ w ∈ Ts, w.before args s = true) (hin : ∀ w ∈ wsX70, w ∈ Ts) (hown : s.vm.findClass own = some m.cls) (hK : mK D cI s) (hP : va_P D vwCl (mW a cI (N, A, P, X)) H) (hJ : mJ a) (hS : va_S (mA a) H0 H locs) (hl : (Cond.fieldLink own index "BarrelProcessorModel" "first" "I").before args s = true) (hdg : decode cc pc = .ok (.putfield index, 3)) (kk : ∀ (H1 : Heap) (locs1 : List Loc), va_P D vwCl (mW a cI (N, A, P, zu X 0 5 x)) H1 → va_S (mA a) H0 H1 locs1 → W p l e R s m args below meth c H1 locs1 cells slots Q (F0 m (pc + 3) ls rest)) : W p l e R s m args below meth c H locs cells slots Q (F0 m pc ls (.int x :: .ref (a 0) :: rest)) := by
  refine va_put (C := RX7) (T := TX7) (N := 11) hx hb hts hin tyX7 tyX7_ok nmX7 hown hK hP (mD hJ cI _) hS 0 mG_O (ci := 7) rfl 9 (by decide) hl (fun _ h => h) rfl (ty := .int) (by decide +kernel) rfl rfl (Nat.le_of_ble_eq_true rfl) hdg (fun H1 l1 h1 _ h3 => ?_)
  rw [mS_O9] at h1
  exact kk H1 l1 h1 h3
theorem mpO10 (hx : p.tables.exec = Jvm.exec) (hb : c.code = cc) (hts : ∀ w ∈ Ts, w.before args s = true) (hin : ∀ w ∈ wsX70, w ∈ Ts) (hown : s.vm.findClass own = some m.cls) (hK : mK D cI s) (hP : va_P D vwCl (mW a cI (N, A, P, X)) H) (hJ : mJ a) (hS : va_S (mA a) H0 H locs) (hl : (Cond.fieldLink own index "BarrelProcessorModel" "second" "I").before args s = true) (hdg : decode cc pc = .ok (.putfield index, 3)) (kk : ∀ (H1 : Heap) (locs1 : List Loc), va_P D vwCl (mW a cI (N, A, P, zu X 0 6 x)) H1 → va_S (mA a) H0 H1 locs1 → W p l e R s m args below meth c H1 locs1 cells slots Q (F0 m (pc + 3) ls rest)) : W p l e R s m args below meth c H locs cells slots Q (F0 m pc ls (.int x :: .ref (a 0) :: rest)) := by
  refine va_put (C := RX7) (T := TX7) (N := 11) hx hb hts hin tyX7 tyX7_ok nmX7 hown hK hP (mD hJ cI _) hS 0 mG_O (ci := 7) rfl 10 (by decide) hl (fun _ h => h) rfl (ty := .int) (by decide +kernel) rfl rfl (Nat.le_of_ble_eq_true rfl) hdg (fun H1 l1 h1 _ h3 => ?_)
  rw [mS_O10] at h1
  exact kk H1 l1 h1 h3
end MR
