/-! the law's start: the tables' words -/
theorem zNF_in : ∀ q ∈ zNF, Cond.fieldLinkNest q.1 q.2.1 q.2.2.1 q.2.2.2.1 q.2.2.2.2.1 q.2.2.2.2.2 ∈ lw_tbl := by decide +kernel
theorem zNM_in : ∀ q ∈ zNM, Cond.methodLinkNest q.1 q.2.1 q.2.2.1 q.2.2.2 ∈ lw_tbl := by decide +kernel
theorem law_K {s : State} {args : Array Value} (htsT : ∀ w ∈ lw_tbl, w.before args s = true) : ∃ (D : va_G) (ca : Nat → ClassId), zK D ca s ∧ nAO s := by
  obtain ⟨c0, i0, k0⟩ := u_known (C := RX0) (T := TX0) (N := 11) (n := 11) htsT inX0 (htsT (.instantiable RX0 11) (by decide +kernel))
  obtain ⟨c1, i1, k1⟩ := u_known (C := RX1) (T := TX1) (N := 3) (n := 3) htsT inX1 (htsT (.instantiable RX1 3) (by decide +kernel))
  obtain ⟨c2, i2, k2⟩ := u_known (C := RX2) (T := TX2) (N := 2) (n := 2) htsT inX2 (htsT (.instantiable RX2 2) (by decide +kernel))
  obtain ⟨c3, i3, k3⟩ := u_known (C := RX3) (T := TX3) (N := 9) (n := 9) htsT inX3 (htsT (.instantiable RX3 9) (by decide +kernel))
  obtain ⟨c4, i4, k4⟩ := u_known (C := RX4) (T := TX4) (N := 6) (n := 6) htsT inX4 (htsT (.instantiable RX4 6) (by decide +kernel))
  obtain ⟨c5, i5, k5⟩ := u_known (C := RX5) (T := TX5) (N := 3) (n := 3) htsT inX5 (htsT (.instantiable RX5 3) (by decide +kernel))
  obtain ⟨c6, i6, k6⟩ := u_known (C := RX6) (T := TX6) (N := 4) (n := 4) htsT inX6 (htsT (.instantiable RX6 4) (by decide +kernel))
  obtain ⟨cI, kI, oI, f1, f2, f3⟩ := Cond.arrayClass_spec (args := args) (first := s) (o := none) (s := s) (idx := []) (htsT (.arrayClass .int) (by decide +kernel))
  obtain ⟨cC, kC, oC, g1, g2, g3⟩ := Cond.arrayClass_spec (args := args) (first := s) (o := none) (s := s) (idx := []) (htsT (.arrayClass .char) (by decide +kernel))
  have ho0 := htsT (.arrayOver (.object RX0)) (by decide +kernel)
  have ho3 := htsT (.arrayOver (.object RX3)) (by decide +kernel)
  obtain ⟨o0, cA, kA, a1, -, a2, a3, a4⟩ := Cond.arrayOver_spec (args := args) (first := s) (o := none) (s := s) (idx := []) ho0
  obtain ⟨o3, cM, kM, m1, -, m2, m3, m4⟩ := Cond.arrayOver_spec (args := args) (first := s) (o := none) (s := s) (idx := []) ho3
  refine ⟨(fun k => if k = 0 then c0 else if k = 1 then c1 else if k = 2 then c2 else if k = 3 then c3 else if k = 4 then c4 else if k = 5 then c5 else c6, fun k => if k = 0 then i0 else if k = 1 then i1 else if k = 2 then i2 else if k = 3 then i3 else if k = 4 then i4 else if k = 5 then i5 else i6), fun k => if k = 0 then cI else if k = 1 then cA else if k = 2 then cM else cC, ⟨⟨?_, ?_⟩, fun q hq => va_Nw.of rfl (htsT _ (zNF_in q hq)), fun q hq => va_Nw.of rfl (htsT _ (zNM_in q hq))⟩, va_AO.of ho0, va_AO.of ho3⟩
  · intro k q hq
    match k, hq with
    | 0, hq => cases hq; exact k0
    | 1, hq => cases hq; exact k1
    | 2, hq => cases hq; exact k2
    | 3, hq => cases hq; exact k3
    | 4, hq => cases hq; exact k4
    | 5, hq => cases hq; exact k5
    | 6, hq => cases hq; exact k6
    | k + 7, hq => simp [vwCl] at hq
  · intro k q hq
    match k, hq with
    | 0, hq => cases hq; exact ⟨fun n z => ⟨(fun k h => by cases h), kI, f2, oI, f3⟩, f1⟩
    | 1, hq => cases hq; exact ⟨fun n z => ⟨(fun k h => by cases h), kA, a2, o0, a3⟩, kA, o0, a2, a3, a1, a4⟩
    | 2, hq => cases hq; exact ⟨fun n z => ⟨(fun k h => by cases h), kM, m2, o3, m3⟩, kM, o3, m2, m3, m1, m4⟩
    | 3, hq => cases hq; exact ⟨fun n z => ⟨(fun k h => by cases h), kC, g2, oC, g3⟩, g1⟩
    | k + 4, hq => simp [zTy] at hq
theorem law_S {s : State} {b : Nat} (htsT : ∀ w ∈ lw_tbl, w.before #[Value.ref b] s = true) (hgv : (Jvm.Cond.and given_1 narrow_1).before #[Value.ref b] s = true) : ∃ qs qv : Nat, vk_R RX4 41 "sadmlwxjznbh" qs s ∧ jS qs qv (lA s) s s.heap := by
  have hs := flat_of_before _ hgv
  have hA : ∀ a : Nat, a < s.heap.size → ¬ lA s a := fun a h => Nat.not_le.mpr h
  have hel : ∀ j : Nat, j < 12 → (Cond.eq (.elem (.field (.string RX4 41) "java/lang/String" "value" "[B") (.int (Int32.ofNat j))) (.int (([[115, 97, 100, 109, 108, 119, 120, 106, 122, 110, 98, 104]] : List (List Int32)).getD 0 [] |>.getD j 0))).before #[Value.ref b] s = true := by
    intro j hj
    match j, hj with
    | 0, _ => exact hs (Cond.eq (.elem (.field (.string RX4 41) "java/lang/String" "value" "[B") (.int 0)) (.int 115)) (by decide +kernel)
    | 1, _ => exact hs (Cond.eq (.elem (.field (.string RX4 41) "java/lang/String" "value" "[B") (.int 1)) (.int 97)) (by decide +kernel)
    | 2, _ => exact hs (Cond.eq (.elem (.field (.string RX4 41) "java/lang/String" "value" "[B") (.int 2)) (.int 100)) (by decide +kernel)
    | 3, _ => exact hs (Cond.eq (.elem (.field (.string RX4 41) "java/lang/String" "value" "[B") (.int 3)) (.int 109)) (by decide +kernel)
    | 4, _ => exact hs (Cond.eq (.elem (.field (.string RX4 41) "java/lang/String" "value" "[B") (.int 4)) (.int 108)) (by decide +kernel)
    | 5, _ => exact hs (Cond.eq (.elem (.field (.string RX4 41) "java/lang/String" "value" "[B") (.int 5)) (.int 119)) (by decide +kernel)
    | 6, _ => exact hs (Cond.eq (.elem (.field (.string RX4 41) "java/lang/String" "value" "[B") (.int 6)) (.int 120)) (by decide +kernel)
    | 7, _ => exact hs (Cond.eq (.elem (.field (.string RX4 41) "java/lang/String" "value" "[B") (.int 7)) (.int 106)) (by decide +kernel)
    | 8, _ => exact hs (Cond.eq (.elem (.field (.string RX4 41) "java/lang/String" "value" "[B") (.int 8)) (.int 122)) (by decide +kernel)
    | 9, _ => exact hs (Cond.eq (.elem (.field (.string RX4 41) "java/lang/String" "value" "[B") (.int 9)) (.int 110)) (by decide +kernel)
    | 10, _ => exact hs (Cond.eq (.elem (.field (.string RX4 41) "java/lang/String" "value" "[B") (.int 10)) (.int 98)) (by decide +kernel)
    | 11, _ => exact hs (Cond.eq (.elem (.field (.string RX4 41) "java/lang/String" "value" "[B") (.int 11)) (.int 104)) (by decide +kernel)
    | n + 12, h => exact absurd h (by omega)
  obtain ⟨adK, adV, h1, h2⟩ := vk_Sof (args := #[Value.ref b]) (s := s) (N := 1) (tm := fun _ => Term.string RX4 41) (len := [12]) (byt := [[115, 97, 100, 109, 108, 119, 120, 106, 122, 110, 98, 104]]) (A := lA s)
    (fun i hi => by
      have e : i = 0 := by omega
      subst e
      decide)
    (fun i _ => hs (Cond.exactly (.string RX4 41) "java/lang/String") (by decide +kernel))
    (fun i _ => hs (Cond.eq (.field (.string RX4 41) "java/lang/String" "coder" "B") (.int 0)) (by decide +kernel))
    (fun i _ => hs (Cond.arrayOf (.field (.string RX4 41) "java/lang/String" "value" "[B") .byte) (by decide +kernel))
    (fun i hi => by
      have e : i = 0 := by omega
      subst e
      exact hs (Cond.eq (.length (.field (.string RX4 41) "java/lang/String" "value" "[B")) (.int 12)) (by decide +kernel))
    (fun i hi j hj => by
      have e : i = 0 := by omega
      subst e
      exact hel j hj)
    (fun i j hi hj hne => absurd (show i = j by omega) hne) hA
  refine ⟨adK 0, adV 0, vk_R.of (htsT (.stringRef RX4 41 "sadmlwxjznbh") (by decide +kernel)) (h2 0 (by decide)), ⟨fun i hi => ?_, fun i j hi hj _ => by omega⟩, ?_⟩
  · have e : i = 0 := by omega
    subst e
    exact h1.1 0 (by decide)
  · exact va_Zof (htsT (.laysStatic "java/lang/String" "COMPACT_STRINGS" "Z") (by decide +kernel)) (htsT (.initialized "java/lang/String") (by decide +kernel)) (va_eqt (hs (Cond.eq (.static "java/lang/String" "COMPACT_STRINGS" "Z") (.int 1)) (by decide +kernel))) hA
theorem nb_lP {D : va_G} {cl : List vw_C} {X Y : va_W} {H : Heap} (h : va_P D cl (X ++ Y) H) : va_P D cl X H ∧ va_P D cl Y H := ⟨nb_P h (fun _ hq => List.mem_append.mpr (Or.inl hq)), nb_P h (fun _ hq => List.mem_append.mpr (Or.inr hq))⟩
theorem nb_lD {A : Nat → Prop} {X Y : va_W} (h : va_D A (X ++ Y)) : va_D A X ∧ va_D A Y ∧ ∀ (i j : Nat) (q r : Nat × va_E), X[i]? = some q → Y[j]? = some r → q.1 ≠ r.1 := by
  have up1 : ∀ (i : Nat) (q : Nat × va_E), X[i]? = some q → (X ++ Y)[i]? = some q := by
    intro i q hq
    rw [List.getElem?_append_left (List.getElem?_eq_some_iff.mp hq).1]
    exact hq
  have up2 : ∀ (i : Nat) (q : Nat × va_E), Y[i]? = some q → (X ++ Y)[X.length + i]? = some q := by
    intro i q hq
    rw [List.getElem?_append_right (by omega), show X.length + i - X.length = i by omega]
    exact hq
  refine ⟨⟨fun i j p q hp hq e => h.1 _ _ _ _ (up1 i p hp) (up1 j q hq) e, fun k q hq => h.2 _ _ (up1 k q hq)⟩, ⟨fun i j p q hp hq e => ?_, fun k q hq => h.2 _ _ (up2 k q hq)⟩, fun i j q r hq hr e => ?_⟩
  · have k := h.1 _ _ _ _ (up2 i p hp) (up2 j q hq) e
    omega
  · have k := h.1 _ _ _ _ (up1 i q hq) (up2 j r hr) e
    have b := (List.getElem?_eq_some_iff.mp hq).1
    omega
set_option maxHeartbeats 4000000 in
set_option maxRecDepth 100000 in
theorem whole_start {p : Program} {e : Env} {s : State} {m : MethodId} {below : List Frame} {meth : Method} {c : Code} (l : Launch) (hflags : l.flags = flags0) {b L : Nat} {xs : Nat → Int32} (hL : L ≤ 260) (C0 : lw_At p s m meth c b L xs) : W p l e room_1 s m #[Value.ref b] below meth c s.heap [] 0 0 (lw_Z below #[Value.ref b] s) (entryFrame m ([Value.ref b] : List Value).toArray 7) := by
  obtain ⟨hx, hb, hr, hml, hown, htsT, hX, hbl, hlocks, hgv⟩ := id C0
  have hb : c.code = cL_law := hb
  have hown : s.vm.findClass RL = some m.cls := hown
  have hts : ∀ w ∈ wsL_law, w.before #[Value.ref b] s = true := fun w h => htsT w (wsL_law_in w h)
  obtain ⟨D, ca, hK, hO⟩ := law_K htsT
  obtain ⟨qs, qv, hR, hJS⟩ := law_S htsT hgv
  have hA : ∀ q : Nat, s.heap.size ≤ q → lA s q := fun _ h => h
  have hS : va_S (lA s) s.heap s.heap [] := va_S.rf
  have hP : va_P D vwCl [] s.heap := fun k q h => by simp at h
  have hD : va_D (lA s) [] := ⟨fun i j p q h => by simp at h, fun k q h => by simp at h⟩
  have hl := lv_entry ([.ref b]) (n := 7) (Nat.le_of_ble_eq_true rfl)
  rw [lg_entry_eq]
  generalize (lg_sl ([.ref b]) ++ List.replicate (7 - (lg_sl ([.ref b])).length) Slot.unset).toArray = ls at hl ⊢
  have hl : lv_has ls 7 [(0, .ref b)] := hl
  refine n_new (ci := 6) (fs := [.null, .null, .null, .null]) (C := RX6) (T := TX6) (N := 4) hx hb htsT inX6 tyX6 tyX6_ok hown (htsT (.classLink RL 14 RX6) (by decide +kernel)) (htsT (.instantiable RX6 4) (by decide +kernel)) (htsT (.initialized RX6) (by decide +kernel)) hK hP hD hS hA rfl (by intro j hj; match j, hj with | 0, _ => rfl | 1, _ => rfl | 2, _ => rfl | 3, _ => rfl | n + 4, h => exact absurd h (by omega)) (Nat.le_of_ble_eq_true rfl) (Nat.le_of_ble_eq_true rfl) dL_law_0 (fun q0 H hP hD hS => ?_)
  refine lv_dup hx hb dL_law_3 rfl ?_
  refine n_call (X := []) (rest := [.ref q0]) ⟨hx, hb, hml, hown, hts⟩ (ct_X6_init l D ca q0) (cwI 0 hts gL_law_X6_init rfl rfl rfl (htsT (.initialized RX6) (by decide +kernel)) (htsT (.methodLink RL 137 yX6_init) (by decide +kernel)) (htsT (.instanceMethod yX6_init) (by decide +kernel)) rfl (by decide +kernel) ⟨Nat.le_of_ble_eq_true rfl, Nat.le_of_ble_eq_true rfl⟩) hK hO hP hD hS hA hl.1 (Nat.le_of_ble_eq_true rfl) dL_law_4 ⟨Nat.le_of_ble_eq_true rfl, Nat.le_of_ble_eq_true rfl⟩ (fun u H locs hP hD hS => ?_)
  have hP : va_P D vwCl (W6 q0 ca u) H := hP
  have hD : va_D (lA s) (W6 q0 ca u) := hD
  refine lv_astore_n (lv' := [(1, .ref q0), (0, .ref b)]) hx hb dL_law_7 rfl hl (by decide) rfl (fun ls hl => ?_)
  refine n_new (ci := 6) (fs := [.null, .null, .null, .null]) (C := RX6) (T := TX6) (N := 4) hx hb htsT inX6 tyX6 tyX6_ok hown (htsT (.classLink RL 14 RX6) (by decide +kernel)) (htsT (.instantiable RX6 4) (by decide +kernel)) (htsT (.initialized RX6) (by decide +kernel)) hK hP hD hS hA rfl (by intro j hj; match j, hj with | 0, _ => rfl | 1, _ => rfl | 2, _ => rfl | 3, _ => rfl | n + 4, h => exact absurd h (by omega)) (Nat.le_of_ble_eq_true rfl) (Nat.le_of_ble_eq_true rfl) dL_law_8 (fun q1 H hP hD hS => ?_)
  refine lv_dup hx hb dL_law_11 rfl ?_
  refine n_call (X := W6 q0 ca u) (rest := [.ref q1]) ⟨hx, hb, hml, hown, hts⟩ (ct_X6_init l D ca q1) (cwI 0 hts gL_law_X6_init rfl rfl rfl (htsT (.initialized RX6) (by decide +kernel)) (htsT (.methodLink RL 137 yX6_init) (by decide +kernel)) (htsT (.instanceMethod yX6_init) (by decide +kernel)) rfl (by decide +kernel) ⟨Nat.le_of_ble_eq_true rfl, Nat.le_of_ble_eq_true rfl⟩) hK hO hP hD hS hA hl.1 (Nat.le_of_ble_eq_true rfl) dL_law_12 ⟨Nat.le_of_ble_eq_true rfl, Nat.le_of_ble_eq_true rfl⟩ (fun u1 H locs hP hD hS => ?_)
  obtain ⟨hP1, hP2⟩ := nb_lP hP
  obtain ⟨hD1, hD2, hD3⟩ := nb_lD hD
  have hP2 : va_P D vwCl (W6 q1 ca u1) H := hP2
  have hD2 : va_D (lA s) (W6 q1 ca u1) := hD2
  have hD3 : ∀ (i j : Nat) (q r : Nat × va_E), (W6 q0 ca u)[i]? = some q → (W6 q1 ca u1)[j]? = some r → q.1 ≠ r.1 := hD3
  refine lv_astore_n (lv' := [(2, .ref q1), (1, .ref q0), (0, .ref b)]) hx hb dL_law_15 rfl hl (by decide) rfl (fun ls hl => ?_)
  have hz1 : ∀ q, zA (nAll q0 u) q → lA s q := fun q hq => n_in hD1 hq
  have hz2 : ∀ q, zA (nAll q1 u1) q → lA s q := fun q hq => n_in hD2 hq
  have hd : ∀ q, zA (nAll q1 u1) q → ¬ zA (nAll q0 u) q := fun q hq hq2 => by
    obtain ⟨i, hi, rfl⟩ := hq
    obtain ⟨j, hj, e⟩ := hq2
    obtain ⟨e1, h1⟩ := n_at q0 ca u hj
    obtain ⟨e2, h2⟩ := n_at q1 ca u1 hi
    exact hD3 _ _ _ _ h1 h2 e.symm
  have X0 : LX p s m c b L xs D (nAll q0 u) (nAll q1 u1) ca qs qv := ⟨hx, hb, hml, hown, hts, hX, hbl, hL, n_J hD1, n_J hD2, hK, ⟨hR, hJS.narrow hz1⟩, ⟨hR, hJS.narrow hz2⟩, hJS, hz1, hz2, hd⟩
  exact law_first C0 X0 ⟨Nat.le_of_ble_eq_true rfl, Nat.le_of_ble_eq_true rfl⟩ ⟨Nat.le_of_ble_eq_true rfl, Nat.le_of_ble_eq_true rfl⟩ hl (n_P hP1) (n_P hP2) hS
