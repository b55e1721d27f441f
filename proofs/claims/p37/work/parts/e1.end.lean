section LV
variable {p : Program} {l : Launch} {e : Env} {s : State} {m : MethodId} {below : List Frame} {meth : Method} {c : Code} {cells slots : Nat} {D : va_G} {a a2 : Nat → Nat} {ca : Nat → ClassId} {qs qv b L : Nat} {xs : Nat → Int32}
set_option maxHeartbeats 8000000 in
set_option maxRecDepth 100000 in
theorem law_end {B : Nat} {H : Heap} {locs : List Loc} {ls : Array Slot} {Z : Nat → zM} {T T2 : zM} (C0 : lw_At p s m meth c b L xs) (X0 : LX p s m c b L xs D a a2 ca qs qv) (hf0 : cells ≤ 600000 ∧ slots ≤ 7302250) (hf : cells ≤ room_1.cells ∧ slots ≤ room_1.slots) (hB : B < 100000) (hV : IVp B Z) (hnb : ∀ p, p < 48 → Z 0 12 p = 0) (hT : xR T) (hT2 : xR T2) (hl : lv_has ls 7 [(3, .int (nI 1)), (2, .ref (a2 114)), (1, .ref (a 114)), (0, .ref b)]) (hP : va_P D vwCl (zW a ca (va_up Z 1 T)) H) (hQ : va_P D vwCl (zW a2 ca (va_up Z 1 T2)) H) (hS : va_S (lA s) s.heap H locs) : W p l e room_1 s m #[Value.ref b] below meth c H locs cells slots (lw_Z below #[Value.ref b] s) (F0 m 239 ls []) := by
  obtain ⟨hx, hb, hml, hown, hts, hX, hbl, hL, hJ, hJ2, hK, hE1, hE2, hJA, hz1, hz2, hd⟩ := id X0
  have hd2 : ∀ q, zA a q → ¬ zA a2 q := fun q h1 h2 => hd q h2 h1
  have hbA : ¬ lA s b := Nat.not_le.mpr hbl
  obtain ⟨-, hbc, hr, -, -, -, -, -, hlocks, -⟩ := C0
  have tw := two_runs hnb (f := 1 + cv xs L 36 % 40) (t := 1 + cv xs L 36 / 64 % 40) (by omega) (by omega) (by omega) (by omega)
  have uo : ¬ g_undo2 (h_run2 Z (nI (1 + cv xs L 36 % 40 + (1 + cv xs L 36 / 64 % 40)))) < 0 ∧ (h_undo2 (h_run2 Z (nI (1 + cv xs L 36 % 40 + (1 + cv xs L 36 / 64 % 40))))) 0 = Z 0 := by
    rw [(rn_g2 (Z := Z) (n := 1 + cv xs L 36 % 40 + (1 + cv xs L 36 / 64 % 40)) (by omega) (by omega)).2]
    exact un_1 hV.2.2.1 hV.2.2.2.1
  have uq : ¬ g_undo2 (h_run2 (h_run2 Z (nI (1 + cv xs L 36 % 40))) (nI (1 + cv xs L 36 / 64 % 40))) < 0 ∧ ¬ g_undo2 (h_undo2 (h_run2 (h_run2 Z (nI (1 + cv xs L 36 % 40))) (nI (1 + cv xs L 36 / 64 % 40)))) < 0 ∧ (h_undo2 (h_undo2 (h_run2 (h_run2 Z (nI (1 + cv xs L 36 % 40))) (nI (1 + cv xs L 36 / 64 % 40))))) 0 = Z 0 := by
    rw [(rn_g2 (Z := h_run2 Z (nI (1 + cv xs L 36 % 40))) (n := 1 + cv xs L 36 / 64 % 40) (by omega) (by omega)).2, (rn_g2 (Z := Z) (n := 1 + cv xs L 36 % 40) (by omega) (by omega)).2]
    exact un_2 hV.2.2.1 hV.2.2.2.1
  refine lv_iload_n hx hb dL_law_239 rfl (lv_at hl 0 rfl) ?_
  refine lv_if_eq (tgt := 251) hx hb dL_law_240 (by decide) (fun c240_1 => absurd c240_1 (by decide)) (fun _ => ?_)
  refine lv_aload_n hx hb dL_law_243 rfl (lv_at hl 2 rfl) ?_
  refine lv_aload_n hx hb dL_law_244 rfl (lv_at hl 1 rfl) ?_
  refine w2_s (As := [.ref (a 114), .ref (a2 114)]) (rest := []) ⟨hx, hb, hml, hown, hts⟩ (ct_L_same l D a a2 ca hJ hJ2 hd (va_up Z 1 T) (va_up Z 1 T2) (tz_n0.trans tz_n0.symm) (ivp_z (ivp_t hV hT)) (ivp_t hV hT).1 (ivp_t hV hT2).1) (va_cwS 2 hts gL_law_L_same rfl rfl rfl (by decide +kernel) ⟨Nat.le_of_ble_eq_true rfl, Nat.le_of_ble_eq_true rfl⟩) hK hP hQ hS hz1 hz2 rfl hl.1 rfl (Nat.le_of_ble_eq_true rfl) dL_law_245 hf (fun T T2 H locs hT hT2 hP hQ hS => ?_)
  rw [tz_t] at hP
  rw [tz_t] at hQ
  refine lv_if_ne (tgt := 253) hx hb dL_law_248 (by decide) (fun _ => ?_) (fun c248_2 => absurd c248_2 (by decide))
  refine lv_iconst (v := nI 1) hx hb dL_law_253 (by decide) ?_
  refine lv_aload_n hx hb dL_law_254 rfl (lv_at hl 3 rfl) ?_
  refine lv_bipush (v := nI 36) hx hb dL_law_255 (by decide) ?_
  refine w2_x (As := [.ref b, .int (nI 36)]) (rest := [.int (nI 1)]) ⟨hx, hb, hml, hown, hts⟩ (ct_L_cell l b L xs 36 hL (by omega)) (va_cwS 2 hts gL_law_L_cell rfl rfl rfl (by decide +kernel) ⟨Nat.le_of_ble_eq_true rfl, Nat.le_of_ble_eq_true rfl⟩) hX hbl hbA hP hQ hS rfl hl.1 rfl (Nat.le_of_ble_eq_true rfl) dL_law_257 hf (fun H locs hP hQ hS => ?_)
  refine z_val (z := nI (cv xs L 36)) rfl ?_
  refine lv_bipush (v := nI 40) hx hb dL_law_260 (by decide) ?_
  refine lv_irem hx hb dL_law_262 (by decide) ?_
  refine z_val (z := nI (cv xs L 36 % 40)) (pk_rem (cv_lt _ _ _) (by decide) (by decide)) ?_
  refine lv_iadd hx hb dL_law_263 ?_
  refine z_val (z := nI (1 + cv xs L 36 % 40)) (nI_add _ _) ?_
  refine lv_istore (lv' := [(4, .int (nI (1 + cv xs L 36 % 40))), (3, .int (nI 1)), (2, .ref (a2 114)), (1, .ref (a 114)), (0, .ref b)]) hx hb dL_law_264 hl (by decide) rfl (fun ls hl => ?_)
  refine lv_iconst (v := nI 1) hx hb dL_law_266 (by decide) ?_
  refine lv_aload_n hx hb dL_law_267 rfl (lv_at hl 4 rfl) ?_
  refine lv_bipush (v := nI 36) hx hb dL_law_268 (by decide) ?_
  refine w2_x (As := [.ref b, .int (nI 36)]) (rest := [.int (nI 1)]) ⟨hx, hb, hml, hown, hts⟩ (ct_L_cell l b L xs 36 hL (by omega)) (va_cwS 2 hts gL_law_L_cell rfl rfl rfl (by decide +kernel) ⟨Nat.le_of_ble_eq_true rfl, Nat.le_of_ble_eq_true rfl⟩) hX hbl hbA hP hQ hS rfl hl.1 rfl (Nat.le_of_ble_eq_true rfl) dL_law_270 hf (fun H locs hP hQ hS => ?_)
  refine z_val (z := nI (cv xs L 36)) rfl ?_
  refine lv_bipush (v := nI 64) hx hb dL_law_273 (by decide) ?_
  refine lv_idiv hx hb dL_law_275 (by decide) ?_
  refine z_val (z := nI (cv xs L 36 / 64)) (pk_div (cv_lt _ _ _) (by decide) (by decide)) ?_
  refine lv_bipush (v := nI 40) hx hb dL_law_276 (by decide) ?_
  refine lv_irem hx hb dL_law_278 (by decide) ?_
  refine z_val (z := nI (cv xs L 36 / 64 % 40)) (pk_rem (by have := cv_lt xs L 36; omega) (by decide) (by decide)) ?_
  refine lv_iadd hx hb dL_law_279 ?_
  refine z_val (z := nI (1 + cv xs L 36 / 64 % 40)) (nI_add _ _) ?_
  refine lv_istore (lv' := [(5, .int (nI (1 + cv xs L 36 / 64 % 40))), (4, .int (nI (1 + cv xs L 36 % 40))), (3, .int (nI 1)), (2, .ref (a2 114)), (1, .ref (a 114)), (0, .ref b)]) hx hb dL_law_280 hl (by decide) rfl (fun ls hl => ?_)
  refine lv_aload_n hx hb dL_law_282 rfl (lv_at hl 3 rfl) ?_
  refine lv_iload hx hb dL_law_283 (lv_at hl 1 rfl) ?_
  have k285 := ct_run2 l D a2 ca hJ2 (va_up Z 1 T2) (nI (1 + cv xs L 36 % 40)) (ivp_t hV hT2).2.2.1 (ivp_t hV hT2).2.2.2.1 (ivp_t hV hT2).1 (ivp_z (ivp_t hV hT2))
  rw [(pe_run _).1, (pe_run _).2] at k285
  refine w2_i (As := [.int (nI (1 + cv xs L 36 % 40))]) (rest := []) ⟨hx, hb, hml, hown, hts⟩ (k285) (cwV 1 hts gL_law_X6_run rfl rfl rfl (by decide +kernel) ⟨Nat.le_of_ble_eq_true rfl, Nat.le_of_ble_eq_true rfl⟩) hK hQ hP hS hz2 hd2 (va_recv (ci := 6) hK.1 hQ rfl zW_b) rfl hl.1 rfl (Nat.le_of_ble_eq_true rfl) dL_law_285 hf (fun H locs hQ hP hS => ?_)
  refine lv_istore (lv' := [(6, .int (g_run2 Z (nI (1 + cv xs L 36 % 40)))), (5, .int (nI (1 + cv xs L 36 / 64 % 40))), (4, .int (nI (1 + cv xs L 36 % 40))), (3, .int (nI 1)), (2, .ref (a2 114)), (1, .ref (a 114)), (0, .ref b)]) hx hb dL_law_288 hl (by decide) rfl (fun ls hl => ?_)
  refine lv_aload_n hx hb dL_law_290 rfl (lv_at hl 5 rfl) ?_
  refine lv_iload hx hb dL_law_291 (lv_at hl 2 rfl) ?_
  refine lv_iload hx hb dL_law_293 (lv_at hl 1 rfl) ?_
  refine lv_iadd hx hb dL_law_295 ?_
  refine z_val (z := nI (1 + cv xs L 36 % 40 + (1 + cv xs L 36 / 64 % 40))) (nI_add _ _) ?_
  have k296 := ct_run2 l D a ca hJ (va_up Z 1 T) (nI (1 + cv xs L 36 % 40 + (1 + cv xs L 36 / 64 % 40))) (ivp_t hV hT).2.2.1 (ivp_t hV hT).2.2.2.1 (ivp_t hV hT).1 (ivp_z (ivp_t hV hT))
  rw [(pe_run _).1, (pe_run _).2] at k296
  refine w2_i (As := [.int (nI (1 + cv xs L 36 % 40 + (1 + cv xs L 36 / 64 % 40)))]) (rest := []) ⟨hx, hb, hml, hown, hts⟩ (k296) (cwV 1 hts gL_law_X6_run rfl rfl rfl (by decide +kernel) ⟨Nat.le_of_ble_eq_true rfl, Nat.le_of_ble_eq_true rfl⟩) hK hP hQ hS hz1 hd (va_recv (ci := 6) hK.1 hP rfl zW_b) rfl hl.1 rfl (Nat.le_of_ble_eq_true rfl) dL_law_296 hf (fun H locs hP hQ hS => ?_)
  refine lv_iload hx hb dL_law_299 (lv_at hl 0 rfl) ?_
  refine lv_aload_n hx hb dL_law_301 rfl (lv_at hl 4 rfl) ?_
  refine lv_iload hx hb dL_law_302 (lv_at hl 1 rfl) ?_
  have k304 := ct_run2 l D a2 ca hJ2 (va_up (h_run2 Z (nI (1 + cv xs L 36 % 40))) 1 T2) (nI (1 + cv xs L 36 / 64 % 40)) (ivp_t (pa_run (by omega) hV _) hT2).2.2.1 (ivp_t (pa_run (by omega) hV _) hT2).2.2.2.1 (ivp_t (pa_run (by omega) hV _) hT2).1 (ivp_z (ivp_t (pa_run (by omega) hV _) hT2))
  rw [(pe_run _).1, (pe_run _).2] at k304
  refine w2_i (As := [.int (nI (1 + cv xs L 36 / 64 % 40))]) (rest := [.int (g_run2 Z (nI (1 + cv xs L 36 % 40))), .int (g_run2 Z (nI (1 + cv xs L 36 % 40 + (1 + cv xs L 36 / 64 % 40))))]) ⟨hx, hb, hml, hown, hts⟩ (k304) (cwV 1 hts gL_law_X6_run rfl rfl rfl (by decide +kernel) ⟨Nat.le_of_ble_eq_true rfl, Nat.le_of_ble_eq_true rfl⟩) hK hQ hP hS hz2 hd2 (va_recv (ci := 6) hK.1 hQ rfl zW_b) rfl hl.1 rfl (Nat.le_of_ble_eq_true rfl) dL_law_304 hf (fun H locs hQ hP hS => ?_)
  refine lv_iadd hx hb dL_law_307 ?_
  refine lv_icmp_ne (tgt := 352) hx hb dL_law_308 (by decide) (fun c308_3 => absurd tw.1 c308_3) (fun _ => ?_)
  skip
  refine lv_aload_n hx hb dL_law_311 rfl (lv_at hl 5 rfl) ?_
  refine lv_aload_n hx hb dL_law_312 rfl (lv_at hl 4 rfl) ?_
  refine w2_s (As := [.ref (a 114), .ref (a2 114)]) (rest := []) ⟨hx, hb, hml, hown, hts⟩ (ct_L_same l D a a2 ca hJ hJ2 hd (va_up (h_run2 Z (nI (1 + cv xs L 36 % 40 + (1 + cv xs L 36 / 64 % 40)))) 1 T) (va_up (h_run2 (h_run2 Z (nI (1 + cv xs L 36 % 40))) (nI (1 + cv xs L 36 / 64 % 40))) 1 T2) (by rw [tz_n0, tz_n0]; exact tw.2) (ivp_z (ivp_t (pa_run (by omega) hV _) hT)) (ivp_t (pa_run (by omega) hV _) hT).1 (ivp_t (pa_run (by omega) (pa_run (by omega) hV _) _) hT2).1) (va_cwS 2 hts gL_law_L_same rfl rfl rfl (by decide +kernel) ⟨Nat.le_of_ble_eq_true rfl, Nat.le_of_ble_eq_true rfl⟩) hK hP hQ hS hz1 hz2 rfl hl.1 rfl (Nat.le_of_ble_eq_true rfl) dL_law_313 hf (fun T T2 H locs hT hT2 hP hQ hS => ?_)
  rw [tz_t] at hP
  rw [tz_t] at hQ
  refine lv_if_eq (tgt := 352) hx hb dL_law_316 (by decide) (fun c316_4 => absurd c316_4 (by decide)) (fun _ => ?_)
  refine lv_aload_n hx hb dL_law_319 rfl (lv_at hl 5 rfl) ?_
  have k320 := ct_undo2 l D a ca hJ (va_up (h_run2 Z (nI (1 + cv xs L 36 % 40 + (1 + cv xs L 36 / 64 % 40)))) 1 T) (ivp_t (pa_run (by omega) hV _) hT).2.2.1 (ivp_t (pa_run (by omega) hV _) hT).2.2.2.1 (ivp_t (pa_run (by omega) hV _) hT).1
  rw [pe_undo.1, pe_undo.2] at k320
  refine w2_i (As := []) (rest := []) ⟨hx, hb, hml, hown, hts⟩ (k320) (cwV 0 hts gL_law_X6_undo rfl rfl rfl (by decide +kernel) ⟨Nat.le_of_ble_eq_true rfl, Nat.le_of_ble_eq_true rfl⟩) hK hP hQ hS hz1 hd (va_recv (ci := 6) hK.1 hP rfl zW_b) rfl hl.1 rfl (Nat.le_of_ble_eq_true rfl) dL_law_320 hf (fun H locs hP hQ hS => ?_)
  refine lv_if_lt (tgt := 352) hx hb dL_law_323 (by decide) (fun c323_5 => absurd c323_5 uo.1) (fun _ => ?_)
  refine lv_aload_n hx hb dL_law_326 rfl (lv_at hl 4 rfl) ?_
  have k327 := ct_undo2 l D a2 ca hJ2 (va_up (h_run2 (h_run2 Z (nI (1 + cv xs L 36 % 40))) (nI (1 + cv xs L 36 / 64 % 40))) 1 T2) (ivp_t (pa_run (by omega) (pa_run (by omega) hV _) _) hT2).2.2.1 (ivp_t (pa_run (by omega) (pa_run (by omega) hV _) _) hT2).2.2.2.1 (ivp_t (pa_run (by omega) (pa_run (by omega) hV _) _) hT2).1
  rw [pe_undo.1, pe_undo.2] at k327
  refine w2_i (As := []) (rest := []) ⟨hx, hb, hml, hown, hts⟩ (k327) (cwV 0 hts gL_law_X6_undo rfl rfl rfl (by decide +kernel) ⟨Nat.le_of_ble_eq_true rfl, Nat.le_of_ble_eq_true rfl⟩) hK hQ hP hS hz2 hd2 (va_recv (ci := 6) hK.1 hQ rfl zW_b) rfl hl.1 rfl (Nat.le_of_ble_eq_true rfl) dL_law_327 hf (fun H locs hQ hP hS => ?_)
  refine lv_if_lt (tgt := 352) hx hb dL_law_330 (by decide) (fun c330_6 => absurd c330_6 uq.1) (fun _ => ?_)
  refine lv_aload_n hx hb dL_law_333 rfl (lv_at hl 4 rfl) ?_
  have k334 := ct_undo2 l D a2 ca hJ2 (va_up (h_undo2 (h_run2 (h_run2 Z (nI (1 + cv xs L 36 % 40))) (nI (1 + cv xs L 36 / 64 % 40)))) 1 T2) (ivp_t (pa_undo (pa_run (by omega) (pa_run (by omega) hV _) _)) hT2).2.2.1 (ivp_t (pa_undo (pa_run (by omega) (pa_run (by omega) hV _) _)) hT2).2.2.2.1 (ivp_t (pa_undo (pa_run (by omega) (pa_run (by omega) hV _) _)) hT2).1
  rw [pe_undo.1, pe_undo.2] at k334
  refine w2_i (As := []) (rest := []) ⟨hx, hb, hml, hown, hts⟩ (k334) (cwV 0 hts gL_law_X6_undo rfl rfl rfl (by decide +kernel) ⟨Nat.le_of_ble_eq_true rfl, Nat.le_of_ble_eq_true rfl⟩) hK hQ hP hS hz2 hd2 (va_recv (ci := 6) hK.1 hQ rfl zW_b) rfl hl.1 rfl (Nat.le_of_ble_eq_true rfl) dL_law_334 hf (fun H locs hQ hP hS => ?_)
  refine lv_if_lt (tgt := 352) hx hb dL_law_337 (by decide) (fun c337_7 => absurd c337_7 uq.2.1) (fun _ => ?_)
  skip
  refine lv_aload_n hx hb dL_law_340 rfl (lv_at hl 5 rfl) ?_
  refine lv_aload_n hx hb dL_law_341 rfl (lv_at hl 4 rfl) ?_
  refine w2_s (As := [.ref (a 114), .ref (a2 114)]) (rest := []) ⟨hx, hb, hml, hown, hts⟩ (ct_L_same l D a a2 ca hJ hJ2 hd (va_up (h_undo2 (h_run2 Z (nI (1 + cv xs L 36 % 40 + (1 + cv xs L 36 / 64 % 40))))) 1 T) (va_up (h_undo2 (h_undo2 (h_run2 (h_run2 Z (nI (1 + cv xs L 36 % 40))) (nI (1 + cv xs L 36 / 64 % 40))))) 1 T2) (by rw [tz_n0, tz_n0, uo.2, uq.2.2]) (ivp_z (ivp_t (pa_undo (pa_run (by omega) hV _)) hT)) (ivp_t (pa_undo (pa_run (by omega) hV _)) hT).1 (ivp_t (pa_undo (pa_undo (pa_run (by omega) (pa_run (by omega) hV _) _))) hT2).1) (va_cwS 2 hts gL_law_L_same rfl rfl rfl (by decide +kernel) ⟨Nat.le_of_ble_eq_true rfl, Nat.le_of_ble_eq_true rfl⟩) hK hP hQ hS hz1 hz2 rfl hl.1 rfl (Nat.le_of_ble_eq_true rfl) dL_law_342 hf (fun T T2 H locs hT hT2 hP hQ hS => ?_)
  rw [tz_t] at hP
  rw [tz_t] at hQ
  refine lv_if_eq (tgt := 352) hx hb dL_law_345 (by decide) (fun c345_8 => absurd c345_8 (by decide)) (fun _ => ?_)
  refine lv_iconst (v := nI 1) hx hb dL_law_348 (by decide) ?_
  refine lv_goto (tgt := 353) hx hb dL_law_349 (by decide) ?_
  refine lv_istore_n (lv' := [(3, .int (nI 1)), (6, .int (g_run2 Z (nI (1 + cv xs L 36 % 40)))), (5, .int (nI (1 + cv xs L 36 / 64 % 40))), (4, .int (nI (1 + cv xs L 36 % 40))), (2, .ref (a2 114)), (1, .ref (a 114)), (0, .ref b)]) hx hb dL_law_353 rfl hl (by decide) rfl (fun ls hl => ?_)
  refine lv_iload_n hx hb dL_law_354 rfl (lv_at hl 0 rfl) ?_
  refine va_forget (fun q hq => hS.2.2 q hq) ?_
  refine W.widen (k := 600000) (n := 7302250) hf0.1 hf0.2 ?_
  refine W.base ?_
  exact lw_ret (Drawn.sameBut.refl s.drawn lw_cs) hx hbc hr hlocks dL_law_355
set_option maxHeartbeats 8000000 in
set_option maxRecDepth 100000 in
theorem law_l2 {B : Nat} (C0 : lw_At p s m meth c b L xs) (X0 : LX p s m c b L xs D a a2 ca qs qv) (hf0 : cells ≤ 600000 ∧ slots ≤ 7302250) (hf : cells ≤ room_1.cells ∧ slots ≤ room_1.slots) (hB : B < 100000) : ∀ (n k : Nat) (Z : Nat → zM) (T T2 : zM) (H : Heap) (locs : List Loc) (ls : Array Slot) (hn : k + n = 48) (hV : IVp B Z) (hnb : ∀ p, p < k → Z 0 12 p = 0) (hT : xR T) (hT2 : xR T2) (hl : lv_has ls 7 [(4, .int (nI k)), (3, .int (nI 1)), (2, .ref (a2 114)), (1, .ref (a 114)), (0, .ref b)]) (hP : va_P D vwCl (zW a ca (va_up Z 1 T)) H) (hQ : va_P D vwCl (zW a2 ca (va_up Z 1 T2)) H) (hS : va_S (lA s) s.heap H locs), W p l e room_1 s m #[Value.ref b] below meth c H locs cells slots (lw_Z below #[Value.ref b] s) (F0 m 196 ls []) := by
  obtain ⟨hx, hb, hml, hown, hts, hX, hbl, hL, hJ, hJ2, hK, hE1, hE2, hJA, hz1, hz2, hd⟩ := id X0
  have hd2 : ∀ q, zA a q → ¬ zA a2 q := fun q h1 h2 => hd q h2 h1
  have hbA : ¬ lA s b := Nat.not_le.mpr hbl
  intro n
  induction n with
  | zero =>
    intro k Z T T2 H locs ls hn hV hnb hT hT2 hl hP hQ hS
    refine lv_iload hx hb dL_law_196 (lv_at hl 0 rfl) ?_
    refine lv_bipush (v := nI 48) hx hb dL_law_198 (by decide) ?_
    refine lv_icmp_ge (tgt := 239) hx hb dL_law_200 (by decide) (fun _ => ?_) (fun c200_1 => absurd (nI_le (by omega) (by omega)) c200_1)
    exact law_end C0 X0 hf0 hf hB hV (fun p hp => hnb p (by omega)) hT hT2 (lv_sub hl [1, 2, 3, 4] rfl) hP hQ hS
  | succ n ih =>
    intro k Z T T2 H locs ls hn hV hnb hT hT2 hl hP hQ hS
    obtain ⟨⟨j, hj, ej⟩, -⟩ := cb_all hV (show k < 48 by omega)
    have ng : ¬ g_setBreakpoint2 Z (nI k) (nI 0) < 0 := by
      rw [ej]
      exact nI_pos (by omega)
    refine lv_iload hx hb dL_law_196 (lv_at hl 0 rfl) ?_
    refine lv_bipush (v := nI 48) hx hb dL_law_198 (by decide) ?_
    refine lv_icmp_ge (tgt := 239) hx hb dL_law_200 (by decide) (fun c200_1 => absurd c200_1 (nI_ge (show k < 48 by omega) (by decide))) (fun _ => ?_)
    refine lv_iload_n hx hb dL_law_203 rfl (lv_at hl 1 rfl) ?_
    refine lv_if_eq (tgt := 239) hx hb dL_law_204 (by decide) (fun c204_2 => absurd c204_2 (by decide)) (fun _ => ?_)
    refine lv_aload_n hx hb dL_law_207 rfl (lv_at hl 3 rfl) ?_
    refine lv_iload hx hb dL_law_208 (lv_at hl 0 rfl) ?_
    refine lv_iconst (v := nI 0) hx hb dL_law_210 (by decide) ?_
    have k211 := ct_setBreakpoint2 l D a ca hJ (va_up Z 1 T) (nI k) (nI 0) (ivp_t hV hT).2.2.1 (ivp_t hV hT).2.2.2.1 (ivp_t hV hT).1
    rw [(pe_setBreakpoint _ _).1, (pe_setBreakpoint _ _).2] at k211
    refine w2_i (As := [.int (nI k), .int (nI 0)]) (rest := []) ⟨hx, hb, hml, hown, hts⟩ (k211) (cwV 2 hts gL_law_X6_setBreakpoint rfl rfl rfl (by decide +kernel) ⟨Nat.le_of_ble_eq_true rfl, Nat.le_of_ble_eq_true rfl⟩) hK hP hQ hS hz1 hd (va_recv (ci := 6) hK.1 hP rfl zW_b) rfl hl.1 rfl (Nat.le_of_ble_eq_true rfl) dL_law_211 hf (fun H locs hP hQ hS => ?_)
    refine lv_if_lt (tgt := 231) hx hb dL_law_214 (by decide) (fun c214_3 => absurd c214_3 ng) (fun _ => ?_)
    refine lv_aload_n hx hb dL_law_217 rfl (lv_at hl 2 rfl) ?_
    refine lv_iload hx hb dL_law_218 (lv_at hl 0 rfl) ?_
    refine lv_iconst (v := nI 0) hx hb dL_law_220 (by decide) ?_
    have k221 := ct_setBreakpoint2 l D a2 ca hJ2 (va_up Z 1 T2) (nI k) (nI 0) (ivp_t hV hT2).2.2.1 (ivp_t hV hT2).2.2.2.1 (ivp_t hV hT2).1
    rw [(pe_setBreakpoint _ _).1, (pe_setBreakpoint _ _).2] at k221
    refine w2_i (As := [.int (nI k), .int (nI 0)]) (rest := []) ⟨hx, hb, hml, hown, hts⟩ (k221) (cwV 2 hts gL_law_X6_setBreakpoint rfl rfl rfl (by decide +kernel) ⟨Nat.le_of_ble_eq_true rfl, Nat.le_of_ble_eq_true rfl⟩) hK hQ hP hS hz2 hd2 (va_recv (ci := 6) hK.1 hQ rfl zW_b) rfl hl.1 rfl (Nat.le_of_ble_eq_true rfl) dL_law_221 hf (fun H locs hQ hP hS => ?_)
    refine lv_if_lt (tgt := 231) hx hb dL_law_224 (by decide) (fun c224_4 => absurd c224_4 ng) (fun _ => ?_)
    refine lv_iconst (v := nI 1) hx hb dL_law_227 (by decide) ?_
    refine lv_goto (tgt := 232) hx hb dL_law_228 (by decide) ?_
    refine lv_istore_n (lv' := [(3, .int (nI 1)), (4, .int (nI k)), (2, .ref (a2 114)), (1, .ref (a 114)), (0, .ref b)]) hx hb dL_law_232 rfl hl (by decide) rfl (fun ls hl => ?_)
    refine lv_iinc (v := nI (k + 1)) (lv' := [(4, .int (nI (k + 1))), (3, .int (nI 1)), (2, .ref (a2 114)), (1, .ref (a 114)), (0, .ref b)]) hx hb dL_law_233 hl (k := 1) rfl (nI_add _ _) (by decide) rfl (fun ls hl => ?_)
    refine lv_goto (tgt := 196) hx hb dL_law_236 (by decide) ?_
    exact ih (k + 1) _ T T2 _ _ _ (by omega) (pa_setBreakpoint hV _ _) (bk_s hV (by omega) hnb) hT hT2 (lv_sub hl [0, 1, 2, 3, 4] rfl) hP hQ hS
end LV
