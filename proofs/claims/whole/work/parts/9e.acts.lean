/-- what goes on behind a case -/
def LK (p : Program) (l : Launch) (e : Env) (s : State) (m : MethodId) (below : List Frame) (meth : Method) (c : Code) (cells slots : Nat) (Q : State → Prop) (D : va_G) (a am : Nat → Nat) (ca : Nat → ClassId) (b i B : Nat) : Prop :=
  ∀ (Z : Nat → zM) (N A P X : zM) (H : Heap) (locs : List Loc) (ls : Array Slot), IV (B + 200) Z N P X → va_P D vwCl (zW a ca Z) H → va_P D vwCl (mW am (ca 0) (N, A, P, X)) H → va_S (lA s) s.heap H locs → lv_has ls 8 [(0, .ref b), (1, .ref (a 114)), (2, .ref (am 0)), (3, .int (nI i))] → W p l e room_1 s m #[Value.ref b] below meth c H locs cells slots Q (F0 m 1032 ls [])
section LC
variable {p : Program} {l : Launch} {e : Env} {s : State} {m : MethodId} {below : List Frame} {meth : Method} {c : Code} {H : Heap} {locs : List Loc} {cells slots : Nat} {Q : State → Prop}
variable {ls : Array Slot} {D : va_G} {a am : Nat → Nat} {ca : Nat → ClassId} {Z : Nat → zM} {N A P X : zM} {qs qv b L i B : Nat} {xs : Nat → Int32}
set_option maxHeartbeats 4000000 in
set_option maxRecDepth 100000 in
theorem cs_assemble (X0 : LX p s m c b L xs D a ca am qs qv) (hi : i + 4 ≤ L) (hB : B + 700 < 1000000) (hV : IV B Z N P X) (hl : lv_has ls 8 [(0, .ref b), (1, .ref (a 114)), (2, .ref (am 0)), (3, .int (nI i))]) (hP : va_P D vwCl (zW a ca Z) H) (hQ : va_P D vwCl (mW am (ca 0) (N, A, P, X)) H) (hS : va_S (lA s) s.heap H locs) (hf : cells ≤ room_1.cells ∧ slots ≤ room_1.slots) (kk : LK p l e s m below meth c cells slots Q D a am ca b i B) : W p l e room_1 s m #[Value.ref b] below meth c H locs cells slots Q (F0 m 184 ls []) := by
  obtain ⟨hx, hb, hml, hown, hts, hX, hbl, hL, hJ, hM, hK, hKm, hE, hz, hzm, hd⟩ := X0
  have hX0 : zIn (X 0 0) 5 := by
    rw [hV.2.2.1.2.2.1]
    exact hV.2.2.1.2.1
  refine lv_aload_n hx hb dL_law_184 rfl (lv_at hl 1 rfl) ?_
  refine lw_arg hx hb hX hbl hS (lv_at hl 0 rfl) (lv_at hl 3 rfl) (by omega) hL dL_law_185 dL_law_186 dL_law_187 (k := 1) (by decide) dL_law_188 dL_law_189 ?_
  refine w_Zt (As := [.int (lx xs i 1)]) (rest := []) ⟨hx, hb, hml, hown, hts⟩ (ct_assemble2 l D a ca hJ qs qv Z (lx xs i 1) hV.2.2.2.1 hV.2.2.1.1 hV.2.2.1.2.1 hV.2.1) (cwV 1 hts gL_law_X6_assemble rfl rfl rfl (by decide +kernel) ⟨Nat.le_of_ble_eq_true rfl, Nat.le_of_ble_eq_true rfl⟩) hE hK hP hQ hS hz hd (va_recv (ci := 6) hK.1 hP rfl zW_b) rfl hl.1 rfl (Nat.le_of_ble_eq_true rfl) dL_law_190 hf (fun H locs hP hQ hS => ?_)
  refine lv_aload_n hx hb dL_law_193 rfl (lv_at hl 2 rfl) ?_
  refine lw_arg hx hb hX hbl hS (lv_at hl 0 rfl) (lv_at hl 3 rfl) (by omega) hL dL_law_194 dL_law_195 dL_law_196 (k := 1) (by decide) dL_law_197 dL_law_198 ?_
  refine w_Mi (As := [.int (lx xs i 1)]) (rest := [.int (g_assemble2 Z (lx xs i 1))]) ⟨hx, hb, hml, hown, hts⟩ (ct_X7_assemble l D am (ca 0) hM N A P X (lx xs i 1) _ hV.2.2.2.2.1 hX0) (cwV 1 hts gL_law_X7_assemble rfl rfl rfl (by decide +kernel) ⟨Nat.le_of_ble_eq_true rfl, Nat.le_of_ble_eq_true rfl⟩) hKm hP hQ hS hzm hd (va_recv (ci := 7) hKm hQ rfl mG_O) rfl hl.1 rfl (Nat.le_of_ble_eq_true rfl) dL_law_199 hf (fun H locs hP hQ hS => ?_)
  refine lv_icmp_eq (tgt := 1032) hx hb dL_law_202 (by decide) (fun _ => ?_) (fun c9 => absurd (ac_assemble hV (lx xs i 1)).1 c9)
  exact kk _ _ _ _ _ _ _ _ (iv_up (ac_assemble hV (lx xs i 1)).2 (by omega) (by omega)) hP hQ hS hl
set_option maxHeartbeats 4000000 in
set_option maxRecDepth 100000 in
theorem cs_start (X0 : LX p s m c b L xs D a ca am qs qv) (hi : i + 4 ≤ L) (hB : B + 700 < 1000000) (hV : IV B Z N P X) (hl : lv_has ls 8 [(0, .ref b), (1, .ref (a 114)), (2, .ref (am 0)), (3, .int (nI i))]) (hP : va_P D vwCl (zW a ca Z) H) (hQ : va_P D vwCl (mW am (ca 0) (N, A, P, X)) H) (hS : va_S (lA s) s.heap H locs) (hf : cells ≤ room_1.cells ∧ slots ≤ room_1.slots) (kk : LK p l e s m below meth c cells slots Q D a am ca b i B) : W p l e room_1 s m #[Value.ref b] below meth c H locs cells slots Q (F0 m 207 ls []) := by
  obtain ⟨hx, hb, hml, hown, hts, hX, hbl, hL, hJ, hM, hK, hKm, hE, hz, hzm, hd⟩ := X0
  have hX0 : zIn (X 0 0) 5 := by
    rw [hV.2.2.1.2.2.1]
    exact hV.2.2.1.2.1
  refine lv_aload_n hx hb dL_law_207 rfl (lv_at hl 1 rfl) ?_
  refine lw_arg hx hb hX hbl hS (lv_at hl 0 rfl) (lv_at hl 3 rfl) (by omega) hL dL_law_208 dL_law_209 dL_law_210 (k := 1) (by decide) dL_law_211 dL_law_212 ?_
  refine lw_arg hx hb hX hbl hS (lv_at hl 0 rfl) (lv_at hl 3 rfl) (by omega) hL dL_law_213 dL_law_214 dL_law_215 (k := 2) (by decide) dL_law_216 dL_law_217 ?_
  refine w_Zi (As := [.int (lx xs i 1), .int (lx xs i 2)]) (rest := []) ⟨hx, hb, hml, hown, hts⟩ (ct_start2 l D a ca hJ Z (lx xs i 1) (lx xs i 2) hV.2.2.1.1 hV.2.2.1.2.1 hV.2.1) (cwV 2 hts gL_law_X6_start rfl rfl rfl (by decide +kernel) ⟨Nat.le_of_ble_eq_true rfl, Nat.le_of_ble_eq_true rfl⟩) hK hP hQ hS hz hd (va_recv (ci := 6) hK.1 hP rfl zW_b) rfl hl.1 rfl (Nat.le_of_ble_eq_true rfl) dL_law_218 hf (fun H locs hP hQ hS => ?_)
  refine lv_aload_n hx hb dL_law_221 rfl (lv_at hl 2 rfl) ?_
  refine lw_arg hx hb hX hbl hS (lv_at hl 0 rfl) (lv_at hl 3 rfl) (by omega) hL dL_law_222 dL_law_223 dL_law_224 (k := 1) (by decide) dL_law_225 dL_law_226 ?_
  refine lw_arg hx hb hX hbl hS (lv_at hl 0 rfl) (lv_at hl 3 rfl) (by omega) hL dL_law_227 dL_law_228 dL_law_229 (k := 2) (by decide) dL_law_230 dL_law_231 ?_
  refine w_Mi (As := [.int (lx xs i 1), .int (lx xs i 2)]) (rest := [.int (g_start2 Z (lx xs i 1) (lx xs i 2))]) ⟨hx, hb, hml, hown, hts⟩ (ct_X7_start l D am (ca 0) hM N A P X (lx xs i 1) (lx xs i 2) hX0) (cwV 2 hts gL_law_X7_start rfl rfl rfl (by decide +kernel) ⟨Nat.le_of_ble_eq_true rfl, Nat.le_of_ble_eq_true rfl⟩) hKm hP hQ hS hzm hd (va_recv (ci := 7) hKm hQ rfl mG_O) rfl hl.1 rfl (Nat.le_of_ble_eq_true rfl) dL_law_232 hf (fun H locs hP hQ hS => ?_)
  refine lv_icmp_eq (tgt := 1032) hx hb dL_law_235 (by decide) (fun _ => ?_) (fun c9 => absurd (ac_start hV (lx xs i 1) (lx xs i 2)).1 c9)
  exact kk _ _ _ _ _ _ _ _ (iv_up (ac_start hV (lx xs i 1) (lx xs i 2)).2 (by omega) (by omega)) hP hQ hS hl
set_option maxHeartbeats 4000000 in
set_option maxRecDepth 100000 in
theorem cs_halt (X0 : LX p s m c b L xs D a ca am qs qv) (hi : i + 4 ≤ L) (hB : B + 700 < 1000000) (hV : IV B Z N P X) (hl : lv_has ls 8 [(0, .ref b), (1, .ref (a 114)), (2, .ref (am 0)), (3, .int (nI i))]) (hP : va_P D vwCl (zW a ca Z) H) (hQ : va_P D vwCl (mW am (ca 0) (N, A, P, X)) H) (hS : va_S (lA s) s.heap H locs) (hf : cells ≤ room_1.cells ∧ slots ≤ room_1.slots) (kk : LK p l e s m below meth c cells slots Q D a am ca b i B) : W p l e room_1 s m #[Value.ref b] below meth c H locs cells slots Q (F0 m 240 ls []) := by
  obtain ⟨hx, hb, hml, hown, hts, hX, hbl, hL, hJ, hM, hK, hKm, hE, hz, hzm, hd⟩ := X0
  have hX0 : zIn (X 0 0) 5 := by
    rw [hV.2.2.1.2.2.1]
    exact hV.2.2.1.2.1
  refine lv_aload_n hx hb dL_law_240 rfl (lv_at hl 1 rfl) ?_
  refine lw_arg hx hb hX hbl hS (lv_at hl 0 rfl) (lv_at hl 3 rfl) (by omega) hL dL_law_241 dL_law_242 dL_law_243 (k := 1) (by decide) dL_law_244 dL_law_245 ?_
  refine w_Zi (As := [.int (lx xs i 1)]) (rest := []) ⟨hx, hb, hml, hown, hts⟩ (ct_halt2 l D a ca hJ Z (lx xs i 1) hV.2.2.1.1 hV.2.2.1.2.1 hV.2.1) (cwV 1 hts gL_law_X6_halt rfl rfl rfl (by decide +kernel) ⟨Nat.le_of_ble_eq_true rfl, Nat.le_of_ble_eq_true rfl⟩) hK hP hQ hS hz hd (va_recv (ci := 6) hK.1 hP rfl zW_b) rfl hl.1 rfl (Nat.le_of_ble_eq_true rfl) dL_law_246 hf (fun H locs hP hQ hS => ?_)
  refine lv_aload_n hx hb dL_law_249 rfl (lv_at hl 2 rfl) ?_
  refine lw_arg hx hb hX hbl hS (lv_at hl 0 rfl) (lv_at hl 3 rfl) (by omega) hL dL_law_250 dL_law_251 dL_law_252 (k := 1) (by decide) dL_law_253 dL_law_254 ?_
  refine w_Mi (As := [.int (lx xs i 1)]) (rest := [.int (g_halt2 Z (lx xs i 1))]) ⟨hx, hb, hml, hown, hts⟩ (ct_X7_halt l D am (ca 0) hM N A P X (lx xs i 1) hX0) (cwV 1 hts gL_law_X7_halt rfl rfl rfl (by decide +kernel) ⟨Nat.le_of_ble_eq_true rfl, Nat.le_of_ble_eq_true rfl⟩) hKm hP hQ hS hzm hd (va_recv (ci := 7) hKm hQ rfl mG_O) rfl hl.1 rfl (Nat.le_of_ble_eq_true rfl) dL_law_255 hf (fun H locs hP hQ hS => ?_)
  refine lv_icmp_eq (tgt := 1032) hx hb dL_law_258 (by decide) (fun _ => ?_) (fun c9 => absurd (ac_halt hV (lx xs i 1)).1 c9)
  exact kk _ _ _ _ _ _ _ _ (iv_up (ac_halt hV (lx xs i 1)).2 (by omega) (by omega)) hP hQ hS hl
set_option maxHeartbeats 4000000 in
set_option maxRecDepth 100000 in
theorem cs_setRegister (X0 : LX p s m c b L xs D a ca am qs qv) (hi : i + 4 ≤ L) (hB : B + 700 < 1000000) (hV : IV B Z N P X) (hl : lv_has ls 8 [(0, .ref b), (1, .ref (a 114)), (2, .ref (am 0)), (3, .int (nI i))]) (hP : va_P D vwCl (zW a ca Z) H) (hQ : va_P D vwCl (mW am (ca 0) (N, A, P, X)) H) (hS : va_S (lA s) s.heap H locs) (hf : cells ≤ room_1.cells ∧ slots ≤ room_1.slots) (kk : LK p l e s m below meth c cells slots Q D a am ca b i B) : W p l e room_1 s m #[Value.ref b] below meth c H locs cells slots Q (F0 m 263 ls []) := by
  obtain ⟨hx, hb, hml, hown, hts, hX, hbl, hL, hJ, hM, hK, hKm, hE, hz, hzm, hd⟩ := X0
  have hX0 : zIn (X 0 0) 5 := by
    rw [hV.2.2.1.2.2.1]
    exact hV.2.2.1.2.1
  refine lv_aload_n hx hb dL_law_263 rfl (lv_at hl 1 rfl) ?_
  refine lw_arg hx hb hX hbl hS (lv_at hl 0 rfl) (lv_at hl 3 rfl) (by omega) hL dL_law_264 dL_law_265 dL_law_266 (k := 1) (by decide) dL_law_267 dL_law_268 ?_
  refine lw_arg hx hb hX hbl hS (lv_at hl 0 rfl) (lv_at hl 3 rfl) (by omega) hL dL_law_269 dL_law_270 dL_law_271 (k := 2) (by decide) dL_law_272 dL_law_273 ?_
  refine lw_arg hx hb hX hbl hS (lv_at hl 0 rfl) (lv_at hl 3 rfl) (by omega) hL dL_law_274 dL_law_275 dL_law_276 (k := 3) (by decide) dL_law_277 dL_law_278 ?_
  refine w_Zi (As := [.int (lx xs i 1), .int (lx xs i 2), .int (lx xs i 3)]) (rest := []) ⟨hx, hb, hml, hown, hts⟩ (ct_setRegister2 l D a ca hJ Z (lx xs i 1) (lx xs i 2) (lx xs i 3) hV.2.2.1.1 hV.2.2.1.2.1 hV.2.1) (cwV 3 hts gL_law_X6_setRegister rfl rfl rfl (by decide +kernel) ⟨Nat.le_of_ble_eq_true rfl, Nat.le_of_ble_eq_true rfl⟩) hK hP hQ hS hz hd (va_recv (ci := 6) hK.1 hP rfl zW_b) rfl hl.1 rfl (Nat.le_of_ble_eq_true rfl) dL_law_279 hf (fun H locs hP hQ hS => ?_)
  refine lv_aload_n hx hb dL_law_282 rfl (lv_at hl 2 rfl) ?_
  refine lw_arg hx hb hX hbl hS (lv_at hl 0 rfl) (lv_at hl 3 rfl) (by omega) hL dL_law_283 dL_law_284 dL_law_285 (k := 1) (by decide) dL_law_286 dL_law_287 ?_
  refine lw_arg hx hb hX hbl hS (lv_at hl 0 rfl) (lv_at hl 3 rfl) (by omega) hL dL_law_288 dL_law_289 dL_law_290 (k := 2) (by decide) dL_law_291 dL_law_292 ?_
  refine lw_arg hx hb hX hbl hS (lv_at hl 0 rfl) (lv_at hl 3 rfl) (by omega) hL dL_law_293 dL_law_294 dL_law_295 (k := 3) (by decide) dL_law_296 dL_law_297 ?_
  refine w_Mi (As := [.int (lx xs i 1), .int (lx xs i 2), .int (lx xs i 3)]) (rest := [.int (g_setRegister2 Z (lx xs i 1) (lx xs i 2) (lx xs i 3))]) ⟨hx, hb, hml, hown, hts⟩ (ct_X7_setRegister l D am (ca 0) hM N A P X (lx xs i 1) (lx xs i 2) (lx xs i 3) hX0) (cwV 3 hts gL_law_X7_setRegister rfl rfl rfl (by decide +kernel) ⟨Nat.le_of_ble_eq_true rfl, Nat.le_of_ble_eq_true rfl⟩) hKm hP hQ hS hzm hd (va_recv (ci := 7) hKm hQ rfl mG_O) rfl hl.1 rfl (Nat.le_of_ble_eq_true rfl) dL_law_298 hf (fun H locs hP hQ hS => ?_)
  refine lv_icmp_eq (tgt := 1032) hx hb dL_law_301 (by decide) (fun _ => ?_) (fun c9 => absurd (ac_setRegister hV (lx xs i 1) (lx xs i 2) (lx xs i 3)).1 c9)
  exact kk _ _ _ _ _ _ _ _ (iv_up (ac_setRegister hV (lx xs i 1) (lx xs i 2) (lx xs i 3)).2 (by omega) (by omega)) hP hQ hS hl
set_option maxHeartbeats 4000000 in
set_option maxRecDepth 100000 in
theorem cs_setWord (X0 : LX p s m c b L xs D a ca am qs qv) (hi : i + 4 ≤ L) (hB : B + 700 < 1000000) (hV : IV B Z N P X) (hl : lv_has ls 8 [(0, .ref b), (1, .ref (a 114)), (2, .ref (am 0)), (3, .int (nI i))]) (hP : va_P D vwCl (zW a ca Z) H) (hQ : va_P D vwCl (mW am (ca 0) (N, A, P, X)) H) (hS : va_S (lA s) s.heap H locs) (hf : cells ≤ room_1.cells ∧ slots ≤ room_1.slots) (kk : LK p l e s m below meth c cells slots Q D a am ca b i B) : W p l e room_1 s m #[Value.ref b] below meth c H locs cells slots Q (F0 m 306 ls []) := by
  obtain ⟨hx, hb, hml, hown, hts, hX, hbl, hL, hJ, hM, hK, hKm, hE, hz, hzm, hd⟩ := X0
  have hX0 : zIn (X 0 0) 5 := by
    rw [hV.2.2.1.2.2.1]
    exact hV.2.2.1.2.1
  refine lv_aload_n hx hb dL_law_306 rfl (lv_at hl 1 rfl) ?_
  refine lw_arg hx hb hX hbl hS (lv_at hl 0 rfl) (lv_at hl 3 rfl) (by omega) hL dL_law_307 dL_law_308 dL_law_309 (k := 1) (by decide) dL_law_310 dL_law_311 ?_
  refine lw_arg hx hb hX hbl hS (lv_at hl 0 rfl) (lv_at hl 3 rfl) (by omega) hL dL_law_312 dL_law_313 dL_law_314 (k := 2) (by decide) dL_law_315 dL_law_316 ?_
  refine w_Zi (As := [.int (lx xs i 1), .int (lx xs i 2)]) (rest := []) ⟨hx, hb, hml, hown, hts⟩ (ct_setWord2 l D a ca hJ Z (lx xs i 1) (lx xs i 2) hV.2.2.1.1 hV.2.2.1.2.1 hV.2.1) (cwV 2 hts gL_law_X6_setWord rfl rfl rfl (by decide +kernel) ⟨Nat.le_of_ble_eq_true rfl, Nat.le_of_ble_eq_true rfl⟩) hK hP hQ hS hz hd (va_recv (ci := 6) hK.1 hP rfl zW_b) rfl hl.1 rfl (Nat.le_of_ble_eq_true rfl) dL_law_317 hf (fun H locs hP hQ hS => ?_)
  refine lv_aload_n hx hb dL_law_320 rfl (lv_at hl 2 rfl) ?_
  refine lw_arg hx hb hX hbl hS (lv_at hl 0 rfl) (lv_at hl 3 rfl) (by omega) hL dL_law_321 dL_law_322 dL_law_323 (k := 1) (by decide) dL_law_324 dL_law_325 ?_
  refine lw_arg hx hb hX hbl hS (lv_at hl 0 rfl) (lv_at hl 3 rfl) (by omega) hL dL_law_326 dL_law_327 dL_law_328 (k := 2) (by decide) dL_law_329 dL_law_330 ?_
  refine w_Mi (As := [.int (lx xs i 1), .int (lx xs i 2)]) (rest := [.int (g_setWord2 Z (lx xs i 1) (lx xs i 2))]) ⟨hx, hb, hml, hown, hts⟩ (ct_X7_setWord l D am (ca 0) hM N A P X (lx xs i 1) (lx xs i 2) hX0) (cwV 2 hts gL_law_X7_setWord rfl rfl rfl (by decide +kernel) ⟨Nat.le_of_ble_eq_true rfl, Nat.le_of_ble_eq_true rfl⟩) hKm hP hQ hS hzm hd (va_recv (ci := 7) hKm hQ rfl mG_O) rfl hl.1 rfl (Nat.le_of_ble_eq_true rfl) dL_law_331 hf (fun H locs hP hQ hS => ?_)
  refine lv_icmp_eq (tgt := 1032) hx hb dL_law_334 (by decide) (fun _ => ?_) (fun c9 => absurd (ac_setWord hV (lx xs i 1) (lx xs i 2)).1 c9)
  exact kk _ _ _ _ _ _ _ _ (iv_up (ac_setWord hV (lx xs i 1) (lx xs i 2)).2 (by omega) (by omega)) hP hQ hS hl
set_option maxHeartbeats 4000000 in
set_option maxRecDepth 100000 in
theorem cs_setSlot (X0 : LX p s m c b L xs D a ca am qs qv) (hi : i + 4 ≤ L) (hB : B + 700 < 1000000) (hV : IV B Z N P X) (hl : lv_has ls 8 [(0, .ref b), (1, .ref (a 114)), (2, .ref (am 0)), (3, .int (nI i))]) (hP : va_P D vwCl (zW a ca Z) H) (hQ : va_P D vwCl (mW am (ca 0) (N, A, P, X)) H) (hS : va_S (lA s) s.heap H locs) (hf : cells ≤ room_1.cells ∧ slots ≤ room_1.slots) (kk : LK p l e s m below meth c cells slots Q D a am ca b i B) : W p l e room_1 s m #[Value.ref b] below meth c H locs cells slots Q (F0 m 339 ls []) := by
  obtain ⟨hx, hb, hml, hown, hts, hX, hbl, hL, hJ, hM, hK, hKm, hE, hz, hzm, hd⟩ := X0
  have hX0 : zIn (X 0 0) 5 := by
    rw [hV.2.2.1.2.2.1]
    exact hV.2.2.1.2.1
  refine lv_aload_n hx hb dL_law_339 rfl (lv_at hl 1 rfl) ?_
  refine lw_arg hx hb hX hbl hS (lv_at hl 0 rfl) (lv_at hl 3 rfl) (by omega) hL dL_law_340 dL_law_341 dL_law_342 (k := 1) (by decide) dL_law_343 dL_law_344 ?_
  refine lw_arg hx hb hX hbl hS (lv_at hl 0 rfl) (lv_at hl 3 rfl) (by omega) hL dL_law_345 dL_law_346 dL_law_347 (k := 2) (by decide) dL_law_348 dL_law_349 ?_
  refine w_Zi (As := [.int (lx xs i 1), .int (lx xs i 2)]) (rest := []) ⟨hx, hb, hml, hown, hts⟩ (ct_setSlot2 l D a ca hJ Z (lx xs i 1) (lx xs i 2) hV.2.2.1.1 hV.2.2.1.2.1 hV.2.1) (cwV 2 hts gL_law_X6_setSlot rfl rfl rfl (by decide +kernel) ⟨Nat.le_of_ble_eq_true rfl, Nat.le_of_ble_eq_true rfl⟩) hK hP hQ hS hz hd (va_recv (ci := 6) hK.1 hP rfl zW_b) rfl hl.1 rfl (Nat.le_of_ble_eq_true rfl) dL_law_350 hf (fun H locs hP hQ hS => ?_)
  refine lv_aload_n hx hb dL_law_353 rfl (lv_at hl 2 rfl) ?_
  refine lw_arg hx hb hX hbl hS (lv_at hl 0 rfl) (lv_at hl 3 rfl) (by omega) hL dL_law_354 dL_law_355 dL_law_356 (k := 1) (by decide) dL_law_357 dL_law_358 ?_
  refine lw_arg hx hb hX hbl hS (lv_at hl 0 rfl) (lv_at hl 3 rfl) (by omega) hL dL_law_359 dL_law_360 dL_law_361 (k := 2) (by decide) dL_law_362 dL_law_363 ?_
  refine w_Mi (As := [.int (lx xs i 1), .int (lx xs i 2)]) (rest := [.int (g_setSlot2 Z (lx xs i 1) (lx xs i 2))]) ⟨hx, hb, hml, hown, hts⟩ (ct_X7_setSlot l D am (ca 0) hM N A P X (lx xs i 1) (lx xs i 2) hX0) (cwV 2 hts gL_law_X7_setSlot rfl rfl rfl (by decide +kernel) ⟨Nat.le_of_ble_eq_true rfl, Nat.le_of_ble_eq_true rfl⟩) hKm hP hQ hS hzm hd (va_recv (ci := 7) hKm hQ rfl mG_O) rfl hl.1 rfl (Nat.le_of_ble_eq_true rfl) dL_law_364 hf (fun H locs hP hQ hS => ?_)
  refine lv_icmp_eq (tgt := 1032) hx hb dL_law_367 (by decide) (fun _ => ?_) (fun c9 => absurd (ac_setSlot hV (lx xs i 1) (lx xs i 2)).1 c9)
  exact kk _ _ _ _ _ _ _ _ (iv_up (ac_setSlot hV (lx xs i 1) (lx xs i 2)).2 (by omega) (by omega)) hP hQ hS hl
set_option maxHeartbeats 4000000 in
set_option maxRecDepth 100000 in
theorem cs_set (X0 : LX p s m c b L xs D a ca am qs qv) (hi : i + 4 ≤ L) (hB : B + 700 < 1000000) (hV : IV B Z N P X) (hl : lv_has ls 8 [(0, .ref b), (1, .ref (a 114)), (2, .ref (am 0)), (3, .int (nI i))]) (hP : va_P D vwCl (zW a ca Z) H) (hQ : va_P D vwCl (mW am (ca 0) (N, A, P, X)) H) (hS : va_S (lA s) s.heap H locs) (hf : cells ≤ room_1.cells ∧ slots ≤ room_1.slots) (kk : LK p l e s m below meth c cells slots Q D a am ca b i B) : W p l e room_1 s m #[Value.ref b] below meth c H locs cells slots Q (F0 m 372 ls []) := by
  obtain ⟨hx, hb, hml, hown, hts, hX, hbl, hL, hJ, hM, hK, hKm, hE, hz, hzm, hd⟩ := X0
  have hX0 : zIn (X 0 0) 5 := by
    rw [hV.2.2.1.2.2.1]
    exact hV.2.2.1.2.1
  refine lv_aload_n hx hb dL_law_372 rfl (lv_at hl 1 rfl) ?_
  refine lw_arg hx hb hX hbl hS (lv_at hl 0 rfl) (lv_at hl 3 rfl) (by omega) hL dL_law_373 dL_law_374 dL_law_375 (k := 1) (by decide) dL_law_376 dL_law_377 ?_
  refine lw_arg hx hb hX hbl hS (lv_at hl 0 rfl) (lv_at hl 3 rfl) (by omega) hL dL_law_378 dL_law_379 dL_law_380 (k := 2) (by decide) dL_law_381 dL_law_382 ?_
  refine w_Zi (As := [.int (lx xs i 1), .int (lx xs i 2)]) (rest := []) ⟨hx, hb, hml, hown, hts⟩ (ct_set2 l D a ca hJ Z (lx xs i 1) (lx xs i 2) hV.2.2.1.1 hV.2.2.1.2.1 hV.2.1) (cwV 2 hts gL_law_X6_set rfl rfl rfl (by decide +kernel) ⟨Nat.le_of_ble_eq_true rfl, Nat.le_of_ble_eq_true rfl⟩) hK hP hQ hS hz hd (va_recv (ci := 6) hK.1 hP rfl zW_b) rfl hl.1 rfl (Nat.le_of_ble_eq_true rfl) dL_law_383 hf (fun H locs hP hQ hS => ?_)
  refine lv_aload_n hx hb dL_law_386 rfl (lv_at hl 2 rfl) ?_
  refine lw_arg hx hb hX hbl hS (lv_at hl 0 rfl) (lv_at hl 3 rfl) (by omega) hL dL_law_387 dL_law_388 dL_law_389 (k := 1) (by decide) dL_law_390 dL_law_391 ?_
  refine lw_arg hx hb hX hbl hS (lv_at hl 0 rfl) (lv_at hl 3 rfl) (by omega) hL dL_law_392 dL_law_393 dL_law_394 (k := 2) (by decide) dL_law_395 dL_law_396 ?_
  refine w_Mi (As := [.int (lx xs i 1), .int (lx xs i 2)]) (rest := [.int (g_set2 Z (lx xs i 1) (lx xs i 2))]) ⟨hx, hb, hml, hown, hts⟩ (ct_X7_set l D am (ca 0) hM N A P X (lx xs i 1) (lx xs i 2) hX0) (cwV 2 hts gL_law_X7_set rfl rfl rfl (by decide +kernel) ⟨Nat.le_of_ble_eq_true rfl, Nat.le_of_ble_eq_true rfl⟩) hKm hP hQ hS hzm hd (va_recv (ci := 7) hKm hQ rfl mG_O) rfl hl.1 rfl (Nat.le_of_ble_eq_true rfl) dL_law_397 hf (fun H locs hP hQ hS => ?_)
  refine lv_icmp_eq (tgt := 1032) hx hb dL_law_400 (by decide) (fun _ => ?_) (fun c9 => absurd (ac_set hV (lx xs i 1) (lx xs i 2)).1 c9)
  exact kk _ _ _ _ _ _ _ _ (iv_up (ac_set hV (lx xs i 1) (lx xs i 2)).2 (by omega) (by omega)) hP hQ hS hl
set_option maxHeartbeats 4000000 in
set_option maxRecDepth 100000 in
theorem cs_setBreakpoint (X0 : LX p s m c b L xs D a ca am qs qv) (hi : i + 4 ≤ L) (hB : B + 700 < 1000000) (hV : IV B Z N P X) (hl : lv_has ls 8 [(0, .ref b), (1, .ref (a 114)), (2, .ref (am 0)), (3, .int (nI i))]) (hP : va_P D vwCl (zW a ca Z) H) (hQ : va_P D vwCl (mW am (ca 0) (N, A, P, X)) H) (hS : va_S (lA s) s.heap H locs) (hf : cells ≤ room_1.cells ∧ slots ≤ room_1.slots) (kk : LK p l e s m below meth c cells slots Q D a am ca b i B) : W p l e room_1 s m #[Value.ref b] below meth c H locs cells slots Q (F0 m 405 ls []) := by
  obtain ⟨hx, hb, hml, hown, hts, hX, hbl, hL, hJ, hM, hK, hKm, hE, hz, hzm, hd⟩ := X0
  have hX0 : zIn (X 0 0) 5 := by
    rw [hV.2.2.1.2.2.1]
    exact hV.2.2.1.2.1
  refine lv_aload_n hx hb dL_law_405 rfl (lv_at hl 1 rfl) ?_
  refine lw_arg hx hb hX hbl hS (lv_at hl 0 rfl) (lv_at hl 3 rfl) (by omega) hL dL_law_406 dL_law_407 dL_law_408 (k := 1) (by decide) dL_law_409 dL_law_410 ?_
  refine lw_arg hx hb hX hbl hS (lv_at hl 0 rfl) (lv_at hl 3 rfl) (by omega) hL dL_law_411 dL_law_412 dL_law_413 (k := 2) (by decide) dL_law_414 dL_law_415 ?_
  refine lw_bool hx hb dL_law_416 dL_law_419 dL_law_420 dL_law_423 ?_
  refine w_Zi (As := [.int (lx xs i 1), .int (bz (lx xs i 2))]) (rest := []) ⟨hx, hb, hml, hown, hts⟩ (ct_setBreakpoint2 l D a ca hJ Z (lx xs i 1) (bz (lx xs i 2)) hV.2.2.1.1 hV.2.2.1.2.1 hV.2.1) (cwV 2 hts gL_law_X6_setBreakpoint rfl rfl rfl (by decide +kernel) ⟨Nat.le_of_ble_eq_true rfl, Nat.le_of_ble_eq_true rfl⟩) hK hP hQ hS hz hd (va_recv (ci := 6) hK.1 hP rfl zW_b) rfl hl.1 rfl (Nat.le_of_ble_eq_true rfl) dL_law_424 hf (fun H locs hP hQ hS => ?_)
  refine lv_aload_n hx hb dL_law_427 rfl (lv_at hl 2 rfl) ?_
  refine lw_arg hx hb hX hbl hS (lv_at hl 0 rfl) (lv_at hl 3 rfl) (by omega) hL dL_law_428 dL_law_429 dL_law_430 (k := 1) (by decide) dL_law_431 dL_law_432 ?_
  refine lw_arg hx hb hX hbl hS (lv_at hl 0 rfl) (lv_at hl 3 rfl) (by omega) hL dL_law_433 dL_law_434 dL_law_435 (k := 2) (by decide) dL_law_436 dL_law_437 ?_
  refine lw_bool hx hb dL_law_438 dL_law_441 dL_law_442 dL_law_445 ?_
  refine w_Mi (As := [.int (lx xs i 1), .int (bz (lx xs i 2))]) (rest := [.int (g_setBreakpoint2 Z (lx xs i 1) (bz (lx xs i 2)))]) ⟨hx, hb, hml, hown, hts⟩ (ct_X7_setBreakpoint l D am (ca 0) hM N A P X (lx xs i 1) (bz (lx xs i 2)) hX0) (cwV 2 hts gL_law_X7_setBreakpoint rfl rfl rfl (by decide +kernel) ⟨Nat.le_of_ble_eq_true rfl, Nat.le_of_ble_eq_true rfl⟩) hKm hP hQ hS hzm hd (va_recv (ci := 7) hKm hQ rfl mG_O) rfl hl.1 rfl (Nat.le_of_ble_eq_true rfl) dL_law_446 hf (fun H locs hP hQ hS => ?_)
  refine lv_icmp_eq (tgt := 1032) hx hb dL_law_449 (by decide) (fun _ => ?_) (fun c9 => absurd (ac_setBreakpoint hV (lx xs i 1) (bz (lx xs i 2))).1 c9)
  exact kk _ _ _ _ _ _ _ _ (iv_up (ac_setBreakpoint hV (lx xs i 1) (bz (lx xs i 2))).2 (by omega) (by omega)) hP hQ hS hl
set_option maxHeartbeats 4000000 in
set_option maxRecDepth 100000 in
theorem cs_run (X0 : LX p s m c b L xs D a ca am qs qv) (hi : i + 4 ≤ L) (hB : B + 700 < 1000000) (hV : IV B Z N P X) (hl : lv_has ls 8 [(0, .ref b), (1, .ref (a 114)), (2, .ref (am 0)), (3, .int (nI i))]) (hP : va_P D vwCl (zW a ca Z) H) (hQ : va_P D vwCl (mW am (ca 0) (N, A, P, X)) H) (hS : va_S (lA s) s.heap H locs) (hf : cells ≤ room_1.cells ∧ slots ≤ room_1.slots) (kk : LK p l e s m below meth c cells slots Q D a am ca b i B) : W p l e room_1 s m #[Value.ref b] below meth c H locs cells slots Q (F0 m 454 ls []) := by
  obtain ⟨hx, hb, hml, hown, hts, hX, hbl, hL, hJ, hM, hK, hKm, hE, hz, hzm, hd⟩ := X0
  have hX0 : zIn (X 0 0) 5 := by
    rw [hV.2.2.1.2.2.1]
    exact hV.2.2.1.2.1
  refine lv_aload_n hx hb dL_law_454 rfl (lv_at hl 1 rfl) ?_
  refine lw_arg hx hb hX hbl hS (lv_at hl 0 rfl) (lv_at hl 3 rfl) (by omega) hL dL_law_455 dL_law_456 dL_law_457 (k := 1) (by decide) dL_law_458 dL_law_459 ?_
  refine w_Zi (As := [.int (lx xs i 1)]) (rest := []) ⟨hx, hb, hml, hown, hts⟩ (ct_run2 l D a ca hJ Z (lx xs i 1) hV.2.2.1.1 hV.2.2.1.2.1 hV.2.1 hV.1.2.1) (cwV 1 hts gL_law_X6_run rfl rfl rfl (by decide +kernel) ⟨Nat.le_of_ble_eq_true rfl, Nat.le_of_ble_eq_true rfl⟩) hK hP hQ hS hz hd (va_recv (ci := 6) hK.1 hP rfl zW_b) rfl hl.1 rfl (Nat.le_of_ble_eq_true rfl) dL_law_460 hf (fun H locs hP hQ hS => ?_)
  refine lv_aload_n hx hb dL_law_463 rfl (lv_at hl 2 rfl) ?_
  refine lw_arg hx hb hX hbl hS (lv_at hl 0 rfl) (lv_at hl 3 rfl) (by omega) hL dL_law_464 dL_law_465 dL_law_466 (k := 1) (by decide) dL_law_467 dL_law_468 ?_
  refine w_Mi (As := [.int (lx xs i 1)]) (rest := [.int (g_run2 Z (lx xs i 1))]) ⟨hx, hb, hml, hown, hts⟩ (ct_X7_run l D am (ca 0) hM N A P X (lx xs i 1) B hV.1.2.2.2 (by omega) hX0) (cwV 1 hts gL_law_X7_run rfl rfl rfl (by decide +kernel) ⟨Nat.le_of_ble_eq_true rfl, Nat.le_of_ble_eq_true rfl⟩) hKm hP hQ hS hzm hd (va_recv (ci := 7) hKm hQ rfl mG_O) rfl hl.1 rfl (Nat.le_of_ble_eq_true rfl) dL_law_469 hf (fun H locs hP hQ hS => ?_)
  refine lv_icmp_eq (tgt := 1032) hx hb dL_law_472 (by decide) (fun _ => ?_) (fun c9 => absurd (ac_run hV (by omega) A (lx xs i 1)).1 c9)
  exact kk _ _ _ _ _ _ _ _ (ac_run hV (by omega) A (lx xs i 1)).2 hP hQ hS hl
set_option maxHeartbeats 4000000 in
set_option maxRecDepth 100000 in
theorem cs_append (X0 : LX p s m c b L xs D a ca am qs qv) (hi : i + 4 ≤ L) (hB : B + 700 < 1000000) (hV : IV B Z N P X) (hl : lv_has ls 8 [(0, .ref b), (1, .ref (a 114)), (2, .ref (am 0)), (3, .int (nI i))]) (hP : va_P D vwCl (zW a ca Z) H) (hQ : va_P D vwCl (mW am (ca 0) (N, A, P, X)) H) (hS : va_S (lA s) s.heap H locs) (hf : cells ≤ room_1.cells ∧ slots ≤ room_1.slots) (kk : LK p l e s m below meth c cells slots Q D a am ca b i B) : W p l e room_1 s m #[Value.ref b] below meth c H locs cells slots Q (F0 m 477 ls []) := by
  obtain ⟨hx, hb, hml, hown, hts, hX, hbl, hL, hJ, hM, hK, hKm, hE, hz, hzm, hd⟩ := X0
  have hX0 : zIn (X 0 0) 5 := by
    rw [hV.2.2.1.2.2.1]
    exact hV.2.2.1.2.1
  refine lv_aload_n hx hb dL_law_477 rfl (lv_at hl 1 rfl) ?_
  refine lw_arg hx hb hX hbl hS (lv_at hl 0 rfl) (lv_at hl 3 rfl) (by omega) hL dL_law_478 dL_law_479 dL_law_480 (k := 1) (by decide) dL_law_481 dL_law_482 ?_
  refine w_Zi (As := [.int (lx xs i 1)]) (rest := []) ⟨hx, hb, hml, hown, hts⟩ (ct_X6_append l D a ca hJ Z (lx xs i 1) hV.2.2.2.1) (cwV 1 hts gL_law_X6_append rfl rfl rfl (by decide +kernel) ⟨Nat.le_of_ble_eq_true rfl, Nat.le_of_ble_eq_true rfl⟩) hK hP hQ hS hz hd (va_recv (ci := 6) hK.1 hP rfl zW_b) rfl hl.1 rfl (Nat.le_of_ble_eq_true rfl) dL_law_483 hf (fun H locs hP hQ hS => ?_)
  refine lv_aload_n hx hb dL_law_486 rfl (lv_at hl 2 rfl) ?_
  refine lw_arg hx hb hX hbl hS (lv_at hl 0 rfl) (lv_at hl 3 rfl) (by omega) hL dL_law_487 dL_law_488 dL_law_489 (k := 1) (by decide) dL_law_490 dL_law_491 ?_
  refine w_Mi (As := [.int (lx xs i 1)]) (rest := [.int (g_X6_append Z (lx xs i 1))]) ⟨hx, hb, hml, hown, hts⟩ (ct_X7_append l D am (ca 0) hM N A P X (lx xs i 1) hV.2.2.2.2.1.1) (cwV 1 hts gL_law_X7_append rfl rfl rfl (by decide +kernel) ⟨Nat.le_of_ble_eq_true rfl, Nat.le_of_ble_eq_true rfl⟩) hKm hP hQ hS hzm hd (va_recv (ci := 7) hKm hQ rfl mG_O) rfl hl.1 rfl (Nat.le_of_ble_eq_true rfl) dL_law_492 hf (fun H locs hP hQ hS => ?_)
  refine lv_icmp_eq (tgt := 1032) hx hb dL_law_495 (by decide) (fun _ => ?_) (fun c9 => absurd (ac_append hV (lx xs i 1)).1 c9)
  exact kk _ _ _ _ _ _ _ _ (iv_up (ac_append hV (lx xs i 1)).2 (by omega) (by omega)) hP hQ hS hl
set_option maxHeartbeats 4000000 in
set_option maxRecDepth 100000 in
theorem cs_clearText (X0 : LX p s m c b L xs D a ca am qs qv) (hi : i + 4 ≤ L) (hB : B + 700 < 1000000) (hV : IV B Z N P X) (hl : lv_has ls 8 [(0, .ref b), (1, .ref (a 114)), (2, .ref (am 0)), (3, .int (nI i))]) (hP : va_P D vwCl (zW a ca Z) H) (hQ : va_P D vwCl (mW am (ca 0) (N, A, P, X)) H) (hS : va_S (lA s) s.heap H locs) (hf : cells ≤ room_1.cells ∧ slots ≤ room_1.slots) (kk : LK p l e s m below meth c cells slots Q D a am ca b i B) : W p l e room_1 s m #[Value.ref b] below meth c H locs cells slots Q (F0 m 500 ls []) := by
  obtain ⟨hx, hb, hml, hown, hts, hX, hbl, hL, hJ, hM, hK, hKm, hE, hz, hzm, hd⟩ := X0
  have hX0 : zIn (X 0 0) 5 := by
    rw [hV.2.2.1.2.2.1]
    exact hV.2.2.1.2.1
  refine lv_aload_n hx hb dL_law_500 rfl (lv_at hl 1 rfl) ?_
  refine w_Zi (As := []) (rest := []) ⟨hx, hb, hml, hown, hts⟩ (ct_X6_clearText l D a ca hJ Z) (cwV 0 hts gL_law_X6_clearText rfl rfl rfl (by decide +kernel) ⟨Nat.le_of_ble_eq_true rfl, Nat.le_of_ble_eq_true rfl⟩) hK hP hQ hS hz hd (va_recv (ci := 6) hK.1 hP rfl zW_b) rfl hl.1 rfl (Nat.le_of_ble_eq_true rfl) dL_law_501 hf (fun H locs hP hQ hS => ?_)
  refine lv_aload_n hx hb dL_law_504 rfl (lv_at hl 2 rfl) ?_
  refine w_Mi (As := []) (rest := [.int (g_X6_clearText Z)]) ⟨hx, hb, hml, hown, hts⟩ (ct_X7_clearText l D am (ca 0) hM N A P X) (cwV 0 hts gL_law_X7_clearText rfl rfl rfl (by decide +kernel) ⟨Nat.le_of_ble_eq_true rfl, Nat.le_of_ble_eq_true rfl⟩) hKm hP hQ hS hzm hd (va_recv (ci := 7) hKm hQ rfl mG_O) rfl hl.1 rfl (Nat.le_of_ble_eq_true rfl) dL_law_505 hf (fun H locs hP hQ hS => ?_)
  refine lv_icmp_eq (tgt := 1032) hx hb dL_law_508 (by decide) (fun _ => ?_) (fun c9 => absurd (ac_clearText hV).1 c9)
  exact kk _ _ _ _ _ _ _ _ (iv_up (ac_clearText hV).2 (by omega) (by omega)) hP hQ hS hl
set_option maxHeartbeats 4000000 in
set_option maxRecDepth 100000 in
theorem cs_fault (X0 : LX p s m c b L xs D a ca am qs qv) (hi : i + 4 ≤ L) (hB : B + 700 < 1000000) (hV : IV B Z N P X) (hl : lv_has ls 8 [(0, .ref b), (1, .ref (a 114)), (2, .ref (am 0)), (3, .int (nI i))]) (hP : va_P D vwCl (zW a ca Z) H) (hQ : va_P D vwCl (mW am (ca 0) (N, A, P, X)) H) (hS : va_S (lA s) s.heap H locs) (hf : cells ≤ room_1.cells ∧ slots ≤ room_1.slots) (kk : LK p l e s m below meth c cells slots Q D a am ca b i B) : W p l e room_1 s m #[Value.ref b] below meth c H locs cells slots Q (F0 m 513 ls []) := by
  obtain ⟨hx, hb, hml, hown, hts, hX, hbl, hL, hJ, hM, hK, hKm, hE, hz, hzm, hd⟩ := X0
  have hX0 : zIn (X 0 0) 5 := by
    rw [hV.2.2.1.2.2.1]
    exact hV.2.2.1.2.1
  refine lv_aload_n hx hb dL_law_513 rfl (lv_at hl 1 rfl) ?_
  refine w_Zt (As := []) (rest := []) ⟨hx, hb, hml, hown, hts⟩ (ct_X6_fault l D a ca hJ qs qv Z  hV.2.2.2.1) (cwV 0 hts gL_law_X6_fault rfl rfl rfl (by decide +kernel) ⟨Nat.le_of_ble_eq_true rfl, Nat.le_of_ble_eq_true rfl⟩) hE hK hP hQ hS hz hd (va_recv (ci := 6) hK.1 hP rfl zW_b) rfl hl.1 rfl (Nat.le_of_ble_eq_true rfl) dL_law_514 hf (fun H locs hP hQ hS => ?_)
  refine lv_aload_n hx hb dL_law_517 rfl (lv_at hl 2 rfl) ?_
  refine w_Mi (As := []) (rest := [.int (g_X6_fault Z)]) ⟨hx, hb, hml, hown, hts⟩ (ct_X7_fault l D am (ca 0) hM N A P X _ hV.2.2.2.2.1) (cwV 0 hts gL_law_X7_fault rfl rfl rfl (by decide +kernel) ⟨Nat.le_of_ble_eq_true rfl, Nat.le_of_ble_eq_true rfl⟩) hKm hP hQ hS hzm hd (va_recv (ci := 7) hKm hQ rfl mG_O) rfl hl.1 rfl (Nat.le_of_ble_eq_true rfl) dL_law_518 hf (fun H locs hP hQ hS => ?_)
  refine lv_icmp_eq (tgt := 1032) hx hb dL_law_521 (by decide) (fun _ => ?_) (fun c9 => absurd (ac_fault hV).1 c9)
  exact kk _ _ _ _ _ _ _ _ (iv_up (ac_fault hV).2 (by omega) (by omega)) hP hQ hS hl
set_option maxHeartbeats 4000000 in
set_option maxRecDepth 100000 in
theorem cs_undo (X0 : LX p s m c b L xs D a ca am qs qv) (hi : i + 4 ≤ L) (hB : B + 700 < 1000000) (hV : IV B Z N P X) (hl : lv_has ls 8 [(0, .ref b), (1, .ref (a 114)), (2, .ref (am 0)), (3, .int (nI i))]) (hP : va_P D vwCl (zW a ca Z) H) (hQ : va_P D vwCl (mW am (ca 0) (N, A, P, X)) H) (hS : va_S (lA s) s.heap H locs) (hf : cells ≤ room_1.cells ∧ slots ≤ room_1.slots) (kk : LK p l e s m below meth c cells slots Q D a am ca b i B) : W p l e room_1 s m #[Value.ref b] below meth c H locs cells slots Q (F0 m 526 ls []) := by
  obtain ⟨hx, hb, hml, hown, hts, hX, hbl, hL, hJ, hM, hK, hKm, hE, hz, hzm, hd⟩ := X0
  have hX0 : zIn (X 0 0) 5 := by
    rw [hV.2.2.1.2.2.1]
    exact hV.2.2.1.2.1
  by_cases hc : zc (Z 6 0 1) = 0
  · obtain ⟨u1, u2, u3⟩ := ac_undo0 hV hc
    refine lv_aload_n hx hb dL_law_526 rfl (lv_at hl 1 rfl) ?_
    refine w_Zi (As := []) (rest := []) ⟨hx, hb, hml, hown, hts⟩ (ct_undo2 l D a ca hJ Z hV.2.2.1.1 hV.2.2.1.2.1 hV.2.1) (cwV 0 hts gL_law_X6_undo rfl rfl rfl (by decide +kernel) ⟨Nat.le_of_ble_eq_true rfl, Nat.le_of_ble_eq_true rfl⟩) hK hP hQ hS hz hd (va_recv (ci := 6) hK.1 hP rfl zW_b) rfl hl.1 rfl (Nat.le_of_ble_eq_true rfl) dL_law_527 hf (fun H locs hP hQ hS => ?_)
    refine lv_aload_n hx hb dL_law_530 rfl (lv_at hl 2 rfl) ?_
    refine w_Mi (As := []) (rest := [.int (g_undo2 Z)]) ⟨hx, hb, hml, hown, hts⟩ (ct_X7_undo0 l D am (ca 0) hM N A P X u1) (cwV 0 hts gL_law_X7_undo rfl rfl rfl (by decide +kernel) ⟨Nat.le_of_ble_eq_true rfl, Nat.le_of_ble_eq_true rfl⟩) hKm hP hQ hS hzm hd (va_recv (ci := 7) hKm hQ rfl mG_O) rfl hl.1 rfl (Nat.le_of_ble_eq_true rfl) dL_law_531 hf (fun H locs hP hQ hS => ?_)
    refine lv_icmp_eq (tgt := 1032) hx hb dL_law_534 (by decide) (fun _ => ?_) (fun c9 => absurd u2 c9)
    exact kk _ _ _ _ _ _ _ _ (by rw [u3]; exact iv_up hV (by omega) (by omega)) hP hQ hS hl
  · obtain ⟨pp, hpp⟩ : ∃ pp, zc (Z 6 0 1) = pp + 1 := ⟨zc (Z 6 0 1) - 1, by omega⟩
    obtain ⟨u1, u2, u3, S, u4, u5⟩ := ac_undo1 hV hpp
    refine lv_aload_n hx hb dL_law_526 rfl (lv_at hl 1 rfl) ?_
    refine w_Zi (As := []) (rest := []) ⟨hx, hb, hml, hown, hts⟩ (ct_undo2 l D a ca hJ Z hV.2.2.1.1 hV.2.2.1.2.1 hV.2.1) (cwV 0 hts gL_law_X6_undo rfl rfl rfl (by decide +kernel) ⟨Nat.le_of_ble_eq_true rfl, Nat.le_of_ble_eq_true rfl⟩) hK hP hQ hS hz hd (va_recv (ci := 6) hK.1 hP rfl zW_b) rfl hl.1 rfl (Nat.le_of_ble_eq_true rfl) dL_law_527 hf (fun H locs hP hQ hS => ?_)
    refine lv_aload_n hx hb dL_law_530 rfl (lv_at hl 2 rfl) ?_
    refine w_Mi (As := []) (rest := [.int (g_undo2 Z)]) ⟨hx, hb, hml, hown, hts⟩ (ct_X7_undo1 l D am (ca 0) hM N A P X S pp u2 u1 u4) (cwV 0 hts gL_law_X7_undo rfl rfl rfl (by decide +kernel) ⟨Nat.le_of_ble_eq_true rfl, Nat.le_of_ble_eq_true rfl⟩) hKm hP hQ hS hzm hd (va_recv (ci := 7) hKm hQ rfl mG_O) rfl hl.1 rfl (Nat.le_of_ble_eq_true rfl) dL_law_531 hf (fun H locs hP hQ hS => ?_)
    refine lv_icmp_eq (tgt := 1032) hx hb dL_law_534 (by decide) (fun _ => ?_) (fun c9 => absurd u3 c9)
    exact kk _ _ _ _ _ _ _ _ (iv_up u5 (by omega) (by omega)) hP hQ hS hl
set_option maxHeartbeats 4000000 in
set_option maxRecDepth 100000 in
theorem cs_state (X0 : LX p s m c b L xs D a ca am qs qv) (hi : i + 4 ≤ L) (hB : B + 700 < 1000000) (hV : IV B Z N P X) (hl : lv_has ls 8 [(0, .ref b), (1, .ref (a 114)), (2, .ref (am 0)), (3, .int (nI i))]) (hP : va_P D vwCl (zW a ca Z) H) (hQ : va_P D vwCl (mW am (ca 0) (N, A, P, X)) H) (hS : va_S (lA s) s.heap H locs) (hf : cells ≤ room_1.cells ∧ slots ≤ room_1.slots) (kk : LK p l e s m below meth c cells slots Q D a am ca b i B) : W p l e room_1 s m #[Value.ref b] below meth c H locs cells slots Q (F0 m 539 ls []) := by
  obtain ⟨hx, hb, hml, hown, hts, hX, hbl, hL, hJ, hM, hK, hKm, hE, hz, hzm, hd⟩ := X0
  have hX0 : zIn (X 0 0) 5 := by
    rw [hV.2.2.1.2.2.1]
    exact hV.2.2.1.2.1
  refine lv_aload_n hx hb dL_law_539 rfl (lv_at hl 1 rfl) ?_
  refine lw_arg hx hb hX hbl hS (lv_at hl 0 rfl) (lv_at hl 3 rfl) (by omega) hL dL_law_540 dL_law_541 dL_law_542 (k := 1) (by decide) dL_law_543 dL_law_544 ?_
  refine w_Zi (As := [.int (lx xs i 1)]) (rest := []) ⟨hx, hb, hml, hown, hts⟩ (ct_X6_state l D a ca hJ Z (lx xs i 1)) (cwV 1 hts gL_law_X6_state rfl rfl rfl (by decide +kernel) ⟨Nat.le_of_ble_eq_true rfl, Nat.le_of_ble_eq_true rfl⟩) hK hP hQ hS hz hd (va_recv (ci := 6) hK.1 hP rfl zW_b) rfl hl.1 rfl (Nat.le_of_ble_eq_true rfl) dL_law_545 hf (fun H locs hP hQ hS => ?_)
  refine lv_aload_n hx hb dL_law_548 rfl (lv_at hl 2 rfl) ?_
  refine lw_arg hx hb hX hbl hS (lv_at hl 0 rfl) (lv_at hl 3 rfl) (by omega) hL dL_law_549 dL_law_550 dL_law_551 (k := 1) (by decide) dL_law_552 dL_law_553 ?_
  refine w_Mi (As := [.int (lx xs i 1)]) (rest := [.int (g_X6_state Z (lx xs i 1))]) ⟨hx, hb, hml, hown, hts⟩ (ct_X7_state l D am (ca 0) hM N A P X (lx xs i 1)) (cwV 1 hts gL_law_X7_state rfl rfl rfl (by decide +kernel) ⟨Nat.le_of_ble_eq_true rfl, Nat.le_of_ble_eq_true rfl⟩) hKm hP hQ hS hzm hd (va_recv (ci := 7) hKm hQ rfl mG_O) rfl hl.1 rfl (Nat.le_of_ble_eq_true rfl) dL_law_554 hf (fun H locs hP hQ hS => ?_)
  refine lv_icmp_eq (tgt := 1032) hx hb dL_law_557 (by decide) (fun _ => ?_) (fun c9 => absurd (as_state hV.1 (lx xs i 1)) c9)
  exact kk _ _ _ _ _ _ _ _ (iv_up hV (by omega) (by omega)) hP hQ hS hl
set_option maxHeartbeats 4000000 in
set_option maxRecDepth 100000 in
theorem cs_programCounter (X0 : LX p s m c b L xs D a ca am qs qv) (hi : i + 4 ≤ L) (hB : B + 700 < 1000000) (hV : IV B Z N P X) (hl : lv_has ls 8 [(0, .ref b), (1, .ref (a 114)), (2, .ref (am 0)), (3, .int (nI i))]) (hP : va_P D vwCl (zW a ca Z) H) (hQ : va_P D vwCl (mW am (ca 0) (N, A, P, X)) H) (hS : va_S (lA s) s.heap H locs) (hf : cells ≤ room_1.cells ∧ slots ≤ room_1.slots) (kk : LK p l e s m below meth c cells slots Q D a am ca b i B) : W p l e room_1 s m #[Value.ref b] below meth c H locs cells slots Q (F0 m 562 ls []) := by
  obtain ⟨hx, hb, hml, hown, hts, hX, hbl, hL, hJ, hM, hK, hKm, hE, hz, hzm, hd⟩ := X0
  have hX0 : zIn (X 0 0) 5 := by
    rw [hV.2.2.1.2.2.1]
    exact hV.2.2.1.2.1
  refine lv_aload_n hx hb dL_law_562 rfl (lv_at hl 1 rfl) ?_
  refine lw_arg hx hb hX hbl hS (lv_at hl 0 rfl) (lv_at hl 3 rfl) (by omega) hL dL_law_563 dL_law_564 dL_law_565 (k := 1) (by decide) dL_law_566 dL_law_567 ?_
  refine w_Zi (As := [.int (lx xs i 1)]) (rest := []) ⟨hx, hb, hml, hown, hts⟩ (ct_X6_programCounter l D a ca hJ Z (lx xs i 1)) (cwV 1 hts gL_law_X6_programCounter rfl rfl rfl (by decide +kernel) ⟨Nat.le_of_ble_eq_true rfl, Nat.le_of_ble_eq_true rfl⟩) hK hP hQ hS hz hd (va_recv (ci := 6) hK.1 hP rfl zW_b) rfl hl.1 rfl (Nat.le_of_ble_eq_true rfl) dL_law_568 hf (fun H locs hP hQ hS => ?_)
  refine lv_aload_n hx hb dL_law_571 rfl (lv_at hl 2 rfl) ?_
  refine lw_arg hx hb hX hbl hS (lv_at hl 0 rfl) (lv_at hl 3 rfl) (by omega) hL dL_law_572 dL_law_573 dL_law_574 (k := 1) (by decide) dL_law_575 dL_law_576 ?_
  refine w_Mi (As := [.int (lx xs i 1)]) (rest := [.int (g_X6_programCounter Z (lx xs i 1))]) ⟨hx, hb, hml, hown, hts⟩ (ct_X7_programCounter l D am (ca 0) hM N A P X (lx xs i 1)) (cwV 1 hts gL_law_X7_programCounter rfl rfl rfl (by decide +kernel) ⟨Nat.le_of_ble_eq_true rfl, Nat.le_of_ble_eq_true rfl⟩) hKm hP hQ hS hzm hd (va_recv (ci := 7) hKm hQ rfl mG_O) rfl hl.1 rfl (Nat.le_of_ble_eq_true rfl) dL_law_577 hf (fun H locs hP hQ hS => ?_)
  refine lv_icmp_eq (tgt := 1032) hx hb dL_law_580 (by decide) (fun _ => ?_) (fun c9 => absurd (as_programCounter hV.1 (lx xs i 1)) c9)
  exact kk _ _ _ _ _ _ _ _ (iv_up hV (by omega) (by omega)) hP hQ hS hl
set_option maxHeartbeats 4000000 in
set_option maxRecDepth 100000 in
theorem cs_register (X0 : LX p s m c b L xs D a ca am qs qv) (hi : i + 4 ≤ L) (hB : B + 700 < 1000000) (hV : IV B Z N P X) (hl : lv_has ls 8 [(0, .ref b), (1, .ref (a 114)), (2, .ref (am 0)), (3, .int (nI i))]) (hP : va_P D vwCl (zW a ca Z) H) (hQ : va_P D vwCl (mW am (ca 0) (N, A, P, X)) H) (hS : va_S (lA s) s.heap H locs) (hf : cells ≤ room_1.cells ∧ slots ≤ room_1.slots) (kk : LK p l e s m below meth c cells slots Q D a am ca b i B) : W p l e room_1 s m #[Value.ref b] below meth c H locs cells slots Q (F0 m 585 ls []) := by
  obtain ⟨hx, hb, hml, hown, hts, hX, hbl, hL, hJ, hM, hK, hKm, hE, hz, hzm, hd⟩ := X0
  have hX0 : zIn (X 0 0) 5 := by
    rw [hV.2.2.1.2.2.1]
    exact hV.2.2.1.2.1
  refine lv_aload_n hx hb dL_law_585 rfl (lv_at hl 1 rfl) ?_
  refine lw_arg hx hb hX hbl hS (lv_at hl 0 rfl) (lv_at hl 3 rfl) (by omega) hL dL_law_586 dL_law_587 dL_law_588 (k := 1) (by decide) dL_law_589 dL_law_590 ?_
  refine lw_arg hx hb hX hbl hS (lv_at hl 0 rfl) (lv_at hl 3 rfl) (by omega) hL dL_law_591 dL_law_592 dL_law_593 (k := 2) (by decide) dL_law_594 dL_law_595 ?_
  refine w_Zi (As := [.int (lx xs i 1), .int (lx xs i 2)]) (rest := []) ⟨hx, hb, hml, hown, hts⟩ (ct_X6_register l D a ca hJ Z (lx xs i 1) (lx xs i 2)) (cwV 2 hts gL_law_X6_register rfl rfl rfl (by decide +kernel) ⟨Nat.le_of_ble_eq_true rfl, Nat.le_of_ble_eq_true rfl⟩) hK hP hQ hS hz hd (va_recv (ci := 6) hK.1 hP rfl zW_b) rfl hl.1 rfl (Nat.le_of_ble_eq_true rfl) dL_law_596 hf (fun H locs hP hQ hS => ?_)
  refine lv_aload_n hx hb dL_law_599 rfl (lv_at hl 2 rfl) ?_
  refine lw_arg hx hb hX hbl hS (lv_at hl 0 rfl) (lv_at hl 3 rfl) (by omega) hL dL_law_600 dL_law_601 dL_law_602 (k := 1) (by decide) dL_law_603 dL_law_604 ?_
  refine lw_arg hx hb hX hbl hS (lv_at hl 0 rfl) (lv_at hl 3 rfl) (by omega) hL dL_law_605 dL_law_606 dL_law_607 (k := 2) (by decide) dL_law_608 dL_law_609 ?_
  refine w_Mi (As := [.int (lx xs i 1), .int (lx xs i 2)]) (rest := [.int (g_X6_register Z (lx xs i 1) (lx xs i 2))]) ⟨hx, hb, hml, hown, hts⟩ (ct_X7_register l D am (ca 0) hM N A P X (lx xs i 1) (lx xs i 2)) (cwV 2 hts gL_law_X7_register rfl rfl rfl (by decide +kernel) ⟨Nat.le_of_ble_eq_true rfl, Nat.le_of_ble_eq_true rfl⟩) hKm hP hQ hS hzm hd (va_recv (ci := 7) hKm hQ rfl mG_O) rfl hl.1 rfl (Nat.le_of_ble_eq_true rfl) dL_law_610 hf (fun H locs hP hQ hS => ?_)
  refine lv_icmp_eq (tgt := 1032) hx hb dL_law_613 (by decide) (fun _ => ?_) (fun c9 => absurd (as_register hV.1 (lx xs i 1) (lx xs i 2)) c9)
  exact kk _ _ _ _ _ _ _ _ (iv_up hV (by omega) (by omega)) hP hQ hS hl
set_option maxHeartbeats 4000000 in
set_option maxRecDepth 100000 in
theorem cs_word (X0 : LX p s m c b L xs D a ca am qs qv) (hi : i + 4 ≤ L) (hB : B + 700 < 1000000) (hV : IV B Z N P X) (hl : lv_has ls 8 [(0, .ref b), (1, .ref (a 114)), (2, .ref (am 0)), (3, .int (nI i))]) (hP : va_P D vwCl (zW a ca Z) H) (hQ : va_P D vwCl (mW am (ca 0) (N, A, P, X)) H) (hS : va_S (lA s) s.heap H locs) (hf : cells ≤ room_1.cells ∧ slots ≤ room_1.slots) (kk : LK p l e s m below meth c cells slots Q D a am ca b i B) : W p l e room_1 s m #[Value.ref b] below meth c H locs cells slots Q (F0 m 618 ls []) := by
  obtain ⟨hx, hb, hml, hown, hts, hX, hbl, hL, hJ, hM, hK, hKm, hE, hz, hzm, hd⟩ := X0
  have hX0 : zIn (X 0 0) 5 := by
    rw [hV.2.2.1.2.2.1]
    exact hV.2.2.1.2.1
  refine lv_aload_n hx hb dL_law_618 rfl (lv_at hl 1 rfl) ?_
  refine lw_arg hx hb hX hbl hS (lv_at hl 0 rfl) (lv_at hl 3 rfl) (by omega) hL dL_law_619 dL_law_620 dL_law_621 (k := 1) (by decide) dL_law_622 dL_law_623 ?_
  refine w_Zi (As := [.int (lx xs i 1)]) (rest := []) ⟨hx, hb, hml, hown, hts⟩ (ct_X6_word l D a ca hJ Z (lx xs i 1)) (cwV 1 hts gL_law_X6_word rfl rfl rfl (by decide +kernel) ⟨Nat.le_of_ble_eq_true rfl, Nat.le_of_ble_eq_true rfl⟩) hK hP hQ hS hz hd (va_recv (ci := 6) hK.1 hP rfl zW_b) rfl hl.1 rfl (Nat.le_of_ble_eq_true rfl) dL_law_624 hf (fun H locs hP hQ hS => ?_)
  refine lv_aload_n hx hb dL_law_627 rfl (lv_at hl 2 rfl) ?_
  refine lw_arg hx hb hX hbl hS (lv_at hl 0 rfl) (lv_at hl 3 rfl) (by omega) hL dL_law_628 dL_law_629 dL_law_630 (k := 1) (by decide) dL_law_631 dL_law_632 ?_
  refine w_Mi (As := [.int (lx xs i 1)]) (rest := [.int (g_X6_word Z (lx xs i 1))]) ⟨hx, hb, hml, hown, hts⟩ (ct_X7_word l D am (ca 0) hM N A P X (lx xs i 1)) (cwV 1 hts gL_law_X7_word rfl rfl rfl (by decide +kernel) ⟨Nat.le_of_ble_eq_true rfl, Nat.le_of_ble_eq_true rfl⟩) hKm hP hQ hS hzm hd (va_recv (ci := 7) hKm hQ rfl mG_O) rfl hl.1 rfl (Nat.le_of_ble_eq_true rfl) dL_law_633 hf (fun H locs hP hQ hS => ?_)
  refine lv_icmp_eq (tgt := 1032) hx hb dL_law_636 (by decide) (fun _ => ?_) (fun c9 => absurd (as_word hV.1 (lx xs i 1)) c9)
  exact kk _ _ _ _ _ _ _ _ (iv_up hV (by omega) (by omega)) hP hQ hS hl
end LC
