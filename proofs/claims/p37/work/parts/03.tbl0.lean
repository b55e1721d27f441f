theorem z_mem {big ws : List Cond} (ps : List Nat) (h : ws = ps.filterMap (fun i => big[i]?)) : ∀ w ∈ ws, w ∈ big := by
  intro w hw
  rw [h] at hw
  obtain ⟨i, -, hi⟩ := List.mem_filterMap.mp hw
  exact List.mem_of_getElem? hi
theorem z_cons {big a : List Cond} {w : Cond} (hw : w ∈ big) (ha : ∀ x ∈ a, x ∈ big) : ∀ x ∈ w :: a, x ∈ big := fun x h => (List.mem_cons.mp h).elim (fun e => e ▸ hw) (ha x)
theorem goodIn_cw {big ws : List Cond} {y : MethodName} {b : ByteArray} {n : Nat} {r : Option FieldType} (h : Cond.code y b n r ∈ big) (hr : GoodIn big ws) : GoodIn big (Cond.code y b n r :: ws) := fun w hw => (List.mem_cons.mp hw).elim (fun e => e ▸ ⟨h, Or.inl rfl⟩) (hr w)
theorem z_app {big a b : List Cond} (ha : ∀ w ∈ a, w ∈ big) (hb : ∀ w ∈ b, w ∈ big) : ∀ w ∈ a ++ b, w ∈ big := fun w h => (List.mem_append.mp h).elim (ha w) (hb w)
theorem wsL_in_r1 : ∀ w ∈ wsL_law_r1, w ∈ lw_tbl := z_mem [40, 41, 25, 685, 741, 42, 43, 44, 45, 46, 47, 48, 49, 26, 236, 237, 186, 187, 31, 238, 205, 206, 32, 239] (by decide +kernel)
theorem wsL_in_r2 : ∀ w ∈ wsL_law_r2, w ∈ lw_tbl := z_mem [50, 51, 52, 53, 54, 149, 56, 57, 27, 151, 79, 153, 155, 157, 159, 80, 81, 29, 161, 96, 30, 58, 59, 60] (by decide +kernel)
theorem wsL_in_r3 : ∀ w ∈ wsL_law_r3, w ∈ lw_tbl := z_mem [61, 66, 70, 65, 62, 63, 28, 64, 83, 84, 85, 86, 98, 99, 100, 101, 104, 115, 188, 189, 190, 191, 192, 195] (by decide +kernel)
theorem wsL_in_r4 : ∀ w ∈ wsL_law_r4, w ∈ lw_tbl := z_mem [194, 208, 209, 210, 235, 213, 211, 217, 212, 530, 531, 532, 533, 534, 535, 536, 537, 197, 538, 196, 264, 265, 266, 267] (by decide +kernel)
theorem wsL_in_r5 : ∀ w ∈ wsL_law_r5, w ∈ lw_tbl := z_mem [280, 274, 273, 33, 163, 165, 268, 269, 270, 271, 272, 107, 110, 112, 114, 117, 120, 123, 124, 275, 276, 277, 278, 279] (by decide +kernel)
theorem wsL_in_r6 : ∀ w ∈ wsL_law_r6, w ∈ lw_tbl := z_mem [281, 282, 283, 284, 285, 87, 88, 395, 396, 397, 398, 399, 400, 401, 402, 216, 220, 214, 494, 403, 405, 13, 406, 408] (by decide +kernel)
theorem wsL_in_r7 : ∀ w ∈ wsL_law_r7, w ∈ lw_tbl := z_mem [409, 410, 34, 411, 412, 413, 414, 415, 743, 416, 417, 418, 419, 420, 742, 422, 423, 424, 425, 426, 427, 428, 429, 430] (by decide +kernel)
