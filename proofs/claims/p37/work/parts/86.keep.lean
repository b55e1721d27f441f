/-! what looks letters up is the reference's own table; and the program is kept by every cycle -/
theorem k_fin {c : Nat} (hc : c = 10 ∨ c = 11) : ∀ (n i : Nat) (M : zM), (h_X3_finishLoads_lp n i M) c = M c := by
  intro n
  induction n with
  | zero => exact fun _ _ => rfl
  | succ n ih =>
    intro i M
    simp only [h_X3_finishLoads_lp]
    refine z_ite (P := fun Y : zM => Y c = M c) (fun _ => ih _ _) (fun _ => ?_)
    rw [ih, zu_c _ _ _ (by omega), zu_c _ _ _ (by omega)]
theorem k_opn {c : Nat} (hc : c = 10 ∨ c = 11) : ∀ (n i : Nat) (M : zM), (h_X3_openBarrier_lp n i M) c = M c := by
  intro n
  induction n with
  | zero => exact fun _ _ => rfl
  | succ n ih =>
    intro i M
    simp only [h_X3_openBarrier_lp]
    refine z_ite (P := fun Y : zM => Y c = M c) (fun _ => ?_) (fun _ => ih _ _)
    rw [ih, zu_c _ _ _ (by omega)]
theorem k_cc {c : Nat} (hc : c = 10 ∨ c = 11) (t : Nat) (x : Int32) (M : zM) : (h_X0_countCycle t x M) c = M c := by
  unfold h_X0_countCycle
  exact (z_ite (P := fun Y : zM => Y c = M c) (fun _ => (by rw [zu_c _ _ _ (by omega), zu_c _ _ _ (by omega)])) (fun _ => (by rw [zu_c _ _ _ (by omega), zu_c _ _ _ (by omega)])))
theorem k_cs {c : Nat} (hc : c = 10 ∨ c = 11) (x : Int32) : ∀ (n i : Nat) (M : zM), (h_X3_countStarving_lp x n i M) c = M c := by
  intro n
  induction n with
  | zero => exact fun _ _ => rfl
  | succ n ih =>
    intro i M
    simp only [h_X3_countStarving_lp]
    exact z_ite (P := fun Y : zM => Y c = M c) (fun _ => z_ite (P := fun Y : zM => Y c = M c) (fun _ => (ih _ _).trans (k_cc hc _ _ _)) (fun _ => (ih _ _).trans (k_cc hc _ _ _))) (fun _ => (ih _ _).trans (k_cc hc _ _ _))
theorem k_nt {c : Nat} (hc : c = 10 ∨ c = 11) (x y z : Int32) (M : zM) : (h_X5_note x y z M) c = M c := by
  unfold h_X5_note
  rw [zu_c _ _ _ (by omega), zu_c _ _ _ (by omega), zu_c _ _ _ (by omega), zu_c _ _ _ (by omega), zu_c _ _ _ (by omega)]
theorem k_is {c : Nat} (hc : c = 10 ∨ c = 11) (t : Nat) (M : zM) : (h_X3_noteIssue t M) c = M c := by
  unfold h_X3_noteIssue
  refine z_ite (P := fun Y : zM => Y c = M c) (fun _ => ?_) (fun _ => ?_)
  · rw [k_nt hc, zu_c _ _ _ (by omega), zu_c _ _ _ (by omega)]
  · rw [k_nt hc, zu_c _ _ _ (by omega), zu_c _ _ _ (by omega), zu_c _ _ _ (by omega)]
theorem k_ca {c : Nat} (hc : c = 10 ∨ c = 11) (t : Nat) (x y z : Int32) (M : zM) : (h_X3_calculate t x y z M) c = M c := by
  unfold h_X3_calculate
  exact (z_ite (P := fun Y : zM => Y c = M c) (fun _ => (by rw [zu_c _ _ _ (by omega)])) (fun _ => (z_ite (P := fun Y : zM => Y c = M c) (fun _ => (by rw [zu_c _ _ _ (by omega)])) (fun _ => (z_ite (P := fun Y : zM => Y c = M c) (fun _ => (by rw [zu_c _ _ _ (by omega)])) (fun _ => (by rw [zu_c _ _ _ (by omega)])))))))
theorem k_re {c : Nat} (hc : c = 10 ∨ c = 11) (t : Nat) (x y z : Int32) (M : zM) : (h_X3_reachMemory t x y z M) c = M c := by
  unfold h_X3_reachMemory h_X0_beginLoad
  exact (z_ite (P := fun Y : zM => Y c = M c) (fun _ => (by rw [zu_c _ _ _ (by omega), zu_c _ _ _ (by omega), zu_c _ _ _ (by omega), zu_c _ _ _ (by omega)])) (fun _ => (z_ite (P := fun Y : zM => Y c = M c) (fun _ => (by rw [zu_c _ _ _ (by omega), zu_c _ _ _ (by omega)])) (fun _ => (by rw [zu_c _ _ _ (by omega)])))))
theorem k_st {c : Nat} (hc : c = 10 ∨ c = 11) (t : Nat) (x y z : Int32) (M : zM) : (h_X3_steer t x y z M) c = M c := by
  unfold h_X3_steer
  exact (z_ite (P := fun Y : zM => Y c = M c) (fun _ => (by rw [zu_c _ _ _ (by omega)])) (fun _ => (z_ite (P := fun Y : zM => Y c = M c) (fun _ => (z_ite (P := fun Y : zM => Y c = M c) (fun _ => (by rw [zu_c _ _ _ (by omega)])) (fun _ => (by rw [zu_c _ _ _ (by omega)])))) (fun _ => (z_ite (P := fun Y : zM => Y c = M c) (fun _ => (z_ite (P := fun Y : zM => Y c = M c) (fun _ => (by rw [zu_c _ _ _ (by omega)])) (fun _ => (by rw [zu_c _ _ _ (by omega)])))) (fun _ => (z_ite (P := fun Y : zM => Y c = M c) (fun _ => (by rw [zu_c _ _ _ (by omega)])) (fun _ => (by rw [zu_c _ _ _ (by omega)])))))))))
theorem k_ex {c : Nat} (hc : c = 10 ∨ c = 11) (t : Nat) (M : zM) : (h_X3_executeNext t M) c = M c := by
  unfold h_X3_executeNext
  refine z_ite (P := fun Y : zM => Y c = M c) (fun _ => (by rw [zu_c _ _ _ (by omega)])) (fun _ => z_ite (P := fun Y : zM => Y c = M c) (fun _ => z_ite (P := fun Y : zM => Y c = M c) (fun _ => ?_) (fun _ => ?_)) (fun _ => ?_))
  · rw [k_st hc, zu_c _ _ _ (by omega)]
  · rw [k_re hc, zu_c _ _ _ (by omega)]
  · rw [k_ca hc, zu_c _ _ _ (by omega)]
theorem k_run {c : Nat} (hc : c = 10 ∨ c = 11) (M : zM) : (h_X3_runCycle M) c = M c := by
  have e : (h_X3_openBarrier (h_X3_finishLoads M)) c = M c := by
    unfold h_X3_openBarrier
    exact z_ite (P := fun Y : zM => Y c = M c) (fun _ => k_fin hc _ _ _) (fun _ => (k_opn hc _ _ _).trans (k_fin hc _ _ _))
  unfold h_X3_runCycle
  refine z_ite (P := fun Y : zM => Y c = M c) (fun _ => ?_) (fun _ => ?_)
  · rw [zu_c _ _ _ (by omega), zu_c _ _ _ (by omega)]
    exact (k_cs hc _ _ _ _).trans e
  · rw [zu_c _ _ _ (by omega), k_ex hc, k_is hc]
    exact (k_cs hc _ _ _ _).trans e
theorem xR_e {M M' : zM} (h10 : M' 10 = M 10) (h11 : M' 11 = M 11) (h : xR M) : xR M' := by
  unfold xR
  rw [h10, h11]
  exact h
theorem xR_cycle {M : zM} (h : xR M) : xR (h_X3_runCycle M) := xR_e (k_run (Or.inl rfl) M) (k_run (Or.inr rfl) M) h
theorem xR_bp (most : Nat) : ∀ (n i : Nat) (M : zM), xR M → xR (h_X3_runToBreakpoint_lp most n i M) := by
  intro n
  induction n with
  | zero => exact fun _ _ h => h
  | succ n ih =>
    intro i M h
    simp only [h_X3_runToBreakpoint_lp]
    exact z_ite (P := xR) (fun _ => z_ite (P := xR) (fun _ => ih _ _ (xR_cycle h)) (fun _ => z_ite (P := xR) (fun _ => ih _ _ (xR_cycle h)) (fun _ => h))) (fun _ => h)
theorem xR_end : ∀ (n i : Nat) (M : zM), xR M → xR (h_X3_runToEnd_lp n i M) := by
  intro n
  induction n with
  | zero => exact fun _ _ h => z_ite (P := xR) (fun _ => h) (fun _ => h)
  | succ n ih =>
    intro i M h
    simp only [h_X3_runToEnd_lp]
    exact z_ite (P := xR) (fun _ => ih _ _ (xR_cycle h)) (fun _ => h)
theorem xR_start : xR zM0 := ⟨fun _ _ _ => rfl, fun _ _ _ => rfl⟩
