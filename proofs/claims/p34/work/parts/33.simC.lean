/-! the forecasts -/
section SC
variable {Mx Mm : dkM}
theorem then1 {M : dkM} {N : dkM} (h : DS M 12 (N 112)) : (mThen N).1 = dDaf M := by
  have h2 : DS M 12 (mCopy N 112 0 114 0 367 112) := by rw [mCopy_ne _ (by decide)]; exact h
  have := DS.damf (Mm := mCopy N 112 0 114 0 367) h2
  unfold mThen mThenM dDaf
  rw [this]
theorem then_row (N : dkM) {a : Nat} (h1 : a ≠ 112) (h2 : a ≠ 114) : (mThen N).2 a = N a := by
  unfold mThen mThenM
  dsimp only
  rw [mCopy_ne _ h1, mFails_row _ h1, mCopy_ne _ h2]
theorem kept_112 (M : dkM) {b : Nat} (h : b < 367) : mKept M 113 b = M 112 b := by
  unfold mKept mCopy
  rw [if_pos (by omega), Nat.sub_zero, Nat.zero_add]
theorem back_112 (X : dkM) {b : Nat} (h : b < 367) : mBack X 112 b = X 113 b := by
  unfold mBack mCopy
  rw [if_pos (by omega), Nat.sub_zero, Nat.zero_add]
/-- a forecast leaves everything as it was -/
theorem Sim.trial (h : Sim Mx Mm) {My X : dkM} (e : ∀ a, ¬ (12 ≤ a ∧ a < 23) → My a = Mx a) (eX : ∀ a, a ≠ 112 → a ≠ 114 → X a = mKept Mm a) : Sim My (mBack X) := by
  have eB : ∀ a, a ≠ 112 → a ≠ 113 → a ≠ 114 → mBack X a = Mm a := fun a h1 h2 h3 => by
    unfold mBack; rw [mCopy_ne _ h1, eX a h1 h3]; unfold mKept; rw [mCopy_ne _ h2]
  refine h.oth (fun a ha => e a (by omega)) (fun j hj => ?_) (eB 115 (by decide) (by decide) (by decide)) (by rw [eB 111 (by decide) (by decide) (by decide)]) ?_
  · rw [back_112 _ hj, eX 113 (by decide) (by decide), kept_112 _ hj]
  · exact h.ts.cg (e 102 (by omega)) (e 104 (by omega)) (by rw [eB 111 (by decide) (by decide) (by decide)]) (eB 116 (by decide) (by decide) (by decide))
theorem Sim.tri (h : Sim Mx Mm) : DS (dCopy Mx 12 1) 12 (mKept Mm 112) := by
  rw [mKept_st]
  exact DS.cop h.ds (by unfold apart; omega)
theorem sim_ifFailed (h : Sim Mx Mm) (n : Int32) : (xIfFail Mx n).1 = (mIfFail Mm n).1 ∧ Sim (xIfFail Mx n).2 (mIfFail Mm n).2 := by
  unfold xIfFail mIfFail
  by_cases hw : mWithin n 0 999 = true
  · have hz := mW_iff.mp hw
    rw [e0I, e999I] at hz
    rw [if_pos hw, if_neg (show ¬ n < 0 from by rw [tI_lt, e0I]; omega), if_neg (show ¬ 999 < n from by rw [tI_lt, e999I]; omega)]
    dsimp only
    obtain ⟨s1, s2⟩ := DS.steps (d := 12) (ix n) 0 h.tri
    refine ⟨(then1 (N := mIfM Mm n) s2).symm, ?_⟩
    refine h.trial (fun a ha => ?_) (fun a h1 h2 => ?_)
    · rw [advL_ne 12 (by omega), dCopy_ne (by omega)]
    · rw [then_row _ h1 h2]; unfold mIfM; rw [mStepsL_row _ _ _ h1]
  · rw [if_neg hw]
    have hz := Wn hw
    rw [e0I, e999I] at hz
    by_cases q : n < 0
    · rw [if_pos q]; exact ⟨rfl, h⟩
    · rw [if_neg q, if_pos (by rw [tI_lt, e0I] at q; rw [tI_lt, e999I]; omega)]; exact ⟨rfl, h⟩
theorem wtL_ne : ∀ (n : Nat) (M : dkM) (w most : Int32) (t : Nat) {a : Nat}, ¬ (12 ≤ a ∧ a < 23) → (wtL n M w most t).2 a = M a := by
  intro n
  induction n with
  | zero => intro M w most t a _; rfl
  | succ n ih =>
    intro M w most t a ha
    unfold wtL
    split
    · split
      · rw [ih _ _ _ _ ha, dStep_ne _ _ (by omega)]
      · rw [ih _ _ _ _ ha, dStep_ne _ _ (by omega)]
    · rfl
theorem mWorL_row : ∀ (n : Nat) (M : dkM) (k : Nat) (f mo : Int32) {a : Nat}, a ≠ 112 → a ≠ 114 → (mWorL n M k f mo).2 a = M a := by
  intro n
  induction n with
  | zero => intro M k f mo a _ _; rfl
  | succ n ih =>
    intro M k f mo a h1 h2
    unfold mWorL
    rw [ih _ _ _ _ h1 h2, mStepsL_row _ _ _ h1, then_row _ h1 h2]
theorem one_t {N : dkM} (hr : mRek N = true) : (mStepsL (ix 1) N 0).2 = mStep N := by
  rw [show ix 1 = 1 from rfl]; unfold mStepsL; rw [if_pos hr]; rfl
theorem one_f {N : dkM} (hr : mRek N = false) : (mStepsL (ix 1) N 0).2 = N := by
  rw [show ix 1 = 1 from rfl]; unfold mStepsL; rw [hr]; rfl
theorem wor_off {M : dkM} : ∀ (n : Nat) (N : dkM) (t : Nat) (w most : Int32), DS M 12 (N 112) → mRek N = false → dDaf M ≤ most → (mWorL n N t w most).1 = w := by
  intro n
  induction n with
  | zero => intro N t w most _ _ _; rfl
  | succ n ih =>
    intro N t w most h hr hm
    unfold mWorL
    rw [then1 h, if_pos hm, if_pos hm]
    have hr2 : mRek (mThen N).2 = false := by rw [← hr]; exact mRek_congr (by rw [mThen_st])
    rw [one_f hr2]
    exact ih _ _ _ _ (by rw [mThen_st]; exact h) hr2 hm
theorem wor : ∀ (n : Nat) (M N : dkM) (t : Nat) (w most : Int32), DS M 12 (N 112) → dDaf M ≤ most → (wtL n M w most t).1 = (mWorL n (mStepsL (ix 1) N 0).2 t w most).1 := by
  intro n
  induction n with
  | zero => intro M N t w most _ _; rfl
  | succ n ih =>
    intro M N t w most h hm
    cases hr : mRek N with
    | false =>
      rw [one_f hr, wor_off (n + 1) N t w most h hr hm]
      unfold wtL
      rw [h.rek, hr]
      rfl
    | true =>
      rw [one_t hr]
      have hS := h.step hr
      unfold wtL mWorL
      rw [h.rek, hr, if_pos rfl, then1 hS]
      by_cases q : dDaf (dStep M 12) ≤ most
      · have q2 : ¬ most < dDaf (dStep M 12) := by rw [tI_lt]; rw [tI_le] at q; omega
        rw [if_pos q, if_pos q, if_neg q2]
        exact ih _ _ _ _ _ (by rw [mThen_st]; exact hS) q
      · have q2 : most < dDaf (dStep M 12) := by rw [tI_lt]; rw [tI_le] at q; omega
        rw [if_neg q, if_neg q, if_pos q2]
        exact ih _ _ _ _ _ (by rw [mThen_st]; exact hS) (Int32.le_refl _)
theorem sim_worstTime (h : Sim Mx Mm) : (xWorst Mx).1 = (mWorst Mm).1 ∧ Sim (xWorst Mx).2 (mWorst Mm).2 := by
  unfold xWorst mWorst
  dsimp only
  refine ⟨?_, h.trial (fun a ha => ?_) (fun a h1 h2 => mWorL_row _ _ _ _ _ h1 h2)⟩
  · rw [show (100 : Nat) = 99 + 1 from rfl, mWorL, then1 h.tri]
    have hd : ¬ dDaf (dCopy Mx 12 1) ≤ -6 := by
      rw [tI_le]
      have : 0 ≤ (dDaf (dCopy Mx 12 1)).toInt := nI_nn (Nat.lt_of_le_of_lt (cnt_le _ _) (ix_lt _))
      have e6 : (-6 : Int32).toInt = -6 := by decide
      omega
    rw [if_neg hd, if_neg hd]
    exact wor 99 _ _ 1 0 _ (by rw [mThen_st]; exact h.tri) (Int32.le_refl _)
  · rw [wtL_ne _ _ _ _ _ (by omega), dCopy_ne (by omega)]
end SC
