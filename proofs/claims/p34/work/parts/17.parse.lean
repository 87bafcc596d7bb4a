/-! the model's reader: bounds -/
def aI (M : dkM) : Prop := tI M ∧ 0 ≤ (M 111 8).toInt ∧ (M 111 8).toInt ≤ (M 111 6).toInt
theorem aI.c {M : dkM} (h : aI M) : 0 ≤ (M 111 8).toInt := h.2.1
theorem e1I : (1 : Int32).toInt = 1 := by decide
/-- a character that is there: the place is before the end -/
theorem mChar_lt {M : dkM} (h : aI M) (hc : mChar M (M 111 8) ≠ -1) : (M 111 8).toInt < (M 111 6).toInt := by
  unfold mChar at hc
  split at hc
  · exact absurd rfl hc
  · rename_i q; rw [tI_le] at q; omega
theorem aI_inc {M M' : dkM} (h : aI M) (hc : mChar M (M 111 8) ≠ -1) (h6 : M' 111 6 = M 111 6) (h8 : M' 111 8 = M 111 8 + 1) : aI M' ∧ (M' 111 8).toInt = (M 111 8).toInt + 1 := by
  have hl := mChar_lt h hc
  have h80 := h.1.2
  have h0 := h.2.1
  have e : (M' 111 8).toInt = (M 111 8).toInt + 1 := by rw [h8, tI_add (by rw [e1I]; omega) (by rw [e1I]; omega), e1I]
  refine ⟨⟨?_, ?_, ?_⟩, e⟩
  · unfold tI; rw [h6]; exact h.1
  · omega
  · rw [h6]; omega
theorem aI_same {M M' : dkM} (h : aI M) (h6 : M' 111 6 = M 111 6) (h8 : M' 111 8 = M 111 8) : aI M' := by
  unfold aI tI; rw [h6, h8]; exact h
theorem Int32_add_0 (x : Int32) : x + 0 = x := Int32.add_zero x
theorem mNextB_t {M : dkM} {c : Int32} (h : mNextB M c = true) : mChar M (M 111 8) = c := by
  unfold mNextB at h
  split at h
  · assumption
  · cases h
theorem mNextM_a {M : dkM} {c : Int32} (h : aI M) (hc : c ≠ -1) : aI (mNextM M c) ∧ (M 111 8).toInt ≤ (mNextM M c 111 8).toInt ∧ mNextM M c 111 6 = M 111 6 := by
  have h6 : mNextM M c 111 6 = M 111 6 := by rw [mNextM, put_k (by decide)]
  cases hb : mNextB M c with
  | true =>
    have h8 : mNextM M c 111 8 = M 111 8 + 1 := by rw [mNextM, put_same, hb]; rfl
    obtain ⟨h1, h2⟩ := aI_inc h (by rw [mNextB_t hb]; exact hc) h6 h8
    exact ⟨h1, by omega, h6⟩
  | false =>
    have h8 : mNextM M c 111 8 = M 111 8 := by rw [mNextM, put_same, hb]; exact Int32_add_0 _
    exact ⟨aI_same h h6 h8, by rw [h8]; exact Int.le_refl _, h6⟩
theorem mW_ne {x : Int32} (h : mWithin x 48 57 = true) : x ≠ -1 := by
  intro z; rw [z] at h; exact absurd h (by decide)
theorem mRnS_a {M : dkM} (h : aI M) (hc : mWithin (mChar M (M 111 8)) 48 57 = true) : aI (mRnS M) ∧ (mRnS M 111 8).toInt = (M 111 8).toInt + 1 ∧ mRnS M 111 6 = M 111 6 := by
  have h6 : mRnS M 111 6 = M 111 6 := by rw [mRnS, put_k (by decide), put_k (by decide)]
  obtain ⟨h1, h2⟩ := aI_inc (M' := mRnS M) h (mW_ne hc) h6 (by rw [mRnS, put_same])
  exact ⟨h1, h2, h6⟩
theorem mRnL_a : ∀ (n : Nat) (M : dkM) (k : Nat), aI M → aI (mRnL n M k).2 ∧ (M 111 8).toInt ≤ ((mRnL n M k).2 111 8).toInt ∧ (mRnL n M k).2 111 6 = M 111 6 := by
  intro n
  induction n with
  | zero => intro M k h; exact ⟨h, Int.le_refl _, rfl⟩
  | succ n ih =>
    intro M k h
    unfold mRnL
    split
    · rename_i hc
      obtain ⟨a, b, c⟩ := mRnS_a h hc
      obtain ⟨a2, b2, c2⟩ := ih (mRnS M) (k + 1) a
      exact ⟨a2, by omega, c2.trans c⟩
    · exact ⟨h, Int.le_refl _, rfl⟩
theorem mRn_a {M : dkM} (h : aI M) : aI (mRn M).2 ∧ (M 111 8).toInt ≤ ((mRn M).2 111 8).toInt ∧ (mRn M).2 111 6 = M 111 6 := by
  have h2 : aI (dk_put M 111 12 0) := aI_same h (put_k (by decide)) (put_k (by decide))
  obtain ⟨a, b, c⟩ := mRnL_a 5 (dk_put M 111 12 0) 0 h2
  refine ⟨a, ?_, c.trans (put_k (by decide))⟩
  rw [put_k (by decide)] at b
  exact b
theorem mLet_9 (M : dkM) : mLet M 111 9 = mChar M (M 111 8) := by rw [mLet, put_same]
theorem mLet_a {M : dkM} (h : aI M) : aI (mLet M) := aI_same h (put_k (by decide)) (put_k (by decide))
theorem mChar_let (M : dkM) (p : Int32) : mChar (mLet M) p = mChar M p := by
  unfold mChar; rw [show mLet M 111 6 = M 111 6 from put_k (by decide), show mLet M 116 = M 116 from dk_put_ne (by decide)]
theorem mAt1_a {M : dkM} (h : aI M) (hc : mLet M 111 9 ≠ -1) : aI (mAt1 M) ∧ (mAt1 M 111 8).toInt = (M 111 8).toInt + 1 ∧ mAt1 M 111 6 = M 111 6 := by
  rw [mLet_9] at hc
  have h8 : mLet M 111 8 = M 111 8 := put_k (by decide)
  have h6 : mAt1 M 111 6 = M 111 6 := by rw [mAt1, put_k (by decide), mLet, put_k (by decide)]
  obtain ⟨a, b⟩ := aI_inc (M' := mAt1 M) h hc h6 (by rw [mAt1, put_same, h8])
  exact ⟨a, b, h6⟩
theorem mOne_a {M : dkM} (h : aI M) : aI (mOne M) := aI_same h (put_k (by decide)) (put_k (by decide))
theorem mTwo_a {M : dkM} (h : aI M) : aI (mTwo M) := aI_same h (put_k (by decide)) (put_k (by decide))
theorem mOne_8 (M : dkM) : mOne M 111 8 = M 111 8 := put_k (by decide)
theorem mTwo_8 (M : dkM) : mTwo M 111 8 = M 111 8 := put_k (by decide)
theorem mOne_6 (M : dkM) : mOne M 111 6 = M 111 6 := put_k (by decide)
theorem mTwo_6 (M : dkM) : mTwo M 111 6 = M 111 6 := put_k (by decide)
theorem mCmdW_a {M : dkM} (h : aI M) : aI (mCmdW M).2 ∧ (M 111 8).toInt ≤ ((mCmdW M).2 111 8).toInt ∧ (mCmdW M).2 111 6 = M 111 6 := by
  obtain ⟨a, b, c⟩ := mRn_a h
  have a1 := mOne_a a
  obtain ⟨a2, b2, c2⟩ := mNextM_a (c := 61) a1 (by decide)
  rw [mOne_8] at b2
  rw [mOne_6] at c2
  obtain ⟨a3, b3, c3⟩ := mRn_a a2
  unfold mCmdW
  split
  · split
    · dsimp only
      exact ⟨mTwo_a a3, by rw [mTwo_8]; omega, by rw [mTwo_6, c3, c2, c]⟩
    · dsimp only
      exact ⟨mTwo_a a2, by rw [mTwo_8]; omega, by rw [mTwo_6, c2, c]⟩
  · dsimp only
    exact ⟨mTwo_a a1, by rw [mTwo_8, mOne_8]; omega, by rw [mTwo_6, mOne_6, c]⟩
/-- a command that is read takes at least one character -/
theorem mCmd_a {M : dkM} (h : aI M) : aI (mCmd M).2 ∧ ((mCmd M).1 = true → (M 111 8).toInt + 1 ≤ ((mCmd M).2 111 8).toInt) ∧ (mCmd M).2 111 6 = M 111 6 := by
  unfold mCmd
  split
  · rename_i hl
    obtain ⟨a, b, c⟩ := mAt1_a h (by rw [hl]; decide)
    obtain ⟨a2, b2, c2⟩ := mCmdW_a a
    exact ⟨a2, fun _ => by omega, c2.trans c⟩
  · split
    · rename_i hl
      obtain ⟨a, b, c⟩ := mAt1_a h (by rw [hl]; decide)
      obtain ⟨a2, b2, c2⟩ := mRn_a a
      dsimp only
      exact ⟨mTwo_a (mOne_a a2), fun _ => by rw [mTwo_8, mOne_8]; omega, by rw [mTwo_6, mOne_6, c2, c]⟩
    · split
      · rename_i hl
        obtain ⟨a, b, c⟩ := mAt1_a h (by rcases hl with q | q | q <;> rw [q] <;> decide)
        dsimp only
        exact ⟨mTwo_a (mOne_a a), fun _ => by rw [mTwo_8, mOne_8]; omega, by rw [mTwo_6, mOne_6, c]⟩
      · dsimp only
        exact ⟨mLet_a h, fun z => absurd z (by decide), put_k (by decide)⟩
theorem mRnL_rows : ∀ (n : Nat) (M : dkM) (k : Nat) {a : Nat}, a ≠ 111 → (mRnL n M k).2 a = M a := by
  intro n
  induction n with
  | zero => intro M k a h; rfl
  | succ n ih =>
    intro M k a h
    unfold mRnL
    split
    · rw [ih _ _ h, mRnS, dk_put_ne h, dk_put_ne h]
    · rfl
theorem mRn_rows (M : dkM) {a : Nat} (h : a ≠ 111) : (mRn M).2 a = M a := by rw [mRn, mRnL_rows _ _ _ h, dk_put_ne h]
theorem mNextM_rows (M : dkM) (c : Int32) {a : Nat} (h : a ≠ 111) : mNextM M c a = M a := by rw [mNextM, dk_put_ne h]
theorem mCmdW_rows (M : dkM) {a : Nat} (h : a ≠ 111) : (mCmdW M).2 a = M a := by
  unfold mCmdW
  split
  · split
    · dsimp only; rw [mTwo, dk_put_ne h, mRn_rows _ h, mNextM_rows _ _ h, mOne, dk_put_ne h, mRn_rows _ h]
    · dsimp only; rw [mTwo, dk_put_ne h, mNextM_rows _ _ h, mOne, dk_put_ne h, mRn_rows _ h]
  · dsimp only; rw [mTwo, dk_put_ne h, mOne, dk_put_ne h, mRn_rows _ h]
theorem mAt1_rows (M : dkM) {a : Nat} (h : a ≠ 111) : mAt1 M a = M a := by rw [mAt1, dk_put_ne h, mLet, dk_put_ne h]
theorem mCmd_rows (M : dkM) {a : Nat} (h : a ≠ 111) : (mCmd M).2 a = M a := by
  unfold mCmd
  split
  · rw [mCmdW_rows _ h, mAt1_rows _ h]
  · split
    · dsimp only; rw [mTwo, dk_put_ne h, mOne, dk_put_ne h, mRn_rows _ h, mAt1_rows _ h]
    · split
      · dsimp only; rw [mTwo, dk_put_ne h, mOne, dk_put_ne h, mAt1_rows _ h]
      · dsimp only; rw [mLet, dk_put_ne h]
theorem mErrL_rows : ∀ (n : Nat) (M : dkM) {a : Nat}, a ≠ 111 → (mErrL n M).2 a = M a := by
  intro n
  induction n with
  | zero => intro M a h; rfl
  | succ n ih =>
    intro M a h
    unfold mErrL
    split
    · split
      · exact mCmd_rows M h
      · split
        · rw [ih _ h, mNextM_rows _ _ h, mCmd_rows M h]
        · dsimp only; rw [mNextM_rows _ _ h, mCmd_rows M h]
    · exact mCmd_rows M h
/-- none of the reader's methods touches what record keeps -/
theorem mRnL_4 : ∀ (n : Nat) (M : dkM) (k : Nat), (mRnL n M k).2 111 4 = M 111 4 := by
  intro n
  induction n with
  | zero => intro M k; rfl
  | succ n ih =>
    intro M k
    unfold mRnL
    split
    · rw [ih, mRnS, put_k (by decide), put_k (by decide)]
    · rfl
theorem mRn_4 (M : dkM) : (mRn M).2 111 4 = M 111 4 := by rw [mRn, mRnL_4, put_k (by decide)]
theorem mNextM_4 (M : dkM) (c : Int32) : mNextM M c 111 4 = M 111 4 := by rw [mNextM, put_k (by decide)]
theorem mOne_4 (M : dkM) : mOne M 111 4 = M 111 4 := put_k (by decide)
theorem mTwo_4 (M : dkM) : mTwo M 111 4 = M 111 4 := put_k (by decide)
theorem mAt1_4 (M : dkM) : mAt1 M 111 4 = M 111 4 := by rw [mAt1, put_k (by decide), mLet, put_k (by decide)]
theorem mCmdW_4 (M : dkM) : (mCmdW M).2 111 4 = M 111 4 := by
  unfold mCmdW
  split
  · split
    · dsimp only; rw [mTwo_4, mRn_4, mNextM_4, mOne_4, mRn_4]
    · dsimp only; rw [mTwo_4, mNextM_4, mOne_4, mRn_4]
  · dsimp only; rw [mTwo_4, mOne_4, mRn_4]
theorem mCmd_4 (M : dkM) : (mCmd M).2 111 4 = M 111 4 := by
  unfold mCmd
  split
  · rw [mCmdW_4, mAt1_4]
  · split
    · dsimp only; rw [mTwo_4, mOne_4, mRn_4, mAt1_4]
    · split
      · dsimp only; rw [mTwo_4, mOne_4, mAt1_4]
      · dsimp only; exact put_k (by decide)
theorem mErrL_4 : ∀ (n : Nat) (M : dkM), (mErrL n M).2 111 4 = M 111 4 := by
  intro n
  induction n with
  | zero => intro M; rfl
  | succ n ih =>
    intro M
    unfold mErrL
    split
    · split
      · exact mCmd_4 M
      · split
        · rw [ih, mNextM_4, mCmd_4]
        · dsimp only; rw [mNextM_4, mCmd_4]
    · exact mCmd_4 M
theorem mErrL_6 : ∀ (n : Nat) (M : dkM), aI M → (mErrL n M).2 111 6 = M 111 6 ∧ aI (mErrL n M).2 := by
  intro n
  induction n with
  | zero => intro M h; exact ⟨rfl, h⟩
  | succ n ih =>
    intro M h
    obtain ⟨a, b, c⟩ := mCmd_a h
    obtain ⟨a2, b2, c2⟩ := mNextM_a (c := 59) a (by decide)
    unfold mErrL
    split
    · split
      · exact ⟨c, a⟩
      · split
        · obtain ⟨c3, a3⟩ := ih _ a2
          exact ⟨c3.trans (c2.trans c), a3⟩
        · exact ⟨c2.trans c, a2⟩
    · exact ⟨c, a⟩
/-- what the reader's answers rest on: the text, its length, the place -/
def tEq (M M' : dkM) : Prop := M 111 6 = M' 111 6 ∧ M 111 8 = M' 111 8 ∧ M 116 = M' 116
theorem tEq.char {M M' : dkM} (h : tEq M M') : mChar M (M 111 8) = mChar M' (M' 111 8) := by unfold mChar; rw [h.1, h.2.1, h.2.2]
theorem tEq.nextB {M M' : dkM} (h : tEq M M') (c : Int32) : mNextB M c = mNextB M' c := by unfold mNextB; rw [h.char]
theorem tEq.nextM {M M' : dkM} (h : tEq M M') (c : Int32) : tEq (mNextM M c) (mNextM M' c) := by
  refine ⟨?_, ?_, ?_⟩
  · rw [mNextM, mNextM, put_k (by decide), put_k (by decide)]; exact h.1
  · rw [mNextM, mNextM, put_same, put_same, h.nextB c, h.2.1]
  · rw [mNextM_rows _ _ (by decide), mNextM_rows _ _ (by decide)]; exact h.2.2
theorem tEq.put {M M' : dkM} (h : tEq M M') {j : Nat} (x y : Int32) (h6 : j ≠ 6) (h8 : j ≠ 8) : tEq (dk_put M 111 j x) (dk_put M' 111 j y) := by
  refine ⟨?_, ?_, ?_⟩
  · rw [put_k (fun z => h6 z.symm), put_k (fun z => h6 z.symm)]; exact h.1
  · rw [put_k (fun z => h8 z.symm), put_k (fun z => h8 z.symm)]; exact h.2.1
  · rw [dk_put_ne (by decide), dk_put_ne (by decide)]; exact h.2.2
theorem tEq.inc {M M' : dkM} (h : tEq M M') : tEq (dk_put M 111 8 (M 111 8 + 1)) (dk_put M' 111 8 (M' 111 8 + 1)) := by
  refine ⟨?_, ?_, ?_⟩
  · rw [put_k (by decide), put_k (by decide)]; exact h.1
  · rw [put_same, put_same, h.2.1]
  · rw [dk_put_ne (by decide), dk_put_ne (by decide)]; exact h.2.2
theorem tEq.rnS {M M' : dkM} (h : tEq M M') : tEq (mRnS M) (mRnS M') := by
  have h1 : tEq (dk_put M 111 12 (10 * M 111 12 + mChar M (M 111 8) - 48)) (dk_put M' 111 12 (10 * M' 111 12 + mChar M' (M' 111 8) - 48)) := h.put _ _ (by decide) (by decide)
  have h2 := h1.inc
  rw [put_k (by decide), put_k (by decide)] at h2
  exact h2
theorem tEq.rnL : ∀ (n : Nat) {M M' : dkM} (k : Nat), tEq M M' → (mRnL n M k).1 = (mRnL n M' k).1 ∧ tEq (mRnL n M k).2 (mRnL n M' k).2 := by
  intro n
  induction n with
  | zero => intro M M' k h; exact ⟨rfl, h⟩
  | succ n ih =>
    intro M M' k h
    unfold mRnL
    rw [h.char]
    split
    · exact ih _ h.rnS
    · exact ⟨rfl, h⟩
theorem tEq.rn {M M' : dkM} (h : tEq M M') : mRnB M = mRnB M' ∧ tEq (mRn M).2 (mRn M').2 := by
  obtain ⟨a, b⟩ := tEq.rnL 5 0 (h.put (j := 12) 0 0 (by decide) (by decide))
  exact ⟨by unfold mRnB mRn; rw [a], b⟩
theorem tEq.let {M M' : dkM} (h : tEq M M') : tEq (mLet M) (mLet M') ∧ mLet M 111 9 = mLet M' 111 9 := ⟨h.put _ _ (by decide) (by decide), by rw [mLet_9, mLet_9, h.char]⟩
theorem tEq.at1 {M M' : dkM} (h : tEq M M') : tEq (mAt1 M) (mAt1 M') := h.let.1.inc
theorem tEq.one {M M' : dkM} (h : tEq M M') : tEq (mOne M) (mOne M') := h.put _ _ (by decide) (by decide)
theorem tEq.two {M M' : dkM} (h : tEq M M') : tEq (mTwo M) (mTwo M') := h.put _ _ (by decide) (by decide)
theorem tEq.cmdW {M M' : dkM} (h : tEq M M') : (mCmdW M).1 = (mCmdW M').1 ∧ tEq (mCmdW M).2 (mCmdW M').2 := by
  obtain ⟨a, b⟩ := h.rn
  have b1 := b.one
  have c1 := b1.nextB 61
  obtain ⟨a2, b2⟩ := (b1.nextM 61).rn
  unfold mCmdW
  rw [a, c1]
  by_cases q1 : mRnB M' = true
  · simp only [if_pos q1]
    by_cases q2 : mNextB (mOne (mRn M').2) 61 = true
    · simp only [if_pos q2]
      exact ⟨a2, b2.two⟩
    · simp only [if_neg q2]
      exact ⟨trivial, (b1.nextM 61).two⟩
  · simp only [if_neg q1]
    exact ⟨trivial, b1.two⟩
theorem tEq.cmd {M M' : dkM} (h : tEq M M') : (mCmd M).1 = (mCmd M').1 ∧ tEq (mCmd M).2 (mCmd M').2 := by
  have hl := h.let.2
  have h1 := h.at1
  obtain ⟨a, b⟩ := h1.rn
  unfold mCmd
  rw [hl]
  by_cases q1 : mLet M' 111 9 = 119
  · simp only [if_pos q1]
    exact tEq.cmdW h1
  · simp only [if_neg q1]
    by_cases q2 : mLet M' 111 9 = 115
    · simp only [if_pos q2]
      exact ⟨a, b.one.two⟩
    · simp only [if_neg q2]
      by_cases q3 : mLet M' 111 9 = 102 ∨ mLet M' 111 9 = 120 ∨ mLet M' 111 9 = 98
      · simp only [if_pos q3]
        exact ⟨trivial, (tEq.one h1).two⟩
      · simp only [if_neg q3]
        exact ⟨trivial, h.let.1⟩
theorem tEq.errL : ∀ (n : Nat) {M M' : dkM}, tEq M M' → (mErrL n M).1 = (mErrL n M').1 := by
  intro n
  induction n with
  | zero => intro M M' h; rfl
  | succ n ih =>
    intro M M' h
    obtain ⟨a, b⟩ := h.cmd
    have c := b.nextB 59
    have d := b.nextM 59
    unfold mErrL
    rw [a, b.1, b.2.1, c]
    split
    · split
      · rfl
      · split
        · exact ih d
        · exact d.2.1
    · rfl
/-- from here on the text is a script -/
def okE (M : dkM) : Prop := ∃ n, (mErrL n M).1 = -6
theorem okE.eq {M M' : dkM} (h : tEq M M') (hk : okE M) : okE M' := by
  obtain ⟨n, hn⟩ := hk
  exact ⟨n, (tEq.errL n h).symm.trans hn⟩
theorem at_ne6 {M : dkM} (h : aI M) : M 111 8 ≠ -6 := by
  intro z
  have := h.c
  rw [z] at this
  exact absurd this (by decide)
theorem okE.cmd {M : dkM} (ha : aI M) (h : okE M) : (mCmd M).1 = true ∧ ((mNxt M) 111 8 = (mNxt M) 111 6 ∨ okE (mNxt M)) := by
  obtain ⟨n, hn⟩ := h
  obtain ⟨a, b, c⟩ := mCmd_a ha
  obtain ⟨a2, b2, c2⟩ := mNextM_a (c := 59) a (by decide)
  cases n with
  | zero => exact absurd (show (0 : Int32) = -6 from hn) (by decide)
  | succ n =>
    unfold mErrL at hn
    split at hn
    · rename_i h1
      refine ⟨h1, ?_⟩
      split at hn
      · rename_i h2
        refine Or.inl ?_
        have hb : mNextB (mCmd M).2 59 = false := by
          have : mChar (mCmd M).2 ((mCmd M).2 111 8) = -1 := by unfold mChar; rw [if_pos (by rw [h2]; exact Int32.le_refl _)]
          unfold mNextB
          rw [this]
          rfl
        show mNextM (mCmd M).2 59 111 8 = mNextM (mCmd M).2 59 111 6
        rw [c2, mNextM, put_same, hb, h2]
        exact Int32_add_0 _
      · split at hn
        · exact Or.inr ⟨n, hn⟩
        · exact absurd hn (at_ne6 a2)
    · exact absurd hn (at_ne6 a)
theorem mNxt_a {M : dkM} (ha : aI M) (h : (mCmd M).1 = true) : aI (mNxt M) ∧ (M 111 8).toInt + 1 ≤ ((mNxt M) 111 8).toInt ∧ mNxt M 111 6 = M 111 6 := by
  obtain ⟨a, b, c⟩ := mCmd_a ha
  obtain ⟨a2, b2, c2⟩ := mNextM_a (c := 59) a (by decide)
  have b3 := b h
  exact ⟨a2, by show _ ≤ (mNextM (mCmd M).2 59 111 8).toInt; omega, c2.trans c⟩
theorem mNxt_rows (M : dkM) {a : Nat} (h : a ≠ 111) : mNxt M a = M a := by
  show mNextM (mCmd M).2 59 a = M a
  rw [mNextM_rows _ _ h, mCmd_rows M h]
/-- carrying out changes the state alone -/
theorem mClose_row (M : dkM) {a : Nat} (h : a ≠ 112) : mClose M a = M a := by rw [mClose, mClr_row _ _ h, dk_put_ne h, dk_put_ne h]
theorem mEnds_row (M : dkM) {a : Nat} (h : a ≠ 112) : mEnds M a = M a := by rw [mEnds, mClose_row _ h, dk_put_ne h, dk_put_ne h, dk_put_ne h]
theorem mEnd_row (M : dkM) {a : Nat} (h : a ≠ 112) : mEnd M a = M a := by
  unfold mEnd
  split
  · rw [mEnds_row _ h, dk_put_ne h, dk_put_ne h]
  · split
    · exact mEnds_row _ h
    · rfl
theorem mjL_row (M : dkM) (f k : Nat) {a : Nat} (h : a ≠ 112) : mjL M f k a = M a := by
  induction k with
  | zero => rfl
  | succ k ih => rw [mjL, dk_put_ne h, ih]
theorem mStep_row (M : dkM) {a : Nat} (h : a ≠ 112) : mStep M a = M a := by
  unfold mStep
  split
  · rw [dk_put_ne h, mJr, mjL_row _ _ _ h]
  · split
    · rw [mRwS, dk_put_ne h, dk_put_ne h]
    · rw [mEnd_row _ h, mClose_row _ h, dk_put_ne h]
theorem mStepsL_row : ∀ (n : Nat) (M : dkM) (k : Nat) {a : Nat}, a ≠ 112 → (mStepsL n M k).2 a = M a := by
  intro n
  induction n with
  | zero => intro M k a h; rfl
  | succ n ih =>
    intro M k a h
    unfold mStepsL
    split
    · rw [ih _ _ h, mStep_row _ h]
    · rfl
theorem mFluL_row (M : dkM) (k : Nat) {a : Nat} (h : a ≠ 112) : mFluL M k a = M a := by
  induction k with
  | zero => rfl
  | succ k ih =>
    rw [mFluL]
    split
    · rw [dk_put_ne h, dk_put_ne h, ih]
    · exact ih
theorem mDoes_row (M : dkM) {a : Nat} (h : a ≠ 112) : mDoes M a = M a := by
  unfold mDoes
  split
  · rw [mTurnsM, mEnd_row _ h, dk_put_ne h]
  · split
    · exact mFluL_row _ _ h
    · split
      · exact mStepsL_row _ _ _ h
      · split
        · rw [mWritesM, dk_put_ne h, dk_put_ne h]
        · exact mFails_row _ h
theorem mTurns_I {M : dkM} (hI : mI M) (hr : mRek M = true) : mI (mTurnsM M) :=
  mI_end (mI_of (put_k (by decide)) (put_k (by decide)) (put_k (by decide)) (put_k (by decide)) (put_k (by decide)) (by rw [put_k (by decide)]; exact hI.2.2.2.2) hI) ((mRek_congr (put_k (by decide))).trans hr)
theorem mWhyT_0 {M : dkM} (h : mWhyT M = 0) : mRek M = true := by
  unfold mWhyT at h
  split at h
  · assumption
  · exact absurd h (by decide)
theorem mWhyW_0 {M : dkM} {s v : Int32} (h : mWhyW M s v = 0) : mSec M s = true := mWhyW_ok (by rw [h]; decide)
theorem mDoes_I {M : dkM} (hI : mI M) (hw : mWhyD M = 0) : mI (mDoes M) := by
  unfold mDoes
  unfold mWhyD at hw
  split
  · rename_i h; rw [if_pos h] at hw; exact mTurns_I hI (mWhyT_0 hw)
  · rename_i h; rw [if_neg h] at hw
    split
    · exact mI_flL hI _
    · split
      · exact mStepsL_I _ _ _ hI
      · rename_i h2; rw [if_neg h2] at hw
        split
        · rename_i h3; rw [if_pos h3] at hw
          exact mI_congr (fun j hj => by rw [mWritesM, put_k (by omega), put_k (by omega)]) hI
        · exact mI_fails hI
theorem mDoes_s {M : dkM} (hI : mI M) (hw : mWhyD M = 0) (h : M 111 9 = 119) : M 111 10 = nI (ix (M 111 10)) ∧ ix (M 111 10) < 64 := by
  unfold mWhyD at hw
  rw [if_neg (by rw [h]; decide), if_neg (by rw [h]; decide), if_pos h] at hw
  have := mSec_k hI (mWhyW_0 hw)
  exact ⟨this.1, this.2.1⟩
theorem aI_0 {M M' : dkM} (ht : tI M) (h6 : M' 111 6 = M 111 6) (h8 : M' 111 8 = 0) : aI M' := by
  refine ⟨?_, ?_, ?_⟩
  · unfold tI; rw [h6]; exact ht
  · rw [h8]; decide
  · rw [h8, h6]; exact ht.1
theorem mErr_6 {M : dkM} (ht : tI M) : (mErr M).2 111 6 = M 111 6 := by
  have h := (mErrL_6 100 (dk_put M 111 8 0) (aI_0 ht (put_k (by decide)) put_same)).1
  rw [put_k (by decide)] at h
  exact h
theorem mRn_9 (M : dkM) : (mRn M).2 111 9 = M 111 9 := by
  have : ∀ (n : Nat) (M : dkM) (k : Nat), (mRnL n M k).2 111 9 = M 111 9 := by
    intro n
    induction n with
    | zero => intro M k; rfl
    | succ n ih =>
      intro M k
      unfold mRnL
      split
      · rw [ih, mRnS, put_k (by decide), put_k (by decide)]
      · rfl
  rw [mRn, this, put_k (by decide)]
theorem e0I : (0 : Int32).toInt = 0 := by decide
