/-! splitting a script and reading it command by command -/
section SG
variable {T : Nat} {w : Nat → Int32} {M Mx Mh : dkM}
/-- the class's state after i characters -/
def SPok (T : Nat) (w : Nat → Int32) (Mh : dkM) : Prop := ∀ q, q < T → spL Mh (q + 1) = spStep (spL Mh q) (w q)
theorem mRnL_keep : ∀ (n : Nat) (M : dkM) (k : Nat) {j : Nat}, j ≠ 8 → j ≠ 12 → (mRnL n M k).2 111 j = M 111 j := by
  intro n
  induction n with
  | zero => intro M k j _ _; rfl
  | succ n ih =>
    intro M k j h1 h2
    unfold mRnL
    split
    · rw [ih _ _ h1 h2, mRnS, put_k h1, put_k h2]
    · rfl
theorem mRn_keep (M : dkM) {j : Nat} (h1 : j ≠ 8) (h2 : j ≠ 12) : (mRn M).2 111 j = M 111 j := by
  rw [mRn, mRnL_keep _ _ _ h1 h2, put_k h2]
theorem PM.uniq {q q' : Nat} (h : PM T w M q) (h' : PM T w M q') : q = q' := by
  have h1 := h.2.1
  have h2 := h'.2.1
  have a := h.2.2
  have b := h'.2.2
  exact (nI_eq (by omega) (by omega)).mp (h1.symm.trans h2)
theorem nI_s1 (k : Nat) : nI (k + 1) - 1 = nI k := by
  rw [← nI_1]
  exact Int32.add_sub_cancel (nI k) 1
theorem rset40 {X : dkM} {o k : Nat} {v : Int32} (hk : k < 40) : rset X o 40 (nI k) v = dk_put X (o + 1) k v := rset_nI hk (by decide)
theorem put_j {X : dkM} {o k a j : Nat} {x : Int32} (h : j ≠ k) : dk_put X o k x a j = X a j := by
  by_cases q : a = o
  · rw [q]; exact put_k h
  · rw [dk_put_ne q]
/-- digits, on both sides -/
theorem run2 (hS : SPok T w Mh) {k : Nat} (hk : k < 40) : ∀ (n : Nat) (M : dkM) (i q : Nat), n + i = 5 → PM T w M q → (spL Mh q).1 = nI (k + 1) → (spL Mh q).2.1 = M 111 12 → (0 < i → (spL Mh q).2.2 110 k = M 111 12) → ∃ q', PM T w (mRnL n M i).2 q' ∧ (spL Mh q').1 = nI (k + 1) ∧ (spL Mh q').2.1 = (mRnL n M i).2 111 12 ∧ i ≤ (mRnL n M i).1 ∧ (0 < (mRnL n M i).1 → (spL Mh q').2.2 110 k = (mRnL n M i).2 111 12) ∧ (∀ a j, a ≠ 110 ∨ j ≠ k → (spL Mh q').2.2 a j = (spL Mh q).2.2 a j) := by
  intro n
  induction n with
  | zero => intro M i q _ h s1 s2 s3; exact ⟨q, h, s1, s2, Nat.le_refl i, s3, fun _ _ _ => rfl⟩
  | succ n ih =>
    intro M i q hi h s1 s2 s3
    have hc := h.ch
    unfold mRnL
    rw [hc]
    by_cases hd : mWithin (chr T w q) 48 57 = true
    · rw [if_pos hd]
      have hq : q < T := chr_lt (mW_ne hd)
      have hw : isDig (w q) = true := by rw [dig_e, ← chr_w (w := w) hq]; exact hd
      have e : spL Mh (q + 1) = (nI (k + 1), 10 * M 111 12 + w q - 48, dk_put (spL Mh q).2.2 110 k (10 * M 111 12 + w q - 48)) := by
        rw [hS q hq]
        unfold spStep
        rw [if_pos hw, s1, s2, nI_s1, rset40 hk]
      have e12 : mRnS M 111 12 = 10 * M 111 12 + w q - 48 := by
        unfold mRnS
        rw [put_k (by decide), put_same, hc, chr_w hq]
      obtain ⟨q', p1, p2, p3, p4, p5, p6⟩ := ih (mRnS M) (i + 1) (q + 1) (by omega) (h.rnS hq) (by rw [e]) (by rw [e, e12]) (fun _ => by rw [e, e12]; dsimp only; exact put_same)
      refine ⟨q', p1, p2, p3, by omega, p5, fun a j haj => ?_⟩
      · rw [p6 a j haj, e]
        dsimp only
        unfold dk_put
        rcases haj with z | z
        · rw [if_neg z]
        · rw [if_neg z]; split <;> rfl
    · rw [if_neg hd]
      exact ⟨q, h, s1, s2, Nat.le_refl i, s3, fun _ _ _ => rfl⟩
theorem rn2 (hS : SPok T w Mh) {k q : Nat} (hk : k < 40) (h : PM T w M q) (s1 : (spL Mh q).1 = nI (k + 1)) (s2 : (spL Mh q).2.1 = 0) : ∃ q', PM T w (mRn M).2 q' ∧ (spL Mh q').1 = nI (k + 1) ∧ (spL Mh q').2.1 = (mRn M).2 111 12 ∧ (mRnB M = true → (spL Mh q').2.2 110 k = (mRn M).2 111 12) ∧ (∀ a j, a ≠ 110 ∨ j ≠ k → (spL Mh q').2.2 a j = (spL Mh q).2.2 a j) := by
  obtain ⟨q', p1, p2, p3, p4, p5, p6⟩ := run2 hS hk 5 (dk_put M 111 12 0) 0 q rfl (h.put 0 (by decide) (by decide)) s1 (by rw [put_same]; exact s2) (fun z => absurd z (Nat.lt_irrefl 0))
  refine ⟨q', p1, p2, p3, fun z => p5 ?_, p6⟩
  have := rnB_iff.mp z
  exact Nat.pos_of_ne_zero this
theorem mAt1_9 (M : dkM) : mAt1 M 111 9 = mLet M 111 9 := put_k (by decide)
theorem mNextM_keep (M : dkM) (c : Int32) {j : Nat} (h : j ≠ 8) : mNextM M c 111 j = M 111 j := put_k h
theorem mOne_keep (M : dkM) {j : Nat} (h : j ≠ 10) : mOne M 111 j = M 111 j := put_k h
theorem mTwo_keep (M : dkM) {j : Nat} (h : j ≠ 11) : mTwo M 111 j = M 111 j := put_k h
/-- a letter, to the class -/
theorem sp_let (hS : SPok T w Mh) {k q : Nat} (hk : k < 40) (hq : q < T) (s1 : (spL Mh q).1 = nI k) (hl : w q = 98 ∨ w q = 102 ∨ w q = 115 ∨ w q = 119 ∨ w q = 120) : spL Mh (q + 1) = (nI (k + 1), 0, dk_put (spL Mh q).2.2 106 k (w q)) := by
  have h1 : isDig (w q) = false ∧ ¬ w q = 61 ∧ ¬ w q = 59 := by rcases hl with z | z | z | z | z <;> rw [z] <;> decide
  rw [hS q hq]
  unfold spStep
  rw [h1.1, if_neg (by decide), if_neg h1.2.1, if_neg h1.2.2, s1, nI_1, rset40 hk]
/-- what both hold of a command -/
def CM (Mh : dkM) (k q : Nat) (N : dkM) (q' : Nat) : Prop := (spL Mh q').1 = nI (k + 1) ∧ (spL Mh q').2.2 106 k = N 111 9 ∧ (N 111 9 = 119 → (spL Mh q').2.2 108 k = N 111 10 ∧ (spL Mh q').2.2 110 k = N 111 11) ∧ (N 111 9 = 115 → (spL Mh q').2.2 110 k = N 111 10) ∧ (∀ a j, j ≠ k → (spL Mh q').2.2 a j = (spL Mh q).2.2 a j) ∧ (N 111 9 = 98 ∨ N 111 9 = 102 ∨ N 111 9 = 115 ∨ N 111 9 = 119 ∨ N 111 9 = 120)
theorem cmd2 (hS : SPok T w Mh) {k q : Nat} (hk : k < 40) (h : PM T w M q) (s1 : (spL Mh q).1 = nI k) (hc : (mCmd M).1 = true) : ∃ q', PM T w (mCmd M).2 q' ∧ CM Mh k q (mCmd M).2 q' := by
  have h9 : mLet M 111 9 = chr T w q := by rw [mLet_9]; exact h.ch
  revert hc
  unfold mCmd
  rw [h9]
  by_cases c1 : chr T w q = 119
  · rw [if_pos c1]
    have hl : q < T := chr_lt (by rw [c1]; decide)
    have hw : w q = 119 := by rw [← chr_w (w := w) hl]; exact c1
    have e := sp_let hS hk hl s1 (Or.inr (Or.inr (Or.inr (Or.inl hw))))
    obtain ⟨q1, p1, p2, p3, p4, p5⟩ := rn2 hS hk (h.at1 hl) (by rw [e]) (by rw [e])
    have o1 : PM T w (mOne (mRn (mAt1 M)).2) q1 := p1.put _ (by decide) (by decide)
    unfold mCmdW
    by_cases hr : mRnB (mAt1 M) = true
    · rw [if_pos hr]
      by_cases he : mNextB (mOne (mRn (mAt1 M)).2) 61 = true
      · rw [if_pos he]
        have he2 := (o1.nextB 61).mp he
        have hl1 : q1 < T := chr_lt (by rw [he2]; decide)
        have o2 := o1.nextT he2 (by decide)
        have e2 : spL Mh (q1 + 1) = (nI (k + 1), 0, dk_put (spL Mh q1).2.2 108 k (spL Mh q1).2.1) := by
          rw [hS q1 hl1]
          unfold spStep
          rw [show w q1 = 61 from by rw [← chr_w (w := w) hl1]; exact he2, d61, if_neg (by decide), if_pos rfl, p2, nI_s1, rset40 hk]
        obtain ⟨q2, t1, t2, t3, t4, t5⟩ := rn2 hS hk o2 (by rw [e2]) (by rw [e2])
        intro hc
        dsimp only at hc ⊢
        have f9 : mTwo (mRn (mNextM (mOne (mRn (mAt1 M)).2) 61)).2 111 9 = 119 := by
          rw [mTwo_keep _ (by decide), mRn_keep _ (by decide) (by decide), mNextM_keep _ _ (by decide), mOne_keep _ (by decide), mRn_keep _ (by decide) (by decide), mAt1_9, h9, c1]
        have f10 : mTwo (mRn (mNextM (mOne (mRn (mAt1 M)).2) 61)).2 111 10 = (mRn (mAt1 M)).2 111 12 := by
          rw [mTwo_keep _ (by decide), mRn_keep _ (by decide) (by decide), mNextM_keep _ _ (by decide)]; exact put_same
        have f11 : mTwo (mRn (mNextM (mOne (mRn (mAt1 M)).2) 61)).2 111 11 = (mRn (mNextM (mOne (mRn (mAt1 M)).2) 61)).2 111 12 := put_same
        refine ⟨q2, t1.put _ (by decide) (by decide), t2, ?_, fun _ => ⟨?_, ?_⟩, fun z => ?_, fun a j hj => ?_, ?_⟩
        · rw [f9, t5 106 k (Or.inl (by decide)), e2]
          dsimp only
          rw [dk_put_ne (by decide), p5 106 k (Or.inl (by decide)), e]
          dsimp only
          rw [put_same, hw]
        · rw [f10, t5 108 k (Or.inl (by decide)), e2]
          dsimp only
          rw [put_same, p3]
        · rw [f11]; exact t4 hc
        · rw [f9] at z; exact absurd z (by decide)
        · rw [t5 a j (Or.inr hj), e2]
          dsimp only
          rw [show dk_put (spL Mh q1).2.2 108 k (spL Mh q1).2.1 a j = (spL Mh q1).2.2 a j from put_j hj, p5 a j (Or.inr hj), e]
          dsimp only
          exact put_j hj
        · rw [f9]; exact Or.inr (Or.inr (Or.inr (Or.inl rfl)))
      · rw [if_neg he]; intro hc; exact absurd hc Bool.false_ne_true
    · rw [if_neg hr]; intro hc; exact absurd hc Bool.false_ne_true
  · rw [if_neg c1]
    by_cases c2 : chr T w q = 115
    · rw [if_pos c2]
      have hl : q < T := chr_lt (by rw [c2]; decide)
      have hw : w q = 115 := by rw [← chr_w (w := w) hl]; exact c2
      have e := sp_let hS hk hl s1 (Or.inr (Or.inr (Or.inl hw)))
      obtain ⟨q1, p1, p2, p3, p4, p5⟩ := rn2 hS hk (h.at1 hl) (by rw [e]) (by rw [e])
      intro hc
      dsimp only at hc ⊢
      have f9 : mTwo (mOne (mRn (mAt1 M)).2) 111 9 = 115 := by
        rw [mTwo_keep _ (by decide), mOne_keep _ (by decide), mRn_keep _ (by decide) (by decide), mAt1_9, h9, c2]
      have f10 : mTwo (mOne (mRn (mAt1 M)).2) 111 10 = (mRn (mAt1 M)).2 111 12 := by
        rw [mTwo_keep _ (by decide)]; exact put_same
      refine ⟨q1, ((p1.put (j := 10) _ (by decide) (by decide)).put (j := 11) _ (by decide) (by decide)), p2, ?_, fun z => ?_, fun _ => ?_, fun a j hj => ?_, ?_⟩
      · rw [f9, p5 106 k (Or.inl (by decide)), e]
        dsimp only
        rw [put_same, hw]
      · rw [f9] at z; exact absurd z (by decide)
      · rw [f10]; exact p4 hc
      · rw [p5 a j (Or.inr hj), e]
        dsimp only
        exact put_j hj
      · rw [f9]; exact Or.inr (Or.inr (Or.inl rfl))
    · rw [if_neg c2]
      by_cases c3 : chr T w q = 102 ∨ chr T w q = 120 ∨ chr T w q = 98
      · rw [if_pos c3]
        have hl : q < T := chr_lt (by rcases c3 with z | z | z <;> rw [z] <;> decide)
        have hw : w q = chr T w q := (chr_w hl).symm
        have hL : w q = 98 ∨ w q = 102 ∨ w q = 115 ∨ w q = 119 ∨ w q = 120 := by
          rw [hw]
          rcases c3 with z | z | z
          · exact Or.inr (Or.inl z)
          · exact Or.inr (Or.inr (Or.inr (Or.inr z)))
          · exact Or.inl z
        have e := sp_let hS hk hl s1 hL
        intro hc
        have o := h.at1 hl
        dsimp only
        have f9 : mTwo (mOne (mAt1 M)) 111 9 = w q := by
          rw [mTwo_keep _ (by decide), mOne_keep _ (by decide), mAt1_9, h9, hw]
        refine ⟨q + 1, ((o.put (j := 10) _ (by decide) (by decide)).put (j := 11) _ (by decide) (by decide)), ?_, ?_, fun z => ?_, fun z => ?_, fun a j hj => ?_, ?_⟩
        · rw [e]
        · rw [f9, e]; dsimp only; exact put_same
        · rw [f9, hw] at z; exact absurd z c1
        · rw [f9, hw] at z; exact absurd z c2
        · rw [e]
          dsimp only
          exact put_j hj
        · rw [f9]; exact hL
      · rw [if_neg c3]
        intro hc; exact absurd hc Bool.false_ne_true
end SG
