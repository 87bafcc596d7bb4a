/-! the reader: the place of an error -/
def PM (T : Nat) (w : Nat → Int32) (M : dkM) (q : Nat) : Prop := M 111 6 = nI T ∧ M 111 8 = nI q ∧ q ≤ T ∧ T ≤ 80 ∧ M 116 = w
def chr (T : Nat) (w : Nat → Int32) (q : Nat) : Int32 := if q < T then w q else -1
def feP (T : Nat) (w : Nat → Int32) : Nat → Nat → Int32 → Int32
  | 0, _, p => if p = 1 then -6 else if 20 < p then -6 else nI T
  | n + 1, i, p => if pb p (w i) = -1 then nI i else feP T w n (i + 1) (pb p (w i))
def FE (T : Nat) (w : Nat → Int32) (i : Nat) (p : Int32) : Int32 := feP T w (T - i) i p
section SE
variable {T : Nat} {w : Nat → Int32} {M Mx Mm : dkM}
theorem FE_lt {i : Nat} (h : i < T) (p : Int32) : FE T w i p = if pb p (w i) = -1 then nI i else FE T w (i + 1) (pb p (w i)) := by
  unfold FE
  rw [show T - i = (T - (i + 1)) + 1 by omega]
  rfl
theorem FE_T (p : Int32) : FE T w T p = if p = 1 then -6 else if 20 < p then -6 else nI T := by
  unfold FE
  rw [Nat.sub_self]
  rfl
theorem PM.ch {q : Nat} (h : PM T w M q) : mChar M (M 111 8) = chr T w q := by
  obtain ⟨h1, h2, h3, h4, h5⟩ := h
  unfold mChar chr
  rw [h1, h2, h5, ix_nI (by omega)]
  by_cases z : q < T
  · rw [if_neg (show ¬ nI T ≤ nI q from by rw [tI_le, nI_toInt (by omega), nI_toInt (by omega)]; omega), if_pos z]
  · rw [if_pos (show nI T ≤ nI q from by rw [tI_le, nI_toInt (by omega), nI_toInt (by omega)]; omega), if_neg z]
theorem PM.put {q : Nat} (h : PM T w M q) {j : Nat} (x : Int32) (h6 : j ≠ 6) (h8 : j ≠ 8) : PM T w (dk_put M 111 j x) q := by
  obtain ⟨h1, h2, h3, h4, h5⟩ := h
  exact ⟨by rw [put_k (fun z => h6 z.symm)]; exact h1, by rw [put_k (fun z => h8 z.symm)]; exact h2, h3, h4, by rw [dk_put_ne (by decide)]; exact h5⟩
theorem PM.inc {q : Nat} (h : PM T w M q) (hq : q < T) : PM T w (dk_put M 111 8 (M 111 8 + 1)) (q + 1) := by
  obtain ⟨h1, h2, h3, h4, h5⟩ := h
  exact ⟨by rw [put_k (by decide)]; exact h1, by rw [put_same, h2]; exact nI_1 q, hq, h4, by rw [dk_put_ne (by decide)]; exact h5⟩
theorem chr_lt {q : Nat} (h : chr T w q ≠ -1) : q < T := by
  unfold chr at h
  by_cases z : q < T
  · exact z
  · rw [if_neg z] at h; exact absurd rfl h
theorem chr_w {q : Nat} (h : q < T) : chr T w q = w q := by unfold chr; rw [if_pos h]
theorem dig_e (c : Int32) : isDig c = mWithin c 48 57 := rfl
theorem PM.rnS {q : Nat} (h : PM T w M q) (hq : q < T) : PM T w (mRnS M) (q + 1) := by
  unfold mRnS
  have h1 := h.put (j := 12) (10 * M 111 12 + mChar M (M 111 8) - 48) (by decide) (by decide)
  have h2 := h1.inc hq
  rw [put_k (by decide)] at h2
  exact h2
theorem pb_dig {b k : Nat} (hb : b = 10 ∨ b = 20) (hk : k < 5) {c : Int32} (hd : isDig c = true) : pb (nI (b + k)) c = nI (b + (k + 1)) := by
  unfold pb
  rw [hd]
  rcases hb with rfl | rfl
  · rcases (show k = 0 ∨ k = 1 ∨ k = 2 ∨ k = 3 ∨ k = 4 by omega) with rfl | rfl | rfl | rfl | rfl <;> rfl
  · rcases (show k = 0 ∨ k = 1 ∨ k = 2 ∨ k = 3 ∨ k = 4 by omega) with rfl | rfl | rfl | rfl | rfl <;> rfl
theorem nI_nem {n : Nat} (h : n < 2 ^ 31) : nI n ≠ -1 := by
  intro z
  have := congrArg Int32.toInt z
  rw [nI_toInt h, em1I] at this
  omega
/-- a run of digits -/
theorem run {b : Nat} (hb : b = 10 ∨ b = 20) : ∀ (n : Nat) (M : dkM) (k q : Nat), n + k = 5 → PM T w M q → ∃ q', PM T w (mRnL n M k).2 q' ∧ k ≤ (mRnL n M k).1 ∧ (mRnL n M k).1 ≤ 5 ∧ q' = q + ((mRnL n M k).1 - k) ∧ FE T w q (nI (b + k)) = FE T w q' (nI (b + (mRnL n M k).1)) ∧ ((mRnL n M k).1 = 5 ∨ ¬ isDig (chr T w q') = true) := by
  intro n
  induction n with
  | zero => intro M k q hk h; exact ⟨q, h, Nat.le_refl k, by show k ≤ 5; omega, by show q = q + (k - k); omega, rfl, Or.inl (by show k = 5; omega)⟩
  | succ n ih =>
    intro M k q hk h
    have hc := h.ch
    unfold mRnL
    rw [hc]
    by_cases hd : mWithin (chr T w q) 48 57 = true
    · rw [if_pos hd]
      have hq : q < T := chr_lt (mW_ne hd)
      obtain ⟨q', p1, p2, p3, p4, p5, p6⟩ := ih (mRnS M) (k + 1) (q + 1) (by omega) (h.rnS hq)
      refine ⟨q', p1, by omega, p3, by omega, ?_, p6⟩
      rw [← p5, FE_lt hq, pb_dig hb (by omega) (by rw [dig_e, ← chr_w (w := w) hq]; exact hd), if_neg (nI_nem (by omega))]
    · rw [if_neg hd]
      exact ⟨q, h, Nat.le_refl k, by show k ≤ 5; omega, by show q = q + (k - k); omega, rfl, Or.inr hd⟩
theorem rn {b : Nat} (hb : b = 10 ∨ b = 20) {q : Nat} (h : PM T w M q) : ∃ q', PM T w (mRn M).2 q' ∧ (mRn M).1 ≤ 5 ∧ q' = q + (mRn M).1 ∧ FE T w q (nI b) = FE T w q' (nI (b + (mRn M).1)) ∧ ((mRn M).1 = 5 ∨ ¬ isDig (chr T w q') = true) := by
  obtain ⟨q', p1, p2, p3, p4, p5, p6⟩ := run hb 5 (dk_put M 111 12 0) 0 q rfl (h.put 0 (by decide) (by decide))
  exact ⟨q', p1, p3, p4, p5, p6⟩
theorem PM.nextB {q : Nat} (h : PM T w M q) (c : Int32) : mNextB M c = true ↔ chr T w q = c := by
  unfold mNextB
  rw [h.ch]
  by_cases z : chr T w q = c
  · rw [if_pos z]; exact ⟨fun _ => z, fun _ => rfl⟩
  · rw [if_neg z]; exact ⟨fun y => absurd y (by decide), fun y => absurd y z⟩
theorem PM.nextT {q : Nat} (h : PM T w M q) {c : Int32} (hc : chr T w q = c) (h1 : c ≠ -1) : PM T w (mNextM M c) (q + 1) := by
  have := h.inc (chr_lt (by rw [hc]; exact h1))
  unfold mNextM
  rw [(h.nextB c).mpr hc, if_pos rfl]
  exact this
theorem PM.nextF {q : Nat} (h : PM T w M q) {c : Int32} (hc : chr T w q ≠ c) : PM T w (mNextM M c) q := by
  obtain ⟨h1, h2, h3, h4, h5⟩ := h
  have hb : ¬ mNextB M c = true := fun z => hc ((PM.nextB ⟨h1, h2, h3, h4, h5⟩ c).mp z)
  unfold mNextM
  rw [if_neg hb]
  exact ⟨by rw [put_k (by decide)]; exact h1, by rw [put_same, h2]; exact Int32_add_0 _, h3, h4, by rw [dk_put_ne (by decide)]; exact h5⟩
/-- where a state is final -/
theorem FE_fin {q : Nat} {p : Int32} (hq : q ≤ T) (hp : p = 1 ∨ 20 < p) (hpb : q < T → pb p (w q) = if w q = 59 then 0 else -1) : FE T w q p = if q = T then -6 else if chr T w q = 59 then FE T w (q + 1) 0 else nI q := by
  by_cases z : q = T
  · rw [if_pos z, z, FE_T]
    rcases hp with y | y
    · rw [if_pos y]
    · by_cases y2 : p = 1
      · rw [if_pos y2]
      · rw [if_neg y2, if_pos y]
  · have hl : q < T := by omega
    rw [if_neg z, FE_lt hl, hpb hl, chr_w hl]
    by_cases y : w q = 59
    · rw [if_pos y, if_pos y, if_neg (by decide)]
    · rw [if_neg y, if_neg y, if_pos rfl]
/-- where a state wants something else -/
theorem FE_bad {q : Nat} {p : Int32} (hq : q ≤ T) (hp : ¬ (p = 1 ∨ 20 < p)) (hpb : q < T → pb p (w q) = -1) : FE T w q p = nI q := by
  by_cases z : q = T
  · rw [z, FE_T, if_neg (fun y => hp (Or.inl y)), if_neg (fun y => hp (Or.inr y))]
  · have hl : q < T := by omega
    rw [FE_lt hl, hpb hl, if_pos rfl]
theorem pb_1 (c : Int32) : pb 1 c = if c = 59 then 0 else -1 := rfl
theorem d61 : isDig 61 = false := by decide
theorem d59 : isDig 59 = false := by decide
/-- after the first number -/
theorem pb_10 {k : Nat} (hk : k ≤ 5) {c : Int32} (h : k = 5 ∨ ¬ isDig c = true) (h1 : k = 0 ∨ c ≠ 61) : pb (nI (10 + k)) c = -1 := by
  cases hd : isDig c with
  | true =>
    have h5 : k = 5 := by
      rcases h with h | h
      · exact h
      · exact absurd hd h
    unfold pb
    rw [hd, h5]
    rfl
  | false =>
    unfold pb
    rw [hd]
    rcases (show k = 0 ∨ k = 1 ∨ k = 2 ∨ k = 3 ∨ k = 4 ∨ k = 5 by omega) with q | q | q | q | q | q
    · rw [q]; rfl
    all_goals
      have hc : c ≠ 61 := by
        rcases h1 with h1 | h1
        · omega
        · exact h1
      rw [q]
      simp only [if_neg hc]
      rfl
theorem pb_10e {k : Nat} (hk : k ≤ 5) (h0 : k ≠ 0) : pb (nI (10 + k)) 61 = 20 := by
  rcases (show k = 1 ∨ k = 2 ∨ k = 3 ∨ k = 4 ∨ k = 5 by omega) with q | q | q | q | q <;> rw [q] <;> decide
theorem pb_20 {k : Nat} (hk : k ≤ 5) {c : Int32} (h : k = 5 ∨ ¬ isDig c = true) : pb (nI (20 + k)) c = if k = 0 then -1 else if c = 59 then 0 else -1 := by
  cases hd : isDig c with
  | true =>
    have h5 : k = 5 := by
      rcases h with h | h
      · exact h
      · exact absurd hd h
    have hc : c ≠ 59 := fun z => by rw [z, d59] at hd; cases hd
    unfold pb
    rw [hd, h5, if_neg (show ¬ (5 : Nat) = 0 by decide), if_neg hc]
    rfl
  | false =>
    unfold pb
    rw [hd]
    rcases (show k = 0 ∨ k = 1 ∨ k = 2 ∨ k = 3 ∨ k = 4 ∨ k = 5 by omega) with q | q | q | q | q | q <;> rw [q] <;> rfl
theorem nI_big {n : Nat} (h : n < 2 ^ 31) : (nI n = 1 ∨ 20 < nI n) ↔ (n = 1 ∨ 20 < n) := by
  have e20 : (20 : Int32).toInt = 20 := by decide
  rw [tI_lt, nI_toInt h, e20]
  constructor
  · rintro (z | z)
    · have := congrArg Int32.toInt z
      rw [nI_toInt h, e1I] at this
      exact Or.inl (by omega)
    · exact Or.inr (by omega)
  · rintro (z | z)
    · exact Or.inl (by rw [z]; rfl)
    · exact Or.inr (by omega)
end SE
