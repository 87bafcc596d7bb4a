/-! the law's disk and the model's state: the relation; what is read -/
def LR (M : dkM) (q d c w j : Nat) (f : Nat → Int32) : Prop :=
  (∀ k, k ≤ 10 → k ≠ 6 → M q k = f k) ∧ ((M q 6 = 0 ∧ f 6 = 0) ∨ (M q 6 = 1 ∧ 0 < (f 6).toInt ∧ (f 6).toInt = fT f - fF f)) ∧ ((∀ k, 1 ≤ k → k ≤ 5 → M q (10 + k) = f (11 + k)) ∧ ∀ k, 6 ≤ k → k ≤ 99 → f (11 + k) = -6) ∧ (f 0).toInt ≤ 20 ∧ ∀ s, s < ix (f 0) → (M d s = f (111 + s) ∧ M c s = f (239 + s)) ∧ (M j s = f (175 + s) ∧ M w s = f (303 + s))
/-- the arrays are apart -/
def lD (q d c w j : Nat) : Prop := (q ≠ d ∧ q ≠ c ∧ q ≠ w ∧ q ≠ j) ∧ (d ≠ c ∧ d ≠ w ∧ d ≠ j) ∧ (c ≠ w ∧ c ≠ j) ∧ w ≠ j
section LS
variable {Mx : dkM} {e : Nat} {N : dkM} {M : dkM} {q d c w j : Nat}
theorem LR.k (r : LR M q d c w j (N 112)) {k : Nat} (h : k ≤ 10) (h6 : k ≠ 6) : M q k = N 112 k := r.1 k h h6
theorem neg6 : ((-6 : Int32)).toInt = -6 := by decide
theorem lt0I {x : Int32} : x < 0 ↔ x.toInt < 0 := by rw [tI_lt]; exact Iff.rfl
theorem le0I {x : Int32} : 0 ≤ x ↔ 0 ≤ x.toInt := by rw [tI_le]; exact Iff.rfl
theorem LR.sec (h : DS Mx e (N 112)) (r : LR M q d c w j (N 112)) : ix (M q 0) = ix (N 112 0) ∧ ix (N 112 0) ≤ 20 ∧ 4 ≤ ix (N 112 0) ∧ lNn M q := by
  have h0 := h.sec
  have h1 := r.2.2.2.1
  have e0 := r.k (k := 0) (by decide) (by decide)
  refine ⟨by rw [e0], by omega, h0.2.1, ?_⟩
  unfold lNn
  rw [e0]
  have := h.a.1
  omega
/-- the own key's number, and the other's, are at most 5 -/
theorem LR.own (h : DS Mx e (N 112)) (r : LR M q d c w j (N 112)) : 1 ≤ (N 112 1).toInt ∧ (N 112 1).toInt ≤ 5 := by
  have h1 := h.a.2.1.2
  have h2 := h.k.2.2.2.1
  have h3 := ix_99 h1
  have h4 := ix_toInt (x := N 112 1) (by omega)
  refine ⟨h1.1, ?_⟩
  rcases Nat.lt_or_ge (ix (N 112 1)) 6 with z | z
  · omega
  · exact absurd (r.2.2.1.2 _ z h3.2.1) h2
theorem LR.tgt (h : DS Mx e (N 112)) (r : LR M q d c w j (N 112)) (hr : mRek N = true) : 1 ≤ (N 112 2).toInt ∧ (N 112 2).toInt ≤ 5 := by
  have h1 := (h.on hr).2.1
  have h2 := h.k.2.2.2.2 (mRek_t hr)
  have h3 := ix_99 h1
  have h4 := ix_toInt (x := N 112 2) (by omega)
  refine ⟨h1.1, ?_⟩
  rcases Nat.lt_or_ge (ix (N 112 2)) 6 with z | z
  · omega
  · exact absurd (r.2.2.1.2 _ z h3.2.1) h2
theorem LR.q2 (h : DS Mx e (N 112)) (r : LR M q d c w j (N 112)) : (mRek N = true ∧ ¬ M q 2 < 0 ∧ 0 ≤ M q 2 ∧ 0 < M q 2) ∨ (mRek N = false ∧ M q 2 = -6 ∧ M q 2 < 0 ∧ ¬ 0 ≤ M q 2 ∧ ¬ 0 < M q 2) := by
  have e2 := r.k (k := 2) (by decide) (by decide)
  cases hr : mRek N with
  | true =>
    have h1 := (h.on hr).2.1
    refine Or.inl ⟨rfl, ?_, ?_, ?_⟩
    · rw [e2, lt0I]; omega
    · rw [e2, le0I]; omega
    · rw [e2, tI_lt, e0I]; omega
  | false =>
    have h1 := (h.off hr).2.1
    refine Or.inr ⟨rfl, by rw [e2, h1], ?_, ?_, ?_⟩ <;> rw [e2, h1] <;> decide
theorem LR.go (h : DS Mx e (N 112)) (r : LR M q d c w j (N 112)) : lGo M q = mRek N := by
  unfold lGo
  rcases r.q2 h with z | z
  · rw [if_pos z.2.2.1, z.1]
  · rw [if_neg z.2.2.2.1, z.1]
theorem LR.lk (h : DS Mx e (N 112)) (r : LR M q d c w j (N 112)) : lK M q := by
  refine ⟨by rw [r.k (k := 1) (by decide) (by decide)]; exact r.own h, ?_⟩
  rcases r.q2 h with z | z
  · refine Or.inr ?_
    rw [r.k (k := 2) (by decide) (by decide)]
    exact r.tgt h z.1
  · exact Or.inl z.2.2.1
theorem LR.first (h : DS Mx e (N 112)) (r : LR M q d c w j (N 112)) : lFirst M q = mFrom N := by
  unfold lFirst mFrom
  rw [r.k (k := 4) (by decide) (by decide), r.k (k := 3) (by decide) (by decide), r.k (k := 7) (by decide) (by decide)]
  have h7 := h.a.2.2.1.2
  cases hr : mRek N with
  | true =>
    obtain ⟨r1, r2, r3, r4, r5, r6, r7⟩ := h.on hr
    have a1 := h.a.1
    split
    · rfl
    · have hp : 0 ≤ (N 112 3).toInt ∧ (N 112 3).toInt ≤ 64 := by omega
      have e9 : (N 112 3 - N 112 7).toInt = (N 112 3).toInt - (N 112 7).toInt := tI_sub (by omega) (by omega)
      by_cases z : N 112 3 ≤ N 112 7
      · rw [if_pos z]
        rw [tI_le] at z
        by_cases z2 : 0 ≤ N 112 3 - N 112 7
        · rw [if_pos z2]
          rw [tI_le, e9, e0I] at z2
          refine Int32.toInt_inj.mp ?_
          rw [e9, e0I]; omega
        · rw [if_neg z2]
      · rw [if_neg z]
        rw [tI_le] at z
        rw [if_pos (by rw [tI_le, e9, e0I]; omega)]
  | false =>
    obtain ⟨r1, r2, r3, r4, r5, r6⟩ := h.off hr
    rw [r3, r4, if_neg (show ¬ ((-6 : Int32) = 1) by decide), if_neg (show ¬ ((-6 : Int32) = 1) by decide)]
    have e9 : ((-6 : Int32) - N 112 7).toInt = -6 - (N 112 7).toInt := by rw [tI_sub (by rw [neg6]; omega) (by rw [neg6]; omega), neg6]
    rw [if_pos (by rw [tI_le, neg6]; omega), if_neg (by rw [tI_le, e9, e0I]; omega)]
theorem LR.behind (h : DS Mx e (N 112)) (r : LR M q d c w j (N 112)) : lBehind M q = mTo N := by
  unfold lBehind mTo
  rw [r.k (k := 4) (by decide) (by decide), r.k (k := 3) (by decide) (by decide), r.k (k := 7) (by decide) (by decide), r.k (k := 0) (by decide) (by decide)]
  split
  · rfl
  · by_cases z : N 112 0 ≤ N 112 3 + N 112 7
    · rw [if_pos z]
      by_cases z2 : N 112 3 + N 112 7 ≤ N 112 0
      · rw [if_pos z2]
        rw [tI_le] at z z2
        exact Int32.toInt_inj.mp (by omega)
      · rw [if_neg z2]
    · rw [if_neg z]
      rw [if_pos (by rw [tI_le] at z ⊢; omega)]
theorem LR.rw (h : DS Mx e (N 112)) (r : LR M q d c w j (N 112)) (hr : mRek N = true) (s : Int32) : lRw M q s = mRw N s := by
  have hb := h.zb hr
  have a1 := h.a.1
  have hF := h.fFi hr
  have hT := h.fTi hr
  obtain ⟨r1, r2, r3, r4, r5, r6, r7⟩ := h.on hr
  have a6 := h.a.2.2.2.2.2.1
  have hadd : (mFrom N + N 112 5).toInt = (mFrom N).toInt + (N 112 5).toInt := tI_add (by omega) (by omega)
  unfold lRw mRw mInZ
  rw [r.first h, r.k (k := 5) (by decide) (by decide), hr]
  simp only [if_true]
  by_cases q1 : s < mFrom N
  · simp [q1]
  · by_cases q2 : mFrom N + N 112 5 ≤ s
    · simp [q1, q2]
    · have q3 : ¬ mTo N ≤ s := by rw [tI_le]; rw [tI_le, hadd] at q2; omega
      simp [q1, q2, q3]
theorem LR.key (h : DS Mx e (N 112)) (r : LR M q d c w j (N 112)) (s : Int32) : lKey M q s = mKeyAt N s := by
  unfold lKey mKeyAt
  rcases r.q2 h with ⟨hr, -, z, -⟩ | ⟨hr, -, -, z, -⟩
  · rw [if_pos z, hr, if_pos rfl, r.rw h hr, r.k (k := 4) (by decide) (by decide), r.k (k := 3) (by decide) (by decide), r.k (k := 2) (by decide) (by decide), r.k (k := 1) (by decide) (by decide)]
    obtain ⟨r1, r2, r3, r4, r5, r6, r7⟩ := h.on hr
    by_cases q4 : N 112 4 = 1
    · rw [if_pos q4]
      by_cases q5 : s < N 112 3
      · rw [if_pos q5, if_neg (dk_lt1 q5)]
        rw [if_neg]
        intro z9
        unfold mRw mInZ at z9
        rw [hr] at z9
        have e9 : mFrom N = N 112 3 := by unfold mFrom; rw [if_pos q4]
        rw [e9] at z9
        simp [q5] at z9
      · rw [if_neg q5, if_pos (dk_nlt q5)]
    · rw [if_neg q4]
      have q40 : N 112 4 = 0 := by
        rcases r6 with y | y
        · exact absurd y.1 q4
        · exact y.1
      by_cases q5 : N 112 3 ≤ s
      · rw [if_pos q5, if_pos q5, if_neg]
        intro z9
        unfold mRw mInZ at z9
        rw [hr] at z9
        have e9 : mTo N = N 112 3 := by unfold mTo; rw [if_pos q40]
        rw [e9] at z9
        simp [q5] at z9
      · rw [if_neg q5, if_neg q5]
  · rw [if_neg z, hr]
    simp only [Bool.false_eq_true, if_false]
    exact r.k (k := 1) (by decide) (by decide)
theorem LR.mk (h : DS Mx e (N 112)) (r : LR M q d c w j (N 112)) (s : Int32) : 1 ≤ (mKeyAt N s).toInt ∧ (mKeyAt N s).toInt ≤ 5 := by
  unfold mKeyAt
  cases hr : mRek N with
  | true =>
    have h1 := r.own h
    have h2 := r.tgt h hr
    simp only [if_true]
    repeat' split
    all_goals assumption
  | false => simp only [Bool.false_eq_true, if_false]; exact r.own h
theorem LR.ks (r : LR M q d c w j (N 112)) {k : Int32} (hk : 1 ≤ k.toInt ∧ k.toInt ≤ 5) : M q (10 + ix k) = N 112 (11 + ix k) := by
  have := ix_toInt (x := k) (by omega)
  exact r.2.2.1.1 _ (by omega) (by omega)
theorem LR.plain (h : DS Mx e (N 112)) (r : LR M q d c w j (N 112)) {k : Nat} (hk : k < ix (N 112 0)) : lPlain M q d k = mPlain N k := by
  have h1 := (r.2.2.2.2 k hk).1.1
  have h2 := h.s.1 k hk
  rw [h2.1] at h2
  unfold lPlain mPlain mSecret
  rw [r.key h, r.ks (r.mk h _), h1, lMix_eq h2.2]
theorem DS.cc {k : Nat} (h : DS Mx e (N 112)) (hk : k < 64) : N 112 (239 + k) = -6 ∨ (0 ≤ (N 112 (239 + k)).toInt ∧ (N 112 (239 + k)).toInt ≤ 65535) := by
  rcases (h.c.1 k hk).1 with z | z
  · exact Or.inl z.2
  · right; rw [← z.1]; exact z.2
theorem DS.lc {k : Nat} (h : DS Mx e (N 112)) (hk : k < 64) : N 112 (175 + k) = -6 ∨ (0 ≤ (N 112 (175 + k)).toInt ∧ (N 112 (175 + k)).toInt ≤ 65535) := by
  rcases (h.l.2.2.2 k hk).1 with z | z
  · exact Or.inl z.2
  · right; rw [← z.1]; exact z.2
theorem opt6 {x : Int32} (h : x = -6 ∨ (0 ≤ x.toInt ∧ x.toInt ≤ 65535)) : (0 ≤ x ↔ ¬ x = -6) ∧ (x < 0 ↔ x = -6) := by
  rcases h with z | z
  · rw [z]; exact ⟨by decide, by decide⟩
  · have z6 : ¬ x = -6 := by intro y; rw [y, neg6] at z; omega
    exact ⟨⟨fun _ => z6, fun _ => by rw [le0I]; exact z.1⟩, ⟨fun y => by rw [lt0I] at y; omega, fun y => absurd y z6⟩⟩
theorem LR.val (h : DS Mx e (N 112)) (r : LR M q d c w j (N 112)) {k : Nat} (hk : k < ix (N 112 0)) : lVal M q d c k = mVal N k := by
  have hs := h.sec
  have h1 := (r.2.2.2.2 k hk).1.2
  have h2 := opt6 (h.cc (k := k) (by omega))
  unfold lVal mVal
  rw [h1, r.plain h hk]
  by_cases z : N 112 (239 + k) = -6
  · rw [if_neg (fun y => h2.1.mp y z), if_pos z]
  · rw [if_pos (h2.1.mpr z), if_neg z]
theorem LR.dam (h : DS Mx e (N 112)) (r : LR M q d c w j (N 112)) : lDamN M q d c w (ix (M q 0)) = mDam N := by
  unfold lDamN mDam mDamN
  rw [(r.sec h).1]
  refine cnt_congr fun k hk => ?_
  rw [r.val h hk, (r.2.2.2.2 k hk).2.2]
theorem LR.ca (h : DS Mx e (N 112)) (r : LR M q d c w j (N 112)) : lCaN M c (ix (M q 0)) = mCached N := by
  have hs := h.sec
  unfold lCaN mCached mCachedN
  rw [(r.sec h).1]
  refine cnt_congr fun k hk => ?_
  have h2 := opt6 (h.cc (k := k) (by omega))
  rw [(r.2.2.2.2 k hk).1.2]
  by_cases z : N 112 (239 + k) = -6
  · simp [z]
  · simp [z, h2.1.mpr z]
theorem LR.opn (h : DS Mx e (N 112)) (r : LR M q d c w j (N 112)) : (0 < M q 5 ∨ 0 < M q 6) ↔ mOpen N = true := by
  have e5 := r.k (k := 5) (by decide) (by decide)
  unfold mOpen
  rw [e5]
  by_cases z : 0 < N 112 5
  · simp [z]
  · simp only [z, false_or, if_false]
    rcases r.2.1 with ⟨z1, z2⟩ | ⟨z1, z2, z3⟩
    · rw [z1, z2]; decide
    · rw [z1, if_neg (by rw [tI_le, e0I]; omega)]; decide
theorem LR.lb (h : DS Mx e (N 112)) (r : LR M q d c w j (N 112)) (hr : mRek N = true) : lB M q := by
  have hb := h.zb hr
  have h0 := r.2.2.2.1
  obtain ⟨r1, r2, r3, r4, r5, r6, r7⟩ := h.on hr
  have a6 := h.a.2.2.2.2.2.1
  have hF := h.fFi hr
  have hT := h.fTi hr
  refine ⟨?_, ?_, ?_, r.lk h⟩
  · rw [r.first h]; omega
  · rw [r.behind h]; omega
  · rw [r.k (k := 5) (by decide) (by decide)]; omega
end LS
