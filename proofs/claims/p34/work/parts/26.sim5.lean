/-! formatting -/
theorem b16 (x : Int32) : (0 ≤ x.toInt ∧ x.toInt ≤ 65535) ↔ x.toBitVec.toNat < 2 ^ 16 := by
  have h1 : x.toInt = x.toBitVec.toInt := rfl
  have h2 := x.toBitVec.isLt
  rw [h1, BitVec.toInt_eq_toNat_cond]
  split <;> omega
theorem scr_b {x y : Int32} (h : 0 ≤ x.toInt ∧ x.toInt ≤ 65535) : 0 ≤ (x ^^^ (y &&& 65535)).toInt ∧ (x ^^^ (y &&& 65535)).toInt ≤ 65535 := by
  rw [b16] at h ⊢
  have e : (x ^^^ (y &&& 65535)).toBitVec = x.toBitVec ^^^ (y.toBitVec &&& (65535 : Int32).toBitVec) := rfl
  rw [e, BitVec.toNat_xor]
  refine Nat.xor_lt_two_pow h ?_
  rw [BitVec.toNat_and]
  exact Nat.lt_of_le_of_lt Nat.and_le_right (by decide)
theorem rget_cg {M M' : dkM} {o n : Nat} (h : M' (o + 1) = M (o + 1)) (i : Int32) : rget M' o n i = rget M o n i := by unfold rget; rw [h]
theorem exch_cg {M M' : dkM} {d : Nat} (h : M' (d + 10) = M (d + 10)) (x s k : Int32) : exch M' d x s k = exch M d x s k := by
  unfold exch; rw [rget_cg (M := M) (M' := M') (o := d + 9) h]
theorem fzM_ne (M : dkM) (d k : Nat) {a : Nat} (h2 : a ≠ d + 2) (h4 : a ≠ d + 4) : fzM M d k a = M a := by
  induction k with
  | zero => rfl
  | succ k ih => rw [fzM, rset_ne (by omega), rset_ne (by omega), ih]
theorem fzM_sc (M : dkM) (d : Nat) {k : Nat} (hk : k ≤ 64) {b : Nat} : fzM M d k (d + 2) b = if b < k then exch M d 0 (nI b) (M d 6) else M (d + 2) b := by
  induction k with
  | zero => rfl
  | succ k ih =>
    rw [fzM, rset_ne (by omega), rset_nI (by omega) (by decide), exch_cg (fzM_ne M d k (by omega) (by omega)), fzM_ne M d k (a := d) (by omega) (by omega)]
    by_cases q : b = k
    · rw [q, put_same, if_pos (by omega)]
    · rw [put_k q, ih (by omega)]
      by_cases w : b < k
      · rw [if_pos w, if_pos (by omega)]
      · rw [if_neg w, if_neg (by omega)]
theorem fzM_ex (M : dkM) (d : Nat) {k : Nat} (hk : k ≤ 64) {b : Nat} : fzM M d k (d + 4) b = if b < k then 0 else M (d + 4) b := by
  induction k with
  | zero => rfl
  | succ k ih =>
    rw [fzM, rset_nI (by omega) (by decide)]
    by_cases q : b = k
    · rw [q, put_same, if_pos (by omega)]
    · rw [put_k q, rset_ne (by omega), ih (by omega)]
      by_cases w : b < k
      · rw [if_pos w, if_pos (by omega)]
      · rw [if_neg w, if_neg (by omega)]
theorem mfL_st (R : dkM) (n : Int32) (ho : ix (R 112 1) ≤ 99) {k : Nat} (hk : k ≤ 64) (j : Nat) : mfL R n k 112 j = if 111 ≤ j ∧ j < 111 + k then (if n ≤ nI (j - 111) then 0 else mScr 0 (nI (j - 111)) (R 112 (11 + ix (R 112 1)))) else if 239 ≤ j ∧ j < 239 + k then -6 else if 303 ≤ j ∧ j < 303 + k then 0 else R 112 j := by
  induction k with
  | zero => rw [if_neg (by omega), if_neg (by omega), if_neg (by omega)]; rfl
  | succ k ih =>
    have ih := ih (by omega)
    rw [mfL, mfL_lo R n k (j := 1) (by decide), mfL_lo R n k (j := 11 + ix (R 112 1)) (by omega)]
    by_cases q1 : j = 303 + k
    · rw [q1, put_same, if_neg (by omega), if_neg (by omega), if_pos (by omega)]
    · rw [put_k q1]
      by_cases q2 : j = 239 + k
      · rw [q2, put_same, if_neg (by omega), if_pos (by omega)]
      · rw [put_k q2]
        by_cases q3 : j = 111 + k
        · rw [q3, put_same, if_pos (show 111 ≤ 111 + k ∧ 111 + k < 111 + (k + 1) by omega), show 111 + k - 111 = k by omega]
        · rw [put_k q3, ih]
          have e1 : (111 ≤ j ∧ j < 111 + k) ↔ (111 ≤ j ∧ j < 111 + (k + 1)) := by omega
          have e2 : (239 ≤ j ∧ j < 239 + k) ↔ (239 ≤ j ∧ j < 239 + (k + 1)) := by omega
          have e3 : (303 ≤ j ∧ j < 303 + k) ↔ (303 ≤ j ∧ j < 303 + (k + 1)) := by omega
          simp only [e1, e2, e3]
theorem mClose_st (R : dkM) (j : Nat) : mClose R 112 j = if 175 ≤ j ∧ j < 239 then -6 else if j = 5 ∨ j = 6 then 0 else R 112 j := by
  unfold mClose mClr
  by_cases q1 : 175 ≤ j ∧ j < 239
  · rw [if_pos (by omega), if_pos q1]
  · rw [if_neg (by omega), if_neg q1, put_st]
    by_cases q2 : j = 6
    · rw [if_pos q2, if_pos (by omega)]
    · rw [if_neg q2, put_st]
      by_cases q3 : j = 5
      · rw [if_pos q3, if_pos (by omega)]
      · rw [if_neg q3, if_neg (by omega)]
theorem mEnds_st (R : dkM) (j : Nat) : mEnds R 112 j = if 175 ≤ j ∧ j < 239 then -6 else if j = 5 ∨ j = 6 then 0 else if j = 2 ∨ j = 3 ∨ j = 4 then -6 else R 112 j := by
  unfold mEnds
  rw [mClose_st]
  by_cases q1 : 175 ≤ j ∧ j < 239
  · rw [if_pos q1, if_pos q1]
  · rw [if_neg q1, if_neg q1]
    by_cases q2 : j = 5 ∨ j = 6
    · rw [if_pos q2, if_pos q2]
    · rw [if_neg q2, if_neg q2, put_st, put_st, put_st]
      by_cases q3 : j = 4
      · rw [if_pos q3, if_pos (by omega)]
      · rw [if_neg q3]
        by_cases q4 : j = 3
        · rw [if_pos q4, if_pos (by omega)]
        · rw [if_neg q4]
          by_cases q5 : j = 2
          · rw [if_pos q5, if_pos (by omega)]
          · rw [if_neg q5, if_neg (by omega)]
/-- what a state is after formatting -/
theorem mFormats_st (R : dkM) (n : Int32) (ho : ix (R 112 1) ≤ 99) (h1 : 1 ≤ ix (R 112 1)) (j : Nat) : mFormats R n 112 j = if 111 ≤ j ∧ j < 175 then (if n ≤ nI (j - 111) then 0 else mScr 0 (nI (j - 111)) (R 112 (11 + ix (R 112 1)))) else if 175 ≤ j ∧ j < 303 then -6 else if 303 ≤ j ∧ j < 367 then 0 else if j = 5 ∨ j = 6 then 0 else if j = 2 ∨ j = 3 ∨ j = 4 then -6 else if j = 0 then n else R 112 j := by
  unfold mFormats
  have g : ∀ i, i ≠ 0 → i ≠ 2 → i ≠ 3 → i ≠ 4 → i ≠ 5 → i ≠ 6 → i < 111 → mEnds (dk_put R 112 0 n) 112 i = R 112 i := fun i a b c e f g h => by
    rw [mEnds_st, if_neg (by omega), if_neg (by omega), if_neg (by omega), put_k a]
  have g1 := g 1 (by decide) (by decide) (by decide) (by decide) (by decide) (by decide) (by decide)
  rw [mfL_st _ _ (by rw [g1]; exact ho) (by decide), g1, g (11 + ix (R 112 1)) (by omega) (by omega) (by omega) (by omega) (by omega) (by omega) (by omega), mEnds_st, put_st]
  by_cases q1 : 111 ≤ j ∧ j < 175
  · rw [if_pos (by omega), if_pos q1]
  · rw [if_neg (by omega), if_neg q1]
    by_cases q2 : 239 ≤ j ∧ j < 303
    · rw [if_pos (by omega), if_pos (by omega)]
    · rw [if_neg (by omega)]
      by_cases q3 : 303 ≤ j ∧ j < 367
      · rw [if_pos (by omega), if_neg (by omega), if_pos q3]
      · rw [if_neg (by omega)]
        by_cases q4 : 175 ≤ j ∧ j < 239
        · rw [if_pos q4, if_pos (by omega)]
        · rw [if_neg q4, if_neg (show ¬ (175 ≤ j ∧ j < 303) by omega), if_neg q3]
def DSk0 (se f : Nat → Int32) : Prop := se 0 = -1 ∧ (∀ k, 1 ≤ k → k < 100 → oq (se k) (f (11 + k))) ∧ cnt (fun b => se b != -1) 100 ≤ 8 ∧ f (11 + ix (f 1)) ≠ -6
theorem rclear_in {M : dkM} {o n b : Nat} (h : b < n) : rclear M o n (o + 1) b = -1 := by unfold rclear; rw [if_pos ⟨rfl, h⟩]
theorem fill_DS {M R : dkM} {d : Nat} {n : Int32} (hn : 4 ≤ n.toInt ∧ n.toInt ≤ 64) (F5 : M d 5 = n) (F6 : M d 6 = R 112 1 ∧ 1 ≤ (R 112 1).toInt ∧ (R 112 1).toInt ≤ 99) (F7 : M d 7 = 0) (F10 : M d 10 = 0) (F11 : M d 11 = R 112 7 ∧ 1 ≤ (R 112 7).toInt ∧ (R 112 7).toInt ≤ 8) (F12 : M d 12 = R 112 8 ∧ (R 112 8 = 0 ∨ R 112 8 = 1)) (F13 : M d 13 = R 112 9 ∧ M d 14 = R 112 10) (F8 : (M d 8 = 0 ∨ M d 8 = 1) ∧ 0 ≤ (M d 9).toInt ∧ (M d 9).toInt ≤ 64) (hl : ∀ b, b < 64 → M (d + 8) b = -1) (hk : DSk0 (M (d + 10)) (R 112)) : DS (fillZ M d) d (mFormats R n 112) := by
  have hx := ix_99 F6.2
  have hs := mFormats_st R n hx.2.1 hx.1
  have n6 := ix_toInt (x := n) (by omega)
  have lo : ∀ j, j = 1 ∨ (7 ≤ j ∧ j < 111) → mFormats R n 112 j = R 112 j := fun j hj => by
    rw [hs, if_neg (by omega), if_neg (by omega), if_neg (by omega), if_neg (by omega), if_neg (by omega), if_neg (by omega)]
  have f0 : mFormats R n 112 0 = n := by rw [hs, if_neg (by decide), if_neg (by decide), if_neg (by decide), if_neg (by decide), if_neg (by decide), if_pos rfl]
  have f24 : ∀ j, j = 2 ∨ j = 3 ∨ j = 4 → mFormats R n 112 j = -6 := fun j hj => by
    rw [hs, if_neg (by omega), if_neg (by omega), if_neg (by omega), if_neg (by omega), if_pos hj]
  have f56 : ∀ j, j = 5 ∨ j = 6 → mFormats R n 112 j = 0 := fun j hj => by
    rw [hs, if_neg (by omega), if_neg (by omega), if_neg (by omega), if_pos hj]
  have eR : ∀ a, a ≠ d + 2 → a ≠ d + 4 → a ≠ d + 6 → fillZ M d a = M a := fun a p q r => by
    unfold fillZ; rw [fzM_ne _ _ _ p q, rclear_ne (by omega)]
  have eD : fillZ M d d = M d := eR d (by omega) (by omega) (by omega)
  refine ⟨?_, ?_, ?_, ?_, ?_, ?_⟩
  · rw [eD]
    unfold DSa
    rw [f0, lo 1 (by omega), lo 7 (by omega), lo 8 (by omega), lo 9 (by omega), lo 10 (by omega), f56 5 (by omega)]
    exact ⟨⟨F5, hn⟩, F6, F11, F12, F13, ⟨F10, by decide⟩, F8⟩
  · rw [eD]
    exact Or.inl ⟨F7, f24 2 (by omega), f24 3 (by omega), f24 4 (by omega), f56 5 (by omega), f56 6 (by omega)⟩
  · rw [eR (d + 8) (by omega) (by omega) (by omega)]
    refine ⟨?_, ?_, ?_, fun s hs2 => ?_⟩
    · rw [f56 6 (by omega), cnt_none (fun k hk2 => by rw [hl k hk2]; rfl)]; rfl
    · rw [f56 6 (by omega)]; intro z; exact absurd z (by decide)
    · rw [f56 5 (by omega)]; intro _ z; exact absurd z (by decide)
    · rw [hl s hs2, hs, if_neg (by omega), if_pos (by omega)]
      exact ⟨Or.inl ⟨rfl, rfl⟩, fun z => absurd rfl z⟩
  · rw [eR (d + 10) (by omega) (by omega) (by omega)]
    refine ⟨hk.1, fun k a b => by rw [lo (11 + k) (by omega)]; exact hk.2.1 k a b, hk.2.2.1, ?_, ?_⟩
    · rw [lo 1 (by omega), lo (11 + ix (R 112 1)) (by omega)]; exact hk.2.2.2
    · rw [f24 2 (by omega)]; intro z; exact absurd rfl z
  · unfold fillZ
    have e5 : ix (M d 5) ≤ 64 := by rw [F5]; omega
    have ec : exch (rclear M (d + 5) 64) d = exch M d := by funext x s k; exact exch_cg (rclear_ne (by omega)) x s k
    refine ⟨fun s h1 => ?_, fun s h1 => ?_⟩
    · rw [f0] at h1
      rw [fzM_sc _ _ e5, if_pos (by rw [F5]; exact h1), ec, rclear_ne (a := d) (by omega), hs, if_pos (by omega), show 111 + s - 111 = s by omega]
      have hn2 : ¬ n ≤ nI s := by rw [tI_le, nI_toInt (by omega)]; omega
      rw [if_neg hn2]
      have e1 : rget M (d + 9) 100 (M d 6) = R 112 (11 + ix (R 112 1)) := by
        have hq := hk.2.1 (ix (R 112 1)) (by omega) (by omega)
        have hne : M (d + 10) (ix (R 112 1)) ≠ -1 := fun z => hk.2.2.2 (hq.none_iff.mp z)
        have := rgetb (M := M) (o := d + 9) (k := ix (R 112 1)) (by omega)
        rw [← hx.2.2] at this
        rw [F6.1, this]
        exact (hq.eq hne).1
      refine ⟨?_, ?_⟩
      · unfold exch mScr; rw [e1]
      · unfold exch; exact scr_b (by decide)
    · rw [f0] at h1
      rw [fzM_ex _ _ e5, if_pos (by rw [F5]; exact h1), hs, if_neg (by omega), if_neg (by omega), if_pos (by omega)]
  · have e6 : fillZ M d (d + 6) = rclear M (d + 5) 64 (d + 6) := by unfold fillZ; rw [fzM_ne _ _ _ (by omega) (by omega)]
    rw [e6]
    refine ⟨fun s h1 => ?_, ?_⟩
    · rw [show d + 6 = d + 5 + 1 from rfl, rclear_in h1, hs, if_neg (by omega), if_pos (by omega)]
      exact ⟨Or.inl ⟨rfl, rfl⟩, fun z => absurd rfl z⟩
    · rw [show d + 6 = d + 5 + 1 from rfl, cnt_none (fun k hk2 => by rw [rclear_in hk2]; rfl)]; exact Nat.zero_le 8
theorem mfL_row (R : dkM) (n : Int32) (k : Nat) {a : Nat} (h : a ≠ 112) : mfL R n k a = R a := by
  induction k with
  | zero => rfl
  | succ k ih => rw [mfL, dk_put_ne h, dk_put_ne h, dk_put_ne h, ih]
theorem mFormats_row (R : dkM) (n : Int32) {a : Nat} (h : a ≠ 112) : mFormats R n a = R a := by
  unfold mFormats; rw [mfL_row _ _ _ h, mEnds_row _ h, dk_put_ne h]
section DS5
variable {M M' R : dkM} {d : Nat} {Mm : dkM}
theorem DS.format (h : DS M d (Mm 112)) (n : Int32) : OK1 d M Mm (dFormat M d n) (mFormat Mm n) := by
  have e4 : (4 : Int32).toInt = 4 := by decide
  have e64 : (64 : Int32).toInt = 64 := by decide
  unfold dFormat mFormat
  by_cases hw : mWithin n 4 64 = true
  · have hz := mW_iff.mp hw
    rw [e4, e64] at hz
    rw [if_pos hw, if_neg (by rw [tI_lt, e4]; omega), if_neg (by rw [tI_lt, e64]; omega)]
    have a := h.a
    have eD : ∀ j, j ≠ 5 → j ≠ 7 → j ≠ 10 → dClose (dk_put (dk_put M d 5 n) d 7 0) d d j = M d j := fun j x y z => by
      rw [dClose_d _ _ _ z, put_k y, put_k x]
    have eR : ∀ b, b ≠ d → b ≠ d + 8 → dClose (dk_put (dk_put M d 5 n) d 7 0) d b = M b := fun b x y => by
      unfold dClose; rw [dk_put_ne x, rclear_ne (by omega), dk_put_ne x, dk_put_ne x]
    have hD : DS (fillZ (dClose (dk_put (dk_put M d 5 n) d 7 0) d) d) d (mFormats (mRec Mm) n 112) := by
      refine fill_DS hz ?_ ?_ ?_ ?_ ?_ ?_ ?_ ?_ ?_ ?_
      · rw [dClose_d _ _ _ (by decide), put_k (by decide), put_same]
      · rw [eD 6 (by decide) (by decide) (by decide), mRec_st]; exact a.2.1
      · rw [dClose_d _ _ _ (by decide), put_same]
      · unfold dClose; rw [put_same]
      · rw [eD 11 (by decide) (by decide) (by decide), mRec_st]; exact a.2.2.1
      · rw [eD 12 (by decide) (by decide) (by decide), mRec_st]; exact a.2.2.2.1
      · rw [eD 13 (by decide) (by decide) (by decide), eD 14 (by decide) (by decide) (by decide), mRec_st]; exact a.2.2.2.2.1
      · rw [eD 8 (by decide) (by decide) (by decide), eD 9 (by decide) (by decide) (by decide)]; exact a.2.2.2.2.2.2
      · intro b hb
        unfold dClose
        rw [dk_put_ne (by omega)]
        exact rclear_in hb
      · rw [eR (d + 10) (by omega) (by omega), mRec_st]
        exact ⟨h.k.1, h.k.2.1, h.k.2.2.1, h.k.2.2.2.1⟩
    refine Or.inr ⟨?_, a.1.1, ?_, ?_, hD⟩
    · dsimp only; rw [a.1.1]; have := a.1; omega
    · intro b hb
      dsimp only
      unfold fillZ
      rw [fzM_ne _ _ _ (by omega) (by omega), rclear_ne (by omega), eR b (by omega) (by omega)]
    · intro b hb; exact mFormats_row _ _ hb
  · rw [if_neg hw]
    have hz := Wn hw
    rw [e4, e64] at hz
    by_cases q : n < 4
    · rw [if_pos q]; exact OK1.no (e := -2) (by decide) rfl rfl
    · rw [if_neg q, if_pos (by rw [tI_lt, e4] at q; rw [tI_lt, e64]; omega)]; exact OK1.no (e := -2) (by decide) rfl rfl
end DS5
