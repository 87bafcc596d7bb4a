/-! the law's disk and the model's state: what is changed -/
section LU
variable {Mx : dkM} {e : Nat} {N N' : dkM} {M M' : dkM} {q d c w j : Nat}
theorem LR.upd (r : LR M q d c w j (N 112)) (e0 : N' 112 0 = N 112 0) (ek : ∀ k, k ≤ 10 → k ≠ 6 → M' q k = N' 112 k) (e6 : (M' q 6 = 0 ∧ N' 112 6 = 0) ∨ (M' q 6 = 1 ∧ 0 < (N' 112 6).toInt ∧ (N' 112 6).toInt = fT (N' 112) - fF (N' 112))) (eq : ∀ k, 11 ≤ k → M' q k = M q k) (ef : ∀ k, 12 ≤ k → k ≤ 110 → N' 112 k = N 112 k) (ea : ∀ s, s < ix (N 112 0) → (M' d s = N' 112 (111 + s) ∧ M' c s = N' 112 (239 + s)) ∧ (M' j s = N' 112 (175 + s) ∧ M' w s = N' 112 (303 + s))) : LR M' q d c w j (N' 112) := by
  refine ⟨ek, e6, ⟨fun k h1 h2 => ?_, fun k h1 h2 => ?_⟩, by rw [e0]; exact r.2.2.2.1, fun s hs => ea s (by rw [← e0]; exact hs)⟩
  · rw [eq _ (by omega), ef _ (by omega) (by omega)]; exact r.2.2.1.1 k h1 h2
  · rw [ef _ (by omega) (by omega)]; exact r.2.2.1.2 k h1 h2
theorem LR.sn (h : DS Mx e (N 112)) (r : LR M q d c w j (N 112)) {s : Nat} (hs : s < ix (N 112 0)) : s < 20 := by
  have := (r.sec h).2.1
  omega
theorem lClose_st (hqj : q ≠ j) (a b : Nat) : lClose M q j a b = if a = j ∧ b < 20 then -6 else if a = q ∧ (b = 5 ∨ b = 6) then 0 else M a b := by
  unfold lClose lClr
  by_cases h : a = j ∧ b < 20
  · rw [if_pos h, if_pos h]
  · rw [if_neg h, if_neg h]
    unfold dk_put
    by_cases h1 : a = q
    · by_cases h6 : b = 6
      · simp [h1, h6]
      · by_cases h5 : b = 5
        · simp [h1, h5]
        · simp [h1, h5, h6]
    · simp [h1]
theorem lOff_st (hqj : q ≠ j) (a b : Nat) : lOff M q j a b = if a = j ∧ b < 20 then -6 else if a = q ∧ (b = 5 ∨ b = 6) then 0 else if a = q ∧ (b = 2 ∨ b = 3 ∨ b = 4) then -6 else M a b := by
  unfold lOff
  rw [lClose_st hqj]
  by_cases h : a = j ∧ b < 20
  · rw [if_pos h, if_pos h]
  · rw [if_neg h, if_neg h]
    by_cases h1 : a = q ∧ (b = 5 ∨ b = 6)
    · rw [if_pos h1, if_pos h1]
    · rw [if_neg h1, if_neg h1]
      unfold dk_put
      by_cases h2 : a = q
      · by_cases h3 : b = 2
        · simp [h2, h3]
        · by_cases h4 : b = 3
          · simp [h2, h4]
          · by_cases h5 : b = 4
            · simp [h2, h5]
            · simp [h2, h3, h4, h5]
      · simp [h2]
theorem lC_q (hqj : q ≠ j) {k : Nat} (h5 : k ≠ 5) (h6 : k ≠ 6) : lClose M q j q k = M q k := by rw [lClose_st hqj, if_neg (fun z => hqj z.1), if_neg (by omega)]
theorem lC_0 (hqj : q ≠ j) {k : Nat} (h : k = 5 ∨ k = 6) : lClose M q j q k = 0 := by rw [lClose_st hqj, if_neg (fun z => hqj z.1), if_pos ⟨rfl, h⟩]
theorem lC_o (hqj : q ≠ j) {a b : Nat} (h1 : q ≠ a) (h2 : a ≠ j) : lClose M q j a b = M a b := by rw [lClose_st hqj, if_neg (fun z => h2 z.1), if_neg (fun z => h1 z.1.symm)]
theorem lC_j (hqj : q ≠ j) {b : Nat} (h : b < 20) : lClose M q j j b = -6 := by rw [lClose_st hqj, if_pos ⟨rfl, h⟩]
theorem lO_q (hqj : q ≠ j) {k : Nat} (h : k < 2 ∨ 6 < k) : lOff M q j q k = M q k := by rw [lOff_st hqj, if_neg (fun z => hqj z.1), if_neg (by omega), if_neg (by omega)]
theorem lO_0 (hqj : q ≠ j) {k : Nat} (h : k = 5 ∨ k = 6) : lOff M q j q k = 0 := by rw [lOff_st hqj, if_neg (fun z => hqj z.1), if_pos ⟨rfl, h⟩]
theorem lO_n (hqj : q ≠ j) {k : Nat} (h : k = 2 ∨ k = 3 ∨ k = 4) : lOff M q j q k = -6 := by rw [lOff_st hqj, if_neg (fun z => hqj z.1), if_neg (by omega), if_pos ⟨rfl, h⟩]
theorem lO_o (hqj : q ≠ j) {a b : Nat} (h1 : q ≠ a) (h2 : a ≠ j) : lOff M q j a b = M a b := by rw [lOff_st hqj, if_neg (fun z => h2 z.1), if_neg (fun z => h1 z.1.symm), if_neg (fun z => h1 z.1.symm)]
theorem lO_j (hqj : q ≠ j) {b : Nat} (h : b < 20) : lOff M q j j b = -6 := by rw [lOff_st hqj, if_pos ⟨rfl, h⟩]
theorem mC_0 {k : Nat} (h : k = 5 ∨ k = 6) : mClose N 112 k = 0 := by rw [mClose_st, if_neg (by omega), if_pos h]
theorem mC_j {k : Nat} (h : 175 ≤ k ∧ k < 239) : mClose N 112 k = -6 := by rw [mClose_st, if_pos h]
theorem mC_k {k : Nat} (h5 : k ≠ 5) (h6 : k ≠ 6) (h : k < 175 ∨ 239 ≤ k) : mClose N 112 k = N 112 k := by rw [mClose_st, if_neg (by omega), if_neg (by omega)]
theorem mE_0 {k : Nat} (h : k = 5 ∨ k = 6) : mEnds N 112 k = 0 := by rw [mEnds_st, if_neg (by omega), if_pos h]
theorem mE_j {k : Nat} (h : 175 ≤ k ∧ k < 239) : mEnds N 112 k = -6 := by rw [mEnds_st, if_pos h]
theorem mE_n {k : Nat} (h : k = 2 ∨ k = 3 ∨ k = 4) : mEnds N 112 k = -6 := by rw [mEnds_st, if_neg (by omega), if_neg (by omega), if_pos h]
/-- closing a zone -/
theorem LR.close (D : lD q d c w j) (h : DS Mx e (N 112)) (r : LR M q d c w j (N 112)) : LR (lClose M q j) q d c w j (mClose N 112) := by
  obtain ⟨⟨d1, d2, d3, d4⟩, ⟨d5, d6, d7⟩, ⟨d8, d9⟩, d10⟩ := D
  refine r.upd (mC_k (by decide) (by decide) (by decide)) (fun k hk h6 => ?_) (Or.inl ⟨lC_0 d4 (by decide), mC_0 (by decide)⟩) (fun k hk => lC_q d4 (by omega) (by omega)) (fun k h1 h2 => mC_k (by omega) (by omega) (by omega)) (fun s hs => ?_)
  · by_cases h5 : k = 5
    · rw [lC_0 d4 (Or.inl h5), mC_0 (Or.inl h5)]
    · rw [lC_q d4 h5 h6, mC_k h5 h6 (by omega)]; exact r.1 k hk h6
  · have h20 := r.sn h hs
    obtain ⟨⟨a1, a2⟩, a3, a4⟩ := r.2.2.2.2 s hs
    rw [lC_o d4 d1 d7, lC_o d4 d2 d9, lC_j d4 h20, lC_o d4 d3 d10, mC_k (by omega) (by omega) (by omega), mC_k (by omega) (by omega) (by omega), mC_j (by omega), mC_k (by omega) (by omega) (by omega)]
    exact ⟨⟨a1, a2⟩, rfl, a4⟩
/-- the end of a rekeying; the numbers may have changed in front -/
theorem LR.off (D : lD q d c w j) {f : Nat → Int32} (h0 : (f 0).toInt ≤ 20) (e0 : N 112 0 = f 0) (ek : ∀ k, k ≤ 10 → k ≠ 2 → k ≠ 3 → k ≠ 4 → k ≠ 5 → k ≠ 6 → M q k = N 112 k) (e1 : ∀ k, 1 ≤ k → k ≤ 5 → M q (10 + k) = N 112 (11 + k)) (e2 : ∀ k, 6 ≤ k → k ≤ 99 → N 112 (11 + k) = -6) (ea : ∀ s, s < ix (f 0) → (M d s = N 112 (111 + s) ∧ M c s = N 112 (239 + s)) ∧ M w s = N 112 (303 + s)) : LR (lOff M q j) q d c w j (mEnds N 112) := by
  obtain ⟨⟨d1, d2, d3, d4⟩, ⟨d5, d6, d7⟩, ⟨d8, d9⟩, d10⟩ := D
  have z0 : mEnds N 112 0 = f 0 := by rw [mEnds_k N (by omega), e0]
  refine ⟨fun k hk h6 => ?_, Or.inl ⟨lO_0 d4 (by decide), mE_0 (by decide)⟩, ⟨fun k h1 h2 => ?_, fun k h1 h2 => ?_⟩, by rw [z0]; exact h0, fun s hs => ?_⟩
  · by_cases h5 : k = 5
    · rw [lO_0 d4 (Or.inl h5), mE_0 (Or.inl h5)]
    · by_cases h2 : k = 2 ∨ k = 3 ∨ k = 4
      · rw [lO_n d4 h2, mE_n h2]
      · rw [lO_q d4 (by omega), mEnds_k N (by omega)]
        exact ek k hk (by omega) (by omega) (by omega) h5 h6
  · rw [lO_q d4 (by omega), mEnds_k N (by omega)]; exact e1 k h1 h2
  · rw [mEnds_k N (by omega)]; exact e2 k h1 h2
  · rw [z0] at hs
    obtain ⟨⟨a1, a2⟩, a4⟩ := ea s hs
    have h20 : s < 20 := by
      unfold ix Int32.toNatClampNeg at hs
      omega
    rw [lO_o d4 d1 d7, lO_o d4 d2 d9, lO_j d4 h20, lO_o d4 d3 d10, mEnds_k N (by omega), mEnds_k N (by omega), mE_j (by omega), mEnds_k N (by omega)]
    exact ⟨⟨a1, a2⟩, rfl, a4⟩
theorem LR.end (D : lD q d c w j) (r : LR M q d c w j (N 112)) (h4 : N 112 4 = 0 ∨ N 112 4 = 1) (h3 : 0 ≤ (N 112 3).toInt) : LR (lEnd M q j) q d c w j (mEnd N 112) := by
  have k0 := r.k (k := 0) (by decide) (by decide)
  have k1 := r.k (k := 1) (by decide) (by decide)
  have k2 := r.k (k := 2) (by decide) (by decide)
  have k3 := r.k (k := 3) (by decide) (by decide)
  have k4 := r.k (k := 4) (by decide) (by decide)
  have k9 := r.k (k := 9) (by decide) (by decide)
  obtain ⟨⟨d1, d2, d3, d4⟩, -, -, -⟩ := id D
  rcases h4 with z | z
  · have eN : mEnd N = if N 112 3 = 0 then mEnds N else N := by
      unfold mEnd
      rw [if_neg (show ¬ (N 112 4 = 1 ∧ N 112 3 = N 112 0) from fun y => absurd (z.symm.trans y.1) (by decide))]
      simp only [z, true_and]
    have eL : lEnd M q j = if N 112 3 ≤ 0 then lOff M q j else M := by
      unfold lEnd
      rw [k4, k3, z, if_neg (show ¬ ((0 : Int32) = 1) by decide)]
    rw [eN, eL]
    by_cases y : N 112 3 ≤ 0
    · have y0 : N 112 3 = 0 := by rw [tI_le, e0I] at y; exact Int32.toInt_inj.mp (by rw [e0I]; omega)
      rw [if_pos y, if_pos y0]
      exact LR.off D r.2.2.2.1 rfl (fun k a b c2 d2 e2 f2 => r.1 k a f2) r.2.2.1.1 r.2.2.1.2 (fun s hs => ⟨(r.2.2.2.2 s hs).1, (r.2.2.2.2 s hs).2.2⟩)
    · rw [if_neg y, if_neg (fun x => y (by rw [x]; decide))]
      exact r
  · have eN : mEnd N = if N 112 3 = N 112 0 then mEnds (dk_put (dk_put N 112 1 (N 112 2)) 112 9 (N 112 9 + 1)) else N := by
      unfold mEnd
      by_cases y : N 112 3 = N 112 0
      · rw [if_pos ⟨z, y⟩, if_pos y]
      · rw [if_neg (fun x => y x.2), if_neg (fun x => absurd (z.symm.trans x.1) (by decide)), if_neg y]
    have eL : lEnd M q j = if N 112 3 = N 112 0 then lOff (lDone M q) q j else M := by
      unfold lEnd
      rw [k4, k3, k0, z, if_pos rfl]
    rw [eN, eL]
    by_cases y : N 112 3 = N 112 0
    · rw [if_pos y, if_pos y]
      have hq : ∀ a b, lDone M q a b = if a = q ∧ b = 9 then M q 9 + 1 else if a = q ∧ b = 1 then M q 2 else M a b := fun a b => by
        unfold lDone dk_put
        by_cases x : a = q
        · by_cases x9 : b = 9
          · simp [x, x9]
          · by_cases x1 : b = 1
            · simp [x, x1]
            · simp [x, x9, x1]
        · simp [x]
      have hqo : ∀ a b, q ≠ a → lDone M q a b = M a b := fun a b x => by rw [hq, if_neg (fun y => x y.1.symm), if_neg (fun y => x y.1.symm)]
      have hqk : ∀ b, b ≠ 9 → b ≠ 1 → lDone M q q b = M q b := fun b x y => by rw [hq, if_neg (fun z => x z.2), if_neg (fun z => y z.2)]
      have hf : ∀ b, dk_put (dk_put N 112 1 (N 112 2)) 112 9 (N 112 9 + 1) 112 b = if b = 9 then N 112 9 + 1 else if b = 1 then N 112 2 else N 112 b := fun b => by
        unfold dk_put; simp
      have hfk : ∀ b, b ≠ 9 → b ≠ 1 → dk_put (dk_put N 112 1 (N 112 2)) 112 9 (N 112 9 + 1) 112 b = N 112 b := fun b x y => by rw [hf, if_neg x, if_neg y]
      refine LR.off D (f := N 112) r.2.2.2.1 (hfk 0 (by decide) (by decide)) (fun k a b c2 d2 e2 f2 => ?_) (fun k a b => ?_) (fun k a b => ?_) (fun s hs => ?_)
      · rw [hq, hf]
        by_cases x9 : k = 9
        · rw [if_pos ⟨rfl, x9⟩, if_pos x9, k9]
        · rw [if_neg (fun x => x9 x.2), if_neg x9]
          by_cases x1 : k = 1
          · rw [if_pos ⟨rfl, x1⟩, if_pos x1, k2]
          · rw [if_neg (fun x => x1 x.2), if_neg x1]; exact r.1 k a f2
      · rw [hqk _ (by omega) (by omega), hfk _ (by omega) (by omega)]; exact r.2.2.1.1 k a b
      · rw [hfk _ (by omega) (by omega)]; exact r.2.2.1.2 k a b
      · rw [hqo d s d1, hqo c s d2, hqo w s d3, hfk _ (by omega) (by omega), hfk _ (by omega) (by omega), hfk _ (by omega) (by omega)]
        exact ⟨(r.2.2.2.2 s hs).1, (r.2.2.2.2 s hs).2.2⟩
    · rw [if_neg y, if_neg y]
      exact r
theorem ljL_st (hdj : d ≠ j) (f : Nat) : ∀ (k a b : Nat), ljL M d j f k a b = if a = j ∧ f ≤ b ∧ b < f + k then M d b else M a b
  | 0, a, b => by rw [ljL, if_neg (by omega)]
  | k + 1, a, b => by
    rw [ljL]
    unfold dk_put
    by_cases h : a = j
    · by_cases h2 : b = f + k
      · rw [if_pos h, if_pos h2, ljL_st hdj f k, if_neg (fun z => hdj z.1), if_pos ⟨h, by omega, by omega⟩, h2]
      · rw [if_pos h, if_neg h2, ljL_st hdj f k]
        by_cases h3 : f ≤ b ∧ b < f + k
        · rw [if_pos ⟨h, h3⟩, if_pos ⟨h, by omega, by omega⟩]
        · rw [if_neg (fun z => h3 z.2), if_neg (by omega)]
    · rw [if_neg h, ljL_st hdj f k, if_neg (fun z => h z.1), if_neg (fun z => h z.1)]
/-- a step that writes the journal -/
theorem LR.stepJ (D : lD q d c w j) (h : DS Mx e (N 112)) (r : LR M q d c w j (N 112)) (hr : mRek N = true) : LR (dk_put (ljL M d j (ix (lFirst M q)) (ix (lBehind M q) - ix (lFirst M q))) q 6 1) q d c w j (dk_put (mJr N) 112 6 (mTo N - mFrom N) 112) := by
  obtain ⟨⟨d1, d2, d3, d4⟩, ⟨d5, d6, d7⟩, ⟨d8, d9⟩, d10⟩ := D
  obtain ⟨z1, z2, z3, z4, z5, z6⟩ := h.zi hr
  have hs := r.sec h
  rw [r.first h, r.behind h]
  generalize ix (mFrom N) = a at *
  generalize ix (mTo N) = b at *
  have hst : ∀ x, mJr N 112 x = if 175 + a ≤ x ∧ x < 175 + a + (b - a) then N 112 (x - 64) else N 112 x := fun x => by
    unfold mJr
    rw [z1, z2, ix_nI (by omega), ix_nI (by omega)]
    exact mjL_st N a (by omega) x
  have hf6 : mTo N - mFrom N = nI (b - a) := by rw [z1, z2]; exact nI_sub (by omega) (by omega)
  have hlo : ∀ x, x < 175 → x ≠ 6 → dk_put (mJr N) 112 6 (mTo N - mFrom N) 112 x = N 112 x := fun x h1 h2 => by
    rw [put_st, if_neg h2, hst, if_neg (by omega)]
  have hq : ∀ x, x ≠ 6 → dk_put (ljL M d j a (b - a)) q 6 1 q x = M q x := fun x hx => by
    rw [put_k hx, ljL_st d7, if_neg (fun z => d4 z.1)]
  have hrow : ∀ o x, o ≠ q → o ≠ j → dk_put (ljL M d j a (b - a)) q 6 1 o x = M o x := fun o x h1 h2 => by
    rw [dk_put_ne h1, ljL_st d7, if_neg (fun z => h2 z.1)]
  refine r.upd (hlo 0 (by decide) (by decide)) (fun k hk h6 => ?_) (Or.inr ⟨put_same, ?_, ?_⟩) (fun k hk => hq k (by omega)) (fun k h1 h2 => hlo k (by omega) (by omega)) (fun s hss => ?_)
  · rw [hq k h6, hlo k (by omega) h6]; exact r.1 k hk h6
  · rw [put_st, if_pos rfl, hf6, nI_toInt (by omega)]; omega
  · have e1 : fT (dk_put (mJr N) 112 6 (mTo N - mFrom N) 112) = fT (N 112) := by unfold fT; rw [hlo 4 (by decide) (by decide), hlo 3 (by decide) (by decide), hlo 0 (by decide) (by decide), hlo 7 (by decide) (by decide)]
    have e2 : fF (dk_put (mJr N) 112 6 (mTo N - mFrom N) 112) = fF (N 112) := by unfold fF; rw [hlo 4 (by decide) (by decide), hlo 3 (by decide) (by decide), hlo 7 (by decide) (by decide)]
    rw [e1, e2, put_st, if_pos rfl, hf6, nI_toInt (by omega)]; omega
  · obtain ⟨⟨a1, a2⟩, a3, a4⟩ := r.2.2.2.2 s hss
    have h20 := r.sn h hss
    refine ⟨⟨?_, ?_⟩, ?_, ?_⟩
    · rw [hrow d s d1.symm d7, hlo _ (by omega) (by omega)]; exact a1
    · rw [hrow c s d2.symm d9, put_st, if_neg (by omega), hst, if_neg (by omega)]; exact a2
    · rw [dk_put_ne d4.symm, ljL_st d7, show dk_put (mJr N) 112 6 (mTo N - mFrom N) 112 (175 + s) = mJr N 112 (175 + s) from put_k (by omega), hst]
      by_cases hz : a ≤ s ∧ s < a + (b - a)
      · rw [if_pos ⟨rfl, hz⟩, if_pos (by omega), show 175 + s - 64 = 111 + s by omega]; exact a1
      · rw [if_neg (fun z => hz z.2), if_neg (by omega)]; exact a3
    · rw [hrow w s d3.symm d10, put_st, if_neg (by omega), hst, if_neg (by omega)]; exact a4
/-- a step that rewrites a sector -/
theorem LR.stepR (D : lD q d c w j) (h : DS Mx e (N 112)) (r : LR M q d c w j (N 112)) (hr : mRek N = true) (hlt : (N 112 5).toInt < fT (N 112) - fF (N 112)) (hn : ¬ (N 112 8 = 1 ∧ N 112 6 = 0 ∧ N 112 5 = 0)) : LR (lRwr M q d (lS M q)) q d c w j (mRwS N (ix (mFrom N + N 112 5)) 112) := by
  obtain ⟨⟨d1, d2, d3, d4⟩, ⟨d5, d6, d7⟩, ⟨d8, d9⟩, d10⟩ := D
  obtain ⟨z1, z2, z3, z4, z5, z6⟩ := h.zi hr
  have hs := r.sec h
  have a6 := h.a.2.2.2.2.2.1.2
  have i5 := ix_toInt (x := N 112 5) a6
  have hS : lS M q = ix (mFrom N) + ix (N 112 5) := by unfold lS; rw [r.first h, r.k (k := 5) (by decide) (by decide)]
  have hsum : mFrom N + N 112 5 = nI (ix (mFrom N) + ix (N 112 5)) := dk_addN z1 (nI_ix a6)
  have hix : ix (mFrom N + N 112 5) = ix (mFrom N) + ix (N 112 5) := by rw [hsum, ix_nI (by omega)]
  rw [hS, hix]
  generalize hk : ix (mFrom N) + ix (N 112 5) = k
  have hkb : k < ix (N 112 0) := by omega
  have hpb : 0 ≤ (mPlain N k).toInt ∧ (mPlain N k).toInt ≤ 65535 := by
    have h2 := h.s.1 k hkb
    rw [h2.1] at h2
    unfold mPlain mScr
    exact scr_b h2.2
  -- the other key
  have hoth : lOth M q (lKey M q (nI k)) = mKeyAt (dk_put N 112 5 (N 112 5 + 1)) (nI k) := by
    obtain ⟨r1, r2, r3, r4, r5, r6, r7⟩ := h.on hr
    have hF := h.fFi hr
    have hT := h.fTi hr
    have e1 : mRw N (nI k) = false := by
      unfold mRw mInZ
      rw [hr]
      simp only [if_true]
      rw [hsum, hk]
      by_cases y1 : nI k < mFrom N
      · simp [y1]
      · by_cases y2 : mTo N ≤ nI k
        · simp [y1, y2]
        · simp [y1, y2, Int32.le_refl]
    have hp : mFrom (dk_put N 112 5 (N 112 5 + 1)) = mFrom N ∧ mTo (dk_put N 112 5 (N 112 5 + 1)) = mTo N ∧ mRek (dk_put N 112 5 (N 112 5 + 1)) = true := by
      refine ⟨?_, ?_, ?_⟩
      · unfold mFrom; simp only [put_st]; rfl
      · unfold mTo; simp only [put_st]; rfl
      · rw [mRek_congr (M := N) (by rw [put_st]; rfl)]; exact hr
    have e2 : mRw (dk_put N 112 5 (N 112 5 + 1)) (nI k) = true := by
      unfold mRw mInZ
      rw [hp.2.2, hp.1, hp.2.1, put_st, if_pos rfl]
      simp only [if_true]
      have y1 : ¬ nI k < mFrom N := by rw [z1, tI_lt, nI_toInt (by omega), nI_toInt (by omega)]; omega
      have y2 : ¬ mTo N ≤ nI k := by rw [z2, tI_le, nI_toInt (by omega), nI_toInt (by omega)]; omega
      have y3 : ¬ mFrom N + (N 112 5 + 1) ≤ nI k := by
        have e9 : N 112 5 + 1 = nI (ix (N 112 5) + 1) := dk_addN (nI_ix a6) rfl
        rw [dk_addN z1 e9, tI_le, nI_toInt (by omega), nI_toInt (by omega)]
        omega
      simp [y1, y2, y3]
    unfold lOth
    rw [r.key h, r.k (k := 1) (by decide) (by decide), r.k (k := 2) (by decide) (by decide)]
    unfold mKeyAt
    rw [hr, hp.2.2, e1, e2]
    simp only [if_true, Bool.false_eq_true, if_false, put_st]
    by_cases y : N 112 3 ≤ nI k
    · rw [if_pos y, if_pos rfl]
      simp [y]
    · rw [if_neg y, if_neg r3]
      simp [y]
  have hsec : M q (10 + ix (lOth M q (lKey M q (nI k)))) = mSecret (dk_put N 112 5 (N 112 5 + 1)) (nI k) := by
    have h2 := r.tgt h hr
    have h1 := r.own h
    have hb : 1 ≤ (lOth M q (lKey M q (nI k))).toInt ∧ (lOth M q (lKey M q (nI k))).toInt ≤ 5 := by
      unfold lOth
      rw [r.k (k := 1) (by decide) (by decide), r.k (k := 2) (by decide) (by decide)]
      split <;> assumption
    rw [r.ks hb]
    unfold mSecret
    rw [← hoth, put_st, if_neg (by omega)]
  have hval : lMix (lPlain M q d k) (nI k) (M q (10 + ix (lOth M q (lKey M q (nI k))))) = mScr (mPlain N k) (nI k) (mSecret (dk_put N 112 5 (N 112 5 + 1)) (nI k)) := by
    rw [hsec, r.plain h hkb, lMix_eq hpb]
  have hM : ∀ a b, lRwr M q d k a b = if a = q ∧ b = 5 then M q 5 + 1 else if a = d ∧ b = k then mScr (mPlain N k) (nI k) (mSecret (dk_put N 112 5 (N 112 5 + 1)) (nI k)) else M a b := fun a b => by
    unfold lRwr lRwD
    rw [hval]
    unfold dk_put
    by_cases y1 : a = q
    · by_cases y2 : b = 5
      · simp [y1, y2, d1]
      · simp [y1, y2, d1]
    · by_cases y2 : a = d
      · by_cases y3 : b = k
        · simp [y2, y3, d1.symm]
        · simp [y2, y3, d1.symm]
      · simp [y1, y2]
  have hN : ∀ b, mRwS N k 112 b = if b = 111 + k then mScr (mPlain N k) (nI k) (mSecret (dk_put N 112 5 (N 112 5 + 1)) (nI k)) else if b = 5 then N 112 5 + 1 else N 112 b := fun b => by
    unfold mRwS
    rw [put_st, put_st]
  have hlo : ∀ b, b < 111 → b ≠ 5 → mRwS N k 112 b = N 112 b := fun b y1 y2 => by rw [hN, if_neg (by omega), if_neg y2]
  refine r.upd (hlo 0 (by decide) (by decide)) (fun x hx h6 => ?_) ?_ (fun x hx => by rw [hM, if_neg (by omega), if_neg (fun z => d1 z.1)]) (fun x h1 h2 => hlo x (by omega) (by omega)) (fun s hss => ?_)
  · rw [hM, hN]
    by_cases y : x = 5
    · rw [if_pos ⟨rfl, y⟩, if_neg (by omega), if_pos y, r.k (k := 5) (by decide) (by decide)]
    · rw [if_neg (fun z => y z.2), if_neg (fun z => d1 z.1), if_neg (by omega), if_neg y]; exact r.1 x hx h6
  · have e1 : fT (mRwS N k 112) = fT (N 112) := by unfold fT; rw [hlo 4 (by decide) (by decide), hlo 3 (by decide) (by decide), hlo 0 (by decide) (by decide), hlo 7 (by decide) (by decide)]
    have e2 : fF (mRwS N k 112) = fF (N 112) := by unfold fF; rw [hlo 4 (by decide) (by decide), hlo 3 (by decide) (by decide), hlo 7 (by decide) (by decide)]
    rw [e1, e2, hlo 6 (by decide) (by decide), hM, if_neg (by omega), if_neg (fun z => d1 z.1)]
    exact r.2.1
  · obtain ⟨⟨a1, a2⟩, a3, a4⟩ := r.2.2.2.2 s hss
    refine ⟨⟨?_, ?_⟩, ?_, ?_⟩
    · rw [hM, hN, if_neg (fun z => d1 z.1.symm)]
      by_cases y : s = k
      · rw [if_pos ⟨rfl, y⟩, if_pos (by omega)]
      · rw [if_neg (fun z => y z.2), if_neg (by omega), if_neg (by omega)]; exact a1
    · rw [hM, hN, if_neg (fun z => d2 z.1.symm), if_neg (fun z => d5 z.1.symm), if_neg (by omega), if_neg (by omega)]; exact a2
    · rw [hM, hN, if_neg (fun z => d4 z.1.symm), if_neg (fun z => d7 z.1.symm), if_neg (by omega), if_neg (by omega)]; exact a3
    · rw [hM, hN, if_neg (fun z => d3 z.1.symm), if_neg (fun z => d6 z.1.symm), if_neg (by omega), if_neg (by omega)]; exact a4
theorem LR.stepE (D : lD q d c w j) (h : DS Mx e (N 112)) (r : LR M q d c w j (N 112)) (hr : mRek N = true) : LR (lEnd (lClose (dk_put M q 3 (if M q 4 = 1 then nI (ix (lBehind M q)) else nI (ix (lFirst M q)))) q j) q j) q d c w j (mEnd (mClose (dk_put N 112 3 (if N 112 4 = 1 then mTo N else mFrom N))) 112) := by
  obtain ⟨z1, z2, z3, z4, z5, z6⟩ := h.zi hr
  have hs := r.sec h
  have D' := D
  obtain ⟨⟨d1, d2, d3, d4⟩, ⟨d5, d6, d7⟩, ⟨d8, d9⟩, d10⟩ := D'
  rw [r.first h, r.behind h, r.k (k := 4) (by decide) (by decide), ← z1, ← z2]
  generalize hp : (if N 112 4 = 1 then mTo N else mFrom N) = p
  have hp0 : 0 ≤ p.toInt := by
    rw [← hp]
    split
    · rw [z2, nI_toInt (by omega)]; omega
    · rw [z1, nI_toInt (by omega)]; omega
  have h4 : N 112 4 = 0 ∨ N 112 4 = 1 := by
    obtain ⟨r1, r2, r3, r4, r5, r6, r7⟩ := h.on hr
    rcases r6 with y | y
    · exact Or.inr y.1
    · exact Or.inl y.1
  have m4 : mClose (dk_put N 112 3 p) 112 4 = N 112 4 := by rw [mC_k (by decide) (by decide) (by decide), put_st]; rfl
  have m3 : mClose (dk_put N 112 3 p) 112 3 = p := by rw [mC_k (by decide) (by decide) (by decide), put_st]; rfl
  refine LR.end D (N := mClose (dk_put N 112 3 p)) ?_ (by rw [m4]; exact h4) (by rw [m3]; exact hp0)
  have mk : ∀ k, k ≠ 3 → k ≠ 5 → k ≠ 6 → (k < 175 ∨ 239 ≤ k) → mClose (dk_put N 112 3 p) 112 k = N 112 k := fun k y3 y5 y6 y => by rw [mC_k y5 y6 y, put_st, if_neg y3]
  have lk : ∀ k, k ≠ 3 → k ≠ 5 → k ≠ 6 → lClose (dk_put M q 3 p) q j q k = M q k := fun k y3 y5 y6 => by rw [lC_q d4 y5 y6, put_k y3]
  refine r.upd (mk 0 (by decide) (by decide) (by decide) (by decide)) (fun k hk h6 => ?_) (Or.inl ⟨lC_0 d4 (by decide), mC_0 (by decide)⟩) (fun k hk => lk k (by omega) (by omega) (by omega)) (fun k h1 h2 => mk k (by omega) (by omega) (by omega) (by omega)) (fun s hss => ?_)
  · by_cases y5 : k = 5
    · rw [lC_0 d4 (Or.inl y5), mC_0 (Or.inl y5)]
    · by_cases y3 : k = 3
      · rw [y3, m3, lC_q d4 (by decide) (by decide), put_same]
      · rw [lk k y3 y5 h6, mk k y3 y5 h6 (by omega)]; exact r.1 k hk h6
  · have h20 := r.sn h hss
    obtain ⟨⟨a1, a2⟩, a3, a4⟩ := r.2.2.2.2 s hss
    rw [lC_o d4 d1 d7, lC_o d4 d2 d9, lC_j d4 h20, lC_o d4 d3 d10, mk _ (by omega) (by omega) (by omega) (by omega), mk _ (by omega) (by omega) (by omega) (by omega), mC_j (by omega), mk _ (by omega) (by omega) (by omega) (by omega), dk_put_ne d1.symm, dk_put_ne d2.symm, dk_put_ne d3.symm]
    exact ⟨⟨a1, a2⟩, rfl, a4⟩
/-- a step of the law's disk -/
theorem LR.step (D : lD q d c w j) (h : DS Mx e (N 112)) (r : LR M q d c w j (N 112)) (hr : mRek N = true) : LR (lStep M q d j) q d c w j (mStep N 112) := by
  obtain ⟨z1, z2, z3, z4, z5, z6⟩ := h.zi hr
  have hs := r.sec h
  have a6 := h.a.2.2.2.2.2.1.2
  have i5 := ix_toInt (x := N 112 5) a6
  have hgo : 0 ≤ M q 2 := by
    rcases r.q2 h with y | y
    · exact y.2.2.1
    · rw [y.1] at hr; cases hr
  have h8 : (M q 8 = 1 ∧ M q 6 = 0 ∧ M q 5 = 0) ↔ (N 112 8 = 1 ∧ N 112 6 = 0 ∧ N 112 5 = 0) := by
    rw [r.k (k := 8) (by decide) (by decide), r.k (k := 5) (by decide) (by decide)]
    rcases r.2.1 with ⟨y1, y2⟩ | ⟨y1, y2, y3⟩
    · rw [y1, y2]
    · rw [y1]
      constructor
      · intro y; exact absurd y.2.1 (by decide)
      · intro y; rw [y.2.1] at y2; exact absurd y2 (by decide)
  have hle : ix (lBehind M q) ≤ lS M q ↔ ¬ N 112 5 < mTo N - mFrom N := by
    unfold lS
    rw [r.first h, r.behind h, r.k (k := 5) (by decide) (by decide), tI_lt]
    have e9 : (mTo N - mFrom N).toInt = (ix (mTo N) : Int) - ix (mFrom N) := by rw [z1, z2, nI_sub (by omega) (by omega), nI_toInt (by omega), ix_nI (by omega), ix_nI (by omega)]; omega
    rw [e9]
    omega
  unfold lStep mStep
  rw [if_pos hgo]
  by_cases q8 : N 112 8 = 1 ∧ N 112 6 = 0 ∧ N 112 5 = 0
  · rw [if_pos (h8.mpr q8), if_pos q8]
    exact r.stepJ D h hr
  · rw [if_neg (fun y => q8 (h8.mp y)), if_neg q8]
    by_cases q5 : N 112 5 < mTo N - mFrom N
    · rw [if_neg (fun y => hle.mp y q5), if_pos q5]
      refine r.stepR D h hr ?_ q8
      have e9 : (mTo N - mFrom N).toInt = (ix (mTo N) : Int) - ix (mFrom N) := by rw [z1, z2, nI_sub (by omega) (by omega), nI_toInt (by omega), ix_nI (by omega), ix_nI (by omega)]; omega
      rw [tI_lt, e9] at q5
      omega
    · rw [if_pos (hle.mpr q5), if_neg q5]
      exact r.stepE D h hr
theorem lFl_st (D : lD q d c w j) : ∀ (n b : Nat), (lFl M d c j n d b = if b < n ∧ ¬ M j b < 0 then M j b else M d b) ∧ (lFl M d c j n c b = if b < n then -6 else M c b) ∧ ∀ a, a ≠ c → a ≠ d → lFl M d c j n a b = M a b
  | 0, b => ⟨by rw [lFl, if_neg (by omega)], by rw [lFl, if_neg (by omega)], fun a _ _ => rfl⟩
  | n + 1, b => by
    obtain ⟨⟨d1, d2, d3, d4⟩, ⟨d5, d6, d7⟩, ⟨d8, d9⟩, d10⟩ := id D
    obtain ⟨i1, i2, i3⟩ := lFl_st D n b
    have ij : ∀ b, lFl M d c j n j b = M j b := fun b => (lFl_st D n b).2.2 j d9.symm d7.symm
    have ej : ∀ b, dk_put (lFl M d c j n) c n (-6) j b = M j b := fun b => by rw [dk_put_ne d9.symm, ij]
    rw [lFl, ej]
    refine ⟨?_, ?_, fun a h1 h2 => ?_⟩
    · by_cases h : M j n < 0
      · rw [if_pos h, dk_put_ne d5, i1]
        by_cases hb : b = n
        · rw [if_neg (by omega), if_neg (by rw [hb]; exact fun y => y.2 h)]
        · by_cases hb2 : b < n
          · by_cases hj : M j b < 0
            · rw [if_neg (fun y => y.2 hj), if_neg (fun y => y.2 hj)]
            · rw [if_pos ⟨hb2, hj⟩, if_pos ⟨by omega, hj⟩]
          · rw [if_neg (by omega), if_neg (by omega)]
      · rw [if_neg h]
        by_cases hb : b = n
        · rw [hb, put_same, if_pos ⟨by omega, h⟩]
        · rw [put_k hb, dk_put_ne d5, i1]
          by_cases hb2 : b < n
          · by_cases hj : M j b < 0
            · rw [if_neg (fun y => y.2 hj), if_neg (fun y => y.2 hj)]
            · rw [if_pos ⟨hb2, hj⟩, if_pos ⟨by omega, hj⟩]
          · rw [if_neg (by omega), if_neg (by omega)]
    · have e9 : (if M j n < 0 then dk_put (lFl M d c j n) c n (-6) else dk_put (dk_put (lFl M d c j n) c n (-6)) d n (M j n)) c b = dk_put (lFl M d c j n) c n (-6) c b := by
        split
        · rfl
        · rw [dk_put_ne d5.symm]
      rw [e9]
      by_cases hb : b = n
      · rw [hb, put_same, if_pos (by omega)]
      · rw [put_k hb, i2]
        by_cases hb2 : b < n
        · rw [if_pos hb2, if_pos (by omega)]
        · rw [if_neg hb2, if_neg (by omega)]
    · split
      · rw [dk_put_ne h1, i3 a h1 h2]
      · rw [dk_put_ne h2, dk_put_ne h1, i3 a h1 h2]
/-- a failure of the law's disk -/
theorem LR.fails (D : lD q d c w j) (h : DS Mx e (N 112)) (r : LR M q d c w j (N 112)) : LR (lFail M q d c j) q d c w j (mFails N 112) := by
  obtain ⟨⟨d1, d2, d3, d4⟩, ⟨d5, d6, d7⟩, ⟨d8, d9⟩, d10⟩ := id D
  have hs := r.sec h
  have hC : ∀ k, k ≠ 5 → k ≠ 6 → lFailC M q d c j q k = M q k := fun k y5 y6 => by
    unfold lFailC
    rw [lC_q d4 y5 y6, (lFl_st D _ _).2.2 q d2 d1]
  have hN : ∀ k, k ≠ 5 → k ≠ 6 → k < 111 → mFails1 N 112 k = N 112 k := fun k y5 y6 y => by
    unfold mFails1
    rw [mC_k y5 y6 (by omega), mFlL_st N (by omega), if_neg (by omega), if_neg (by omega)]
  have hk : ∀ k, k ≠ 5 → k ≠ 6 → k ≠ 10 → lFail M q d c j q k = M q k := fun k y5 y6 y => by unfold lFail; rw [put_k y, hC k y5 y6]
  have hf : ∀ k, k ≠ 5 → k ≠ 6 → k ≠ 10 → k < 111 → mFails N 112 k = N 112 k := fun k y5 y6 y z => by unfold mFails; rw [put_k y, hN k y5 y6 z]
  have hrow : ∀ a b, a ≠ q → lFail M q d c j a b = lClose (lFl M d c j (ix (M q 0))) q j a b := fun a b y => by unfold lFail lFailC; rw [dk_put_ne y]
  refine r.upd (hf 0 (by decide) (by decide) (by decide) (by decide)) (fun k hk' h6 => ?_) (Or.inl ⟨?_, ?_⟩) (fun k y => hk k (by omega) (by omega) (by omega)) (fun k h1 h2 => hf k (by omega) (by omega) (by omega) (by omega)) (fun s hss => ?_)
  · by_cases y5 : k = 5
    · subst y5
      unfold lFail mFails
      rw [put_k (by decide), put_k (by decide)]
      unfold lFailC mFails1
      rw [lC_0 d4 (by decide), mC_0 (by decide)]
    · by_cases y10 : k = 10
      · subst y10
        unfold lFail mFails
        rw [put_same, put_same, hC 10 (by decide) (by decide), hN 10 (by decide) (by decide) (by decide), r.k (k := 10) (by decide) (by decide)]
      · rw [hk k y5 h6 y10, hf k y5 h6 y10 (by omega)]; exact r.1 k hk' h6
  · unfold lFail; rw [put_k (by decide)]; unfold lFailC; rw [lC_0 d4 (by decide)]
  · unfold mFails; rw [put_k (by decide)]; unfold mFails1; rw [mC_0 (by decide)]
  · have h20 := r.sn h hss
    obtain ⟨⟨a1, a2⟩, a3, a4⟩ := r.2.2.2.2 s hss
    have hm : ∀ b, 111 ≤ b → (b < 175 ∨ 239 ≤ b) → mFails N 112 b = mFlL N 64 112 b := fun b y1 y2 => by
      unfold mFails
      rw [put_k (by omega)]
      unfold mFails1
      rw [mC_k (by omega) (by omega) y2]
    have hmj : mFails N 112 (175 + s) = -6 := by
      unfold mFails
      rw [put_k (by omega)]
      unfold mFails1
      rw [mC_j (by omega)]
    have l6 := opt6 (h.lc (k := s) (by omega))
    rw [hrow d s d1.symm, hrow c s d2.symm, hrow j s d4.symm, hrow w s d3.symm, lC_o d4 d1 d7, lC_o d4 d2 d9, lC_j d4 h20, lC_o d4 d3 d10, (lFl_st D _ _).1, (lFl_st D _ _).2.1, (lFl_st D _ _).2.2 w d8.symm d6.symm, hm _ (by omega) (by omega), hm _ (by omega) (by omega), hmj, hm _ (by omega) (by omega), mFlL_st N (by omega), mFlL_st N (by omega), mFlL_st N (by omega), hs.1, if_pos hss]
    refine ⟨⟨?_, ?_⟩, rfl, ?_⟩
    · rw [a3, if_pos (show 111 ≤ 111 + s ∧ 111 + s < 111 + 64 by omega), show 111 + s + 64 = 175 + s by omega]
      by_cases y : N 112 (175 + s) = -6
      · rw [if_neg (fun z => z.2 (l6.2.mpr y)), if_pos y]; exact a1
      · rw [if_pos ⟨hss, fun z => y (l6.2.mp z)⟩, if_neg y]
    · rw [if_neg (by omega), if_pos (by omega)]
    · rw [if_neg (by omega), if_neg (by omega)]; exact a4
end LU
