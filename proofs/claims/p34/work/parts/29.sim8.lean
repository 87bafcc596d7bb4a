/-! writing, flushing, failing -/
section DS8
variable {M M' R : dkM} {d : Nat} {Mm : dkM}
/-- a cached value comes or goes -/
theorem DS.cas {f f' : Nat → Int32} (h : DS M d f) {s : Nat} {c c' : Int32} (hc : oq c c') (hs : s < ix (f 0)) (hn : cnt (fun b => dk_put M (d + 6) s c (d + 6) b != -1) 64 ≤ 8) (e : ∀ j, j ≠ 239 + s → f' j = f j) (ev : f' (239 + s) = c') : DS (dk_put M (d + 6) s c) d f' := by
  have hx := h.sec.1
  have eM : ∀ a, a ≠ d + 6 → dk_put M (d + 6) s c a = M a := fun a ha => dk_put_ne ha
  refine ⟨?_, ?_, ?_, ?_, ?_, ?_⟩
  · rw [eM d (by omega)]; exact h.a.cg (fun j hj => e j (by omega)) (fun _ _ _ => rfl)
  · rw [eM d (by omega)]; exact h.r.cg (fun j hj => e j (by omega)) (fun _ _ _ => rfl)
  · rw [eM (d + 8) (by omega)]; exact h.l.cg (fun j hj => e j (by omega))
  · rw [eM (d + 10) (by omega)]; exact h.k.cg h.own99 h.tgt99 (fun j hj => e j (by omega))
  · rw [eM (d + 2) (by omega), eM (d + 4) (by omega)]; exact h.s.cg hx (fun j hj => e j (by omega))
  · refine ⟨fun k hk => ?_, hn⟩
    rw [e 0 (by omega)]
    by_cases q : k = s
    · rw [q, put_same, ev]; exact ⟨hc, fun _ => hs⟩
    · rw [put_k q, e _ (by omega)]; exact h.c.1 k hk
/-- an expected value is noted -/
theorem DS.exs {f f' : Nat → Int32} (h : DS M d f) {s : Nat} {v : Int32} (hs : s < ix (f 0)) (e : ∀ j, j ≠ 303 + s → f' j = f j) (ev : f' (303 + s) = v) : DS (dk_put M (d + 4) s v) d f' := by
  have hx := h.sec.1
  have eM : ∀ a, a ≠ d + 4 → dk_put M (d + 4) s v a = M a := fun a ha => dk_put_ne ha
  refine ⟨?_, ?_, ?_, ?_, ?_, ?_⟩
  · rw [eM d (by omega)]; exact h.a.cg (fun j hj => e j (by omega)) (fun _ _ _ => rfl)
  · rw [eM d (by omega)]; exact h.r.cg (fun j hj => e j (by omega)) (fun _ _ _ => rfl)
  · rw [eM (d + 8) (by omega)]; exact h.l.cg (fun j hj => e j (by omega))
  · rw [eM (d + 10) (by omega)]; exact h.k.cg h.own99 h.tgt99 (fun j hj => e j (by omega))
  · rw [eM (d + 2) (by omega)]
    refine ⟨fun k hk => ?_, fun k hk => ?_⟩
    · rw [e 0 (by omega)] at hk
      rw [e _ (by omega)]; exact h.s.1 k hk
    · rw [e 0 (by omega)] at hk
      by_cases q : k = s
      · rw [q, put_same, ev]
      · rw [put_k q, e _ (by omega)]; exact h.s.2 k hk
  · rw [eM (d + 6) (by omega)]; exact h.c.cg (fun j hj => e j (by omega))
theorem DS.rgc (h : DS M d (Mm 112)) {s : Int32} (hm : mSec Mm s = true) : rget M (d + 5) 64 s = M (d + 6) (ix s) := by
  obtain ⟨k1, k2⟩ := h.sec_k hm
  have hs := h.sec
  have := rgetk (M := M) (o := d + 5) (k := ix s) (by omega)
  rw [← k1] at this
  exact this
theorem DS.putM (h : DS M d (Mm 112)) {s v : Int32} (hw : mWhyW Mm s v = 0) : rset (rset M (d + 5) 64 s v) (d + 3) 64 s v = dk_put (dk_put M (d + 6) (ix s) v) (d + 4) (ix s) v ∧ DS (rset (rset M (d + 5) 64 s v) (d + 3) 64 s v) d (mWritesM Mm s v 112) := by
  have hm := mWhyW_0 hw
  obtain ⟨k1, k2⟩ := h.sec_k hm
  have hs := h.sec
  have ts : 0 ≤ s.toInt ∧ s.toInt < 64 := by
    rw [k1, nI_toInt (by omega)]; omega
  have hv : mWithin v 0 65535 = true := by
    unfold mWhyW at hw
    rw [if_pos hm] at hw
    cases q : mWithin v 0 65535 with
    | true => rfl
    | false => rw [q, if_neg (show ¬ (false = true) from by decide)] at hw; exact absurd hw (by decide)
  have hz := mW_iff.mp hv
  rw [e0I, e65I] at hz
  have h8 : ¬ (Mm 112 (239 + ix s) = -6 ∧ nI (mCached Mm) = 8) := by
    unfold mWhyW at hw
    rw [if_pos hm, if_pos hv] at hw
    intro z
    rw [if_pos z] at hw
    exact absurd hw (by decide)
  have er : rset (rset M (d + 5) 64 s v) (d + 3) 64 s v = dk_put (dk_put M (d + 6) (ix s) v) (d + 4) (ix s) v := by
    rw [rset_in (by omega) (by omega) (by decide), rset_in (by omega) (by omega) (by decide)]
  refine ⟨er, ?_⟩
  rw [er]
  have hn : cnt (fun b => dk_put M (d + 6) (ix s) v (d + 6) b != -1) 64 ≤ 8 := by
    have h1 := cnt_set (p := fun b => M (d + 6) b != -1) (q := fun b => dk_put M (d + 6) (ix s) v (d + 6) b != -1) (n := 64) (j := ix s) (by omega) (fun b hb => by rw [put_k hb])
    have h2 : cnt (fun b => M (d + 6) b != -1) 64 = mCached Mm := h.nca
    have h3 := h.ncb
    rw [h2] at h1
    by_cases q : M (d + 6) (ix s) = -1
    · have : Mm 112 (239 + ix s) = -6 := (h.c.1 (ix s) (by omega)).1.none_iff.mp q
      have lt : mCached Mm < 8 := by
        rcases Nat.lt_or_ge (mCached Mm) 8 with w | w
        · exact w
        · exact absurd ⟨this, by rw [show mCached Mm = 8 by omega]; rfl⟩ h8
      split at h1 <;> split at h1 <;> omega
    · rw [if_pos (bne_iff_ne.mpr q)] at h1
      split at h1 <;> omega
  have hA : DS (dk_put M (d + 6) (ix s) v) d (dk_put Mm 112 (239 + ix s) v 112) := h.cas (Or.inr ⟨rfl, hz⟩) k2 hn (fun j hj => put_k hj) put_same
  exact hA.exs (by rw [put_k (by omega)]; exact k2) (fun j hj => put_k hj) put_same
theorem DS.nca2 (h : DS M d (Mm 112)) : nI (rfilled M (d + 5) 64) = nI (mCached Mm) := congrArg nI h.nca
/-- the class's answer to a write and the model's reason against it -/
theorem DS.putW (h : DS M d (Mm 112)) (s v : Int32) : (mWhyW Mm s v = 0 ∧ dPut M d s v = (nI (rfilled (rset (rset M (d + 5) 64 s v) (d + 3) 64 s v) (d + 5) 64), rset (rset M (d + 5) 64 s v) (d + 3) 64 s v)) ∨ (mWhyW Mm s v < 0 ∧ dPut M d s v = (mWhyW Mm s v, M)) := by
  unfold dPut mWhyW
  rw [h.hs]
  cases hm : mSec Mm s with
  | false => right; rw [if_neg (show ¬ (false = true) from by decide)]; exact ⟨by decide, rfl⟩
  | true =>
    simp only [if_true]
    obtain ⟨k1, k2⟩ := h.sec_k hm
    have hs := h.sec
    rw [h.rgc hm, h.nca]
    have hq := (h.c.1 (ix s) (by omega)).1.none_iff
    by_cases hw : mWithin v 0 65535 = true
    · have hz := mW_iff.mp hw
      rw [e0I, e65I] at hz
      rw [if_pos hw, if_neg (show ¬ v < 0 from by rw [tI_lt, e0I]; omega), if_neg (show ¬ 65535 < v from by rw [tI_lt, e65I]; omega)]
      by_cases q : Mm 112 (239 + ix s) = -6 ∧ nI (mCached Mm) = 8
      · rw [if_pos q, if_pos (show M (d + 6) (ix s) = -1 ∧ 8 ≤ nI (mCached Mm) from ⟨hq.mpr q.1, (nI_8 h.ncb).mp q.2⟩)]
        right; exact ⟨by decide, rfl⟩
      · rw [if_neg q, if_neg (show ¬ (M (d + 6) (ix s) = -1 ∧ 8 ≤ nI (mCached Mm)) from fun z => q ⟨hq.mp z.1, (nI_8 h.ncb).mpr z.2⟩)]
        left; exact ⟨rfl, rfl⟩
    · rw [if_neg hw]
      have hz := Wn hw
      rw [e0I, e65I] at hz
      right
      by_cases q : v < 0
      · rw [if_pos q]; exact ⟨by decide, rfl⟩
      · rw [if_neg q, if_pos (by rw [tI_lt, e0I] at q; rw [tI_lt, e65I]; omega)]; exact ⟨by decide, rfl⟩
theorem rset2_ne {s v : Int32} {a : Nat} (h : ¬ (d ≤ a ∧ a < d + 11)) : rset (rset M (d + 5) 64 s v) (d + 3) 64 s v a = M a := by rw [rset_ne (by omega), rset_ne (by omega)]
theorem DS.put (h : DS M d (Mm 112)) (s v : Int32) : OK1 d M Mm (dPut M d s v) (mWrite Mm s v) := by
  unfold mWrite
  rcases h.putW s v with ⟨w1, w2⟩ | ⟨w1, w2⟩
  · rw [w2, if_neg (by rw [w1]; decide)]
    have h2 : DS M d (mRec Mm 112) := by rw [mRec_st]; exact h
    have w3 : mWhyW (mRec Mm) s v = 0 := by
      rw [← w1]; unfold mWhyW mSec mCached mCachedN; rw [mRec_st]
    obtain ⟨-, hD⟩ := DS.putM (Mm := mRec Mm) h2 w3
    exact Or.inr ⟨nI_nn (Nat.lt_of_le_of_lt (cnt_le _ _) (by decide)), DS.nca2 (Mm := mWritesM (mRec Mm) s v) hD, fun a ha => rset2_ne ha, fun a ha => by dsimp only; rw [mWritesM, dk_put_ne ha, dk_put_ne ha], hD⟩
  · rw [w2, if_pos w1]
    exact OK1.no w1 rfl rfl
/-- flushing -/
theorem DS.fl (h : DS M d (Mm 112)) : ∀ k, k ≤ ix (Mm 112 0) → flN M d k = mFluN Mm k ∧ DS (flM M d k) d (mFluL Mm k 112) := by
  intro k
  induction k with
  | zero => intro _; exact ⟨rfl, h⟩
  | succ k ih =>
    intro hk
    obtain ⟨i1, i2⟩ := ih (by omega)
    have hs := h.sec
    have k0 : k < ix (mFluL Mm k 112 0) := by rw [mFluL_lo _ _ (by decide)]; omega
    have hc := i2.can k0
    have hf := i2.form k0
    rw [flN, mFluN, flM, mFluL, hc, i1]
    cases q : mCan (mFluL Mm k) k with
    | false => exact ⟨rfl, i2⟩
    | true =>
      simp only [if_true]
      refine ⟨trivial, ?_⟩
      rw [rset_nI (by omega) (by decide), rset_nI (by omega) (by decide), hf]
      have hr : 0 ≤ (mForm (mFluL Mm k) k).toInt ∧ (mForm (mFluL Mm k) k).toInt ≤ 65535 := by
        unfold mForm
        rw [q, if_pos rfl]
        have hq := (i2.c.1 k (by omega)).1
        have hn : ¬ flM M d k (d + 6) k = -1 := by
          intro z
          unfold mCan at q
          rw [if_pos (hq.none_iff.mp z)] at q
          cases q
        have := hq.eq hn
        exact scr_b (by rw [← this.1]; exact this.2)
      have hA : DS (dk_put (flM M d k) (d + 2) k (mForm (mFluL Mm k) k)) d (dk_put (mFluL Mm k) 112 (111 + k) (mForm (mFluL Mm k) k) 112) := i2.scs hr k0 (fun j hj => put_k hj) put_same
      refine hA.cas (c := -1) (c' := -6) (Or.inl ⟨rfl, rfl⟩) (by rw [put_k (by omega)]; exact k0) ?_ (fun j hj => put_k hj) put_same
      have h1 := cnt_set (p := fun b => dk_put (flM M d k) (d + 2) k (mForm (mFluL Mm k) k) (d + 6) b != -1) (q := fun b => dk_put (dk_put (flM M d k) (d + 2) k (mForm (mFluL Mm k) k)) (d + 6) k (-1) (d + 6) b != -1) (n := 64) (j := k) (by omega) (fun b hb => by rw [put_k hb])
      have h2 := hA.c.2
      rw [put_same] at h1
      simp only [bne_self_eq_false, Bool.false_eq_true, if_false] at h1
      omega
theorem flM_ne (M : dkM) (d k : Nat) {a : Nat} (h : ¬ (d ≤ a ∧ a < d + 11)) : flM M d k a = M a := by
  induction k with
  | zero => rfl
  | succ k ih => rw [flM]; split; rw [rset_ne (by omega), rset_ne (by omega), ih]; exact ih
theorem flN_le (M : dkM) (d k : Nat) : flN M d k ≤ k := by
  induction k with
  | zero => exact Nat.le_refl 0
  | succ k ih => rw [flN]; split <;> omega
theorem DS.flush (h : DS M d (Mm 112)) : OK1 d M Mm (nI (flN M d (ix (M d 5))), flM M d (ix (M d 5))) (mFlush Mm) := by
  have h2 : DS M d (mRec Mm 112) := by rw [mRec_st]; exact h
  have hs := h.sec
  obtain ⟨f1, f2⟩ := DS.fl (Mm := mRec Mm) h2 (ix (mRec Mm 112 0)) (Nat.le_refl _)
  have e5 : ix (M d 5) = ix (mRec Mm 112 0) := by rw [h2.a.1.1]
  have hle := flN_le M d (ix (mRec Mm 112 0))
  have e64 : ix (mRec Mm 112 0) ≤ 64 := h2.sec.1
  unfold mFlush mFlushes
  rw [e5]
  exact Or.inr ⟨nI_nn (by omega), congrArg nI f1, fun a ha => flM_ne _ _ _ ha, fun a ha => mFluL_row _ _ ha, f2⟩
/-! a power failure -/
theorem lpM_ne (M : dkM) (d k : Nat) {a : Nat} (h : a ≠ d + 2) : lpM M d k a = M a := by
  induction k with
  | zero => rfl
  | succ k ih => rw [lpM, rset_ne (by omega), ih]
theorem lpM_sc (M : dkM) (d : Nat) {k : Nat} (hk : k ≤ 64) (b : Nat) : lpM M d k (d + 2) b = if b < k then (if M (d + 8) b = -1 then M (d + 2) b else M (d + 8) b) else M (d + 2) b := by
  induction k with
  | zero => rfl
  | succ k ih =>
    have ih := ih (by omega)
    rw [lpM, rset_nI (by omega) (by decide)]
    by_cases q : b = k
    · subst q
      rw [put_same, if_pos (by omega)]
      unfold saF
      rw [rgetk (by omega), rgetk (by omega), lpM_ne _ _ _ (a := d + 7 + 1) (by omega), ih, if_neg (show ¬ b < b from by omega)]
    · rw [put_k q, ih]
      have e : b < k ↔ b < k + 1 := by omega
      simp only [e]
theorem mFlL_st (R : dkM) {k : Nat} (hk : k ≤ 64) : ∀ j : Nat, mFlL R k 112 j = if 111 ≤ j ∧ j < 111 + k then (if R 112 (j + 64) = -6 then R 112 j else R 112 (j + 64)) else if 239 ≤ j ∧ j < 239 + k then -6 else R 112 j := by
  induction k with
  | zero => intro j; rw [if_neg (by omega), if_neg (by omega)]; rfl
  | succ k ih =>
    have ih := ih (by omega)
    intro j
    rw [mFlL]
    have e175 : dk_put (mFlL R k) 112 (239 + k) (-6) 112 (175 + k) = R 112 (175 + k) := by rw [put_k (by omega), ih, if_neg (by omega), if_neg (by omega)]
    have e111 : dk_put (mFlL R k) 112 (239 + k) (-6) 112 (111 + k) = R 112 (111 + k) := by rw [put_k (by omega), ih, if_neg (by omega), if_neg (by omega)]
    rw [e175, e111]
    by_cases q1 : j = 111 + k
    · rw [q1, put_same, if_pos (show 111 ≤ 111 + k ∧ 111 + k < 111 + (k + 1) by omega), show 111 + k + 64 = 175 + k by omega]
    · rw [put_k q1]
      by_cases q2 : j = 239 + k
      · rw [q2, put_same, if_neg (by omega), if_pos (by omega)]
      · rw [put_k q2, ih]
        have e1 : (111 ≤ j ∧ j < 111 + k) ↔ (111 ≤ j ∧ j < 111 + (k + 1)) := by omega
        have e2 : (239 ≤ j ∧ j < 239 + k) ↔ (239 ≤ j ∧ j < 239 + (k + 1)) := by omega
        simp only [e1, e2]
theorem DS.lost (h : DS M d (Mm 112)) : DS (rclear (lpM M d (ix (M d 5))) (d + 5) 64) d (mFlL Mm 64 112) := by
  have hs := h.sec
  have e5 : ix (M d 5) = ix (Mm 112 0) := by rw [h.a.1.1]
  have hx := mFlL_st Mm (k := 64) (Nat.le_refl _)
  have eM : ∀ a, a ≠ d + 2 → a ≠ d + 6 → rclear (lpM M d (ix (M d 5))) (d + 5) 64 a = M a := fun a h1 h2 => by rw [rclear_ne (by omega), lpM_ne _ _ _ h1]
  have e : ∀ j, ¬ (111 ≤ j ∧ j < 175) → ¬ (239 ≤ j ∧ j < 303) → mFlL Mm 64 112 j = Mm 112 j := fun j h1 h2 => by rw [hx, if_neg (by omega), if_neg (by omega)]
  refine ⟨?_, ?_, ?_, ?_, ?_, ?_⟩
  · rw [eM d (by omega) (by omega)]; exact h.a.cg (fun j hj => e j (by omega) (by omega)) (fun _ _ _ => rfl)
  · rw [eM d (by omega) (by omega)]; exact h.r.cg (fun j hj => e j (by omega) (by omega)) (fun _ _ _ => rfl)
  · rw [eM (d + 8) (by omega) (by omega)]; exact h.l.cg (fun j hj => e j (by omega) (by omega))
  · rw [eM (d + 10) (by omega) (by omega)]; exact h.k.cg h.own99 h.tgt99 (fun j hj => e j (by omega) (by omega))
  · rw [eM (d + 4) (by omega) (by omega), rclear_ne (by omega)]
    refine ⟨fun k hk => ?_, fun k hk => ?_⟩
    · rw [e 0 (by omega) (by omega)] at hk
      rw [lpM_sc _ _ (by omega), if_pos (show k < ix (M d 5) by omega), hx, if_pos (show 111 ≤ 111 + k ∧ 111 + k < 111 + 64 by omega), show 111 + k + 64 = 175 + k by omega]
      have hq := (h.l.2.2.2 k (by omega)).1
      by_cases q : M (d + 8) k = -1
      · rw [if_pos q, if_pos (hq.none_iff.mp q)]; exact h.s.1 k hk
      · rw [if_neg q, if_neg (fun z => q (hq.none_iff.mpr z))]; exact hq.eq q
    · rw [e 0 (by omega) (by omega)] at hk
      rw [e _ (by omega) (by omega)]; exact h.s.2 k hk
  · refine ⟨fun k hk => ?_, ?_⟩
    · rw [show d + 6 = d + 5 + 1 from rfl, rclear_in hk, hx, if_neg (by omega), if_pos (by omega)]
      exact ⟨Or.inl ⟨rfl, rfl⟩, fun z => absurd rfl z⟩
    · rw [show d + 6 = d + 5 + 1 from rfl, cnt_none (fun k hk => by rw [rclear_in hk]; rfl)]; exact Nat.zero_le 8
theorem DS.closed (h : DS M d (Mm 112)) : DS (dClose M d) d (mClose Mm 112) := by
  have hc := mClose_st Mm
  have a := h.a
  have e : ∀ j, ¬ (175 ≤ j ∧ j < 239) → j ≠ 5 → j ≠ 6 → mClose Mm 112 j = Mm 112 j := fun j h1 h5 h6 => by rw [hc, if_neg h1, if_neg (by omega)]
  have e5 : mClose Mm 112 5 = 0 := by rw [hc, if_neg (by decide), if_pos (by decide)]
  have e6 : mClose Mm 112 6 = 0 := by rw [hc, if_neg (by decide), if_pos (by decide)]
  have eF : ∀ j, j ≠ 10 → dClose M d d j = M d j := fun j hj => dClose_d _ _ _ hj
  refine h.shut (fun b h1 h2 => by unfold dClose; rw [dk_put_ne h1, rclear_ne (by omega)]) (fun b hb => by unfold dClose; rw [dk_put_ne (by omega)]; exact rclear_in hb) ?_ ?_ (fun j hj => e j (by omega) (by omega) (by omega)) (fun j h1 h2 => by rw [hc, if_pos ⟨h1, h2⟩]) e5 e6 ?_ ?_
  · unfold DSa
    rw [e 0 (by omega) (by omega) (by omega), e 1 (by omega) (by omega) (by omega), e 7 (by omega) (by omega) (by omega), e 8 (by omega) (by omega) (by omega), e 9 (by omega) (by omega) (by omega), e 10 (by omega) (by omega) (by omega), e5, eF 5 (by decide), eF 6 (by decide), eF 8 (by decide), eF 9 (by decide), eF 11 (by decide), eF 12 (by decide), eF 13 (by decide), eF 14 (by decide), show dClose M d d 10 = 0 from put_same]
    exact ⟨a.1, a.2.1, a.2.2.1, a.2.2.2.1, a.2.2.2.2.1, ⟨rfl, by decide⟩, a.2.2.2.2.2.2⟩
  · unfold DSr fT fF
    rw [e 0 (by omega) (by omega) (by omega), e 1 (by omega) (by omega) (by omega), e 2 (by omega) (by omega) (by omega), e 3 (by omega) (by omega) (by omega), e 4 (by omega) (by omega) (by omega), e 7 (by omega) (by omega) (by omega), e5, e6, eF 7 (by decide), eF 8 (by decide), eF 9 (by decide)]
    rcases h.r with r | r
    · exact Or.inl ⟨r.1, r.2.1, r.2.2.1, r.2.2.2.1, rfl, rfl⟩
    · refine Or.inr ⟨r.1, r.2.1, r.2.2.1, r.2.2.2.1, r.2.2.2.2.1, r.2.2.2.2.2.1, ?_⟩
      have a1 := a.1
      have a3 := a.2.2.1
      rw [e0I]
      rcases r.2.2.2.2.2.1 with q | q
      · rw [q.1, if_neg (by decide), if_pos rfl]; omega
      · rw [q.1, if_pos rfl, if_neg (by decide)]; omega
  · rw [e 1 (by omega) (by omega) (by omega)]; exact ⟨(ix_99 a.2.1.2).2.1, h.k.2.2.2.1⟩
  · rw [e 2 (by omega) (by omega) (by omega)]
    intro z
    refine ⟨?_, h.k.2.2.2.2 z⟩
    rcases h.r with r | r
    · exact absurd r.2.1 z
    · exact (ix_99 r.2.1).2.1
theorem DS.failM (h : DS M d (Mm 112)) : DS (dFail M d) d (mFails Mm 112) := by
  have h1 := h.lost
  have h2 : DS (dFailM M d) d (mFails1 Mm 112) := DS.closed (Mm := mFlL Mm 64) h1
  have a := h2.a
  have e : ∀ j, j ≠ 10 → mFails Mm 112 j = mFails1 Mm 112 j := fun j hj => put_k hj
  have e10 : mFails Mm 112 10 = mFails1 Mm 112 10 + 1 := put_same
  have eF : ∀ j, j ≠ 14 → dFail M d d j = dFailM M d d j := fun j hj => put_k hj
  have eF14 : dFail M d d 14 = dFailM M d d 14 + 1 := put_same
  refine h2.lowc (fun b hb => dk_put_ne hb) ?_ ?_ ?_ (fun j hj => ?_) ?_
  · unfold DSa
    rw [e 0 (by omega), e 1 (by omega), e 5 (by omega), e 7 (by omega), e 8 (by omega), e 9 (by omega), e10, eF 5 (by decide), eF 6 (by decide), eF 8 (by decide), eF 9 (by decide), eF 10 (by decide), eF 11 (by decide), eF 12 (by decide), eF 13 (by decide), eF14, a.2.2.2.2.1.2]
    exact ⟨a.1, a.2.1, a.2.2.1, a.2.2.2.1, ⟨a.2.2.2.2.1.1, rfl⟩, a.2.2.2.2.2⟩
  · unfold DSr fT fF
    rw [e 0 (by omega), e 1 (by omega), e 2 (by omega), e 3 (by omega), e 4 (by omega), e 5 (by omega), e 6 (by omega), e 7 (by omega), eF 7 (by decide), eF 8 (by decide), eF 9 (by decide)]
    exact h2.r
  · exact h2.l.cg (fun j hj => e j (by omega))
  · exact e j (by omega)
  · exact Or.inl (e 2 (by decide))
end DS8
