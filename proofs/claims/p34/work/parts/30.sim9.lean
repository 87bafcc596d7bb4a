/-! what a failure would do; one command of a script; copies -/
theorem dFail_ne (M : dkM) (d : Nat) {a : Nat} (h : ¬ (d ≤ a ∧ a < d + 11)) : dFail M d a = M a := by
  unfold dFail dFailM dClose
  rw [dk_put_ne (by omega), dk_put_ne (by omega), rclear_ne (by omega), rclear_ne (by omega), lpM_ne _ _ _ (by omega)]
theorem dFail_row (M : dkM) (d : Nat) {a : Nat} (h0 : a ≠ d) (h2 : a ≠ d + 2) (h6 : a ≠ d + 6) (h8 : a ≠ d + 8) : dFail M d a = M a := by
  unfold dFail dFailM dClose
  rw [dk_put_ne h0, dk_put_ne h0, rclear_ne (by omega), rclear_ne (by omega), lpM_ne _ _ _ h2]
theorem dFail_d (M : dkM) (d : Nat) {j : Nat} (h10 : j ≠ 10) (h14 : j ≠ 14) : dFail M d d j = M d j := by
  rw [dFail, put_k h14, dFailM, dClose_d _ _ _ h10, rclear_ne (by omega), lpM_d]
theorem mVal_cg {M M' : dkM} (h : M' 112 = M 112) (k : Nat) : mVal M' k = mVal M k := by
  unfold mVal mPlain mSecret mKeyAt mRw mInZ mFrom mTo mRek; rw [h]
theorem mVals_117 (R : dkM) : ∀ (n k : Nat), k < n → mVals R n 117 k = mVal R k := by
  intro n
  induction n with
  | zero => intro k hk; omega
  | succ n ih =>
    intro k hk
    rw [mVals]
    by_cases q : k = n
    · rw [q, put_same]; exact mVal_cg (mVals_ne R n (by decide)) n
    · rw [put_k q]; exact ih k (by omega)
section DS9
variable {M M' R : dkM} {d : Nat} {Mm : dkM}
theorem DS.vaf (h : DS M d (Mm 112)) {k : Nat} (hk : k < ix (Mm 112 0)) : vaF M d (nI k) = mVal (mFails Mm) k := by
  have hF := h.failM
  have hs := h.sec
  have e0 : mFails Mm 112 0 = Mm 112 0 := by
    have h1 := hF.a.1.1
    rw [dFail_d _ _ (by decide) (by decide), h.a.1.1] at h1
    exact h1.symm
  have hv := hF.val (k := k) (by rw [e0]; exact hk)
  rw [← hv]
  unfold valIn
  have r6 : rget (dFail M d) (d + 5) 64 (nI k) = -1 := by
    rw [rgetk (by omega)]
    unfold dFail dFailM dClose
    rw [dk_put_ne (by omega), dk_put_ne (by omega), rclear_ne (o := d + 7) (by omega)]
    exact rclear_in (by omega)
  have r2 : rget (dFail M d) (d + 1) 64 (nI k) = saF M d (nI k) := by
    rw [rgetk (by omega)]
    unfold saF
    rw [rgetk (by omega), rgetk (by omega)]
    unfold dFail dFailM dClose
    rw [dk_put_ne (by omega), dk_put_ne (by omega), rclear_ne (o := d + 7) (by omega), rclear_ne (o := d + 5) (by omega)]
    have e5 : ix (M d 5) = ix (Mm 112 0) := by rw [h.a.1.1]
    have := lpM_sc M d (k := ix (M d 5)) (by omega) k
    rw [if_pos (show k < ix (M d 5) by omega)] at this
    exact this
  have rk : keyAt (dFail M d) d (nI k) = kbp M d (nI k) := by
    have e10 : dFail M d d 10 = 0 := by
      rw [dFail, put_k (by decide), dFailM]; exact put_same
    have ek : kbp (dFail M d) d (nI k) = kbp M d (nI k) := by
      unfold kbp isRek; rw [dFail_d _ _ (by decide) (by decide), dFail_d _ _ (by decide) (by decide), dFail_d _ _ (by decide) (by decide)]
    unfold keyAt
    rw [e10, Int32_add_0, ek]
    by_cases q : nI k < zFirst (dFail M d) d
    · rw [if_pos q]
    · rw [if_neg q, if_neg q]
  rw [if_pos r6, r2, rk]
  unfold vaF
  exact (exch_cg (dFail_row M d (by omega) (by omega) (by omega) (by omega)) _ _ _).symm
theorem DS.damf (h : DS M d (Mm 112)) : dafN M d (ix (M d 5)) = mDam (mFails Mm) := by
  have hF := h.failM
  have hs := h.sec
  have e0 : mFails Mm 112 0 = Mm 112 0 := by
    have h1 := hF.a.1.1
    rw [dFail_d _ _ (by decide) (by decide), h.a.1.1] at h1
    exact h1.symm
  unfold dafN mDam mDamN
  rw [e0, h.a.1.1]
  refine cnt_congr (fun k hk => ?_)
  have h2 := hF.s.2 k (by rw [e0]; exact hk)
  rw [dFail_row M d (by omega) (by omega) (by omega) (by omega)] at h2
  rw [h.vaf hk, rgetk (by omega), ← h2]
def OK2 (d : Nat) (M Mm : dkM) (r m : Int32 × dkM) : Prop := (∃ e : Int32, e < 0 ∧ r = (e, M) ∧ m = (e, Mm)) ∨ (0 ≤ r.1.toInt ∧ r.1 = m.1 ∧ (∀ a, ¬ (d ≤ a ∧ a < d + 11) → r.2 a = M a) ∧ (∀ a, a ≠ 112 → a ≠ 117 → m.2 a = mRec Mm a) ∧ DS r.2 d (m.2 112))
theorem OK1.to2 {r m : Int32 × dkM} (h : OK1 d M Mm r m) : OK2 d M Mm r m := by
  rcases h with h | ⟨h1, h2, h3, h4, h5⟩
  · exact Or.inl h
  · exact Or.inr ⟨h1, h2, h3, fun a ha _ => h4 a ha, h5⟩
theorem DS.fail (h : DS M d (Mm 112)) : OK2 d M Mm (nI (lpN M d (ix (M d 5))), dFail M d) (mFail Mm) := by
  have e5 : M d 5 = Mm 112 0 := h.a.1.1
  have hs := h.sec
  have hR : DS M d (mRec Mm 112) := by rw [mRec_st]; exact h
  have hv : mVals (mRec Mm) (ix (mRec Mm 112 0)) 112 = mRec Mm 112 := mVals_ne _ _ (by decide)
  have h2 : DS M d (mVals (mRec Mm) (ix (mRec Mm 112 0)) 112) := by rw [hv]; exact hR
  have hF := DS.failM (Mm := mVals (mRec Mm) (ix (mRec Mm 112 0))) h2
  have e0 : mFailM Mm 112 0 = Mm 112 0 := by
    have h1 := hF.a.1.1
    rw [dFail_d _ _ (by decide) (by decide), e5] at h1
    exact h1.symm
  unfold mFail
  refine Or.inr ⟨nI_nn (Nat.lt_of_le_of_lt (cnt_le _ _) (ix_lt _)), ?_, fun a ha => dFail_ne _ _ ha, fun a h1 h7 => ?_, hF⟩
  · refine congrArg nI ?_
    unfold lpN mChgN
    rw [e0, e5]
    refine cnt_congr (fun k hk => ?_)
    have v1 := DS.val (Mm := mRec Mm) hR (k := k) (by rw [mRec_st]; exact hk)
    have v2 := DS.vaf (Mm := mVals (mRec Mm) (ix (mRec Mm 112 0))) h2 (k := k) (by rw [hv, mRec_st]; exact hk)
    have v3 : mFailM Mm 117 k = mVal (mRec Mm) k := by
      unfold mFailM
      rw [mFails_row _ (by decide)]
      exact mVals_117 _ _ _ (by rw [mRec_st]; exact hk)
    rw [v1, v2, v3]
    rfl
  · dsimp only
    unfold mFailM
    rw [mFails_row _ h1, mVals_ne _ _ h7]
/-- one command -/
theorem DS.obey (h : DS M d (Mm 112)) {c s n : Int32} (hc : Mm 111 9 = c) (h119 : c = 119 → s = Mm 111 10 ∧ n = Mm 111 11) (h115 : c = 115 → n = Mm 111 10) (hl : c = 98 ∨ c = 102 ∨ c = 115 ∨ c = 119 ∨ c = 120) : (mWhyD Mm = 0 ∧ 0 ≤ (dObey M d c s n).1.toInt ∧ DS (dObey M d c s n).2 d (mDoes Mm 112)) ∨ (mWhyD Mm ≠ 0 ∧ (dObey M d c s n).1 < 0 ∧ (dObey M d c s n).2 = M) := by
  have e5 : M d 5 = Mm 112 0 := h.a.1.1
  have hs := h.sec
  rcases hl with q | q | q | q | q
  · subst q
    have eO : dObey M d 98 s n = dTurn M d := rfl
    have eW : mWhyD Mm = mWhyT Mm := by unfold mWhyD; rw [hc]; rfl
    have eD : mDoes Mm = mTurnsM Mm := by unfold mDoes; rw [hc]; rfl
    rw [eO, eW, eD]
    unfold dTurn mWhyT
    rw [h.rek, h.opn]
    cases hr : mRek Mm with
    | false => right; exact ⟨show (-3 : Int32) ≠ 0 from by decide, show (-3 : Int32) < 0 from by decide, rfl⟩
    | true =>
      cases ho : mOpen Mm with
      | true => right; exact ⟨show (-3 : Int32) ≠ 0 from by decide, show (-3 : Int32) < 0 from by decide, rfl⟩
      | false =>
        left
        have hD := h.turnM hr ho
        have hl := DS.off_left (Mm := mTurnsM Mm) hD
        have hn := DS.left_nn (Mm := mTurnsM Mm) hD
        refine ⟨rfl, ?_, hD⟩
        show 0 ≤ (sAhead (endThru (dk_put M d 8 (if M d 8 = 0 then 1 else 0)) d) d).toInt
        rw [hl]; exact hn
  · subst q
    have eO : dObey M d 102 s n = (nI (flN M d (ix (M d 5))), flM M d (ix (M d 5))) := rfl
    have eW : mWhyD Mm = 0 := by unfold mWhyD; rw [hc]; rfl
    have eD : mDoes Mm = mFluL Mm (ix (Mm 112 0)) := by unfold mDoes; rw [hc]; rfl
    rw [eO, eW, eD]
    left
    have hf := h.fl (ix (Mm 112 0)) (Nat.le_refl _)
    have hle := flN_le M d (ix (Mm 112 0))
    rw [e5]
    exact ⟨rfl, nI_nn (by omega), hf.2⟩
  · subst q
    have eO : dObey M d 115 s n = dAdv M d n := rfl
    have eW : mWhyD Mm = mWhyS Mm (Mm 111 10) := by unfold mWhyD; rw [hc]; rfl
    have eD : mDoes Mm = (mStepsL (ix (Mm 111 10)) Mm 0).2 := by unfold mDoes; rw [hc]; rfl
    rw [eO, eW, eD]
    have hn := h115 rfl
    unfold dAdv mWhyS
    rw [hn, h.rek]
    by_cases hw : mWithin (Mm 111 10) 1 999 = true
    · have hz := mW_iff.mp hw
      rw [e1I, e999I] at hz
      rw [if_pos hw, if_neg (show ¬ Mm 111 10 < 1 from by rw [tI_lt, e1I]; omega), if_neg (show ¬ 999 < Mm 111 10 from by rw [tI_lt, e999I]; omega)]
      cases hr : mRek Mm with
      | false => right; exact ⟨show (-3 : Int32) ≠ 0 from by decide, show (-3 : Int32) < 0 from by decide, rfl⟩
      | true =>
        left
        obtain ⟨s1, s2⟩ := DS.steps (ix (Mm 111 10)) 0 h
        have hl := advL_le d (ix (Mm 111 10)) M 0
        have := ix_toInt (x := Mm 111 10) (by omega)
        exact ⟨rfl, nI_nn (by omega), s2⟩
    · rw [if_neg hw]
      have hz := Wn hw
      rw [e1I, e999I] at hz
      right
      refine ⟨by decide, ?_⟩
      by_cases q : Mm 111 10 < 1
      · rw [if_pos q]; exact ⟨show (-2 : Int32) < 0 from by decide, rfl⟩
      · rw [if_neg q, if_pos (by rw [tI_lt, e1I] at q; rw [tI_lt, e999I]; omega)]; exact ⟨show (-2 : Int32) < 0 from by decide, rfl⟩
  · subst q
    obtain ⟨hs1, hn1⟩ := h119 rfl
    have eO : dObey M d 119 s n = dPut M d s n := rfl
    have eW : mWhyD Mm = mWhyW Mm (Mm 111 10) (Mm 111 11) := by unfold mWhyD; rw [hc]; rfl
    have eD : mDoes Mm = mWritesM Mm (Mm 111 10) (Mm 111 11) := by unfold mDoes; rw [hc]; rfl
    rw [eO, eW, eD]
    rw [hs1, hn1]
    rcases h.putW (Mm 111 10) (Mm 111 11) with ⟨w1, w2⟩ | ⟨w1, w2⟩
    · left
      rw [w2]
      exact ⟨w1, nI_nn (Nat.lt_of_le_of_lt (cnt_le _ _) (by decide)), (h.putM w1).2⟩
    · right
      rw [w2]
      exact ⟨fun z => by rw [z] at w1; exact absurd w1 (by decide), w1, rfl⟩
  · subst q
    have eO : dObey M d 120 s n = (nI (lpN M d (ix (M d 5))), dFail M d) := rfl
    have eW : mWhyD Mm = 0 := by unfold mWhyD; rw [hc]; rfl
    have eD : mDoes Mm = mFails Mm := by unfold mDoes; rw [hc]; rfl
    rw [eO, eW, eD]
    left
    refine ⟨rfl, nI_nn (Nat.lt_of_le_of_lt (cnt_le _ _) ?_), h.failM⟩
    rw [e5]; omega
/-- a disk that holds what another one holds -/
theorem DS.copy {f : Nat → Int32} {e : Nat} (h : DS M e f) (c0 : ∀ j, 5 ≤ j → j < 15 → M' d j = M e j) (c2 : ∀ b, b < 64 → M' (d + 2) b = M (e + 2) b) (c4 : ∀ b, b < 64 → M' (d + 4) b = M (e + 4) b) (c6 : ∀ b, b < 64 → M' (d + 6) b = M (e + 6) b) (c8 : ∀ b, b < 64 → M' (d + 8) b = M (e + 8) b) (c10 : ∀ b, b < 100 → M' (d + 10) b = M (e + 10) b) : DS M' d f := by
  have hs := h.sec
  refine ⟨h.a.cg (fun _ _ => rfl) c0, h.r.cg (fun _ _ => rfl) c0, ?_, ?_, ?_, ?_⟩
  · obtain ⟨l1, l2, l3, l4⟩ := h.l
    refine ⟨?_, l2, l3, fun s q => by rw [c8 s q]; exact l4 s q⟩
    rw [l1, cnt_congr (fun k hk => by rw [← c8 k hk])]
  · obtain ⟨h1, h2, h3, h4⟩ := h.k
    refine ⟨by rw [c10 0 (by decide)]; exact h1, fun k a b => by rw [c10 k b]; exact h2 k a b, ?_, h4⟩
    rw [cnt_congr (fun k hk => by rw [c10 k hk])]; exact h3
  · exact ⟨fun k hk => by rw [c2 k (by omega)]; exact h.s.1 k hk, fun k hk => by rw [c4 k (by omega)]; exact h.s.2 k hk⟩
  · refine ⟨fun k hk => by rw [c6 k hk]; exact h.c.1 k hk, ?_⟩
    rw [cnt_congr (fun k hk => by rw [c6 k hk])]; exact h.c.2
theorem rtake_in {M : dkM} {o o' n b : Nat} (h : b < n) : rtake M o o' n (o + 1) b = M (o' + 1) b := by unfold rtake; rw [if_pos ⟨rfl, h⟩]
theorem dCopy_row (M : dkM) (d e : Nat) {a : Nat} (h : a ≠ d) : dCopy M d e a = dTake M d e a := by
  unfold dCopy
  rw [dk_put_ne h, dk_put_ne h, dk_put_ne h, dk_put_ne h, dk_put_ne h, dk_put_ne h, dk_put_ne h, dk_put_ne h, dk_put_ne h, dk_put_ne h]
theorem DS.cop {f : Nat → Int32} {e : Nat} (h : DS M e f) (ha : apart d e) : DS (dCopy M d e) d f := by
  unfold apart at ha
  refine h.copy (fun j a b => dCopy_f a b) (fun b hb => ?_) (fun b hb => ?_) (fun b hb => ?_) (fun b hb => ?_) (fun b hb => ?_)
  · rw [dCopy_row _ _ _ (by omega), dTake, rtake_ne (by omega), rtake_ne (by omega), rtake_ne (by omega), rtake_ne (by omega)]
    exact rtake_in hb
  · rw [dCopy_row _ _ _ (by omega), dTake, rtake_ne (by omega), rtake_ne (by omega), rtake_ne (by omega), show d + 4 = d + 3 + 1 from rfl, rtake_in hb, rtake_ne (by omega)]
  · rw [dCopy_row _ _ _ (by omega), dTake, rtake_ne (by omega), rtake_ne (by omega), show d + 6 = d + 5 + 1 from rfl, rtake_in hb, rtake_ne (by omega), rtake_ne (by omega)]
  · rw [dCopy_row _ _ _ (by omega), dTake, rtake_ne (by omega), show d + 8 = d + 7 + 1 from rfl, rtake_in hb, rtake_ne (by omega), rtake_ne (by omega), rtake_ne (by omega)]
  · rw [dCopy_row _ _ _ (by omega), dTake, show d + 10 = d + 9 + 1 from rfl, rtake_in hb, rtake_ne (by omega), rtake_ne (by omega), rtake_ne (by omega), rtake_ne (by omega)]
end DS9
