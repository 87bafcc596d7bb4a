/-! the steps -/
theorem put_comm {M : dkM} {o o' k k' : Nat} {x y : Int32} (h : o ≠ o') : dk_put (dk_put M o k x) o' k' y = dk_put (dk_put M o' k' y) o k x := by
  funext a b
  unfold dk_put
  by_cases h1 : a = o
  · by_cases h2 : a = o'
    · exact absurd (h1.symm.trans h2) h
    · simp [h1, h]
  · simp [h1]
section DS7
variable {M M' R : dkM} {d : Nat} {Mm : dkM}
theorem DS.njc (h : DS M d (Mm 112)) : needsJ M d = true ↔ (Mm 112 8 = 1 ∧ Mm 112 6 = 0 ∧ Mm 112 5 = 0) := by
  rw [h.nj]
  have a4 := h.a.2.2.2.1
  constructor
  · intro z
    rcases a4.2 with q | q
    · rw [if_pos q] at z; cases z
    · rw [if_neg (by rw [q]; decide)] at z
      cases ho : mOpen Mm with
      | true => rw [ho] at z; cases z
      | false => have o := opn_f h ho; exact ⟨q, o.2.2, o.2.1⟩
  · intro z
    rw [if_neg (by rw [z.1]; decide)]
    have : mOpen Mm = false := by unfold mOpen; rw [z.2.1, z.2.2]; decide
    rw [this]; rfl
theorem DS.zi (h : DS M d (Mm 112)) (hr : mRek Mm = true) : mFrom Mm = nI (ix (mFrom Mm)) ∧ mTo Mm = nI (ix (mTo Mm)) ∧ ix (mFrom Mm) < ix (mTo Mm) ∧ ix (mTo Mm) ≤ ix (Mm 112 0) ∧ (ix (mFrom Mm) : Int) = fF (Mm 112) ∧ (ix (mTo Mm) : Int) = fT (Mm 112) := by
  have hb := h.zb hr
  have hF := h.fFi hr
  have hT := h.fTi hr
  have hs := h.sec
  have i1 := ix_toInt (x := mFrom Mm) (by omega)
  have i2 := ix_toInt (x := mTo Mm) (by omega)
  exact ⟨nI_ix (by omega), nI_ix (by omega), by omega, by omega, by omega, by omega⟩
theorem nI_sub {a b : Nat} (h : a ≤ b) (hb : b < 2 ^ 31) : nI b - nI a = nI (b - a) := by
  refine Int32.toInt_inj.mp ?_
  rw [tI_sub (by rw [nI_toInt hb, nI_toInt (by omega)]; omega) (by rw [nI_toInt hb, nI_toInt (by omega)]; omega), nI_toInt hb, nI_toInt (by omega), nI_toInt (by omega)]
  omega
theorem DS.stepJ (h : DS M d (Mm 112)) (hr : mRek Mm = true) (hn : Mm 112 8 = 1 ∧ Mm 112 6 = 0 ∧ Mm 112 5 = 0) : DS (jrM M d (ix (zFirst M d)) (ix (zEnd M d) - ix (zFirst M d))) d (dk_put (mJr Mm) 112 6 (mTo Mm - mFrom Mm) 112) := by
  rw [h.zF hr, h.zE hr]
  obtain ⟨z1, z2, z3, z4, z5, z6⟩ := h.zi hr
  have hs := h.sec
  have hk : ix (mFrom Mm) + (ix (mTo Mm) - ix (mFrom Mm)) ≤ 64 := by omega
  have hx := mjL_st Mm (ix (mFrom Mm)) hk
  have e : ∀ j, j ≠ 6 → ¬ (175 ≤ j ∧ j < 239) → dk_put (mJr Mm) 112 6 (mTo Mm - mFrom Mm) 112 j = Mm 112 j := fun j h6 hj => by
    rw [put_k h6]; unfold mJr; rw [hx, if_neg (by omega)]
  have eM : ∀ a, a ≠ d + 8 → jrM M d (ix (mFrom Mm)) (ix (mTo Mm) - ix (mFrom Mm)) a = M a := fun a ha => jrM_ne _ _ _ _ ha
  have hlo := jrM_lo M d (ix (mFrom Mm)) hk
  obtain ⟨l1, l2, l3, l4⟩ := h.l
  have l0 : ∀ b, b < 64 → M (d + 8) b = -1 := fun b hb => by
    have c0 : cnt (fun b => M (d + 8) b != -1) 64 = 0 := by
      rw [hn.2.1] at l1
      have := congrArg Int32.toInt l1
      have hle := cnt_le (fun b => M (d + 8) b != -1) 64
      rw [nI_toInt (by omega), e0I] at this
      omega
    have := cnt_0 c0 b hb
    simpa using this
  refine ⟨?_, ?_, ?_, ?_, ?_, ?_⟩
  · rw [eM d (by omega)]; exact h.a.cg (fun j hj => e j (by omega) (by omega)) (fun _ _ _ => rfl)
  · rw [eM d (by omega)]
    unfold DSr fT fF
    rw [e 0 (by omega) (by omega), e 1 (by omega) (by omega), e 2 (by omega) (by omega), e 3 (by omega) (by omega), e 4 (by omega) (by omega), e 5 (by omega) (by omega), e 7 (by omega) (by omega)]
    exact Or.inr (h.on hr)
  · refine ⟨?_, ?_, ?_, fun s hs2 => ?_⟩
    · rw [put_same, z1, z2, ix_nI (by omega), ix_nI (by omega), nI_sub (by omega) (by omega)]
      congr 1
      symm
      rw [cnt_congr (q := fun b => decide (ix (mFrom Mm) ≤ b ∧ b < ix (mFrom Mm) + (ix (mTo Mm) - ix (mFrom Mm)))) ?_]
      · exact cnt_iv (fun b => by simp) hk
      · intro b hb
        rw [hlo]
        by_cases q : ix (mFrom Mm) ≤ b ∧ b < ix (mFrom Mm) + (ix (mTo Mm) - ix (mFrom Mm))
        · rw [if_pos q, decide_eq_true q]
          have := h.s.1 b (by omega)
          exact bne_iff_ne.mpr (fun z => by rw [z] at this; exact absurd this.2.1 (by decide))
        · rw [if_neg q, decide_eq_false q, l0 b hb]; rfl
    · rw [e 8 (by omega) (by omega)]; intro _; exact hn.1
    · rw [e 5 (by omega) (by omega), hn.2.2]; intro _ z; exact absurd z (by decide)
    · have e175 : dk_put (mJr Mm) 112 6 (mTo Mm - mFrom Mm) 112 (175 + s) = if 175 + ix (mFrom Mm) ≤ 175 + s ∧ 175 + s < 175 + ix (mFrom Mm) + (ix (mTo Mm) - ix (mFrom Mm)) then Mm 112 (175 + s - 64) else Mm 112 (175 + s) := by
        rw [put_k (by omega)]; unfold mJr; exact hx _
      rw [hlo, e175, e 0 (by omega) (by omega)]
      by_cases q : ix (mFrom Mm) ≤ s ∧ s < ix (mFrom Mm) + (ix (mTo Mm) - ix (mFrom Mm))
      · rw [if_pos q, if_pos (by omega), show 175 + s - 64 = 111 + s by omega]
        have := h.s.1 s (by omega)
        exact ⟨Or.inr this.1 |>.elim (fun z => Or.inr ⟨z, this.2⟩) (fun z => Or.inr ⟨z, this.2⟩), fun _ => by omega⟩
      · rw [if_neg q, if_neg (by omega)]
        exact l4 s hs2
  · rw [eM (d + 10) (by omega)]; exact h.k.cg h.own99 h.tgt99 (fun j hj => e j (by omega) (by omega))
  · rw [eM (d + 2) (by omega), eM (d + 4) (by omega)]; exact h.s.cg hs.1 (fun j hj => e j (by omega) (by omega))
  · rw [eM (d + 6) (by omega)]; exact h.c.cg (fun j hj => e j (by omega) (by omega))
theorem DS.rw1 (h : DS M d (Mm 112)) (hr : mRek Mm = true) (hn : ¬ (Mm 112 8 = 1 ∧ Mm 112 6 = 0 ∧ Mm 112 5 = 0)) (hlt : (Mm 112 5).toInt < fT (Mm 112) - fF (Mm 112)) : DS (dk_put M d 10 (Mm 112 5 + 1)) d (dk_put Mm 112 5 (Mm 112 5 + 1) 112) := by
  have e : ∀ j, j ≠ 5 → dk_put Mm 112 5 (Mm 112 5 + 1) 112 j = Mm 112 j := fun j hj => put_k hj
  have e5 : dk_put Mm 112 5 (Mm 112 5 + 1) 112 5 = Mm 112 5 + 1 := put_same
  have eF : ∀ j, j ≠ 10 → dk_put M d 10 (Mm 112 5 + 1) d j = M d j := fun j hj => put_k hj
  have a := h.a
  have h5 := a.2.2.2.2.2.1.2
  have hb := h.zb hr
  have t5 : (Mm 112 5 + 1).toInt = (Mm 112 5).toInt + 1 := by rw [tI_add (by rw [e1I]; omega) (by rw [e1I]; have := a.1; omega), e1I]
  obtain ⟨r1, r2, r3, r4, r5, r6, r7⟩ := h.on hr
  refine h.lowc (fun a ha => dk_put_ne ha) ?_ ?_ ?_ (fun j hj => e j (by omega)) (Or.inl (e 2 (by decide)))
  · unfold DSa
    rw [e 0 (by decide), e 1 (by decide), e 7 (by decide), e5, e 8 (by decide), e 9 (by decide), e 10 (by decide), eF 5 (by decide), eF 6 (by decide), eF 8 (by decide), eF 9 (by decide), eF 11 (by decide), eF 12 (by decide), eF 13 (by decide), eF 14 (by decide), put_same]
    exact ⟨a.1, a.2.1, a.2.2.1, a.2.2.2.1, a.2.2.2.2.1, ⟨rfl, by omega⟩, a.2.2.2.2.2.2⟩
  · refine Or.inr ?_
    have eT : fT (dk_put Mm 112 5 (Mm 112 5 + 1) 112) = fT (Mm 112) := by unfold fT; rw [e 0 (by decide), e 3 (by decide), e 4 (by decide), e 7 (by decide)]
    have eFF : fF (dk_put Mm 112 5 (Mm 112 5 + 1) 112) = fF (Mm 112) := by unfold fF; rw [e 3 (by decide), e 4 (by decide), e 7 (by decide)]
    rw [eT, eFF, e 0 (by decide), e 1 (by decide), e 2 (by decide), e 3 (by decide), e 4 (by decide), e5, eF 7 (by decide), eF 8 (by decide), eF 9 (by decide)]
    exact ⟨r1, r2, r3, r4, r5, r6, by omega⟩
  · obtain ⟨l1, l2, l3, l4⟩ := h.l
    refine ⟨by rw [e 6 (by decide)]; exact l1, by rw [e 6 (by decide), e 8 (by decide)]; exact l2, ?_, fun s hs => by rw [e (175 + s) (by omega), e 0 (by decide)]; exact l4 s hs⟩
    rw [e 6 (by decide), e 8 (by decide)]
    intro q _
    have h6 := h.f6
    rcases Int.lt_or_le 0 (Mm 112 6).toInt with w | w
    · exact w
    · have z6 : Mm 112 6 = 0 := Int32.toInt_inj.mp (by rw [e0I]; omega)
      rcases Int.lt_or_le 0 (Mm 112 5).toInt with v | v
      · exact l3 q v
      · exact absurd ⟨q, z6, Int32.toInt_inj.mp (by rw [e0I]; omega)⟩ hn
theorem keyAt_cg10 (M : dkM) (d : Nat) (x s : Int32) : zFirst (dk_put M d 10 x) d = zFirst M d ∧ kbp (dk_put M d 10 x) d s = kbp M d s ∧ ∀ k, othK (dk_put M d 10 x) d k = othK M d k := by
  have eF : ∀ j, j ≠ 10 → dk_put M d 10 x d j = M d j := fun j hj => put_k hj
  refine ⟨?_, ?_, fun k => ?_⟩
  · unfold zFirst; rw [eF 8 (by decide), eF 9 (by decide), eF 11 (by decide)]
  · unfold kbp isRek; rw [eF 7 (by decide), eF 9 (by decide), eF 6 (by decide)]
  · unfold othK; rw [eF 7 (by decide), eF 6 (by decide)]
theorem DS.stepR (h : DS M d (Mm 112)) (hr : mRek Mm = true) (hn : ¬ (Mm 112 8 = 1 ∧ Mm 112 6 = 0 ∧ Mm 112 5 = 0)) (hlt : (Mm 112 5).toInt < fT (Mm 112) - fF (Mm 112)) : DS (rwNext M d (zFirst M d + M d 10)) d (mRwS Mm (ix (mFrom Mm + Mm 112 5)) 112) := by
  have h2 := h.rw1 hr hn hlt
  obtain ⟨z1, z2, z3, z4, z5, z6⟩ := h.zi hr
  have hs := h.sec
  have hb := h.zb hr
  have hF := h.fFi hr
  have h5 := h.a.2.2.2.2.2.1
  have a1 := h.a.1
  have ts : (mFrom Mm + Mm 112 5).toInt = fF (Mm 112) + (Mm 112 5).toInt := by rw [tI_add (by omega) (by omega), hF]
  have t5 : (Mm 112 5 + 1).toInt = (Mm 112 5).toInt + 1 := by rw [tI_add (by rw [e1I]; omega) (by rw [e1I]; omega), e1I]
  have ik := ix_toInt (x := mFrom Mm + Mm 112 5) (by omega)
  have sn : mFrom Mm + Mm 112 5 = nI (ix (mFrom Mm + Mm 112 5)) := nI_ix (by omega)
  rw [h.zF hr, h5.1]
  unfold rwNext rwS mRwS
  generalize hs' : mFrom Mm + Mm 112 5 = s at *
  have q1 : ¬ s < mFrom Mm := by rw [tI_lt]; omega
  have q2 : ¬ s < s := by rw [tI_lt]; omega
  have eK : kbp M d s = keyAt M d s := by
    unfold keyAt
    rw [h.zF hr, h5.1, hs', if_neg q1, if_neg q2]
  have c := keyAt_cg10 M d (Mm 112 5 + 1) s
  have eK2 : othK M d (kbp M d s) = keyAt (dk_put M d 10 (Mm 112 5 + 1)) d s := by
    unfold keyAt
    rw [c.1, c.2.1, h.zF hr, put_same, if_neg q1, if_pos ?_, c.2.2]
    rw [tI_lt, tI_add (by omega) (by omega)]
    omega
  have eX : ∀ x, exch M d x s (kbp M d s) = mScr x s (mSecret Mm s) := fun x => by rw [eK]; exact h.ex x s
  have eX2 : ∀ x, exch M d x s (othK M d (kbp M d s)) = mScr x s (mSecret (dk_put Mm 112 5 (Mm 112 5 + 1)) s) := fun x => by
    rw [eK2, ← h2.ex x s]
    exact (exch_cg (dk_put_ne (by omega)) x s _).symm
  have hk : ix s < ix (Mm 112 0) := by omega
  have e1 : rget M (d + 1) 64 s = Mm 112 (111 + ix s) := by
    have := rgetk (M := M) (o := d + 1) (k := ix s) (by omega)
    rw [← sn] at this
    rw [this]
    exact (h.s.1 _ hk).1
  unfold mPlain
  rw [eX, eX2, rset_in (by omega) (by omega) (by decide), dk_put_ne (o' := d) (o := d + 1 + 1) (by omega), h5.1, e1, ← sn, put_comm (by omega)]
  refine h2.scs ?_ (by rw [put_k (by decide)]; exact hk) (fun j hj => put_k hj) put_same
  exact scr_b (scr_b (by have := h.s.1 _ hk; rw [← this.1]; exact this.2))
theorem DS.stepE (h : DS M d (Mm 112)) (hr : mRek Mm = true) : DS (endThru (dClose (dk_put M d 9 (if M d 8 = 0 then zFirst M d else zEnd M d)) d) d) d (mEnd (mClose (dk_put Mm 112 3 (if Mm 112 4 = 1 then mTo Mm else mFrom Mm))) 112) := by
  rw [h.zF hr, h.zE hr]
  obtain ⟨r1, r2, r3, r4, r5, r6, r7⟩ := h.on hr
  have hb := h.zb hr
  have hF := h.fFi hr
  have hT := h.fTi hr
  have ep : (if M d 8 = 0 then mFrom Mm else mTo Mm) = (if Mm 112 4 = 1 then mTo Mm else mFrom Mm) := by
    rw [r5]
    rcases r6 with q | q
    · rw [q.1, if_neg (by decide), if_pos rfl]
    · rw [q.1, if_pos rfl, if_neg (by decide)]
  rw [ep]
  have hp : 0 ≤ (if Mm 112 4 = 1 then mTo Mm else mFrom Mm).toInt ∧ (if Mm 112 4 = 1 then mTo Mm else mFrom Mm).toInt ≤ (Mm 112 0).toInt := by split <;> omega
  generalize (if Mm 112 4 = 1 then mTo Mm else mFrom Mm) = p at *
  have hc := mClose_st (dk_put Mm 112 3 p)
  have e4 : mClose (dk_put Mm 112 3 p) 112 4 = Mm 112 4 := by rw [hc, if_neg (by decide), if_neg (by decide), put_k (by decide)]
  have e3 : mClose (dk_put Mm 112 3 p) 112 3 = p := by rw [hc, if_neg (by decide), if_neg (by decide), put_same]
  refine h.ends hr (fun b h1 h2 => ?_) (fun b hb => ?_) (fun j h8 h9 h10 => ?_) ?_ ?_ ?_ ?_ ?_ ?_ ?_ (fun j h1 h2 => ?_) (fun j hj => ?_)
  · unfold dClose; rw [dk_put_ne h1, rclear_ne (by omega), dk_put_ne h1]
  · unfold dClose; rw [dk_put_ne (by omega)]; exact rclear_in hb
  · rw [dClose_d _ _ _ h10, put_k h9]
  · rw [dClose_d _ _ _ (by decide), put_k (by decide), e4]; exact r5
  · rw [dClose_d _ _ _ (by decide), put_same, e3]
  · unfold dClose; exact put_same
  · rw [e4]; rcases r6 with q | q
    · exact Or.inr q.1
    · exact Or.inl q.1
  · rw [e3]; exact hp
  · rw [hc, if_neg (by decide), if_pos (by decide)]
  · rw [hc, if_neg (by decide), if_pos (by decide)]
  · rw [hc, if_pos ⟨h1, h2⟩]
  · rw [hc, if_neg (by omega), if_neg (by omega), put_k (by omega)]
theorem DS.step (h : DS M d (Mm 112)) (hr : mRek Mm = true) : DS (dStep M d) d (mStep Mm 112) := by
  unfold dStep mStep
  by_cases hn : Mm 112 8 = 1 ∧ Mm 112 6 = 0 ∧ Mm 112 5 = 0
  · rw [if_pos (h.njc.mpr hn), if_pos hn]
    exact h.stepJ hr hn
  · rw [if_neg (fun z => hn (h.njc.mp z)), if_neg hn]
    have hb := h.zb hr
    have hF := h.fFi hr
    have hT := h.fTi hr
    have a1 := h.a.1
    have h5 := h.a.2.2.2.2.2.1
    have h7 := (h.on hr).2.2.2.2.2.2
    have t1 : (mFrom Mm + Mm 112 5).toInt = fF (Mm 112) + (Mm 112 5).toInt := by rw [tI_add (by omega) (by omega), hF]
    have t2 : (mTo Mm - mFrom Mm).toInt = fT (Mm 112) - fF (Mm 112) := by rw [tI_sub (by omega) (by omega), hF, hT]
    by_cases q : (Mm 112 5).toInt < fT (Mm 112) - fF (Mm 112)
    · rw [if_pos (show zFirst M d + M d 10 < zEnd M d from by rw [h.zF hr, h.zE hr, h5.1, tI_lt]; omega), if_pos (show Mm 112 5 < mTo Mm - mFrom Mm from by rw [tI_lt]; omega)]
      exact h.stepR hr hn q
    · rw [if_neg (show ¬ (zFirst M d + M d 10 < zEnd M d) from by rw [h.zF hr, h.zE hr, h5.1, tI_lt]; omega), if_neg (show ¬ (Mm 112 5 < mTo Mm - mFrom Mm) from by rw [tI_lt]; omega)]
      exact h.stepE hr
theorem endThru_ne (M : dkM) (d : Nat) {a : Nat} (h : a ≠ d) : endThru M d a = M a := by
  unfold endThru
  split
  · split
    · exact dk_put_ne h
    · rfl
  · split
    · rw [dk_put_ne h, dk_put_ne h, dk_put_ne h]
    · rfl
theorem dStep_ne (M : dkM) (d : Nat) {a : Nat} (h : ¬ (d ≤ a ∧ a < d + 11)) : dStep M d a = M a := by
  unfold dStep
  split
  · exact jrM_ne _ _ _ _ (by omega)
  · split
    · unfold rwNext rwS; rw [dk_put_ne (by omega), rset_ne (by omega)]
    · rw [endThru_ne _ _ (by omega)]; unfold dClose; rw [dk_put_ne (by omega), rclear_ne (by omega), dk_put_ne (by omega)]
theorem advL_ne (d : Nat) {a : Nat} (h : ¬ (d ≤ a ∧ a < d + 11)) : ∀ (n : Nat) (M : dkM) (k : Nat), (advL d n M k).2 a = M a := by
  intro n
  induction n with
  | zero => intro M k; rfl
  | succ n ih =>
    intro M k
    unfold advL
    split
    · rw [ih, dStep_ne _ _ h]
    · rfl
theorem DS.steps : ∀ (n : Nat) {M Mm : dkM} (k : Nat), DS M d (Mm 112) → (advL d n M k).1 = (mStepsL n Mm k).1 ∧ DS (advL d n M k).2 d ((mStepsL n Mm k).2 112) := by
  intro n
  induction n with
  | zero => intro M Mm k h; exact ⟨rfl, h⟩
  | succ n ih =>
    intro M Mm k h
    unfold advL mStepsL
    rw [h.rek]
    cases hr : mRek Mm with
    | true => exact ih (Mm := mStep Mm) _ (h.step hr)
    | false => exact ⟨rfl, h⟩
theorem advL_le (d : Nat) : ∀ (n : Nat) (M : dkM) (k : Nat), (advL d n M k).1 ≤ k + n := by
  intro n
  induction n with
  | zero => intro M k; exact Nat.le_refl k
  | succ n ih =>
    intro M k
    unfold advL
    split
    · have := ih (dStep M d) (k + 1); omega
    · exact Nat.le_add_right _ _
theorem e999I : (999 : Int32).toInt = 999 := by decide
/-- refused by both with the same number, or done by both -/
theorem DS.adv (h : DS M d (Mm 112)) (n : Int32) : OK1 d M Mm (dAdv M d n) (mSteps Mm n) := by
  unfold dAdv mSteps mWhyS
  rw [h.rek]
  by_cases hw : mWithin n 1 999 = true
  · have hz := mW_iff.mp hw
    rw [e1I, e999I] at hz
    rw [if_pos hw, if_neg (by rw [tI_lt, e1I]; omega), if_neg (by rw [tI_lt, e999I]; omega)]
    cases hr : mRek Mm with
    | false => exact OK1.no (e := -3) (by decide) rfl rfl
    | true =>
      simp only [if_true]
      rw [if_neg (by decide)]
      have h2 : DS M d (mRec Mm 112) := by rw [mRec_st]; exact h
      obtain ⟨s1, s2⟩ := DS.steps (ix n) 0 h2
      have hl := advL_le d (ix n) M 0
      have := ix_toInt (x := n) (by omega)
      refine Or.inr ⟨nI_nn (by omega), congrArg nI s1, fun a ha => advL_ne d ha _ _ _, fun a ha => mStepsL_row _ _ _ ha, s2⟩
  · rw [if_neg hw]
    have hz := Wn hw
    rw [e1I, e999I] at hz
    have e2 : (-2 : Int32) < 0 := by decide
    rw [if_pos e2]
    by_cases q : n < 1
    · rw [if_pos q]; exact OK1.no (e := -2) (by decide) rfl rfl
    · rw [if_neg q, if_pos (by rw [tI_lt, e1I] at q; rw [tI_lt, e999I]; omega)]; exact OK1.no (e := -2) (by decide) rfl rfl
theorem DS.lo0 (h : DS M d (Mm 112)) (h6 : Mm 112 6 = 0) : ∀ b, b < 64 → M (d + 8) b = -1 := fun b hb => by
  have l1 := h.l.1
  have c0 : cnt (fun b => M (d + 8) b != -1) 64 = 0 := by
    rw [h6] at l1
    have := congrArg Int32.toInt l1
    have hle := cnt_le (fun b => M (d + 8) b != -1) 64
    rw [nI_toInt (by omega), e0I] at this
    omega
  have := cnt_0 c0 b hb
  simpa using this
theorem DS.turnM (h : DS M d (Mm 112)) (hr : mRek Mm = true) (ho : mOpen Mm = false) : DS (endThru (dk_put M d 8 (if M d 8 = 0 then 1 else 0)) d) d (mTurnsM Mm 112) := by
  obtain ⟨r1, r2, r3, r4, r5, r6, r7⟩ := h.on hr
  obtain ⟨o1, o2, o3⟩ := opn_f h ho
  have h5 := h.a.2.2.2.2.2.1
  have e : ∀ j, j ≠ 4 → dk_put Mm 112 4 (1 - Mm 112 4) 112 j = Mm 112 j := fun j hj => put_k hj
  have hl := h.lo0 o3
  refine h.ends hr (fun b h1 h2 => dk_put_ne h1) (fun b hb => by rw [dk_put_ne (by omega)]; exact hl b hb) (fun j h8 h9 h10 => put_k h8) ?_ ?_ ?_ ?_ ?_ ?_ ?_ (fun j h1 h2 => ?_) (fun j hj => e j (by omega))
  · rw [put_same, put_same, r5]
    rcases r6 with q | q <;> rw [q.1] <;> decide
  · rw [put_k (by decide), e 3 (by decide)]; exact r4
  · rw [put_k (by decide), h5.1]; exact o2
  · rw [put_same]; rcases r6 with q | q <;> rw [q.1] <;> decide
  · rw [e 3 (by decide)]; rcases r6 with q | q <;> omega
  · rw [e 5 (by decide)]; exact o2
  · rw [e 6 (by decide)]; exact o3
  · rw [e j (by omega)]
    have := (h.l.2.2.2 (j - 175) (by omega)).1
    rw [show 175 + (j - 175) = j by omega] at this
    exact this.none_iff.mp (hl _ (by omega))
theorem DS.turn (h : DS M d (Mm 112)) : OK1 d M Mm (dTurn M d) (mTurn Mm) := by
  unfold dTurn mTurn mWhyT
  rw [h.rek, h.opn]
  cases hr : mRek Mm with
  | false => exact OK1.no (e := -3) (by decide) rfl rfl
  | true =>
    cases ho : mOpen Mm with
    | true => exact OK1.no (e := -3) (by decide) rfl rfl
    | false =>
      simp only [Bool.false_eq_true, if_false, if_true]
      rw [if_neg (show ¬ ((0 : Int32) < 0) from by decide)]
      have h2 : DS M d (mRec Mm 112) := by rw [mRec_st]; exact h
      have hr2 : mRek (mRec Mm) = true := by rw [← hr]; exact mRek_congr (by rw [mRec_st])
      have ho2 : mOpen (mRec Mm) = false := by rw [← ho]; unfold mOpen; rw [mRec_st]
      have hD := DS.turnM (Mm := mRec Mm) h2 hr2 ho2
      have hl := DS.off_left (Mm := mTurnsM (mRec Mm)) hD
      have hn := DS.left_nn (Mm := mTurnsM (mRec Mm)) hD
      refine Or.inr ⟨?_, hl, fun a ha => ?_, fun a ha => ?_, hD⟩
      · dsimp only; rw [hl]; exact hn
      · dsimp only; rw [endThru_ne _ _ (by omega), dk_put_ne (by omega)]
      · dsimp only; rw [mTurnsM, mEnd_row _ ha, dk_put_ne ha]
end DS7
