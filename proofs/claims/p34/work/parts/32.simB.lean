/-! the queries, the text, undo, the digest -/
section SB
variable {Mx Mm : dkM}
theorem DS.secT {M : dkM} {d : Nat} (h : DS M d (Mm 112)) {s : Int32} (hm : mSec Mm s = true) {o : Nat} : rget M o 64 s = M (o + 1) (ix s) := by
  obtain ⟨k1, k2⟩ := h.sec_k hm
  have hs := h.sec
  have := rgetk (M := M) (o := o) (k := ix s) (by omega)
  rw [← k1] at this
  exact this
theorem xCount_k (h : DS Mx 1 (Mm 112)) {w : Nat} (hw : w < 13) : xCount Mx (nI w) = mCountOf Mm (nI w) := by
  unfold xCount
  rw [if_neg (show ¬ nI w < 0 from nI_pos (by omega)), if_neg (show ¬ 13 ≤ nI w from by rw [tI_le, nI_toInt (by omega), show (13 : Int32).toInt = 13 from by decide]; omega)]
  exact h.num hw
theorem sim_count (h : Sim Mx Mm) (w : Int32) : xCount Mx w = mCount Mm w ∧ Sim Mx Mm := by
  refine ⟨?_, h⟩
  have e12 : (12 : Int32).toInt = 12 := by decide
  have e13 : (13 : Int32).toInt = 13 := by decide
  unfold mCount
  by_cases hw : mWithin w 0 12 = true
  · have hz := mW_iff.mp hw
    rw [e0I, e12] at hz
    have hi := ix_toInt (x := w) (by omega)
    have hn : w = nI (ix w) := nI_ix (by omega)
    rw [if_pos hw, hn]
    exact xCount_k h.ds (by omega)
  · rw [if_neg hw]
    have hz := Wn hw
    rw [e0I, e12] at hz
    unfold xCount
    by_cases q : w < 0
    · rw [if_pos q]
    · rw [if_neg q, if_pos (by rw [tI_lt, e0I] at q; rw [tI_le, e13]; omega)]
theorem q_val (h : Sim Mx Mm) {s : Int32} (hm : mSec Mm s = true) : valIn Mx 1 s = mVal Mm (ix s) ∧ saFl Mx 1 s = mForm Mm (ix s) := by
  obtain ⟨k1, k2⟩ := h.ds.sec_k hm
  have a := h.ds.val k2
  have b := h.ds.form k2
  rw [← k1] at a b
  exact ⟨a, b⟩
theorem orq {x y : Int32} (h : oq x y) : orN x = y := h.orn
theorem sim_read (h : Sim Mx Mm) (s : Int32) : xRead Mx s = mRead Mm s ∧ Sim Mx Mm := by
  refine ⟨?_, h⟩
  unfold xRead mRead
  rw [h.ds.hs]
  cases hm : mSec Mm s with
  | false => rfl
  | true => exact (q_val h hm).1
theorem sim_stored (h : Sim Mx Mm) (s : Int32) : xStored Mx s = mStored Mm s ∧ Sim Mx Mm := by
  refine ⟨?_, h⟩
  unfold xStored mStored
  rw [h.ds.hs]
  cases hm : mSec Mm s with
  | false => rfl
  | true =>
    simp only [if_true]
    rw [h.ds.secT hm]
    exact (h.ds.s.1 _ (h.ds.sec_k hm).2).1
theorem sim_keyOf (h : Sim Mx Mm) (s : Int32) : xKeyOf Mx s = mKeyOf Mm s ∧ Sim Mx Mm := by
  refine ⟨?_, h⟩
  unfold xKeyOf mKeyOf
  rw [h.ds.hs, h.ds.ka]
theorem sim_journal (h : Sim Mx Mm) (s : Int32) : xJournal Mx s = mJournal Mm s ∧ Sim Mx Mm := by
  refine ⟨?_, h⟩
  unfold xJournal mJournal
  rw [h.ds.hs]
  cases hm : mSec Mm s with
  | false => rfl
  | true =>
    simp only [if_true]
    rw [h.ds.secT hm]
    have h2 := h.ds.sec
    have h3 := (h.ds.sec_k hm).2
    exact (h.ds.l.2.2.2 _ (by omega)).1.orn
theorem sim_cached (h : Sim Mx Mm) (s : Int32) : xCached Mx s = mCachedS Mm s ∧ Sim Mx Mm := by
  refine ⟨?_, h⟩
  unfold xCached mCachedS
  rw [h.ds.hs]
  cases hm : mSec Mm s with
  | false => rfl
  | true =>
    simp only [if_true]
    rw [h.ds.secT hm]
    have h2 := h.ds.sec
    have h3 := (h.ds.sec_k hm).2
    exact (h.ds.c.1 _ (by omega)).1.orn
theorem sim_zoneStart (h : Sim Mx Mm) : xZone Mx = mZone Mm ∧ Sim Mx Mm := by
  refine ⟨?_, h⟩
  unfold xZone mZone
  rw [h.ds.rek]
  cases hr : mRek Mm with
  | false => rfl
  | true => exact h.ds.zF hr
theorem sim_damaged (h : Sim Mx Mm) : xDam Mx = nI (mDam Mm) ∧ Sim Mx Mm := ⟨congrArg nI h.ds.damc, h⟩
theorem xFirst_eq (h : DS Mx 1 (Mm 112)) : xFirst Mx = mFirst Mm := by
  unfold xFirst mFirst
  rw [h.a.1.1]
  exact h.fst _ 0 (by omega)
theorem sim_firstDamaged (h : Sim Mx Mm) : xFirst Mx = mFirst Mm ∧ Sim Mx Mm := ⟨xFirst_eq h.ds, h⟩
theorem sim_stepsLeft (h : Sim Mx Mm) : xLeft Mx = mStLeft Mm ∧ Sim Mx Mm := by
  refine ⟨?_, h⟩
  unfold xLeft mStLeft
  rw [h.ds.rek, h.ds.off_left]
theorem sim_ifFlushed (h : Sim Mx Mm) (s : Int32) : xIfFl Mx s = mIfFl Mm s ∧ Sim Mx Mm := by
  refine ⟨?_, h⟩
  unfold xIfFl mIfFl
  rw [h.ds.hs]
  cases hm : mSec Mm s with
  | false => simp only [Bool.false_eq_true, if_false]
  | true => simp only [if_true]; exact (q_val h hm).2
theorem xSecret_eq (h : DS Mx 1 (Mm 112)) {k : Int32} (hq : mIsKey Mm k = true) : rget Mx (1 + 9) 100 k = Mm 112 (11 + ix k) := by
  have hw := mIsKey_w hq
  have z1 := mW_iff.mp hw
  rw [e1I, e99I] at z1
  refine h.sec1 z1 ?_
  unfold mIsKey at hq
  rw [if_pos hw] at hq
  intro z
  rw [if_pos z] at hq
  cases hq
theorem sim_secretOf (h : Sim Mx Mm) (k : Int32) : xSecret Mx k = mSecretOf Mm k ∧ Sim Mx Mm := by
  refine ⟨?_, h⟩
  unfold xSecret mSecretOf
  rw [h.ds.hk]
  cases hq : mIsKey Mm k with
  | false => rfl
  | true => exact xSecret_eq h.ds hq
theorem dgC_eq (h : DS Mx 1 (Mm 112)) : ∀ k, k ≤ 13 → dgC Mx k = mgC Mm k := by
  intro k
  induction k with
  | zero => intro _; rfl
  | succ k ih =>
    intro hk
    rw [dgC, mgC, ih (by omega), xCount_k h (by omega)]
theorem mIsKey_k {k : Nat} (h1 : 1 ≤ k) (h2 : k ≤ 99) : mIsKey Mm (nI k) = if Mm 112 (11 + k) = -6 then false else true := by
  unfold mIsKey
  rw [if_pos (mW_iff.mpr (by rw [nI_toInt (by omega), e1I, e99I]; omega)), ix_nI (by omega)]
theorem dgK_eq (h : DS Mx 1 (Mm 112)) (v : Int64) : ∀ k, k ≤ 99 → dgK Mx v k = mgK Mm v k := by
  intro k
  induction k with
  | zero => intro _; rfl
  | succ k ih =>
    intro hk
    have e := mIsKey_k (Mm := Mm) (k := k + 1) (by omega) hk
    rw [dgK, mgK, ih (by omega), h.hk]
    by_cases q : Mm 112 (11 + (k + 1)) = -6
    · rw [if_pos q, e, if_pos q]; rfl
    · rw [if_neg q] at e ⊢
      rw [if_pos e]
      unfold xSecret
      rw [h.hk, if_pos e, xSecret_eq h e, ix_nI (by omega)]
theorem mSec_nI (h : DS Mx 1 (Mm 112)) {k : Nat} (hk : k < ix (Mm 112 0)) : mSec Mm (nI k) = true := by
  have hs := h.sec
  have := h.hs (nI k)
  rw [hasSec_nI (by omega), h.a.1.1, decide_eq_true hk] at this
  exact this.symm
theorem dgS_eq (h : DS Mx 1 (Mm 112)) (v : Int64) : ∀ k, k ≤ ix (Mm 112 0) → dgS Mx v k = mgS Mm v k := by
  intro k
  induction k with
  | zero => intro _; rfl
  | succ k ih =>
    intro hk
    have hs := h.sec
    have hm := mSec_nI h (k := k) (by omega)
    have e1 : xRead Mx (nI k) = mVal Mm k := by unfold xRead; rw [h.hs, if_pos hm]; exact h.val (by omega)
    have e2 : xStored Mx (nI k) = Mm 112 (111 + k) := by unfold xStored; rw [h.hs, if_pos hm, rgetk (by omega)]; exact (h.s.1 k (by omega)).1
    have e3 : xKeyOf Mx (nI k) = mKeyAt Mm (nI k) := by unfold xKeyOf; rw [h.hs, if_pos hm]; exact h.ka _
    have e4 : xJournal Mx (nI k) = Mm 112 (175 + k) := by unfold xJournal; rw [h.hs, if_pos hm, rgetk (by omega)]; exact (h.l.2.2.2 k (by omega)).1.orn
    have e5 : xCached Mx (nI k) = Mm 112 (239 + k) := by unfold xCached; rw [h.hs, if_pos hm, rgetk (by omega)]; exact (h.c.1 k (by omega)).1.orn
    rw [dgS, mgS, ih (by omega), e1, e2, e3, e4, e5]
theorem xDg1_eq (h : DS Mx 1 (Mm 112)) : xDg1 Mx = mDg1 Mm := by
  have hs := h.sec
  have en : dgN Mx = ix (Mm 112 0) := by unfold dgN; rw [h.a.1.1]; omega
  have ed : xDam Mx = nI (mDam Mm) := congrArg nI h.damc
  unfold xDg1 mDg1
  rw [dgC_eq h 13 (Nat.le_refl _), dgK_eq h _ 99 (Nat.le_refl _), en, dgS_eq h _ _ (Nat.le_refl _), ed, xFirst_eq h]
theorem sim_digest (h : Sim Mx Mm) : xDigest Mx = mDigest Mm ∧ Sim Mx Mm := by
  refine ⟨?_, h⟩
  unfold xDigest mDigest
  rw [h.ds.rek, xDg1_eq h.ds]
  cases hr : mRek Mm with
  | false => simp only [Bool.false_eq_true, if_false]
  | true =>
    simp only [if_true]
    have e1 : xZone Mx = mFrom Mm := by unfold xZone; rw [h.ds.rek, hr]; exact h.ds.zF hr
    have e2 : xLeft Mx = mLeft Mm := by unfold xLeft; rw [h.ds.rek, hr]; exact h.ds.off_left
    rw [e1, e2]
theorem e80I : (80 : Int32).toInt = 80 := by decide
theorem e33I : (33 : Int32).toInt = 33 := by decide
theorem e126I : (126 : Int32).toInt = 126 := by decide
theorem sim_type (h : Sim Mx Mm) (c : Int32) : (sApp Mx c).1 = (mType Mm c).1 ∧ Sim (sApp Mx c).2 (mType Mm c).2 := by
  obtain ⟨t1, t2, t3⟩ := h.ts
  have t2' := t2
  unfold tI at t2
  unfold sApp mType
  rw [t1]
  by_cases hw : mWithin c 33 126 = true
  · have hz := mW_iff.mp hw
    rw [e33I, e126I] at hz
    rw [if_pos hw, if_neg (show ¬ c < 33 from by rw [tI_lt, e33I]; omega), if_neg (show ¬ 126 < c from by rw [tI_lt, e126I]; omega)]
    by_cases q : Mm 111 6 = 80
    · rw [if_pos q, if_pos (show 80 ≤ Mm 111 6 from by rw [q]; exact Int32.le_refl _)]
      exact ⟨rfl, h⟩
    · have q2 : (Mm 111 6).toInt < 80 := by
        rcases Int.lt_or_le (Mm 111 6).toInt 80 with w | w
        · exact w
        · exact absurd (Int32.toInt_inj.mp (by rw [e80I]; omega)) q
      rw [if_neg q, if_neg (show ¬ 80 ≤ Mm 111 6 from by rw [tI_le, e80I]; omega)]
      refine ⟨rfl, ?_⟩
      dsimp only
      have i6 := ix_toInt (x := Mm 111 6) (by omega)
      have ti : (Mm 111 6 + 1).toInt = (Mm 111 6).toInt + 1 := by rw [tI_add (by rw [e1I]; omega) (by rw [e1I]; omega), e1I]
      have i7 := ix_toInt (x := Mm 111 6 + 1) (by omega)
      rw [rset_in (o := 103) (n := 80) (by omega) (by omega) (by decide)]
      refine h.oth (fun a ha => by rw [dk_put_ne (by omega), dk_put_ne (by omega)]) (fun j _ => by rw [dk_put_ne (by omega), dk_put_ne (by omega)]) (by rw [dk_put_ne (by omega), dk_put_ne (by omega)]) (by rw [put_k (by omega), dk_put_ne (by omega)]) ⟨?_, ?_, fun i hi => ?_⟩
      · rw [put_same, put_same]
      · unfold tI; rw [put_same]; omega
      · rw [put_same] at hi
        rw [dk_put_ne (o := 102) (by omega), dk_put_ne (o := 111) (by omega)]
        show dk_put Mx 104 (ix (Mm 111 6)) c 104 i = dk_put Mm 116 (ix (Mm 111 6)) c 116 i ∧ _
        by_cases qi : i = ix (Mm 111 6)
        · rw [qi, put_same, put_same]; exact ⟨rfl, hz⟩
        · rw [put_k qi, put_k qi]; exact t3 i (by omega)
  · rw [if_neg hw]
    have hz := Wn hw
    rw [e33I, e126I] at hz
    by_cases q : c < 33
    · rw [if_pos q]; exact ⟨rfl, h⟩
    · rw [if_neg q, if_pos (by rw [tI_lt, e33I] at q; rw [tI_lt, e126I]; omega)]; exact ⟨rfl, h⟩
theorem sim_clearText (h : Sim Mx Mm) : Mx 102 4 = Mm 111 6 ∧ Sim (dk_put Mx 102 4 0) (dk_put Mm 111 6 0) := by
  refine ⟨h.ts.1, h.oth (fun a ha => dk_put_ne (by omega)) (fun j _ => by rw [dk_put_ne (by omega)]) (dk_put_ne (by omega)) (put_k (by omega)) ⟨?_, ?_, fun i hi => ?_⟩⟩
  · rw [put_same, put_same]
  · unfold tI; rw [put_same]; decide
  · rw [put_same] at hi
    exact absurd hi (by show ¬ i < 0; omega)
theorem sim_undo (h : Sim Mx Mm) : (hBack Mx).1 = (mUndo Mm).1 ∧ Sim (hBack Mx).2 (mUndo Mm).2 := by
  obtain ⟨g1, g2, g3⟩ := h.hh
  have hn := h.x.1.j
  have hr := h.r
  unfold rI at hr
  have i0 := ix_toInt (x := Mm 111 4) (by omega)
  unfold hBack mUndo
  rw [g1]
  by_cases q : Mm 111 4 = 0
  · rw [if_pos q, if_pos q]; exact ⟨rfl, h⟩
  · have q1 : 1 ≤ (Mm 111 4).toInt := by
      rcases Int.lt_or_le 0 (Mm 111 4).toInt with w | w
      · omega
      · exact absurd (Int32.toInt_inj.mp (by rw [e0I]; omega)) q
    have ts : (Mm 111 4 - 1).toInt = (Mm 111 4).toInt - 1 := by rw [tI_sub (by rw [e1I]; omega) (by rw [e1I]; omega), e1I]
    have is := ix_toInt (x := Mm 111 4 - 1) (by omega)
    rw [if_neg q, if_neg q]
    have hs1 : hsl (ix (Mx 23 1)) (ix (Mm 111 4)) (ix (Mm 111 4 - 1)) = (ix (Mx 23 1) + 6) % 7 := by unfold hsl; omega
    have hD := g3 (ix (Mm 111 4 - 1)) (by omega)
    rw [hs1] at hD
    have hC : DS (dCopy Mx 1 (24 + 1 + 11 * ((ix (Mx 23 1) + 6) % 7))) 1 (fun b => Mm 115 (ix (Mm 111 4 - 1) * 367 + b)) := DS.cop (e := 24 + 1 + 11 * ((ix (Mx 23 1) + 6) % 7)) hD (by unfold apart; omega)
    have cN : ∀ a, ¬ (1 ≤ a ∧ a < 12) → dCopy Mx 1 (24 + 1 + 11 * ((ix (Mx 23 1) + 6) % 7)) a = Mx a := fun a ha => dCopy_ne (by omega)
    have e23 := cN 23 (by omega)
    rw [e23, g1]
    refine ⟨rfl, ?_⟩
    dsimp only
    generalize dCopy Mx 1 (24 + 1 + 11 * ((ix (Mx 23 1) + 6) % 7)) = Mc at *
    have cr : ∀ a, a ≠ 23 → dk_put (dk_put Mc 23 1 (nI ((ix (Mx 23 1) + 6) % 7))) 23 2 (Mm 111 4 - 1) a = Mc a := fun a ha => by rw [dk_put_ne ha, dk_put_ne ha]
    have c1 : dk_put (dk_put Mc 23 1 (nI ((ix (Mx 23 1) + 6) % 7))) 23 2 (Mm 111 4 - 1) 23 1 = nI ((ix (Mx 23 1) + 6) % 7) := by rw [put_k (by decide), put_same]
    have c2 : dk_put (dk_put Mc 23 1 (nI ((ix (Mx 23 1) + 6) % 7))) 23 2 (Mm 111 4 - 1) 23 2 = Mm 111 4 - 1 := put_same
    generalize dk_put (dk_put Mc 23 1 (nI ((ix (Mx 23 1) + 6) % 7))) 23 2 (Mm 111 4 - 1) = Mn at *
    have m4 : mCopy (mUndoM Mm) 115 (ix (Mm 111 4 - 1) * 367) 112 0 367 111 4 = Mm 111 4 - 1 := by
      rw [mCopy_ne _ (by decide), mUndoM, put_same]
    have mr : ∀ a, a ≠ 111 → a ≠ 112 → mCopy (mUndoM Mm) 115 (ix (Mm 111 4 - 1) * 367) 112 0 367 a = Mm a := fun a h1 h2 => by
      rw [mCopy_ne _ h2, mUndoM, dk_put_ne h1]
    have m112 : ∀ b, b < 367 → mCopy (mUndoM Mm) 115 (ix (Mm 111 4 - 1) * 367) 112 0 367 112 b = Mm 115 (ix (Mm 111 4 - 1) * 367 + b) := fun b hb => by
      unfold mCopy
      rw [if_pos (by omega), mUndoM, dk_put_ne (by decide), Nat.sub_zero]
    have m6 : mCopy (mUndoM Mm) 115 (ix (Mm 111 4 - 1) * 367) 112 0 367 111 6 = Mm 111 6 := by
      rw [mCopy_ne _ (by decide), mUndoM, put_k (by decide)]
    generalize mCopy (mUndoM Mm) 115 (ix (Mm 111 4 - 1) * 367) 112 0 367 = Mk at *
    have i1 : ix (Mn 23 1) = (ix (Mx 23 1) + 6) % 7 := by rw [c1]; exact ix_nI (by omega)
    refine ⟨⟨?_, fun j hj => ?_, ?_, ?_⟩, ?_, ?_, ?_, ?_, fun j hj => ?_⟩
    · unfold hI; rw [c1, nI_toInt (by omega)]; omega
    · unfold dZ; rw [cr _ (by omega), cN _ (by omega)]; exact h.x.2.1 j hj
    · unfold dZ; rw [cr 1 (by omega)]; exact hC.dz
    · exact dI_of (cr 1 (by omega)) hC.di
    · exact (hC.row (fun a a1 a2 => cr a (by omega))).fcg m112
    · exact h.ts.cg (by rw [cr 102 (by omega), cN 102 (by omega)]) (by rw [cr 104 (by omega), cN 104 (by omega)]) m6 (mr 116 (by decide) (by decide))
    · rw [c2, m4]
    · unfold rI; rw [m4]; omega
    · rw [m4] at hj
      rw [i1, m4, mr 115 (by decide) (by decide)]
      have hsj : hsl ((ix (Mx 23 1) + 6) % 7) (ix (Mm 111 4 - 1)) j = hsl (ix (Mx 23 1)) (ix (Mm 111 4)) j := by unfold hsl; omega
      rw [hsj]
      have hl := hsl_lt (ix (Mx 23 1)) (ix (Mm 111 4)) j
      exact (g3 j (by omega)).row (fun a a1 a2 => by rw [cr a (by omega), cN a (by omega)])
end SB
