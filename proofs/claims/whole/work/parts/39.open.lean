def Sim (Mx Mm : dkM) : Prop := xI Mx ∧ mI Mm ∧ rI Mm ∧ tI Mm
theorem Sim.x {Mx Mm : dkM} (h : Sim Mx Mm) : xI Mx := h.1
theorem Sim.m {Mx Mm : dkM} (h : Sim Mx Mm) : mI Mm := h.2.1
theorem Sim.r {Mx Mm : dkM} (h : Sim Mx Mm) : rI Mm := h.2.2.1
theorem Sim.t {Mx Mm : dkM} (h : Sim Mx Mm) : tI Mm := h.2.2.2
theorem sim_0 : Sim x0 m0 := sorry
section
variable {Mx Mm : dkM} (h : Sim Mx Mm)
theorem sim_format (h : Sim Mx Mm) (n : Int32) : (xU (dFormat (hDraft Mx) 1 n)).1 = (mFormat Mm n).1 ∧ Sim (xU (dFormat (hDraft Mx) 1 n)).2 (mFormat Mm n).2 := sorry
theorem sim_addKey (h : Sim Mx Mm) (k c : Int32) : (xU (dAdd (hDraft Mx) 1 k c)).1 = (mAdd Mm k c).1 ∧ Sim (xU (dAdd (hDraft Mx) 1 k c)).2 (mAdd Mm k c).2 := sorry
theorem sim_removeKey (h : Sim Mx Mm) (k : Int32) : (xU (dDrop (hDraft Mx) 1 k)).1 = (mRem Mm k).1 ∧ Sim (xU (dDrop (hDraft Mx) 1 k)).2 (mRem Mm k).2 := sorry
theorem sim_secretOf (h : Sim Mx Mm) (k : Int32) : xSecret Mx k = mSecretOf Mm k ∧ Sim Mx Mm := sorry
theorem sim_setZone (h : Sim Mx Mm) (z : Int32) : (xU (dZone (hDraft Mx) 1 z)).1 = (mSetZone Mm z).1 ∧ Sim (xU (dZone (hDraft Mx) 1 z)).2 (mSetZone Mm z).2 := sorry
theorem sim_setJournal (h : Sim Mx Mm) (z : Int32) : (xU (dJour (hDraft Mx) 1 z)).1 = (mSetJ Mm z).1 ∧ Sim (xU (dJour (hDraft Mx) 1 z)).2 (mSetJ Mm z).2 := sorry
theorem sim_start (h : Sim Mx Mm) (k : Int32) : (xU (dBegin (hDraft Mx) 1 k)).1 = (mStart Mm k).1 ∧ Sim (xU (dBegin (hDraft Mx) 1 k)).2 (mStart Mm k).2 := sorry
theorem sim_steps (h : Sim Mx Mm) (n : Int32) : (xU (dAdv (hDraft Mx) 1 n)).1 = (mSteps Mm n).1 ∧ Sim (xU (dAdv (hDraft Mx) 1 n)).2 (mSteps Mm n).2 := sorry
theorem sim_turnBack (h : Sim Mx Mm) : (xU (dTurn (hDraft Mx) 1)).1 = (mTurn Mm).1 ∧ Sim (xU (dTurn (hDraft Mx) 1)).2 (mTurn Mm).2 := sorry
theorem sim_write (h : Sim Mx Mm) (s v : Int32) : (xU (dPut (hDraft Mx) 1 s v)).1 = (mWrite Mm s v).1 ∧ Sim (xU (dPut (hDraft Mx) 1 s v)).2 (mWrite Mm s v).2 := sorry
theorem sim_flush (h : Sim Mx Mm) : (xU (nI (flN (hDraft Mx) 1 (ix (hDraft Mx 1 5))), flM (hDraft Mx) 1 (ix (hDraft Mx 1 5)))).1 = (mFlush Mm).1 ∧ Sim (xU (nI (flN (hDraft Mx) 1 (ix (hDraft Mx 1 5))), flM (hDraft Mx) 1 (ix (hDraft Mx 1 5)))).2 (mFlush Mm).2 := sorry
theorem sim_fail (h : Sim Mx Mm) : (xU (nI (lpN (hDraft Mx) 1 (ix (hDraft Mx 1 5))), dFail (hDraft Mx) 1)).1 = (mFail Mm).1 ∧ Sim (xU (nI (lpN (hDraft Mx) 1 (ix (hDraft Mx 1 5))), dFail (hDraft Mx) 1)).2 (mFail Mm).2 := sorry
theorem sim_count (h : Sim Mx Mm) (w : Int32) : xCount Mx w = mCount Mm w ∧ Sim Mx Mm := sorry
theorem sim_read (h : Sim Mx Mm) (s : Int32) : xRead Mx s = mRead Mm s ∧ Sim Mx Mm := sorry
theorem sim_stored (h : Sim Mx Mm) (s : Int32) : xStored Mx s = mStored Mm s ∧ Sim Mx Mm := sorry
theorem sim_keyOf (h : Sim Mx Mm) (s : Int32) : xKeyOf Mx s = mKeyOf Mm s ∧ Sim Mx Mm := sorry
theorem sim_journal (h : Sim Mx Mm) (s : Int32) : xJournal Mx s = mJournal Mm s ∧ Sim Mx Mm := sorry
theorem sim_cached (h : Sim Mx Mm) (s : Int32) : xCached Mx s = mCachedS Mm s ∧ Sim Mx Mm := sorry
theorem sim_zoneStart (h : Sim Mx Mm) : xZone Mx = mZone Mm ∧ Sim Mx Mm := sorry
theorem sim_damaged (h : Sim Mx Mm) : xDam Mx = nI (mDam Mm) ∧ Sim Mx Mm := sorry
theorem sim_firstDamaged (h : Sim Mx Mm) : xFirst Mx = mFirst Mm ∧ Sim Mx Mm := sorry
theorem sim_stepsLeft (h : Sim Mx Mm) : xLeft Mx = mStLeft Mm ∧ Sim Mx Mm := sorry
theorem sim_ifFailed (h : Sim Mx Mm) (n : Int32) : (xIfFail Mx n).1 = (mIfFail Mm n).1 ∧ Sim (xIfFail Mx n).2 (mIfFail Mm n).2 := sorry
theorem sim_worstTime (h : Sim Mx Mm) : (xWorst Mx).1 = (mWorst Mm).1 ∧ Sim (xWorst Mx).2 (mWorst Mm).2 := sorry
theorem sim_ifFlushed (h : Sim Mx Mm) (s : Int32) : xIfFl Mx s = mIfFl Mm s ∧ Sim Mx Mm := sorry
theorem sim_type (h : Sim Mx Mm) (c : Int32) : (sApp Mx c).1 = (mType Mm c).1 ∧ Sim (sApp Mx c).2 (mType Mm c).2 := sorry
theorem sim_clearText (h : Sim Mx Mm) : Mx 102 4 = Mm 111 6 ∧ Sim (dk_put Mx 102 4 0) (dk_put Mm 111 6 0) := sorry
theorem sim_syntaxError (h : Sim Mx Mm) : xErr Mx = (mErr Mm).1 ∧ Sim Mx (mErr Mm).2 := sorry
theorem sim_carryOut (h : Sim Mx Mm) : (xCarry Mx).1 = (mCarry Mm).1 ∧ Sim (xCarry Mx).2 (mCarry Mm).2 := sorry
theorem sim_undo (h : Sim Mx Mm) : (hBack Mx).1 = (mUndo Mm).1 ∧ Sim (hBack Mx).2 (mUndo Mm).2 := sorry
theorem sim_digest (h : Sim Mx Mm) : xDigest Mx = mDigest Mm ∧ Sim Mx Mm := sorry
end
