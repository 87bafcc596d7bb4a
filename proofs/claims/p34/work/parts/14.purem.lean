/-! the model: 111 is its cell (4 recorded, 6 textLength, 8 at, 9 letter, 10 one, 11 two, 12 number); 112 state, 113 kept, 114 then, 115 history, 116 text, 117 values -/
def mWithin (v a b : Int32) : Bool := if v < a then false else if b < v then false else true
def mScr (v s c : Int32) : Int32 := v ^^^ ((40503 * c + 30011 * s + 12345) &&& 65535)
def mCopy (M : dkM) (oa p ob q n : Nat) : dkM := fun a b => if a = ob ∧ q ≤ b ∧ b < q + n then M oa (p + (b - q)) else M a b
def mShift (M : dkM) (n : Nat) : dkM := fun a b => if a = 115 ∧ b < n then M 115 (b + 367) else M a b
def mRec1 (M : dkM) : dkM := if M 111 4 = 6 then dk_put (mShift M 1835) 111 4 (M 111 4 - 1) else M
def mRec (M : dkM) : dkM := dk_put (mCopy (mRec1 M) 112 0 115 (ix (mRec1 M 111 4) * 367) 367) 111 4 (mRec1 M 111 4 + 1)
def mRek (M : dkM) : Bool := if M 112 2 = -6 then false else true
def mOpen (M : dkM) : Bool := if 0 < M 112 5 then true else if M 112 6 ≤ 0 then false else true
def mSec (M : dkM) (s : Int32) : Bool := mWithin s 0 (M 112 0 - 1)
def mIsKey (M : dkM) (k : Int32) : Bool := if mWithin k 1 99 = true then (if M 112 (11 + ix k) = -6 then false else true) else false
def mKeys (M : dkM) (n : Nat) : Nat := cnt (fun k => M 112 (11 + (k + 1)) != -6) n
def mFrom (M : dkM) : Int32 := if M 112 4 = 1 then M 112 3 else if 0 ≤ M 112 3 - M 112 7 then M 112 3 - M 112 7 else 0
def mTo (M : dkM) : Int32 := if M 112 4 = 0 then M 112 3 else if M 112 3 + M 112 7 ≤ M 112 0 then M 112 3 + M 112 7 else M 112 0
def mInZ (M : dkM) (s : Int32) : Bool := if mRek M = true then (if s < mFrom M then false else if mTo M ≤ s then false else true) else false
def mRw (M : dkM) (s : Int32) : Bool := if mInZ M s = true then (if mFrom M + M 112 5 ≤ s then false else true) else false
def mKeyAt (M : dkM) (s : Int32) : Int32 := if mRek M = true then (if M 112 3 ≤ s then (if mRw M s = true then M 112 2 else M 112 1) else (if mRw M s = true then M 112 1 else M 112 2)) else M 112 1
def mSecret (M : dkM) (s : Int32) : Int32 := M 112 (11 + ix (mKeyAt M s))
def mPlain (M : dkM) (k : Nat) : Int32 := mScr (M 112 (111 + k)) (nI k) (mSecret M (nI k))
def mVal (M : dkM) (k : Nat) : Int32 := if M 112 (239 + k) = -6 then mPlain M k else M 112 (239 + k)
def mfL (M : dkM) (n : Int32) : Nat → dkM
  | 0 => M
  | k + 1 => dk_put (dk_put (dk_put (mfL M n k) 112 (111 + k) (if n ≤ nI k then 0 else mScr 0 (nI k) (mfL M n k 112 (11 + ix (mfL M n k 112 1))))) 112 (239 + k) (-6)) 112 (303 + k) 0
def mClr (M : dkM) (n : Nat) : dkM := fun a b => if a = 112 ∧ 175 ≤ b ∧ b < 175 + n then -6 else M a b
def mClose (M : dkM) : dkM := mClr (dk_put (dk_put M 112 5 0) 112 6 0) 64
def mEnds (M : dkM) : dkM := mClose (dk_put (dk_put (dk_put M 112 2 (-6)) 112 3 (-6)) 112 4 (-6))
def mFormats (M : dkM) (n : Int32) : dkM := mfL (mEnds (dk_put M 112 0 n)) n 64
def mjL (M : dkM) (f : Nat) : Nat → dkM
  | 0 => M
  | k + 1 => dk_put (mjL M f k) 112 (175 + (f + k)) (mjL M f k 112 (111 + (f + k)))
def mEnd (M : dkM) : dkM := if M 112 4 = 1 ∧ M 112 3 = M 112 0 then mEnds (dk_put (dk_put M 112 1 (M 112 2)) 112 9 (M 112 9 + 1)) else if M 112 4 = 0 ∧ M 112 3 = 0 then mEnds M else M
def mJr (M : dkM) : dkM := mjL M (ix (mFrom M)) (ix (mTo M) - ix (mFrom M))
def mRwS (M : dkM) (k : Nat) : dkM := dk_put (dk_put M 112 5 (M 112 5 + 1)) 112 (111 + k) (mScr (mPlain M k) (nI k) (mSecret (dk_put M 112 5 (M 112 5 + 1)) (nI k)))
def mStep (M : dkM) : dkM := if M 112 8 = 1 ∧ M 112 6 = 0 ∧ M 112 5 = 0 then dk_put (mJr M) 112 6 (mTo M - mFrom M) else if M 112 5 < mTo M - mFrom M then mRwS M (ix (mFrom M + M 112 5)) else mEnd (mClose (dk_put M 112 3 (if M 112 4 = 1 then mTo M else mFrom M)))
def mStepsL : Nat → dkM → Nat → Nat × dkM
  | 0, M, k => (k, M)
  | n + 1, M, k => if mRek M = true then mStepsL n (mStep M) (k + 1) else (k, M)
def mRest (M : dkM) : Int32 := if M 112 4 = 1 then M 112 0 - M 112 3 else M 112 3
def mZones (M : dkM) : Int32 := (mRest M + M 112 7 - 1) / M 112 7
def mLeft (M : dkM) : Int32 := if mRek M = true then mRest M + mZones M + (if M 112 8 = 1 then mZones M else 0) - M 112 5 - (if M 112 6 ≤ 0 then 0 else 1) else 0
def mFlL (M : dkM) : Nat → dkM
  | 0 => M
  | k + 1 => dk_put (dk_put (mFlL M k) 112 (239 + k) (-6)) 112 (111 + k) (if dk_put (mFlL M k) 112 (239 + k) (-6) 112 (175 + k) = -6 then dk_put (mFlL M k) 112 (239 + k) (-6) 112 (111 + k) else dk_put (mFlL M k) 112 (239 + k) (-6) 112 (175 + k))
def mFails1 (M : dkM) : dkM := mClose (mFlL M 64)
def mFails (M : dkM) : dkM := dk_put (mFails1 M) 112 10 (mFails1 M 112 10 + 1)
def mDamN (M : dkM) (n : Nat) : Nat := cnt (fun k => mVal M k != M 112 (303 + k)) n
def mDam (M : dkM) : Nat := mDamN M (ix (M 112 0))
def mFormat (M : dkM) (n : Int32) : Int32 × dkM := if mWithin n 4 64 = true then (M 112 0, mFormats (mRec M) n) else (-2, M)
def mAddM (M : dkM) (k c : Int32) : dkM := dk_put (mRec M) 112 (11 + ix k) c
def mAdd (M : dkM) (k c : Int32) : Int32 × dkM := if mWithin k 1 99 = true ∧ mWithin c 0 65535 = true then (if mIsKey M k = true then (-3, M) else if nI (mKeys M 99) = 8 then (-4, M) else (nI (mKeys (mAddM M k c) 99), mAddM M k c)) else (-2, M)
def mRem (M : dkM) (k : Int32) : Int32 × dkM := if mIsKey M k = true then (if k = M 112 1 then (-3, M) else if k = M 112 2 then (-3, M) else (nI (mKeys (mAddM M k (-6)) 99), mAddM M k (-6))) else (-1, M)
def mSecretOf (M : dkM) (k : Int32) : Int32 := if mIsKey M k = true then M 112 (11 + ix k) else -1
def mSets (M : dkM) (w : Nat) (v : Int32) : Int32 × dkM := if mOpen M = true then (-3, M) else (M 112 w, dk_put (mRec M) 112 w v)
def mSetZone (M : dkM) (z : Int32) : Int32 × dkM := if mWithin z 1 8 = true then mSets M 7 z else (-2, M)
def mSetJ (M : dkM) (z : Int32) : Int32 × dkM := if mWithin z 0 1 = true then mSets M 8 z else (-2, M)
def mStartM (M : dkM) (k : Int32) : dkM := dk_put (dk_put (dk_put (mRec M) 112 2 k) 112 3 0) 112 4 1
def mStart (M : dkM) (k : Int32) : Int32 × dkM := if mIsKey M k = true then (if mRek M = true then (-3, M) else if k = M 112 1 then (-3, M) else (mLeft (mStartM M k), mStartM M k)) else (-1, M)
def mWhyS (M : dkM) (n : Int32) : Int32 := if mWithin n 1 999 = true then (if mRek M = true then 0 else -3) else -2
def mSteps (M : dkM) (n : Int32) : Int32 × dkM := if mWhyS M n < 0 then (mWhyS M n, M) else (nI (mStepsL (ix n) (mRec M) 0).1, (mStepsL (ix n) (mRec M) 0).2)
def mWhyT (M : dkM) : Int32 := if mRek M = true then (if mOpen M = true then -3 else 0) else -3
def mTurnsM (M : dkM) : dkM := mEnd (dk_put M 112 4 (1 - M 112 4))
def mTurn (M : dkM) : Int32 × dkM := if mWhyT M < 0 then (mWhyT M, M) else (mLeft (mTurnsM (mRec M)), mTurnsM (mRec M))
def mCachedN (M : dkM) (n : Nat) : Nat := cnt (fun k => M 112 (239 + k) != -6) n
def mCached (M : dkM) : Nat := mCachedN M (ix (M 112 0))
def mWhyW (M : dkM) (s v : Int32) : Int32 := if mSec M s = true then (if mWithin v 0 65535 = true then (if M 112 (239 + ix s) = -6 ∧ nI (mCached M) = 8 then -4 else 0) else -2) else -1
def mWritesM (M : dkM) (s v : Int32) : dkM := dk_put (dk_put M 112 (239 + ix s) v) 112 (303 + ix s) v
def mWrite (M : dkM) (s v : Int32) : Int32 × dkM := if mWhyW M s v < 0 then (mWhyW M s v, M) else (nI (mCached (mWritesM (mRec M) s v)), mWritesM (mRec M) s v)
def mCan (M : dkM) (k : Nat) : Bool := if M 112 (239 + k) = -6 then false else if mOpen M = true then (if mInZ M (nI k) = true then false else true) else true
def mForm (M : dkM) (k : Nat) : Int32 := if mCan M k = true then mScr (M 112 (239 + k)) (nI k) (mSecret M (nI k)) else M 112 (111 + k)
def mFluL (M : dkM) : Nat → dkM
  | 0 => M
  | k + 1 => if mCan (mFluL M k) k = true then dk_put (dk_put (mFluL M k) 112 (111 + k) (mForm (mFluL M k) k)) 112 (239 + k) (-6) else mFluL M k
def mFluN (M : dkM) : Nat → Nat
  | 0 => 0
  | k + 1 => if mCan (mFluL M k) k = true then mFluN M k + 1 else mFluN M k
def mFlushes (M : dkM) : Int32 × dkM := (nI (mFluN M (ix (M 112 0))), mFluL M (ix (M 112 0)))
def mFlush (M : dkM) : Int32 × dkM := mFlushes (mRec M)
def mVals (M : dkM) : Nat → dkM
  | 0 => M
  | k + 1 => dk_put (mVals M k) 117 k (mVal (mVals M k) k)
def mFailM (M : dkM) : dkM := mFails (mVals (mRec M) (ix (mRec M 112 0)))
def mChgN (M : dkM) (n : Nat) : Nat := cnt (fun k => M 117 k != mVal M k) n
def mFail (M : dkM) : Int32 × dkM := (nI (mChgN (mFailM M) (ix (mFailM M 112 0))), mFailM M)
def mCountOf (M : dkM) (w : Int32) : Int32 := if w = 6 then M 112 6 else if w = 7 then nI (mCached M) else if w = 8 then M 112 7 else if w = 9 then M 112 8 else if w = 10 then nI (mKeys M 99) else if w = 11 then M 112 9 else if w = 12 then M 112 10 else M 112 (ix w)
def mCount (M : dkM) (w : Int32) : Int32 := if mWithin w 0 12 = true then mCountOf M w else -2
def mRead (M : dkM) (s : Int32) : Int32 := if mSec M s = true then mVal M (ix s) else -1
def mStored (M : dkM) (s : Int32) : Int32 := if mSec M s = true then M 112 (111 + ix s) else -1
def mKeyOf (M : dkM) (s : Int32) : Int32 := if mSec M s = true then mKeyAt M s else -1
def mJournal (M : dkM) (s : Int32) : Int32 := if mSec M s = true then M 112 (175 + ix s) else -1
def mCachedS (M : dkM) (s : Int32) : Int32 := if mSec M s = true then M 112 (239 + ix s) else -1
def mZone (M : dkM) : Int32 := if mRek M = true then mFrom M else -3
def mFoL (M : dkM) : Nat → Nat → Int32
  | 0, _ => -6
  | n + 1, k => if mVal M k = M 112 (303 + k) then mFoL M n (k + 1) else nI k
def mFirst (M : dkM) : Int32 := mFoL M (ix (M 112 0)) 0
def mStLeft (M : dkM) : Int32 := if mRek M = true then mLeft M else -3
def mThenM (M : dkM) : dkM := mFails (mCopy M 112 0 114 0 367)
def mThen (M : dkM) : Int32 × dkM := (nI (mDam (mThenM M)), mCopy (mThenM M) 114 0 112 0 367)
def mKept (M : dkM) : dkM := mCopy M 112 0 113 0 367
def mBack (M : dkM) : dkM := mCopy M 113 0 112 0 367
def mIfM (M : dkM) (n : Int32) : dkM := (mStepsL (ix n) (mKept M) 0).2
def mIfFail (M : dkM) (n : Int32) : Int32 × dkM := if mWithin n 0 999 = true then ((mThen (mIfM M n)).1, mBack (mThen (mIfM M n)).2) else (-2, M)
def mWorL : Nat → dkM → Nat → Int32 → Int32 → Int32 × dkM
  | 0, M, _, found, _ => (found, M)
  | n + 1, M, k, found, most => mWorL n (mStepsL (ix 1) (mThen M).2 0).2 (k + 1) (if (mThen M).1 ≤ most then found else nI k) (if (mThen M).1 ≤ most then most else (mThen M).1)
def mWorst (M : dkM) : Int32 × dkM := ((mWorL 100 (mKept M) 0 0 (-6)).1, mBack (mWorL 100 (mKept M) 0 0 (-6)).2)
def mIfFl (M : dkM) (s : Int32) : Int32 := if mSec M s = true then mForm M (ix s) else -1
def mType (M : dkM) (c : Int32) : Int32 × dkM := if mWithin c 33 126 = true then (if M 111 6 = 80 then (-4, M) else (M 111 6 + 1, dk_put (dk_put M 116 (ix (M 111 6)) c) 111 6 (M 111 6 + 1))) else (-2, M)
def mChar (M : dkM) (p : Int32) : Int32 := if M 111 6 ≤ p then -1 else M 116 (ix p)
def mNextB (M : dkM) (c : Int32) : Bool := if mChar M (M 111 8) = c then true else false
def mNextM (M : dkM) (c : Int32) : dkM := dk_put M 111 8 (M 111 8 + (if mNextB M c = true then 1 else 0))
def mRnS (M : dkM) : dkM := dk_put (dk_put M 111 12 (10 * M 111 12 + mChar M (M 111 8) - 48)) 111 8 (M 111 8 + 1)
def mRnL : Nat → dkM → Nat → Nat × dkM
  | 0, M, k => (k, M)
  | n + 1, M, k => if mWithin (mChar M (M 111 8)) 48 57 = true then mRnL n (mRnS M) (k + 1) else (k, M)
def mRn (M : dkM) : Nat × dkM := mRnL 5 (dk_put M 111 12 0) 0
def mRnB (M : dkM) : Bool := if (mRn M).1 = 0 then false else true
/-- reads a command: does it stand, and the memory then -/
def mLet (M : dkM) : dkM := dk_put M 111 9 (mChar M (M 111 8))
def mAt1 (M : dkM) : dkM := dk_put (mLet M) 111 8 (mLet M 111 8 + 1)
def mOne (M : dkM) : dkM := dk_put M 111 10 (M 111 12)
def mTwo (M : dkM) : dkM := dk_put M 111 11 (M 111 12)
def mCmdW (M : dkM) : Bool × dkM := if mRnB M = true then (if mNextB (mOne (mRn M).2) 61 = true then (mRnB (mNextM (mOne (mRn M).2) 61), mTwo (mRn (mNextM (mOne (mRn M).2) 61)).2) else (false, mTwo (mNextM (mOne (mRn M).2) 61))) else (false, mTwo (mOne (mRn M).2))
def mCmd (M : dkM) : Bool × dkM := if mLet M 111 9 = 119 then mCmdW (mAt1 M) else if mLet M 111 9 = 115 then (mRnB (mAt1 M), mTwo (mOne (mRn (mAt1 M)).2)) else if mLet M 111 9 = 102 ∨ mLet M 111 9 = 120 ∨ mLet M 111 9 = 98 then (true, mTwo (mOne (mAt1 M))) else (false, mLet M)
def mErrL : Nat → dkM → Int32 × dkM
  | 0, M => (0, M)
  | n + 1, M => if (mCmd M).1 = true then (if (mCmd M).2 111 8 = (mCmd M).2 111 6 then (-6, (mCmd M).2) else if mNextB (mCmd M).2 59 = true then mErrL n (mNextM (mCmd M).2 59) else (mNextM (mCmd M).2 59 111 8, mNextM (mCmd M).2 59)) else ((mCmd M).2 111 8, (mCmd M).2)
def mErr (M : dkM) : Int32 × dkM := mErrL 100 (dk_put M 111 8 0)
def mWhyD (M : dkM) : Int32 := if M 111 9 = 98 then mWhyT M else if M 111 9 = 115 then mWhyS M (M 111 10) else if M 111 9 = 119 then mWhyW M (M 111 10) (M 111 11) else 0
def mDoes (M : dkM) : dkM := if M 111 9 = 98 then mTurnsM M else if M 111 9 = 102 then (mFlushes M).2 else if M 111 9 = 115 then (mStepsL (ix (M 111 10)) M 0).2 else if M 111 9 = 119 then mWritesM M (M 111 10) (M 111 11) else mFails M
def mNxt (M : dkM) : dkM := mNextM (mCmd M).2 59
def mCoL : Nat → dkM → Nat → Nat × dkM
  | 0, M, k => (k, M)
  | n + 1, M, k => if M 111 6 ≤ M 111 8 then (k, M) else if mWhyD (mNxt M) = 0 then mCoL n (mDoes (mNxt M)) (k + 1) else (k, mNxt M)
def mCo (M : dkM) : Nat × dkM := mCoL 100 (dk_put (mRec (mErr M).2) 111 8 0) 0
def mCarry (M : dkM) : Int32 × dkM := if (mErr M).1 = -6 then (nI (mCo M).1, dk_put (mCo M).2 111 6 0) else (-5, (mErr M).2)
def mUndoM (M : dkM) : dkM := dk_put M 111 4 (M 111 4 - 1)
def mUndo (M : dkM) : Int32 × dkM := if M 111 4 = 0 then (-3, M) else (M 111 4 - 1, mCopy (mUndoM M) 115 (ix (M 111 4 - 1) * 367) 112 0 367)
def mgC (M : dkM) : Nat → Int64
  | 0 => 392
  | k + 1 => dg (mgC M k) (mCountOf M (nI k))
def mgK (M : dkM) (h : Int64) : Nat → Int64
  | 0 => h
  | k + 1 => if M 112 (11 + (k + 1)) = -6 then mgK M h k else dg (dg (mgK M h k) (nI (k + 1))) (M 112 (11 + (k + 1)))
def mgS (M : dkM) (h : Int64) : Nat → Int64
  | 0 => h
  | k + 1 => dg (dg (dg (dg (dg (mgS M h k) (mVal M k)) (M 112 (111 + k))) (mKeyAt M (nI k))) (M 112 (175 + k))) (M 112 (239 + k))
def mDg1 (M : dkM) : Int64 := dg (dg (mgS M (mgK M (mgC M 13) 99) (ix (M 112 0))) (nI (mDam M))) (mFirst M)
def mDigest (M : dkM) : Int64 := if mRek M = true then dg (dg (mDg1 M) (mFrom M)) (mLeft M) else mDg1 M
/-! bounds -/
def mI (M : dkM) : Prop := (4 ≤ (M 112 0).toInt ∧ (M 112 0).toInt ≤ 64) ∧ (1 ≤ (M 112 1).toInt ∧ (M 112 1).toInt ≤ 99) ∧ (M 112 2 = -6 ∨ (1 ≤ (M 112 2).toInt ∧ (M 112 2).toInt ≤ 99 ∧ 0 ≤ (M 112 3).toInt ∧ (M 112 3).toInt ≤ (M 112 0).toInt)) ∧ (1 ≤ (M 112 7).toInt ∧ (M 112 7).toInt ≤ 8) ∧ 0 ≤ (M 112 5).toInt
theorem mW_iff {v a b : Int32} : mWithin v a b = true ↔ a.toInt ≤ v.toInt ∧ v.toInt ≤ b.toInt := by
  unfold mWithin
  split
  · rename_i h; rw [tI_lt] at h; simp; omega
  · rename_i h; rw [tI_lt] at h
    split
    · rename_i h2; rw [tI_lt] at h2; simp; omega
    · rename_i h2; rw [tI_lt] at h2; simp; omega
theorem mW_n {v : Int32} {a b : Int32} (h : mWithin v a b = true) (ha : 0 ≤ a.toInt) : v = nI (ix v) := nI_ix (by have := mW_iff.mp h; omega)
theorem mW_b {v : Int32} {a b : Int32} (h : mWithin v a b = true) (ha : 0 ≤ a.toInt) : a.toInt ≤ (ix v : Int) ∧ (ix v : Int) ≤ b.toInt := by
  have h1 := mW_iff.mp h
  rw [ix_toInt (by omega)]
  exact h1
theorem mW_k {v : Int32} (h : mWithin v 1 99 = true) : v = nI (ix v) ∧ 1 ≤ ix v ∧ ix v ≤ 99 := by
  have h2 := mW_b h (by decide)
  have e1 : (1 : Int32).toInt = 1 := by decide
  have e2 : (99 : Int32).toInt = 99 := by decide
  rw [e1, e2] at h2
  exact ⟨mW_n h (by decide), by omega, by omega⟩
theorem mSec_k {M : dkM} (hI : mI M) {s : Int32} (h : mSec M s = true) : s = nI (ix s) ∧ ix s < 64 ∧ (ix s : Int) < (M 112 0).toInt := by
  obtain ⟨⟨h1, h2⟩, -⟩ := hI
  have h3 := mW_b h (by decide)
  rw [tI_sub (by have : (1 : Int32).toInt = 1 := by decide
                 omega) (by have : (1 : Int32).toInt = 1 := by decide
                            omega)] at h3
  have e1 : (1 : Int32).toInt = 1 := by decide
  rw [e1] at h3
  exact ⟨mW_n h (by decide), by omega, by omega⟩
theorem mKey_b {M : dkM} (hI : mI M) (s : Int32) : 1 ≤ (mKeyAt M s).toInt ∧ (mKeyAt M s).toInt ≤ 99 := by
  obtain ⟨-, h1, h2, -⟩ := hI
  unfold mKeyAt
  split
  · rename_i hr
    have h3 : 1 ≤ (M 112 2).toInt ∧ (M 112 2).toInt ≤ 99 := by
      rcases h2 with h | h
      · simp [mRek, h] at hr
      · exact ⟨h.1, h.2.1⟩
    split <;> split <;> assumption
  · exact h1
theorem mKey_k {M : dkM} (hI : mI M) (s : Int32) : mKeyAt M s = nI (ix (mKeyAt M s)) ∧ 11 + ix (mKeyAt M s) < 367 := by
  have h := mKey_b hI s
  have h2 := ix_toInt (x := mKeyAt M s) (by omega)
  exact ⟨nI_ix (by omega), by omega⟩
theorem mI.own {M : dkM} (hI : mI M) : M 112 1 = nI (ix (M 112 1)) ∧ 11 + ix (M 112 1) < 367 := by
  have h := hI.2.1
  have h2 := ix_toInt (x := M 112 1) (by omega)
  exact ⟨nI_ix (by omega), by omega⟩
theorem mI.sec {M : dkM} (hI : mI M) : ix (M 112 0) ≤ 64 := by
  have h := hI.1
  have h2 := ix_toInt (x := M 112 0) (by omega)
  omega
theorem mI.zone {M : dkM} (hI : mI M) : ¬ M 112 7 = 0 := by
  intro h
  have h2 := hI.2.2.2.1.1
  rw [h] at h2
  exact absurd h2 (by decide)
theorem mRek_t {M : dkM} (h : mRek M = true) : ¬ M 112 2 = -6 := by
  intro z
  simp [mRek, z] at h
theorem mI.pos {M : dkM} (hI : mI M) (hr : mRek M = true) : 0 ≤ (M 112 3).toInt ∧ (M 112 3).toInt ≤ (M 112 0).toInt := by
  rcases hI.2.2.1 with h | h
  · exact absurd h (mRek_t hr)
  · exact h.2.2
theorem mFrom_i {M : dkM} (hI : mI M) (hr : mRek M = true) : (mFrom M).toInt = if M 112 4 = 1 then (M 112 3).toInt else max 0 ((M 112 3).toInt - (M 112 7).toInt) := by
  have hp := hI.pos hr
  obtain ⟨h1, -, -, h4, -⟩ := hI
  unfold mFrom
  split
  · rfl
  · have e : (M 112 3 - M 112 7).toInt = (M 112 3).toInt - (M 112 7).toInt := tI_sub (by omega) (by omega)
    have e0 : (0 : Int32).toInt = 0 := by decide
    split
    · rename_i h; rw [tI_le, e, e0] at h; rw [e]; omega
    · rename_i h; rw [tI_le, e, e0] at h; rw [e0]; omega
theorem mTo_i {M : dkM} (hI : mI M) (hr : mRek M = true) : (mTo M).toInt = if M 112 4 = 0 then (M 112 3).toInt else min (M 112 0).toInt ((M 112 3).toInt + (M 112 7).toInt) := by
  have hp := hI.pos hr
  obtain ⟨h1, -, -, h4, -⟩ := hI
  unfold mTo
  split
  · rfl
  · have e : (M 112 3 + M 112 7).toInt = (M 112 3).toInt + (M 112 7).toInt := tI_add (by omega) (by omega)
    split
    · rename_i h; rw [tI_le, e] at h; rw [e]; omega
    · rename_i h; rw [tI_le, e] at h; omega
theorem mFrom_b {M : dkM} (hI : mI M) (hr : mRek M = true) : 0 ≤ (mFrom M).toInt ∧ (mFrom M).toInt ≤ (M 112 0).toInt := by
  rw [mFrom_i hI hr]
  have hp := hI.pos hr
  obtain ⟨h1, -, -, h4, -⟩ := hI
  split <;> omega
theorem mTo_b {M : dkM} (hI : mI M) (hr : mRek M = true) : 0 ≤ (mTo M).toInt ∧ (mTo M).toInt ≤ (M 112 0).toInt := by
  rw [mTo_i hI hr]
  have hp := hI.pos hr
  obtain ⟨h1, -, -, h4, -⟩ := hI
  split <;> omega
theorem put_st {M : dkM} {k j : Nat} {x : Int32} : dk_put M 112 k x 112 j = if j = k then x else M 112 j := by simp [dk_put]
theorem mClr_lo (M : dkM) (n : Nat) {j : Nat} (h : j < 175) : mClr M n 112 j = M 112 j := by
  unfold mClr; rw [if_neg (by omega)]
theorem mClose_lo (M : dkM) {j : Nat} (h : j < 175) (h5 : j ≠ 5) (h6 : j ≠ 6) : mClose M 112 j = M 112 j := by
  rw [mClose, mClr_lo _ _ h, put_k h6, put_k h5]
theorem mEnds_lo (M : dkM) {j : Nat} (h : j < 175) (h2 : j ≠ 2) (h3 : j ≠ 3) (h4 : j ≠ 4) (h5 : j ≠ 5) (h6 : j ≠ 6) : mEnds M 112 j = M 112 j := by
  rw [mEnds, mClose_lo _ h h5 h6, put_k h4, put_k h3, put_k h2]
theorem mEnds_2 (M : dkM) : mEnds M 112 2 = -6 := by
  rw [mEnds, mClose_lo _ (by decide) (by decide) (by decide), put_k (by decide), put_k (by decide), put_same]
theorem mEnds_5 (M : dkM) : mEnds M 112 5 = 0 := by
  rw [mEnds, mClose, mClr_lo _ _ (by decide), put_k (by decide), put_same]
theorem mClose_5 (M : dkM) : mClose M 112 5 = 0 := by
  rw [mClose, mClr_lo _ _ (by decide), put_k (by decide), put_same]
theorem mfL_lo (M : dkM) (n : Int32) (k : Nat) {j : Nat} (h : j < 111) : mfL M n k 112 j = M 112 j := by
  induction k with
  | zero => rfl
  | succ k ih => rw [mfL, put_k (by omega), put_k (by omega), put_k (by omega), ih]
theorem mjL_lo (M : dkM) (f k : Nat) {j : Nat} (h : j < 175) : mjL M f k 112 j = M 112 j := by
  induction k with
  | zero => rfl
  | succ k ih => rw [mjL, put_k (by omega), ih]
theorem mFlL_lo (M : dkM) (k : Nat) {j : Nat} (h : j < 111) : mFlL M k 112 j = M 112 j := by
  induction k with
  | zero => rfl
  | succ k ih => rw [mFlL, put_k (by omega), put_k (by omega), ih]
theorem mFluL_lo (M : dkM) (k : Nat) {j : Nat} (h : j < 111) : mFluL M k 112 j = M 112 j := by
  induction k with
  | zero => rfl
  | succ k ih =>
    rw [mFluL]
    split
    · rw [put_k (by omega), put_k (by omega), ih]
    · exact ih
theorem mVals_ne (M : dkM) (k : Nat) {a : Nat} (h : a ≠ 117) : mVals M k a = M a := by
  induction k with
  | zero => rfl
  | succ k ih => rw [mVals, dk_put_ne h, ih]
theorem mI_congr {M M' : dkM} (h : ∀ j, j < 8 → M' 112 j = M 112 j) (hI : mI M) : mI M' := by
  unfold mI
  rw [h 0 (by decide), h 1 (by decide), h 2 (by decide), h 3 (by decide), h 5 (by decide), h 7 (by decide)]
  exact hI
/-- the bounds of 0, 1, 2, 3, 5, 7 alone -/
theorem mI_of {M M' : dkM} (h0 : M' 112 0 = M 112 0) (h1 : M' 112 1 = M 112 1) (h2 : M' 112 2 = M 112 2) (h3 : M' 112 3 = M 112 3) (h7 : M' 112 7 = M 112 7) (h5 : 0 ≤ (M' 112 5).toInt) (hI : mI M) : mI M' := by
  unfold mI
  rw [h0, h1, h2, h3, h7]
  exact ⟨hI.1, hI.2.1, hI.2.2.1, hI.2.2.2.1, h5⟩
theorem mI_ends {M : dkM} (h0 : 4 ≤ (M 112 0).toInt ∧ (M 112 0).toInt ≤ 64) (h1 : 1 ≤ (M 112 1).toInt ∧ (M 112 1).toInt ≤ 99) (h7 : 1 ≤ (M 112 7).toInt ∧ (M 112 7).toInt ≤ 8) : mI (mEnds M) := by
  unfold mI
  rw [mEnds_2, mEnds_5, mEnds_lo _ (by decide) (by decide) (by decide) (by decide) (by decide) (by decide), mEnds_lo _ (by decide) (by decide) (by decide) (by decide) (by decide) (by decide), mEnds_lo (j := 7) _ (by decide) (by decide) (by decide) (by decide) (by decide) (by decide)]
  exact ⟨h0, h1, Or.inl rfl, h7, by decide⟩
theorem mI_end {M : dkM} (hI : mI M) (hr : mRek M = true) : mI (mEnd M) := by
  have ht : 1 ≤ (M 112 2).toInt ∧ (M 112 2).toInt ≤ 99 := by
    rcases hI.2.2.1 with h | h
    · exact absurd h (mRek_t hr)
    · exact ⟨h.1, h.2.1⟩
  unfold mEnd
  split
  · refine mI_ends ?_ ?_ ?_
    · rw [put_k (by decide), put_k (by decide)]; exact hI.1
    · rw [put_k (by decide), put_same]; exact ht
    · rw [put_k (by decide), put_k (by decide)]; exact hI.2.2.2.1
  · split
    · exact mI_ends hI.1 hI.2.1 hI.2.2.2.1
    · exact hI
theorem mRek_congr {M M' : dkM} (h : M' 112 2 = M 112 2) : mRek M' = mRek M := by unfold mRek; rw [h]
theorem mI_step {M : dkM} (hI : mI M) (hr : mRek M = true) : mI (mStep M) := by
  unfold mStep
  split
  · have e : ∀ j, j < 111 → j ≠ 6 → dk_put (mJr M) 112 6 (mTo M - mFrom M) 112 j = M 112 j := fun j a b => by rw [put_k b, mJr, mjL_lo _ _ _ (by omega)]
    exact mI_of (e 0 (by decide) (by decide)) (e 1 (by decide) (by decide)) (e 2 (by decide) (by decide)) (e 3 (by decide) (by decide)) (e 7 (by decide) (by decide)) (by rw [e 5 (by decide) (by decide)]; exact hI.2.2.2.2) hI
  · split
    · rename_i hlt
      have hb := mTo_b hI hr
      have hf := mFrom_b hI hr
      have h5 := hI.2.2.2.2
      have h0 := hI.1
      rw [tI_lt, tI_sub (by omega) (by omega)] at hlt
      have e : ∀ j, j < 111 → j ≠ 5 → mRwS M (ix (mFrom M + M 112 5)) 112 j = M 112 j := fun j a b => by rw [mRwS, put_k (by omega), put_k b]
      have e5 : mRwS M (ix (mFrom M + M 112 5)) 112 5 = M 112 5 + 1 := by rw [mRwS, put_k (by omega), put_same]
      refine mI_of (e 0 (by decide) (by decide)) (e 1 (by decide) (by decide)) (e 2 (by decide) (by decide)) (e 3 (by decide) (by decide)) (e 7 (by decide) (by decide)) ?_ hI
      have e1 : (1 : Int32).toInt = 1 := by decide
      rw [e5, tI_add (by omega) (by omega)]
      omega
    · have hb := mTo_b hI hr
      have hf := mFrom_b hI hr
      have e : ∀ j, j < 175 → j ≠ 5 → j ≠ 6 → j ≠ 3 → mClose (dk_put M 112 3 (if M 112 4 = 1 then mTo M else mFrom M)) 112 j = M 112 j := fun j a b c f => by rw [mClose_lo _ a b c, put_k f]
      have e3 : mClose (dk_put M 112 3 (if M 112 4 = 1 then mTo M else mFrom M)) 112 3 = (if M 112 4 = 1 then mTo M else mFrom M) := by rw [mClose_lo _ (by decide) (by decide) (by decide), put_same]
      refine mI_end ?_ ((mRek_congr (e 2 (by decide) (by decide) (by decide) (by decide))).trans hr)
      unfold mI
      rw [e 0 (by decide) (by decide) (by decide) (by decide), e 1 (by decide) (by decide) (by decide) (by decide), e 2 (by decide) (by decide) (by decide) (by decide), e 7 (by decide) (by decide) (by decide) (by decide), e3, mClose_5]
      refine ⟨hI.1, hI.2.1, ?_, hI.2.2.2.1, by decide⟩
      rcases hI.2.2.1 with h | h
      · exact Or.inl h
      · refine Or.inr ⟨h.1, h.2.1, ?_⟩
        split
        · exact hb
        · exact hf
theorem mStepsL_I : ∀ (n : Nat) (M : dkM) (k : Nat), mI M → mI (mStepsL n M k).2 := by
  intro n
  induction n with
  | zero => intro M k h; exact h
  | succ n ih =>
    intro M k h
    unfold mStepsL
    split
    · rename_i hr; exact ih _ _ (mI_step h hr)
    · exact h
theorem mCopy_0 (M : dkM) (oa p ob q : Nat) : mCopy M oa p ob q 0 = M := by
  funext a b; unfold mCopy; rw [if_neg (by omega)]
theorem mCopy_s (M : dkM) {oa p ob q k : Nat} (h : oa ≠ ob) : dk_put (mCopy M oa p ob q k) ob (q + k) (mCopy M oa p ob q k oa (p + k)) = mCopy M oa p ob q (k + 1) := by
  funext a b
  have e : mCopy M oa p ob q k oa (p + k) = M oa (p + k) := by unfold mCopy; rw [if_neg (by omega)]
  rw [e]
  unfold dk_put mCopy
  by_cases ha : a = ob
  · by_cases hb : b = q + k
    · rw [if_pos ha, if_pos hb, if_pos (by omega), show b - q = k by omega]
    · rw [if_pos ha, if_neg hb]
      have : (a = ob ∧ q ≤ b ∧ b < q + k) ↔ (a = ob ∧ q ≤ b ∧ b < q + (k + 1)) := by omega
      simp only [this]
  · rw [if_neg ha, if_neg (by omega), if_neg (by omega)]
theorem mCopy_ne (M : dkM) {oa p ob q n a : Nat} (h : a ≠ ob) : mCopy M oa p ob q n a = M a := by
  funext b; unfold mCopy; rw [if_neg (by omega)]
theorem mShift_0 (M : dkM) : mShift M 0 = M := by funext a b; unfold mShift; rw [if_neg (by omega)]
theorem mShift_s (M : dkM) (k : Nat) : dk_put (mShift M k) 115 k (mShift M k 115 (k + 367)) = mShift M (k + 1) := by
  funext a b
  have e : mShift M k 115 (k + 367) = M 115 (k + 367) := by unfold mShift; rw [if_neg (by omega)]
  rw [e]
  unfold dk_put mShift
  by_cases ha : a = 115
  · by_cases hb : b = k
    · rw [if_pos ha, if_pos hb, if_pos (by omega), hb]
    · rw [if_pos ha, if_neg hb]
      have : (a = 115 ∧ b < k) ↔ (a = 115 ∧ b < k + 1) := by omega
      simp only [this]
  · rw [if_neg ha, if_neg (by omega), if_neg (by omega)]
theorem mClr_0 (M : dkM) : mClr M 0 = M := by funext a b; unfold mClr; rw [if_neg (by omega)]
theorem mClr_s (M : dkM) (k : Nat) : dk_put (mClr M k) 112 (175 + k) (-6) = mClr M (k + 1) := by
  funext a b
  unfold dk_put mClr
  by_cases ha : a = 112
  · by_cases hb : b = 175 + k
    · rw [if_pos ha, if_pos hb, if_pos (by omega)]
    · rw [if_pos ha, if_neg hb]
      have : (a = 112 ∧ 175 ≤ b ∧ b < 175 + k) ↔ (a = 112 ∧ 175 ≤ b ∧ b < 175 + (k + 1)) := by omega
      simp only [this]
  · rw [if_neg ha, if_neg (by omega), if_neg (by omega)]
theorem cntA0 {p : Nat → Bool} {k : Nat} (h : p k = false) : nI (cnt p k) + 0 = nI (cnt p (k + 1)) := by
  rw [cnt, if_neg (by rw [h]; decide), show (0 : Int32) = nI 0 from rfl, nI_add]; rfl
theorem cntA1 {p : Nat → Bool} {k : Nat} (h : p k = true) : nI (cnt p k) + 1 = nI (cnt p (k + 1)) := by
  rw [cnt, if_pos h, nI_1]
theorem cntA {p : Nat → Bool} {k : Nat} {x : Int32} (h : (p k = false ∧ x = 0) ∨ (p k = true ∧ x = 1)) : some (Value.int (nI (cnt p k) + x)) = some (Value.int (nI (cnt p (k + 1)))) := by
  rcases h with ⟨h, rfl⟩ | ⟨h, rfl⟩
  · rw [cntA0 h]
  · rw [cntA1 h]
def rI (M : dkM) : Prop := 0 ≤ (M 111 4).toInt ∧ (M 111 4).toInt ≤ 6
theorem mRec1_b {M : dkM} (h : rI M) : mRec1 M 111 4 = nI (ix (mRec1 M 111 4)) ∧ ix (mRec1 M 111 4) ≤ 5 := by
  have hb : 0 ≤ (mRec1 M 111 4).toInt ∧ (mRec1 M 111 4).toInt ≤ 5 := by
    unfold mRec1
    split
    · rename_i h6; rw [put_same, h6]; decide
    · rename_i h6
      have : (M 111 4).toInt ≠ 6 := fun z => h6 (Int32.toInt_inj.mp z)
      exact ⟨h.1, by have := h.2; omega⟩
  have h2 := ix_toInt hb.1
  exact ⟨nI_ix hb.1, by omega⟩
theorem mRec1_ne (M : dkM) {a : Nat} (h : a ≠ 115) (h2 : a ≠ 111) : mRec1 M a = M a := by
  unfold mRec1
  split
  · rw [dk_put_ne h2]; funext b; unfold mShift; rw [if_neg (by omega)]
  · rfl
theorem mRec_ne (M : dkM) {a : Nat} (h : a ≠ 115) (h2 : a ≠ 111) : mRec M a = M a := by
  rw [mRec, dk_put_ne h2, mCopy_ne _ h, mRec1_ne _ h h2]
theorem mRec_st (M : dkM) : mRec M 112 = M 112 := mRec_ne M (by decide) (by decide)
theorem mRec1_111 (M : dkM) {j : Nat} (h : j ≠ 4) : mRec1 M 111 j = M 111 j := by
  unfold mRec1
  split
  · rw [put_k h]; unfold mShift; rw [if_neg (by omega)]
  · rfl
theorem mRec_111 (M : dkM) {j : Nat} (h : j ≠ 4) : mRec M 111 j = M 111 j := by
  rw [mRec, put_k h, mCopy_ne _ (by decide), mRec1_111 M h]
theorem mI_row {M M' : dkM} (h : M' 112 = M 112) (hI : mI M) : mI M' := mI_congr (fun j _ => by rw [h]) hI
theorem mI_rec {M : dkM} (hI : mI M) : mI (mRec M) := mI_row (mRec_st M) hI
theorem mIsKey_w {M : dkM} {k : Int32} (h : mIsKey M k = true) : mWithin k 1 99 = true := by
  unfold mIsKey at h
  split at h
  · assumption
  · cases h
theorem mEnd_lo (M : dkM) {j : Nat} (h : j < 175) (h1 : j ≠ 1) (h2 : j ≠ 2) (h3 : j ≠ 3) (h4 : j ≠ 4) (h5 : j ≠ 5) (h6 : j ≠ 6) (h9 : j ≠ 9) : mEnd M 112 j = M 112 j := by
  unfold mEnd
  split
  · rw [mEnds_lo _ h h2 h3 h4 h5 h6, put_k h9, put_k h1]
  · split
    · exact mEnds_lo _ h h2 h3 h4 h5 h6
    · rfl
theorem mRw_k {M : dkM} (hI : mI M) (hr : mRek M = true) (hlt : M 112 5 < mTo M - mFrom M) : 0 ≤ (mFrom M + M 112 5).toInt ∧ ix (mFrom M + M 112 5) < 64 := by
  have hb := mTo_b hI hr
  have hf := mFrom_b hI hr
  have h5 := hI.2.2.2.2
  have h0 := hI.1
  rw [tI_lt, tI_sub (by omega) (by omega)] at hlt
  have e : (mFrom M + M 112 5).toInt = (mFrom M).toInt + (M 112 5).toInt := tI_add (by omega) (by omega)
  have h2 := ix_toInt (x := mFrom M + M 112 5) (by omega)
  omega
theorem mI_rw {M : dkM} (hI : mI M) (hr : mRek M = true) (hlt : M 112 5 < mTo M - mFrom M) : mI (dk_put M 112 5 (M 112 5 + 1)) := by
  have hb := mTo_b hI hr
  have hf := mFrom_b hI hr
  have h5 := hI.2.2.2.2
  have h0 := hI.1
  rw [tI_lt, tI_sub (by omega) (by omega)] at hlt
  have e1 : (1 : Int32).toInt = 1 := by decide
  refine mI_of (put_k (by decide)) (put_k (by decide)) (put_k (by decide)) (put_k (by decide)) (put_k (by decide)) ?_ hI
  rw [put_same, tI_add (by omega) (by omega)]
  omega
theorem mI_fails {M : dkM} (hI : mI M) : mI (mFails M) := by
  have e : ∀ j, j < 8 → j ≠ 5 → j ≠ 6 → mFails M 112 j = M 112 j := fun j a b c => by
    rw [mFails, put_k (by omega), mFails1, mClose_lo _ (by omega) b c, mFlL_lo _ _ (by omega)]
  have e5 : mFails M 112 5 = 0 := by rw [mFails, put_k (by decide), mFails1, mClose_5]
  exact mI_of (e 0 (by decide) (by decide) (by decide)) (e 1 (by decide) (by decide) (by decide)) (e 2 (by decide) (by decide) (by decide)) (e 3 (by decide) (by decide) (by decide)) (e 7 (by decide) (by decide) (by decide)) (by rw [e5]; decide) hI
theorem mI_then {M : dkM} (hI : mI M) : mI (mThenM M) := mI_fails (mI_row (mCopy_ne M (by decide)) hI)
theorem mKept_st (M : dkM) : mKept M 112 = M 112 := mCopy_ne M (by decide)
theorem mClr_row (M : dkM) (n : Nat) {a : Nat} (h : a ≠ 112) : mClr M n a = M a := by funext b; unfold mClr; rw [if_neg (by omega)]
theorem mFlL_row (M : dkM) (k : Nat) {a : Nat} (h : a ≠ 112) : mFlL M k a = M a := by
  induction k with
  | zero => rfl
  | succ k ih => rw [mFlL, dk_put_ne h, dk_put_ne h, ih]
theorem mFails_row (M : dkM) {a : Nat} (h : a ≠ 112) : mFails M a = M a := by
  rw [mFails, dk_put_ne h, mFails1, mClose, mClr_row _ _ h, dk_put_ne h, dk_put_ne h, mFlL_row _ _ h]
theorem mFlL_hi (M : dkM) (n : Nat) (hn : n ≤ 64) {j : Nat} (h : 367 ≤ j) : mFlL M n 112 j = M 112 j := by
  induction n with
  | zero => rfl
  | succ k ih => rw [mFlL, put_k (by omega), put_k (by omega), ih (by omega)]
theorem mFails_hi (M : dkM) {j : Nat} (h : 367 ≤ j) : mFails M 112 j = M 112 j := by
  rw [mFails, put_k (by omega), mFails1, mClose]
  unfold mClr
  rw [if_neg (by omega), put_k (by omega), put_k (by omega), mFlL_hi _ _ (by decide) h]
/-- a forecast leaves the state as it was -/
theorem mThen_st (M : dkM) : (mThen M).2 112 = M 112 := by
  funext b
  show mCopy (mThenM M) 114 0 112 0 367 112 b = _
  unfold mCopy
  by_cases h : b < 367
  · rw [if_pos (by omega), mThenM, mFails_row _ (by decide)]
    unfold mCopy
    rw [if_pos (by omega)]
    congr 1
    omega
  · rw [if_neg (by omega), mThenM, mFails_hi _ (by omega), mCopy_ne _ (by decide)]
theorem mI_flL {M : dkM} (hI : mI M) (k : Nat) : mI (mFluL M k) := mI_congr (fun j hj => mFluL_lo M k (by omega)) hI
theorem mI_vals {M : dkM} (hI : mI M) (k : Nat) : mI (mVals M k) := mI_row (mVals_ne M k (by decide)) hI
theorem mI_fail {M : dkM} (hI : mI M) : mI (mFailM M) := mI_fails (mI_vals (mI_rec hI) _)
theorem mWhyW_ok {M : dkM} {s v : Int32} (h : ¬ mWhyW M s v < 0) : mSec M s = true := by
  unfold mWhyW at h
  split at h
  · assumption
  · exact absurd (by decide) h
def tI (M : dkM) : Prop := 0 ≤ (M 111 6).toInt ∧ (M 111 6).toInt ≤ 80
theorem tI.n {M : dkM} (h : tI M) : M 111 6 = nI (ix (M 111 6)) := nI_ix h.1
theorem tI.b {M : dkM} (h : tI M) : ix (M 111 6) ≤ 80 := by have := ix_toInt h.1; have := h.2; omega
theorem tI.l {M : dkM} (h : tI M) (h8 : ¬ M 111 6 = 80) : ix (M 111 6) < 80 := by
  have h2 := h.b
  have h3 : ix (M 111 6) ≠ 80 := fun z => h8 (by rw [h.n, z]; rfl)
  omega
theorem mChar_k {M : dkM} (h : tI M) {p : Int32} (hp : 0 ≤ p.toInt) (hl : ¬ M 111 6 ≤ p) : p = nI (ix p) ∧ ix p < 80 := by
  rw [tI_le] at hl
  have := h.2
  have h2 := ix_toInt hp
  exact ⟨nI_ix hp, by omega⟩
theorem mUn_b {M : dkM} (h : rI M) (h0 : ¬ M 111 4 = 0) : M 111 4 - 1 = nI (ix (M 111 4 - 1)) ∧ ix (M 111 4 - 1) ≤ 5 := by
  have hn : (M 111 4).toInt ≠ 0 := fun z => h0 (Int32.toInt_inj.mp z)
  have e1 : (1 : Int32).toInt = 1 := by decide
  have h1 := h.1
  have h2 := h.2
  have e : (M 111 4 - 1).toInt = (M 111 4).toInt - 1 := by rw [tI_sub (by omega) (by omega), e1]
  have h3 := ix_toInt (x := M 111 4 - 1) (by omega)
  exact ⟨nI_ix (by omega), by omega⟩
theorem mW_nI {k : Nat} (h : k < 13) : mWithin (nI k) 0 12 = true := by
  match k, h with
  | 0, _ => decide
  | 1, _ => decide
  | 2, _ => decide
  | 3, _ => decide
  | 4, _ => decide
  | 5, _ => decide
  | 6, _ => decide
  | 7, _ => decide
  | 8, _ => decide
  | 9, _ => decide
  | 10, _ => decide
  | 11, _ => decide
  | 12, _ => decide
  | k + 13, h => omega
