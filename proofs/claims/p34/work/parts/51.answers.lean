/-! the model's answers to the acts, in the law's words -/
section AN
variable {M N Mx : dkM} {e q d c w j : Nat}
theorem mk_is (h : DS Mx e (N 112)) (r : LR M q d c w j (N 112)) {k : Nat} (h1 : 1 ≤ k) (h2 : k ≤ 5) : mIsKey N (nI k) = true ↔ 0 ≤ M q (10 + k) := by
  rw [mIsKey_k h1 (by omega), (r.k6 h h1 h2).1]
  by_cases z : N 112 (11 + k) = -6
  · simp [z]
  · simp [z]
theorem w1_99 {k : Nat} (h1 : 1 ≤ k) (h2 : k ≤ 5) : mWithin (nI k) 1 99 = true := mW_iff.mpr (by rw [nI_toInt (by omega), e1I, e99I]; omega)
theorem keys_s {k : Nat} (h1 : 1 ≤ k) (h2 : k ≤ 5) (v : Int32) : mKeys (mAddM N (nI k) v) 99 + (if N 112 (11 + k) = -6 then 0 else 1) = mKeys N 99 + (if v = -6 then 0 else 1) := by
  obtain ⟨k2, rfl⟩ : ∃ k2, k = k2 + 1 := ⟨k - 1, by omega⟩
  have hs := cnt_set (p := fun i => N 112 (11 + (i + 1)) != -6) (q := fun i => mAddM N (nI (k2 + 1)) v 112 (11 + (i + 1)) != -6) (n := 99) (j := k2) (by omega) (fun i hi => by unfold mAddM; rw [ix_nI (by omega), put_k (by omega), mRec_st])
  have e1 : mAddM N (nI (k2 + 1)) v 112 (11 + (k2 + 1)) = v := by unfold mAddM; rw [ix_nI (by omega), put_same]
  rw [e1] at hs
  unfold mKeys
  have t : ∀ x : Int32, (if (x != -6) = true then (1 : Nat) else 0) = if x = -6 then 0 else 1 := fun x => by
    by_cases z : x = -6 <;> simp [z]
  rw [t, t] at hs
  exact hs
theorem a_add (h : DS Mx e (N 112)) (r : LR M q d c w j (N 112)) (h5 : lKyN M q 5 = mKeys N 99) {k : Nat} (h1 : 1 ≤ k) (h2 : k ≤ 5) {v : Int32} (hv : 0 ≤ v.toInt ∧ v.toInt ≤ 65535) : (0 ≤ M q (10 + k) → mAdd N (nI k) v = (-3, N)) ∧ (¬ 0 ≤ M q (10 + k) → mAdd N (nI k) v = (nI (lKyN M q 5 + 1), mAddM N (nI k) v)) := by
  have hw : mWithin (nI k) 1 99 = true ∧ mWithin v 0 65535 = true := ⟨w1_99 h1 h2, mW_iff.mpr (by rw [e0I, e65I]; exact hv)⟩
  have hi := mk_is h r h1 h2
  have hle : lKyN M q 5 ≤ 5 := cnt_le _ _
  unfold mAdd
  rw [if_pos hw]
  refine ⟨fun z => by rw [if_pos (hi.mpr z)], fun z => ?_⟩
  rw [if_neg (fun y => z (hi.mp y)), if_neg]
  · have hs := keys_s (N := N) h1 h2 v
    have z6 : N 112 (11 + k) = -6 := by
      by_cases y : N 112 (11 + k) = -6
      · exact y
      · exact absurd ((r.k6 h h1 h2).1.mpr y) z
    have v6 : ¬ v = -6 := by intro y; rw [y, neg6] at hv; omega
    rw [if_pos z6, if_neg v6] at hs
    rw [h5, show mKeys (mAddM N (nI k) v) 99 = mKeys N 99 + 1 by omega]
  · intro y
    have := congrArg Int32.toInt y
    rw [nI_toInt (by omega), show (8 : Int32).toInt = 8 from by decide] at this
    omega
theorem a_rem (h : DS Mx e (N 112)) (r : LR M q d c w j (N 112)) (h5 : lKyN M q 5 = mKeys N 99) {k : Nat} (h1 : 1 ≤ k) (h2 : k ≤ 5) : (¬ 0 ≤ M q (10 + k) → mRem N (nI k) = (-1, N)) ∧ (0 ≤ M q (10 + k) → (nI k = M q 1 ∨ nI k = M q 2) → mRem N (nI k) = (-3, N)) ∧ (0 ≤ M q (10 + k) → ¬ nI k = M q 1 → ¬ nI k = M q 2 → mRem N (nI k) = (nI (lKyN M q 5) - 1, mAddM N (nI k) (-6))) := by
  have hi := mk_is h r h1 h2
  rw [r.k (k := 1) (by decide) (by decide), r.k (k := 2) (by decide) (by decide)]
  unfold mRem
  refine ⟨fun z => by rw [if_neg (fun y => z (hi.mp y))], fun z y => ?_, fun z y1 y2 => ?_⟩
  · rw [if_pos (hi.mpr z)]
    rcases y with y | y
    · rw [if_pos y]
    · by_cases y1 : nI k = N 112 1
      · rw [if_pos y1]
      · rw [if_neg y1, if_pos y]
  · rw [if_pos (hi.mpr z), if_neg y1, if_neg y2]
    have hs := keys_s (N := N) h1 h2 (-6)
    have z6 : ¬ N 112 (11 + k) = -6 := (r.k6 h h1 h2).1.mp z
    rw [if_neg z6, if_pos rfl] at hs
    rw [h5, show mKeys N 99 = mKeys (mAddM N (nI k) (-6)) 99 + 1 by omega, nI_p]
theorem sec_ok (h : DS M 1 (N 112)) {s : Nat} (hs : s < ix (N 112 0)) : mSec N (nI s) = true := mSec_nI h hs
theorem a_write (Sm : Sim M N) (r : LR M q d c w j (N 112)) {s : Nat} (hs : s < ix (N 112 0)) {v : Int32} (hv : 0 ≤ v.toInt ∧ v.toInt ≤ 65535) : (M c s < 0 → nI (lCaN M c (ix (M q 0))) = 8 → mWrite N (nI s) v = (-4, N)) ∧ (¬ (M c s < 0 ∧ nI (lCaN M c (ix (M q 0))) = 8) → mWrite N (nI s) v = (nI (mCached (mWritesM (mRec N) (nI s) v)), mWritesM (mRec N) (nI s) v)) := by
  have hsec := Sm.ds.sec
  have h6 := opt6 (Sm.ds.cc (k := s) (by omega))
  have hw : mWhyW N (nI s) v = if N 112 (239 + s) = -6 ∧ nI (mCached N) = 8 then -4 else 0 := by
    unfold mWhyW
    rw [if_pos (mSec_nI Sm.ds hs), if_pos (mW_iff.mpr (by rw [e0I, e65I]; exact hv)), ix_nI (by omega)]
  rw [r.ca Sm.ds, (r.2.2.2.2 s hs).1.2, h6.2]
  unfold mWrite
  rw [hw]
  refine ⟨fun y1 y2 => ?_, fun y => ?_⟩
  · rw [show (if N 112 (239 + s) = -6 ∧ nI (mCached N) = 8 then (-4 : Int32) else 0) = -4 from if_pos ⟨y1, y2⟩]; rfl
  · rw [show (if N 112 (239 + s) = -6 ∧ nI (mCached N) = 8 then (-4 : Int32) else 0) = 0 from if_neg y]; rfl
theorem a_start (h : DS Mx e (N 112)) (r : LR M q d c w j (N 112)) {k : Nat} (h1 : 1 ≤ k) (h2 : k ≤ 5) : (¬ 0 ≤ M q (10 + k) → mStart N (nI k) = (-1, N)) ∧ (0 ≤ M q (10 + k) → (0 ≤ M q 2 ∨ nI k = M q 1) → mStart N (nI k) = (-3, N)) ∧ (0 ≤ M q (10 + k) → ¬ 0 ≤ M q 2 → ¬ nI k = M q 1 → mStart N (nI k) = (mLeft (mStartM N (nI k)), mStartM N (nI k))) := by
  have hi := mk_is h r h1 h2
  rw [r.k (k := 1) (by decide) (by decide)]
  unfold mStart
  refine ⟨fun z => by rw [if_neg (fun y => z (hi.mp y))], fun z y => ?_, fun z y1 y2 => ?_⟩
  · rw [if_pos (hi.mpr z)]
    rcases r.q2 h with ⟨z1, -, z2, -⟩ | ⟨z1, -, -, z2, -⟩
    · rw [if_pos z1]
    · rw [z1]
      rcases y with y | y
      · exact absurd y z2
      · rw [if_neg (by decide), if_pos y]
  · rw [if_pos (hi.mpr z)]
    rcases r.q2 h with ⟨z1, -, z2, -⟩ | ⟨z1, -, -, z2, -⟩
    · exact absurd z2 y1
    · rw [z1, if_neg (by decide), if_neg y2]
theorem LR.startp (D : lD q d c w j) (h : DS Mx e (N 112)) (r : LR M q d c w j (N 112)) (k : Int32) (h2 : ¬ 0 ≤ M q 2) : LR (dk_put (dk_put (dk_put M q 2 k) q 3 0) q 4 1) q d c w j (mStartM N k 112) := by
  obtain ⟨⟨d1, d2, d3, d4⟩, -⟩ := D
  have hr : mRek N = false := by
    rcases r.q2 h with ⟨z1, -, z2, -⟩ | ⟨z1, -⟩
    · exact absurd z2 h2
    · exact z1
  have h6 := (h.off hr).2.2.2.2.2
  have q6 : M q 6 = 0 := by
    rcases r.2.1 with y | y
    · exact y.1
    · rw [h6] at y; exact absurd y.2.1 (by decide)
  have hn : ∀ b, b ≠ 2 → b ≠ 3 → b ≠ 4 → mStartM N k 112 b = N 112 b := fun b y2 y3 y4 => by unfold mStartM; rw [put_k y4, put_k y3, put_k y2, mRec_st]
  have hm : ∀ b, b ≠ 2 → b ≠ 3 → b ≠ 4 → dk_put (dk_put (dk_put M q 2 k) q 3 0) q 4 1 q b = M q b := fun b y2 y3 y4 => by rw [put_k y4, put_k y3, put_k y2]
  have ho : ∀ a, q ≠ a → dk_put (dk_put (dk_put M q 2 k) q 3 0) q 4 1 a = M a := fun a y => by rw [dk_put_ne y.symm, dk_put_ne y.symm, dk_put_ne y.symm]
  refine r.upd (hn 0 (by omega) (by omega) (by omega)) (fun b hb hb6 => ?_) (Or.inl ⟨by rw [hm 6 (by omega) (by omega) (by omega)]; exact q6, by rw [hn 6 (by omega) (by omega) (by omega)]; exact h6⟩) (fun b hb => hm b (by omega) (by omega) (by omega)) (fun b y1 y2 => hn b (by omega) (by omega) (by omega)) (fun s hs => ?_)
  · by_cases y4 : b = 4
    · rw [y4]; unfold mStartM; rw [put_same, put_same]
    · by_cases y3 : b = 3
      · rw [y3]; unfold mStartM; rw [put_k (by decide), put_same, put_k (by decide), put_same]
      · by_cases y2 : b = 2
        · rw [y2]; unfold mStartM; rw [put_k (by decide), put_k (by decide), put_same, put_k (by decide), put_k (by decide), put_same]
        · rw [hm b y2 y3 y4, hn b y2 y3 y4]; exact r.1 b hb hb6
  · rw [ho d d1, ho c d2, ho w d3, ho j d4, hn _ (by omega) (by omega) (by omega), hn _ (by omega) (by omega) (by omega), hn _ (by omega) (by omega) (by omega), hn _ (by omega) (by omega) (by omega)]
    exact r.2.2.2.2 s hs
theorem a_steps {n : Int32} (hn : 1 ≤ n.toInt ∧ n.toInt ≤ 999) : (mRek N = false → mSteps N n = (-3, N)) ∧ (mRek N = true → mSteps N n = (nI (mStepsL (ix n) (mRec N) 0).1, (mStepsL (ix n) (mRec N) 0).2)) := by
  have hw : mWithin n 1 999 = true := mW_iff.mpr (by rw [e1I, e999I]; exact hn)
  unfold mSteps mWhyS
  rw [if_pos hw]
  refine ⟨fun z => by rw [z]; rfl, fun z => by rw [z]; rfl⟩
theorem a_turn : (mRek N = false ∨ mOpen N = true → mTurn N = (-3, N)) ∧ (mRek N = true → mOpen N = false → mTurn N = (mLeft (mTurnsM (mRec N)), mTurnsM (mRec N))) := by
  unfold mTurn mWhyT
  refine ⟨fun z => ?_, fun z1 z2 => by rw [z1, z2]; rfl⟩
  cases hr : mRek N with
  | false => rfl
  | true =>
    rcases z with z | z
    · rw [hr] at z; cases z
    · rw [z]; rfl
theorem LR.turnp (D : lD q d c w j) (h : DS Mx e (N 112)) (r : LR M q d c w j (N 112)) {R : dkM} (hR : R 112 = N 112) (hr : mRek N = true) (ho : mOpen N = false) : LR (lEnd (dk_put M q 4 (1 - M q 4)) q j) q d c w j (mTurnsM R 112) := by
  have h0 := r.shut0 h ho
  have r2 := r.nump D hR (k := 4) ⟨by decide, by decide, by decide⟩ (1 - M q 4) h0
  have e4 : 1 - M q 4 = 1 - R 112 4 := by rw [hR, r.k (k := 4) (by decide) (by decide)]
  rw [e4] at r2 ⊢
  unfold mTurnsM
  obtain ⟨r1, -, r3, r4, r5, r6, r7⟩ := h.on hr
  refine LR.end D (N := dk_put R 112 4 (1 - R 112 4)) r2 ?_ ?_
  · rw [put_same, hR]
    rcases r6 with y | y <;> rw [y.1] <;> decide
  · rw [put_k (by decide), hR]
    rcases r6 with y | y <;> omega
theorem turn_DS (h : DS Mx e (N 112)) {R : dkM} (hR : R 112 = N 112) (hr : mRek N = true) (ho : mOpen N = false) : ∃ X, DS X e (mTurnsM R 112) := by
  have h2 : DS Mx e (R 112) := by rw [hR]; exact h
  exact ⟨_, DS.turnM (Mm := R) h2 (by rw [← hr]; exact mRek_congr (by rw [hR])) (by rw [← ho]; unfold mOpen; rw [hR])⟩
theorem a_zone {v : Int32} (hv : 1 ≤ v.toInt ∧ v.toInt ≤ 8) : (mOpen N = true → mSetZone N v = (-3, N)) ∧ (mOpen N = false → mSetZone N v = (N 112 7, dk_put (mRec N) 112 7 v)) := by
  have hw : mWithin v 1 8 = true := mW_iff.mpr (by rw [e1I, show (8 : Int32).toInt = 8 from by decide]; exact hv)
  unfold mSetZone mSets
  rw [if_pos hw]
  exact ⟨fun z => by rw [z]; rfl, fun z => by rw [z]; rfl⟩
theorem a_jour {v : Int32} (hv : 0 ≤ v.toInt ∧ v.toInt ≤ 1) : (mOpen N = true → mSetJ N v = (-3, N)) ∧ (mOpen N = false → mSetJ N v = (N 112 8, dk_put (mRec N) 112 8 v)) := by
  have hw : mWithin v 0 1 = true := mW_iff.mpr (by rw [e0I, e1I]; exact hv)
  unfold mSetJ mSets
  rw [if_pos hw]
  exact ⟨fun z => by rw [z]; rfl, fun z => by rw [z]; rfl⟩
theorem a_format {n : Int32} (hn : 4 ≤ n.toInt ∧ n.toInt ≤ 20) : mFormat N n = (N 112 0, mFormats (mRec N) n) := by
  have hw : mWithin n 4 64 = true := mW_iff.mpr (by rw [show (4 : Int32).toInt = 4 from by decide, show (64 : Int32).toInt = 64 from by decide]; omega)
  unfold mFormat
  rw [if_pos hw]
end AN
