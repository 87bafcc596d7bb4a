/-! as many steps as the formula says -/
def RI (f : Nat → Int32) : Int := if f 4 = 1 then (f 0).toInt - (f 3).toInt else (f 3).toInt
def ZI (f : Nat → Int32) : Int := (RI f + (f 7).toInt - 1) / (f 7).toInt
def gI (f : Nat → Int32) : Int := if f 6 ≤ 0 then 0 else 1
def jI (f : Nat → Int32) : Int := if f 8 = 1 then ZI f else 0
section LL
variable {M : dkM} {d : Nat} {N : dkM}
theorem DS.ri (h : DS M d (N 112)) (hr : mRek N = true) : 1 ≤ RI (N 112) ∧ RI (N 112) ≤ 64 ∧ fT (N 112) - fF (N 112) ≤ RI (N 112) ∧ 1 ≤ ZI (N 112) ∧ ZI (N 112) ≤ 71 := by
  obtain ⟨r1, r2, r3, r4, r5, r6, r7⟩ := h.on hr
  have a1 := h.a.1
  have a3 := h.a.2.2.1
  have tR : 1 ≤ RI (N 112) ∧ RI (N 112) ≤ 64 ∧ fT (N 112) - fF (N 112) ≤ RI (N 112) := by
    unfold RI fT fF
    rcases r6 with q | q
    · rw [if_pos q.1, if_neg (by rw [q.1]; decide), if_pos q.1]; omega
    · rw [if_neg (by rw [q.1]; decide), if_pos q.1, if_neg (by rw [q.1]; decide)]; omega
  have q1 : 1 ≤ (RI (N 112) + (N 112 7).toInt - 1) / (N 112 7).toInt := Int.le_ediv_of_mul_le (by omega) (by omega)
  have q2 : (RI (N 112) + (N 112 7).toInt - 1) / (N 112 7).toInt ≤ RI (N 112) + (N 112 7).toInt - 1 := Int.ediv_le_self _ (by omega)
  exact ⟨tR.1, tR.2.1, tR.2.2, q1, by unfold ZI; omega⟩
theorem DS.lefti (h : DS M d (N 112)) (hr : mRek N = true) : (mLeft N).toInt = RI (N 112) + ZI (N 112) + jI (N 112) - (N 112 5).toInt - gI (N 112) := by
  obtain ⟨r1, r2, r3, r4, r5, r6, r7⟩ := h.on hr
  obtain ⟨i1, i2, i3, i4, i5⟩ := h.ri hr
  have a1 := h.a.1
  have a3 := h.a.2.2.1
  have h5 := h.a.2.2.2.2.2.1.2
  have tR : (mRest N).toInt = RI (N 112) := by
    unfold mRest RI
    rcases r6 with q | q
    · rw [if_pos q.1, if_pos q.1, tI_sub (by omega) (by omega)]
    · rw [if_neg (by rw [q.1]; decide), if_neg (by rw [q.1]; decide)]
  have tZ : (mZones N).toInt = ZI (N 112) := by
    have tz := zn (r := mRest N) (z := N 112 7) (by omega) (by omega) (by omega) (by omega)
    have e : ((mRest N).toInt + (N 112 7).toInt - 1) / (N 112 7).toInt = ZI (N 112) := by unfold ZI; rw [tR]
    unfold mZones
    rw [tz, e, Int32.toInt_ofInt_of_le (by omega) (by omega)]
  unfold mLeft
  rw [hr]
  simp only [if_true]
  have b1 : (if N 112 8 = 1 then mZones N else 0).toInt = jI (N 112) ∧ 0 ≤ jI (N 112) ∧ jI (N 112) ≤ 71 := by
    unfold jI
    split
    · exact ⟨tZ, by omega, i5⟩
    · exact ⟨rfl, by omega, by omega⟩
  have b2 : (if N 112 6 ≤ 0 then (0 : Int32) else 1).toInt = gI (N 112) ∧ 0 ≤ gI (N 112) ∧ gI (N 112) ≤ 1 := by
    unfold gI
    split
    · exact ⟨rfl, by omega, by omega⟩
    · exact ⟨rfl, by omega, by omega⟩
  generalize (if N 112 8 = 1 then mZones N else 0) = u1 at *
  generalize (if N 112 6 ≤ 0 then (0 : Int32) else 1) = u2 at *
  have s1 : (mRest N + mZones N).toInt = (mRest N).toInt + (mZones N).toInt := tI_add (by omega) (by omega)
  have s2 : (mRest N + mZones N + u1).toInt = (mRest N).toInt + (mZones N).toInt + u1.toInt := by rw [tI_add (by omega) (by omega), s1]
  have s3 : (mRest N + mZones N + u1 - N 112 5).toInt = (mRest N).toInt + (mZones N).toInt + u1.toInt - (N 112 5).toInt := by rw [tI_sub (by omega) (by omega), s2]
  rw [tI_sub (by omega) (by omega), s3]
  omega
theorem left_off (hr : mRek N = false) : mLeft N = 0 := by unfold mLeft; rw [hr]; rfl
theorem RI_cg {f g : Nat → Int32} (h0 : g 0 = f 0) (h3 : g 3 = f 3) (h4 : g 4 = f 4) : RI g = RI f := by unfold RI; rw [h0, h3, h4]
theorem ZI_cg {f g : Nat → Int32} (h0 : g 0 = f 0) (h3 : g 3 = f 3) (h4 : g 4 = f 4) (h7 : g 7 = f 7) : ZI g = ZI f := by unfold ZI; rw [RI_cg h0 h3 h4, h7]
theorem DS.left_step (h : DS M d (N 112)) (hr : mRek N = true) : (mLeft (mStep N)).toInt = (mLeft N).toInt - 1 := by
  obtain ⟨r1, r2, r3, r4, r5, r6, r7⟩ := h.on hr
  obtain ⟨i1, i2, i3, i4, i5⟩ := h.ri hr
  obtain ⟨z1, z2, z3, z4, z5, z6⟩ := h.zi hr
  have hst := h.step hr
  have hl := h.lefti hr
  have a1 := h.a.1
  have a3 := h.a.2.2.1
  have h5 := h.a.2.2.2.2.2.1.2
  have hf6 := h.f6
  have hsec := h.sec
  have e9 : (mTo N - mFrom N).toInt = (ix (mTo N) : Int) - ix (mFrom N) := by rw [z1, z2, nI_sub (by omega) (by omega), nI_toInt (by omega), ix_nI (by omega), ix_nI (by omega)]; omega
  unfold mStep at hst ⊢
  by_cases q8 : N 112 8 = 1 ∧ N 112 6 = 0 ∧ N 112 5 = 0
  · rw [if_pos q8] at hst ⊢
    have e : ∀ j, j < 175 → j ≠ 6 → dk_put (mJr N) 112 6 (mTo N - mFrom N) 112 j = N 112 j := fun j a b => by rw [put_k b, mJr, mjL_lo _ _ _ a]
    have e6 : dk_put (mJr N) 112 6 (mTo N - mFrom N) 112 6 = mTo N - mFrom N := put_same
    have hr2 : mRek (dk_put (mJr N) 112 6 (mTo N - mFrom N)) = true := by rw [← hr]; exact mRek_congr (e 2 (by decide) (by decide))
    rw [DS.lefti (N := dk_put (mJr N) 112 6 (mTo N - mFrom N)) hst hr2, hl, RI_cg (e 0 (by decide) (by decide)) (e 3 (by decide) (by decide)) (e 4 (by decide) (by decide)), ZI_cg (e 0 (by decide) (by decide)) (e 3 (by decide) (by decide)) (e 4 (by decide) (by decide)) (e 7 (by decide) (by decide))]
    unfold jI gI
    rw [e 8 (by decide) (by decide), e 5 (by decide) (by decide), e6, ZI_cg (e 0 (by decide) (by decide)) (e 3 (by decide) (by decide)) (e 4 (by decide) (by decide)) (e 7 (by decide) (by decide)), q8.2.1]
    rw [if_neg (show ¬ mTo N - mFrom N ≤ 0 by rw [tI_le, e9, e0I]; omega), if_pos (show (0 : Int32) ≤ 0 by decide)]
    omega
  · rw [if_neg q8] at hst ⊢
    by_cases q5 : N 112 5 < mTo N - mFrom N
    · rw [if_pos q5] at hst ⊢
      generalize ix (mFrom N + N 112 5) = k at *
      have e : ∀ j, j < 111 → j ≠ 5 → mRwS N k 112 j = N 112 j := fun j a b => by unfold mRwS; rw [put_k (by omega), put_k b]
      have e5 : mRwS N k 112 5 = N 112 5 + 1 := by unfold mRwS; rw [put_k (by omega), put_same]
      have hr2 : mRek (mRwS N k) = true := by rw [← hr]; exact mRek_congr (e 2 (by decide) (by decide))
      rw [tI_lt, e9] at q5
      have t5 : (N 112 5 + 1).toInt = (N 112 5).toInt + 1 := by rw [tI_add (by rw [e1I]; omega) (by rw [e1I]; omega), e1I]
      rw [DS.lefti (N := mRwS N k) hst hr2, hl, RI_cg (e 0 (by decide) (by decide)) (e 3 (by decide) (by decide)) (e 4 (by decide) (by decide)), ZI_cg (e 0 (by decide) (by decide)) (e 3 (by decide) (by decide)) (e 4 (by decide) (by decide)) (e 7 (by decide) (by decide))]
      unfold jI gI
      rw [e 8 (by decide) (by decide), e5, t5, e 6 (by decide) (by decide), ZI_cg (e 0 (by decide) (by decide)) (e 3 (by decide) (by decide)) (e 4 (by decide) (by decide)) (e 7 (by decide) (by decide))]
      omega
    · rw [if_neg q5] at hst ⊢
      rw [tI_lt, e9] at q5
      have f5 : (N 112 5).toInt = fT (N 112) - fF (N 112) := by omega
      -- the journal's part
      have hg : jI (N 112) - gI (N 112) = (if N 112 8 = 1 then ZI (N 112) - 1 else 0) := by
        unfold jI gI
        by_cases y8 : N 112 8 = 1
        · have y6 : 0 < (N 112 6).toInt := h.l.2.2.1 y8 (by omega)
          rw [if_pos y8, if_pos y8, if_neg (by rw [tI_le, e0I]; omega)]
        · have y6 : ¬ 0 < (N 112 6).toInt := fun z => y8 (h.l.2.1 z)
          rw [if_neg y8, if_neg y8, if_pos (by rw [tI_le, e0I]; omega)]
          omega
      generalize hp : (if N 112 4 = 1 then mTo N else mFrom N) = p at *
      have mk : ∀ k, k ≠ 3 → k ≠ 5 → k ≠ 6 → k < 175 → mClose (dk_put N 112 3 p) 112 k = N 112 k := fun k y3 y5 y6 y => by rw [mC_k y5 y6 (by omega), put_st, if_neg y3]
      have m3 : mClose (dk_put N 112 3 p) 112 3 = p := by rw [mC_k (by decide) (by decide) (by decide), put_st]; rfl
      have hends : ∀ X : dkM, mRek (mEnds X) = false := fun X => by unfold mRek; rw [mE_n (by decide), if_pos rfl]
      have hstay : mRek (mClose (dk_put N 112 3 p)) = true := by rw [← hr]; exact mRek_congr (mk 2 (by decide) (by decide) (by decide) (by decide))
      have hs5 : mClose (dk_put N 112 3 p) 112 5 = 0 := mC_0 (by decide)
      have hs6 : mClose (dk_put N 112 3 p) 112 6 = 0 := mC_0 (by decide)
      rcases r6 with ⟨y4, y0, y1⟩ | ⟨y4, y0, y1⟩
      · have hpT : p = mTo N := by rw [← hp, if_pos y4]
        have hFv : fF (N 112) = (N 112 3).toInt := by unfold fF; rw [if_pos y4]
        have hTv : fT (N 112) = min (N 112 0).toInt ((N 112 3).toInt + (N 112 7).toInt) := by unfold fT; rw [if_neg (by rw [y4]; decide)]
        have hRv : RI (N 112) = (N 112 0).toInt - (N 112 3).toInt := by unfold RI; rw [if_pos y4]
        have tp : p.toInt = fT (N 112) := by rw [hpT, z2, nI_toInt (by omega)]; omega
        unfold mEnd at hst ⊢
        rw [mk 4 (by decide) (by decide) (by decide) (by decide), m3, mk 0 (by decide) (by decide) (by decide) (by decide)] at hst ⊢
        by_cases yp : p = N 112 0
        · rw [if_pos ⟨y4, yp⟩, left_off (hends _), hl]
          have hz1 : ZI (N 112) = 1 := by unfold ZI; exact cd2 (by rw [yp] at tp; omega) i1
          have : (0 : Int32).toInt = 0 := e0I
          rw [yp] at tp
          rw [hz1] at hg ⊢
          have hg2 : jI (N 112) - gI (N 112) = 0 := by rw [hg]; split <;> omega
          omega
        · rw [if_neg (fun z => yp z.2), if_neg (fun z => absurd (y4.symm.trans z.1) (by decide))] at hst ⊢
          have hne : p.toInt ≠ (N 112 0).toInt := fun z => yp (Int32.toInt_inj.mp z)
          rw [DS.lefti (N := mClose (dk_put N 112 3 p)) hst hstay, hl]
          have hR2 : RI (mClose (dk_put N 112 3 p) 112) = RI (N 112) - (N 112 7).toInt := by
            unfold RI
            rw [mk 4 (by decide) (by decide) (by decide) (by decide), m3, mk 0 (by decide) (by decide) (by decide) (by decide), if_pos y4, if_pos y4]; omega
          have hZ2 : ZI (N 112) = ZI (mClose (dk_put N 112 3 p) 112) + 1 := by
            unfold ZI
            rw [hR2, mk 7 (by decide) (by decide) (by decide) (by decide)]
            exact cd1 (by omega) (by omega)
          have hj2 : jI (mClose (dk_put N 112 3 p) 112) - gI (mClose (dk_put N 112 3 p) 112) = (if N 112 8 = 1 then ZI (N 112) - 1 else 0) := by
            unfold jI gI
            rw [mk 8 (by decide) (by decide) (by decide) (by decide), hs6, if_pos (show (0 : Int32) ≤ 0 by decide)]
            split <;> omega
          rw [hs5, e0I]
          omega
      · have y41 : ¬ N 112 4 = 1 := by rw [y4]; decide
        have hpT : p = mFrom N := by rw [← hp, if_neg y41]
        have hTv : fT (N 112) = (N 112 3).toInt := by unfold fT; rw [if_pos y4]
        have hFv : fF (N 112) = max 0 ((N 112 3).toInt - (N 112 7).toInt) := by unfold fF; rw [if_neg y41]
        have hRv : RI (N 112) = (N 112 3).toInt := by unfold RI; rw [if_neg y41]
        have tp : p.toInt = fF (N 112) := by rw [hpT, z1, nI_toInt (by omega)]; omega
        unfold mEnd at hst ⊢
        rw [mk 4 (by decide) (by decide) (by decide) (by decide), m3, mk 0 (by decide) (by decide) (by decide) (by decide)] at hst ⊢
        rw [if_neg (fun z => y41 z.1)] at hst ⊢
        by_cases yp : p = 0
        · rw [if_pos ⟨y4, yp⟩, left_off (hends _), hl]
          rw [yp, e0I] at tp
          have hz1 : ZI (N 112) = 1 := by unfold ZI; exact cd2 (by omega) i1
          have : (0 : Int32).toInt = 0 := e0I
          rw [hz1] at hg ⊢
          have hg2 : jI (N 112) - gI (N 112) = 0 := by rw [hg]; split <;> omega
          omega
        · rw [if_neg (fun z => yp z.2)] at hst ⊢
          have hne : p.toInt ≠ 0 := fun z => yp (Int32.toInt_inj.mp (by rw [e0I]; exact z))
          rw [DS.lefti (N := mClose (dk_put N 112 3 p)) hst hstay, hl]
          have hR2 : RI (mClose (dk_put N 112 3 p) 112) = RI (N 112) - (N 112 7).toInt := by
            unfold RI
            rw [mk 4 (by decide) (by decide) (by decide) (by decide), m3, if_neg y41, if_neg y41]; omega
          have hZ2 : ZI (N 112) = ZI (mClose (dk_put N 112 3 p) 112) + 1 := by
            unfold ZI
            rw [hR2, mk 7 (by decide) (by decide) (by decide) (by decide)]
            exact cd1 (by omega) (by omega)
          have hj2 : jI (mClose (dk_put N 112 3 p) 112) - gI (mClose (dk_put N 112 3 p) 112) = (if N 112 8 = 1 then ZI (N 112) - 1 else 0) := by
            unfold jI gI
            rw [mk 8 (by decide) (by decide) (by decide) (by decide), hs6, if_pos (show (0 : Int32) ≤ 0 by decide)]
            split <;> omega
          rw [hs5, e0I]
          omega
theorem steps_left : ∀ (n : Nat) {M N : dkM} (k : Nat), DS M d (N 112) → (mLeft N).toInt ≤ n → (mStepsL n N k).1 = k + ix (mLeft N) := by
  intro n
  induction n with
  | zero =>
    intro M N k h hn
    have h0 := h.left_nn
    have := ix_toInt h0
    unfold mStepsL
    show k = k + ix (mLeft N)
    omega
  | succ n ih =>
    intro M N k h hn
    have h0 := h.left_nn
    have h1 := ix_toInt h0
    unfold mStepsL
    cases hr : mRek N with
    | true =>
      have hs := h.left_step hr
      have h2 := ih (N := mStep N) (k + 1) (h.step hr) (by omega)
      have h3 := ix_toInt (x := mLeft (mStep N)) ((h.step hr).left_nn (Mm := mStep N))
      simp only [if_true]
      rw [h2]
      omega
    | false =>
      rw [left_off hr]
      rfl
theorem DS.left_all (h : DS M d (N 112)) : nI (mStepsL 999 N 0).1 = mLeft N := by
  have h0 := h.left_nn
  have hle : (mLeft N).toInt ≤ 999 := by
    cases hr : mRek N with
    | true =>
      obtain ⟨i1, i2, i3, i4, i5⟩ := h.ri hr
      have a6 := h.a.2.2.2.2.2.1.2
      rw [h.lefti hr]
      have : jI (N 112) ≤ 71 := by unfold jI; split <;> omega
      have : 0 ≤ gI (N 112) := by unfold gI; split <;> omega
      omega
    | false => rw [left_off hr, e0I]; omega
  rw [steps_left 999 0 h hle, Nat.zero_add]
  exact (nI_ix h0).symm
end LL
