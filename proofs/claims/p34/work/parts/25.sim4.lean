/-! keys, the start of a rekeying -/
theorem rset_in {M : dkM} {o n : Nat} {k v : Int32} (h0 : 0 ≤ k.toInt) (hn : k.toInt < n) (hb : n < 2 ^ 31) : rset M o n k v = dk_put M (o + 1) (ix k) v := by
  unfold rset
  rw [if_neg (by rw [tI_lt, e0I]; omega), if_neg (by rw [tI_le, nI_toInt hb]; omega)]
  rfl
theorem rset_nI {M : dkM} {o n j : Nat} {v : Int32} (h : j < n) (hn : n < 2 ^ 31) : rset M o n (nI j) v = dk_put M (o + 1) j v := by
  rw [rset_in (by rw [nI_toInt (by omega)]; omega) (by rw [nI_toInt (by omega)]; omega) hn, ix_nI (by omega)]
theorem e99I : (99 : Int32).toInt = 99 := by decide
theorem e65I : (65535 : Int32).toInt = 65535 := by decide
theorem em1I : (-1 : Int32).toInt = -1 := by decide
section DS4
variable {M M' R : dkM} {d : Nat} {Mm : dkM}
theorem rgetb {o k : Nat} (hk : k < 100) : rget M o 100 (nI k) = M (o + 1) k := rget_nI hk (by decide)
theorem DS.hk (h : DS M d (Mm 112)) (k : Int32) : hasKey M d k = mIsKey Mm k := by
  unfold hasKey mIsKey
  by_cases hw : mWithin k 1 99 = true
  · obtain ⟨w1, w2, w3⟩ := mW_k hw
    have hq := h.k.2.1 (ix k) w2 (by omega)
    have e : rget M (d + 9) 100 k = M (d + 10) (ix k) := by
      have := rgetb (M := M) (o := d + 9) (k := ix k) (by omega)
      rw [← w1] at this
      exact this
    rw [if_pos hw, e]
    by_cases q : M (d + 10) (ix k) = -1
    · rw [if_pos q, if_pos (hq.none_iff.mp q)]
    · rw [if_neg q, if_neg (fun z => q (hq.none_iff.mpr z))]
  · rw [if_neg hw]
    have hz := Wn hw
    rw [e1I, e99I] at hz
    rw [if_pos]
    unfold rget
    by_cases q : k < 0
    · rw [if_pos q]
    · rw [if_neg q]
      by_cases q2 : nI 100 ≤ k
      · rw [if_pos q2]
      · rw [if_neg q2]
        rw [tI_lt, e0I] at q
        rw [tI_le, nI_toInt (by decide)] at q2
        have : k = 0 := Int32.toInt_inj.mp (by rw [e0I]; omega)
        rw [this]
        exact h.k.1
theorem DS.key' (h : DS M d (Mm 112)) (hR : R 112 = Mm 112) {j : Nat} {c c' : Int32} (hj : 1 ≤ j ∧ j ≤ 99) (hc : oq c c') (hn : cnt (fun b => dk_put M (d + 10) j c (d + 10) b != -1) 100 ≤ 8) (hp : c' ≠ -6 ∨ (j ≠ ix (Mm 112 1) ∧ (Mm 112 2 ≠ -6 → j ≠ ix (Mm 112 2)))) : DS (dk_put M (d + 10) j c) d (dk_put R 112 (11 + j) c' 112) := by
  have e : ∀ i, i ≠ 11 + j → dk_put R 112 (11 + j) c' 112 i = Mm 112 i := fun i hi => by rw [put_k hi, hR]
  have ej : dk_put R 112 (11 + j) c' 112 (11 + j) = c' := put_same
  have eM : ∀ a, a ≠ d + 10 → dk_put M (d + 10) j c a = M a := fun a ha => dk_put_ne ha
  have hs := h.sec.1
  refine ⟨?_, ?_, ?_, ?_, ?_, ?_⟩
  · rw [eM d (by omega)]; exact h.a.cg (fun i hi => e i (by omega)) (fun _ _ _ => rfl)
  · rw [eM d (by omega)]; exact h.r.cg (fun i hi => e i (by omega)) (fun _ _ _ => rfl)
  · rw [eM (d + 8) (by omega)]; exact h.l.cg (fun i hi => e i (by omega))
  · obtain ⟨h1, h2, h3, h4, h5⟩ := h.k
    refine ⟨by rw [put_k (by omega)]; exact h1, fun k a b => ?_, hn, ?_, ?_⟩
    · by_cases q : k = j
      · rw [q, put_same, ej]; exact hc
      · rw [put_k q, e (11 + k) (by omega)]; exact h2 k a b
    · rw [e 1 (by omega)]
      by_cases q : ix (Mm 112 1) = j
      · rw [q, ej]
        rcases hp with w | w
        · exact w
        · exact absurd q.symm w.1
      · rw [e _ (by omega)]; exact h4
    · rw [e 2 (by omega)]
      intro z
      by_cases q : ix (Mm 112 2) = j
      · rw [q, ej]
        rcases hp with w | w
        · exact w
        · exact absurd q.symm (w.2 z)
      · rw [e _ (by omega)]; exact h5 z
  · rw [eM (d + 2) (by omega), eM (d + 4) (by omega)]; exact h.s.cg hs (fun i hi => e i (by omega))
  · rw [eM (d + 6) (by omega)]; exact h.c.cg (fun i hi => e i (by omega))
theorem nI_nn {n : Nat} (h : n < 2 ^ 31) : 0 ≤ (nI n).toInt := by rw [nI_toInt h]; omega
theorem DS.add (h : DS M d (Mm 112)) (k c : Int32) : OK1 d M Mm (dAdd M d k c) (mAdd Mm k c) := by
  unfold dAdd mAdd
  by_cases hw : mWithin k 1 99 = true ∧ mWithin c 0 65535 = true
  · rw [if_pos hw]
    have z1 := mW_iff.mp hw.1
    have z2 := mW_iff.mp hw.2
    rw [e1I, e99I] at z1
    rw [e0I, e65I] at z2
    obtain ⟨w1, w2, w3⟩ := mW_k hw.1
    rw [if_neg (by rw [tI_lt, e1I]; omega), if_neg (by rw [tI_lt, e99I]; omega), if_neg (by rw [tI_lt, e0I]; omega), if_neg (by rw [tI_lt, e65I]; omega), h.hk, h.nke]
    cases hq : mIsKey Mm k with
    | true => exact OK1.no (e := -3) (by decide) rfl rfl
    | false =>
      simp only [Bool.false_eq_true, if_false]
      have n8 := nI_8 h.nkb
      by_cases q8 : nI (mKeys Mm 99) = 8
      · rw [if_pos q8, if_pos (n8.mp q8)]; exact OK1.no (e := -4) (by decide) rfl rfl
      · rw [if_neg q8, if_neg (fun z => q8 (n8.mpr z))]
        have lt8 : mKeys Mm 99 < 8 := by
          have := h.nkb
          rcases Nat.lt_or_ge (mKeys Mm 99) 8 with w | w
          · exact w
          · exact absurd (show nI (mKeys Mm 99) = 8 by rw [show mKeys Mm 99 = 8 by omega]; rfl) q8
        have er : rset M (d + 9) 100 k c = dk_put M (d + 10) (ix k) c := rset_in (by omega) (by omega) (by decide)
        have hc : oq c c := Or.inr ⟨rfl, z2⟩
        have hc6 : c ≠ -6 := fun z => by rw [z] at z2; exact absurd z2.1 (by decide)
        have hn : cnt (fun b => dk_put M (d + 10) (ix k) c (d + 10) b != -1) 100 ≤ 8 := by
          have h1 := cnt_set (p := fun b => M (d + 10) b != -1) (q := fun b => dk_put M (d + 10) (ix k) c (d + 10) b != -1) (n := 100) (j := ix k) (by omega) (fun b hb => by rw [put_k hb])
          have h2 : cnt (fun b => M (d + 10) b != -1) 100 = mKeys Mm 99 := h.nke
          rw [h2] at h1
          split at h1 <;> split at h1 <;> omega
        have hD := h.key' (mRec_st Mm) (j := ix k) (c := c) (c' := c) ⟨w2, w3⟩ hc hn (Or.inl hc6)
        rw [er]
        have hk := DS.nke (Mm := mAddM Mm k c) hD
        refine Or.inr ⟨?_, ?_, ?_, ?_, hD⟩
        · exact nI_nn (Nat.lt_of_le_of_lt (cnt_le _ _) (by decide))
        · exact congrArg nI hk
        · intro a ha; exact dk_put_ne (by omega)
        · intro a ha; exact dk_put_ne ha
  · rw [if_neg hw]
    by_cases q1 : k < 1
    · rw [if_pos q1]; exact OK1.no (e := -2) (by decide) rfl rfl
    · rw [if_neg q1]
      by_cases q2 : 99 < k
      · rw [if_pos q2]; exact OK1.no (e := -2) (by decide) rfl rfl
      · rw [if_neg q2]
        by_cases q3 : c < 0
        · rw [if_pos q3]; exact OK1.no (e := -2) (by decide) rfl rfl
        · rw [if_neg q3]
          by_cases q4 : 65535 < c
          · rw [if_pos q4]; exact OK1.no (e := -2) (by decide) rfl rfl
          · exfalso
            rw [tI_lt] at q1 q2 q3 q4
            exact hw ⟨mW_iff.mpr (by omega), mW_iff.mpr (by omega)⟩
theorem DS.drop (h : DS M d (Mm 112)) (k : Int32) : OK1 d M Mm (dDrop M d k) (mRem Mm k) := by
  unfold dDrop mRem
  rw [h.hk, h.a.2.1.1]
  cases hq : mIsKey Mm k with
  | false => exact OK1.no (e := -1) (by decide) rfl rfl
  | true =>
    have hw := mIsKey_w hq
    obtain ⟨w1, w2, w3⟩ := mW_k hw
    have z1 := mW_iff.mp hw
    rw [e1I, e99I] at z1
    simp only [if_true]
    by_cases q1 : k = Mm 112 1
    · rw [if_pos q1, if_pos q1]; exact OK1.no (e := -3) (by decide) rfl rfl
    · rw [if_neg q1, if_neg q1]
      have e2 : k = M d 7 ↔ k = Mm 112 2 := by
        rcases h.r with r | r
        · rw [r.1, r.2.1]
          exact ⟨fun z => by rw [z] at z1; exact absurd z1.1 (by decide), fun z => by rw [z] at z1; exact absurd z1.1 (by decide)⟩
        · rw [r.1]
      by_cases q2 : k = Mm 112 2
      · rw [if_pos q2, if_pos (e2.mpr q2)]; exact OK1.no (e := -3) (by decide) rfl rfl
      · rw [if_neg q2, if_neg (fun z => q2 (e2.mp z))]
        have er : rset M (d + 9) 100 k (-1) = dk_put M (d + 10) (ix k) (-1) := rset_in (by omega) (by omega) (by decide)
        have hc : oq (-1) (-6) := Or.inl ⟨rfl, rfl⟩
        have hn : cnt (fun b => dk_put M (d + 10) (ix k) (-1) (d + 10) b != -1) 100 ≤ 8 := by
          have h1 := cnt_set (p := fun b => M (d + 10) b != -1) (q := fun b => dk_put M (d + 10) (ix k) (-1) (d + 10) b != -1) (n := 100) (j := ix k) (by omega) (fun b hb => by rw [put_k hb])
          have h2 := h.k.2.2.1
          rw [put_same] at h1
          simp only [bne_self_eq_false, Bool.false_eq_true, if_false] at h1
          omega
        have hx : ∀ y : Int32, 1 ≤ y.toInt ∧ y.toInt ≤ 99 → k ≠ y → ix k ≠ ix y := fun y hy hne hix => hne (by rw [w1, (ix_99 hy).2.2, hix])
        have hD := h.key' (mRec_st Mm) (j := ix k) (c := -1) (c' := -6) ⟨w2, w3⟩ hc hn (Or.inr ⟨hx _ h.a.2.1.2 q1, fun z => by
          rcases h.r with r | r
          · exact absurd r.2.1 z
          · exact hx _ r.2.1 q2⟩)
        rw [er]
        have hk := DS.nke (Mm := mAddM Mm k (-6)) hD
        refine Or.inr ⟨?_, ?_, ?_, ?_, hD⟩
        · exact nI_nn (Nat.lt_of_le_of_lt (cnt_le _ _) (by decide))
        · exact congrArg nI hk
        · intro a ha; exact dk_put_ne (by omega)
        · intro a ha; exact dk_put_ne ha
theorem DS.left_nn (h : DS M d (Mm 112)) : 0 ≤ (mLeft Mm).toInt := by
  unfold mLeft
  cases hr : mRek Mm with
  | false => exact Int.le_refl 0
  | true =>
    obtain ⟨r1, r2, r3, r4, r5, r6, r7⟩ := h.on hr
    have a1 := h.a.1
    have a3 := h.a.2.2.1
    have h5 := h.a.2.2.2.2.2.1.2
    have tR : 1 ≤ (mRest Mm).toInt ∧ (mRest Mm).toInt ≤ 64 ∧ fT (Mm 112) - fF (Mm 112) ≤ (mRest Mm).toInt := by
      unfold mRest fT fF
      rcases r6 with q | q
      · rw [if_pos q.1, if_neg (by rw [q.1]; decide), if_pos q.1, tI_sub (by omega) (by omega)]; omega
      · rw [if_neg (by rw [q.1]; decide), if_pos q.1, if_neg (by rw [q.1]; decide)]; omega
    have tz := zn (r := mRest Mm) (z := Mm 112 7) (by omega) (by omega) (by omega) (by omega)
    have q1 : 1 ≤ ((mRest Mm).toInt + (Mm 112 7).toInt - 1) / (Mm 112 7).toInt := Int.le_ediv_of_mul_le (by omega) (by omega)
    have q2 : ((mRest Mm).toInt + (Mm 112 7).toInt - 1) / (Mm 112 7).toInt ≤ (mRest Mm).toInt + (Mm 112 7).toInt - 1 := Int.ediv_le_self _ (by omega)
    have tZ : (mZones Mm).toInt = ((mRest Mm).toInt + (Mm 112 7).toInt - 1) / (Mm 112 7).toInt := by
      unfold mZones
      rw [tz, Int32.toInt_ofInt_of_le (by omega) (by omega)]
    simp only [if_true]
    have g1 : ∀ x : Int32, x = 0 ∨ x = mZones Mm → 0 ≤ x.toInt ∧ x.toInt ≤ 100 := by
      intro x hx
      rcases hx with w | w <;> rw [w]
      · decide
      · omega
    have g2 : ∀ x : Int32, x = 0 ∨ x = 1 → 0 ≤ x.toInt ∧ x.toInt ≤ 1 := by
      intro x hx
      rcases hx with w | w <;> rw [w] <;> decide
    have b1 := g1 (if Mm 112 8 = 1 then mZones Mm else 0) (by split; exact Or.inr rfl; exact Or.inl rfl)
    have b2 := g2 (if Mm 112 6 ≤ 0 then 0 else 1) (by split; exact Or.inl rfl; exact Or.inr rfl)
    generalize (if Mm 112 8 = 1 then mZones Mm else 0) = u1 at *
    generalize (if Mm 112 6 ≤ 0 then (0 : Int32) else 1) = u2 at *
    have s1 : (mRest Mm + mZones Mm).toInt = (mRest Mm).toInt + (mZones Mm).toInt := tI_add (by omega) (by omega)
    have s2 : (mRest Mm + mZones Mm + u1).toInt = (mRest Mm).toInt + (mZones Mm).toInt + u1.toInt := by rw [tI_add (by omega) (by omega), s1]
    have s3 : (mRest Mm + mZones Mm + u1 - Mm 112 5).toInt = (mRest Mm).toInt + (mZones Mm).toInt + u1.toInt - (Mm 112 5).toInt := by rw [tI_sub (by omega) (by omega), s2]
    rw [tI_sub (by omega) (by omega), s3]
    omega
theorem DS.begin (h : DS M d (Mm 112)) (k : Int32) : OK1 d M Mm (dBegin M d k) (mStart Mm k) := by
  unfold dBegin mStart
  rw [h.hk, h.rek, h.a.2.1.1]
  cases hq : mIsKey Mm k with
  | false => exact OK1.no (e := -1) (by decide) rfl rfl
  | true =>
    simp only [if_true]
    cases hr : mRek Mm with
    | true => exact OK1.no (e := -3) (by decide) rfl rfl
    | false =>
      simp only [Bool.false_eq_true, if_false]
      by_cases q1 : k = Mm 112 1
      · rw [if_pos q1, if_pos q1]; exact OK1.no (e := -3) (by decide) rfl rfl
      · rw [if_neg q1, if_neg q1]
        have hw := mIsKey_w hq
        have z1 := mW_iff.mp hw
        rw [e1I, e99I] at z1
        obtain ⟨o1, o2, o3, o4, o5, o6⟩ := h.off hr
        have hp : Mm 112 (11 + ix k) ≠ -6 := by
          unfold mIsKey at hq
          rw [if_pos hw] at hq
          intro z
          rw [if_pos z] at hq
          cases hq
        have e : ∀ j, j ≠ 2 → j ≠ 3 → j ≠ 4 → mStartM Mm k 112 j = Mm 112 j := fun j a b c => by
          unfold mStartM; rw [put_k c, put_k b, put_k a, mRec_st]
        have f2 : mStartM Mm k 112 2 = k := by unfold mStartM; rw [put_k (by decide), put_k (by decide), put_same]
        have f3 : mStartM Mm k 112 3 = 0 := by unfold mStartM; rw [put_k (by decide), put_same]
        have f4 : mStartM Mm k 112 4 = 1 := by unfold mStartM; rw [put_same]
        have F : ∀ j, j ≠ 7 → j ≠ 8 → j ≠ 9 → dk_put (dk_put (dk_put M d 7 k) d 8 1) d 9 0 d j = M d j := fun j a b c => by rw [put_k c, put_k b, put_k a]
        have F7 : dk_put (dk_put (dk_put M d 7 k) d 8 1) d 9 0 d 7 = k := by rw [put_k (by decide), put_k (by decide), put_same]
        have F8 : dk_put (dk_put (dk_put M d 7 k) d 8 1) d 9 0 d 8 = 1 := by rw [put_k (by decide), put_same]
        have F9 : dk_put (dk_put (dk_put M d 7 k) d 8 1) d 9 0 d 9 = 0 := put_same
        have a := h.a
        have hD : DS (dk_put (dk_put (dk_put M d 7 k) d 8 1) d 9 0) d (mStartM Mm k 112) := by
          refine h.lowc (fun a ha => by rw [dk_put_ne ha, dk_put_ne ha, dk_put_ne ha]) ?_ ?_ ?_ (fun j hj => e j (by omega) (by omega) (by omega)) (Or.inr (Or.inr (fun _ => by rw [f2]; exact hp)))
          · unfold DSa
            rw [e 0 (by decide) (by decide) (by decide), e 1 (by decide) (by decide) (by decide), e 5 (by decide) (by decide) (by decide), e 7 (by decide) (by decide) (by decide), e 8 (by decide) (by decide) (by decide), e 9 (by decide) (by decide) (by decide), e 10 (by decide) (by decide) (by decide), F8, F9, F 5 (by decide) (by decide) (by decide), F 6 (by decide) (by decide) (by decide), F 10 (by decide) (by decide) (by decide), F 11 (by decide) (by decide) (by decide), F 12 (by decide) (by decide) (by decide), F 13 (by decide) (by decide) (by decide), F 14 (by decide) (by decide) (by decide)]
            exact ⟨a.1, a.2.1, a.2.2.1, a.2.2.2.1, a.2.2.2.2.1, a.2.2.2.2.2.1, Or.inr rfl, by decide, by decide⟩
          · unfold DSr fT fF
            rw [e 0 (by decide) (by decide) (by decide), e 1 (by decide) (by decide) (by decide), e 5 (by decide) (by decide) (by decide), e 7 (by decide) (by decide) (by decide), f2, f3, f4, F7, F8, F9]
            refine Or.inr ⟨rfl, z1, q1, rfl, rfl, Or.inl ⟨rfl, by decide, by rw [e0I]; have := a.1; omega⟩, ?_⟩
            rw [o5, if_neg (by decide), if_pos rfl, e0I]
            have := a.1
            have := a.2.2.1
            omega
          · exact h.l.cg (fun j hj => e j (by omega) (by omega) (by omega))
        have hl := DS.off_left (Mm := mStartM Mm k) hD
        have hn := DS.left_nn (Mm := mStartM Mm k) hD
        refine Or.inr ⟨?_, hl, ?_, ?_, hD⟩
        · dsimp only; rw [hl]; exact hn
        · intro a ha; dsimp only; rw [dk_put_ne (by omega), dk_put_ne (by omega), dk_put_ne (by omega)]
        · intro a ha; dsimp only; unfold mStartM; rw [dk_put_ne ha, dk_put_ne ha, dk_put_ne ha]
end DS4
