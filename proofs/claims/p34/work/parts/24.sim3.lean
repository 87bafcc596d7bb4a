/-! what changes a disk and a state keeps the relation -/
theorem DSa.cg {F F' f f' : Nat → Int32} (h : DSa F f) (e : ∀ j, j = 0 ∨ j = 1 ∨ j = 5 ∨ j = 7 ∨ j = 8 ∨ j = 9 ∨ j = 10 → f' j = f j) (e2 : ∀ j, 5 ≤ j → j < 15 → F' j = F j) : DSa F' f' := by
  unfold DSa
  rw [e 0 (by omega), e 1 (by omega), e 5 (by omega), e 7 (by omega), e 8 (by omega), e 9 (by omega), e 10 (by omega), e2 5 (by omega) (by omega), e2 6 (by omega) (by omega), e2 8 (by omega) (by omega), e2 9 (by omega) (by omega), e2 10 (by omega) (by omega), e2 11 (by omega) (by omega), e2 12 (by omega) (by omega), e2 13 (by omega) (by omega), e2 14 (by omega) (by omega)]
  exact h
theorem DSr.cg {F F' f f' : Nat → Int32} (h : DSr F f) (e : ∀ j, j < 8 → f' j = f j) (e2 : ∀ j, 5 ≤ j → j < 15 → F' j = F j) : DSr F' f' := by
  unfold DSr fT fF
  rw [e 0 (by omega), e 1 (by omega), e 2 (by omega), e 3 (by omega), e 4 (by omega), e 5 (by omega), e 6 (by omega), e 7 (by omega), e2 7 (by omega) (by omega), e2 8 (by omega) (by omega), e2 9 (by omega) (by omega)]
  exact h
theorem DSl.cg {lo f f' : Nat → Int32} (h : DSl lo f) (e : ∀ j, j = 0 ∨ j = 5 ∨ j = 6 ∨ j = 8 ∨ (175 ≤ j ∧ j < 239) → f' j = f j) : DSl lo f' := by
  obtain ⟨h1, h2, h3, h4⟩ := h
  refine ⟨by rw [e 6 (by omega)]; exact h1, by rw [e 6 (by omega), e 8 (by omega)]; exact h2, by rw [e 6 (by omega), e 8 (by omega), e 5 (by omega)]; exact h3, fun s hs => ?_⟩
  rw [e (175 + s) (by omega), e 0 (by omega)]
  exact h4 s hs
theorem ix_99 {x : Int32} (h : 1 ≤ x.toInt ∧ x.toInt ≤ 99) : 1 ≤ ix x ∧ ix x ≤ 99 ∧ x = nI (ix x) := by
  have := ix_toInt (x := x) (by omega)
  exact ⟨by omega, by omega, nI_ix (by omega)⟩
theorem DSk.cg {se f f' : Nat → Int32} (h : DSk se f) (ho : (f 1).toInt ≤ 99) (ht : (f 2).toInt ≤ 99) (e : ∀ j, j = 1 ∨ j = 2 ∨ (11 ≤ j ∧ j < 111) → f' j = f j) : DSk se f' := by
  obtain ⟨h1, h2, h3, h4, h5⟩ := h
  have i1 : ix (f 1) ≤ 99 := by unfold ix Int32.toNatClampNeg; omega
  have i2 : ix (f 2) ≤ 99 := by unfold ix Int32.toNatClampNeg; omega
  refine ⟨h1, fun k a b => ?_, h3, ?_, ?_⟩
  · rw [e (11 + k) (by omega)]; exact h2 k a b
  · rw [e 1 (by omega), e (11 + ix (f 1)) (by omega)]; exact h4
  · rw [e 2 (by omega), e (11 + ix (f 2)) (by omega)]; exact h5
theorem DSs.cg {sc ex f f' : Nat → Int32} (h : DSs sc ex f) (h64 : ix (f 0) ≤ 64) (e : ∀ j, j = 0 ∨ (111 ≤ j ∧ j < 175) ∨ (303 ≤ j ∧ j < 367) → f' j = f j) : DSs sc ex f' := by
  obtain ⟨h1, h2⟩ := h
  refine ⟨fun s hs => ?_, fun s hs => ?_⟩
  · rw [e 0 (by omega)] at hs; rw [e (111 + s) (by omega)]; exact h1 s hs
  · rw [e 0 (by omega)] at hs; rw [e (303 + s) (by omega)]; exact h2 s hs
theorem DSc.cg {ca f f' : Nat → Int32} (h : DSc ca f) (e : ∀ j, j = 0 ∨ (239 ≤ j ∧ j < 303) → f' j = f j) : DSc ca f' := by
  refine ⟨fun s hs => ?_, h.2⟩
  rw [e 0 (by omega), e (239 + s) (by omega)]
  exact h.1 s hs
section DS3
variable {M M' R : dkM} {d : Nat} {Mm : dkM}
theorem DS.tgt99 {f : Nat → Int32} (h : DS M d f) : (f 2).toInt ≤ 99 := by
  rcases h.r with r | r
  · rw [r.2.1]; decide
  · exact r.2.1.2
theorem DS.own99 {f : Nat → Int32} (h : DS M d f) : (f 1).toInt ≤ 99 := h.a.2.1.2.2
/-- a disk that is the same -/
theorem DS.row {f : Nat → Int32} (h : DS M d f) (e : ∀ a, d ≤ a → a < d + 11 → M' a = M a) : DS M' d f := by
  unfold DS at *
  rw [e d (by omega) (by omega), e (d + 2) (by omega) (by omega), e (d + 4) (by omega) (by omega), e (d + 6) (by omega) (by omega), e (d + 8) (by omega) (by omega), e (d + 10) (by omega) (by omega)]
  exact h
/-- a change of the class's own numbers, and of the state's first ones -/
theorem DS.lowc {f f' : Nat → Int32} (h : DS M d f) (hM : ∀ a, a ≠ d → M' a = M a) (a : DSa (M' d) f') (r : DSr (M' d) f') (l : DSl (M (d + 8)) f') (e : ∀ j, j = 0 ∨ j = 1 ∨ 11 ≤ j → f' j = f j) (e2 : f' 2 = f 2 ∨ f' 2 = -6 ∨ (f' 2 ≠ -6 → f (11 + ix (f' 2)) ≠ -6)) : DS M' d f' := by
  refine ⟨a, r, ?_, ?_, ?_, ?_⟩
  · rw [hM (d + 8) (by omega)]; exact l
  · rw [hM (d + 10) (by omega)]
    obtain ⟨h1, h2, h3, h4, h5⟩ := h.k
    refine ⟨h1, fun k a b => by rw [e (11 + k) (by omega)]; exact h2 k a b, h3, by rw [e 1 (by omega), e _ (by omega)]; exact h4, fun q => ?_⟩
    rw [e _ (by omega)]
    rcases e2 with w | w | w
    · rw [w]; rw [w] at q; exact h5 q
    · exact absurd w q
    · exact w q
  · rw [hM (d + 2) (by omega), hM (d + 4) (by omega)]
    exact h.s.cg h.sec.1 (fun j hj => e j (by omega))
  · rw [hM (d + 6) (by omega)]
    exact h.c.cg (fun j hj => e j (by omega))
theorem opn_f (h : DS M d (Mm 112)) (ho : mOpen Mm = false) : (Mm 112 5).toInt = 0 ∧ Mm 112 5 = 0 ∧ Mm 112 6 = 0 := by
  have h5 := h.a.2.2.2.2.2.1.2
  have h6 := h.f6
  unfold mOpen at ho
  by_cases q : 0 < Mm 112 5
  · rw [if_pos q] at ho; cases ho
  · rw [if_neg q] at ho
    by_cases q6 : Mm 112 6 ≤ 0
    · rw [tI_lt, e0I] at q
      exact ⟨by omega, Int32.toInt_inj.mp (by rw [e0I]; omega), (nonpos0 h6.1).1.mp q6⟩
    · rw [if_neg q6] at ho; cases ho
theorem DS.zone' (h : DS M d (Mm 112)) (ho : mOpen Mm = false) (hR : R 112 = Mm 112) {z : Int32} (hz : 1 ≤ z.toInt ∧ z.toInt ≤ 8) : DS (dk_put M d 11 z) d (dk_put R 112 7 z 112) := by
  have e : ∀ j, j ≠ 7 → dk_put R 112 7 z 112 j = Mm 112 j := fun j hj => by rw [put_k hj, hR]
  have e7 : dk_put R 112 7 z 112 7 = z := put_same
  have eF : ∀ j, j ≠ 11 → dk_put M d 11 z d j = M d j := fun j hj => put_k hj
  have a := h.a
  have o := opn_f h ho
  refine h.lowc (fun a ha => dk_put_ne ha) ?_ ?_ ?_ (fun j hj => e j (by omega)) (Or.inl (e 2 (by decide)))
  · unfold DSa
    rw [e 0 (by decide), e 1 (by decide), e 5 (by decide), e7, e 8 (by decide), e 9 (by decide), e 10 (by decide), eF 5 (by decide), eF 6 (by decide), eF 8 (by decide), eF 9 (by decide), eF 10 (by decide), eF 12 (by decide), eF 13 (by decide), eF 14 (by decide), put_same]
    exact ⟨a.1, a.2.1, ⟨rfl, hz⟩, a.2.2.2⟩
  · unfold DSr fT fF
    rw [e 0 (by decide), e 1 (by decide), e 2 (by decide), e 3 (by decide), e 4 (by decide), e 5 (by decide), e 6 (by decide), e7, eF 7 (by decide), eF 8 (by decide), eF 9 (by decide)]
    rcases h.r with r | r
    · exact Or.inl r
    · refine Or.inr ⟨r.1, r.2.1, r.2.2.1, r.2.2.2.1, r.2.2.2.2.1, r.2.2.2.2.2.1, ?_⟩
      have a1 := a.1
      rw [o.1]
      rcases r.2.2.2.2.2.1 with q | q
      · rw [q.1, if_neg (by decide), if_pos rfl]; omega
      · rw [q.1, if_pos rfl, if_neg (by decide)]; omega
  · exact h.l.cg (fun j hj => e j (by omega))
theorem DS.jour' (h : DS M d (Mm 112)) (ho : mOpen Mm = false) (hR : R 112 = Mm 112) {z : Int32} (hz : z = 0 ∨ z = 1) : DS (dk_put M d 12 z) d (dk_put R 112 8 z 112) := by
  have e : ∀ j, j ≠ 8 → dk_put R 112 8 z 112 j = Mm 112 j := fun j hj => by rw [put_k hj, hR]
  have e8 : dk_put R 112 8 z 112 8 = z := put_same
  have eF : ∀ j, j ≠ 12 → dk_put M d 12 z d j = M d j := fun j hj => put_k hj
  have a := h.a
  have o := opn_f h ho
  refine h.lowc (fun a ha => dk_put_ne ha) ?_ ?_ ?_ (fun j hj => e j (by omega)) (Or.inl (e 2 (by decide)))
  · unfold DSa
    rw [e 0 (by decide), e 1 (by decide), e 5 (by decide), e8, e 7 (by decide), e 9 (by decide), e 10 (by decide), eF 5 (by decide), eF 6 (by decide), eF 8 (by decide), eF 9 (by decide), eF 10 (by decide), eF 11 (by decide), eF 13 (by decide), eF 14 (by decide), put_same]
    exact ⟨a.1, a.2.1, a.2.2.1, ⟨rfl, hz⟩, a.2.2.2.2⟩
  · unfold DSr fT fF
    rw [e 0 (by decide), e 1 (by decide), e 2 (by decide), e 3 (by decide), e 4 (by decide), e 5 (by decide), e 6 (by decide), e 7 (by decide), eF 7 (by decide), eF 8 (by decide), eF 9 (by decide)]
    exact h.r
  · obtain ⟨l1, l2, l3, l4⟩ := h.l
    refine ⟨by rw [e 6 (by decide)]; exact l1, ?_, ?_, fun s hs => by rw [e (175 + s) (by omega), e 0 (by decide)]; exact l4 s hs⟩
    · rw [e 6 (by decide), o.2.2]; intro z; exact absurd z (by decide)
    · rw [e 5 (by decide), o.1]; intro _ z; exact absurd z (by decide)
/-- a call that changes the disk: refused by both, or done by both -/
def OK1 (d : Nat) (M Mm : dkM) (r m : Int32 × dkM) : Prop := (∃ e : Int32, e < 0 ∧ r = (e, M) ∧ m = (e, Mm)) ∨ (0 ≤ r.1.toInt ∧ r.1 = m.1 ∧ (∀ a, ¬ (d ≤ a ∧ a < d + 11) → r.2 a = M a) ∧ (∀ a, a ≠ 112 → m.2 a = mRec Mm a) ∧ DS r.2 d (m.2 112))
theorem OK1.no {r m : Int32 × dkM} {e : Int32} (he : e < 0) (h1 : r = (e, M)) (h2 : m = (e, Mm)) : OK1 d M Mm r m := Or.inl ⟨e, he, h1, h2⟩
theorem Wn {v : Int32} {a b : Int32} (h : ¬ mWithin v a b = true) : v.toInt < a.toInt ∨ b.toInt < v.toInt := by
  rw [mW_iff] at h; omega
theorem DS.zone (h : DS M d (Mm 112)) (z : Int32) : OK1 d M Mm (dZone M d z) (mSetZone Mm z) := by
  have e8 : (8 : Int32).toInt = 8 := by decide
  unfold dZone mSetZone mSets
  rw [h.opn]
  by_cases hw : mWithin z 1 8 = true
  · have hz := mW_iff.mp hw
    rw [e1I, e8] at hz
    rw [if_pos hw, if_neg (by rw [tI_lt, e1I]; omega), if_neg (by rw [tI_lt, e8]; omega)]
    cases ho : mOpen Mm with
    | true => exact OK1.no (e := -3) (by decide) rfl rfl
    | false =>
      simp only [Bool.false_eq_true, if_false]
      have a3 := h.a.2.2.1
      refine Or.inr ⟨?_, ?_, ?_, ?_, ?_⟩
      · dsimp only; rw [a3.1]; omega
      · exact a3.1
      · intro a ha; exact dk_put_ne (by omega)
      · intro a ha; exact dk_put_ne ha
      · exact h.zone' ho (mRec_st Mm) hz
  · rw [if_neg hw]
    have hz := Wn hw
    rw [e1I, e8] at hz
    by_cases q : z < 1
    · rw [if_pos q]; exact OK1.no (e := -2) (by decide) rfl rfl
    · rw [if_neg q, if_pos (by rw [tI_lt, e1I] at q; rw [tI_lt, e8]; omega)]; exact OK1.no (e := -2) (by decide) rfl rfl
theorem DS.jour (h : DS M d (Mm 112)) (z : Int32) : OK1 d M Mm (dJour M d z) (mSetJ Mm z) := by
  unfold dJour mSetJ mSets
  rw [h.opn, h.ju]
  have a4 := h.a.2.2.2.1
  by_cases hw : mWithin z 0 1 = true
  · have hz := mW_iff.mp hw
    rw [e1I, e0I] at hz
    rw [if_pos hw]
    have h01 : z = 0 ∨ z = 1 := by
      rcases Int.lt_or_le z.toInt 1 with q | q
      · exact Or.inl (Int32.toInt_inj.mp (by rw [e0I]; omega))
      · exact Or.inr (Int32.toInt_inj.mp (by rw [e1I]; omega))
    have hv : 0 ≤ (Mm 112 8).toInt := by rcases a4.2 with q | q <;> rw [q] <;> decide
    have fin : OK1 d M Mm (if mOpen Mm = true then (-3, M) else (Mm 112 8, dk_put M d 12 z)) (if mOpen Mm = true then (-3, Mm) else (Mm 112 8, dk_put (mRec Mm) 112 8 z)) := by
      cases ho : mOpen Mm with
      | true => exact OK1.no (e := -3) (by decide) rfl rfl
      | false =>
        simp only [Bool.false_eq_true, if_false]
        exact Or.inr ⟨hv, rfl, fun a ha => dk_put_ne (by omega), fun a ha => dk_put_ne ha, h.jour' ho (mRec_st Mm) h01⟩
    rcases h01 with q | q
    · rw [if_pos q]; rw [q] at fin ⊢; exact fin
    · rw [if_neg (by rw [q]; decide), if_pos q]; rw [q] at fin ⊢; exact fin
  · rw [if_neg hw]
    have hz := Wn hw
    rw [e1I, e0I] at hz
    rw [if_neg (by intro q; rw [q, e0I] at hz; omega), if_neg (by intro q; rw [q, e1I] at hz; omega)]
    exact OK1.no (e := -2) (by decide) rfl rfl
end DS3
