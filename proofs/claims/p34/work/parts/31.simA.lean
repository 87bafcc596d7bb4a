/-! the whole relation -/
def TS (Mx Mm : dkM) : Prop := Mx 102 4 = Mm 111 6 ∧ tI Mm ∧ ∀ i, i < ix (Mm 111 6) → Mx 104 i = Mm 116 i ∧ 33 ≤ (Mm 116 i).toInt ∧ (Mm 116 i).toInt ≤ 126
def hsl (nx sv j : Nat) : Nat := (nx + 7 - sv + j) % 7
def HS (Mx Mm : dkM) : Prop := Mx 23 2 = Mm 111 4 ∧ rI Mm ∧ ∀ j, j < ix (Mm 111 4) → DS Mx (25 + 11 * hsl (ix (Mx 23 1)) (ix (Mm 111 4)) j) (fun b => Mm 115 (j * 367 + b))
def Sim (Mx Mm : dkM) : Prop := xI Mx ∧ DS Mx 1 (Mm 112) ∧ TS Mx Mm ∧ HS Mx Mm
theorem DS.fcg {M : dkM} {d : Nat} {f f' : Nat → Int32} (h : DS M d f) (e : ∀ j, j < 367 → f' j = f j) : DS M d f' := by
  have hs := h.sec.1
  exact ⟨h.a.cg (fun j hj => e j (by omega)) (fun _ _ _ => rfl), h.r.cg (fun j hj => e j (by omega)) (fun _ _ _ => rfl), h.l.cg (fun j hj => e j (by omega)), h.k.cg h.own99 h.tgt99 (fun j hj => e j (by omega)), h.s.cg hs (fun j hj => e j (by omega)), h.c.cg (fun j hj => e j (by omega))⟩
section SM
variable {Mx Mm : dkM}
theorem Sim.x (h : Sim Mx Mm) : xI Mx := h.1
theorem Sim.ds (h : Sim Mx Mm) : DS Mx 1 (Mm 112) := h.2.1
theorem Sim.m (h : Sim Mx Mm) : mI Mm := h.2.1.mi
theorem Sim.r (h : Sim Mx Mm) : rI Mm := h.2.2.2.2.1
theorem Sim.t (h : Sim Mx Mm) : tI Mm := h.2.2.1.2.1
theorem Sim.ts (h : Sim Mx Mm) : TS Mx Mm := h.2.2.1
theorem Sim.hh (h : Sim Mx Mm) : HS Mx Mm := h.2.2.2
theorem hsl_lt (a b c : Nat) : hsl a b c < 7 := Nat.mod_lt _ (by decide)
theorem xI_cg {Mx' : dkM} (h : xI Mx) (e : ∀ a, a < 12 ∨ (23 ≤ a ∧ a < 102) → Mx' a = Mx a) : xI Mx' := by
  obtain ⟨h1, h2, h3, h4⟩ := h
  refine ⟨?_, fun j hj => ?_, ?_, ?_⟩
  · unfold hI; rw [e 23 (by omega)]; exact h1
  · unfold dZ; rw [e (24 + 1 + 11 * j) (by omega)]; exact h2 j hj
  · unfold dZ; rw [e 1 (by omega)]; exact h3
  · exact dI_of (e 1 (by omega)) h4
theorem Sim.oth {Mx' Mm' : dkM} (h : Sim Mx Mm) (e : ∀ a, a < 12 ∨ (23 ≤ a ∧ a < 102) → Mx' a = Mx a) (e112 : ∀ j, j < 367 → Mm' 112 j = Mm 112 j) (e115 : Mm' 115 = Mm 115) (e4 : Mm' 111 4 = Mm 111 4) (t : TS Mx' Mm') : Sim Mx' Mm' := by
  refine ⟨xI_cg h.x e, ?_, t, ?_, ?_, fun j hj => ?_⟩
  · exact (h.ds.row (fun a h1 h2 => e a (by omega))).fcg e112
  · rw [e 23 (by omega), e4]; exact h.hh.1
  · unfold rI; rw [e4]; exact h.r
  · rw [e4] at hj
    rw [e 23 (by omega), e4, e115]
    have hl := hsl_lt (ix (Mx 23 1)) (ix (Mm 111 4)) j
    exact (h.hh.2.2 j hj).row (fun a h1 h2 => e a (by omega))
theorem TS.cg {Mx' Mm' : dkM} (h : TS Mx Mm) (e1 : Mx' 102 = Mx 102) (e2 : Mx' 104 = Mx 104) (e3 : Mm' 111 6 = Mm 111 6) (e4 : Mm' 116 = Mm 116) : TS Mx' Mm' := by
  unfold TS tI
  rw [e1, e2, e3, e4]
  exact h
theorem hD_r (M : dkM) {a : Nat} (h : ¬ (25 + 11 * ix (M 23 1) ≤ a ∧ a < 25 + 11 * ix (M 23 1) + 11)) : hDraft M a = M a := by
  unfold hDraft hSlot
  exact dCopy_ne (by omega)
theorem Sim.draft (h : Sim Mx Mm) : Sim (hDraft Mx) Mm := by
  have hn := h.x.1.j
  have e : ∀ a, ¬ (25 ≤ a ∧ a < 102) → hDraft Mx a = Mx a := fun a ha => hDraft_ne h.x.1 ha
  refine ⟨⟨?_, fun j hj => ?_, ?_, ?_⟩, ?_, ?_, ?_, h.r, fun j hj => ?_⟩
  · unfold hI; rw [e 23 (by omega)]; exact h.x.1
  · by_cases q : j = ix (Mx 23 1)
    · unfold dZ hDraft hSlot
      rw [q, dCopy_f (by omega) (by omega), dCopy_f (by omega) (by omega)]
      exact h.x.2.2.1
    · unfold dZ; rw [hD_r Mx (by omega)]; exact h.x.2.1 j hj
  · unfold dZ; rw [e 1 (by omega)]; exact h.x.2.2.1
  · exact dI_of (e 1 (by omega)) h.x.2.2.2
  · exact h.ds.row (fun a h1 h2 => e a (by omega))
  · exact h.ts.cg (e 102 (by omega)) (e 104 (by omega)) rfl rfl
  · rw [e 23 (by omega)]; exact h.hh.1
  · rw [e 23 (by omega)]
    have hl := hsl_lt (ix (Mx 23 1)) (ix (Mm 111 4)) j
    have hr := h.r
    have hr2 := ix_toInt (x := Mm 111 4) (by unfold rI at hr; omega)
    have hne : hsl (ix (Mx 23 1)) (ix (Mm 111 4)) j ≠ ix (Mx 23 1) := by unfold hsl; unfold rI at hr; omega
    exact (h.hh.2.2 j hj).row (fun a h1 h2 => hD_r Mx (by omega))
theorem iRem7 {n : Nat} (h : n < 7) : iRem (nI n + 1) 7 = nI ((n + 1) % 7) := by
  unfold iRem
  match n, h with
  | 0, _ => decide
  | 1, _ => decide
  | 2, _ => decide
  | 3, _ => decide
  | 4, _ => decide
  | 5, _ => decide
  | 6, _ => decide
  | k + 7, h => omega
theorem min6 {n : Nat} (h : n ≤ 6) : dk_min (nI n + 1) 6 = nI (if n = 6 then 6 else n + 1) := by
  unfold dk_min
  match n, h with
  | 0, _ => decide
  | 1, _ => decide
  | 2, _ => decide
  | 3, _ => decide
  | 4, _ => decide
  | 5, _ => decide
  | 6, _ => decide
  | k + 7, h => omega
/-- what the model's record does -/
theorem rec_c (h : rI Mm) : mRec Mm 111 4 = nI (if ix (Mm 111 4) = 6 then 6 else ix (Mm 111 4) + 1) ∧ ∀ j b, b < 367 → (j < (if ix (Mm 111 4) = 6 then 5 else ix (Mm 111 4)) → mRec Mm 115 (j * 367 + b) = Mm 115 ((if ix (Mm 111 4) = 6 then j + 1 else j) * 367 + b)) ∧ (j = (if ix (Mm 111 4) = 6 then 5 else ix (Mm 111 4)) → mRec Mm 115 (j * 367 + b) = Mm 112 b) := by
  have h0 := ix_toInt (x := Mm 111 4) (by unfold rI at h; omega)
  have hn : Mm 111 4 = nI (ix (Mm 111 4)) := nI_ix (by unfold rI at h; omega)
  unfold rI at h
  by_cases q : ix (Mm 111 4) = 6
  · have q6 : Mm 111 4 = 6 := by rw [hn, q]; rfl
    have e1 : mRec1 Mm = dk_put (mShift Mm 1835) 111 4 (Mm 111 4 - 1) := by unfold mRec1; rw [if_pos q6]
    have e5 : mRec1 Mm 111 4 = 5 := by rw [e1, put_same, q6]; decide
    have i5 : ix (mRec1 Mm 111 4) = 5 := by rw [e5]; rfl
    refine ⟨?_, fun j b hb => ⟨fun hj => ?_, fun hj => ?_⟩⟩
    · unfold mRec; rw [put_same, e5, if_pos q]; decide
    · rw [if_pos q] at hj ⊢
      unfold mRec
      rw [dk_put_ne (by decide), i5]
      unfold mCopy
      rw [if_neg (by omega), e1, dk_put_ne (by decide)]
      unfold mShift
      rw [if_pos (by omega), show j * 367 + b + 367 = (j + 1) * 367 + b by omega]
    · rw [if_pos q] at hj
      unfold mRec
      rw [dk_put_ne (by decide), i5]
      unfold mCopy
      rw [if_pos (by omega), show 0 + (j * 367 + b - 5 * 367) = b by omega, mRec1_ne _ (by decide) (by decide)]
  · have q6 : ¬ Mm 111 4 = 6 := fun z => q (by rw [z]; rfl)
    have e1 : mRec1 Mm = Mm := by unfold mRec1; rw [if_neg q6]
    refine ⟨?_, fun j b hb => ⟨fun hj => ?_, fun hj => ?_⟩⟩
    · unfold mRec; rw [put_same, e1, if_neg q]; rw [hn, nI_1, ix_nI (by omega)]
    · rw [if_neg q] at hj ⊢
      unfold mRec
      rw [dk_put_ne (by decide), e1]
      unfold mCopy
      rw [if_neg ?_]
      intro z
      have : (j + 1) * 367 ≤ ix (Mm 111 4) * 367 := Nat.mul_le_mul_right 367 hj
      omega
    · rw [if_neg q] at hj
      unfold mRec
      rw [dk_put_ne (by decide), e1]
      unfold mCopy
      rw [if_pos (by rw [hj]; omega), hj, show 0 + (ix (Mm 111 4) * 367 + b - ix (Mm 111 4) * 367) = b by omega]
/-- a call that changes the disk, refused or done -/
theorem sim_U (h : Sim Mx Mm) {r m : Int32 × dkM} (u : OK2 1 (hDraft Mx) Mm r m) : (xU r).1 = m.1 ∧ Sim (xU r).2 m.2 := by
  have hd := h.draft
  rcases u with ⟨e, he, rfl, rfl⟩ | ⟨h0, h1, h2, h3, h4⟩
  · refine ⟨rfl, ?_⟩
    show Sim (hKeep (hDraft Mx) e) Mm
    unfold hKeep
    rw [if_pos he]
    exact hd
  · refine ⟨h1, ?_⟩
    have hn := h.x.1.j
    have hnn := h.x.1.n
    have hr := h.r
    have hrc := rec_c hr
    have i0 := ix_toInt (x := Mm 111 4) (by unfold rI at hr; omega)
    have in0 : Mm 111 4 = nI (ix (Mm 111 4)) := nI_ix (by unfold rI at hr; omega)
    have le6 : ix (Mm 111 4) ≤ 6 := by unfold rI at hr; omega
    have e23 : r.2 23 = Mx 23 := by rw [h2 23 (by omega)]; exact hDraft_ne h.x.1 (by omega)
    show Sim (hKeep r.2 r.1) m.2
    unfold hKeep
    rw [if_neg (by rw [tI_lt, e0I]; omega), e23]
    have c1 : dk_put (dk_put r.2 23 1 (iRem (Mx 23 1 + 1) 7)) 23 2 (dk_min (Mx 23 2 + 1) 6) 23 1 = nI ((ix (Mx 23 1) + 1) % 7) := by
      rw [put_k (by decide), put_same]
      conv => lhs; rw [hnn]
      exact iRem7 hn
    have c2 : dk_put (dk_put r.2 23 1 (iRem (Mx 23 1 + 1) 7)) 23 2 (dk_min (Mx 23 2 + 1) 6) 23 2 = nI (if ix (Mm 111 4) = 6 then 6 else ix (Mm 111 4) + 1) := by
      rw [put_same, h.hh.1]
      conv => lhs; rw [in0]
      exact min6 le6
    have cr : ∀ a, a ≠ 23 → dk_put (dk_put r.2 23 1 (iRem (Mx 23 1 + 1) 7)) 23 2 (dk_min (Mx 23 2 + 1) 6) a = r.2 a := fun a ha => by rw [dk_put_ne ha, dk_put_ne ha]
    generalize dk_put (dk_put r.2 23 1 (iRem (Mx 23 1 + 1) 7)) 23 2 (dk_min (Mx 23 2 + 1) 6) = Mn at *
    have i1 : ix (Mn 23 1) = (ix (Mx 23 1) + 1) % 7 := by rw [c1]; exact ix_nI (by omega)
    have m4 : m.2 111 4 = nI (if ix (Mm 111 4) = 6 then 6 else ix (Mm 111 4) + 1) := by rw [h3 111 (by decide) (by decide)]; exact hrc.1
    have im4 : ix (m.2 111 4) = if ix (Mm 111 4) = 6 then 6 else ix (Mm 111 4) + 1 := by rw [m4]; exact ix_nI (by split <;> omega)
    refine ⟨⟨?_, fun j hj => ?_, ?_, ?_⟩, ?_, ?_, ?_, ?_, fun j hj => ?_⟩
    · unfold hI; rw [c1, nI_toInt (by omega)]; omega
    · unfold dZ; rw [cr _ (by omega), h2 _ (by omega)]; exact hd.x.2.1 j hj
    · unfold dZ; rw [cr 1 (by omega)]; exact h4.dz
    · exact dI_of (cr 1 (by omega)) h4.di
    · exact h4.row (fun a a1 a2 => cr a (by omega))
    · refine h.ts.cg ?_ ?_ ?_ ?_
      · rw [cr 102 (by omega), h2 102 (by omega)]; exact hDraft_ne h.x.1 (by omega)
      · rw [cr 104 (by omega), h2 104 (by omega)]; exact hDraft_ne h.x.1 (by omega)
      · rw [h3 111 (by decide) (by decide)]; exact mRec_111 _ (by decide)
      · rw [h3 116 (by decide) (by decide)]; exact mRec_ne _ (by decide) (by decide)
    · rw [c2, m4]
    · unfold rI; rw [m4, nI_toInt (by split <;> omega)]; split <;> omega
    · rw [im4] at hj
      rw [i1, im4, h3 115 (by decide) (by decide)]
      by_cases q : j = (if ix (Mm 111 4) = 6 then 5 else ix (Mm 111 4))
      · have hsj : hsl ((ix (Mx 23 1) + 1) % 7) (if ix (Mm 111 4) = 6 then 6 else ix (Mm 111 4) + 1) j = ix (Mx 23 1) := by
          unfold hsl
          rw [q]
          split <;> omega
        rw [hsj]
        have hD : DS (hDraft Mx) (25 + 11 * ix (Mx 23 1)) (Mm 112) := DS.cop (d := hSlot Mx) h.ds (by unfold apart hSlot; omega)
        refine (hD.row (fun a a1 a2 => ?_)).fcg (fun b hb => ((hrc.2 j b hb).2 q))
        rw [cr a (by omega), h2 a (by omega)]
      · have hj2 : j < (if ix (Mm 111 4) = 6 then 5 else ix (Mm 111 4)) := by
          revert hj q; split <;> intro hj q <;> omega
        have hsj : hsl ((ix (Mx 23 1) + 1) % 7) (if ix (Mm 111 4) = 6 then 6 else ix (Mm 111 4) + 1) j = hsl (ix (Mx 23 1)) (ix (Mm 111 4)) (if ix (Mm 111 4) = 6 then j + 1 else j) := by
          unfold hsl
          split <;> omega
        rw [hsj]
        have hj3 : (if ix (Mm 111 4) = 6 then j + 1 else j) < ix (Mm 111 4) := by
          revert hj2; split <;> intro hj2 <;> omega
        have hl := hsl_lt (ix (Mx 23 1)) (ix (Mm 111 4)) (if ix (Mm 111 4) = 6 then j + 1 else j)
        have e23d : hDraft Mx 23 = Mx 23 := hDraft_ne h.x.1 (by omega)
        have hD := hd.hh.2.2 _ hj3
        rw [e23d] at hD
        refine (hD.row (fun a a1 a2 => ?_)).fcg (fun b hb => ((hrc.2 j b hb).1 hj2))
        rw [cr a (by omega), h2 a (by omega)]
theorem sim_format (h : Sim Mx Mm) (n : Int32) : (xU (dFormat (hDraft Mx) 1 n)).1 = (mFormat Mm n).1 ∧ Sim (xU (dFormat (hDraft Mx) 1 n)).2 (mFormat Mm n).2 := sim_U h (h.draft.ds.format n).to2
theorem sim_addKey (h : Sim Mx Mm) (k c : Int32) : (xU (dAdd (hDraft Mx) 1 k c)).1 = (mAdd Mm k c).1 ∧ Sim (xU (dAdd (hDraft Mx) 1 k c)).2 (mAdd Mm k c).2 := sim_U h (h.draft.ds.add k c).to2
theorem sim_removeKey (h : Sim Mx Mm) (k : Int32) : (xU (dDrop (hDraft Mx) 1 k)).1 = (mRem Mm k).1 ∧ Sim (xU (dDrop (hDraft Mx) 1 k)).2 (mRem Mm k).2 := sim_U h (h.draft.ds.drop k).to2
theorem sim_setZone (h : Sim Mx Mm) (z : Int32) : (xU (dZone (hDraft Mx) 1 z)).1 = (mSetZone Mm z).1 ∧ Sim (xU (dZone (hDraft Mx) 1 z)).2 (mSetZone Mm z).2 := sim_U h (h.draft.ds.zone z).to2
theorem sim_setJournal (h : Sim Mx Mm) (z : Int32) : (xU (dJour (hDraft Mx) 1 z)).1 = (mSetJ Mm z).1 ∧ Sim (xU (dJour (hDraft Mx) 1 z)).2 (mSetJ Mm z).2 := sim_U h (h.draft.ds.jour z).to2
theorem sim_start (h : Sim Mx Mm) (k : Int32) : (xU (dBegin (hDraft Mx) 1 k)).1 = (mStart Mm k).1 ∧ Sim (xU (dBegin (hDraft Mx) 1 k)).2 (mStart Mm k).2 := sim_U h (h.draft.ds.begin k).to2
theorem sim_steps (h : Sim Mx Mm) (n : Int32) : (xU (dAdv (hDraft Mx) 1 n)).1 = (mSteps Mm n).1 ∧ Sim (xU (dAdv (hDraft Mx) 1 n)).2 (mSteps Mm n).2 := sim_U h (h.draft.ds.adv n).to2
theorem sim_turnBack (h : Sim Mx Mm) : (xU (dTurn (hDraft Mx) 1)).1 = (mTurn Mm).1 ∧ Sim (xU (dTurn (hDraft Mx) 1)).2 (mTurn Mm).2 := sim_U h h.draft.ds.turn.to2
theorem sim_write (h : Sim Mx Mm) (s v : Int32) : (xU (dPut (hDraft Mx) 1 s v)).1 = (mWrite Mm s v).1 ∧ Sim (xU (dPut (hDraft Mx) 1 s v)).2 (mWrite Mm s v).2 := sim_U h (h.draft.ds.put s v).to2
theorem sim_flush (h : Sim Mx Mm) : (xU (nI (flN (hDraft Mx) 1 (ix (hDraft Mx 1 5))), flM (hDraft Mx) 1 (ix (hDraft Mx 1 5)))).1 = (mFlush Mm).1 ∧ Sim (xU (nI (flN (hDraft Mx) 1 (ix (hDraft Mx 1 5))), flM (hDraft Mx) 1 (ix (hDraft Mx 1 5)))).2 (mFlush Mm).2 := sim_U h h.draft.ds.flush.to2
theorem sim_fail (h : Sim Mx Mm) : (xU (nI (lpN (hDraft Mx) 1 (ix (hDraft Mx 1 5))), dFail (hDraft Mx) 1)).1 = (mFail Mm).1 ∧ Sim (xU (nI (lpN (hDraft Mx) 1 (ix (hDraft Mx 1 5))), dFail (hDraft Mx) 1)).2 (mFail Mm).2 := sim_U h h.draft.ds.fail
end SM
