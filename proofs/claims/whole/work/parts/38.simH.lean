/-! carrying a script out -/
section SH
variable {T : Nat} {w : Nat → Int32} {M Mx Mm Mh : dkM}
theorem nI_ne6 {n : Nat} (h : n < 2 ^ 31) : nI n ≠ -6 := by
  intro z
  have := congrArg Int32.toInt z
  rw [nI_toInt h, show (-6 : Int32).toInt = -6 from by decide] at this
  omega
theorem step1 (hS : SPok T w Mh) {k q : Nat} (hk : k < 40) (h : PM T w M q) (hf : FE T w q 0 = -6) (s1 : (spL Mh q).1 = nI k) : ∃ q', q < q' ∧ PM T w (mNxt M) q' ∧ (q' = T ∨ (FE T w q' 0 = -6 ∧ q + 2 ≤ q')) ∧ CM Mh k q (mCmd M).2 q' := by
  obtain ⟨q', p1, p2⟩ := cmd h
  have hle := p1.2.2.1
  have h80 := p1.2.2.2.1
  rcases p2 with ⟨a, b, c⟩ | ⟨a, c⟩
  · obtain ⟨q2, t1, t2⟩ := cmd2 hS hk h s1 a
    have e := p1.uniq t1
    subst e
    rw [hf] at c
    by_cases z : q' = T
    · refine ⟨q', b, p1.nextF ?_, Or.inl z, t2⟩
      unfold chr
      rw [if_neg (by omega)]
      decide
    · rw [if_neg z] at c
      by_cases y : chr T w q' = 59
      · rw [if_pos y] at c
        have hl : q' < T := by omega
        have es : spL Mh (q' + 1) = spL Mh q' := by
          rw [hS q' hl]
          unfold spStep
          rw [show w q' = 59 from by rw [← chr_w (w := w) hl]; exact y, d59, if_neg (by decide), if_neg (by decide), if_pos rfl]
        refine ⟨q' + 1, by omega, p1.nextT y (by decide), Or.inr ⟨c.symm, by omega⟩, ?_⟩
        unfold CM
        rw [es]
        exact t2
      · rw [if_neg y] at c
        exact absurd c.symm (nI_ne6 (by omega))
  · rw [hf] at c
    exact absurd c.symm (nI_ne6 (by omega))
theorem FE_T6 (h : T ≤ 80) : FE T w T 0 ≠ -6 := by
  rw [FE_T, if_neg (by decide), if_neg (by decide)]
  exact nI_ne6 (by omega)
/-- what the class has split in the end -/
theorem split_end (hS : SPok T w Mh) : ∀ (n : Nat) (M : dkM) (q k : Nat), T - q < n → PM T w M q → (q = T ∨ FE T w q 0 = -6) → (q < T → 2 * k ≤ q) → k ≤ q → (spL Mh q).1 = nI k → ∃ C, (spL Mh T).1 = nI C ∧ k ≤ C ∧ C ≤ T ∧ (∀ a j, j < k → (spL Mh T).2.2 a j = (spL Mh q).2.2 a j) := by
  intro n
  induction n with
  | zero => intro M q k hn; omega
  | succ n ih =>
    intro M q k hn h hq h2 hk s1
    have h80 := h.2.2.2.1
    have hle := h.2.2.1
    rcases hq with z | z
    · exact ⟨k, by rw [← z]; exact s1, Nat.le_refl k, by omega, fun a j _ => by rw [z]⟩
    · have hl : q < T := by
        rcases Nat.lt_or_ge q T with y | y
        · exact y
        · rw [show q = T by omega] at z; exact absurd z (FE_T6 h80)
      have := h2 hl
      obtain ⟨q', a1, a2, a3, a4⟩ := step1 hS (by omega) h z s1
      obtain ⟨C, c1, c2, c3, c4⟩ := ih (mNxt M) q' (k + 1) (by omega) a2 (a3.imp id (fun y => y.1)) (fun y => by rcases a3 with x | x <;> omega) (by omega) a4.1
      refine ⟨C, c1, by omega, c3, fun a j hj => ?_⟩
      rw [c4 a j (by omega)]
      exact a4.2.2.2.2.1 a j (by omega)
theorem dObey_ne (M : dkM) (d : Nat) (c s n : Int32) {a : Nat} (h : ¬ (d ≤ a ∧ a < d + 11)) : (dObey M d c s n).2 a = M a := by
  unfold dObey
  split
  · unfold dPut
    repeat' split
    all_goals first | rfl | exact rset2_ne h
  · split
    · exact flM_ne _ _ _ h
    · split
      · unfold dAdv
        repeat' split
        all_goals first | rfl | exact advL_ne d h _ _ _
      · split
        · exact dFail_ne _ _ h
        · split
          · unfold dTurn
            split
            · split
              · rfl
              · dsimp only; rw [endThru_ne _ _ (by omega), dk_put_ne (by omega)]
            · rfl
          · rfl
theorem mNxt_4 (M : dkM) : mNxt M 111 4 = M 111 4 := by
  unfold mNxt; rw [mNextM_4, mCmd_4]
theorem mNxt_j (M : dkM) {j : Nat} (h : j ≠ 8) : mNxt M 111 j = (mCmd M).2 111 j := mNextM_keep _ _ h
/-- the loop over the commands -/
theorem co (hS : SPok T w Mh) {C : Nat} (hC : (spL Mh T).1 = nI C) (hC2 : C ≤ T) : ∀ (n : Nat) (Mc M : dkM) (q k : Nat), T - q < n → DS Mc 1 (M 112) → PM T w M q → (q = T ∨ FE T w q 0 = -6) → (q < T → 2 * k ≤ q) → k ≤ q → (spL Mh q).1 = nI k → (∀ a, a = 106 ∨ a = 108 ∨ a = 110 → Mc a = (spL Mh T).2.2 a) → (coL (C - k) Mc k).1 = (mCoL n M k).1 ∧ DS (coL (C - k) Mc k).2 1 ((mCoL n M k).2 112) ∧ (∀ a, ¬ (1 ≤ a ∧ a < 12) → (coL (C - k) Mc k).2 a = Mc a) ∧ (∀ a, a ≠ 111 → a ≠ 112 → (mCoL n M k).2 a = M a) ∧ (mCoL n M k).2 111 4 = M 111 4 ∧ (coL (C - k) Mc k).1 ≤ T := by
  intro n
  induction n with
  | zero => intro Mc M q k hn; omega
  | succ n ih =>
    intro Mc M q k hn hD h hq h2 hk s1 hA
    have h80 := h.2.2.2.1
    have hle := h.2.2.1
    unfold mCoL
    rw [h.1, h.2.1]
    by_cases z : q = T
    · have ek : C = k := by
        rw [z, hC] at s1
        exact (nI_eq (by omega) (by omega)).mp s1
      rw [if_pos (show nI T ≤ nI q from by rw [z]; exact Int32.le_refl _), ek, Nat.sub_self]
      exact ⟨rfl, hD, fun _ _ => rfl, fun _ _ _ => rfl, rfl, by show k ≤ T; omega⟩
    · have hl : q < T := by omega
      have hf : FE T w q 0 = -6 := by
        rcases hq with y | y
        · exact absurd y z
        · exact y
      have h2k := h2 hl
      rw [if_neg (show ¬ nI T ≤ nI q from by rw [tI_le, nI_toInt (by omega), nI_toInt (by omega)]; omega)]
      obtain ⟨q', a1, a2, a3, a4⟩ := step1 hS (by omega) h hf s1
      have b1 : (q' = T ∨ FE T w q' 0 = -6) := a3.imp id (fun y => y.1)
      have b2 : (q' < T → 2 * (k + 1) ≤ q') := fun y => by rcases a3 with x | x <;> omega
      obtain ⟨C', c1, c2, c3, c4⟩ := split_end hS (n + 1) (mNxt M) q' (k + 1) (by omega) a2 b1 b2 (by omega) a4.1
      have eC : C' = C := (nI_eq (by omega) (by omega)).mp (c1.symm.trans hC)
      obtain ⟨m1, m2, m3, m4, m5, m6⟩ := a4
      have r6 : rget Mc 105 40 (nI k) = mNxt M 111 9 := by
        rw [rget_nI (by omega) (by decide), hA (105 + 1) (by omega), c4 _ k (by omega), mNxt_j M (by decide)]; exact m2
      have r8 : mNxt M 111 9 = 119 → rget Mc 107 40 (nI k) = mNxt M 111 10 ∧ rget Mc 109 40 (nI k) = mNxt M 111 11 := fun y => by
        rw [mNxt_j M (by decide)] at y
        rw [rget_nI (by omega) (by decide), rget_nI (by omega) (by decide), hA (107 + 1) (by omega), hA (109 + 1) (by omega), c4 _ k (by omega), c4 _ k (by omega), mNxt_j M (by decide), mNxt_j M (by decide)]
        exact m3 y
      have r10 : mNxt M 111 9 = 115 → rget Mc 109 40 (nI k) = mNxt M 111 10 := fun y => by
        rw [mNxt_j M (by decide)] at y
        rw [rget_nI (by omega) (by decide), hA (109 + 1) (by omega), c4 _ k (by omega), mNxt_j M (by decide)]
        exact m4 y
      have rL : mNxt M 111 9 = 98 ∨ mNxt M 111 9 = 102 ∨ mNxt M 111 9 = 115 ∨ mNxt M 111 9 = 119 ∨ mNxt M 111 9 = 120 := by
        rw [mNxt_j M (by decide)]; exact m6
      have hN : DS Mc 1 (mNxt M 112) := by rw [mNxt_rows M (by decide)]; exact hD
      have ob := DS.obey (Mm := mNxt M) hN (c := rget Mc 105 40 (nI k)) (s := rget Mc 107 40 (nI k)) (n := rget Mc 109 40 (nI k)) r6.symm (fun y => r8 (r6.symm.trans y)) (fun y => r10 (r6.symm.trans y)) (by rw [r6]; exact rL)
      rw [show C - k = (C - (k + 1)) + 1 by omega]
      unfold coL coR
      rcases ob with ⟨o1, o2, o3⟩ | ⟨o1, o2, o3⟩
      · rw [if_pos o1, if_neg (show ¬ (dObey Mc 1 (rget Mc 105 40 (nI k)) (rget Mc 107 40 (nI k)) (rget Mc 109 40 (nI k))).1 < 0 from by rw [tI_lt, e0I]; omega)]
        have hp : PM T w (mDoes (mNxt M)) q' := by
          obtain ⟨x1, x2, x3, x4, x5⟩ := a2
          exact ⟨by rw [mDoes_row _ (by decide)]; exact x1, by rw [mDoes_row _ (by decide)]; exact x2, x3, x4, by rw [mDoes_row _ (by decide)]; exact x5⟩
        obtain ⟨i1, i2, i3, i4, i5, i6⟩ := ih (dObey Mc 1 (rget Mc 105 40 (nI k)) (rget Mc 107 40 (nI k)) (rget Mc 109 40 (nI k))).2 (mDoes (mNxt M)) q' (k + 1) (by omega) o3 hp b1 b2 (by omega) m1 (fun a ha => by rw [dObey_ne _ _ _ _ _ (by omega)]; exact hA a ha)
        refine ⟨i1, i2, fun a ha => ?_, fun a h1 h2 => ?_, ?_, i6⟩
        · rw [i3 a ha, dObey_ne _ _ _ _ _ (by omega)]
        · rw [i4 a h1 h2, mDoes_row _ h2, mNxt_rows M h1]
        · rw [i5, mDoes_row _ (by decide), mNxt_4]
      · rw [if_neg o1, if_pos o2, o3]
        exact ⟨rfl, hN, fun _ _ => rfl, fun a h1 _ => mNxt_rows M h1, mNxt_4 M, by show k ≤ T; omega⟩
theorem hKeep_cg {X Y : dkM} {v : Int32} {a : Nat} (h23 : X 23 = Y 23) (ha : X a = Y a) : hKeep X v a = hKeep Y v a := by
  unfold hKeep
  split
  · exact ha
  · rw [h23]
    by_cases q : a = 23
    · rw [q]
      funext b
      unfold dk_put
      simp only [if_true]
      rw [h23]
    · rw [dk_put_ne q, dk_put_ne q, dk_put_ne q, dk_put_ne q]; exact ha
theorem hKeep_ne {X : dkM} {v : Int32} {a : Nat} (h : a ≠ 23) : hKeep X v a = X a := by
  unfold hKeep
  split
  · rfl
  · rw [dk_put_ne h, dk_put_ne h]
theorem sim_Uk (h : Sim Mx Mm) {v : Int32} {X Y : dkM} (u : OK2 1 (hDraft Mx) Mm (v, X) (v, Y)) : Sim (hKeep X v) Y := (sim_U h u).2
theorem sim_fin (hE : Sim Mx M) {v : Int32} {X Y : dkM} (hv : 0 ≤ v.toInt) (fr : ∀ a, ¬ (1 ≤ a ∧ a < 12) → a ≠ 106 → a ≠ 108 → a ≠ 110 → X a = hDraft Mx a) (fm : ∀ a, a ≠ 111 → a ≠ 112 → Y a = mRec M a) (f4 : Y 111 4 = mRec M 111 4) (hD : DS X 1 (Y 112)) : Sim (hKeep (dk_put X 102 4 0) v) (dk_put Y 111 6 0) := by
  have hX : ∀ a, ¬ (a = 106 ∨ a = 108 ∨ a = 110) → (fun a => if a = 106 ∨ a = 108 ∨ a = 110 then hDraft Mx a else X a) a = X a := fun a ha => if_neg ha
  have hX2 : ∀ a, (a = 106 ∨ a = 108 ∨ a = 110) → (fun a => if a = 106 ∨ a = 108 ∨ a = 110 then hDraft Mx a else X a) a = hDraft Mx a := fun a ha => if_pos ha
  have hY : ∀ a, a ≠ 111 → (fun a => if a = 111 then mRec M 111 else Y a) a = Y a := fun a ha => if_neg ha
  have hY2 : (fun a => if a = 111 then mRec M 111 else Y a) 111 = mRec M 111 := if_pos rfl
  generalize (fun a => if a = 106 ∨ a = 108 ∨ a = 110 then hDraft Mx a else X a) = X' at *
  generalize (fun a => if a = 111 then mRec M 111 else Y a) = Y' at *
  have u : OK2 1 (hDraft Mx) M (v, X') (v, Y') := by
    refine Or.inr ⟨hv, rfl, fun a ha => ?_, fun a h1 _ => ?_, ?_⟩
    · dsimp only
      by_cases q : a = 106 ∨ a = 108 ∨ a = 110
      · exact hX2 a q
      · rw [hX a q]; exact fr a ha (by omega) (by omega) (by omega)
    · dsimp only
      by_cases q : a = 111
      · rw [q, hY2]
      · rw [hY a q]; exact fm a q h1
    · dsimp only
      rw [hY 112 (by decide)]
      exact hD.row (fun a h1 h2 => hX a (by omega))
  have hS := sim_Uk hE u
  refine hS.oth (fun a ha => ?_) (fun j _ => ?_) ?_ ?_ ⟨?_, ?_, fun i hi => ?_⟩
  · refine hKeep_cg ?_ ?_
    · rw [dk_put_ne (by decide), hX 23 (by decide)]
    · rw [dk_put_ne (by omega), hX a (by omega)]
  · rw [dk_put_ne (by decide), hY 112 (by decide)]
  · rw [dk_put_ne (by decide), hY 115 (by decide)]
  · rw [put_k (by decide), f4, hY2]
  · rw [hKeep_ne (by decide), put_same, put_same]
  · unfold tI; rw [put_same]; decide
  · rw [put_same] at hi; exact absurd hi (by show ¬ i < 0; omega)
theorem sim_carryOut (h : Sim Mx Mm) : (xCarry Mx).1 = (mCarry Mm).1 ∧ Sim (xCarry Mx).2 (mCarry Mm).2 := by
  obtain ⟨e1, hE⟩ := sim_syntaxError h
  unfold xCarry mCarry
  rw [e1]
  by_cases ok : (mErr Mm).1 = -6
  · rw [if_pos ok, if_pos ok]
    dsimp only
    have hd := hE.draft
    obtain ⟨t1, t2, t3⟩ := h.ts
    have h80 := t2.b
    have hx23 : ¬ (25 ≤ 104 ∧ 104 < 102) := by decide
    have e104 : hDraft Mx 104 = Mx 104 := hDraft_ne h.x.1 (by omega)
    have e102 : hDraft Mx 102 = Mx 102 := hDraft_ne h.x.1 (by omega)
    have hS : SPok (ix (Mm 111 6)) (Mm 116) (hDraft Mx) := fun q hq => by
      rw [spL, rget_nI (by omega) (by decide), spL_ne _ _ (a := 103 + 1) (by decide) (by decide) (by decide)]
      rw [show hDraft Mx (103 + 1) q = Mm 116 q from by rw [show 103 + 1 = 104 from rfl, e104]; exact (t3 q hq).1]
    have hP : PM (ix (Mm 111 6)) (Mm 116) (dk_put (mRec (mErr Mm).2) 111 8 0) 0 := by
      refine ⟨?_, by rw [put_same]; rfl, Nat.zero_le _, h80, ?_⟩
      · rw [put_k (by decide), mRec_111 _ (by decide), mErr_6 h.t]; exact t2.n
      · rw [dk_put_ne (by decide), mRec_ne _ (by decide) (by decide), err_row (by decide)]
    have hF : FE (ix (Mm 111 6)) (Mm 116) 0 0 = -6 := by
      rw [← errL 100 _ 0 h.pm (by omega)]; exact ok
    obtain ⟨C, c1, c2, c3, c4⟩ := split_end hS 100 _ 0 0 (by omega) hP (Or.inr hF) (fun _ => Nat.le_refl 0) (Nat.le_refl 0) rfl
    have el : ix (hDraft Mx 102 4) = ix (Mm 111 6) := by rw [e102, t1]
    have hDS : DS (xSplit (hDraft Mx)).2 1 (dk_put (mRec (mErr Mm).2) 111 8 0 112) := by
      rw [dk_put_ne (by decide), mRec_st]
      exact hd.ds.row (fun a h1 h2 => xSplit_ne _ (by omega) (by omega) (by omega))
    have hcc := co hS c1 c3 100 (xSplit (hDraft Mx)).2 _ 0 0 (by omega) hDS hP (Or.inr hF) (fun _ => Nat.le_refl 0) (Nat.le_refl 0) rfl (fun a _ => by unfold xSplit; rw [el])
    have exC : xCo Mx = coL (C - 0) (xSplit (hDraft Mx)).2 0 := by
      unfold xCo
      rw [show (xSplit (hDraft Mx)).1 = nI C from by unfold xSplit; rw [el]; exact c1, ix_nI (by omega)]
      rfl
    rw [← exC] at hcc
    obtain ⟨o1, o2, o3, o4, o5, o6⟩ := hcc
    have emC : mCo Mm = mCoL 100 (dk_put (mRec (mErr Mm).2) 111 8 0) 0 := rfl
    rw [← emC] at o1 o2 o4 o5
    have hv : 0 ≤ (nI (xCo Mx).1).toInt := nI_nn (by omega)
    have fr : ∀ a, ¬ (1 ≤ a ∧ a < 12) → a ≠ 106 → a ≠ 108 → a ≠ 110 → (xCo Mx).2 a = hDraft Mx a := fun a ha h1 h2 h3 => by
      rw [o3 a ha]; exact xSplit_ne _ h1 h2 h3
    have fm : ∀ a, a ≠ 111 → a ≠ 112 → (mCo Mm).2 a = mRec (mErr Mm).2 a := fun a h1 h2 => by rw [o4 a h1 h2, dk_put_ne h1]
    have f4 : (mCo Mm).2 111 4 = mRec (mErr Mm).2 111 4 := by rw [o5, put_k (by decide)]
    refine ⟨congrArg nI o1, ?_⟩
    exact sim_fin hE hv fr fm f4 o2
  · rw [if_neg ok, if_neg ok]
    exact ⟨rfl, hE⟩
end SH
