/-! what is foretold by copies -/
def cp1 (X : dkM) (a o k : Nat) : dkM := dk_put X o k (X a k)
def cpM (M : dkM) (q d c j o1 o2 o3 o4 : Nat) : Nat → dkM
  | 0 => M
  | k + 1 => cp1 (cp1 (cp1 (if k < 16 then cp1 (cpM M q d c j o1 o2 o3 o4 k) q o1 k else cpM M q d c j o1 o2 o3 o4 k) d o2 k) c o3 k) j o4 k
def thenA (N : dkM) (st : Int32) (b : Bool) : Int32 := bif b then nI (mDam (mFails (mStepsL (ix st) N 0).2)) else nI (mStepsL (ix st) N 0).1
/-- all apart -/
def l4 (q d c w j o1 o2 o3 o4 : Nat) : Prop := lD q d c w j ∧ (o1 ≠ q ∧ o1 ≠ d ∧ o1 ≠ c ∧ o1 ≠ w ∧ o1 ≠ j) ∧ (o2 ≠ q ∧ o2 ≠ d ∧ o2 ≠ c ∧ o2 ≠ w ∧ o2 ≠ j) ∧ (o3 ≠ q ∧ o3 ≠ d ∧ o3 ≠ c ∧ o3 ≠ w ∧ o3 ≠ j) ∧ (o4 ≠ q ∧ o4 ≠ d ∧ o4 ≠ c ∧ o4 ≠ w ∧ o4 ≠ j) ∧ (o1 ≠ o2 ∧ o1 ≠ o3 ∧ o1 ≠ o4) ∧ (o2 ≠ o3 ∧ o2 ≠ o4) ∧ o3 ≠ o4
theorem l4.two {q d c w j o1 o2 o3 o4 : Nat} (h : l4 q d c w j o1 o2 o3 o4) : lD o1 o2 o3 w o4 := by
  obtain ⟨⟨⟨d1, d2, d3, d4⟩, ⟨d5, d6, d7⟩, ⟨d8, d9⟩, d10⟩, ⟨a1, a2, a3, a4, a5⟩, ⟨b1, b2, b3, b4, b5⟩, ⟨c1, c2, c3, c4, c5⟩, ⟨e1, e2, e3, e4, e5⟩, ⟨f1, f2, f3⟩, ⟨g1, g2⟩, g3⟩ := h
  exact ⟨⟨f1, f2, a4, f3⟩, ⟨g1, b4, g2⟩, ⟨c4, g3⟩, e4.symm⟩
theorem l4.ns {q d c w j o1 o2 o3 o4 : Nat} (h : l4 q d c w j o1 o2 o3 o4) : o1 ≠ o2 ∧ o1 ≠ o3 ∧ o1 ≠ o4 ∧ o2 ≠ o4 := by
  obtain ⟨-, -, -, -, -, ⟨f1, f2, f3⟩, ⟨g1, g2⟩, g3⟩ := h
  exact ⟨f1, f2, f3, g2⟩
theorem l4.wn {q d c w j o1 o2 o3 o4 : Nat} (h : l4 q d c w j o1 o2 o3 o4) : w ≠ o1 ∧ w ≠ o2 ∧ w ≠ o3 ∧ w ≠ o4 := by
  obtain ⟨-, ⟨a1, a2, a3, a4, a5⟩, ⟨b1, b2, b3, b4, b5⟩, ⟨c1, c2, c3, c4, c5⟩, ⟨e1, e2, e3, e4, e5⟩, -⟩ := h
  exact ⟨a4.symm, b4.symm, c4.symm, e4.symm⟩
theorem cp1_ne {X : dkM} {a o k x : Nat} (h : x ≠ o) : cp1 X a o k x = X x := dk_put_ne h
theorem cpM_fr (M : dkM) (q d c j o1 o2 o3 o4 : Nat) : ∀ (k a : Nat), a ≠ o1 → a ≠ o2 → a ≠ o3 → a ≠ o4 → cpM M q d c j o1 o2 o3 o4 k a = M a
  | 0, a, _, _, _, _ => rfl
  | k + 1, a, a1, a2, a3, a4 => by
    rw [cpM, cp1_ne a4, cp1_ne a3, cp1_ne a2]
    split
    · rw [cp1_ne a1, cpM_fr M q d c j o1 o2 o3 o4 k a a1 a2 a3 a4]
    · rw [cpM_fr M q d c j o1 o2 o3 o4 k a a1 a2 a3 a4]
theorem cpM_st {M : dkM} {q d c w j o1 o2 o3 o4 : Nat} (DD : l4 q d c w j o1 o2 o3 o4) : ∀ (k b : Nat), b < k → (b < 16 → cpM M q d c j o1 o2 o3 o4 k o1 b = M q b) ∧ cpM M q d c j o1 o2 o3 o4 k o2 b = M d b ∧ cpM M q d c j o1 o2 o3 o4 k o3 b = M c b ∧ cpM M q d c j o1 o2 o3 o4 k o4 b = M j b
  | 0, b, h => absurd h (Nat.not_lt_zero _)
  | k + 1, b, h => by
    obtain ⟨⟨⟨d1, d2, d3, d4⟩, ⟨d5, d6, d7⟩, ⟨d8, d9⟩, d10⟩, ⟨a1, a2, a3, a4, a5⟩, ⟨b1, b2, b3, b4, b5⟩, ⟨c1, c2, c3, c4, c5⟩, ⟨e1, e2, e3, e4, e5⟩, ⟨f1, f2, f3⟩, ⟨g1, g2⟩, g3⟩ := id DD
    have fr := cpM_fr M q d c j o1 o2 o3 o4 k
    have fq := fr q a1.symm b1.symm c1.symm e1.symm
    have fd := fr d a2.symm b2.symm c2.symm e2.symm
    have fc := fr c a3.symm b3.symm c3.symm e3.symm
    have fj := fr j a5.symm b5.symm c5.symm e5.symm
    generalize hX : cpM M q d c j o1 o2 o3 o4 k = X at *
    rw [cpM, hX]
    have hA : ∀ x, x ≠ o1 → (if k < 16 then cp1 X q o1 k else X) x = X x := fun x hx => by split; exact cp1_ne hx; rfl
    generalize hAA : (if k < 16 then cp1 X q o1 k else X) = A at *
    have v1 : cp1 (cp1 (cp1 A d o2 k) c o3 k) j o4 k o1 b = A o1 b := by rw [cp1_ne f3, cp1_ne f2, cp1_ne f1]
    have v2 : cp1 (cp1 (cp1 A d o2 k) c o3 k) j o4 k o2 b = if b = k then M d k else X o2 b := by
      rw [cp1_ne g2, cp1_ne g1]
      unfold cp1
      by_cases hb : b = k
      · rw [hb, put_same, if_pos rfl, hA d a2.symm, fd]
      · rw [put_k hb, if_neg hb, hA o2 f1.symm]
    have v3 : cp1 (cp1 (cp1 A d o2 k) c o3 k) j o4 k o3 b = if b = k then M c k else X o3 b := by
      rw [cp1_ne g3]
      by_cases hb : b = k
      · rw [hb, if_pos rfl]
        show dk_put _ o3 k _ o3 k = _
        rw [put_same, cp1_ne b3.symm, hA c a3.symm, fc]
      · rw [if_neg hb]
        show dk_put _ o3 k _ o3 b = _
        rw [put_k hb, cp1_ne g1.symm, hA o3 f2.symm]
    have v4 : cp1 (cp1 (cp1 A d o2 k) c o3 k) j o4 k o4 b = if b = k then M j k else X o4 b := by
      by_cases hb : b = k
      · rw [hb, if_pos rfl]
        show dk_put _ o4 k _ o4 k = _
        rw [put_same, cp1_ne c5.symm, cp1_ne b5.symm, hA j a5.symm, fj]
      · rw [if_neg hb]
        show dk_put _ o4 k _ o4 b = _
        rw [put_k hb, cp1_ne g3.symm, cp1_ne g2.symm, hA o4 f3.symm]
    rw [v1, v2, v3, v4]
    by_cases hb : b = k
    · rw [if_pos hb, if_pos hb, if_pos hb, hb]
      refine ⟨fun h16 => ?_, rfl, rfl, rfl⟩
      rw [← hAA, if_pos h16]
      show dk_put _ o1 k _ o1 k = _
      rw [put_same, fq]
    · have ih := cpM_st (M := M) DD k b (Nat.lt_of_le_of_ne (Nat.le_of_lt_succ h) hb)
      rw [hX] at ih
      rw [if_neg hb, if_neg hb, if_neg hb]
      refine ⟨fun h16 => ?_, ih.2⟩
      rw [← hAA]
      split
      · show dk_put _ o1 k _ o1 b = _
        rw [put_k hb]; exact ih.1 h16
      · exact ih.1 h16
theorem cpM_LR {M N Mx : dkM} {e q d c w j o1 o2 o3 o4 : Nat} (DD : l4 q d c w j o1 o2 o3 o4) (h : DS Mx e (N 112)) (r : LR M q d c w j (N 112)) : LR (cpM M q d c j o1 o2 o3 o4 20) o1 o2 o3 w o4 (N 112) := by
  have st := fun b (hb : b < 20) => cpM_st (M := M) DD 20 b hb
  have fw := cpM_fr M q d c j o1 o2 o3 o4 20 w DD.wn.1 DD.wn.2.1 DD.wn.2.2.1 DD.wn.2.2.2
  refine ⟨fun k hk h6 => by rw [(st k (by omega)).1 (by omega)]; exact r.1 k hk h6, by rw [(st 6 (by omega)).1 (by omega)]; exact r.2.1, ⟨fun k h1 h2 => by rw [(st (10 + k) (by omega)).1 (by omega)]; exact r.2.2.1.1 k h1 h2, r.2.2.1.2⟩, r.2.2.2.1, fun s hs => ?_⟩
  have h20 := r.sn h hs
  obtain ⟨s1, s2, s3, s4⟩ := st s h20
  rw [s2, s3, s4, fw]
  exact r.2.2.2.2 s hs
theorem lEnd_ne {q j a : Nat} (M : dkM) (h1 : a ≠ q) (h2 : a ≠ j) : lEnd M q j a = M a := by
  have hc : ∀ X : dkM, lClose X q j a = X a := fun X => by
    unfold lClose lClr
    funext b
    rw [if_neg (fun z => h2 z.1), dk_put_ne h1, dk_put_ne h1]
  have ho : ∀ X : dkM, lOff X q j a = X a := fun X => by
    unfold lOff
    rw [hc, dk_put_ne h1, dk_put_ne h1, dk_put_ne h1]
  unfold lEnd
  split
  · split
    · rw [ho]; unfold lDone; rw [dk_put_ne h1, dk_put_ne h1]
    · rfl
  · split
    · exact ho M
    · rfl
theorem lClose_ne {q j a : Nat} (M : dkM) (h1 : a ≠ q) (h2 : a ≠ j) : lClose M q j a = M a := by
  unfold lClose lClr
  funext b
  rw [if_neg (fun z => h2 z.1), dk_put_ne h1, dk_put_ne h1]
theorem ljL_ne (M : dkM) (d j f : Nat) {a : Nat} (h : a ≠ j) (k : Nat) : ljL M d j f k a = M a := by
  induction k with
  | zero => rfl
  | succ k ih => rw [ljL, dk_put_ne h, ih]
theorem lStep_ne (M : dkM) {q d j a : Nat} (h1 : a ≠ q) (h2 : a ≠ d) (h3 : a ≠ j) : lStep M q d j a = M a := by
  unfold lStep
  split
  · split
    · rw [dk_put_ne h1, ljL_ne _ _ _ _ h3]
    · split
      · rw [lEnd_ne _ h1 h3, lClose_ne _ h1 h3, dk_put_ne h1]
      · unfold lRwr lRwD; rw [dk_put_ne h1, dk_put_ne h2]
  · rfl
theorem lFail_ne (M : dkM) {q d c j a : Nat} (h1 : a ≠ q) (h2 : a ≠ d) (h3 : a ≠ c) (h4 : a ≠ j) : lFail M q d c j a = M a := by
  unfold lFail lFailC
  rw [dk_put_ne h1, lClose_ne _ h1 h4, lFl_ne _ _ _ _ h3 h2]
theorem lGo_f {M : dkM} {q : Nat} (h : lGo M q = false) : ¬ 0 ≤ M q 2 := by
  intro z
  unfold lGo at h
  rw [if_pos z] at h
  cases h
theorem lA.add {G : dkG} {a n o m : Nat} (h : lA G a n) (ho : ¬ G.2.1 o) : lA (dk_add G o m) a n := by
  have hne : a ≠ o := fun z => ho (by rw [← z]; exact h.2.1)
  exact ⟨h.1, Or.inl h.2.1, by show (if a = o then m else G.2.2.2.2.2 a) = n; rw [if_neg hne]; exact h.2.2.1, h.2.2.2⟩
theorem c_L_step0 {l : Launch} {G : dkG} {q d j : Nat} {M : dkM} (hq : lA G q 16) (h2 : ¬ 0 ≤ M q 2) : dk_Con l yL_step cL_step 7 (some .boolean) 3 64 G [.ref (G.1 + q), .ref (G.1 + d), .ref (G.1 + j)] M (some (.int (bI (lGo M q))), lStep M q d j) := by
  refine dk_Con.of mwL_step.1 (Nat.le_of_ble_eq_true rfl) (fun E hE hC => ?_)
  subst hE
  refine V.aload_n hC dL_step_0 rfl ?_
  refine V.iconst hC 2 dL_step_1 (by decide) ?_
  refine V.ialdLN hC (2) hq (rfl) (by omega) dL_step_2 ?_
  refine V.if_ge hC 8 dL_step_3 (by decide) (fun c_1 => absurd c_1 h2) (fun c_1 => ?_)
  refine V.iconst hC 0 dL_step_6 (by decide) ?_
  exact V.zret hC (by simp [lGo, lStep, bI, h2]) (by decide) dL_step_7
theorem c_L_stepU {l : Launch} {G : dkG} {q d j : Nat} {M : dkM} (hq : lA G q 16) (hd : lA G d 20) (hj : lA G j 20) (hB : 0 ≤ M q 2 → lB M q) (hqd : q ≠ d) (hqj : q ≠ j) (hdj : d ≠ j) : dk_Con l yL_step cL_step 7 (some .boolean) 3 64 G [.ref (G.1 + q), .ref (G.1 + d), .ref (G.1 + j)] M (some (.int (bI (lGo M q))), lStep M q d j) := by
  by_cases h2 : 0 ≤ M q 2
  · exact c_L_step hq hd hj (hB h2) hqd hqj hdj
  · exact c_L_step0 hq h2
set_option maxHeartbeats 2000000 in
set_option maxRecDepth 20000 in
theorem then_loop {E : dkE} {G : dkG} {T : dkT} {M N Mx : dkM} {e q d c w j o1 o2 o3 o4 : Nat} {st : Int32} {b : Bool} (hC : dk_Cx E G cL_then 12 RL (some .int) 4 90) (hq : lA G q 16) (hd : lA G d 20) (hc : lA G c 20) (hw : lA G w 20) (hj : lA G j 20) (ho1 : lA G o1 16) (ho2 : lA G o2 20) (ho3 : lA G o3 20) (ho4 : lA G o4 20) (DD : l4 q d c w j o1 o2 o3 o4) (h : DS Mx e (N 112)) (r : LR M q d c w j (N 112))
    (K : ∀ (x : Int32) (M' : dkM) (pc : Nat) (lv : dkL), x = thenA N st b → (∀ a, a ≠ o1 → a ≠ o2 → a ≠ o3 → a ≠ o4 → M' a = M a) → decode cL_then pc = .ok (.ireturn, 1) → V E G 12 T M' pc lv [.int x]) : V E G 12 T M 24 [(0, some (.int st)), (1, some (.int (bI b))), (2, some (.ref (G.1 + q))), (3, some (.ref (G.1 + d))), (4, some (.ref (G.1 + c))), (5, some (.ref (G.1 + w))), (6, some (.ref (G.1 + j))), (7, some (.ref (G.1 + o1))), (8, some (.ref (G.1 + o2))), (9, some (.ref (G.1 + o3))), (10, some (.ref (G.1 + o4)))] [] := by
  have hsz := ix_lt st
  have D2 := DD.two
  obtain ⟨o12, o13, o14, o24⟩ := DD.ns
  have loop_112 : ∀ (n : Nat) (k : Nat) (M1 N1 X1 : dkM), (∀ a, a ≠ o1 → a ≠ o2 → a ≠ o3 → a ≠ o4 → M1 a = M a) → (DS X1 e (N1 112)) → (LR M1 o1 o2 o3 w o4 (N1 112)) → ((k, N1) = mStepsL (ix st) N 0) → (0 < n) →  V E G 12 T (M1) 112 [(0, some (.int st)), (1, some (.int (bI b))), (2, some (.ref (G.1 + q))), (3, some (.ref (G.1 + d))), (4, some (.ref (G.1 + c))), (5, some (.ref (G.1 + w))), (6, some (.ref (G.1 + j))), (7, some (.ref (G.1 + o1))), (8, some (.ref (G.1 + o2))), (9, some (.ref (G.1 + o3))), (10, some (.ref (G.1 + o4))), (11, some (.int (nI k)))] [] := by
    intro n
    induction n with
    | zero => intro k M1 N1 X1 hM h1 r1 hT hn; exact absurd hn (by omega)
    | succ n ih_112 =>
      intro k M1 N1 X1 hM h1 r1 hT hn
      refine V.iload_n hC dL_then_112 rfl ?_
      refine V.if_neB hC 119 dL_then_113 (by decide) (fun c_1 => ?_) (fun c_1 => ?_)
      · refine V.aload hC dL_then_119 rfl ?_
        refine V.aload hC dL_then_121 rfl ?_
        refine V.aload hC dL_then_123 rfl ?_
        refine V.aload hC dL_then_125 rfl ?_
        refine V.callS4v hC (c_L_fail ho1 ho2 ho3 ho4 (r1.sec h1).2.2.2 o12 o13) mwL_fail mlL_48 ⟨rfl, rfl⟩ dL_then_127 rfl ?_
        refine V.aload hC dL_then_130 rfl ?_
        refine V.aload hC dL_then_132 rfl ?_
        refine V.aload hC dL_then_134 rfl ?_
        refine V.aload hC dL_then_136 rfl ?_
        refine V.callS4i hC (c_L_damaged ho1 ho2 ho3 hw ((r1.fails D2 h1).sec (h1.failM (Mm := N1))).2.2.2 ((r1.fails D2 h1).lk (h1.failM (Mm := N1)))) mwL_damaged mlL_52 ⟨rfl, rfl⟩ dL_then_138 rfl ?_
        refine K _ _ _ _ ?_ (fun a a1 a2 a3 a4 => by rw [lFail_ne _ a1 a2 a3 a4]; exact hM a a1 a2 a3 a4) dL_then_141
        unfold thenA
        rw [c_1, ← hT, (r1.fails D2 h1).dam (h1.failM (Mm := N1))]
        rfl
      · refine V.iload hC dL_then_116 rfl ?_
        refine K _ _ _ _ ?_ hM dL_then_118
        unfold thenA
        rw [c_1, ← hT]
        rfl
  have loop_88 : ∀ (n : Nat) (k : Nat) (M1 N1 X1 : dkM), (∀ a, a ≠ o1 → a ≠ o2 → a ≠ o3 → a ≠ o4 → M1 a = M a) → (DS X1 e (N1 112)) → (LR M1 o1 o2 o3 w o4 (N1 112)) → (mStepsL (ix st - k) N1 k = mStepsL (ix st) N 0) → (k ≤ ix st) → (ix st < k + n) →  V E G 12 T (M1) 88 [(0, some (.int st)), (1, some (.int (bI b))), (2, some (.ref (G.1 + q))), (3, some (.ref (G.1 + d))), (4, some (.ref (G.1 + c))), (5, some (.ref (G.1 + w))), (6, some (.ref (G.1 + j))), (7, some (.ref (G.1 + o1))), (8, some (.ref (G.1 + o2))), (9, some (.ref (G.1 + o3))), (10, some (.ref (G.1 + o4))), (11, some (.int (nI k)))] [] := by
    intro n
    induction n with
    | zero => intro k M1 N1 X1 hM h1 r1 hT hk hn; exact absurd hn (by omega)
    | succ n ih_88 =>
      intro k M1 N1 X1 hM h1 r1 hT hk hn
      have hsz := ix_lt st
      refine V.iload hC dL_then_88 rfl ?_
      refine V.iload_n hC dL_then_90 rfl ?_
      refine V.icmp_ge hC 112 dL_then_91 (by decide) (fun c_1 => ?_) (fun c_1 => ?_)
      · have hke : k = ix st := by have := (dk_gek (k := k) (by omega)).mp c_1; omega
        have hT2 : (k, N1) = mStepsL (ix st) N 0 := by
          rw [show ix st - k = 0 by omega] at hT
          exact hT
        exact V.sub (dk_sc rfl (dk_sc rfl (dk_sc rfl (dk_sc rfl (dk_sc rfl (dk_sc rfl (dk_sc rfl (dk_sc rfl (dk_sc rfl (dk_sc rfl (dk_sc rfl (dk_sc rfl (dk_sn))))))))))))) (loop_112 1 k M1 N1 X1 hM h1 r1 hT2 (by omega))
      · have hkl : k < ix st := by have := mt (dk_gek (k := k) (by omega)).mpr c_1; omega
        refine V.aload hC dL_then_94 rfl ?_
        refine V.aload hC dL_then_96 rfl ?_
        refine V.aload hC dL_then_98 rfl ?_
        refine V.callS3i hC (c_L_stepU ho1 ho2 ho4 (fun z => r1.lb h1 (by rw [← r1.go h1]; unfold lGo; rw [if_pos z])) o12 o14 o24) mwL_step mlL_44 ⟨rfl, rfl⟩ dL_then_100 rfl ?_
        refine V.if_eqB hC 112 dL_then_103 (by decide) (fun c_2 => ?_) (fun c_2 => ?_)
        · have hr : mRek N1 = false := by rw [← r1.go h1]; exact c_2
          have hT2 : (k, N1) = mStepsL (ix st) N 0 := by
            rw [show ix st - k = ix st - (k + 1) + 1 by omega, mStepsL, if_neg (by rw [hr]; decide)] at hT
            exact hT
          refine V.eqM (M' := M1) (by unfold lStep; rw [if_neg (lGo_f c_2)]) ?_
          exact V.sub (dk_sc rfl (dk_sc rfl (dk_sc rfl (dk_sc rfl (dk_sc rfl (dk_sc rfl (dk_sc rfl (dk_sc rfl (dk_sc rfl (dk_sc rfl (dk_sc rfl (dk_sc rfl (dk_sn))))))))))))) (loop_112 1 k M1 N1 X1 hM h1 r1 hT2 (by omega))
        · have hr : mRek N1 = true := by rw [← r1.go h1]; exact c_2
          refine V.iinc hC dL_then_106 rfl (dk_incN _) rfl ?_
          refine V.goto hC 88 dL_then_109 (by decide) ?_
          exact V.sub (dk_sc rfl (dk_sc rfl (dk_sc rfl (dk_sc rfl (dk_sc rfl (dk_sc rfl (dk_sc rfl (dk_sc rfl (dk_sc rfl (dk_sc rfl (dk_sc rfl (dk_sc rfl (dk_sn))))))))))))) (ih_88 (k + 1) (lStep M1 o1 o2 o4) (mStep N1) (dStep X1 e) (fun a a1 a2 a3 a4 => by rw [lStep_ne _ a1 a2 a4]; exact hM a a1 a2 a3 a4) (h1.step hr) (r1.step D2 h1 hr) (by rw [show ix st - k = ix st - (k + 1) + 1 by omega, mStepsL, if_pos hr] at hT; exact hT) (by omega) (by omega))
  have loop_27 : ∀ (n : Nat) (k : Nat), (k ≤ 20) → (20 < k + n) →  V E G 12 T (cpM M q d c j o1 o2 o3 o4 k) 27 [(0, some (.int st)), (1, some (.int (bI b))), (2, some (.ref (G.1 + q))), (3, some (.ref (G.1 + d))), (4, some (.ref (G.1 + c))), (5, some (.ref (G.1 + w))), (6, some (.ref (G.1 + j))), (7, some (.ref (G.1 + o1))), (8, some (.ref (G.1 + o2))), (9, some (.ref (G.1 + o3))), (10, some (.ref (G.1 + o4))), (11, some (.int (nI k)))] [] := by
    intro n
    induction n with
    | zero => intro k hk hn; exact absurd hn (by omega)
    | succ n ih_27 =>
      intro k hk hn
      refine V.iload hC dL_then_27 rfl ?_
      refine V.bipush hC 20 dL_then_29 (by decide) ?_
      refine V.icmp_ge hC 85 dL_then_31 (by decide) (fun c_1 => ?_) (fun c_1 => ?_)
      · have hke : k = 20 := by have := (dk_gek (k := k) (by omega)).mp c_1; rw [show ix 20 = 20 from by decide] at this; omega
        refine V.iconst hC 0 dL_then_85 (by decide) ?_
        refine V.istore hC dL_then_86 rfl rfl ?_
        subst hke
        exact V.sub (dk_sc rfl (dk_sc rfl (dk_sc rfl (dk_sc rfl (dk_sc rfl (dk_sc rfl (dk_sc rfl (dk_sc rfl (dk_sc rfl (dk_sc rfl (dk_sc rfl (dk_sc rfl (dk_sn))))))))))))) (loop_88 (ix st + 1) 0 (cpM M q d c j o1 o2 o3 o4 20) N Mx (cpM_fr M q d c j o1 o2 o3 o4 20) h (cpM_LR DD h r) rfl (Nat.zero_le _) (by omega))
      · have hkl : k < 20 := by have := mt (dk_gek (k := k) (by omega)).mpr c_1; rw [show ix 20 = 20 from by decide] at this; omega
        refine V.iload hC dL_then_34 rfl ?_
        refine V.bipush hC 16 dL_then_36 (by decide) ?_
        refine V.icmp_ge hC 50 dL_then_38 (by decide) (fun c_2 => ?_) (fun c_2 => ?_)
        · have hk16 : ¬ k < 16 := by have := (dk_gek (k := k) (by omega)).mp c_2; rw [show ix 16 = 16 from by decide] at this; omega
          refine V.aload hC dL_then_50 rfl ?_
          refine V.iload hC dL_then_52 rfl ?_
          refine V.aload_n hC dL_then_54 rfl ?_
          refine V.iload hC dL_then_55 rfl ?_
          refine V.ialdLN hC (k) hd (rfl) (by omega) dL_then_57 ?_
          refine V.iastLN hC (k) ho2 (rfl) (by omega) dL_then_58 ?_
          refine V.aload hC dL_then_59 rfl ?_
          refine V.iload hC dL_then_61 rfl ?_
          refine V.aload hC dL_then_63 rfl ?_
          refine V.iload hC dL_then_65 rfl ?_
          refine V.ialdLN hC (k) hc (rfl) (by omega) dL_then_67 ?_
          refine V.iastLN hC (k) ho3 (rfl) (by omega) dL_then_68 ?_
          refine V.aload hC dL_then_69 rfl ?_
          refine V.iload hC dL_then_71 rfl ?_
          refine V.aload hC dL_then_73 rfl ?_
          refine V.iload hC dL_then_75 rfl ?_
          refine V.ialdLN hC (k) hj (rfl) (by omega) dL_then_77 ?_
          refine V.iastLN hC (k) ho4 (rfl) (by omega) dL_then_78 ?_
          refine V.iinc hC dL_then_79 rfl (dk_incN _) rfl ?_
          refine V.goto hC 27 dL_then_82 (by decide) ?_
          refine V.eqM (by show _ = cpM M q d c j o1 o2 o3 o4 (k + 1); rw [cpM]; first | rw [if_pos hk16]; rfl | rw [if_neg hk16]; rfl) ?_
          exact V.sub (dk_sc rfl (dk_sc rfl (dk_sc rfl (dk_sc rfl (dk_sc rfl (dk_sc rfl (dk_sc rfl (dk_sc rfl (dk_sc rfl (dk_sc rfl (dk_sc rfl (dk_sc rfl (dk_sn))))))))))))) (ih_27 (k + 1) (by omega) (by omega))
        · have hk16 : k < 16 := by have := mt (dk_gek (k := k) (by omega)).mpr c_2; rw [show ix 16 = 16 from by decide] at this; omega
          refine V.aload hC dL_then_41 rfl ?_
          refine V.iload hC dL_then_43 rfl ?_
          refine V.aload_n hC dL_then_45 rfl ?_
          refine V.iload hC dL_then_46 rfl ?_
          refine V.ialdLN hC (k) hq (rfl) (by omega) dL_then_48 ?_
          refine V.iastLN hC (k) ho1 (rfl) (by omega) dL_then_49 ?_
          refine V.aload hC dL_then_50 rfl ?_
          refine V.iload hC dL_then_52 rfl ?_
          refine V.aload_n hC dL_then_54 rfl ?_
          refine V.iload hC dL_then_55 rfl ?_
          refine V.ialdLN hC (k) hd (rfl) (by omega) dL_then_57 ?_
          refine V.iastLN hC (k) ho2 (rfl) (by omega) dL_then_58 ?_
          refine V.aload hC dL_then_59 rfl ?_
          refine V.iload hC dL_then_61 rfl ?_
          refine V.aload hC dL_then_63 rfl ?_
          refine V.iload hC dL_then_65 rfl ?_
          refine V.ialdLN hC (k) hc (rfl) (by omega) dL_then_67 ?_
          refine V.iastLN hC (k) ho3 (rfl) (by omega) dL_then_68 ?_
          refine V.aload hC dL_then_69 rfl ?_
          refine V.iload hC dL_then_71 rfl ?_
          refine V.aload hC dL_then_73 rfl ?_
          refine V.iload hC dL_then_75 rfl ?_
          refine V.ialdLN hC (k) hj (rfl) (by omega) dL_then_77 ?_
          refine V.iastLN hC (k) ho4 (rfl) (by omega) dL_then_78 ?_
          refine V.iinc hC dL_then_79 rfl (dk_incN _) rfl ?_
          refine V.goto hC 27 dL_then_82 (by decide) ?_
          refine V.eqM (by show _ = cpM M q d c j o1 o2 o3 o4 (k + 1); rw [cpM]; first | rw [if_pos hk16]; rfl | rw [if_neg hk16]; rfl) ?_
          exact V.sub (dk_sc rfl (dk_sc rfl (dk_sc rfl (dk_sc rfl (dk_sc rfl (dk_sc rfl (dk_sc rfl (dk_sc rfl (dk_sc rfl (dk_sc rfl (dk_sc rfl (dk_sc rfl (dk_sn))))))))))))) (ih_27 (k + 1) (by omega) (by omega))
  refine V.iconst hC 0 dL_then_24 (by decide) ?_
  refine V.istore hC dL_then_25 rfl rfl ?_
  exact V.sub (dk_sc rfl (dk_sc rfl (dk_sc rfl (dk_sc rfl (dk_sc rfl (dk_sc rfl (dk_sc rfl (dk_sc rfl (dk_sc rfl (dk_sc rfl (dk_sc rfl (dk_sc rfl (dk_sn))))))))))))) (loop_27 21 0 (Nat.zero_le _) (by omega))
set_option maxHeartbeats 4000000 in
theorem c_L_then {l : Launch} {G : dkG} {M N Mx : dkM} {e q d c w j : Nat} {st : Int32} {b : Bool} (hG : dk_cls G) (hq : lA G q 16) (hd : lA G d 20) (hc : lA G c 20) (hw : lA G w 20) (hj : lA G j 20) (D : lD q d c w j) (h : DS Mx e (N 112)) (r : LR M q d c w j (N 112)) : dk_ConA l yL_then cL_then 12 (some .int) 4 90 4 76 G [.int st, .int (bI b), .ref (G.1 + q), .ref (G.1 + d), .ref (G.1 + c), .ref (G.1 + w), .ref (G.1 + j)] M (some (.int (thenA N st b)), M) := by
  refine dk_ConA.of mwL_then.1 (Nat.le_of_ble_eq_true rfl) (fun E hE hC hA hrm => ?_)
  subst hE
  have hrm0 : dk_rm E (1 + (1 + (1 + 1))) (16 + (20 + (20 + 20))) := hrm
  have m1 : dk_rm E 1 16 := hrm.mono (by omega) (by omega)
  have m2 : dk_rm (dk_more E 1 16) 1 20 := (hrm0.more).mono (by omega) (by omega)
  have m3 : dk_rm (dk_more (dk_more E 1 16) 1 20) 1 20 := (dk_rm.more (c := 1) (s := 20) (hrm0.more)).mono (by omega) (by omega)
  have m4 : dk_rm (dk_more (dk_more (dk_more E 1 16) 1 20) 1 20) 1 20 := dk_rm.more (c := 1) (s := 20) (dk_rm.more (c := 1) (s := 20) (hrm0.more))
  obtain ⟨hB1, hA1⟩ := dk_Cx.more hC hA m1
  obtain ⟨hB2, hA2⟩ := dk_Cx.more hB1 hA1 m2
  obtain ⟨hB3, hA3⟩ := dk_Cx.more hB2 hA2 m3
  obtain ⟨hB4, -⟩ := dk_Cx.more hB3 hA3 m4
  refine V.bipush hC 16 dL_then_0 (by decide) ?_
  refine V.newiL hC hG (N := 16) (by decide) (by decide) (by decide) m1 dL_then_2 (fun o1 p1 n1 l1 => ?_)
  obtain ⟨hC1, hAl1⟩ := dk_Cx.new (N := 16) hC hA n1 m1
  have hG1 : dk_cls (dk_add G o1 16) := fun o ho => Or.inl (hG o ho)
  refine V.astore hC1 dL_then_4 rfl rfl ?_
  refine V.bipush hC1 20 dL_then_6 (by decide) ?_
  refine V.newiL hC1 hG1 (N := 20) (by decide) (by decide) (by decide) m2 dL_then_8 (fun o2 p2 n2 l2 => ?_)
  obtain ⟨hC2, hAl2⟩ := dk_Cx.new (N := 20) hC1 hAl1 n2 m2
  have hG2 : dk_cls (dk_add (dk_add G o1 16) o2 20) := fun o ho => Or.inl (hG1 o ho)
  refine V.astore hC2 dL_then_10 rfl rfl ?_
  refine V.bipush hC2 20 dL_then_12 (by decide) ?_
  refine V.newiL hC2 hG2 (N := 20) (by decide) (by decide) (by decide) m3 dL_then_14 (fun o3 p3 n3 l3 => ?_)
  obtain ⟨hC3, hAl3⟩ := dk_Cx.new (N := 20) hC2 hAl2 n3 m3
  have hG3 : dk_cls (dk_add (dk_add (dk_add G o1 16) o2 20) o3 20) := fun o ho => Or.inl (hG2 o ho)
  refine V.astore hC3 dL_then_16 rfl rfl ?_
  refine V.bipush hC3 20 dL_then_18 (by decide) ?_
  refine V.newiL hC3 hG3 (N := 20) (by decide) (by decide) (by decide) m4 dL_then_20 (fun o4 p4 n4 l4' => ?_)
  obtain ⟨hC4, hAl4⟩ := dk_Cx.new (N := 20) hC3 hAl3 n4 m4
  refine V.astore hC4 dL_then_22 rfl rfl ?_
  have nS : ∀ {a n : Nat}, lA G a n → a ≠ o1 ∧ a ≠ o2 ∧ a ≠ o3 ∧ a ≠ o4 := fun ha => ⟨fun z => n1 (by rw [← z]; exact ha.2.1), fun z => n2 (Or.inl (by rw [← z]; exact ha.2.1)), fun z => n3 (Or.inl (Or.inl (by rw [← z]; exact ha.2.1))), fun z => n4 (Or.inl (Or.inl (Or.inl (by rw [← z]; exact ha.2.1))))⟩
  have sq := nS hq
  have sd := nS hd
  have sc := nS hc
  have sw := nS hw
  have sj := nS hj
  have t12 : o1 ≠ o2 := fun z => n2 (Or.inr z.symm)
  have t13 : o1 ≠ o3 := fun z => n3 (Or.inl (Or.inr z.symm))
  have t14 : o1 ≠ o4 := fun z => n4 (Or.inl (Or.inl (Or.inr z.symm)))
  have t23 : o2 ≠ o3 := fun z => n3 (Or.inr z.symm)
  have t24 : o2 ≠ o4 := fun z => n4 (Or.inl (Or.inr z.symm))
  have t34 : o3 ≠ o4 := fun z => n4 (Or.inr z.symm)
  have DD : l4 q d c w j o1 o2 o3 o4 := ⟨D, ⟨sq.1.symm, sd.1.symm, sc.1.symm, sw.1.symm, sj.1.symm⟩, ⟨sq.2.1.symm, sd.2.1.symm, sc.2.1.symm, sw.2.1.symm, sj.2.1.symm⟩, ⟨sq.2.2.1.symm, sd.2.2.1.symm, sc.2.2.1.symm, sw.2.2.1.symm, sj.2.2.1.symm⟩, ⟨sq.2.2.2.symm, sd.2.2.2.symm, sc.2.2.2.symm, sw.2.2.2.symm, sj.2.2.2.symm⟩, ⟨t12, t13, t14⟩, ⟨t23, t24⟩, t34⟩
  have eM : ∀ a, a ≠ o1 → a ≠ o2 → a ≠ o3 → a ≠ o4 → dk_new (dk_new (dk_new (dk_new M o1) o2) o3) o4 a = M a := fun a a1 a2 a3 a4 => by
    unfold dk_new
    rw [if_neg a4, if_neg a3, if_neg a2, if_neg a1]
  have r' : LR (dk_new (dk_new (dk_new (dk_new M o1) o2) o3) o4) q d c w j (N 112) := by
    unfold LR
    rw [eM q sq.1 sq.2.1 sq.2.2.1 sq.2.2.2, eM d sd.1 sd.2.1 sd.2.2.1 sd.2.2.2, eM c sc.1 sc.2.1 sc.2.2.1 sc.2.2.2, eM w sw.1 sw.2.1 sw.2.2.1 sw.2.2.2, eM j sj.1 sj.2.1 sj.2.2.1 sj.2.2.2]
    exact r
  refine V.sub ?_ (then_loop (st := st) (b := b) hC4 ((((hq.add n1).add n2).add n3).add n4) ((((hd.add n1).add n2).add n3).add n4) ((((hc.add n1).add n2).add n3).add n4) ((((hw.add n1).add n2).add n3).add n4) ((((hj.add n1).add n2).add n3).add n4) (((l1.add n2).add n3).add n4) ((l2.add n3).add n4) (l3.add n4) l4' DD h r' ?_)
  · exact dk_sc rfl (dk_sc rfl (dk_sc rfl (dk_sc rfl (dk_sc rfl (dk_sc rfl (dk_sc rfl (dk_sc rfl (dk_sc rfl (dk_sc rfl (dk_sc rfl dk_sn))))))))))
  · intro x M' pc lv hx hM' hd'
    refine V.back n4 (M := M') (fun _ _ => rfl) ?_
    refine V.back n3 (M := M') (fun _ _ => rfl) ?_
    refine V.back n2 (M := M') (fun _ _ => rfl) ?_
    refine V.back n1 (M := M) (fun a ha => ?_) ?_
    · have s1 : a ≠ o1 := fun z => n1 (by rw [← z]; exact ha)
      have s2 : a ≠ o2 := fun z => n2 (Or.inl (by rw [← z]; exact ha))
      have s3 : a ≠ o3 := fun z => n3 (Or.inl (Or.inl (by rw [← z]; exact ha)))
      have s4 : a ≠ o4 := fun z => n4 (Or.inl (Or.inl (Or.inl (by rw [← z]; exact ha))))
      rw [hM' a s1 s2 s3 s4, eM a s1 s2 s3 s4]
    · exact V.iret hB4 (by rw [hx]) hd'
