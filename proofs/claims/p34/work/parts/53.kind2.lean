/-! the acts, one by one: removing, writing, flushing -/
def lCan (M : dkM) (q k : Nat) : Bool := decide (¬ nI k = M q 1 ∧ ¬ nI k = M q 2)
theorem lCan_t {M : dkM} {q k : Nat} (h : lCan M q k = true) : ¬ nI k = M q 1 ∧ ¬ nI k = M q 2 := of_decide_eq_true h
theorem lCan_f {M : dkM} {q k : Nat} (h : lCan M q k = false) : nI k = M q 1 ∨ nI k = M q 2 := by
  have h2 := of_decide_eq_false h
  by_cases y : nI k = M q 1
  · exact Or.inl y
  · by_cases z : nI k = M q 2
    · exact Or.inr z
    · exact absurd ⟨y, z⟩ h2
theorem lCan_1 {M : dkM} {q k : Nat} (h : nI k = M q 1) : lCan M q k = false := decide_eq_false (fun z => z.1 h)
theorem lCan_2 {M : dkM} {q k : Nat} (h : nI k = M q 2) : lCan M q k = false := decide_eq_false (fun z => z.2 h)
theorem lCan_3 {M : dkM} {q k : Nat} (h : ¬ nI k = M q 1) (h2 : ¬ nI k = M q 2) : lCan M q k = true := decide_eq_true ⟨h, h2⟩
theorem two3 (x y : Bool) : (x = false) ∨ (x = true ∧ y = true) ∨ (x = true ∧ y = false) := by cases x <;> cases y <;> simp
def lFull (M : dkM) (q c s : Nat) : Bool := decide (M c s < 0 ∧ nI (lCaN M c (ix (M q 0))) = 8)
theorem lFull_1 {M : dkM} {q c s : Nat} (h : 0 ≤ M c s) : lFull M q c s = false := decide_eq_false (fun z => dk_lt1 z.1 h)
theorem lFull_2 {M : dkM} {q c s : Nat} (h : ¬ nI (lCaN M c (ix (M q 0))) = 8) : lFull M q c s = false := decide_eq_false (fun z => h z.2)
theorem lFull_3 {M : dkM} {q c s : Nat} (h : ¬ 0 ≤ M c s) (h2 : nI (lCaN M c (ix (M q 0))) = 8) : lFull M q c s = true := decide_eq_true ⟨dk_nle h, h2⟩
theorem lFull_t {M : dkM} {q c s : Nat} (h : lFull M q c s = true) : M c s < 0 ∧ nI (lCaN M c (ix (M q 0))) = 8 := of_decide_eq_true h
theorem lFull_f {M : dkM} {q c s : Nat} (h : lFull M q c s = false) : ¬ (M c s < 0 ∧ nI (lCaN M c (ix (M q 0))) = 8) := of_decide_eq_false h
theorem in_o {M N Mx : dkM} {e q d c w j : Nat} (h : DS Mx e (N 112)) (r : LR M q d c w j (N 112)) (ho : mOpen N = true) (s : Int32) : mInZ N s = if s < lFirst M q then false else if lBehind M q ≤ s then false else true := by
  have hr := h.opn_rek ho
  rcases r.q2 h with ⟨z, -, -, z2⟩ | ⟨z, -, -, -, z2⟩
  · rw [f_in h r, if_neg (dk_lt1 z2)]
  · rw [z] at hr; cases hr
theorem can_v {M N Mx : dkM} {e q d c w j k : Nat} (h : DS Mx e (N 112)) (r : LR M q d c w j (N 112)) (hk : k < ix (N 112 0)) : mCan N k = if M c k < 0 then false else if mOpen N = true then (if mInZ N (nI k) = true then false else true) else true := by
  have hs := h.sec
  have h6 := opt6 (h.cc (k := k) (by omega))
  unfold mCan
  rw [(r.2.2.2.2 k hk).1.2]
  by_cases z : N 112 (239 + k) = -6
  · rw [if_pos z, if_pos (h6.2.mpr z)]
  · rw [if_neg z, if_neg (fun y => z (h6.2.mp y))]
theorem ca_0 {M N Mx : dkM} {e q d c w j k : Nat} (h : DS Mx e (N 112)) (r : LR M q d c w j (N 112)) (hk : k < ix (N 112 0)) (c1 : M c k < 0) : mCan N k = false := by rw [can_v h r hk, if_pos c1]
theorem ca_1 {M N Mx : dkM} {e q d c w j k : Nat} (h : DS Mx e (N 112)) (r : LR M q d c w j (N 112)) (hk : k < ix (N 112 0)) (c1 : ¬ M c k < 0) (c2 : mOpen N = false) : mCan N k = true ∧ lMix (M c k) (nI k) (M q (10 + ix (lKey M q (nI k)))) = mForm N k := ⟨by rw [can_v h r hk, if_neg c1, c2]; rfl, fo_b h r hk c1 c2⟩
theorem ca_2 {M N Mx : dkM} {e q d c w j k : Nat} (h : DS Mx e (N 112)) (r : LR M q d c w j (N 112)) (hk : k < ix (N 112 0)) (c1 : ¬ M c k < 0) (c2 : mOpen N = true) (c3 : nI k < lFirst M q) : mCan N k = true ∧ lMix (M c k) (nI k) (M q (10 + ix (lKey M q (nI k)))) = mForm N k := by
  have hi : mInZ N (nI k) = false := by rw [in_o h r c2, if_pos c3]
  exact ⟨by rw [can_v h r hk, if_neg c1, c2, hi]; rfl, fo_c h r hk c1 c2 hi⟩
theorem ca_3 {M N Mx : dkM} {e q d c w j k : Nat} (h : DS Mx e (N 112)) (r : LR M q d c w j (N 112)) (hk : k < ix (N 112 0)) (c1 : ¬ M c k < 0) (c2 : mOpen N = true) (c3 : ¬ nI k < lFirst M q) (c4 : lBehind M q ≤ nI k) : mCan N k = true ∧ lMix (M c k) (nI k) (M q (10 + ix (lKey M q (nI k)))) = mForm N k := by
  have hi : mInZ N (nI k) = false := by rw [in_o h r c2, if_neg c3, if_pos c4]
  exact ⟨by rw [can_v h r hk, if_neg c1, c2, hi]; rfl, fo_c h r hk c1 c2 hi⟩
theorem ca_4 {M N Mx : dkM} {e q d c w j k : Nat} (h : DS Mx e (N 112)) (r : LR M q d c w j (N 112)) (hk : k < ix (N 112 0)) (c1 : ¬ M c k < 0) (c2 : mOpen N = true) (c3 : ¬ nI k < lFirst M q) (c4 : ¬ lBehind M q ≤ nI k) : mCan N k = false := by
  have hi : mInZ N (nI k) = true := by rw [in_o h r c2, if_neg c3, if_neg c4]
  rw [can_v h r hk, if_neg c1, c2, hi]; rfl
theorem mFlu_1 {R : dkM} {k : Nat} (h : mCan (mFluL R k) k = true) : mFluN R (k + 1) = mFluN R k + 1 ∧ mFluL R (k + 1) = dk_put (dk_put (mFluL R k) 112 (111 + k) (mForm (mFluL R k) k)) 112 (239 + k) (-6) := by rw [mFluN, mFluL, h]; exact ⟨rfl, rfl⟩
theorem mFlu_0 {R : dkM} {k : Nat} (h : mCan (mFluL R k) k = false) : mFluN R (k + 1) = mFluN R k ∧ mFluL R (k + 1) = mFluL R k := by rw [mFluN, mFluL, h]; exact ⟨rfl, rfl⟩
set_option maxHeartbeats 2000000 in
set_option maxRecDepth 20000 in
theorem law_rem {E : dkE} {G : dkG} {T : dkT} {M N : dkM} {q d c w j b : Nat} {tn x y kd : Int32} {sc : Nat} (hC : dk_Cx E G cL_law 18 RL (some .boolean) 9 322) (hA : dk_Al E G) (hr : dk_rm E 4 76) (hG : dk_cls G) (hq : lA G q 16) (hd : lA G d 20) (hc : lA G c 20) (hw : lA G w 20) (hj : lA G j 20) (D : lD q d c w j) (h111 : 111 ≤ q ∧ 111 ≤ d ∧ 111 ≤ c ∧ 111 ≤ w ∧ 111 ≤ j) (Sm : Sim M N) (r : LR M q d c w j (N 112)) (hsc : sc < ix (N 112 0))  (K : ∀ (M' N' : dkM), Sim M' N' → LR M' q d c w j (N' 112) → V (dk_more E 4 76) G 18 T M' 1387 [(0, some (.ref b)), (1, some (.ref (G.1 + 0))), (2, some (.ref (G.1 + q))), (3, some (.ref (G.1 + d))), (4, some (.ref (G.1 + c))), (5, some (.ref (G.1 + w))), (6, some (.ref (G.1 + j))), (7, some (.int tn)), (9, some (.int y))] [])  : V E G 18 T M 505 [(0, some (.ref b)), (1, some (.ref (G.1 + 0))), (2, some (.ref (G.1 + q))), (3, some (.ref (G.1 + d))), (4, some (.ref (G.1 + c))), (5, some (.ref (G.1 + w))), (6, some (.ref (G.1 + j))), (7, some (.int tn)), (8, some (.int x)), (9, some (.int y)), (10, some (.int kd)), (11, some (.int (nI sc))), (12, some (.int (bI (mOpen N))))] [] := by
  obtain ⟨⟨d1, d2, d3, d4⟩, ⟨d5, d6, d7⟩, ⟨d8, d9⟩, d10⟩ := id D
  obtain ⟨g1, g2, g3, g4, g5⟩ := h111
  have hsec := Sm.ds.sec
  have hsec2 := r.sec Sm.ds
  have Mo : ∀ X : dkM, (∀ a, 111 ≤ a → X a = M a) → LR X q d c w j (N 112) := fun X h => r.keep (h q g1) (h d g2) (h c g3) (h w g4) (h j g5)
  have loop_596 : ∀ (n : Nat) (k : Nat), (1 ≤ k) → (k ≤ 5) → (0 < n) →  V E G 18 T (M) 596 [(0, some (.ref b)), (1, some (.ref (G.1 + 0))), (2, some (.ref (G.1 + q))), (3, some (.ref (G.1 + d))), (4, some (.ref (G.1 + c))), (5, some (.ref (G.1 + w))), (6, some (.ref (G.1 + j))), (7, some (.int tn)), (9, some (.int y)), (13, some (.int (nI k))), (14, some (.int (bI (lIs M q k)))), (15, some (.int (bI (lCan M q k)))), (16, some (.int (nI (lKyN M q 5) - 1)))] [] := by
    intro n
    induction n with
    | zero => intro k h1 h2 hn; exact absurd hn (by omega)
    | succ n ih_596 =>
      intro k h1 h2 hn
      rcases two3 (lIs M q k) (lCan M q k) with hi | ⟨hi, hcn⟩ | ⟨hi, hcn⟩
      · refine V.aload_n hC dL_law_596 rfl ?_
        refine V.iload hC dL_law_597 rfl ?_
        refine V.callV1i hC (c_X4_removeKey hG Sm.x) mwX4_removeKey mlL_121 (hG.at 0 rfl) rfl rfl ⟨rfl, rfl⟩ dL_law_599 rfl ?_
        obtain ⟨a1, a2, a3⟩ := op_ok Sm (Sm.draft.ds.drop (nI k)).to2
        generalize xU (dDrop (hDraft M) 1 (nI k)) = P at *
        refine V.iload hC dL_law_602 rfl ?_
        refine V.if_ne_f hC 611 dL_law_604 (by decide) (by rw [hi]; rfl) ?_
        refine V.iconst hC (-1) dL_law_607 (by decide) ?_
        refine V.goto hC 623 dL_law_608 (by decide) ?_
        refine V.icmp_eq_t hC 628 dL_law_623 (by decide) (a1.trans (by rw [(a_rem Sm.ds r (h5k Sm.ds r) h1 h2).1 (lIs_f hi)])) ?_
        refine V.iload hC dL_law_628 rfl ?_
        refine V.if_eq_t hC 647 dL_law_630 (by decide) (by rw [hi]; rfl) ?_
        have hS : Sim P.2 N := by have h := a2; rw [(a_rem Sm.ds r (h5k Sm.ds r) h1 h2).1 (lIs_f hi)] at h; exact h
        have hL : LR P.2 q d c w j (N 112) := Mo P.2 a3
        refine V.goto hC 1387 dL_law_647 (by decide) ?_
        first | exact V.more (k := 4) (n := 76) (V.sub (dk_sc rfl (dk_sc rfl (dk_sc rfl (dk_sc rfl (dk_sc rfl (dk_sc rfl (dk_sc rfl (dk_sc rfl (dk_sc rfl (dk_sn)))))))))) (K _ _ hS hL)) | exact V.sub (dk_sc rfl (dk_sc rfl (dk_sc rfl (dk_sc rfl (dk_sc rfl (dk_sc rfl (dk_sc rfl (dk_sc rfl (dk_sc rfl (dk_sn)))))))))) (K _ _ hS hL)
      · refine V.aload_n hC dL_law_596 rfl ?_
        refine V.iload hC dL_law_597 rfl ?_
        refine V.callV1i hC (c_X4_removeKey hG Sm.x) mwX4_removeKey mlL_121 (hG.at 0 rfl) rfl rfl ⟨rfl, rfl⟩ dL_law_599 rfl ?_
        obtain ⟨a1, a2, a3⟩ := op_ok Sm (Sm.draft.ds.drop (nI k)).to2
        generalize xU (dDrop (hDraft M) 1 (nI k)) = P at *
        refine V.iload hC dL_law_602 rfl ?_
        refine V.if_ne_t hC 611 dL_law_604 (by decide) (by rw [hi]; decide) ?_
        refine V.iload hC dL_law_611 rfl ?_
        refine V.if_eq_f hC 621 dL_law_613 (by decide) (by rw [hcn]; decide) ?_
        refine V.iload hC dL_law_616 rfl ?_
        refine V.goto hC 623 dL_law_618 (by decide) ?_
        refine V.icmp_eq_t hC 628 dL_law_623 (by decide) (a1.trans (by rw [(a_rem Sm.ds r (h5k Sm.ds r) h1 h2).2.2 (lIs_t hi) (lCan_t hcn).1 (lCan_t hcn).2])) ?_
        refine V.iload hC dL_law_628 rfl ?_
        refine V.if_eq_f hC 647 dL_law_630 (by decide) (by rw [hi]; decide) ?_
        refine V.iload hC dL_law_633 rfl ?_
        refine V.if_eq_f hC 647 dL_law_635 (by decide) (by rw [hcn]; decide) ?_
        refine V.aload_n hC dL_law_638 rfl ?_
        refine V.bipush hC 10 dL_law_639 (by decide) ?_
        refine V.iload hC dL_law_641 rfl ?_
        refine V.iadd hC dL_law_643 ?_
        refine V.bipush hC (-6) dL_law_644 (by decide) ?_
        refine V.iastLN hC (10 + k) hq (dk_addN (rfl) (rfl)) (by omega) dL_law_646 ?_
        rw [(a_rem Sm.ds r (h5k Sm.ds r) h1 h2).2.2 (lIs_t hi) (lCan_t hcn).1 (lCan_t hcn).2] at a2
        have hS : Sim (dk_put P.2 q (10 + k) (-6)) (mAddM N (nI k) (-6)) := a2.keep (fun a y1 y2 => dk_put_ne (by omega))
        have hL : LR (dk_put P.2 q (10 + k) (-6)) q d c w j (mAddM N (nI k) (-6) 112) := by
          have h := (Mo P.2 a3).keyp D (mRec_st N) h1 h2 (-6)
          unfold mAddM
          rw [ix_nI (by omega)]
          exact h
        refine V.goto hC 1387 dL_law_647 (by decide) ?_
        first | exact V.more (k := 4) (n := 76) (V.sub (dk_sc rfl (dk_sc rfl (dk_sc rfl (dk_sc rfl (dk_sc rfl (dk_sc rfl (dk_sc rfl (dk_sc rfl (dk_sc rfl (dk_sn)))))))))) (K _ _ hS hL)) | exact V.sub (dk_sc rfl (dk_sc rfl (dk_sc rfl (dk_sc rfl (dk_sc rfl (dk_sc rfl (dk_sc rfl (dk_sc rfl (dk_sc rfl (dk_sn)))))))))) (K _ _ hS hL)
      · refine V.aload_n hC dL_law_596 rfl ?_
        refine V.iload hC dL_law_597 rfl ?_
        refine V.callV1i hC (c_X4_removeKey hG Sm.x) mwX4_removeKey mlL_121 (hG.at 0 rfl) rfl rfl ⟨rfl, rfl⟩ dL_law_599 rfl ?_
        obtain ⟨a1, a2, a3⟩ := op_ok Sm (Sm.draft.ds.drop (nI k)).to2
        generalize xU (dDrop (hDraft M) 1 (nI k)) = P at *
        refine V.iload hC dL_law_602 rfl ?_
        refine V.if_ne_t hC 611 dL_law_604 (by decide) (by rw [hi]; decide) ?_
        refine V.iload hC dL_law_611 rfl ?_
        refine V.if_eq_t hC 621 dL_law_613 (by decide) (by rw [hcn]; rfl) ?_
        refine V.bipush hC (-3) dL_law_621 (by decide) ?_
        refine V.icmp_eq_t hC 628 dL_law_623 (by decide) (a1.trans (by rw [(a_rem Sm.ds r (h5k Sm.ds r) h1 h2).2.1 (lIs_t hi) (lCan_f hcn)])) ?_
        refine V.iload hC dL_law_628 rfl ?_
        refine V.if_eq_f hC 647 dL_law_630 (by decide) (by rw [hi]; decide) ?_
        refine V.iload hC dL_law_633 rfl ?_
        refine V.if_eq_t hC 647 dL_law_635 (by decide) (by rw [hcn]; rfl) ?_
        have hS : Sim P.2 N := by have h := a2; rw [(a_rem Sm.ds r (h5k Sm.ds r) h1 h2).2.1 (lIs_t hi) (lCan_f hcn)] at h; exact h
        have hL : LR P.2 q d c w j (N 112) := Mo P.2 a3
        refine V.goto hC 1387 dL_law_647 (by decide) ?_
        first | exact V.more (k := 4) (n := 76) (V.sub (dk_sc rfl (dk_sc rfl (dk_sc rfl (dk_sc rfl (dk_sc rfl (dk_sc rfl (dk_sc rfl (dk_sc rfl (dk_sc rfl (dk_sn)))))))))) (K _ _ hS hL)) | exact V.sub (dk_sc rfl (dk_sc rfl (dk_sc rfl (dk_sc rfl (dk_sc rfl (dk_sc rfl (dk_sc rfl (dk_sc rfl (dk_sc rfl (dk_sn)))))))))) (K _ _ hS hL)
  have loop_563 : ∀ (n : Nat) (k i : Nat), (1 ≤ k) → (k ≤ 5) → (i ≤ 5) → (5 < i + n) →  V E G 18 T (M) 563 [(0, some (.ref b)), (1, some (.ref (G.1 + 0))), (2, some (.ref (G.1 + q))), (3, some (.ref (G.1 + d))), (4, some (.ref (G.1 + c))), (5, some (.ref (G.1 + w))), (6, some (.ref (G.1 + j))), (7, some (.int tn)), (9, some (.int y)), (13, some (.int (nI k))), (14, some (.int (bI (lIs M q k)))), (15, some (.int (bI (lCan M q k)))), (16, some (.int (nI (lKyN M q i) - 1))), (17, some (.int (nI (i + 1))))] [] := by
    intro n
    induction n with
    | zero => intro k i h1 h2 hi hn; exact absurd hn (by omega)
    | succ n ih_563 =>
      intro k i h1 h2 hi hn
      refine V.iload hC dL_law_563 rfl ?_
      refine V.bipush hC 6 dL_law_565 (by decide) ?_
      refine V.icmp_ge hC 596 dL_law_567 (by decide) (fun c_1 => ?_) (fun c_1 => ?_)
      · have hke : i = 5 := by have := (dk_gek (k := i + 1) (by omega)).mp c_1; rw [show ix 6 = 6 from by decide] at this; omega
        subst hke
        exact V.sub (dk_sc rfl (dk_sc rfl (dk_sc rfl (dk_sc rfl (dk_sc rfl (dk_sc rfl (dk_sc rfl (dk_sc rfl (dk_sc rfl (dk_sc rfl (dk_sc rfl (dk_sc rfl (dk_sc rfl (dk_sn)))))))))))))) (loop_596 1 k h1 h2 (by omega))
      · have hkl : i < 5 := by have := mt (dk_gek (k := i + 1) (by omega)).mpr c_1; rw [show ix 6 = 6 from by decide] at this; omega
        refine V.iload hC dL_law_570 rfl ?_
        refine V.aload_n hC dL_law_572 rfl ?_
        refine V.bipush hC 10 dL_law_573 (by decide) ?_
        refine V.iload hC dL_law_575 rfl ?_
        refine V.iadd hC dL_law_577 ?_
        refine V.ialdLN hC ((10) + (i + 1)) hq (dk_addN (rfl) (rfl)) (by omega) dL_law_578 ?_
        refine V.if_ge hC 586 dL_law_579 (by decide) (fun c_2 => ?_) (fun c_2 => ?_)
        · refine V.iconst hC 1 dL_law_586 (by decide) ?_
          refine V.iadd hC dL_law_587 ?_
          refine V.top (x' := .int (nI (lKyN M q (i + 1)) - 1)) (by first | (rw [kyn_t c_2, m1p]) | (rw [kyn_f c_2, p0])) ?_
          refine V.istore hC dL_law_588 rfl rfl ?_
          refine V.iinc hC dL_law_590 rfl (dk_incN _) rfl ?_
          refine V.goto hC 563 dL_law_593 (by decide) ?_
          exact V.sub (dk_sc rfl (dk_sc rfl (dk_sc rfl (dk_sc rfl (dk_sc rfl (dk_sc rfl (dk_sc rfl (dk_sc rfl (dk_sc rfl (dk_sc rfl (dk_sc rfl (dk_sc rfl (dk_sc rfl (dk_sc rfl (dk_sn))))))))))))))) (ih_563 k (i + 1) h1 h2 (by omega) (by omega))
        · refine V.iconst hC 0 dL_law_582 (by decide) ?_
          refine V.goto hC 587 dL_law_583 (by decide) ?_
          refine V.iadd hC dL_law_587 ?_
          refine V.top (x' := .int (nI (lKyN M q (i + 1)) - 1)) (by first | (rw [kyn_t c_2, m1p]) | (rw [kyn_f c_2, p0])) ?_
          refine V.istore hC dL_law_588 rfl rfl ?_
          refine V.iinc hC dL_law_590 rfl (dk_incN _) rfl ?_
          refine V.goto hC 563 dL_law_593 (by decide) ?_
          exact V.sub (dk_sc rfl (dk_sc rfl (dk_sc rfl (dk_sc rfl (dk_sc rfl (dk_sc rfl (dk_sc rfl (dk_sc rfl (dk_sc rfl (dk_sc rfl (dk_sc rfl (dk_sc rfl (dk_sc rfl (dk_sc rfl (dk_sn))))))))))))))) (ih_563 k (i + 1) h1 h2 (by omega) (by omega))
  have loop_557 : ∀ (n : Nat) (k : Nat), (1 ≤ k) → (k ≤ 5) → (0 < n) →  V E G 18 T (M) 557 [(0, some (.ref b)), (1, some (.ref (G.1 + 0))), (2, some (.ref (G.1 + q))), (3, some (.ref (G.1 + d))), (4, some (.ref (G.1 + c))), (5, some (.ref (G.1 + w))), (6, some (.ref (G.1 + j))), (7, some (.int tn)), (9, some (.int y)), (13, some (.int (nI k))), (14, some (.int (bI (lIs M q k)))), (15, some (.int (bI (lCan M q k))))] [] := by
    intro n
    induction n with
    | zero => intro k h1 h2 hn; exact absurd hn (by omega)
    | succ n ih_557 =>
      intro k h1 h2 hn
      refine V.iconst hC (-1) dL_law_557 (by decide) ?_
      refine V.top (x' := .int (nI (lKyN M q 0) - 1)) (congrArg Value.int (by show (-1 : Int32) = nI 0 - 1; decide)) ?_
      refine V.istore hC dL_law_558 rfl rfl ?_
      refine V.iconst hC 1 dL_law_560 (by decide) ?_
      refine V.istore hC dL_law_561 rfl rfl ?_
      exact V.sub (dk_sc rfl (dk_sc rfl (dk_sc rfl (dk_sc rfl (dk_sc rfl (dk_sc rfl (dk_sc rfl (dk_sc rfl (dk_sc rfl (dk_sc rfl (dk_sc rfl (dk_sc rfl (dk_sc rfl (dk_sc rfl (dk_sn))))))))))))))) (loop_563 6 k 0 h1 h2 (Nat.zero_le _) (by omega))
  have loop_534 : ∀ (n : Nat) (k : Nat), (1 ≤ k) → (k ≤ 5) → (0 < n) →  V E G 18 T (M) 534 [(0, some (.ref b)), (1, some (.ref (G.1 + 0))), (2, some (.ref (G.1 + q))), (3, some (.ref (G.1 + d))), (4, some (.ref (G.1 + c))), (5, some (.ref (G.1 + w))), (6, some (.ref (G.1 + j))), (7, some (.int tn)), (9, some (.int y)), (13, some (.int (nI k))), (14, some (.int (bI (lIs M q k))))] [] := by
    intro n
    induction n with
    | zero => intro k h1 h2 hn; exact absurd hn (by omega)
    | succ n ih_534 =>
      intro k h1 h2 hn
      refine V.iload hC dL_law_534 rfl ?_
      refine V.aload_n hC dL_law_536 rfl ?_
      refine V.iconst hC 1 dL_law_537 (by decide) ?_
      refine V.ialdLN hC (1) hq (rfl) (by omega) dL_law_538 ?_
      refine V.icmp_eq hC 554 dL_law_539 (by decide) (fun c_1 => ?_) (fun c_1 => ?_)
      · refine V.iconst hC 0 dL_law_554 (by decide) ?_
        refine V.top (x' := .int (bI (lCan M q k))) (by first | (rw [lCan_1 c_1]; rfl) | (rw [lCan_2 c_2]; rfl) | (rw [lCan_3 c_1 c_2]; rfl)) ?_
        refine V.istore hC dL_law_555 rfl rfl ?_
        exact V.sub (dk_sc rfl (dk_sc rfl (dk_sc rfl (dk_sc rfl (dk_sc rfl (dk_sc rfl (dk_sc rfl (dk_sc rfl (dk_sc rfl (dk_sc rfl (dk_sc rfl (dk_sc rfl (dk_sn))))))))))))) (loop_557 1 k h1 h2 (by omega))
      · refine V.iload hC dL_law_542 rfl ?_
        refine V.aload_n hC dL_law_544 rfl ?_
        refine V.iconst hC 2 dL_law_545 (by decide) ?_
        refine V.ialdLN hC (2) hq (rfl) (by omega) dL_law_546 ?_
        refine V.icmp_eq hC 554 dL_law_547 (by decide) (fun c_2 => ?_) (fun c_2 => ?_)
        · refine V.iconst hC 0 dL_law_554 (by decide) ?_
          refine V.top (x' := .int (bI (lCan M q k))) (by first | (rw [lCan_1 c_1]; rfl) | (rw [lCan_2 c_2]; rfl) | (rw [lCan_3 c_1 c_2]; rfl)) ?_
          refine V.istore hC dL_law_555 rfl rfl ?_
          exact V.sub (dk_sc rfl (dk_sc rfl (dk_sc rfl (dk_sc rfl (dk_sc rfl (dk_sc rfl (dk_sc rfl (dk_sc rfl (dk_sc rfl (dk_sc rfl (dk_sc rfl (dk_sc rfl (dk_sn))))))))))))) (loop_557 1 k h1 h2 (by omega))
        · refine V.iconst hC 1 dL_law_550 (by decide) ?_
          refine V.goto hC 555 dL_law_551 (by decide) ?_
          refine V.top (x' := .int (bI (lCan M q k))) (by first | (rw [lCan_1 c_1]; rfl) | (rw [lCan_2 c_2]; rfl) | (rw [lCan_3 c_1 c_2]; rfl)) ?_
          refine V.istore hC dL_law_555 rfl rfl ?_
          exact V.sub (dk_sc rfl (dk_sc rfl (dk_sc rfl (dk_sc rfl (dk_sc rfl (dk_sc rfl (dk_sc rfl (dk_sc rfl (dk_sc rfl (dk_sc rfl (dk_sc rfl (dk_sc rfl (dk_sn))))))))))))) (loop_557 1 k h1 h2 (by omega))
  refine V.iconst hC 1 dL_law_505 (by decide) ?_
  refine V.iload hC dL_law_506 rfl ?_
  refine V.iconst hC 4 dL_law_508 (by decide) ?_
  refine V.ishr hC dL_law_509 ?_
  refine V.iconst hC 5 dL_law_510 (by decide) ?_
  refine V.callS2i hC (c_L_low (show ¬ (5 : Int32) = 0 by decide)) mwL_low mlL_80 ⟨rfl, rfl⟩ dL_law_511 rfl ?_
  refine V.iadd hC dL_law_514 ?_
  have hk := low_p (v := y >>> (4 &&& 31)) (n := 5) (p := 1) (a := 5) (c := 1) (by decide) (by decide) (by decide) (by decide) (by decide)
  generalize (1 : Int32) + lLow (y >>> (4 &&& 31)) 5 = kk at *
  obtain ⟨k, rfl, h1, h2⟩ := nat5 hk
  refine V.istore hC dL_law_515 rfl rfl ?_
  refine V.aload_n hC dL_law_517 rfl ?_
  refine V.bipush hC 10 dL_law_518 (by decide) ?_
  refine V.iload hC dL_law_520 rfl ?_
  refine V.iadd hC dL_law_522 ?_
  refine V.ialdLN hC (10 + k) hq (dk_addN (rfl) (rfl)) (by omega) dL_law_523 ?_
  refine V.if_lt hC 531 dL_law_524 (by decide) (fun c_1 => ?_) (fun c_1 => ?_)
  · refine V.iconst hC 0 dL_law_531 (by decide) ?_
    refine V.top (x' := .int (bI (lIs M q k))) (by first | (rw [lIs_1 c_1]; rfl) | (rw [lIs_2 c_1]; rfl)) ?_
    refine V.istore hC dL_law_532 rfl rfl ?_
    exact V.sub (dk_sc rfl (dk_sc rfl (dk_sc rfl (dk_sc rfl (dk_sc rfl (dk_sc rfl (dk_sc rfl (dk_sc rfl (dk_sc rfl (dk_sc rfl (dk_sc rfl (dk_sn)))))))))))) (loop_534 1 k h1 h2 (by omega))
  · refine V.iconst hC 1 dL_law_527 (by decide) ?_
    refine V.goto hC 532 dL_law_528 (by decide) ?_
    refine V.top (x' := .int (bI (lIs M q k))) (by first | (rw [lIs_1 c_1]; rfl) | (rw [lIs_2 c_1]; rfl)) ?_
    refine V.istore hC dL_law_532 rfl rfl ?_
    exact V.sub (dk_sc rfl (dk_sc rfl (dk_sc rfl (dk_sc rfl (dk_sc rfl (dk_sc rfl (dk_sc rfl (dk_sc rfl (dk_sc rfl (dk_sc rfl (dk_sc rfl (dk_sn)))))))))))) (loop_534 1 k h1 h2 (by omega))
set_option maxHeartbeats 2000000 in
set_option maxRecDepth 20000 in
theorem law_write {E : dkE} {G : dkG} {T : dkT} {M N : dkM} {q d c w j b : Nat} {tn x y kd : Int32} {sc : Nat} (hC : dk_Cx E G cL_law 18 RL (some .boolean) 9 322) (hA : dk_Al E G) (hr : dk_rm E 4 76) (hG : dk_cls G) (hq : lA G q 16) (hd : lA G d 20) (hc : lA G c 20) (hw : lA G w 20) (hj : lA G j 20) (D : lD q d c w j) (h111 : 111 ≤ q ∧ 111 ≤ d ∧ 111 ≤ c ∧ 111 ≤ w ∧ 111 ≤ j) (Sm : Sim M N) (r : LR M q d c w j (N 112)) (hsc : sc < ix (N 112 0))  (K : ∀ (M' N' : dkM), Sim M' N' → LR M' q d c w j (N' 112) → V (dk_more E 4 76) G 18 T M' 1387 [(0, some (.ref b)), (1, some (.ref (G.1 + 0))), (2, some (.ref (G.1 + q))), (3, some (.ref (G.1 + d))), (4, some (.ref (G.1 + c))), (5, some (.ref (G.1 + w))), (6, some (.ref (G.1 + j))), (7, some (.int tn)), (9, some (.int y))] [])  : V E G 18 T M 657 [(0, some (.ref b)), (1, some (.ref (G.1 + 0))), (2, some (.ref (G.1 + q))), (3, some (.ref (G.1 + d))), (4, some (.ref (G.1 + c))), (5, some (.ref (G.1 + w))), (6, some (.ref (G.1 + j))), (7, some (.int tn)), (8, some (.int x)), (9, some (.int y)), (10, some (.int kd)), (11, some (.int (nI sc))), (12, some (.int (bI (mOpen N))))] [] := by
  obtain ⟨⟨d1, d2, d3, d4⟩, ⟨d5, d6, d7⟩, ⟨d8, d9⟩, d10⟩ := id D
  obtain ⟨g1, g2, g3, g4, g5⟩ := h111
  have hsec := Sm.ds.sec
  have hsec2 := r.sec Sm.ds
  have Mo : ∀ X : dkM, (∀ a, 111 ≤ a → X a = M a) → LR X q d c w j (N 112) := fun X h => r.keep (h q g1) (h d g2) (h c g3) (h w g4) (h j g5)
  have h20s := r.sn Sm.ds hsc
  have loop_694 : ∀ (n : Nat) (v : Int32), (0 ≤ v.toInt ∧ v.toInt ≤ 65535) → (0 < n) →  V E G 18 T (M) 694 [(0, some (.ref b)), (1, some (.ref (G.1 + 0))), (2, some (.ref (G.1 + q))), (3, some (.ref (G.1 + d))), (4, some (.ref (G.1 + c))), (5, some (.ref (G.1 + w))), (6, some (.ref (G.1 + j))), (7, some (.int tn)), (9, some (.int y)), (11, some (.int (nI sc))), (13, some (.int v)), (14, some (.int (bI (lFull M q c sc))))] [] := by
    intro n
    induction n with
    | zero => intro v hv hn; exact absurd hn (by omega)
    | succ n ih_694 =>
      intro v hv hn
      rcases hf : lFull M q c sc with _ | _
      · refine V.iload hC dL_law_694 rfl ?_
        refine V.if_ne_f hC 713 dL_law_696 (by decide) (by decide) ?_
        refine V.aload hC dL_law_699 rfl ?_
        refine V.iload hC dL_law_701 rfl ?_
        refine V.iload hC dL_law_703 rfl ?_
        refine V.iastLN hC (sc) hc (rfl) (by omega) dL_law_705 ?_
        refine V.aload hC dL_law_706 rfl ?_
        refine V.iload hC dL_law_708 rfl ?_
        refine V.iload hC dL_law_710 rfl ?_
        refine V.iastLN hC (sc) hw (rfl) (by omega) dL_law_712 ?_
        have Sm1 : Sim (dk_put (dk_put M c sc v) w sc v) N := Sm.keep (fun a y1 y2 => by rw [dk_put_ne (by omega), dk_put_ne (by omega)])
        refine V.aload_n hC dL_law_713 rfl ?_
        refine V.iload hC dL_law_714 rfl ?_
        refine V.iload hC dL_law_716 rfl ?_
        refine V.callV2i hC (c_X4_write hG Sm1.x) mwX4_write mlL_124 (hG.at 0 rfl) rfl rfl ⟨rfl, rfl⟩ dL_law_718 rfl ?_
        obtain ⟨a1, a2, a3⟩ := op_ok Sm1 (Sm1.draft.ds.put (nI sc) v).to2
        generalize xU (dPut (hDraft (dk_put (dk_put M c sc v) w sc v)) 1 (nI sc) v) = P at *
        refine V.iload hC dL_law_721 rfl ?_
        refine V.if_eq_t hC 731 dL_law_723 (by decide) (rfl) ?_
        have hS : Sim P.2 (mWritesM (mRec N) (nI sc) v) := by have h := a2; rw [(a_write Sm r hsc hv).2 (lFull_f hf)] at h; exact h
        have hL : LR P.2 q d c w j (mWritesM (mRec N) (nI sc) v 112) := (r.writep D Sm.ds (mRec_st N) hsc v).keep (a3 q g1) (a3 d g2) (a3 c g3) (a3 w g4) (a3 j g5)
        refine V.aload_n hC dL_law_731 rfl ?_
        refine V.aload hC dL_law_732 rfl ?_
        refine V.callS2i hC (c_L_cached hq hc (hL.sec hS.ds).2.2.2) mwL_cached mlL_87 ⟨rfl, rfl⟩ dL_law_734 rfl ?_
        refine V.icmp_eq_t hC 742 dL_law_737 (by decide) (a1.trans (by rw [(a_write Sm r hsc hv).2 (lFull_f hf), hL.ca hS.ds])) ?_
        refine V.goto hC 1387 dL_law_742 (by decide) ?_
        first | exact V.more (k := 4) (n := 76) (V.sub (dk_sc rfl (dk_sc rfl (dk_sc rfl (dk_sc rfl (dk_sc rfl (dk_sc rfl (dk_sc rfl (dk_sc rfl (dk_sc rfl (dk_sn)))))))))) (K _ _ hS hL)) | exact V.sub (dk_sc rfl (dk_sc rfl (dk_sc rfl (dk_sc rfl (dk_sc rfl (dk_sc rfl (dk_sc rfl (dk_sc rfl (dk_sc rfl (dk_sn)))))))))) (K _ _ hS hL)
      · refine V.iload hC dL_law_694 rfl ?_
        refine V.if_ne_t hC 713 dL_law_696 (by decide) (by decide) ?_
        have Sm1 := Sm
        refine V.aload_n hC dL_law_713 rfl ?_
        refine V.iload hC dL_law_714 rfl ?_
        refine V.iload hC dL_law_716 rfl ?_
        refine V.callV2i hC (c_X4_write hG Sm1.x) mwX4_write mlL_124 (hG.at 0 rfl) rfl rfl ⟨rfl, rfl⟩ dL_law_718 rfl ?_
        obtain ⟨a1, a2, a3⟩ := op_ok Sm (Sm.draft.ds.put (nI sc) v).to2
        generalize xU (dPut (hDraft M) 1 (nI sc) v) = P at *
        refine V.iload hC dL_law_721 rfl ?_
        refine V.if_eq_f hC 731 dL_law_723 (by decide) (by decide) ?_
        refine V.bipush hC (-4) dL_law_726 (by decide) ?_
        refine V.goto hC 737 dL_law_728 (by decide) ?_
        refine V.icmp_eq_t hC 742 dL_law_737 (by decide) (a1.trans (by rw [(a_write Sm r hsc hv).1 (lFull_t hf).1 (lFull_t hf).2])) ?_
        have hS : Sim P.2 N := by have h := a2; rw [(a_write Sm r hsc hv).1 (lFull_t hf).1 (lFull_t hf).2] at h; exact h
        have hL : LR P.2 q d c w j (N 112) := Mo P.2 a3
        refine V.goto hC 1387 dL_law_742 (by decide) ?_
        first | exact V.more (k := 4) (n := 76) (V.sub (dk_sc rfl (dk_sc rfl (dk_sc rfl (dk_sc rfl (dk_sc rfl (dk_sc rfl (dk_sc rfl (dk_sc rfl (dk_sc rfl (dk_sn)))))))))) (K _ _ hS hL)) | exact V.sub (dk_sc rfl (dk_sc rfl (dk_sc rfl (dk_sc rfl (dk_sc rfl (dk_sc rfl (dk_sc rfl (dk_sc rfl (dk_sc rfl (dk_sn)))))))))) (K _ _ hS hL)
  have loop_668 : ∀ (n : Nat) (v : Int32), (0 ≤ v.toInt ∧ v.toInt ≤ 65535) → (0 < n) →  V E G 18 T (M) 668 [(0, some (.ref b)), (1, some (.ref (G.1 + 0))), (2, some (.ref (G.1 + q))), (3, some (.ref (G.1 + d))), (4, some (.ref (G.1 + c))), (5, some (.ref (G.1 + w))), (6, some (.ref (G.1 + j))), (7, some (.int tn)), (9, some (.int y)), (11, some (.int (nI sc))), (13, some (.int v))] [] := by
    intro n
    induction n with
    | zero => intro v hv hn; exact absurd hn (by omega)
    | succ n ih_668 =>
      intro v hv hn
      refine V.aload hC dL_law_668 rfl ?_
      refine V.iload hC dL_law_670 rfl ?_
      refine V.ialdLN hC (sc) hc (rfl) (by omega) dL_law_672 ?_
      refine V.if_ge hC 691 dL_law_673 (by decide) (fun c_1 => ?_) (fun c_1 => ?_)
      · refine V.iconst hC 0 dL_law_691 (by decide) ?_
        refine V.top (x' := .int (bI (lFull M q c sc))) (by first | (rw [lFull_1 c_1]; rfl) | (rw [lFull_2 c_2]; rfl) | (rw [lFull_3 c_1 c_2]; rfl)) ?_
        refine V.istore hC dL_law_692 rfl rfl ?_
        exact V.sub (dk_sc rfl (dk_sc rfl (dk_sc rfl (dk_sc rfl (dk_sc rfl (dk_sc rfl (dk_sc rfl (dk_sc rfl (dk_sc rfl (dk_sc rfl (dk_sc rfl (dk_sc rfl (dk_sn))))))))))))) (loop_694 1 v hv (by omega))
      · refine V.aload_n hC dL_law_676 rfl ?_
        refine V.aload hC dL_law_677 rfl ?_
        refine V.callS2i hC (c_L_cached hq hc hsec2.2.2.2) mwL_cached mlL_87 ⟨rfl, rfl⟩ dL_law_679 rfl ?_
        refine V.bipush hC 8 dL_law_682 (by decide) ?_
        refine V.icmp_ne hC 691 dL_law_684 (by decide) (fun c_2 => ?_) (fun c_2 => ?_)
        · refine V.iconst hC 0 dL_law_691 (by decide) ?_
          refine V.top (x' := .int (bI (lFull M q c sc))) (by first | (rw [lFull_1 c_1]; rfl) | (rw [lFull_2 c_2]; rfl) | (rw [lFull_3 c_1 c_2]; rfl)) ?_
          refine V.istore hC dL_law_692 rfl rfl ?_
          exact V.sub (dk_sc rfl (dk_sc rfl (dk_sc rfl (dk_sc rfl (dk_sc rfl (dk_sc rfl (dk_sc rfl (dk_sc rfl (dk_sc rfl (dk_sc rfl (dk_sc rfl (dk_sc rfl (dk_sn))))))))))))) (loop_694 1 v hv (by omega))
        · refine V.iconst hC 1 dL_law_687 (by decide) ?_
          refine V.goto hC 692 dL_law_688 (by decide) ?_
          refine V.top (x' := .int (bI (lFull M q c sc))) (by first | (rw [lFull_1 c_1]; rfl) | (rw [lFull_2 c_2]; rfl) | (rw [lFull_3 c_1 c_2]; rfl)) ?_
          refine V.istore hC dL_law_692 rfl rfl ?_
          exact V.sub (dk_sc rfl (dk_sc rfl (dk_sc rfl (dk_sc rfl (dk_sc rfl (dk_sc rfl (dk_sc rfl (dk_sc rfl (dk_sc rfl (dk_sc rfl (dk_sc rfl (dk_sc rfl (dk_sn))))))))))))) (loop_694 1 v hv (by omega))
  refine V.iload hC dL_law_657 rfl ?_
  refine V.iconst hC 5 dL_law_659 (by decide) ?_
  refine V.ishr hC dL_law_660 ?_
  refine V.ldc hC klL_117 dL_law_661 ?_
  refine V.callS2i hC (c_L_low (show ¬ (65536 : Int32) = 0 by decide)) mwL_low mlL_80 ⟨rfl, rfl⟩ dL_law_663 rfl ?_
  have hv := low_i (v := y >>> (5 &&& 31)) (n := 65536) (a := 65536) (by decide) (by decide)
  generalize lLow (y >>> (5 &&& 31)) 65536 = v at *
  replace hv : 0 ≤ v.toInt ∧ v.toInt ≤ 65535 := by omega
  refine V.istore hC dL_law_666 rfl rfl ?_
  exact V.sub (dk_sc rfl (dk_sc rfl (dk_sc rfl (dk_sc rfl (dk_sc rfl (dk_sc rfl (dk_sc rfl (dk_sc rfl (dk_sc rfl (dk_sc rfl (dk_sc rfl (dk_sn)))))))))))) (loop_668 1 v hv (by omega))
set_option maxHeartbeats 2000000 in
set_option maxRecDepth 20000 in
theorem law_flush {E : dkE} {G : dkG} {T : dkT} {M N : dkM} {q d c w j b : Nat} {tn x y kd : Int32} {sc : Nat} (hC : dk_Cx E G cL_law 18 RL (some .boolean) 9 322) (hA : dk_Al E G) (hr : dk_rm E 4 76) (hG : dk_cls G) (hq : lA G q 16) (hd : lA G d 20) (hc : lA G c 20) (hw : lA G w 20) (hj : lA G j 20) (D : lD q d c w j) (h111 : 111 ≤ q ∧ 111 ≤ d ∧ 111 ≤ c ∧ 111 ≤ w ∧ 111 ≤ j) (Sm : Sim M N) (r : LR M q d c w j (N 112)) (hsc : sc < ix (N 112 0))  (K : ∀ (M' N' : dkM), Sim M' N' → LR M' q d c w j (N' 112) → V (dk_more E 4 76) G 18 T M' 1387 [(0, some (.ref b)), (1, some (.ref (G.1 + 0))), (2, some (.ref (G.1 + q))), (3, some (.ref (G.1 + d))), (4, some (.ref (G.1 + c))), (5, some (.ref (G.1 + w))), (6, some (.ref (G.1 + j))), (7, some (.int tn)), (9, some (.int y))] [])  : V E G 18 T M 752 [(0, some (.ref b)), (1, some (.ref (G.1 + 0))), (2, some (.ref (G.1 + q))), (3, some (.ref (G.1 + d))), (4, some (.ref (G.1 + c))), (5, some (.ref (G.1 + w))), (6, some (.ref (G.1 + j))), (7, some (.int tn)), (8, some (.int x)), (9, some (.int y)), (10, some (.int kd)), (11, some (.int (nI sc))), (12, some (.int (bI (mOpen N))))] [] := by
  obtain ⟨⟨d1, d2, d3, d4⟩, ⟨d5, d6, d7⟩, ⟨d8, d9⟩, d10⟩ := id D
  obtain ⟨g1, g2, g3, g4, g5⟩ := h111
  have hsec := Sm.ds.sec
  have hsec2 := r.sec Sm.ds
  have Mo : ∀ X : dkM, (∀ a, 111 ≤ a → X a = M a) → LR X q d c w j (N 112) := fun X h => r.keep (h q g1) (h d g2) (h c g3) (h w g4) (h j g5)
  have hfl : ∀ k, k ≤ ix (N 112 0) → DS (flM M 1 k) 1 (mFluL (mRec N) k 112) := fun k hk => (DS.fl (Mm := mRec N) (by rw [mRec_st]; exact Sm.ds) k (by rw [mRec_st]; exact hk)).2
  have loop_841 : ∀ (n : Nat) (M1 : dkM), (∀ a, a ≠ d → a ≠ c → M1 a = M a) → (LR M1 q d c w j (mFluL (mRec N) (ix (N 112 0)) 112)) → (0 < n) →  V E G 18 T (M1) 841 [(0, some (.ref b)), (1, some (.ref (G.1 + 0))), (2, some (.ref (G.1 + q))), (3, some (.ref (G.1 + d))), (4, some (.ref (G.1 + c))), (5, some (.ref (G.1 + w))), (6, some (.ref (G.1 + j))), (7, some (.int tn)), (9, some (.int y)), (13, some (.int (nI (mFluN (mRec N) (ix (N 112 0))))))] [] := by
    intro n
    induction n with
    | zero => intro M1 hM r1 hn; exact absurd hn (by omega)
    | succ n ih_841 =>
      intro M1 hM r1 hn
      have Sm1 : Sim M1 N := Sm.keep (fun a y1 y2 => hM a (by omega) (by omega))
      refine V.aload_n hC dL_law_841 rfl ?_
      refine V.callV0i hC (c_X4_flush hG Sm1.x) mwX4_flush mlL_127 (hG.at 0 rfl) rfl rfl ⟨rfl, rfl⟩ dL_law_842 rfl ?_
      obtain ⟨a1, a2, a3⟩ := op_ok Sm1 (Sm1.draft.ds.flush).to2
      generalize xU (nI (flN (hDraft M1) 1 (ix (hDraft M1 1 5))), flM (hDraft M1) 1 (ix (hDraft M1 1 5))) = P at *
      refine V.iload hC dL_law_845 rfl ?_
      have fl_eq : mFlush N = (nI (mFluN (mRec N) (ix (N 112 0))), mFluL (mRec N) (ix (N 112 0))) := by unfold mFlush mFlushes; rw [mRec_st]
      · refine V.icmp_eq_t hC 852 dL_law_847 (by decide) (a1.trans (by rw [fl_eq])) ?_
        have hS : Sim P.2 (mFluL (mRec N) (ix (N 112 0))) := by have h := a2; rw [fl_eq] at h; exact h
        have hL : LR P.2 q d c w j (mFluL (mRec N) (ix (N 112 0)) 112) := r1.keep (a3 q g1) (a3 d g2) (a3 c g3) (a3 w g4) (a3 j g5)
        refine V.goto hC 1387 dL_law_852 (by decide) ?_
        first | exact V.more (k := 4) (n := 76) (V.sub (dk_sc rfl (dk_sc rfl (dk_sc rfl (dk_sc rfl (dk_sc rfl (dk_sc rfl (dk_sc rfl (dk_sc rfl (dk_sc rfl (dk_sn)))))))))) (K _ _ hS hL)) | exact V.sub (dk_sc rfl (dk_sc rfl (dk_sc rfl (dk_sc rfl (dk_sc rfl (dk_sc rfl (dk_sc rfl (dk_sc rfl (dk_sc rfl (dk_sn)))))))))) (K _ _ hS hL)
  have loop_758 : ∀ (n : Nat) (k : Nat) (M1 : dkM), (∀ a, a ≠ d → a ≠ c → M1 a = M a) → (LR M1 q d c w j (mFluL (mRec N) k 112)) → (k ≤ ix (N 112 0)) → (ix (N 112 0) < k + n) →  V E G 18 T (M1) 758 [(0, some (.ref b)), (1, some (.ref (G.1 + 0))), (2, some (.ref (G.1 + q))), (3, some (.ref (G.1 + d))), (4, some (.ref (G.1 + c))), (5, some (.ref (G.1 + w))), (6, some (.ref (G.1 + j))), (7, some (.int tn)), (9, some (.int y)), (12, some (.int (bI (mOpen N)))), (13, some (.int (nI (mFluN (mRec N) k)))), (14, some (.int (nI k)))] [] := by
    intro n
    induction n with
    | zero => intro k M1 hM r1 hk hn; exact absurd hn (by omega)
    | succ n ih_758 =>
      intro k M1 hM r1 hk hn
      have e0 : mFluL (mRec N) k 112 0 = N 112 0 := by rw [mFluL_lo _ _ (by decide), mRec_st]
      have eo : mOpen (mFluL (mRec N) k) = mOpen N := by unfold mOpen; rw [mFluL_lo _ _ (by decide), mFluL_lo _ _ (by decide), mRec_st]
      have q0 : M1 q 0 = N 112 0 := by rw [r1.k (k := 0) (by decide) (by decide), e0]
      refine V.iload hC dL_law_758 rfl ?_
      refine V.aload_n hC dL_law_760 rfl ?_
      refine V.iconst hC 0 dL_law_761 (by decide) ?_
      refine V.ialdLN hC (0) hq (rfl) (by omega) dL_law_762 ?_
      refine V.icmp_ge hC 841 dL_law_763 (by decide) (fun c_1 => ?_) (fun c_1 => ?_)
      · have hke : k = ix (N 112 0) := by have h := c_1; rw [q0] at h; have := (dk_gek (k := k) (by omega)).mp h; omega
        subst hke
        exact V.sub (dk_sc rfl (dk_sc rfl (dk_sc rfl (dk_sc rfl (dk_sc rfl (dk_sc rfl (dk_sc rfl (dk_sc rfl (dk_sc rfl (dk_sc rfl (dk_sn))))))))))) (loop_841 1 M1 hM r1 (by omega))
      · have hkl : k < ix (N 112 0) := by have h := c_1; rw [q0] at h; have := mt (dk_gek (k := k) (by omega)).mpr h; omega
        have hk0 : k < ix (mFluL (mRec N) k 112 0) := by rw [e0]; exact hkl
        have hk20 : k < 20 := r.sn Sm.ds hkl
        have hkb := lKey_b (r1.lk (hfl k (by omega))) (nI k)
        refine V.aload hC dL_law_766 rfl ?_
        refine V.iload hC dL_law_768 rfl ?_
        refine V.ialdLN hC (k) hc (rfl) (by omega) dL_law_770 ?_
        refine V.if_lt hC 835 dL_law_771 (by decide) (fun c_2 => ?_) (fun c_2 => ?_)
        · obtain ⟨hfn, hfm⟩ := mFlu_0 (ca_0 (hfl k (by omega)) r1 hk0 c_2)
          have hM2 := hM
          have hr2 : LR M1 q d c w j (mFluL (mRec N) (k + 1) 112) := by rw [hfm]; exact r1
          refine V.iinc hC dL_law_835 rfl (dk_incN _) rfl ?_
          refine V.goto hC 758 dL_law_838 (by decide) ?_
          have ih2 := ih_758 (k + 1) _ hM2 hr2 (by omega) (by omega)
          rw [hfn] at ih2
          exact V.sub (dk_sc rfl (dk_sc rfl (dk_sc rfl (dk_sc rfl (dk_sc rfl (dk_sc rfl (dk_sc rfl (dk_sc rfl (dk_sc rfl (dk_sc rfl (dk_sc rfl (dk_sc rfl (dk_sn))))))))))))) ih2
        · refine V.iload hC dL_law_774 rfl ?_
          refine V.if_eqB hC 800 dL_law_776 (by decide) (fun c_3 => ?_) (fun c_3 => ?_)
          · have hcc : mCan (mFluL (mRec N) k) k = true ∧ lMix (M1 c k) (nI k) (M1 q (10 + ix (lKey M1 q (nI k)))) = mForm (mFluL (mRec N) k) k := by first | exact ca_1 (hfl k (by omega)) r1 hk0 c_2 (eo.trans c_3) | exact ca_2 (hfl k (by omega)) r1 hk0 c_2 (eo.trans c_3) c_4 | exact ca_3 (hfl k (by omega)) r1 hk0 c_2 (eo.trans c_3) c_4 c_5
            obtain ⟨hfn, hfm⟩ := mFlu_1 hcc.1
            refine V.aload_n hC dL_law_800 rfl ?_
            refine V.iload hC dL_law_801 rfl ?_
            refine V.aload hC dL_law_803 rfl ?_
            refine V.iload hC dL_law_805 rfl ?_
            refine V.ialdLN hC (k) hc (rfl) (by omega) dL_law_807 ?_
            refine V.iload hC dL_law_808 rfl ?_
            refine V.aload_n hC dL_law_810 rfl ?_
            refine V.bipush hC 10 dL_law_811 (by decide) ?_
            refine V.iload hC dL_law_813 rfl ?_
            refine V.aload_n hC dL_law_815 rfl ?_
            refine V.callS2i hC (c_L_key hq) mwL_key mlL_22 ⟨rfl, rfl⟩ dL_law_816 rfl ?_
            refine V.iadd hC dL_law_819 ?_
            refine V.ialdLN hC (10 + ix (lKey M1 q (nI k))) hq (dk_addN rfl (nI_ix hkb.1)) (by have := ix_toInt hkb.1; omega) dL_law_820 ?_
            refine V.callS3i hC (c_L_mix) mwL_mix mlL_26 ⟨rfl, rfl⟩ dL_law_821 rfl ?_
            refine V.iastLN hC (k) hd (rfl) (by omega) dL_law_824 ?_
            refine V.eqM (M' := dk_put M1 d k (mForm (mFluL (mRec N) k) k)) (by rw [hcc.2]) ?_
            refine V.aload hC dL_law_825 rfl ?_
            refine V.iload hC dL_law_827 rfl ?_
            refine V.bipush hC (-6) dL_law_829 (by decide) ?_
            refine V.iastLN hC (k) hc (rfl) (by omega) dL_law_831 ?_
            have hM2 : ∀ a, a ≠ d → a ≠ c → dk_put (dk_put M1 d k (mForm (mFluL (mRec N) k) k)) c k (-6) a = M a := fun a y1 y2 => by rw [dk_put_ne y2, dk_put_ne y1]; exact hM a y1 y2
            have hr2 : LR (dk_put (dk_put M1 d k (mForm (mFluL (mRec N) k) k)) c k (-6)) q d c w j (mFluL (mRec N) (k + 1) 112) := by rw [hfm]; exact r1.flushp D (hfl k (by omega)) hk0 _
            refine V.iinc hC dL_law_832 rfl (dk_incN _) rfl ?_
            refine V.iinc hC dL_law_835 rfl (dk_incN _) rfl ?_
            refine V.goto hC 758 dL_law_838 (by decide) ?_
            have ih2 := ih_758 (k + 1) _ hM2 hr2 (by omega) (by omega)
            rw [hfn] at ih2
            exact V.sub (dk_sc rfl (dk_sc rfl (dk_sc rfl (dk_sc rfl (dk_sc rfl (dk_sc rfl (dk_sc rfl (dk_sc rfl (dk_sc rfl (dk_sc rfl (dk_sc rfl (dk_sc rfl (dk_sn))))))))))))) ih2
          · refine V.iload hC dL_law_779 rfl ?_
            refine V.aload_n hC dL_law_781 rfl ?_
            refine V.callS1i hC (c_L_first hq) mwL_first mlL_16 ⟨rfl, rfl⟩ dL_law_782 rfl ?_
            refine V.icmp_lt hC 800 dL_law_785 (by decide) (fun c_4 => ?_) (fun c_4 => ?_)
            · have hcc : mCan (mFluL (mRec N) k) k = true ∧ lMix (M1 c k) (nI k) (M1 q (10 + ix (lKey M1 q (nI k)))) = mForm (mFluL (mRec N) k) k := by first | exact ca_1 (hfl k (by omega)) r1 hk0 c_2 (eo.trans c_3) | exact ca_2 (hfl k (by omega)) r1 hk0 c_2 (eo.trans c_3) c_4 | exact ca_3 (hfl k (by omega)) r1 hk0 c_2 (eo.trans c_3) c_4 c_5
              obtain ⟨hfn, hfm⟩ := mFlu_1 hcc.1
              refine V.aload_n hC dL_law_800 rfl ?_
              refine V.iload hC dL_law_801 rfl ?_
              refine V.aload hC dL_law_803 rfl ?_
              refine V.iload hC dL_law_805 rfl ?_
              refine V.ialdLN hC (k) hc (rfl) (by omega) dL_law_807 ?_
              refine V.iload hC dL_law_808 rfl ?_
              refine V.aload_n hC dL_law_810 rfl ?_
              refine V.bipush hC 10 dL_law_811 (by decide) ?_
              refine V.iload hC dL_law_813 rfl ?_
              refine V.aload_n hC dL_law_815 rfl ?_
              refine V.callS2i hC (c_L_key hq) mwL_key mlL_22 ⟨rfl, rfl⟩ dL_law_816 rfl ?_
              refine V.iadd hC dL_law_819 ?_
              refine V.ialdLN hC (10 + ix (lKey M1 q (nI k))) hq (dk_addN rfl (nI_ix hkb.1)) (by have := ix_toInt hkb.1; omega) dL_law_820 ?_
              refine V.callS3i hC (c_L_mix) mwL_mix mlL_26 ⟨rfl, rfl⟩ dL_law_821 rfl ?_
              refine V.iastLN hC (k) hd (rfl) (by omega) dL_law_824 ?_
              refine V.eqM (M' := dk_put M1 d k (mForm (mFluL (mRec N) k) k)) (by rw [hcc.2]) ?_
              refine V.aload hC dL_law_825 rfl ?_
              refine V.iload hC dL_law_827 rfl ?_
              refine V.bipush hC (-6) dL_law_829 (by decide) ?_
              refine V.iastLN hC (k) hc (rfl) (by omega) dL_law_831 ?_
              have hM2 : ∀ a, a ≠ d → a ≠ c → dk_put (dk_put M1 d k (mForm (mFluL (mRec N) k) k)) c k (-6) a = M a := fun a y1 y2 => by rw [dk_put_ne y2, dk_put_ne y1]; exact hM a y1 y2
              have hr2 : LR (dk_put (dk_put M1 d k (mForm (mFluL (mRec N) k) k)) c k (-6)) q d c w j (mFluL (mRec N) (k + 1) 112) := by rw [hfm]; exact r1.flushp D (hfl k (by omega)) hk0 _
              refine V.iinc hC dL_law_832 rfl (dk_incN _) rfl ?_
              refine V.iinc hC dL_law_835 rfl (dk_incN _) rfl ?_
              refine V.goto hC 758 dL_law_838 (by decide) ?_
              have ih2 := ih_758 (k + 1) _ hM2 hr2 (by omega) (by omega)
              rw [hfn] at ih2
              exact V.sub (dk_sc rfl (dk_sc rfl (dk_sc rfl (dk_sc rfl (dk_sc rfl (dk_sc rfl (dk_sc rfl (dk_sc rfl (dk_sc rfl (dk_sc rfl (dk_sc rfl (dk_sc rfl (dk_sn))))))))))))) ih2
            · refine V.iload hC dL_law_788 rfl ?_
              refine V.aload_n hC dL_law_790 rfl ?_
              refine V.callS1i hC (c_L_behind hq) mwL_behind mlL_34 ⟨rfl, rfl⟩ dL_law_791 rfl ?_
              refine V.icmp_ge hC 800 dL_law_794 (by decide) (fun c_5 => ?_) (fun c_5 => ?_)
              · have hcc : mCan (mFluL (mRec N) k) k = true ∧ lMix (M1 c k) (nI k) (M1 q (10 + ix (lKey M1 q (nI k)))) = mForm (mFluL (mRec N) k) k := by first | exact ca_1 (hfl k (by omega)) r1 hk0 c_2 (eo.trans c_3) | exact ca_2 (hfl k (by omega)) r1 hk0 c_2 (eo.trans c_3) c_4 | exact ca_3 (hfl k (by omega)) r1 hk0 c_2 (eo.trans c_3) c_4 c_5
                obtain ⟨hfn, hfm⟩ := mFlu_1 hcc.1
                refine V.aload_n hC dL_law_800 rfl ?_
                refine V.iload hC dL_law_801 rfl ?_
                refine V.aload hC dL_law_803 rfl ?_
                refine V.iload hC dL_law_805 rfl ?_
                refine V.ialdLN hC (k) hc (rfl) (by omega) dL_law_807 ?_
                refine V.iload hC dL_law_808 rfl ?_
                refine V.aload_n hC dL_law_810 rfl ?_
                refine V.bipush hC 10 dL_law_811 (by decide) ?_
                refine V.iload hC dL_law_813 rfl ?_
                refine V.aload_n hC dL_law_815 rfl ?_
                refine V.callS2i hC (c_L_key hq) mwL_key mlL_22 ⟨rfl, rfl⟩ dL_law_816 rfl ?_
                refine V.iadd hC dL_law_819 ?_
                refine V.ialdLN hC (10 + ix (lKey M1 q (nI k))) hq (dk_addN rfl (nI_ix hkb.1)) (by have := ix_toInt hkb.1; omega) dL_law_820 ?_
                refine V.callS3i hC (c_L_mix) mwL_mix mlL_26 ⟨rfl, rfl⟩ dL_law_821 rfl ?_
                refine V.iastLN hC (k) hd (rfl) (by omega) dL_law_824 ?_
                refine V.eqM (M' := dk_put M1 d k (mForm (mFluL (mRec N) k) k)) (by rw [hcc.2]) ?_
                refine V.aload hC dL_law_825 rfl ?_
                refine V.iload hC dL_law_827 rfl ?_
                refine V.bipush hC (-6) dL_law_829 (by decide) ?_
                refine V.iastLN hC (k) hc (rfl) (by omega) dL_law_831 ?_
                have hM2 : ∀ a, a ≠ d → a ≠ c → dk_put (dk_put M1 d k (mForm (mFluL (mRec N) k) k)) c k (-6) a = M a := fun a y1 y2 => by rw [dk_put_ne y2, dk_put_ne y1]; exact hM a y1 y2
                have hr2 : LR (dk_put (dk_put M1 d k (mForm (mFluL (mRec N) k) k)) c k (-6)) q d c w j (mFluL (mRec N) (k + 1) 112) := by rw [hfm]; exact r1.flushp D (hfl k (by omega)) hk0 _
                refine V.iinc hC dL_law_832 rfl (dk_incN _) rfl ?_
                refine V.iinc hC dL_law_835 rfl (dk_incN _) rfl ?_
                refine V.goto hC 758 dL_law_838 (by decide) ?_
                have ih2 := ih_758 (k + 1) _ hM2 hr2 (by omega) (by omega)
                rw [hfn] at ih2
                exact V.sub (dk_sc rfl (dk_sc rfl (dk_sc rfl (dk_sc rfl (dk_sc rfl (dk_sc rfl (dk_sc rfl (dk_sc rfl (dk_sc rfl (dk_sc rfl (dk_sc rfl (dk_sc rfl (dk_sn))))))))))))) ih2
              · obtain ⟨hfn, hfm⟩ := mFlu_0 (ca_4 (hfl k (by omega)) r1 hk0 c_2 (eo.trans c_3) c_4 c_5)
                have hM2 := hM
                have hr2 : LR M1 q d c w j (mFluL (mRec N) (k + 1) 112) := by rw [hfm]; exact r1
                refine V.goto hC 835 dL_law_797 (by decide) ?_
                refine V.iinc hC dL_law_835 rfl (dk_incN _) rfl ?_
                refine V.goto hC 758 dL_law_838 (by decide) ?_
                have ih2 := ih_758 (k + 1) _ hM2 hr2 (by omega) (by omega)
                rw [hfn] at ih2
                exact V.sub (dk_sc rfl (dk_sc rfl (dk_sc rfl (dk_sc rfl (dk_sc rfl (dk_sc rfl (dk_sc rfl (dk_sc rfl (dk_sc rfl (dk_sc rfl (dk_sc rfl (dk_sc rfl (dk_sn))))))))))))) ih2
  refine V.iconst hC 0 dL_law_752 (by decide) ?_
  refine V.istore hC dL_law_753 rfl rfl ?_
  refine V.iconst hC 0 dL_law_755 (by decide) ?_
  refine V.istore hC dL_law_756 rfl rfl ?_
  exact V.sub (dk_sc rfl (dk_sc rfl (dk_sc rfl (dk_sc rfl (dk_sc rfl (dk_sc rfl (dk_sc rfl (dk_sc rfl (dk_sc rfl (dk_sc rfl (dk_sc rfl (dk_sc rfl (dk_sn))))))))))))) (loop_758 (ix (N 112 0) + 1) 0 M (fun _ _ _ => rfl) (by show LR M q d c w j (mRec N 112); rw [mRec_st]; exact r) (Nat.zero_le _) (by omega))
