set_option maxHeartbeats 2000000 in
set_option maxRecDepth 20000 in
theorem c_X5_within {l : Launch} {G : dkG}  {M : dkM} {v : Int32} {a : Int32} {b : Int32}  : dk_Con l yX5_within cX5_within 3 (some .boolean) 0 0 G [.int v, .int a, .int b] M (some (.int (bI (mWithin v a b))), M) := by
  refine dk_Con.of mwX5_within.1 (Nat.le_of_ble_eq_true rfl) (fun E hE hC => ?_)
  subst hE
  refine V.iload_n hC dX5_within_0 rfl ?_
  refine V.iload_n hC dX5_within_1 rfl ?_
  refine V.icmp_lt hC 14 dX5_within_2 (by decide) (fun c_1 => ?_) (fun c_1 => ?_)
  · refine V.iconst hC 0 dX5_within_14 (by decide) ?_
    exact V.zret hC (by first | (simp [mWithin, bI, c_1, dk_lt1 c_1]; done) | (simp_all [mWithin, bI]; done)) (by decide) dX5_within_15
  · refine V.iload_n hC dX5_within_5 rfl ?_
    refine V.iload_n hC dX5_within_6 rfl ?_
    refine V.icmp_gt hC 14 dX5_within_7 (by decide) (fun c_2 => ?_) (fun c_2 => ?_)
    · refine V.iconst hC 0 dX5_within_14 (by decide) ?_
      exact V.zret hC (by first | (simp [mWithin, bI, c_1, dk_nlt c_1, c_2, dk_lt1 c_2]; done) | (simp_all [mWithin, bI]; done)) (by decide) dX5_within_15
    · refine V.iconst hC 1 dX5_within_10 (by decide) ?_
      refine V.goto hC 15 dX5_within_11 (by decide) ?_
      exact V.zret hC (by first | (simp [mWithin, bI, c_1, dk_nlt c_1, c_2, dk_nlt c_2]; done) | (simp_all [mWithin, bI]; done)) (by decide) dX5_within_15
set_option maxHeartbeats 2000000 in
set_option maxRecDepth 20000 in
theorem c_X5_scramble {l : Launch} {G : dkG}  {M : dkM} {v : Int32} {s : Int32} {c : Int32}  : dk_Con l yX5_scramble cX5_scramble 3 (some .int) 0 0 G [.int v, .int s, .int c] M (some (.int (mScr v s c)), M) := by
  refine dk_Con.of mwX5_scramble.1 (Nat.le_of_ble_eq_true rfl) (fun E hE hC => ?_)
  subst hE
  refine V.iload_n hC dX5_scramble_0 rfl ?_
  refine V.ldc hC klX5_40 dX5_scramble_1 ?_
  refine V.iload_n hC dX5_scramble_3 rfl ?_
  refine V.imul hC dX5_scramble_4 ?_
  refine V.sipush hC 30011 dX5_scramble_5 (by decide) ?_
  refine V.iload_n hC dX5_scramble_8 rfl ?_
  refine V.imul hC dX5_scramble_9 ?_
  refine V.iadd hC dX5_scramble_10 ?_
  refine V.sipush hC 12345 dX5_scramble_11 (by decide) ?_
  refine V.iadd hC dX5_scramble_14 ?_
  refine V.ldc hC klX5_41 dX5_scramble_15 ?_
  refine V.iand hC dX5_scramble_17 ?_
  refine V.ixor hC dX5_scramble_18 ?_
  exact V.iret hC (rfl) dX5_scramble_19
set_option maxHeartbeats 2000000 in
set_option maxRecDepth 20000 in
theorem c_X5_copies {l : Launch} {G : dkG}  {M : dkM} {oa la ob lb : Nat} (ha : G.2.1 oa) (hka : dk_kd oa = 6) (hla : dk_al oa = la) (hb : G.2.1 ob) (hkb : dk_kd ob = 6) (hlb : dk_al ob = lb) (hne : oa ≠ ob) (p q : Nat) (hp : p + 367 ≤ la ∧ la < 100000) (hq : q + 367 ≤ lb ∧ lb < 100000) : dk_Con l yX5_copies cX5_copies 5 none 0 0 G [.ref (G.1 + oa), .int (nI p), .ref (G.1 + ob), .int (nI q)] M (none, mCopy M oa p ob q 367) := by
  refine dk_Con.of mwX5_copies.1 (Nat.le_of_ble_eq_true rfl) (fun E hE hC => ?_)
  subst hE
  have loop_3 : ∀ (n : Nat) (k : Nat), (k ≤ 367) → (367 < k + n) →  V E G 5 (none, mCopy M oa p ob q 367) (mCopy M oa p ob q k) 3 [(0, some (.ref (G.1 + oa))), (1, some (.int (nI p))), (2, some (.ref (G.1 + ob))), (3, some (.int (nI q))), (4, some (.int (nI k)))] [] := by
    intro n
    induction n with
    | zero => intro k hk hn; exact absurd hn (by omega)
    | succ n ih_3 =>
      intro k hk hn
      refine V.iload hC dX5_copies_3 rfl ?_
      refine V.sipush hC 367 dX5_copies_5 (by decide) ?_
      refine V.icmp_ge hC 29 dX5_copies_8 (by decide) (fun c_1 => ?_) (fun c_1 => ?_)
      · have hke : k = 367 := by have hc := c_1; have := (dk_gek (k := k) (x := nI 367) (by omega)).mp hc; rw [ix_nI (by omega)] at this; omega
        exact V.vret hC (by rw [hke]) dX5_copies_29
      · have hkl : k < 367 := by have hc := c_1; have := mt (dk_gek (k := k) (x := nI 367) (by omega)).mpr hc; rw [ix_nI (by omega)] at this; omega
        refine V.aload_n hC dX5_copies_11 rfl ?_
        refine V.iload_n hC dX5_copies_12 rfl ?_
        refine V.iload hC dX5_copies_13 rfl ?_
        refine V.iadd hC dX5_copies_15 ?_
        refine V.aload_n hC dX5_copies_16 rfl ?_
        refine V.iload_n hC dX5_copies_17 rfl ?_
        refine V.iload hC dX5_copies_18 rfl ?_
        refine V.iadd hC dX5_copies_20 ?_
        refine V.ialdN hC (p + k) ha hka hla (dk_addN (rfl) (rfl)) (by omega) dX5_copies_21 ?_
        refine V.iastN hC (q + k) hb hkb hlb (dk_addN (rfl) (rfl)) (by omega) dX5_copies_22 ?_
        refine V.iinc hC dX5_copies_23 rfl (dk_incN _) rfl ?_
        refine V.goto hC 3 dX5_copies_26 (by decide) ?_
        refine V.eqM (mCopy_s M hne) ?_
        exact V.sub (dk_sc rfl (dk_sc rfl (dk_sc rfl (dk_sc rfl (dk_sc rfl (dk_sn)))))) (ih_3 (k + 1) (by omega) (by omega))
  refine V.iconst hC 0 dX5_copies_0 (by decide) ?_
  refine V.istore hC dX5_copies_1 rfl rfl ?_
  refine V.eqM ((mCopy_0 M oa p ob q).symm) ?_
  exact V.sub (dk_sc rfl (dk_sc rfl (dk_sc rfl (dk_sc rfl (dk_sc rfl (dk_sn)))))) (loop_3 368 0 (Nat.zero_le _) (by omega))
set_option maxHeartbeats 2000000 in
set_option maxRecDepth 20000 in
theorem c_X5_record {l : Launch} {G : dkG}  {M : dkM} (hG : dk_mdl G) (hR : rI M) : dk_Con l yX5_record cX5_record 2 none 1 24 G [.ref (G.1 + 111)] M (none, mRec M) := by
  refine dk_Con.of mwX5_record.1 (Nat.le_of_ble_eq_true rfl) (fun E hE hC => ?_)
  subst hE
  have hb := mRec1_b hR
  have loop_11 : ∀ (n : Nat) (k : Nat), (M 111 4 = 6) → (k ≤ 1835) → (1835 < k + n) →  V E G 2 (none, mRec M) (mShift M k) 11 [(0, some (.ref (G.1 + 111))), (1, some (.int (nI k)))] [] := by
    intro n
    induction n with
    | zero => intro k h6 hk hn; exact absurd hn (by omega)
    | succ n ih_11 =>
      intro k h6 hk hn
      refine V.iload_n hC dX5_record_11 rfl ?_
      refine V.sipush hC 1835 dX5_record_12 (by decide) ?_
      refine V.icmp_ge hC 40 dX5_record_15 (by decide) (fun c_1 => ?_) (fun c_1 => ?_)
      · have hke : k = 1835 := by have hc := c_1; have := (dk_gek (k := k) (x := nI 1835) (by omega)).mp hc; rw [ix_nI (by omega)] at this; omega
        refine V.aload_n hC dX5_record_40 rfl ?_
        refine V.dup hC dX5_record_41 rfl ?_
        refine gfX5_32 hG hC dX5_record_42 ?_
        refine V.iconst hC 1 dX5_record_45 (by decide) ?_
        refine V.isub hC dX5_record_46 ?_
        refine pfX5_32 hG hC dX5_record_47 ?_
        refine V.eqM (M' := mRec1 M) (by unfold mRec1; first | rw [if_neg c_1] | (rw [if_pos h6, hke]; rfl)) ?_
        refine V.aload_n hC dX5_record_50 rfl ?_
        refine gfX5_7 hG hC dX5_record_51 ?_
        refine V.iconst hC 0 dX5_record_54 (by decide) ?_
        refine V.aload_n hC dX5_record_55 rfl ?_
        refine gfX5_19 hG hC dX5_record_56 ?_
        refine V.aload_n hC dX5_record_59 rfl ?_
        refine gfX5_32 hG hC dX5_record_60 ?_
        refine V.sipush hC 367 dX5_record_63 (by decide) ?_
        refine V.imul hC dX5_record_66 ?_
        refine V.top (congrArg Value.int (dk_mulN hb.1 rfl)) ?_
        refine V.callS4v hC (c_X5_copies (hG.at 112 rfl) rfl al112 (hG.at 115 rfl) rfl al115 (by decide) (0) (ix (mRec1 M 111 4) * 367) (by omega) (by omega)) mwX5_copies mlX5_36 ⟨rfl, rfl⟩ dX5_record_67 rfl ?_
        refine V.aload_n hC dX5_record_70 rfl ?_
        refine V.dup hC dX5_record_71 rfl ?_
        refine gfX5_32 hG hC dX5_record_72 ?_
        refine V.iconst hC 1 dX5_record_75 (by decide) ?_
        refine V.iadd hC dX5_record_76 ?_
        refine pfX5_32 hG hC dX5_record_77 ?_
        exact V.vret hC (rfl) dX5_record_80
      · have hkl : k < 1835 := by have hc := c_1; have := mt (dk_gek (k := k) (x := nI 1835) (by omega)).mpr hc; rw [ix_nI (by omega)] at this; omega
        refine V.aload_n hC dX5_record_18 rfl ?_
        refine gfX5_19 hG hC dX5_record_19 ?_
        refine V.iload_n hC dX5_record_22 rfl ?_
        refine V.aload_n hC dX5_record_23 rfl ?_
        refine gfX5_19 hG hC dX5_record_24 ?_
        refine V.iload_n hC dX5_record_27 rfl ?_
        refine V.sipush hC 367 dX5_record_28 (by decide) ?_
        refine V.iadd hC dX5_record_31 ?_
        refine V.ialdN hC (k + 367) (hG.at 115 rfl) rfl al115 (dk_addN (rfl) (rfl)) (by omega) dX5_record_32 ?_
        refine V.iastN hC (k) (hG.at 115 rfl) rfl al115 (rfl) (by omega) dX5_record_33 ?_
        refine V.iinc hC dX5_record_34 rfl (dk_incN _) rfl ?_
        refine V.goto hC 11 dX5_record_37 (by decide) ?_
        refine V.eqM (mShift_s M k) ?_
        exact V.sub (dk_sc rfl (dk_sc rfl (dk_sn))) (ih_11 (k + 1) h6 (by omega) (by omega))
  refine V.aload_n hC dX5_record_0 rfl ?_
  refine gfX5_32 hG hC dX5_record_1 ?_
  refine V.bipush hC 6 dX5_record_4 (by decide) ?_
  refine V.icmp_ne hC 50 dX5_record_6 (by decide) (fun c_1 => ?_) (fun c_1 => ?_)
  · refine V.eqM (M' := mRec1 M) (by unfold mRec1; first | rw [if_neg c_1] | (rw [if_pos h6, hke]; rfl)) ?_
    refine V.aload_n hC dX5_record_50 rfl ?_
    refine gfX5_7 hG hC dX5_record_51 ?_
    refine V.iconst hC 0 dX5_record_54 (by decide) ?_
    refine V.aload_n hC dX5_record_55 rfl ?_
    refine gfX5_19 hG hC dX5_record_56 ?_
    refine V.aload_n hC dX5_record_59 rfl ?_
    refine gfX5_32 hG hC dX5_record_60 ?_
    refine V.sipush hC 367 dX5_record_63 (by decide) ?_
    refine V.imul hC dX5_record_66 ?_
    refine V.top (congrArg Value.int (dk_mulN hb.1 rfl)) ?_
    refine V.callS4v hC (c_X5_copies (hG.at 112 rfl) rfl al112 (hG.at 115 rfl) rfl al115 (by decide) (0) (ix (mRec1 M 111 4) * 367) (by omega) (by omega)) mwX5_copies mlX5_36 ⟨rfl, rfl⟩ dX5_record_67 rfl ?_
    refine V.aload_n hC dX5_record_70 rfl ?_
    refine V.dup hC dX5_record_71 rfl ?_
    refine gfX5_32 hG hC dX5_record_72 ?_
    refine V.iconst hC 1 dX5_record_75 (by decide) ?_
    refine V.iadd hC dX5_record_76 ?_
    refine pfX5_32 hG hC dX5_record_77 ?_
    exact V.vret hC (rfl) dX5_record_80
  · refine V.iconst hC 0 dX5_record_9 (by decide) ?_
    refine V.istore_n hC dX5_record_10 rfl rfl ?_
    refine V.eqM ((mShift_0 M).symm) ?_
    exact V.sub (dk_sc rfl (dk_sc rfl (dk_sn))) (loop_11 1836 0 c_1 (Nat.zero_le _) (by omega))
set_option maxHeartbeats 2000000 in
set_option maxRecDepth 20000 in
theorem c_X5_closes {l : Launch} {G : dkG}  {M : dkM} (hG : dk_mdl G)  : dk_Con l yX5_closes cX5_closes 2 none 0 0 G [.ref (G.1 + 111)] M (none, mClose M) := by
  refine dk_Con.of mwX5_closes.1 (Nat.le_of_ble_eq_true rfl) (fun E hE hC => ?_)
  subst hE
  have loop_17 : ∀ (n : Nat) (k : Nat), (k ≤ 64) → (64 < k + n) →  V E G 2 (none, mClose M) (mClr (dk_put (dk_put M 112 5 0) 112 6 0) k) 17 [(0, some (.ref (G.1 + 111))), (1, some (.int (nI k)))] [] := by
    intro n
    induction n with
    | zero => intro k hk hn; exact absurd hn (by omega)
    | succ n ih_17 =>
      intro k hk hn
      refine V.iload_n hC dX5_closes_17 rfl ?_
      refine V.bipush hC 64 dX5_closes_18 (by decide) ?_
      refine V.icmp_ge hC 41 dX5_closes_20 (by decide) (fun c_1 => ?_) (fun c_1 => ?_)
      · have hke : k = 64 := by have hc := c_1; have := (dk_gek (k := k) (x := nI 64) (by omega)).mp hc; rw [ix_nI (by omega)] at this; omega
        exact V.vret hC (by rw [hke]; rfl) dX5_closes_41
      · have hkl : k < 64 := by have hc := c_1; have := mt (dk_gek (k := k) (x := nI 64) (by omega)).mpr hc; rw [ix_nI (by omega)] at this; omega
        refine V.aload_n hC dX5_closes_23 rfl ?_
        refine gfX5_7 hG hC dX5_closes_24 ?_
        refine V.sipush hC 175 dX5_closes_27 (by decide) ?_
        refine V.iload_n hC dX5_closes_30 rfl ?_
        refine V.iadd hC dX5_closes_31 ?_
        refine V.bipush hC (-6) dX5_closes_32 (by decide) ?_
        refine V.iastN hC (175 + k) (hG.at 112 rfl) rfl al112 (dk_addN (rfl) (rfl)) (by omega) dX5_closes_34 ?_
        refine V.iinc hC dX5_closes_35 rfl (dk_incN _) rfl ?_
        refine V.goto hC 17 dX5_closes_38 (by decide) ?_
        refine V.eqM (mClr_s _ k) ?_
        exact V.sub (dk_sc rfl (dk_sc rfl (dk_sn))) (ih_17 (k + 1) (by omega) (by omega))
  refine V.aload_n hC dX5_closes_0 rfl ?_
  refine gfX5_7 hG hC dX5_closes_1 ?_
  refine V.iconst hC 5 dX5_closes_4 (by decide) ?_
  refine V.iconst hC 0 dX5_closes_5 (by decide) ?_
  refine V.iastN hC (5) (hG.at 112 rfl) rfl al112 (rfl) (by omega) dX5_closes_6 ?_
  refine V.aload_n hC dX5_closes_7 rfl ?_
  refine gfX5_7 hG hC dX5_closes_8 ?_
  refine V.bipush hC 6 dX5_closes_11 (by decide) ?_
  refine V.iconst hC 0 dX5_closes_13 (by decide) ?_
  refine V.iastN hC (6) (hG.at 112 rfl) rfl al112 (rfl) (by omega) dX5_closes_14 ?_
  refine V.iconst hC 0 dX5_closes_15 (by decide) ?_
  refine V.istore_n hC dX5_closes_16 rfl rfl ?_
  refine V.eqM ((mClr_0 _).symm) ?_
  exact V.sub (dk_sc rfl (dk_sc rfl (dk_sn))) (loop_17 65 0 (Nat.zero_le _) (by omega))
set_option maxHeartbeats 2000000 in
set_option maxRecDepth 20000 in
theorem c_X5_ends {l : Launch} {G : dkG}  {M : dkM} (hG : dk_mdl G)  : dk_Con l yX5_ends cX5_ends 1 none 1 21 G [.ref (G.1 + 111)] M (none, mEnds M) := by
  refine dk_Con.of mwX5_ends.1 (Nat.le_of_ble_eq_true rfl) (fun E hE hC => ?_)
  subst hE
  refine V.aload_n hC dX5_ends_0 rfl ?_
  refine gfX5_7 hG hC dX5_ends_1 ?_
  refine V.iconst hC 2 dX5_ends_4 (by decide) ?_
  refine V.bipush hC (-6) dX5_ends_5 (by decide) ?_
  refine V.iastN hC (2) (hG.at 112 rfl) rfl al112 (rfl) (by omega) dX5_ends_7 ?_
  refine V.aload_n hC dX5_ends_8 rfl ?_
  refine gfX5_7 hG hC dX5_ends_9 ?_
  refine V.iconst hC 3 dX5_ends_12 (by decide) ?_
  refine V.bipush hC (-6) dX5_ends_13 (by decide) ?_
  refine V.iastN hC (3) (hG.at 112 rfl) rfl al112 (rfl) (by omega) dX5_ends_15 ?_
  refine V.aload_n hC dX5_ends_16 rfl ?_
  refine gfX5_7 hG hC dX5_ends_17 ?_
  refine V.iconst hC 4 dX5_ends_20 (by decide) ?_
  refine V.bipush hC (-6) dX5_ends_21 (by decide) ?_
  refine V.iastN hC (4) (hG.at 112 rfl) rfl al112 (rfl) (by omega) dX5_ends_23 ?_
  refine V.aload_n hC dX5_ends_24 rfl ?_
  refine V.callV0v hC (c_X5_closes hG) mwX5_closes mlX5_49 (hG.at 111 rfl) rfl rfl ⟨rfl, rfl⟩ dX5_ends_25 rfl ?_
  exact V.vret hC (rfl) dX5_ends_28
set_option maxHeartbeats 2000000 in
set_option maxRecDepth 20000 in
theorem c_X5_formats {l : Launch} {G : dkG}  {M : dkM} (hG : dk_mdl G) {m : Int32} (hown : 1 ≤ (M 112 1).toInt ∧ (M 112 1).toInt ≤ 99) : dk_Con l yX5_formats cX5_formats 3 none 2 41 G [.ref (G.1 + 111), .int m] M (none, mFormats M m) := by
  refine dk_Con.of mwX5_formats.1 (Nat.le_of_ble_eq_true rfl) (fun E hE hC => ?_)
  subst hE
  have how := ix_toInt (x := M 112 1) (by omega)
  have hown2 := nI_ix (x := M 112 1) (by omega)
  have loop_13 : ∀ (n : Nat) (k : Nat), (k ≤ 64) → (64 < k + n) →  V E G 3 (none, mFormats M m) (mfL (mEnds (dk_put M 112 0 m)) m k) 13 [(0, some (.ref (G.1 + 111))), (1, some (.int m)), (2, some (.int (nI k)))] [] := by
    intro n
    induction n with
    | zero => intro k hk hn; exact absurd hn (by omega)
    | succ n ih_13 =>
      intro k hk hn
      have e1 : mfL (mEnds (dk_put M 112 0 m)) m k 112 1 = M 112 1 := by rw [mfL_lo _ _ _ (by decide), mEnds_lo _ (by decide) (by decide) (by decide) (by decide) (by decide) (by decide), put_k (by decide)]
      refine V.iload_n hC dX5_formats_13 rfl ?_
      refine V.bipush hC 64 dX5_formats_14 (by decide) ?_
      refine V.icmp_ge hC 85 dX5_formats_16 (by decide) (fun c_1 => ?_) (fun c_1 => ?_)
      · have hke : k = 64 := by have hc := c_1; have := (dk_gek (k := k) (x := nI 64) (by omega)).mp hc; rw [ix_nI (by omega)] at this; omega
        exact V.vret hC (by rw [hke]; rfl) dX5_formats_85
      · have hkl : k < 64 := by have hc := c_1; have := mt (dk_gek (k := k) (x := nI 64) (by omega)).mpr hc; rw [ix_nI (by omega)] at this; omega
        refine V.aload_n hC dX5_formats_19 rfl ?_
        refine gfX5_7 hG hC dX5_formats_20 ?_
        refine V.bipush hC 111 dX5_formats_23 (by decide) ?_
        refine V.iload_n hC dX5_formats_25 rfl ?_
        refine V.iadd hC dX5_formats_26 ?_
        refine V.iload_n hC dX5_formats_27 rfl ?_
        refine V.iload_n hC dX5_formats_28 rfl ?_
        refine V.icmp_ge hC 54 dX5_formats_29 (by decide) (fun c_2 => ?_) (fun c_2 => ?_)
        · refine V.iconst hC 0 dX5_formats_54 (by decide) ?_
          refine V.iastN hC (111 + k) (hG.at 112 rfl) rfl al112 (dk_addN (rfl) (rfl)) (by omega) dX5_formats_55 ?_
          refine V.aload_n hC dX5_formats_56 rfl ?_
          refine gfX5_7 hG hC dX5_formats_57 ?_
          refine V.sipush hC 239 dX5_formats_60 (by decide) ?_
          refine V.iload_n hC dX5_formats_63 rfl ?_
          refine V.iadd hC dX5_formats_64 ?_
          refine V.bipush hC (-6) dX5_formats_65 (by decide) ?_
          refine V.iastN hC (239 + k) (hG.at 112 rfl) rfl al112 (dk_addN (rfl) (rfl)) (by omega) dX5_formats_67 ?_
          refine V.aload_n hC dX5_formats_68 rfl ?_
          refine gfX5_7 hG hC dX5_formats_69 ?_
          refine V.sipush hC 303 dX5_formats_72 (by decide) ?_
          refine V.iload_n hC dX5_formats_75 rfl ?_
          refine V.iadd hC dX5_formats_76 ?_
          refine V.iconst hC 0 dX5_formats_77 (by decide) ?_
          refine V.iastN hC (303 + k) (hG.at 112 rfl) rfl al112 (dk_addN (rfl) (rfl)) (by omega) dX5_formats_78 ?_
          refine V.iinc hC dX5_formats_79 rfl (dk_incN _) rfl ?_
          refine V.goto hC 13 dX5_formats_82 (by decide) ?_
          refine V.eqM (show _ = mfL (mEnds (dk_put M 112 0 m)) m (k + 1) from by first | rw [mfL, if_pos c_2] | rw [mfL, if_neg c_2]) ?_
          exact V.sub (dk_sc rfl (dk_sc rfl (dk_sc rfl (dk_sn)))) (ih_13 (k + 1) (by omega) (by omega))
        · refine V.iconst hC 0 dX5_formats_32 (by decide) ?_
          refine V.iload_n hC dX5_formats_33 rfl ?_
          refine V.aload_n hC dX5_formats_34 rfl ?_
          refine gfX5_7 hG hC dX5_formats_35 ?_
          refine V.bipush hC 11 dX5_formats_38 (by decide) ?_
          refine V.aload_n hC dX5_formats_40 rfl ?_
          refine gfX5_7 hG hC dX5_formats_41 ?_
          refine V.iconst hC 1 dX5_formats_44 (by decide) ?_
          refine V.ialdN hC (1) (hG.at 112 rfl) rfl al112 (rfl) (by omega) dX5_formats_45 ?_
          refine V.iadd hC dX5_formats_46 ?_
          refine V.ialdN hC (11 + ix (mfL (mEnds (dk_put M 112 0 m)) m k 112 1)) (hG.at 112 rfl) rfl al112 (by rw [e1]; exact dk_addN rfl hown2) (by rw [e1]; omega) dX5_formats_47 ?_
          refine V.callS3i hC (c_X5_scramble) mwX5_scramble mlX5_45 ⟨rfl, rfl⟩ dX5_formats_48 rfl ?_
          refine V.goto hC 55 dX5_formats_51 (by decide) ?_
          refine V.iastN hC (111 + k) (hG.at 112 rfl) rfl al112 (dk_addN (rfl) (rfl)) (by omega) dX5_formats_55 ?_
          refine V.aload_n hC dX5_formats_56 rfl ?_
          refine gfX5_7 hG hC dX5_formats_57 ?_
          refine V.sipush hC 239 dX5_formats_60 (by decide) ?_
          refine V.iload_n hC dX5_formats_63 rfl ?_
          refine V.iadd hC dX5_formats_64 ?_
          refine V.bipush hC (-6) dX5_formats_65 (by decide) ?_
          refine V.iastN hC (239 + k) (hG.at 112 rfl) rfl al112 (dk_addN (rfl) (rfl)) (by omega) dX5_formats_67 ?_
          refine V.aload_n hC dX5_formats_68 rfl ?_
          refine gfX5_7 hG hC dX5_formats_69 ?_
          refine V.sipush hC 303 dX5_formats_72 (by decide) ?_
          refine V.iload_n hC dX5_formats_75 rfl ?_
          refine V.iadd hC dX5_formats_76 ?_
          refine V.iconst hC 0 dX5_formats_77 (by decide) ?_
          refine V.iastN hC (303 + k) (hG.at 112 rfl) rfl al112 (dk_addN (rfl) (rfl)) (by omega) dX5_formats_78 ?_
          refine V.iinc hC dX5_formats_79 rfl (dk_incN _) rfl ?_
          refine V.goto hC 13 dX5_formats_82 (by decide) ?_
          refine V.eqM (show _ = mfL (mEnds (dk_put M 112 0 m)) m (k + 1) from by first | rw [mfL, if_pos c_2] | rw [mfL, if_neg c_2]) ?_
          exact V.sub (dk_sc rfl (dk_sc rfl (dk_sc rfl (dk_sn)))) (ih_13 (k + 1) (by omega) (by omega))
  refine V.aload_n hC dX5_formats_0 rfl ?_
  refine gfX5_7 hG hC dX5_formats_1 ?_
  refine V.iconst hC 0 dX5_formats_4 (by decide) ?_
  refine V.iload_n hC dX5_formats_5 rfl ?_
  refine V.iastN hC (0) (hG.at 112 rfl) rfl al112 (rfl) (by omega) dX5_formats_6 ?_
  refine V.aload_n hC dX5_formats_7 rfl ?_
  refine V.callV0v hC (c_X5_ends hG) mwX5_ends mlX5_42 (hG.at 111 rfl) rfl rfl ⟨rfl, rfl⟩ dX5_formats_8 rfl ?_
  refine V.iconst hC 0 dX5_formats_11 (by decide) ?_
  refine V.istore_n hC dX5_formats_12 rfl rfl ?_
  exact V.sub (dk_sc rfl (dk_sc rfl (dk_sc rfl (dk_sn)))) (loop_13 65 0 (Nat.zero_le _) (by omega))
set_option maxHeartbeats 2000000 in
set_option maxRecDepth 20000 in
theorem c_X5_isRekeying {l : Launch} {G : dkG}  {M : dkM} (hG : dk_mdl G)  : dk_Con l yX5_isRekeying cX5_isRekeying 1 (some .boolean) 0 0 G [.ref (G.1 + 111)] M (some (.int (bI (mRek M))), M) := by
  refine dk_Con.of mwX5_isRekeying.1 (Nat.le_of_ble_eq_true rfl) (fun E hE hC => ?_)
  subst hE
  refine V.aload_n hC dX5_isRekeying_0 rfl ?_
  refine gfX5_7 hG hC dX5_isRekeying_1 ?_
  refine V.iconst hC 2 dX5_isRekeying_4 (by decide) ?_
  refine V.ialdN hC (2) (hG.at 112 rfl) rfl al112 (rfl) (by omega) dX5_isRekeying_5 ?_
  refine V.bipush hC (-6) dX5_isRekeying_6 (by decide) ?_
  refine V.icmp_eq hC 15 dX5_isRekeying_8 (by decide) (fun c_1 => ?_) (fun c_1 => ?_)
  · refine V.iconst hC 0 dX5_isRekeying_15 (by decide) ?_
    exact V.zret hC (by first | (simp [mRek, bI, c_1]; done) | (simp_all [mRek, bI]; done)) (by decide) dX5_isRekeying_16
  · refine V.iconst hC 1 dX5_isRekeying_11 (by decide) ?_
    refine V.goto hC 16 dX5_isRekeying_12 (by decide) ?_
    exact V.zret hC (by first | (simp [mRek, bI, c_1]; done) | (simp_all [mRek, bI]; done)) (by decide) dX5_isRekeying_16
set_option maxHeartbeats 2000000 in
set_option maxRecDepth 20000 in
theorem c_X5_isOpen {l : Launch} {G : dkG}  {M : dkM} (hG : dk_mdl G)  : dk_Con l yX5_isOpen cX5_isOpen 1 (some .boolean) 0 0 G [.ref (G.1 + 111)] M (some (.int (bI (mOpen M))), M) := by
  refine dk_Con.of mwX5_isOpen.1 (Nat.le_of_ble_eq_true rfl) (fun E hE hC => ?_)
  subst hE
  refine V.aload_n hC dX5_isOpen_0 rfl ?_
  refine gfX5_7 hG hC dX5_isOpen_1 ?_
  refine V.iconst hC 5 dX5_isOpen_4 (by decide) ?_
  refine V.ialdN hC (5) (hG.at 112 rfl) rfl al112 (rfl) (by omega) dX5_isOpen_5 ?_
  refine V.if_gt hC 19 dX5_isOpen_6 (by decide) (fun c_1 => ?_) (fun c_1 => ?_)
  · refine V.iconst hC 1 dX5_isOpen_19 (by decide) ?_
    refine V.goto hC 24 dX5_isOpen_20 (by decide) ?_
    exact V.zret hC (by first | (simp [mOpen, bI, c_1, dk_lt1 c_1]; done) | (simp_all [mOpen, bI]; done)) (by decide) dX5_isOpen_24
  · refine V.aload_n hC dX5_isOpen_9 rfl ?_
    refine gfX5_7 hG hC dX5_isOpen_10 ?_
    refine V.bipush hC 6 dX5_isOpen_13 (by decide) ?_
    refine V.ialdN hC (6) (hG.at 112 rfl) rfl al112 (rfl) (by omega) dX5_isOpen_15 ?_
    refine V.if_le hC 23 dX5_isOpen_16 (by decide) (fun c_2 => ?_) (fun c_2 => ?_)
    · refine V.iconst hC 0 dX5_isOpen_23 (by decide) ?_
      exact V.zret hC (by first | (simp [mOpen, bI, c_1, dk_nlt c_1, c_2, dk_le1 c_2]; done) | (simp_all [mOpen, bI]; done)) (by decide) dX5_isOpen_24
    · refine V.iconst hC 1 dX5_isOpen_19 (by decide) ?_
      refine V.goto hC 24 dX5_isOpen_20 (by decide) ?_
      exact V.zret hC (by first | (simp [mOpen, bI, c_1, dk_nlt c_1, c_2, dk_nle c_2]; done) | (simp_all [mOpen, bI]; done)) (by decide) dX5_isOpen_24
set_option maxHeartbeats 2000000 in
set_option maxRecDepth 20000 in
theorem c_X5_isSector {l : Launch} {G : dkG}  {M : dkM} (hG : dk_mdl G) {s : Int32}  : dk_Con l yX5_isSector cX5_isSector 2 (some .boolean) 1 22 G [.ref (G.1 + 111), .int s] M (some (.int (bI (mSec M s))), M) := by
  refine dk_Con.of mwX5_isSector.1 (Nat.le_of_ble_eq_true rfl) (fun E hE hC => ?_)
  subst hE
  refine V.iload_n hC dX5_isSector_0 rfl ?_
  refine V.iconst hC 0 dX5_isSector_1 (by decide) ?_
  refine V.aload_n hC dX5_isSector_2 rfl ?_
  refine gfX5_7 hG hC dX5_isSector_3 ?_
  refine V.iconst hC 0 dX5_isSector_6 (by decide) ?_
  refine V.ialdN hC (0) (hG.at 112 rfl) rfl al112 (rfl) (by omega) dX5_isSector_7 ?_
  refine V.iconst hC 1 dX5_isSector_8 (by decide) ?_
  refine V.isub hC dX5_isSector_9 ?_
  refine V.callS3i hC (c_X5_within) mwX5_within mlX5_52 ⟨rfl, rfl⟩ dX5_isSector_10 rfl ?_
  exact V.zret hC (rfl) (bI_01 _) dX5_isSector_13
set_option maxHeartbeats 2000000 in
set_option maxRecDepth 20000 in
theorem c_X5_isKey {l : Launch} {G : dkG}  {M : dkM} (hG : dk_mdl G) {k : Int32}  : dk_Con l yX5_isKey cX5_isKey 2 (some .boolean) 1 22 G [.ref (G.1 + 111), .int k] M (some (.int (bI (mIsKey M k))), M) := by
  refine dk_Con.of mwX5_isKey.1 (Nat.le_of_ble_eq_true rfl) (fun E hE hC => ?_)
  subst hE
  refine V.iload_n hC dX5_isKey_0 rfl ?_
  refine V.iconst hC 1 dX5_isKey_1 (by decide) ?_
  refine V.bipush hC 99 dX5_isKey_2 (by decide) ?_
  refine V.callS3i hC (c_X5_within) mwX5_within mlX5_52 ⟨rfl, rfl⟩ dX5_isKey_4 rfl ?_
  refine V.if_eqB hC 28 dX5_isKey_7 (by decide) (fun c_1 => ?_) (fun c_1 => ?_)
  · refine V.iconst hC 0 dX5_isKey_28 (by decide) ?_
    exact V.zret hC (by first | (simp [mIsKey, bI, c_1]; done) | (simp_all [mIsKey, bI]; done)) (by decide) dX5_isKey_29
  · refine V.aload_n hC dX5_isKey_10 rfl ?_
    refine gfX5_7 hG hC dX5_isKey_11 ?_
    refine V.bipush hC 11 dX5_isKey_14 (by decide) ?_
    refine V.iload_n hC dX5_isKey_16 rfl ?_
    refine V.iadd hC dX5_isKey_17 ?_
    refine V.ialdN hC (11 + ix k) (hG.at 112 rfl) rfl al112 (dk_addN rfl (mW_k c_1).1) (by have := (mW_k c_1).2; omega) dX5_isKey_18 ?_
    refine V.bipush hC (-6) dX5_isKey_19 (by decide) ?_
    refine V.icmp_eq hC 28 dX5_isKey_21 (by decide) (fun c_2 => ?_) (fun c_2 => ?_)
    · refine V.iconst hC 0 dX5_isKey_28 (by decide) ?_
      exact V.zret hC (by first | (simp [mIsKey, bI, c_1, c_2]; done) | (simp_all [mIsKey, bI]; done)) (by decide) dX5_isKey_29
    · refine V.iconst hC 1 dX5_isKey_24 (by decide) ?_
      refine V.goto hC 29 dX5_isKey_25 (by decide) ?_
      exact V.zret hC (by first | (simp [mIsKey, bI, c_1, c_2]; done) | (simp_all [mIsKey, bI]; done)) (by decide) dX5_isKey_29
set_option maxHeartbeats 2000000 in
set_option maxRecDepth 20000 in
theorem c_X5_keysMany {l : Launch} {G : dkG}  {M : dkM} (hG : dk_mdl G)  : dk_Con l yX5_keysMany cX5_keysMany 3 (some .int) 0 0 G [.ref (G.1 + 111)] M (some (.int (nI (mKeys M 99))), M) := by
  refine dk_Con.of mwX5_keysMany.1 (Nat.le_of_ble_eq_true rfl) (fun E hE hC => ?_)
  subst hE
  have loop_4 : ∀ (n : Nat) (k : Nat), (k ≤ 99) → (99 < k + n) →  V E G 3 (some (.int (nI (mKeys M 99))), M) (M) 4 [(0, some (.ref (G.1 + 111))), (1, some (.int (nI (mKeys M k)))), (2, some (.int (nI (k + 1))))] [] := by
    intro n
    induction n with
    | zero => intro k hk hn; exact absurd hn (by omega)
    | succ n ih_4 =>
      intro k hk hn
      refine V.iload_n hC dX5_keysMany_4 rfl ?_
      refine V.bipush hC 100 dX5_keysMany_5 (by decide) ?_
      refine V.icmp_ge hC 38 dX5_keysMany_7 (by decide) (fun c_1 => ?_) (fun c_1 => ?_)
      · have hke : k = 99 := by have := (dk_gek (k := k + 1) (x := nI 100) (by omega)).mp c_1; rw [ix_nI (by omega)] at this; omega
        refine V.iload_n hC dX5_keysMany_38 rfl ?_
        exact V.iret hC (by rw [hke]) dX5_keysMany_39
      · have hkl : k < 99 := by have := mt (dk_gek (k := k + 1) (x := nI 100) (by omega)).mpr c_1; rw [ix_nI (by omega)] at this; omega
        refine V.iload_n hC dX5_keysMany_10 rfl ?_
        refine V.aload_n hC dX5_keysMany_11 rfl ?_
        refine gfX5_7 hG hC dX5_keysMany_12 ?_
        refine V.bipush hC 11 dX5_keysMany_15 (by decide) ?_
        refine V.iload_n hC dX5_keysMany_17 rfl ?_
        refine V.iadd hC dX5_keysMany_18 ?_
        refine V.ialdN hC ((11) + (k + 1)) (hG.at 112 rfl) rfl al112 (dk_addN (rfl) (rfl)) (by omega) dX5_keysMany_19 ?_
        refine V.bipush hC (-6) dX5_keysMany_20 (by decide) ?_
        refine V.icmp_ne hC 29 dX5_keysMany_22 (by decide) (fun c_2 => ?_) (fun c_2 => ?_)
        · refine V.iconst hC 1 dX5_keysMany_29 (by decide) ?_
          refine V.iadd hC dX5_keysMany_30 ?_
          refine V.istore_n hC dX5_keysMany_31 rfl rfl ?_
          refine V.iinc hC dX5_keysMany_32 rfl (dk_incN _) rfl ?_
          refine V.goto hC 4 dX5_keysMany_35 (by decide) ?_
          refine V.sub ?_ (ih_4 (k + 1) (by omega) (by omega))
          exact dk_sc rfl (dk_sc (cntA (p := fun k => M 112 (11 + (k + 1)) != -6) (by simp [c_2])) (dk_sc rfl (dk_sn)))
        · refine V.iconst hC 0 dX5_keysMany_25 (by decide) ?_
          refine V.goto hC 30 dX5_keysMany_26 (by decide) ?_
          refine V.iadd hC dX5_keysMany_30 ?_
          refine V.istore_n hC dX5_keysMany_31 rfl rfl ?_
          refine V.iinc hC dX5_keysMany_32 rfl (dk_incN _) rfl ?_
          refine V.goto hC 4 dX5_keysMany_35 (by decide) ?_
          refine V.sub ?_ (ih_4 (k + 1) (by omega) (by omega))
          exact dk_sc rfl (dk_sc (cntA (p := fun k => M 112 (11 + (k + 1)) != -6) (by simp [c_2])) (dk_sc rfl (dk_sn)))
  refine V.iconst hC 0 dX5_keysMany_0 (by decide) ?_
  refine V.istore_n hC dX5_keysMany_1 rfl rfl ?_
  refine V.iconst hC 1 dX5_keysMany_2 (by decide) ?_
  refine V.istore_n hC dX5_keysMany_3 rfl rfl ?_
  exact V.sub (dk_sc rfl (dk_sc rfl (dk_sc rfl (dk_sn)))) (loop_4 100 0 (Nat.zero_le _) (by omega))
set_option maxHeartbeats 2000000 in
set_option maxRecDepth 20000 in
theorem c_X5_zoneFrom {l : Launch} {G : dkG}  {M : dkM} (hG : dk_mdl G)  : dk_Con l yX5_zoneFrom cX5_zoneFrom 2 (some .int) 0 0 G [.ref (G.1 + 111)] M (some (.int (mFrom M)), M) := by
  refine dk_Con.of mwX5_zoneFrom.1 (Nat.le_of_ble_eq_true rfl) (fun E hE hC => ?_)
  subst hE
  refine V.aload_n hC dX5_zoneFrom_0 rfl ?_
  refine gfX5_7 hG hC dX5_zoneFrom_1 ?_
  refine V.iconst hC 3 dX5_zoneFrom_4 (by decide) ?_
  refine V.ialdN hC (3) (hG.at 112 rfl) rfl al112 (rfl) (by omega) dX5_zoneFrom_5 ?_
  refine V.aload_n hC dX5_zoneFrom_6 rfl ?_
  refine gfX5_7 hG hC dX5_zoneFrom_7 ?_
  refine V.bipush hC 7 dX5_zoneFrom_10 (by decide) ?_
  refine V.ialdN hC (7) (hG.at 112 rfl) rfl al112 (rfl) (by omega) dX5_zoneFrom_12 ?_
  refine V.isub hC dX5_zoneFrom_13 ?_
  refine V.istore_n hC dX5_zoneFrom_14 rfl rfl ?_
  refine V.aload_n hC dX5_zoneFrom_15 rfl ?_
  refine gfX5_7 hG hC dX5_zoneFrom_16 ?_
  refine V.iconst hC 4 dX5_zoneFrom_19 (by decide) ?_
  refine V.ialdN hC (4) (hG.at 112 rfl) rfl al112 (rfl) (by omega) dX5_zoneFrom_20 ?_
  refine V.iconst hC 1 dX5_zoneFrom_21 (by decide) ?_
  refine V.icmp_ne hC 34 dX5_zoneFrom_22 (by decide) (fun c_1 => ?_) (fun c_1 => ?_)
  · refine V.iload_n hC dX5_zoneFrom_34 rfl ?_
    refine V.if_ge hC 42 dX5_zoneFrom_35 (by decide) (fun c_2 => ?_) (fun c_2 => ?_)
    · refine V.iload_n hC dX5_zoneFrom_42 rfl ?_
      exact V.iret hC (by first | (simp [mFrom, c_1, c_2, dk_le1 c_2]; done) | (simp_all [mFrom]; done)) dX5_zoneFrom_43
    · refine V.iconst hC 0 dX5_zoneFrom_38 (by decide) ?_
      refine V.goto hC 43 dX5_zoneFrom_39 (by decide) ?_
      exact V.iret hC (by first | (simp [mFrom, c_1, c_2, dk_nle c_2]; done) | (simp_all [mFrom]; done)) dX5_zoneFrom_43
  · refine V.aload_n hC dX5_zoneFrom_25 rfl ?_
    refine gfX5_7 hG hC dX5_zoneFrom_26 ?_
    refine V.iconst hC 3 dX5_zoneFrom_29 (by decide) ?_
    refine V.ialdN hC (3) (hG.at 112 rfl) rfl al112 (rfl) (by omega) dX5_zoneFrom_30 ?_
    refine V.goto hC 43 dX5_zoneFrom_31 (by decide) ?_
    exact V.iret hC (by first | (simp [mFrom, c_1]; done) | (simp_all [mFrom]; done)) dX5_zoneFrom_43
set_option maxHeartbeats 2000000 in
set_option maxRecDepth 20000 in
theorem c_X5_zoneTo {l : Launch} {G : dkG}  {M : dkM} (hG : dk_mdl G)  : dk_Con l yX5_zoneTo cX5_zoneTo 2 (some .int) 0 0 G [.ref (G.1 + 111)] M (some (.int (mTo M)), M) := by
  refine dk_Con.of mwX5_zoneTo.1 (Nat.le_of_ble_eq_true rfl) (fun E hE hC => ?_)
  subst hE
  refine V.aload_n hC dX5_zoneTo_0 rfl ?_
  refine gfX5_7 hG hC dX5_zoneTo_1 ?_
  refine V.iconst hC 3 dX5_zoneTo_4 (by decide) ?_
  refine V.ialdN hC (3) (hG.at 112 rfl) rfl al112 (rfl) (by omega) dX5_zoneTo_5 ?_
  refine V.aload_n hC dX5_zoneTo_6 rfl ?_
  refine gfX5_7 hG hC dX5_zoneTo_7 ?_
  refine V.bipush hC 7 dX5_zoneTo_10 (by decide) ?_
  refine V.ialdN hC (7) (hG.at 112 rfl) rfl al112 (rfl) (by omega) dX5_zoneTo_12 ?_
  refine V.iadd hC dX5_zoneTo_13 ?_
  refine V.istore_n hC dX5_zoneTo_14 rfl rfl ?_
  refine V.aload_n hC dX5_zoneTo_15 rfl ?_
  refine gfX5_7 hG hC dX5_zoneTo_16 ?_
  refine V.iconst hC 4 dX5_zoneTo_19 (by decide) ?_
  refine V.ialdN hC (4) (hG.at 112 rfl) rfl al112 (rfl) (by omega) dX5_zoneTo_20 ?_
  refine V.if_ne hC 33 dX5_zoneTo_21 (by decide) (fun c_1 => ?_) (fun c_1 => ?_)
  · refine V.iload_n hC dX5_zoneTo_33 rfl ?_
    refine V.aload_n hC dX5_zoneTo_34 rfl ?_
    refine gfX5_7 hG hC dX5_zoneTo_35 ?_
    refine V.iconst hC 0 dX5_zoneTo_38 (by decide) ?_
    refine V.ialdN hC (0) (hG.at 112 rfl) rfl al112 (rfl) (by omega) dX5_zoneTo_39 ?_
    refine V.icmp_le hC 52 dX5_zoneTo_40 (by decide) (fun c_2 => ?_) (fun c_2 => ?_)
    · refine V.iload_n hC dX5_zoneTo_52 rfl ?_
      exact V.iret hC (by first | (simp [mTo, c_1, c_2, dk_le1 c_2]; done) | (simp_all [mTo]; done)) dX5_zoneTo_53
    · refine V.aload_n hC dX5_zoneTo_43 rfl ?_
      refine gfX5_7 hG hC dX5_zoneTo_44 ?_
      refine V.iconst hC 0 dX5_zoneTo_47 (by decide) ?_
      refine V.ialdN hC (0) (hG.at 112 rfl) rfl al112 (rfl) (by omega) dX5_zoneTo_48 ?_
      refine V.goto hC 53 dX5_zoneTo_49 (by decide) ?_
      exact V.iret hC (by first | (simp [mTo, c_1, c_2, dk_nle c_2]; done) | (simp_all [mTo]; done)) dX5_zoneTo_53
  · refine V.aload_n hC dX5_zoneTo_24 rfl ?_
    refine gfX5_7 hG hC dX5_zoneTo_25 ?_
    refine V.iconst hC 3 dX5_zoneTo_28 (by decide) ?_
    refine V.ialdN hC (3) (hG.at 112 rfl) rfl al112 (rfl) (by omega) dX5_zoneTo_29 ?_
    refine V.goto hC 53 dX5_zoneTo_30 (by decide) ?_
    exact V.iret hC (by first | (simp [mTo, c_1]; done) | (simp_all [mTo]; done)) dX5_zoneTo_53
set_option maxHeartbeats 2000000 in
set_option maxRecDepth 20000 in
theorem c_X5_isInZone {l : Launch} {G : dkG}  {M : dkM} (hG : dk_mdl G) {s : Int32}  : dk_Con l yX5_isInZone cX5_isInZone 2 (some .boolean) 1 21 G [.ref (G.1 + 111), .int s] M (some (.int (bI (mInZ M s))), M) := by
  refine dk_Con.of mwX5_isInZone.1 (Nat.le_of_ble_eq_true rfl) (fun E hE hC => ?_)
  subst hE
  refine V.aload_n hC dX5_isInZone_0 rfl ?_
  refine V.callV0i hC (c_X5_isRekeying hG) mwX5_isRekeying mlX5_56 (hG.at 111 rfl) rfl rfl ⟨rfl, rfl⟩ dX5_isInZone_1 rfl ?_
  refine V.if_eqB hC 27 dX5_isInZone_4 (by decide) (fun c_1 => ?_) (fun c_1 => ?_)
  · refine V.iconst hC 0 dX5_isInZone_27 (by decide) ?_
    exact V.zret hC (by first | (simp [mInZ, bI, c_1]; done) | (simp_all [mInZ, bI]; done)) (by decide) dX5_isInZone_28
  · refine V.iload_n hC dX5_isInZone_7 rfl ?_
    refine V.aload_n hC dX5_isInZone_8 rfl ?_
    refine V.callV0i hC (c_X5_zoneFrom hG) mwX5_zoneFrom mlX5_60 (hG.at 111 rfl) rfl rfl ⟨rfl, rfl⟩ dX5_isInZone_9 rfl ?_
    refine V.icmp_lt hC 27 dX5_isInZone_12 (by decide) (fun c_2 => ?_) (fun c_2 => ?_)
    · refine V.iconst hC 0 dX5_isInZone_27 (by decide) ?_
      exact V.zret hC (by first | (simp [mInZ, bI, c_1, c_2, dk_lt1 c_2]; done) | (simp_all [mInZ, bI]; done)) (by decide) dX5_isInZone_28
    · refine V.iload_n hC dX5_isInZone_15 rfl ?_
      refine V.aload_n hC dX5_isInZone_16 rfl ?_
      refine V.callV0i hC (c_X5_zoneTo hG) mwX5_zoneTo mlX5_64 (hG.at 111 rfl) rfl rfl ⟨rfl, rfl⟩ dX5_isInZone_17 rfl ?_
      refine V.icmp_ge hC 27 dX5_isInZone_20 (by decide) (fun c_3 => ?_) (fun c_3 => ?_)
      · refine V.iconst hC 0 dX5_isInZone_27 (by decide) ?_
        exact V.zret hC (by first | (simp [mInZ, bI, c_1, c_2, dk_nlt c_2, c_3, dk_le1 c_3]; done) | (simp_all [mInZ, bI]; done)) (by decide) dX5_isInZone_28
      · refine V.iconst hC 1 dX5_isInZone_23 (by decide) ?_
        refine V.goto hC 28 dX5_isInZone_24 (by decide) ?_
        exact V.zret hC (by first | (simp [mInZ, bI, c_1, c_2, dk_nlt c_2, c_3, dk_nle c_3]; done) | (simp_all [mInZ, bI]; done)) (by decide) dX5_isInZone_28
set_option maxHeartbeats 2000000 in
set_option maxRecDepth 20000 in
theorem c_X5_isRewritten {l : Launch} {G : dkG}  {M : dkM} (hG : dk_mdl G) {s : Int32}  : dk_Con l yX5_isRewritten cX5_isRewritten 2 (some .boolean) 2 42 G [.ref (G.1 + 111), .int s] M (some (.int (bI (mRw M s))), M) := by
  refine dk_Con.of mwX5_isRewritten.1 (Nat.le_of_ble_eq_true rfl) (fun E hE hC => ?_)
  subst hE
  refine V.aload_n hC dX5_isRewritten_0 rfl ?_
  refine V.iload_n hC dX5_isRewritten_1 rfl ?_
  refine V.callV1i hC (c_X5_isInZone hG) mwX5_isInZone mlX5_67 (hG.at 111 rfl) rfl rfl ⟨rfl, rfl⟩ dX5_isRewritten_2 rfl ?_
  refine V.if_eqB hC 27 dX5_isRewritten_5 (by decide) (fun c_1 => ?_) (fun c_1 => ?_)
  · refine V.iconst hC 0 dX5_isRewritten_27 (by decide) ?_
    exact V.zret hC (by first | (simp [mRw, bI, c_1]; done) | (simp_all [mRw, bI]; done)) (by decide) dX5_isRewritten_28
  · refine V.iload_n hC dX5_isRewritten_8 rfl ?_
    refine V.aload_n hC dX5_isRewritten_9 rfl ?_
    refine V.callV0i hC (c_X5_zoneFrom hG) mwX5_zoneFrom mlX5_60 (hG.at 111 rfl) rfl rfl ⟨rfl, rfl⟩ dX5_isRewritten_10 rfl ?_
    refine V.aload_n hC dX5_isRewritten_13 rfl ?_
    refine gfX5_7 hG hC dX5_isRewritten_14 ?_
    refine V.iconst hC 5 dX5_isRewritten_17 (by decide) ?_
    refine V.ialdN hC (5) (hG.at 112 rfl) rfl al112 (rfl) (by omega) dX5_isRewritten_18 ?_
    refine V.iadd hC dX5_isRewritten_19 ?_
    refine V.icmp_ge hC 27 dX5_isRewritten_20 (by decide) (fun c_2 => ?_) (fun c_2 => ?_)
    · refine V.iconst hC 0 dX5_isRewritten_27 (by decide) ?_
      exact V.zret hC (by first | (simp [mRw, bI, c_1, c_2, dk_le1 c_2]; done) | (simp_all [mRw, bI]; done)) (by decide) dX5_isRewritten_28
    · refine V.iconst hC 1 dX5_isRewritten_23 (by decide) ?_
      refine V.goto hC 28 dX5_isRewritten_24 (by decide) ?_
      exact V.zret hC (by first | (simp [mRw, bI, c_1, c_2, dk_nle c_2]; done) | (simp_all [mRw, bI]; done)) (by decide) dX5_isRewritten_28
set_option maxHeartbeats 2000000 in
set_option maxRecDepth 20000 in
theorem c_X5_keyAt {l : Launch} {G : dkG}  {M : dkM} (hG : dk_mdl G) {s : Int32}  : dk_Con l yX5_keyAt cX5_keyAt 3 (some .int) 3 63 G [.ref (G.1 + 111), .int s] M (some (.int (mKeyAt M s)), M) := by
  refine dk_Con.of mwX5_keyAt.1 (Nat.le_of_ble_eq_true rfl) (fun E hE hC => ?_)
  subst hE
  refine V.aload_n hC dX5_keyAt_0 rfl ?_
  refine V.callV0i hC (c_X5_isRekeying hG) mwX5_isRekeying mlX5_56 (hG.at 111 rfl) rfl rfl ⟨rfl, rfl⟩ dX5_keyAt_1 rfl ?_
  refine V.if_neB hC 14 dX5_keyAt_4 (by decide) (fun c_1 => ?_) (fun c_1 => ?_)
  · refine V.iload_n hC dX5_keyAt_14 rfl ?_
    refine V.aload_n hC dX5_keyAt_15 rfl ?_
    refine gfX5_7 hG hC dX5_keyAt_16 ?_
    refine V.iconst hC 3 dX5_keyAt_19 (by decide) ?_
    refine V.ialdN hC (3) (hG.at 112 rfl) rfl al112 (rfl) (by omega) dX5_keyAt_20 ?_
    refine V.icmp_ge hC 28 dX5_keyAt_21 (by decide) (fun c_2 => ?_) (fun c_2 => ?_)
    · refine V.iconst hC 0 dX5_keyAt_28 (by decide) ?_
      refine V.aload_n hC dX5_keyAt_29 rfl ?_
      refine V.iload_n hC dX5_keyAt_30 rfl ?_
      refine V.callV1i hC (c_X5_isRewritten hG) mwX5_isRewritten mlX5_71 (hG.at 111 rfl) rfl rfl ⟨rfl, rfl⟩ dX5_keyAt_31 rfl ?_
      refine V.icmp_eq hC 41 dX5_keyAt_34 (by decide) (fun c_3 => ?_) (fun c_3 => ?_)
      · refine V.iconst hC 0 dX5_keyAt_41 (by decide) ?_
        refine V.istore_n hC dX5_keyAt_42 rfl rfl ?_
        refine V.iload_n hC dX5_keyAt_43 rfl ?_
        refine V.if_eq_t hC 56 dX5_keyAt_44 (by decide) (by decide) ?_
        refine V.aload_n hC dX5_keyAt_56 rfl ?_
        refine gfX5_7 hG hC dX5_keyAt_57 ?_
        refine V.iconst hC 1 dX5_keyAt_60 (by decide) ?_
        refine V.ialdN hC (1) (hG.at 112 rfl) rfl al112 (rfl) (by omega) dX5_keyAt_61 ?_
        exact V.iret hC (by first | (simp [mKeyAt, c_1, c_2, dk_le1 c_2, c_3]; done) | (rw [mKeyAt, if_pos c_1]; first | rw [if_pos c_2] | rw [if_neg c_2]) <;> cases hb : mRw M s <;> simp_all [bI]) dX5_keyAt_62
      · refine V.iconst hC 1 dX5_keyAt_37 (by decide) ?_
        refine V.goto hC 42 dX5_keyAt_38 (by decide) ?_
        refine V.istore_n hC dX5_keyAt_42 rfl rfl ?_
        refine V.iload_n hC dX5_keyAt_43 rfl ?_
        refine V.if_eq_f hC 56 dX5_keyAt_44 (by decide) (by decide) ?_
        refine V.aload_n hC dX5_keyAt_47 rfl ?_
        refine gfX5_7 hG hC dX5_keyAt_48 ?_
        refine V.iconst hC 2 dX5_keyAt_51 (by decide) ?_
        refine V.ialdN hC (2) (hG.at 112 rfl) rfl al112 (rfl) (by omega) dX5_keyAt_52 ?_
        refine V.goto hC 62 dX5_keyAt_53 (by decide) ?_
        exact V.iret hC (by first | (simp [mKeyAt, c_1, c_2, dk_le1 c_2, c_3]; done) | (rw [mKeyAt, if_pos c_1]; first | rw [if_pos c_2] | rw [if_neg c_2]) <;> cases hb : mRw M s <;> simp_all [bI]) dX5_keyAt_62
    · refine V.iconst hC 1 dX5_keyAt_24 (by decide) ?_
      refine V.goto hC 29 dX5_keyAt_25 (by decide) ?_
      refine V.aload_n hC dX5_keyAt_29 rfl ?_
      refine V.iload_n hC dX5_keyAt_30 rfl ?_
      refine V.callV1i hC (c_X5_isRewritten hG) mwX5_isRewritten mlX5_71 (hG.at 111 rfl) rfl rfl ⟨rfl, rfl⟩ dX5_keyAt_31 rfl ?_
      refine V.icmp_eq hC 41 dX5_keyAt_34 (by decide) (fun c_3 => ?_) (fun c_3 => ?_)
      · refine V.iconst hC 0 dX5_keyAt_41 (by decide) ?_
        refine V.istore_n hC dX5_keyAt_42 rfl rfl ?_
        refine V.iload_n hC dX5_keyAt_43 rfl ?_
        refine V.if_eq_t hC 56 dX5_keyAt_44 (by decide) (by decide) ?_
        refine V.aload_n hC dX5_keyAt_56 rfl ?_
        refine gfX5_7 hG hC dX5_keyAt_57 ?_
        refine V.iconst hC 1 dX5_keyAt_60 (by decide) ?_
        refine V.ialdN hC (1) (hG.at 112 rfl) rfl al112 (rfl) (by omega) dX5_keyAt_61 ?_
        exact V.iret hC (by first | (simp [mKeyAt, c_1, c_2, dk_nle c_2, c_3]; done) | (rw [mKeyAt, if_pos c_1]; first | rw [if_pos c_2] | rw [if_neg c_2]) <;> cases hb : mRw M s <;> simp_all [bI]) dX5_keyAt_62
      · refine V.iconst hC 1 dX5_keyAt_37 (by decide) ?_
        refine V.goto hC 42 dX5_keyAt_38 (by decide) ?_
        refine V.istore_n hC dX5_keyAt_42 rfl rfl ?_
        refine V.iload_n hC dX5_keyAt_43 rfl ?_
        refine V.if_eq_f hC 56 dX5_keyAt_44 (by decide) (by decide) ?_
        refine V.aload_n hC dX5_keyAt_47 rfl ?_
        refine gfX5_7 hG hC dX5_keyAt_48 ?_
        refine V.iconst hC 2 dX5_keyAt_51 (by decide) ?_
        refine V.ialdN hC (2) (hG.at 112 rfl) rfl al112 (rfl) (by omega) dX5_keyAt_52 ?_
        refine V.goto hC 62 dX5_keyAt_53 (by decide) ?_
        exact V.iret hC (by first | (simp [mKeyAt, c_1, c_2, dk_nle c_2, c_3]; done) | (rw [mKeyAt, if_pos c_1]; first | rw [if_pos c_2] | rw [if_neg c_2]) <;> cases hb : mRw M s <;> simp_all [bI]) dX5_keyAt_62
  · refine V.aload_n hC dX5_keyAt_7 rfl ?_
    refine gfX5_7 hG hC dX5_keyAt_8 ?_
    refine V.iconst hC 1 dX5_keyAt_11 (by decide) ?_
    refine V.ialdN hC (1) (hG.at 112 rfl) rfl al112 (rfl) (by omega) dX5_keyAt_12 ?_
    exact V.iret hC (by first | (simp [mKeyAt, c_1]; done) | (rw [mKeyAt, if_pos c_1]; first | rw [if_pos c_2] | rw [if_neg c_2]) <;> cases hb : mRw M s <;> simp_all [bI]) dX5_keyAt_13
set_option maxHeartbeats 2000000 in
set_option maxRecDepth 20000 in
theorem c_X5_secretAt {l : Launch} {G : dkG}  {M : dkM} (hG : dk_mdl G) {s : Int32} (hI : mI M) : dk_Con l yX5_secretAt cX5_secretAt 2 (some .int) 4 85 G [.ref (G.1 + 111), .int s] M (some (.int (mSecret M s)), M) := by
  refine dk_Con.of mwX5_secretAt.1 (Nat.le_of_ble_eq_true rfl) (fun E hE hC => ?_)
  subst hE
  refine V.aload_n hC dX5_secretAt_0 rfl ?_
  refine gfX5_7 hG hC dX5_secretAt_1 ?_
  refine V.bipush hC 11 dX5_secretAt_4 (by decide) ?_
  refine V.aload_n hC dX5_secretAt_6 rfl ?_
  refine V.iload_n hC dX5_secretAt_7 rfl ?_
  refine V.callV1i hC (c_X5_keyAt hG) mwX5_keyAt mlX5_74 (hG.at 111 rfl) rfl rfl ⟨rfl, rfl⟩ dX5_secretAt_8 rfl ?_
  refine V.iadd hC dX5_secretAt_11 ?_
  refine V.ialdN hC (11 + ix (mKeyAt M s)) (hG.at 112 rfl) rfl al112 (dk_addN rfl (mKey_k hI s).1) (by have := (mKey_k hI s).2; omega) dX5_secretAt_12 ?_
  exact V.iret hC (rfl) dX5_secretAt_13
set_option maxHeartbeats 2000000 in
set_option maxRecDepth 20000 in
theorem c_X5_plain {l : Launch} {G : dkG}  {M : dkM} (hG : dk_mdl G) {k : Nat} (hI : mI M) (hk : k < 64) : dk_Con l yX5_plain cX5_plain 2 (some .int) 5 106 G [.ref (G.1 + 111), .int (nI k)] M (some (.int (mPlain M k)), M) := by
  refine dk_Con.of mwX5_plain.1 (Nat.le_of_ble_eq_true rfl) (fun E hE hC => ?_)
  subst hE
  refine V.aload_n hC dX5_plain_0 rfl ?_
  refine gfX5_7 hG hC dX5_plain_1 ?_
  refine V.bipush hC 111 dX5_plain_4 (by decide) ?_
  refine V.iload_n hC dX5_plain_6 rfl ?_
  refine V.iadd hC dX5_plain_7 ?_
  refine V.ialdN hC (111 + k) (hG.at 112 rfl) rfl al112 (dk_addN (rfl) (rfl)) (by omega) dX5_plain_8 ?_
  refine V.iload_n hC dX5_plain_9 rfl ?_
  refine V.aload_n hC dX5_plain_10 rfl ?_
  refine V.iload_n hC dX5_plain_11 rfl ?_
  refine V.callV1i hC (c_X5_secretAt hG hI) mwX5_secretAt mlX5_78 (hG.at 111 rfl) rfl rfl ⟨rfl, rfl⟩ dX5_plain_12 rfl ?_
  refine V.callS3i hC (c_X5_scramble) mwX5_scramble mlX5_45 ⟨rfl, rfl⟩ dX5_plain_15 rfl ?_
  exact V.iret hC (rfl) dX5_plain_18
set_option maxHeartbeats 2000000 in
set_option maxRecDepth 20000 in
theorem c_X5_valueOf {l : Launch} {G : dkG}  {M : dkM} (hG : dk_mdl G) {k : Nat} (hI : mI M) (hk : k < 64) : dk_Con l yX5_valueOf cX5_valueOf 2 (some .int) 6 127 G [.ref (G.1 + 111), .int (nI k)] M (some (.int (mVal M k)), M) := by
  refine dk_Con.of mwX5_valueOf.1 (Nat.le_of_ble_eq_true rfl) (fun E hE hC => ?_)
  subst hE
  refine V.aload_n hC dX5_valueOf_0 rfl ?_
  refine gfX5_7 hG hC dX5_valueOf_1 ?_
  refine V.sipush hC 239 dX5_valueOf_4 (by decide) ?_
  refine V.iload_n hC dX5_valueOf_7 rfl ?_
  refine V.iadd hC dX5_valueOf_8 ?_
  refine V.ialdN hC (239 + k) (hG.at 112 rfl) rfl al112 (dk_addN (rfl) (rfl)) (by omega) dX5_valueOf_9 ?_
  refine V.bipush hC (-6) dX5_valueOf_10 (by decide) ?_
  refine V.icmp_ne hC 23 dX5_valueOf_12 (by decide) (fun c_1 => ?_) (fun c_1 => ?_)
  · refine V.aload_n hC dX5_valueOf_23 rfl ?_
    refine gfX5_7 hG hC dX5_valueOf_24 ?_
    refine V.sipush hC 239 dX5_valueOf_27 (by decide) ?_
    refine V.iload_n hC dX5_valueOf_30 rfl ?_
    refine V.iadd hC dX5_valueOf_31 ?_
    refine V.ialdN hC (239 + k) (hG.at 112 rfl) rfl al112 (dk_addN (rfl) (rfl)) (by omega) dX5_valueOf_32 ?_
    exact V.iret hC (by first | (simp [mVal, c_1]; done) | (simp_all [mVal]; done)) dX5_valueOf_33
  · refine V.aload_n hC dX5_valueOf_15 rfl ?_
    refine V.iload_n hC dX5_valueOf_16 rfl ?_
    refine V.callV1i hC (c_X5_plain hG hI hk) mwX5_plain mlX5_81 (hG.at 111 rfl) rfl rfl ⟨rfl, rfl⟩ dX5_valueOf_17 rfl ?_
    refine V.goto hC 33 dX5_valueOf_20 (by decide) ?_
    exact V.iret hC (by first | (simp [mVal, c_1]; done) | (simp_all [mVal]; done)) dX5_valueOf_33
set_option maxHeartbeats 2000000 in
set_option maxRecDepth 20000 in
theorem c_X5_endsAtEnd {l : Launch} {G : dkG}  {M : dkM} (hG : dk_mdl G)  : dk_Con l yX5_endsAtEnd cX5_endsAtEnd 1 none 2 41 G [.ref (G.1 + 111)] M (none, mEnd M) := by
  refine dk_Con.of mwX5_endsAtEnd.1 (Nat.le_of_ble_eq_true rfl) (fun E hE hC => ?_)
  subst hE
  refine V.aload_n hC dX5_endsAtEnd_0 rfl ?_
  refine gfX5_7 hG hC dX5_endsAtEnd_1 ?_
  refine V.iconst hC 4 dX5_endsAtEnd_4 (by decide) ?_
  refine V.ialdN hC (4) (hG.at 112 rfl) rfl al112 (rfl) (by omega) dX5_endsAtEnd_5 ?_
  refine V.iconst hC 1 dX5_endsAtEnd_6 (by decide) ?_
  refine V.icmp_ne hC 55 dX5_endsAtEnd_7 (by decide) (fun c_1 => ?_) (fun c_1 => ?_)
  · refine V.aload_n hC dX5_endsAtEnd_55 rfl ?_
    refine gfX5_7 hG hC dX5_endsAtEnd_56 ?_
    refine V.iconst hC 4 dX5_endsAtEnd_59 (by decide) ?_
    refine V.ialdN hC (4) (hG.at 112 rfl) rfl al112 (rfl) (by omega) dX5_endsAtEnd_60 ?_
    refine V.if_ne hC 77 dX5_endsAtEnd_61 (by decide) (fun c_2 => ?_) (fun c_2 => ?_)
    · exact V.vret hC (by first | (simp [mEnd, put_k, c_1, c_2]; done) | (simp_all [mEnd, put_k]; done)) dX5_endsAtEnd_77
    · refine V.aload_n hC dX5_endsAtEnd_64 rfl ?_
      refine gfX5_7 hG hC dX5_endsAtEnd_65 ?_
      refine V.iconst hC 3 dX5_endsAtEnd_68 (by decide) ?_
      refine V.ialdN hC (3) (hG.at 112 rfl) rfl al112 (rfl) (by omega) dX5_endsAtEnd_69 ?_
      refine V.if_ne hC 77 dX5_endsAtEnd_70 (by decide) (fun c_3 => ?_) (fun c_3 => ?_)
      · exact V.vret hC (by first | (simp [mEnd, put_k, c_1, c_2, c_3]; done) | (simp_all [mEnd, put_k]; done)) dX5_endsAtEnd_77
      · refine V.aload_n hC dX5_endsAtEnd_73 rfl ?_
        refine V.callV0v hC (c_X5_ends hG) mwX5_ends mlX5_42 (hG.at 111 rfl) rfl rfl ⟨rfl, rfl⟩ dX5_endsAtEnd_74 rfl ?_
        exact V.vret hC (by first | (simp [mEnd, put_k, c_1, c_2, c_3]; done) | (simp_all [mEnd, put_k]; done)) dX5_endsAtEnd_77
  · refine V.aload_n hC dX5_endsAtEnd_10 rfl ?_
    refine gfX5_7 hG hC dX5_endsAtEnd_11 ?_
    refine V.iconst hC 3 dX5_endsAtEnd_14 (by decide) ?_
    refine V.ialdN hC (3) (hG.at 112 rfl) rfl al112 (rfl) (by omega) dX5_endsAtEnd_15 ?_
    refine V.aload_n hC dX5_endsAtEnd_16 rfl ?_
    refine gfX5_7 hG hC dX5_endsAtEnd_17 ?_
    refine V.iconst hC 0 dX5_endsAtEnd_20 (by decide) ?_
    refine V.ialdN hC (0) (hG.at 112 rfl) rfl al112 (rfl) (by omega) dX5_endsAtEnd_21 ?_
    refine V.icmp_ne hC 55 dX5_endsAtEnd_22 (by decide) (fun c_2 => ?_) (fun c_2 => ?_)
    · refine V.aload_n hC dX5_endsAtEnd_55 rfl ?_
      refine gfX5_7 hG hC dX5_endsAtEnd_56 ?_
      refine V.iconst hC 4 dX5_endsAtEnd_59 (by decide) ?_
      refine V.ialdN hC (4) (hG.at 112 rfl) rfl al112 (rfl) (by omega) dX5_endsAtEnd_60 ?_
      refine V.if_ne hC 77 dX5_endsAtEnd_61 (by decide) (fun c_3 => ?_) (fun c_3 => ?_)
      · exact V.vret hC (by first | (simp [mEnd, put_k, c_1, c_2, c_3]; done) | (simp_all [mEnd, put_k]; done)) dX5_endsAtEnd_77
      · refine V.aload_n hC dX5_endsAtEnd_64 rfl ?_
        refine gfX5_7 hG hC dX5_endsAtEnd_65 ?_
        refine V.iconst hC 3 dX5_endsAtEnd_68 (by decide) ?_
        refine V.ialdN hC (3) (hG.at 112 rfl) rfl al112 (rfl) (by omega) dX5_endsAtEnd_69 ?_
        refine V.if_ne hC 77 dX5_endsAtEnd_70 (by decide) (fun c_4 => ?_) (fun c_4 => ?_)
        · exact V.vret hC (by first | (simp [mEnd, put_k, c_1, c_2, c_3, c_4]; done) | (simp_all [mEnd, put_k]; done)) dX5_endsAtEnd_77
        · refine V.aload_n hC dX5_endsAtEnd_73 rfl ?_
          refine V.callV0v hC (c_X5_ends hG) mwX5_ends mlX5_42 (hG.at 111 rfl) rfl rfl ⟨rfl, rfl⟩ dX5_endsAtEnd_74 rfl ?_
          exact V.vret hC (by first | (simp [mEnd, put_k, c_1, c_2, c_3, c_4]; done) | (simp_all [mEnd, put_k]; done)) dX5_endsAtEnd_77
    · refine V.aload_n hC dX5_endsAtEnd_25 rfl ?_
      refine gfX5_7 hG hC dX5_endsAtEnd_26 ?_
      refine V.iconst hC 1 dX5_endsAtEnd_29 (by decide) ?_
      refine V.aload_n hC dX5_endsAtEnd_30 rfl ?_
      refine gfX5_7 hG hC dX5_endsAtEnd_31 ?_
      refine V.iconst hC 2 dX5_endsAtEnd_34 (by decide) ?_
      refine V.ialdN hC (2) (hG.at 112 rfl) rfl al112 (rfl) (by omega) dX5_endsAtEnd_35 ?_
      refine V.iastN hC (1) (hG.at 112 rfl) rfl al112 (rfl) (by omega) dX5_endsAtEnd_36 ?_
      refine V.aload_n hC dX5_endsAtEnd_37 rfl ?_
      refine gfX5_7 hG hC dX5_endsAtEnd_38 ?_
      refine V.bipush hC 9 dX5_endsAtEnd_41 (by decide) ?_
      refine V.dup2 hC dX5_endsAtEnd_43 rfl rfl ?_
      refine V.ialdN hC (9) (hG.at 112 rfl) rfl al112 (rfl) (by omega) dX5_endsAtEnd_44 ?_
      refine V.iconst hC 1 dX5_endsAtEnd_45 (by decide) ?_
      refine V.iadd hC dX5_endsAtEnd_46 ?_
      refine V.iastN hC (9) (hG.at 112 rfl) rfl al112 (rfl) (by omega) dX5_endsAtEnd_47 ?_
      refine V.aload_n hC dX5_endsAtEnd_48 rfl ?_
      refine V.callV0v hC (c_X5_ends hG) mwX5_ends mlX5_42 (hG.at 111 rfl) rfl rfl ⟨rfl, rfl⟩ dX5_endsAtEnd_49 rfl ?_
      refine V.goto hC 77 dX5_endsAtEnd_52 (by decide) ?_
      exact V.vret hC (by first | (simp [mEnd, put_k, c_1, c_2]; done) | (simp_all [mEnd, put_k]; done)) dX5_endsAtEnd_77
set_option maxHeartbeats 2000000 in
set_option maxRecDepth 20000 in
theorem c_X5_makesStep {l : Launch} {G : dkG}  {M : dkM} (hG : dk_mdl G) (hI : mI M) (hr : mRek M = true) : dk_Con l yX5_makesStep cX5_makesStep 5 none 6 127 G [.ref (G.1 + 111)] M (none, mStep M) := by
  refine dk_Con.of mwX5_makesStep.1 (Nat.le_of_ble_eq_true rfl) (fun E hE hC => ?_)
  subst hE
  have hf := mFrom_b hI hr
  have ht := mTo_b hI hr
  have h0 := hI.1
  have hif := ix_toInt hf.1
  have hit := ix_toInt ht.1
  have loop_42 : ∀ (n : Nat) (k : Nat), (M 112 8 = 1) → (M 112 6 = 0) → (M 112 5 = 0) → (k ≤ ix (mTo M) - ix (mFrom M)) → (ix (mTo M) - ix (mFrom M) < k + n) →  V E G 5 (none, mStep M) (mjL M (ix (mFrom M)) k) 42 [(0, some (.ref (G.1 + 111))), (1, some (.int (mFrom M))), (2, some (.int (mTo M))), (3, some (.int (nI (ix (mFrom M) + k))))] [] := by
    intro n
    induction n with
    | zero => intro k h1 h2 h3 hk hn; exact absurd hn (by omega)
    | succ n ih_42 =>
      intro k h1 h2 h3 hk hn
      refine V.iload_n hC dX5_makesStep_42 rfl ?_
      refine V.iload_n hC dX5_makesStep_43 rfl ?_
      refine V.icmp_ge hC 72 dX5_makesStep_44 (by decide) (fun c_1 => ?_) (fun c_1 => ?_)
      · have hke : k = ix (mTo M) - ix (mFrom M) := by have := (dk_gek (k := ix (mFrom M) + k) (by omega)).mp c_1; omega
        refine V.aload_n hC dX5_makesStep_72 rfl ?_
        refine gfX5_7 hG hC dX5_makesStep_73 ?_
        refine V.bipush hC 6 dX5_makesStep_76 (by decide) ?_
        refine V.iload_n hC dX5_makesStep_78 rfl ?_
        refine V.iload_n hC dX5_makesStep_79 rfl ?_
        refine V.isub hC dX5_makesStep_80 ?_
        refine V.iastN hC (6) (hG.at 112 rfl) rfl al112 (rfl) (by omega) dX5_makesStep_81 ?_
        refine V.goto hC 175 dX5_makesStep_82 (by decide) ?_
        exact V.vret hC (by first | (rw [mStep, if_pos ⟨h1, h2, h3⟩, mJr, hke]; done) | (rw [mStep, if_neg (by simp [c_1, dk_le1 c_1]), if_pos hlt]; rfl) | (simp [mStep, c_1, dk_le1 c_1]; done)) dX5_makesStep_175
      · have hkl : k < ix (mTo M) - ix (mFrom M) := by have := mt (dk_gek (k := ix (mFrom M) + k) (by omega)).mpr c_1; omega
        refine V.aload_n hC dX5_makesStep_47 rfl ?_
        refine gfX5_7 hG hC dX5_makesStep_48 ?_
        refine V.sipush hC 175 dX5_makesStep_51 (by decide) ?_
        refine V.iload_n hC dX5_makesStep_54 rfl ?_
        refine V.iadd hC dX5_makesStep_55 ?_
        refine V.aload_n hC dX5_makesStep_56 rfl ?_
        refine gfX5_7 hG hC dX5_makesStep_57 ?_
        refine V.bipush hC 111 dX5_makesStep_60 (by decide) ?_
        refine V.iload_n hC dX5_makesStep_62 rfl ?_
        refine V.iadd hC dX5_makesStep_63 ?_
        refine V.ialdN hC ((111) + ((ix (mFrom M) + k))) (hG.at 112 rfl) rfl al112 (dk_addN (rfl) (rfl)) (by omega) dX5_makesStep_64 ?_
        refine V.iastN hC ((175) + ((ix (mFrom M) + k))) (hG.at 112 rfl) rfl al112 (dk_addN (rfl) (rfl)) (by omega) dX5_makesStep_65 ?_
        refine V.iinc hC dX5_makesStep_66 rfl (dk_incN _) rfl ?_
        refine V.goto hC 42 dX5_makesStep_69 (by decide) ?_
        exact V.sub (dk_sc rfl (dk_sc rfl (dk_sc rfl (dk_sc rfl (dk_sn))))) (ih_42 (k + 1) h1 h2 h3 (by omega) (by omega))
  refine V.aload_n hC dX5_makesStep_0 rfl ?_
  refine V.callV0i hC (c_X5_zoneFrom hG) mwX5_zoneFrom mlX5_60 (hG.at 111 rfl) rfl rfl ⟨rfl, rfl⟩ dX5_makesStep_1 rfl ?_
  refine V.istore_n hC dX5_makesStep_4 rfl rfl ?_
  refine V.aload_n hC dX5_makesStep_5 rfl ?_
  refine V.callV0i hC (c_X5_zoneTo hG) mwX5_zoneTo mlX5_64 (hG.at 111 rfl) rfl rfl ⟨rfl, rfl⟩ dX5_makesStep_6 rfl ?_
  refine V.istore_n hC dX5_makesStep_9 rfl rfl ?_
  refine V.aload_n hC dX5_makesStep_10 rfl ?_
  refine gfX5_7 hG hC dX5_makesStep_11 ?_
  refine V.bipush hC 8 dX5_makesStep_14 (by decide) ?_
  refine V.ialdN hC (8) (hG.at 112 rfl) rfl al112 (rfl) (by omega) dX5_makesStep_16 ?_
  refine V.iconst hC 1 dX5_makesStep_17 (by decide) ?_
  refine V.icmp_ne hC 85 dX5_makesStep_18 (by decide) (fun c_1 => ?_) (fun c_1 => ?_)
  · refine V.aload_n hC dX5_makesStep_85 rfl ?_
    refine gfX5_7 hG hC dX5_makesStep_86 ?_
    refine V.iconst hC 5 dX5_makesStep_89 (by decide) ?_
    refine V.ialdN hC (5) (hG.at 112 rfl) rfl al112 (rfl) (by omega) dX5_makesStep_90 ?_
    refine V.iload_n hC dX5_makesStep_91 rfl ?_
    refine V.iload_n hC dX5_makesStep_92 rfl ?_
    refine V.isub hC dX5_makesStep_93 ?_
    refine V.icmp_ge hC 146 dX5_makesStep_94 (by decide) (fun c_2 => ?_) (fun c_2 => ?_)
    · refine V.aload_n hC dX5_makesStep_146 rfl ?_
      refine gfX5_7 hG hC dX5_makesStep_147 ?_
      refine V.iconst hC 3 dX5_makesStep_150 (by decide) ?_
      refine V.aload_n hC dX5_makesStep_151 rfl ?_
      refine gfX5_7 hG hC dX5_makesStep_152 ?_
      refine V.iconst hC 4 dX5_makesStep_155 (by decide) ?_
      refine V.ialdN hC (4) (hG.at 112 rfl) rfl al112 (rfl) (by omega) dX5_makesStep_156 ?_
      refine V.iconst hC 1 dX5_makesStep_157 (by decide) ?_
      refine V.icmp_ne hC 165 dX5_makesStep_158 (by decide) (fun c_3 => ?_) (fun c_3 => ?_)
      · refine V.iload_n hC dX5_makesStep_165 rfl ?_
        refine V.iastN hC (3) (hG.at 112 rfl) rfl al112 (rfl) (by omega) dX5_makesStep_166 ?_
        refine V.aload_n hC dX5_makesStep_167 rfl ?_
        refine V.callV0v hC (c_X5_closes hG) mwX5_closes mlX5_49 (hG.at 111 rfl) rfl rfl ⟨rfl, rfl⟩ dX5_makesStep_168 rfl ?_
        refine V.aload_n hC dX5_makesStep_171 rfl ?_
        refine V.callV0v hC (c_X5_endsAtEnd hG) mwX5_endsAtEnd mlX5_84 (hG.at 111 rfl) rfl rfl ⟨rfl, rfl⟩ dX5_makesStep_172 rfl ?_
        exact V.vret hC (by first | (rw [mStep, if_pos ⟨h1, h2, h3⟩, mJr, hke]; done) | (rw [mStep, if_neg (by simp [c_1, c_2, dk_le1 c_2, c_3]), if_pos hlt]; rfl) | (simp [mStep, c_1, c_2, dk_le1 c_2, c_3]; done)) dX5_makesStep_175
      · refine V.iload_n hC dX5_makesStep_161 rfl ?_
        refine V.goto hC 166 dX5_makesStep_162 (by decide) ?_
        refine V.iastN hC (3) (hG.at 112 rfl) rfl al112 (rfl) (by omega) dX5_makesStep_166 ?_
        refine V.aload_n hC dX5_makesStep_167 rfl ?_
        refine V.callV0v hC (c_X5_closes hG) mwX5_closes mlX5_49 (hG.at 111 rfl) rfl rfl ⟨rfl, rfl⟩ dX5_makesStep_168 rfl ?_
        refine V.aload_n hC dX5_makesStep_171 rfl ?_
        refine V.callV0v hC (c_X5_endsAtEnd hG) mwX5_endsAtEnd mlX5_84 (hG.at 111 rfl) rfl rfl ⟨rfl, rfl⟩ dX5_makesStep_172 rfl ?_
        exact V.vret hC (by first | (rw [mStep, if_pos ⟨h1, h2, h3⟩, mJr, hke]; done) | (rw [mStep, if_neg (by simp [c_1, c_2, dk_le1 c_2, c_3]), if_pos hlt]; rfl) | (simp [mStep, c_1, c_2, dk_le1 c_2, c_3]; done)) dX5_makesStep_175
    · refine V.iload_n hC dX5_makesStep_97 rfl ?_
      refine V.aload_n hC dX5_makesStep_98 rfl ?_
      refine gfX5_7 hG hC dX5_makesStep_99 ?_
      refine V.iconst hC 5 dX5_makesStep_102 (by decide) ?_
      refine V.ialdN hC (5) (hG.at 112 rfl) rfl al112 (rfl) (by omega) dX5_makesStep_103 ?_
      refine V.iadd hC dX5_makesStep_104 ?_
      have hlt : M 112 5 < mTo M - mFrom M := by first | exact dk_nle c_4 | exact dk_nle c_3 | exact dk_nle c_2
      obtain ⟨hk0, hk64⟩ := mRw_k hI hr hlt
      refine V.top (congrArg Value.int (nI_ix hk0)) ?_
      refine V.istore_n hC dX5_makesStep_105 rfl rfl ?_
      refine V.aload_n hC dX5_makesStep_106 rfl ?_
      refine V.iload_n hC dX5_makesStep_107 rfl ?_
      refine V.callV1i hC (c_X5_plain hG hI hk64) mwX5_plain mlX5_81 (hG.at 111 rfl) rfl rfl ⟨rfl, rfl⟩ dX5_makesStep_108 rfl ?_
      refine V.istore hC dX5_makesStep_111 rfl rfl ?_
      refine V.aload_n hC dX5_makesStep_113 rfl ?_
      refine gfX5_7 hG hC dX5_makesStep_114 ?_
      refine V.iconst hC 5 dX5_makesStep_117 (by decide) ?_
      refine V.dup2 hC dX5_makesStep_118 rfl rfl ?_
      refine V.ialdN hC (5) (hG.at 112 rfl) rfl al112 (rfl) (by omega) dX5_makesStep_119 ?_
      refine V.iconst hC 1 dX5_makesStep_120 (by decide) ?_
      refine V.iadd hC dX5_makesStep_121 ?_
      refine V.iastN hC (5) (hG.at 112 rfl) rfl al112 (rfl) (by omega) dX5_makesStep_122 ?_
      refine V.aload_n hC dX5_makesStep_123 rfl ?_
      refine gfX5_7 hG hC dX5_makesStep_124 ?_
      refine V.bipush hC 111 dX5_makesStep_127 (by decide) ?_
      refine V.iload_n hC dX5_makesStep_129 rfl ?_
      refine V.iadd hC dX5_makesStep_130 ?_
      refine V.iload hC dX5_makesStep_131 rfl ?_
      refine V.iload_n hC dX5_makesStep_133 rfl ?_
      refine V.aload_n hC dX5_makesStep_134 rfl ?_
      refine V.iload_n hC dX5_makesStep_135 rfl ?_
      refine V.callV1i hC (c_X5_secretAt hG (mI_rw hI hr hlt)) mwX5_secretAt mlX5_78 (hG.at 111 rfl) rfl rfl ⟨rfl, rfl⟩ dX5_makesStep_136 rfl ?_
      refine V.callS3i hC (c_X5_scramble) mwX5_scramble mlX5_45 ⟨rfl, rfl⟩ dX5_makesStep_139 rfl ?_
      refine V.iastN hC ((111) + (ix (mFrom M + M 112 5))) (hG.at 112 rfl) rfl al112 (dk_addN (rfl) (rfl)) (by omega) dX5_makesStep_142 ?_
      refine V.goto hC 175 dX5_makesStep_143 (by decide) ?_
      exact V.vret hC (by first | (rw [mStep, if_pos ⟨h1, h2, h3⟩, mJr, hke]; done) | (rw [mStep, if_neg (by simp [c_1, c_2, dk_nle c_2]), if_pos hlt]; rfl) | (simp [mStep, c_1, c_2, dk_nle c_2]; done)) dX5_makesStep_175
  · refine V.aload_n hC dX5_makesStep_21 rfl ?_
    refine gfX5_7 hG hC dX5_makesStep_22 ?_
    refine V.bipush hC 6 dX5_makesStep_25 (by decide) ?_
    refine V.ialdN hC (6) (hG.at 112 rfl) rfl al112 (rfl) (by omega) dX5_makesStep_27 ?_
    refine V.if_ne hC 85 dX5_makesStep_28 (by decide) (fun c_2 => ?_) (fun c_2 => ?_)
    · refine V.aload_n hC dX5_makesStep_85 rfl ?_
      refine gfX5_7 hG hC dX5_makesStep_86 ?_
      refine V.iconst hC 5 dX5_makesStep_89 (by decide) ?_
      refine V.ialdN hC (5) (hG.at 112 rfl) rfl al112 (rfl) (by omega) dX5_makesStep_90 ?_
      refine V.iload_n hC dX5_makesStep_91 rfl ?_
      refine V.iload_n hC dX5_makesStep_92 rfl ?_
      refine V.isub hC dX5_makesStep_93 ?_
      refine V.icmp_ge hC 146 dX5_makesStep_94 (by decide) (fun c_3 => ?_) (fun c_3 => ?_)
      · refine V.aload_n hC dX5_makesStep_146 rfl ?_
        refine gfX5_7 hG hC dX5_makesStep_147 ?_
        refine V.iconst hC 3 dX5_makesStep_150 (by decide) ?_
        refine V.aload_n hC dX5_makesStep_151 rfl ?_
        refine gfX5_7 hG hC dX5_makesStep_152 ?_
        refine V.iconst hC 4 dX5_makesStep_155 (by decide) ?_
        refine V.ialdN hC (4) (hG.at 112 rfl) rfl al112 (rfl) (by omega) dX5_makesStep_156 ?_
        refine V.iconst hC 1 dX5_makesStep_157 (by decide) ?_
        refine V.icmp_ne hC 165 dX5_makesStep_158 (by decide) (fun c_4 => ?_) (fun c_4 => ?_)
        · refine V.iload_n hC dX5_makesStep_165 rfl ?_
          refine V.iastN hC (3) (hG.at 112 rfl) rfl al112 (rfl) (by omega) dX5_makesStep_166 ?_
          refine V.aload_n hC dX5_makesStep_167 rfl ?_
          refine V.callV0v hC (c_X5_closes hG) mwX5_closes mlX5_49 (hG.at 111 rfl) rfl rfl ⟨rfl, rfl⟩ dX5_makesStep_168 rfl ?_
          refine V.aload_n hC dX5_makesStep_171 rfl ?_
          refine V.callV0v hC (c_X5_endsAtEnd hG) mwX5_endsAtEnd mlX5_84 (hG.at 111 rfl) rfl rfl ⟨rfl, rfl⟩ dX5_makesStep_172 rfl ?_
          exact V.vret hC (by first | (rw [mStep, if_pos ⟨h1, h2, h3⟩, mJr, hke]; done) | (rw [mStep, if_neg (by simp [c_1, c_2, c_3, dk_le1 c_3, c_4]), if_pos hlt]; rfl) | (simp [mStep, c_1, c_2, c_3, dk_le1 c_3, c_4]; done)) dX5_makesStep_175
        · refine V.iload_n hC dX5_makesStep_161 rfl ?_
          refine V.goto hC 166 dX5_makesStep_162 (by decide) ?_
          refine V.iastN hC (3) (hG.at 112 rfl) rfl al112 (rfl) (by omega) dX5_makesStep_166 ?_
          refine V.aload_n hC dX5_makesStep_167 rfl ?_
          refine V.callV0v hC (c_X5_closes hG) mwX5_closes mlX5_49 (hG.at 111 rfl) rfl rfl ⟨rfl, rfl⟩ dX5_makesStep_168 rfl ?_
          refine V.aload_n hC dX5_makesStep_171 rfl ?_
          refine V.callV0v hC (c_X5_endsAtEnd hG) mwX5_endsAtEnd mlX5_84 (hG.at 111 rfl) rfl rfl ⟨rfl, rfl⟩ dX5_makesStep_172 rfl ?_
          exact V.vret hC (by first | (rw [mStep, if_pos ⟨h1, h2, h3⟩, mJr, hke]; done) | (rw [mStep, if_neg (by simp [c_1, c_2, c_3, dk_le1 c_3, c_4]), if_pos hlt]; rfl) | (simp [mStep, c_1, c_2, c_3, dk_le1 c_3, c_4]; done)) dX5_makesStep_175
      · refine V.iload_n hC dX5_makesStep_97 rfl ?_
        refine V.aload_n hC dX5_makesStep_98 rfl ?_
        refine gfX5_7 hG hC dX5_makesStep_99 ?_
        refine V.iconst hC 5 dX5_makesStep_102 (by decide) ?_
        refine V.ialdN hC (5) (hG.at 112 rfl) rfl al112 (rfl) (by omega) dX5_makesStep_103 ?_
        refine V.iadd hC dX5_makesStep_104 ?_
        have hlt : M 112 5 < mTo M - mFrom M := by first | exact dk_nle c_4 | exact dk_nle c_3 | exact dk_nle c_2
        obtain ⟨hk0, hk64⟩ := mRw_k hI hr hlt
        refine V.top (congrArg Value.int (nI_ix hk0)) ?_
        refine V.istore_n hC dX5_makesStep_105 rfl rfl ?_
        refine V.aload_n hC dX5_makesStep_106 rfl ?_
        refine V.iload_n hC dX5_makesStep_107 rfl ?_
        refine V.callV1i hC (c_X5_plain hG hI hk64) mwX5_plain mlX5_81 (hG.at 111 rfl) rfl rfl ⟨rfl, rfl⟩ dX5_makesStep_108 rfl ?_
        refine V.istore hC dX5_makesStep_111 rfl rfl ?_
        refine V.aload_n hC dX5_makesStep_113 rfl ?_
        refine gfX5_7 hG hC dX5_makesStep_114 ?_
        refine V.iconst hC 5 dX5_makesStep_117 (by decide) ?_
        refine V.dup2 hC dX5_makesStep_118 rfl rfl ?_
        refine V.ialdN hC (5) (hG.at 112 rfl) rfl al112 (rfl) (by omega) dX5_makesStep_119 ?_
        refine V.iconst hC 1 dX5_makesStep_120 (by decide) ?_
        refine V.iadd hC dX5_makesStep_121 ?_
        refine V.iastN hC (5) (hG.at 112 rfl) rfl al112 (rfl) (by omega) dX5_makesStep_122 ?_
        refine V.aload_n hC dX5_makesStep_123 rfl ?_
        refine gfX5_7 hG hC dX5_makesStep_124 ?_
        refine V.bipush hC 111 dX5_makesStep_127 (by decide) ?_
        refine V.iload_n hC dX5_makesStep_129 rfl ?_
        refine V.iadd hC dX5_makesStep_130 ?_
        refine V.iload hC dX5_makesStep_131 rfl ?_
        refine V.iload_n hC dX5_makesStep_133 rfl ?_
        refine V.aload_n hC dX5_makesStep_134 rfl ?_
        refine V.iload_n hC dX5_makesStep_135 rfl ?_
        refine V.callV1i hC (c_X5_secretAt hG (mI_rw hI hr hlt)) mwX5_secretAt mlX5_78 (hG.at 111 rfl) rfl rfl ⟨rfl, rfl⟩ dX5_makesStep_136 rfl ?_
        refine V.callS3i hC (c_X5_scramble) mwX5_scramble mlX5_45 ⟨rfl, rfl⟩ dX5_makesStep_139 rfl ?_
        refine V.iastN hC ((111) + (ix (mFrom M + M 112 5))) (hG.at 112 rfl) rfl al112 (dk_addN (rfl) (rfl)) (by omega) dX5_makesStep_142 ?_
        refine V.goto hC 175 dX5_makesStep_143 (by decide) ?_
        exact V.vret hC (by first | (rw [mStep, if_pos ⟨h1, h2, h3⟩, mJr, hke]; done) | (rw [mStep, if_neg (by simp [c_1, c_2, c_3, dk_nle c_3]), if_pos hlt]; rfl) | (simp [mStep, c_1, c_2, c_3, dk_nle c_3]; done)) dX5_makesStep_175
    · refine V.aload_n hC dX5_makesStep_31 rfl ?_
      refine gfX5_7 hG hC dX5_makesStep_32 ?_
      refine V.iconst hC 5 dX5_makesStep_35 (by decide) ?_
      refine V.ialdN hC (5) (hG.at 112 rfl) rfl al112 (rfl) (by omega) dX5_makesStep_36 ?_
      refine V.if_ne hC 85 dX5_makesStep_37 (by decide) (fun c_3 => ?_) (fun c_3 => ?_)
      · refine V.aload_n hC dX5_makesStep_85 rfl ?_
        refine gfX5_7 hG hC dX5_makesStep_86 ?_
        refine V.iconst hC 5 dX5_makesStep_89 (by decide) ?_
        refine V.ialdN hC (5) (hG.at 112 rfl) rfl al112 (rfl) (by omega) dX5_makesStep_90 ?_
        refine V.iload_n hC dX5_makesStep_91 rfl ?_
        refine V.iload_n hC dX5_makesStep_92 rfl ?_
        refine V.isub hC dX5_makesStep_93 ?_
        refine V.icmp_ge hC 146 dX5_makesStep_94 (by decide) (fun c_4 => ?_) (fun c_4 => ?_)
        · refine V.aload_n hC dX5_makesStep_146 rfl ?_
          refine gfX5_7 hG hC dX5_makesStep_147 ?_
          refine V.iconst hC 3 dX5_makesStep_150 (by decide) ?_
          refine V.aload_n hC dX5_makesStep_151 rfl ?_
          refine gfX5_7 hG hC dX5_makesStep_152 ?_
          refine V.iconst hC 4 dX5_makesStep_155 (by decide) ?_
          refine V.ialdN hC (4) (hG.at 112 rfl) rfl al112 (rfl) (by omega) dX5_makesStep_156 ?_
          refine V.iconst hC 1 dX5_makesStep_157 (by decide) ?_
          refine V.icmp_ne hC 165 dX5_makesStep_158 (by decide) (fun c_5 => ?_) (fun c_5 => ?_)
          · refine V.iload_n hC dX5_makesStep_165 rfl ?_
            refine V.iastN hC (3) (hG.at 112 rfl) rfl al112 (rfl) (by omega) dX5_makesStep_166 ?_
            refine V.aload_n hC dX5_makesStep_167 rfl ?_
            refine V.callV0v hC (c_X5_closes hG) mwX5_closes mlX5_49 (hG.at 111 rfl) rfl rfl ⟨rfl, rfl⟩ dX5_makesStep_168 rfl ?_
            refine V.aload_n hC dX5_makesStep_171 rfl ?_
            refine V.callV0v hC (c_X5_endsAtEnd hG) mwX5_endsAtEnd mlX5_84 (hG.at 111 rfl) rfl rfl ⟨rfl, rfl⟩ dX5_makesStep_172 rfl ?_
            exact V.vret hC (by first | (rw [mStep, if_pos ⟨h1, h2, h3⟩, mJr, hke]; done) | (rw [mStep, if_neg (by simp [c_1, c_2, c_3, c_4, dk_le1 c_4, c_5]), if_pos hlt]; rfl) | (simp [mStep, c_1, c_2, c_3, c_4, dk_le1 c_4, c_5]; done)) dX5_makesStep_175
          · refine V.iload_n hC dX5_makesStep_161 rfl ?_
            refine V.goto hC 166 dX5_makesStep_162 (by decide) ?_
            refine V.iastN hC (3) (hG.at 112 rfl) rfl al112 (rfl) (by omega) dX5_makesStep_166 ?_
            refine V.aload_n hC dX5_makesStep_167 rfl ?_
            refine V.callV0v hC (c_X5_closes hG) mwX5_closes mlX5_49 (hG.at 111 rfl) rfl rfl ⟨rfl, rfl⟩ dX5_makesStep_168 rfl ?_
            refine V.aload_n hC dX5_makesStep_171 rfl ?_
            refine V.callV0v hC (c_X5_endsAtEnd hG) mwX5_endsAtEnd mlX5_84 (hG.at 111 rfl) rfl rfl ⟨rfl, rfl⟩ dX5_makesStep_172 rfl ?_
            exact V.vret hC (by first | (rw [mStep, if_pos ⟨h1, h2, h3⟩, mJr, hke]; done) | (rw [mStep, if_neg (by simp [c_1, c_2, c_3, c_4, dk_le1 c_4, c_5]), if_pos hlt]; rfl) | (simp [mStep, c_1, c_2, c_3, c_4, dk_le1 c_4, c_5]; done)) dX5_makesStep_175
        · refine V.iload_n hC dX5_makesStep_97 rfl ?_
          refine V.aload_n hC dX5_makesStep_98 rfl ?_
          refine gfX5_7 hG hC dX5_makesStep_99 ?_
          refine V.iconst hC 5 dX5_makesStep_102 (by decide) ?_
          refine V.ialdN hC (5) (hG.at 112 rfl) rfl al112 (rfl) (by omega) dX5_makesStep_103 ?_
          refine V.iadd hC dX5_makesStep_104 ?_
          have hlt : M 112 5 < mTo M - mFrom M := by first | exact dk_nle c_4 | exact dk_nle c_3 | exact dk_nle c_2
          obtain ⟨hk0, hk64⟩ := mRw_k hI hr hlt
          refine V.top (congrArg Value.int (nI_ix hk0)) ?_
          refine V.istore_n hC dX5_makesStep_105 rfl rfl ?_
          refine V.aload_n hC dX5_makesStep_106 rfl ?_
          refine V.iload_n hC dX5_makesStep_107 rfl ?_
          refine V.callV1i hC (c_X5_plain hG hI hk64) mwX5_plain mlX5_81 (hG.at 111 rfl) rfl rfl ⟨rfl, rfl⟩ dX5_makesStep_108 rfl ?_
          refine V.istore hC dX5_makesStep_111 rfl rfl ?_
          refine V.aload_n hC dX5_makesStep_113 rfl ?_
          refine gfX5_7 hG hC dX5_makesStep_114 ?_
          refine V.iconst hC 5 dX5_makesStep_117 (by decide) ?_
          refine V.dup2 hC dX5_makesStep_118 rfl rfl ?_
          refine V.ialdN hC (5) (hG.at 112 rfl) rfl al112 (rfl) (by omega) dX5_makesStep_119 ?_
          refine V.iconst hC 1 dX5_makesStep_120 (by decide) ?_
          refine V.iadd hC dX5_makesStep_121 ?_
          refine V.iastN hC (5) (hG.at 112 rfl) rfl al112 (rfl) (by omega) dX5_makesStep_122 ?_
          refine V.aload_n hC dX5_makesStep_123 rfl ?_
          refine gfX5_7 hG hC dX5_makesStep_124 ?_
          refine V.bipush hC 111 dX5_makesStep_127 (by decide) ?_
          refine V.iload_n hC dX5_makesStep_129 rfl ?_
          refine V.iadd hC dX5_makesStep_130 ?_
          refine V.iload hC dX5_makesStep_131 rfl ?_
          refine V.iload_n hC dX5_makesStep_133 rfl ?_
          refine V.aload_n hC dX5_makesStep_134 rfl ?_
          refine V.iload_n hC dX5_makesStep_135 rfl ?_
          refine V.callV1i hC (c_X5_secretAt hG (mI_rw hI hr hlt)) mwX5_secretAt mlX5_78 (hG.at 111 rfl) rfl rfl ⟨rfl, rfl⟩ dX5_makesStep_136 rfl ?_
          refine V.callS3i hC (c_X5_scramble) mwX5_scramble mlX5_45 ⟨rfl, rfl⟩ dX5_makesStep_139 rfl ?_
          refine V.iastN hC ((111) + (ix (mFrom M + M 112 5))) (hG.at 112 rfl) rfl al112 (dk_addN (rfl) (rfl)) (by omega) dX5_makesStep_142 ?_
          refine V.goto hC 175 dX5_makesStep_143 (by decide) ?_
          exact V.vret hC (by first | (rw [mStep, if_pos ⟨h1, h2, h3⟩, mJr, hke]; done) | (rw [mStep, if_neg (by simp [c_1, c_2, c_3, c_4, dk_nle c_4]), if_pos hlt]; rfl) | (simp [mStep, c_1, c_2, c_3, c_4, dk_nle c_4]; done)) dX5_makesStep_175
      · refine V.iload_n hC dX5_makesStep_40 rfl ?_
        refine V.top (congrArg Value.int (nI_ix hf.1)) ?_
        refine V.istore_n hC dX5_makesStep_41 rfl rfl ?_
        exact V.sub (dk_sc rfl (dk_sc rfl (dk_sc rfl (dk_sc rfl (dk_sn))))) (loop_42 (ix (mTo M) - ix (mFrom M) + 1) 0 c_1 c_2 c_3 (Nat.zero_le _) (by omega))
set_option maxHeartbeats 2000000 in
set_option maxRecDepth 20000 in
theorem c_X5_makesSteps {l : Launch} {G : dkG}  {M : dkM} (hG : dk_mdl G) {st : Int32} (hI : mI M) : dk_Con l yX5_makesSteps cX5_makesSteps 3 (some .int) 7 151 G [.ref (G.1 + 111), .int st] M (some (.int (nI (mStepsL (ix st) M 0).1)), (mStepsL (ix st) M 0).2) := by
  refine dk_Con.of mwX5_makesSteps.1 (Nat.le_of_ble_eq_true rfl) (fun E hE hC => ?_)
  subst hE
  have loop_2 : ∀ (n : Nat) (k : Nat) (M1 : dkM), (mI M1) → (k ≤ ix st) → (ix st < k + n) → (mStepsL (ix st - k) M1 k = mStepsL (ix st) M 0) →  V E G 3 (some (.int (nI (mStepsL (ix st) M 0).1)), (mStepsL (ix st) M 0).2) (M1) 2 [(0, some (.ref (G.1 + 111))), (1, some (.int st)), (2, some (.int (nI k)))] [] := by
    intro n
    induction n with
    | zero => intro k M1 hI1 hk hn hT; exact absurd hn (by omega)
    | succ n ih_2 =>
      intro k M1 hI1 hk hn hT
      have hsz := ix_lt st
      refine V.iload_n hC dX5_makesSteps_2 rfl ?_
      refine V.iload_n hC dX5_makesSteps_3 rfl ?_
      refine V.icmp_ge hC 24 dX5_makesSteps_4 (by decide) (fun c_1 => ?_) (fun c_1 => ?_)
      · have hke : k = ix st := by have := (dk_gek (k := k) (by omega)).mp c_1; omega
        rw [hke, Nat.sub_self, mStepsL] at hT
        refine V.iload_n hC dX5_makesSteps_24 rfl ?_
        exact V.iret hC (by first | (rw [← hT]; done) | (rw [← hT, hke]; done)) dX5_makesSteps_25
      · have hkl : k < ix st := by have := mt (dk_gek (k := k) (by omega)).mpr c_1; omega
        refine V.aload_n hC dX5_makesSteps_7 rfl ?_
        refine V.callV0i hC (c_X5_isRekeying hG) mwX5_isRekeying mlX5_56 (hG.at 111 rfl) rfl rfl ⟨rfl, rfl⟩ dX5_makesSteps_8 rfl ?_
        refine V.if_eqB hC 24 dX5_makesSteps_11 (by decide) (fun c_2 => ?_) (fun c_2 => ?_)
        · rw [show ix st - k = ix st - (k + 1) + 1 by omega, mStepsL, if_neg (by rw [c_2]; decide)] at hT
          refine V.iload_n hC dX5_makesSteps_24 rfl ?_
          exact V.iret hC (by first | (rw [← hT]; done) | (rw [← hT, hke]; done)) dX5_makesSteps_25
        · refine V.aload_n hC dX5_makesSteps_14 rfl ?_
          refine V.callV0v hC (c_X5_makesStep hG hI1 c_2) mwX5_makesStep mlX5_87 (hG.at 111 rfl) rfl rfl ⟨rfl, rfl⟩ dX5_makesSteps_15 rfl ?_
          refine V.iinc hC dX5_makesSteps_18 rfl (dk_incN _) rfl ?_
          refine V.goto hC 2 dX5_makesSteps_21 (by decide) ?_
          exact V.sub (dk_sc rfl (dk_sc rfl (dk_sc rfl (dk_sn)))) (ih_2 (k + 1) (mStep M1) (mI_step hI1 c_2) (by omega) (by omega) (by rw [show ix st - k = ix st - (k + 1) + 1 by omega, mStepsL, if_pos c_2] at hT; exact hT))
  refine V.iconst hC 0 dX5_makesSteps_0 (by decide) ?_
  refine V.istore_n hC dX5_makesSteps_1 rfl rfl ?_
  exact V.sub (dk_sc rfl (dk_sc rfl (dk_sc rfl (dk_sn)))) (loop_2 (ix st + 1) 0 M hI (Nat.zero_le _) (by omega) rfl)
set_option maxHeartbeats 2000000 in
set_option maxRecDepth 20000 in
theorem c_X5_left {l : Launch} {G : dkG}  {M : dkM} (hG : dk_mdl G) (hz : ¬ M 112 7 = 0) : dk_Con l yX5_left cX5_left 4 (some .int) 1 20 G [.ref (G.1 + 111)] M (some (.int (mLeft M)), M) := by
  refine dk_Con.of mwX5_left.1 (Nat.le_of_ble_eq_true rfl) (fun E hE hC => ?_)
  subst hE
  refine V.aload_n hC dX5_left_0 rfl ?_
  refine V.callV0i hC (c_X5_isRekeying hG) mwX5_isRekeying mlX5_56 (hG.at 111 rfl) rfl rfl ⟨rfl, rfl⟩ dX5_left_1 rfl ?_
  refine V.if_neB hC 9 dX5_left_4 (by decide) (fun c_1 => ?_) (fun c_1 => ?_)
  · refine V.aload_n hC dX5_left_9 rfl ?_
    refine gfX5_7 hG hC dX5_left_10 ?_
    refine V.iconst hC 4 dX5_left_13 (by decide) ?_
    refine V.ialdN hC (4) (hG.at 112 rfl) rfl al112 (rfl) (by omega) dX5_left_14 ?_
    refine V.iconst hC 1 dX5_left_15 (by decide) ?_
    refine V.icmp_ne hC 35 dX5_left_16 (by decide) (fun c_2 => ?_) (fun c_2 => ?_)
    · refine V.aload_n hC dX5_left_35 rfl ?_
      refine gfX5_7 hG hC dX5_left_36 ?_
      refine V.iconst hC 3 dX5_left_39 (by decide) ?_
      refine V.ialdN hC (3) (hG.at 112 rfl) rfl al112 (rfl) (by omega) dX5_left_40 ?_
      refine V.istore_n hC dX5_left_41 rfl rfl ?_
      refine V.iload_n hC dX5_left_42 rfl ?_
      refine V.aload_n hC dX5_left_43 rfl ?_
      refine gfX5_7 hG hC dX5_left_44 ?_
      refine V.bipush hC 7 dX5_left_47 (by decide) ?_
      refine V.ialdN hC (7) (hG.at 112 rfl) rfl al112 (rfl) (by omega) dX5_left_49 ?_
      refine V.iadd hC dX5_left_50 ?_
      refine V.iconst hC 1 dX5_left_51 (by decide) ?_
      refine V.isub hC dX5_left_52 ?_
      refine V.aload_n hC dX5_left_53 rfl ?_
      refine gfX5_7 hG hC dX5_left_54 ?_
      refine V.bipush hC 7 dX5_left_57 (by decide) ?_
      refine V.ialdN hC (7) (hG.at 112 rfl) rfl al112 (rfl) (by omega) dX5_left_59 ?_
      refine V.idiv hC dX5_left_60 (hz) ?_
      refine V.istore_n hC dX5_left_61 rfl rfl ?_
      refine V.iload_n hC dX5_left_62 rfl ?_
      refine V.iload_n hC dX5_left_63 rfl ?_
      refine V.iadd hC dX5_left_64 ?_
      refine V.aload_n hC dX5_left_65 rfl ?_
      refine gfX5_7 hG hC dX5_left_66 ?_
      refine V.bipush hC 8 dX5_left_69 (by decide) ?_
      refine V.ialdN hC (8) (hG.at 112 rfl) rfl al112 (rfl) (by omega) dX5_left_71 ?_
      refine V.iconst hC 1 dX5_left_72 (by decide) ?_
      refine V.icmp_ne hC 80 dX5_left_73 (by decide) (fun c_3 => ?_) (fun c_3 => ?_)
      · refine V.iconst hC 0 dX5_left_80 (by decide) ?_
        refine V.iadd hC dX5_left_81 ?_
        refine V.istore_n hC dX5_left_82 rfl rfl ?_
        refine V.iload_n hC dX5_left_83 rfl ?_
        refine V.aload_n hC dX5_left_84 rfl ?_
        refine gfX5_7 hG hC dX5_left_85 ?_
        refine V.iconst hC 5 dX5_left_88 (by decide) ?_
        refine V.ialdN hC (5) (hG.at 112 rfl) rfl al112 (rfl) (by omega) dX5_left_89 ?_
        refine V.isub hC dX5_left_90 ?_
        refine V.aload_n hC dX5_left_91 rfl ?_
        refine gfX5_7 hG hC dX5_left_92 ?_
        refine V.bipush hC 6 dX5_left_95 (by decide) ?_
        refine V.ialdN hC (6) (hG.at 112 rfl) rfl al112 (rfl) (by omega) dX5_left_97 ?_
        refine V.if_le hC 105 dX5_left_98 (by decide) (fun c_4 => ?_) (fun c_4 => ?_)
        · refine V.iconst hC 0 dX5_left_105 (by decide) ?_
          refine V.isub hC dX5_left_106 ?_
          exact V.iret hC (by first | (simp [mLeft, mRest, mZones, c_1, c_2, c_3, c_4, dk_le1 c_4]; done) | (simp_all [mLeft, mRest, mZones]; done)) dX5_left_107
        · refine V.iconst hC 1 dX5_left_101 (by decide) ?_
          refine V.goto hC 106 dX5_left_102 (by decide) ?_
          refine V.isub hC dX5_left_106 ?_
          exact V.iret hC (by first | (simp [mLeft, mRest, mZones, c_1, c_2, c_3, c_4, dk_nle c_4]; done) | (simp_all [mLeft, mRest, mZones]; done)) dX5_left_107
      · refine V.iload_n hC dX5_left_76 rfl ?_
        refine V.goto hC 81 dX5_left_77 (by decide) ?_
        refine V.iadd hC dX5_left_81 ?_
        refine V.istore_n hC dX5_left_82 rfl rfl ?_
        refine V.iload_n hC dX5_left_83 rfl ?_
        refine V.aload_n hC dX5_left_84 rfl ?_
        refine gfX5_7 hG hC dX5_left_85 ?_
        refine V.iconst hC 5 dX5_left_88 (by decide) ?_
        refine V.ialdN hC (5) (hG.at 112 rfl) rfl al112 (rfl) (by omega) dX5_left_89 ?_
        refine V.isub hC dX5_left_90 ?_
        refine V.aload_n hC dX5_left_91 rfl ?_
        refine gfX5_7 hG hC dX5_left_92 ?_
        refine V.bipush hC 6 dX5_left_95 (by decide) ?_
        refine V.ialdN hC (6) (hG.at 112 rfl) rfl al112 (rfl) (by omega) dX5_left_97 ?_
        refine V.if_le hC 105 dX5_left_98 (by decide) (fun c_4 => ?_) (fun c_4 => ?_)
        · refine V.iconst hC 0 dX5_left_105 (by decide) ?_
          refine V.isub hC dX5_left_106 ?_
          exact V.iret hC (by first | (simp [mLeft, mRest, mZones, c_1, c_2, c_3, c_4, dk_le1 c_4]; done) | (simp_all [mLeft, mRest, mZones]; done)) dX5_left_107
        · refine V.iconst hC 1 dX5_left_101 (by decide) ?_
          refine V.goto hC 106 dX5_left_102 (by decide) ?_
          refine V.isub hC dX5_left_106 ?_
          exact V.iret hC (by first | (simp [mLeft, mRest, mZones, c_1, c_2, c_3, c_4, dk_nle c_4]; done) | (simp_all [mLeft, mRest, mZones]; done)) dX5_left_107
    · refine V.aload_n hC dX5_left_19 rfl ?_
      refine gfX5_7 hG hC dX5_left_20 ?_
      refine V.iconst hC 0 dX5_left_23 (by decide) ?_
      refine V.ialdN hC (0) (hG.at 112 rfl) rfl al112 (rfl) (by omega) dX5_left_24 ?_
      refine V.aload_n hC dX5_left_25 rfl ?_
      refine gfX5_7 hG hC dX5_left_26 ?_
      refine V.iconst hC 3 dX5_left_29 (by decide) ?_
      refine V.ialdN hC (3) (hG.at 112 rfl) rfl al112 (rfl) (by omega) dX5_left_30 ?_
      refine V.isub hC dX5_left_31 ?_
      refine V.goto hC 41 dX5_left_32 (by decide) ?_
      refine V.istore_n hC dX5_left_41 rfl rfl ?_
      refine V.iload_n hC dX5_left_42 rfl ?_
      refine V.aload_n hC dX5_left_43 rfl ?_
      refine gfX5_7 hG hC dX5_left_44 ?_
      refine V.bipush hC 7 dX5_left_47 (by decide) ?_
      refine V.ialdN hC (7) (hG.at 112 rfl) rfl al112 (rfl) (by omega) dX5_left_49 ?_
      refine V.iadd hC dX5_left_50 ?_
      refine V.iconst hC 1 dX5_left_51 (by decide) ?_
      refine V.isub hC dX5_left_52 ?_
      refine V.aload_n hC dX5_left_53 rfl ?_
      refine gfX5_7 hG hC dX5_left_54 ?_
      refine V.bipush hC 7 dX5_left_57 (by decide) ?_
      refine V.ialdN hC (7) (hG.at 112 rfl) rfl al112 (rfl) (by omega) dX5_left_59 ?_
      refine V.idiv hC dX5_left_60 (hz) ?_
      refine V.istore_n hC dX5_left_61 rfl rfl ?_
      refine V.iload_n hC dX5_left_62 rfl ?_
      refine V.iload_n hC dX5_left_63 rfl ?_
      refine V.iadd hC dX5_left_64 ?_
      refine V.aload_n hC dX5_left_65 rfl ?_
      refine gfX5_7 hG hC dX5_left_66 ?_
      refine V.bipush hC 8 dX5_left_69 (by decide) ?_
      refine V.ialdN hC (8) (hG.at 112 rfl) rfl al112 (rfl) (by omega) dX5_left_71 ?_
      refine V.iconst hC 1 dX5_left_72 (by decide) ?_
      refine V.icmp_ne hC 80 dX5_left_73 (by decide) (fun c_3 => ?_) (fun c_3 => ?_)
      · refine V.iconst hC 0 dX5_left_80 (by decide) ?_
        refine V.iadd hC dX5_left_81 ?_
        refine V.istore_n hC dX5_left_82 rfl rfl ?_
        refine V.iload_n hC dX5_left_83 rfl ?_
        refine V.aload_n hC dX5_left_84 rfl ?_
        refine gfX5_7 hG hC dX5_left_85 ?_
        refine V.iconst hC 5 dX5_left_88 (by decide) ?_
        refine V.ialdN hC (5) (hG.at 112 rfl) rfl al112 (rfl) (by omega) dX5_left_89 ?_
        refine V.isub hC dX5_left_90 ?_
        refine V.aload_n hC dX5_left_91 rfl ?_
        refine gfX5_7 hG hC dX5_left_92 ?_
        refine V.bipush hC 6 dX5_left_95 (by decide) ?_
        refine V.ialdN hC (6) (hG.at 112 rfl) rfl al112 (rfl) (by omega) dX5_left_97 ?_
        refine V.if_le hC 105 dX5_left_98 (by decide) (fun c_4 => ?_) (fun c_4 => ?_)
        · refine V.iconst hC 0 dX5_left_105 (by decide) ?_
          refine V.isub hC dX5_left_106 ?_
          exact V.iret hC (by first | (simp [mLeft, mRest, mZones, c_1, c_2, c_3, c_4, dk_le1 c_4]; done) | (simp_all [mLeft, mRest, mZones]; done)) dX5_left_107
        · refine V.iconst hC 1 dX5_left_101 (by decide) ?_
          refine V.goto hC 106 dX5_left_102 (by decide) ?_
          refine V.isub hC dX5_left_106 ?_
          exact V.iret hC (by first | (simp [mLeft, mRest, mZones, c_1, c_2, c_3, c_4, dk_nle c_4]; done) | (simp_all [mLeft, mRest, mZones]; done)) dX5_left_107
      · refine V.iload_n hC dX5_left_76 rfl ?_
        refine V.goto hC 81 dX5_left_77 (by decide) ?_
        refine V.iadd hC dX5_left_81 ?_
        refine V.istore_n hC dX5_left_82 rfl rfl ?_
        refine V.iload_n hC dX5_left_83 rfl ?_
        refine V.aload_n hC dX5_left_84 rfl ?_
        refine gfX5_7 hG hC dX5_left_85 ?_
        refine V.iconst hC 5 dX5_left_88 (by decide) ?_
        refine V.ialdN hC (5) (hG.at 112 rfl) rfl al112 (rfl) (by omega) dX5_left_89 ?_
        refine V.isub hC dX5_left_90 ?_
        refine V.aload_n hC dX5_left_91 rfl ?_
        refine gfX5_7 hG hC dX5_left_92 ?_
        refine V.bipush hC 6 dX5_left_95 (by decide) ?_
        refine V.ialdN hC (6) (hG.at 112 rfl) rfl al112 (rfl) (by omega) dX5_left_97 ?_
        refine V.if_le hC 105 dX5_left_98 (by decide) (fun c_4 => ?_) (fun c_4 => ?_)
        · refine V.iconst hC 0 dX5_left_105 (by decide) ?_
          refine V.isub hC dX5_left_106 ?_
          exact V.iret hC (by first | (simp [mLeft, mRest, mZones, c_1, c_2, c_3, c_4, dk_le1 c_4]; done) | (simp_all [mLeft, mRest, mZones]; done)) dX5_left_107
        · refine V.iconst hC 1 dX5_left_101 (by decide) ?_
          refine V.goto hC 106 dX5_left_102 (by decide) ?_
          refine V.isub hC dX5_left_106 ?_
          exact V.iret hC (by first | (simp [mLeft, mRest, mZones, c_1, c_2, c_3, c_4, dk_nle c_4]; done) | (simp_all [mLeft, mRest, mZones]; done)) dX5_left_107
  · refine V.iconst hC 0 dX5_left_7 (by decide) ?_
    exact V.iret hC (by first | (simp [mLeft, mRest, mZones, c_1]; done) | (simp_all [mLeft, mRest, mZones]; done)) dX5_left_8
set_option maxHeartbeats 2000000 in
set_option maxRecDepth 20000 in
theorem c_X5_fails {l : Launch} {G : dkG}  {M : dkM} (hG : dk_mdl G)  : dk_Con l yX5_fails cX5_fails 2 none 1 21 G [.ref (G.1 + 111)] M (none, mFails M) := by
  refine dk_Con.of mwX5_fails.1 (Nat.le_of_ble_eq_true rfl) (fun E hE hC => ?_)
  subst hE
  have loop_2 : ∀ (n : Nat) (k : Nat), (k ≤ 64) → (64 < k + n) →  V E G 2 (none, mFails M) (mFlL M k) 2 [(0, some (.ref (G.1 + 111))), (1, some (.int (nI k)))] [] := by
    intro n
    induction n with
    | zero => intro k hk hn; exact absurd hn (by omega)
    | succ n ih_2 =>
      intro k hk hn
      refine V.iload_n hC dX5_fails_2 rfl ?_
      refine V.bipush hC 64 dX5_fails_3 (by decide) ?_
      refine V.icmp_ge hC 72 dX5_fails_5 (by decide) (fun c_1 => ?_) (fun c_1 => ?_)
      · have hke : k = 64 := by have hc := c_1; have := (dk_gek (k := k) (x := nI 64) (by omega)).mp hc; rw [ix_nI (by omega)] at this; omega
        refine V.aload_n hC dX5_fails_72 rfl ?_
        refine V.callV0v hC (c_X5_closes hG) mwX5_closes mlX5_49 (hG.at 111 rfl) rfl rfl ⟨rfl, rfl⟩ dX5_fails_73 rfl ?_
        refine V.aload_n hC dX5_fails_76 rfl ?_
        refine gfX5_7 hG hC dX5_fails_77 ?_
        refine V.bipush hC 10 dX5_fails_80 (by decide) ?_
        refine V.dup2 hC dX5_fails_82 rfl rfl ?_
        refine V.ialdN hC (10) (hG.at 112 rfl) rfl al112 (rfl) (by omega) dX5_fails_83 ?_
        refine V.iconst hC 1 dX5_fails_84 (by decide) ?_
        refine V.iadd hC dX5_fails_85 ?_
        refine V.iastN hC (10) (hG.at 112 rfl) rfl al112 (rfl) (by omega) dX5_fails_86 ?_
        exact V.vret hC (by rw [hke]; rfl) dX5_fails_87
      · have hkl : k < 64 := by have hc := c_1; have := mt (dk_gek (k := k) (x := nI 64) (by omega)).mpr hc; rw [ix_nI (by omega)] at this; omega
        refine V.aload_n hC dX5_fails_8 rfl ?_
        refine gfX5_7 hG hC dX5_fails_9 ?_
        refine V.sipush hC 239 dX5_fails_12 (by decide) ?_
        refine V.iload_n hC dX5_fails_15 rfl ?_
        refine V.iadd hC dX5_fails_16 ?_
        refine V.bipush hC (-6) dX5_fails_17 (by decide) ?_
        refine V.iastN hC (239 + k) (hG.at 112 rfl) rfl al112 (dk_addN (rfl) (rfl)) (by omega) dX5_fails_19 ?_
        refine V.aload_n hC dX5_fails_20 rfl ?_
        refine gfX5_7 hG hC dX5_fails_21 ?_
        refine V.bipush hC 111 dX5_fails_24 (by decide) ?_
        refine V.iload_n hC dX5_fails_26 rfl ?_
        refine V.iadd hC dX5_fails_27 ?_
        refine V.aload_n hC dX5_fails_28 rfl ?_
        refine gfX5_7 hG hC dX5_fails_29 ?_
        refine V.sipush hC 175 dX5_fails_32 (by decide) ?_
        refine V.iload_n hC dX5_fails_35 rfl ?_
        refine V.iadd hC dX5_fails_36 ?_
        refine V.ialdN hC (175 + k) (hG.at 112 rfl) rfl al112 (dk_addN (rfl) (rfl)) (by omega) dX5_fails_37 ?_
        refine V.bipush hC (-6) dX5_fails_38 (by decide) ?_
        refine V.icmp_ne hC 55 dX5_fails_40 (by decide) (fun c_2 => ?_) (fun c_2 => ?_)
        · refine V.aload_n hC dX5_fails_55 rfl ?_
          refine gfX5_7 hG hC dX5_fails_56 ?_
          refine V.sipush hC 175 dX5_fails_59 (by decide) ?_
          refine V.iload_n hC dX5_fails_62 rfl ?_
          refine V.iadd hC dX5_fails_63 ?_
          refine V.ialdN hC (175 + k) (hG.at 112 rfl) rfl al112 (dk_addN (rfl) (rfl)) (by omega) dX5_fails_64 ?_
          refine V.iastN hC (111 + k) (hG.at 112 rfl) rfl al112 (dk_addN (rfl) (rfl)) (by omega) dX5_fails_65 ?_
          refine V.iinc hC dX5_fails_66 rfl (dk_incN _) rfl ?_
          refine V.goto hC 2 dX5_fails_69 (by decide) ?_
          refine V.eqM (show _ = mFlL M (k + 1) from by first | rw [mFlL, if_pos c_2] | rw [mFlL, if_neg c_2]) ?_
          exact V.sub (dk_sc rfl (dk_sc rfl (dk_sn))) (ih_2 (k + 1) (by omega) (by omega))
        · refine V.aload_n hC dX5_fails_43 rfl ?_
          refine gfX5_7 hG hC dX5_fails_44 ?_
          refine V.bipush hC 111 dX5_fails_47 (by decide) ?_
          refine V.iload_n hC dX5_fails_49 rfl ?_
          refine V.iadd hC dX5_fails_50 ?_
          refine V.ialdN hC (111 + k) (hG.at 112 rfl) rfl al112 (dk_addN (rfl) (rfl)) (by omega) dX5_fails_51 ?_
          refine V.goto hC 65 dX5_fails_52 (by decide) ?_
          refine V.iastN hC (111 + k) (hG.at 112 rfl) rfl al112 (dk_addN (rfl) (rfl)) (by omega) dX5_fails_65 ?_
          refine V.iinc hC dX5_fails_66 rfl (dk_incN _) rfl ?_
          refine V.goto hC 2 dX5_fails_69 (by decide) ?_
          refine V.eqM (show _ = mFlL M (k + 1) from by first | rw [mFlL, if_pos c_2] | rw [mFlL, if_neg c_2]) ?_
          exact V.sub (dk_sc rfl (dk_sc rfl (dk_sn))) (ih_2 (k + 1) (by omega) (by omega))
  refine V.iconst hC 0 dX5_fails_0 (by decide) ?_
  refine V.istore_n hC dX5_fails_1 rfl rfl ?_
  exact V.sub (dk_sc rfl (dk_sc rfl (dk_sn))) (loop_2 65 0 (Nat.zero_le _) (by omega))
set_option maxHeartbeats 2000000 in
set_option maxRecDepth 20000 in
theorem c_X5_damagedMany {l : Launch} {G : dkG}  {M : dkM} (hG : dk_mdl G) (hI : mI M) : dk_Con l yX5_damagedMany cX5_damagedMany 3 (some .int) 7 148 G [.ref (G.1 + 111)] M (some (.int (nI (mDam M))), M) := by
  refine dk_Con.of mwX5_damagedMany.1 (Nat.le_of_ble_eq_true rfl) (fun E hE hC => ?_)
  subst hE
  have hs6 := hI.sec
  obtain ⟨N, hN⟩ : ∃ N, ix (M 112 0) = N := ⟨_, rfl⟩
  rw [hN] at hs6
  have loop_4 : ∀ (n : Nat) (k : Nat), (k ≤ N) → (N < k + n) →  V E G 3 (some (.int (nI (mDam M))), M) (M) 4 [(0, some (.ref (G.1 + 111))), (1, some (.int (nI (mDamN M k)))), (2, some (.int (nI k)))] [] := by
    intro n
    induction n with
    | zero => intro k hk hn; exact absurd hn (by omega)
    | succ n ih_4 =>
      intro k hk hn
      refine V.iload_n hC dX5_damagedMany_4 rfl ?_
      refine V.aload_n hC dX5_damagedMany_5 rfl ?_
      refine gfX5_7 hG hC dX5_damagedMany_6 ?_
      refine V.iconst hC 0 dX5_damagedMany_9 (by decide) ?_
      refine V.ialdN hC (0) (hG.at 112 rfl) rfl al112 (rfl) (by omega) dX5_damagedMany_10 ?_
      refine V.icmp_ge hC 46 dX5_damagedMany_11 (by decide) (fun c_1 => ?_) (fun c_1 => ?_)
      · have hke : k = N := by have := (dk_gek (k := k) (by omega)).mp c_1; omega
        subst hke
        refine V.iload_n hC dX5_damagedMany_46 rfl ?_
        exact V.iret hC (by unfold mDam; rw [hN]) dX5_damagedMany_47
      · have hkl : k < N := by have := mt (dk_gek (k := k) (by omega)).mpr c_1; omega
        refine V.iload_n hC dX5_damagedMany_14 rfl ?_
        refine V.aload_n hC dX5_damagedMany_15 rfl ?_
        refine V.iload_n hC dX5_damagedMany_16 rfl ?_
        refine V.callV1i hC (c_X5_valueOf hG hI (by omega)) mwX5_valueOf mlX5_90 (hG.at 111 rfl) rfl rfl ⟨rfl, rfl⟩ dX5_damagedMany_17 rfl ?_
        refine V.aload_n hC dX5_damagedMany_20 rfl ?_
        refine gfX5_7 hG hC dX5_damagedMany_21 ?_
        refine V.sipush hC 303 dX5_damagedMany_24 (by decide) ?_
        refine V.iload_n hC dX5_damagedMany_27 rfl ?_
        refine V.iadd hC dX5_damagedMany_28 ?_
        refine V.ialdN hC (303 + k) (hG.at 112 rfl) rfl al112 (dk_addN (rfl) (rfl)) (by omega) dX5_damagedMany_29 ?_
        refine V.icmp_ne hC 37 dX5_damagedMany_30 (by decide) (fun c_2 => ?_) (fun c_2 => ?_)
        · refine V.iconst hC 1 dX5_damagedMany_37 (by decide) ?_
          refine V.iadd hC dX5_damagedMany_38 ?_
          refine V.istore_n hC dX5_damagedMany_39 rfl rfl ?_
          refine V.iinc hC dX5_damagedMany_40 rfl (dk_incN _) rfl ?_
          refine V.goto hC 4 dX5_damagedMany_43 (by decide) ?_
          refine V.sub ?_ (ih_4 (k + 1) (by omega) (by omega))
          exact dk_sc rfl (dk_sc (cntA (p := fun k => mVal M k != M 112 (303 + k)) (by simp [c_2])) (dk_sc rfl (dk_sn)))
        · refine V.iconst hC 0 dX5_damagedMany_33 (by decide) ?_
          refine V.goto hC 38 dX5_damagedMany_34 (by decide) ?_
          refine V.iadd hC dX5_damagedMany_38 ?_
          refine V.istore_n hC dX5_damagedMany_39 rfl rfl ?_
          refine V.iinc hC dX5_damagedMany_40 rfl (dk_incN _) rfl ?_
          refine V.goto hC 4 dX5_damagedMany_43 (by decide) ?_
          refine V.sub ?_ (ih_4 (k + 1) (by omega) (by omega))
          exact dk_sc rfl (dk_sc (cntA (p := fun k => mVal M k != M 112 (303 + k)) (by simp [c_2])) (dk_sc rfl (dk_sn)))
  refine V.iconst hC 0 dX5_damagedMany_0 (by decide) ?_
  refine V.istore_n hC dX5_damagedMany_1 rfl rfl ?_
  refine V.iconst hC 0 dX5_damagedMany_2 (by decide) ?_
  refine V.istore_n hC dX5_damagedMany_3 rfl rfl ?_
  exact V.sub (dk_sc rfl (dk_sc rfl (dk_sc rfl (dk_sn)))) (loop_4 (N + 1) 0 (Nat.zero_le _) (by omega))
set_option maxHeartbeats 2000000 in
set_option maxRecDepth 20000 in
theorem c_X5_cachedMany {l : Launch} {G : dkG}  {M : dkM} (hG : dk_mdl G) (hs6 : ix (M 112 0) ≤ 64) : dk_Con l yX5_cachedMany cX5_cachedMany 3 (some .int) 0 0 G [.ref (G.1 + 111)] M (some (.int (nI (mCached M))), M) := by
  refine dk_Con.of mwX5_cachedMany.1 (Nat.le_of_ble_eq_true rfl) (fun E hE hC => ?_)
  subst hE
  obtain ⟨N, hN⟩ : ∃ N, ix (M 112 0) = N := ⟨_, rfl⟩
  rw [hN] at hs6
  have loop_4 : ∀ (n : Nat) (k : Nat), (k ≤ N) → (N < k + n) →  V E G 3 (some (.int (nI (mCached M))), M) (M) 4 [(0, some (.ref (G.1 + 111))), (1, some (.int (nI (mCachedN M k)))), (2, some (.int (nI k)))] [] := by
    intro n
    induction n with
    | zero => intro k hk hn; exact absurd hn (by omega)
    | succ n ih_4 =>
      intro k hk hn
      refine V.iload_n hC dX5_cachedMany_4 rfl ?_
      refine V.aload_n hC dX5_cachedMany_5 rfl ?_
      refine gfX5_7 hG hC dX5_cachedMany_6 ?_
      refine V.iconst hC 0 dX5_cachedMany_9 (by decide) ?_
      refine V.ialdN hC (0) (hG.at 112 rfl) rfl al112 (rfl) (by omega) dX5_cachedMany_10 ?_
      refine V.icmp_ge hC 43 dX5_cachedMany_11 (by decide) (fun c_1 => ?_) (fun c_1 => ?_)
      · have hke : k = N := by have := (dk_gek (k := k) (by omega)).mp c_1; omega
        subst hke
        refine V.iload_n hC dX5_cachedMany_43 rfl ?_
        exact V.iret hC (by unfold mCached; rw [hN]) dX5_cachedMany_44
      · have hkl : k < N := by have := mt (dk_gek (k := k) (by omega)).mpr c_1; omega
        refine V.iload_n hC dX5_cachedMany_14 rfl ?_
        refine V.aload_n hC dX5_cachedMany_15 rfl ?_
        refine gfX5_7 hG hC dX5_cachedMany_16 ?_
        refine V.sipush hC 239 dX5_cachedMany_19 (by decide) ?_
        refine V.iload_n hC dX5_cachedMany_22 rfl ?_
        refine V.iadd hC dX5_cachedMany_23 ?_
        refine V.ialdN hC (239 + k) (hG.at 112 rfl) rfl al112 (dk_addN (rfl) (rfl)) (by omega) dX5_cachedMany_24 ?_
        refine V.bipush hC (-6) dX5_cachedMany_25 (by decide) ?_
        refine V.icmp_ne hC 34 dX5_cachedMany_27 (by decide) (fun c_2 => ?_) (fun c_2 => ?_)
        · refine V.iconst hC 1 dX5_cachedMany_34 (by decide) ?_
          refine V.iadd hC dX5_cachedMany_35 ?_
          refine V.istore_n hC dX5_cachedMany_36 rfl rfl ?_
          refine V.iinc hC dX5_cachedMany_37 rfl (dk_incN _) rfl ?_
          refine V.goto hC 4 dX5_cachedMany_40 (by decide) ?_
          refine V.sub ?_ (ih_4 (k + 1) (by omega) (by omega))
          exact dk_sc rfl (dk_sc (cntA (p := fun k => M 112 (239 + k) != -6) (by simp [c_2])) (dk_sc rfl (dk_sn)))
        · refine V.iconst hC 0 dX5_cachedMany_30 (by decide) ?_
          refine V.goto hC 35 dX5_cachedMany_31 (by decide) ?_
          refine V.iadd hC dX5_cachedMany_35 ?_
          refine V.istore_n hC dX5_cachedMany_36 rfl rfl ?_
          refine V.iinc hC dX5_cachedMany_37 rfl (dk_incN _) rfl ?_
          refine V.goto hC 4 dX5_cachedMany_40 (by decide) ?_
          refine V.sub ?_ (ih_4 (k + 1) (by omega) (by omega))
          exact dk_sc rfl (dk_sc (cntA (p := fun k => M 112 (239 + k) != -6) (by simp [c_2])) (dk_sc rfl (dk_sn)))
  refine V.iconst hC 0 dX5_cachedMany_0 (by decide) ?_
  refine V.istore_n hC dX5_cachedMany_1 rfl rfl ?_
  refine V.iconst hC 0 dX5_cachedMany_2 (by decide) ?_
  refine V.istore_n hC dX5_cachedMany_3 rfl rfl ?_
  exact V.sub (dk_sc rfl (dk_sc rfl (dk_sc rfl (dk_sn)))) (loop_4 (N + 1) 0 (Nat.zero_le _) (by omega))
