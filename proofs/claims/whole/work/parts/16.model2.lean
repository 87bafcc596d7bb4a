set_option maxHeartbeats 2000000 in
set_option maxRecDepth 20000 in
theorem c_X5_format {l : Launch} {G : dkG}  {M : dkM} (hG : dk_mdl G) {m : Int32} (hI : mI M) (hR : rI M) : dk_Con l yX5_format cX5_format 3 (some .int) 3 63 G [.ref (G.1 + 111), .int m] M (some (.int (mFormat M m).1), (mFormat M m).2) := by
  refine dk_Con.of mwX5_format.1 (Nat.le_of_ble_eq_true rfl) (fun E hE hC => ?_)
  subst hE
  refine V.iload_n hC dX5_format_0 rfl ?_
  refine V.iconst hC 4 dX5_format_1 (by decide) ?_
  refine V.bipush hC 64 dX5_format_2 (by decide) ?_
  refine V.callS3i hC (c_X5_within) mwX5_within mlX5_52 ⟨rfl, rfl⟩ dX5_format_4 rfl ?_
  refine V.if_neB hC 13 dX5_format_7 (by decide) (fun c_1 => ?_) (fun c_1 => ?_)
  · refine V.aload_n hC dX5_format_13 rfl ?_
    refine V.callV0v hC (c_X5_record hG hR) mwX5_record mlX5_93 (hG.at 111 rfl) rfl rfl ⟨rfl, rfl⟩ dX5_format_14 rfl ?_
    refine V.aload_n hC dX5_format_17 rfl ?_
    refine gfX5_7 hG hC dX5_format_18 ?_
    refine V.iconst hC 0 dX5_format_21 (by decide) ?_
    refine V.ialdN hC (0) (hG.at 112 rfl) rfl al112 (rfl) (by omega) dX5_format_22 ?_
    refine V.top (x' := .int (M 112 0)) (by rw [mRec_st]) ?_
    refine V.istore_n hC dX5_format_23 rfl rfl ?_
    refine V.aload_n hC dX5_format_24 rfl ?_
    refine V.iload_n hC dX5_format_25 rfl ?_
    refine V.callV1v hC (c_X5_formats hG (by rw [mRec_st]; exact hI.2.1)) mwX5_formats mlX5_28 (hG.at 111 rfl) rfl rfl ⟨rfl, rfl⟩ dX5_format_26 rfl ?_
    refine V.iload_n hC dX5_format_29 rfl ?_
    exact V.iret hC (by first | (simp [mFormat, c_1]; done) | (simp_all [mFormat]; done)) dX5_format_30
  · refine V.bipush hC (-2) dX5_format_10 (by decide) ?_
    exact V.iret hC (by first | (simp [mFormat, c_1]; done) | (simp_all [mFormat]; done)) dX5_format_12
set_option maxHeartbeats 2000000 in
set_option maxRecDepth 20000 in
theorem c_X5_addKey {l : Launch} {G : dkG}  {M : dkM} (hG : dk_mdl G) {k : Int32} {c : Int32} (hR : rI M) : dk_Con l yX5_addKey cX5_addKey 3 (some .int) 2 45 G [.ref (G.1 + 111), .int k, .int c] M (some (.int (mAdd M k c).1), (mAdd M k c).2) := by
  refine dk_Con.of mwX5_addKey.1 (Nat.le_of_ble_eq_true rfl) (fun E hE hC => ?_)
  subst hE
  refine V.iload_n hC dX5_addKey_0 rfl ?_
  refine V.iconst hC 1 dX5_addKey_1 (by decide) ?_
  refine V.bipush hC 99 dX5_addKey_2 (by decide) ?_
  refine V.callS3i hC (c_X5_within) mwX5_within mlX5_52 ⟨rfl, rfl⟩ dX5_addKey_4 rfl ?_
  refine V.if_eqB hC 20 dX5_addKey_7 (by decide) (fun c_1 => ?_) (fun c_1 => ?_)
  · refine V.bipush hC (-2) dX5_addKey_20 (by decide) ?_
    exact V.iret hC (by first | (simp [mAdd, mAddM, c_1]; done) | (simp_all [mAdd, mAddM]; done)) dX5_addKey_22
  · refine V.iload_n hC dX5_addKey_10 rfl ?_
    refine V.iconst hC 0 dX5_addKey_11 (by decide) ?_
    refine V.ldc hC klX5_41 dX5_addKey_12 ?_
    refine V.callS3i hC (c_X5_within) mwX5_within mlX5_52 ⟨rfl, rfl⟩ dX5_addKey_14 rfl ?_
    refine V.if_neB hC 23 dX5_addKey_17 (by decide) (fun c_2 => ?_) (fun c_2 => ?_)
    · refine V.aload_n hC dX5_addKey_23 rfl ?_
      refine V.iload_n hC dX5_addKey_24 rfl ?_
      refine V.callV1i hC (c_X5_isKey hG) mwX5_isKey mlX5_96 (hG.at 111 rfl) rfl rfl ⟨rfl, rfl⟩ dX5_addKey_25 rfl ?_
      refine V.if_eqB hC 34 dX5_addKey_28 (by decide) (fun c_3 => ?_) (fun c_3 => ?_)
      · refine V.aload_n hC dX5_addKey_34 rfl ?_
        refine V.callV0i hC (c_X5_keysMany hG) mwX5_keysMany mlX5_99 (hG.at 111 rfl) rfl rfl ⟨rfl, rfl⟩ dX5_addKey_35 rfl ?_
        refine V.bipush hC 8 dX5_addKey_38 (by decide) ?_
        refine V.icmp_ne hC 46 dX5_addKey_40 (by decide) (fun c_4 => ?_) (fun c_4 => ?_)
        · refine V.aload_n hC dX5_addKey_46 rfl ?_
          refine V.callV0v hC (c_X5_record hG hR) mwX5_record mlX5_93 (hG.at 111 rfl) rfl rfl ⟨rfl, rfl⟩ dX5_addKey_47 rfl ?_
          refine V.aload_n hC dX5_addKey_50 rfl ?_
          refine gfX5_7 hG hC dX5_addKey_51 ?_
          refine V.bipush hC 11 dX5_addKey_54 (by decide) ?_
          refine V.iload_n hC dX5_addKey_56 rfl ?_
          refine V.iadd hC dX5_addKey_57 ?_
          refine V.iload_n hC dX5_addKey_58 rfl ?_
          refine V.iastN hC (11 + ix k) (hG.at 112 rfl) rfl al112 (dk_addN rfl (mW_k c_1).1) (by have := (mW_k c_1).2; omega) dX5_addKey_59 ?_
          refine V.aload_n hC dX5_addKey_60 rfl ?_
          refine V.callV0i hC (c_X5_keysMany hG) mwX5_keysMany mlX5_99 (hG.at 111 rfl) rfl rfl ⟨rfl, rfl⟩ dX5_addKey_61 rfl ?_
          exact V.iret hC (by first | (simp [mAdd, mAddM, c_1, c_2, c_3, c_4]; done) | (simp_all [mAdd, mAddM]; done)) dX5_addKey_64
        · refine V.bipush hC (-4) dX5_addKey_43 (by decide) ?_
          exact V.iret hC (by first | (simp [mAdd, mAddM, c_1, c_2, c_3, c_4]; done) | (simp_all [mAdd, mAddM]; done)) dX5_addKey_45
      · refine V.bipush hC (-3) dX5_addKey_31 (by decide) ?_
        exact V.iret hC (by first | (simp [mAdd, mAddM, c_1, c_2, c_3]; done) | (simp_all [mAdd, mAddM]; done)) dX5_addKey_33
    · refine V.bipush hC (-2) dX5_addKey_20 (by decide) ?_
      exact V.iret hC (by first | (simp [mAdd, mAddM, c_1, c_2]; done) | (simp_all [mAdd, mAddM]; done)) dX5_addKey_22
set_option maxHeartbeats 2000000 in
set_option maxRecDepth 20000 in
theorem c_X5_removeKey {l : Launch} {G : dkG}  {M : dkM} (hG : dk_mdl G) {k : Int32} (hR : rI M) : dk_Con l yX5_removeKey cX5_removeKey 2 (some .int) 2 45 G [.ref (G.1 + 111), .int k] M (some (.int (mRem M k).1), (mRem M k).2) := by
  refine dk_Con.of mwX5_removeKey.1 (Nat.le_of_ble_eq_true rfl) (fun E hE hC => ?_)
  subst hE
  refine V.aload_n hC dX5_removeKey_0 rfl ?_
  refine V.iload_n hC dX5_removeKey_1 rfl ?_
  refine V.callV1i hC (c_X5_isKey hG) mwX5_isKey mlX5_96 (hG.at 111 rfl) rfl rfl ⟨rfl, rfl⟩ dX5_removeKey_2 rfl ?_
  refine V.if_neB hC 10 dX5_removeKey_5 (by decide) (fun c_1 => ?_) (fun c_1 => ?_)
  · refine V.iload_n hC dX5_removeKey_10 rfl ?_
    refine V.aload_n hC dX5_removeKey_11 rfl ?_
    refine gfX5_7 hG hC dX5_removeKey_12 ?_
    refine V.iconst hC 1 dX5_removeKey_15 (by decide) ?_
    refine V.ialdN hC (1) (hG.at 112 rfl) rfl al112 (rfl) (by omega) dX5_removeKey_16 ?_
    refine V.icmp_eq hC 30 dX5_removeKey_17 (by decide) (fun c_2 => ?_) (fun c_2 => ?_)
    · refine V.bipush hC (-3) dX5_removeKey_30 (by decide) ?_
      exact V.iret hC (by first | (simp [mRem, mAddM, c_1, c_2]; done) | (simp_all [mRem, mAddM]; done)) dX5_removeKey_32
    · refine V.iload_n hC dX5_removeKey_20 rfl ?_
      refine V.aload_n hC dX5_removeKey_21 rfl ?_
      refine gfX5_7 hG hC dX5_removeKey_22 ?_
      refine V.iconst hC 2 dX5_removeKey_25 (by decide) ?_
      refine V.ialdN hC (2) (hG.at 112 rfl) rfl al112 (rfl) (by omega) dX5_removeKey_26 ?_
      refine V.icmp_ne hC 33 dX5_removeKey_27 (by decide) (fun c_3 => ?_) (fun c_3 => ?_)
      · refine V.aload_n hC dX5_removeKey_33 rfl ?_
        refine V.callV0v hC (c_X5_record hG hR) mwX5_record mlX5_93 (hG.at 111 rfl) rfl rfl ⟨rfl, rfl⟩ dX5_removeKey_34 rfl ?_
        refine V.aload_n hC dX5_removeKey_37 rfl ?_
        refine gfX5_7 hG hC dX5_removeKey_38 ?_
        refine V.bipush hC 11 dX5_removeKey_41 (by decide) ?_
        refine V.iload_n hC dX5_removeKey_43 rfl ?_
        refine V.iadd hC dX5_removeKey_44 ?_
        refine V.bipush hC (-6) dX5_removeKey_45 (by decide) ?_
        refine V.iastN hC (11 + ix k) (hG.at 112 rfl) rfl al112 (dk_addN rfl (mW_k (mIsKey_w c_1)).1) (by have := (mW_k (mIsKey_w c_1)).2; omega) dX5_removeKey_47 ?_
        refine V.aload_n hC dX5_removeKey_48 rfl ?_
        refine V.callV0i hC (c_X5_keysMany hG) mwX5_keysMany mlX5_99 (hG.at 111 rfl) rfl rfl ⟨rfl, rfl⟩ dX5_removeKey_49 rfl ?_
        exact V.iret hC (by first | (simp [mRem, mAddM, c_1, c_2, c_3]; done) | (simp_all [mRem, mAddM]; done)) dX5_removeKey_52
      · refine V.bipush hC (-3) dX5_removeKey_30 (by decide) ?_
        exact V.iret hC (by first | (simp [mRem, mAddM, c_1, c_2, c_3]; done) | (simp_all [mRem, mAddM]; done)) dX5_removeKey_32
  · refine V.iconst hC (-1) dX5_removeKey_8 (by decide) ?_
    exact V.iret hC (by first | (simp [mRem, mAddM, c_1]; done) | (simp_all [mRem, mAddM]; done)) dX5_removeKey_9
set_option maxHeartbeats 2000000 in
set_option maxRecDepth 20000 in
theorem c_X5_secretOf {l : Launch} {G : dkG}  {M : dkM} (hG : dk_mdl G) {k : Int32}  : dk_Con l yX5_secretOf cX5_secretOf 2 (some .int) 2 43 G [.ref (G.1 + 111), .int k] M (some (.int (mSecretOf M k)), M) := by
  refine dk_Con.of mwX5_secretOf.1 (Nat.le_of_ble_eq_true rfl) (fun E hE hC => ?_)
  subst hE
  refine V.aload_n hC dX5_secretOf_0 rfl ?_
  refine V.iload_n hC dX5_secretOf_1 rfl ?_
  refine V.callV1i hC (c_X5_isKey hG) mwX5_isKey mlX5_96 (hG.at 111 rfl) rfl rfl ⟨rfl, rfl⟩ dX5_secretOf_2 rfl ?_
  refine V.if_eqB hC 20 dX5_secretOf_5 (by decide) (fun c_1 => ?_) (fun c_1 => ?_)
  · refine V.iconst hC (-1) dX5_secretOf_20 (by decide) ?_
    exact V.iret hC (by first | (simp [mSecretOf, c_1]; done) | (simp_all [mSecretOf]; done)) dX5_secretOf_21
  · refine V.aload_n hC dX5_secretOf_8 rfl ?_
    refine gfX5_7 hG hC dX5_secretOf_9 ?_
    refine V.bipush hC 11 dX5_secretOf_12 (by decide) ?_
    refine V.iload_n hC dX5_secretOf_14 rfl ?_
    refine V.iadd hC dX5_secretOf_15 ?_
    refine V.ialdN hC (11 + ix k) (hG.at 112 rfl) rfl al112 (dk_addN rfl (mW_k (mIsKey_w c_1)).1) (by have := (mW_k (mIsKey_w c_1)).2; omega) dX5_secretOf_16 ?_
    refine V.goto hC 21 dX5_secretOf_17 (by decide) ?_
    exact V.iret hC (by first | (simp [mSecretOf, c_1]; done) | (simp_all [mSecretOf]; done)) dX5_secretOf_21
set_option maxHeartbeats 2000000 in
set_option maxRecDepth 20000 in
theorem c_X5_sets {l : Launch} {G : dkG}  {M : dkM} (hG : dk_mdl G) {v : Int32} (hR : rI M) (w : Nat) (hw : w < 11) : dk_Con l yX5_sets cX5_sets 4 (some .int) 2 45 G [.ref (G.1 + 111), .int (nI w), .int v] M (some (.int (mSets M w v).1), (mSets M w v).2) := by
  refine dk_Con.of mwX5_sets.1 (Nat.le_of_ble_eq_true rfl) (fun E hE hC => ?_)
  subst hE
  refine V.aload_n hC dX5_sets_0 rfl ?_
  refine V.callV0i hC (c_X5_isOpen hG) mwX5_isOpen mlX5_102 (hG.at 111 rfl) rfl rfl ⟨rfl, rfl⟩ dX5_sets_1 rfl ?_
  refine V.if_eqB hC 10 dX5_sets_4 (by decide) (fun c_1 => ?_) (fun c_1 => ?_)
  · refine V.aload_n hC dX5_sets_10 rfl ?_
    refine V.callV0v hC (c_X5_record hG hR) mwX5_record mlX5_93 (hG.at 111 rfl) rfl rfl ⟨rfl, rfl⟩ dX5_sets_11 rfl ?_
    refine V.aload_n hC dX5_sets_14 rfl ?_
    refine gfX5_7 hG hC dX5_sets_15 ?_
    refine V.iload_n hC dX5_sets_18 rfl ?_
    refine V.ialdN hC (w) (hG.at 112 rfl) rfl al112 (rfl) (by omega) dX5_sets_19 ?_
    refine V.top (x' := .int (M 112 w)) (by rw [mRec_st]) ?_
    refine V.istore_n hC dX5_sets_20 rfl rfl ?_
    refine V.aload_n hC dX5_sets_21 rfl ?_
    refine gfX5_7 hG hC dX5_sets_22 ?_
    refine V.iload_n hC dX5_sets_25 rfl ?_
    refine V.iload_n hC dX5_sets_26 rfl ?_
    refine V.iastN hC (w) (hG.at 112 rfl) rfl al112 (rfl) (by omega) dX5_sets_27 ?_
    refine V.iload_n hC dX5_sets_28 rfl ?_
    exact V.iret hC (by first | (simp [mSets, c_1]; done) | (simp_all [mSets]; done)) dX5_sets_29
  · refine V.bipush hC (-3) dX5_sets_7 (by decide) ?_
    exact V.iret hC (by first | (simp [mSets, c_1]; done) | (simp_all [mSets]; done)) dX5_sets_9
set_option maxHeartbeats 2000000 in
set_option maxRecDepth 20000 in
theorem c_X5_setZone {l : Launch} {G : dkG}  {M : dkM} (hG : dk_mdl G) {z : Int32} (hR : rI M) : dk_Con l yX5_setZone cX5_setZone 2 (some .int) 3 68 G [.ref (G.1 + 111), .int z] M (some (.int (mSetZone M z).1), (mSetZone M z).2) := by
  refine dk_Con.of mwX5_setZone.1 (Nat.le_of_ble_eq_true rfl) (fun E hE hC => ?_)
  subst hE
  refine V.iload_n hC dX5_setZone_0 rfl ?_
  refine V.iconst hC 1 dX5_setZone_1 (by decide) ?_
  refine V.bipush hC 8 dX5_setZone_2 (by decide) ?_
  refine V.callS3i hC (c_X5_within) mwX5_within mlX5_52 ⟨rfl, rfl⟩ dX5_setZone_4 rfl ?_
  refine V.if_eqB hC 20 dX5_setZone_7 (by decide) (fun c_1 => ?_) (fun c_1 => ?_)
  · refine V.bipush hC (-2) dX5_setZone_20 (by decide) ?_
    exact V.iret hC (by first | (simp [mSetZone, c_1]; done) | (simp_all [mSetZone]; done)) dX5_setZone_22
  · refine V.aload_n hC dX5_setZone_10 rfl ?_
    refine V.bipush hC 7 dX5_setZone_11 (by decide) ?_
    refine V.iload_n hC dX5_setZone_13 rfl ?_
    refine V.callV2i hC (c_X5_sets hG hR 7 (by decide)) mwX5_sets mlX5_105 (hG.at 111 rfl) rfl rfl ⟨rfl, rfl⟩ dX5_setZone_14 rfl ?_
    refine V.goto hC 22 dX5_setZone_17 (by decide) ?_
    exact V.iret hC (by first | (simp [mSetZone, c_1]; done) | (simp_all [mSetZone]; done)) dX5_setZone_22
set_option maxHeartbeats 2000000 in
set_option maxRecDepth 20000 in
theorem c_X5_setJournal {l : Launch} {G : dkG}  {M : dkM} (hG : dk_mdl G) {z : Int32} (hR : rI M) : dk_Con l yX5_setJournal cX5_setJournal 2 (some .int) 3 68 G [.ref (G.1 + 111), .int z] M (some (.int (mSetJ M z).1), (mSetJ M z).2) := by
  refine dk_Con.of mwX5_setJournal.1 (Nat.le_of_ble_eq_true rfl) (fun E hE hC => ?_)
  subst hE
  refine V.iload_n hC dX5_setJournal_0 rfl ?_
  refine V.iconst hC 0 dX5_setJournal_1 (by decide) ?_
  refine V.iconst hC 1 dX5_setJournal_2 (by decide) ?_
  refine V.callS3i hC (c_X5_within) mwX5_within mlX5_52 ⟨rfl, rfl⟩ dX5_setJournal_3 rfl ?_
  refine V.if_eqB hC 19 dX5_setJournal_6 (by decide) (fun c_1 => ?_) (fun c_1 => ?_)
  · refine V.bipush hC (-2) dX5_setJournal_19 (by decide) ?_
    exact V.iret hC (by first | (simp [mSetJ, c_1]; done) | (simp_all [mSetJ]; done)) dX5_setJournal_21
  · refine V.aload_n hC dX5_setJournal_9 rfl ?_
    refine V.bipush hC 8 dX5_setJournal_10 (by decide) ?_
    refine V.iload_n hC dX5_setJournal_12 rfl ?_
    refine V.callV2i hC (c_X5_sets hG hR 8 (by decide)) mwX5_sets mlX5_105 (hG.at 111 rfl) rfl rfl ⟨rfl, rfl⟩ dX5_setJournal_13 rfl ?_
    refine V.goto hC 21 dX5_setJournal_16 (by decide) ?_
    exact V.iret hC (by first | (simp [mSetJ, c_1]; done) | (simp_all [mSetJ]; done)) dX5_setJournal_21
set_option maxHeartbeats 2000000 in
set_option maxRecDepth 20000 in
theorem c_X5_start {l : Launch} {G : dkG}  {M : dkM} (hG : dk_mdl G) {k : Int32} (hI : mI M) (hR : rI M) : dk_Con l yX5_start cX5_start 2 (some .int) 2 45 G [.ref (G.1 + 111), .int k] M (some (.int (mStart M k).1), (mStart M k).2) := by
  refine dk_Con.of mwX5_start.1 (Nat.le_of_ble_eq_true rfl) (fun E hE hC => ?_)
  subst hE
  refine V.aload_n hC dX5_start_0 rfl ?_
  refine V.iload_n hC dX5_start_1 rfl ?_
  refine V.callV1i hC (c_X5_isKey hG) mwX5_isKey mlX5_96 (hG.at 111 rfl) rfl rfl ⟨rfl, rfl⟩ dX5_start_2 rfl ?_
  refine V.if_neB hC 10 dX5_start_5 (by decide) (fun c_1 => ?_) (fun c_1 => ?_)
  · refine V.aload_n hC dX5_start_10 rfl ?_
    refine V.callV0i hC (c_X5_isRekeying hG) mwX5_isRekeying mlX5_56 (hG.at 111 rfl) rfl rfl ⟨rfl, rfl⟩ dX5_start_11 rfl ?_
    refine V.if_neB hC 27 dX5_start_14 (by decide) (fun c_2 => ?_) (fun c_2 => ?_)
    · refine V.bipush hC (-3) dX5_start_27 (by decide) ?_
      exact V.iret hC (by first | (simp [mStart, mStartM, c_1, c_2]; done) | (simp_all [mStart, mStartM]; done)) dX5_start_29
    · refine V.iload_n hC dX5_start_17 rfl ?_
      refine V.aload_n hC dX5_start_18 rfl ?_
      refine gfX5_7 hG hC dX5_start_19 ?_
      refine V.iconst hC 1 dX5_start_22 (by decide) ?_
      refine V.ialdN hC (1) (hG.at 112 rfl) rfl al112 (rfl) (by omega) dX5_start_23 ?_
      refine V.icmp_ne hC 30 dX5_start_24 (by decide) (fun c_3 => ?_) (fun c_3 => ?_)
      · refine V.aload_n hC dX5_start_30 rfl ?_
        refine V.callV0v hC (c_X5_record hG hR) mwX5_record mlX5_93 (hG.at 111 rfl) rfl rfl ⟨rfl, rfl⟩ dX5_start_31 rfl ?_
        refine V.aload_n hC dX5_start_34 rfl ?_
        refine gfX5_7 hG hC dX5_start_35 ?_
        refine V.iconst hC 2 dX5_start_38 (by decide) ?_
        refine V.iload_n hC dX5_start_39 rfl ?_
        refine V.iastN hC (2) (hG.at 112 rfl) rfl al112 (rfl) (by omega) dX5_start_40 ?_
        refine V.aload_n hC dX5_start_41 rfl ?_
        refine gfX5_7 hG hC dX5_start_42 ?_
        refine V.iconst hC 3 dX5_start_45 (by decide) ?_
        refine V.iconst hC 0 dX5_start_46 (by decide) ?_
        refine V.iastN hC (3) (hG.at 112 rfl) rfl al112 (rfl) (by omega) dX5_start_47 ?_
        refine V.aload_n hC dX5_start_48 rfl ?_
        refine gfX5_7 hG hC dX5_start_49 ?_
        refine V.iconst hC 4 dX5_start_52 (by decide) ?_
        refine V.iconst hC 1 dX5_start_53 (by decide) ?_
        refine V.iastN hC (4) (hG.at 112 rfl) rfl al112 (rfl) (by omega) dX5_start_54 ?_
        refine V.aload_n hC dX5_start_55 rfl ?_
        refine V.callV0i hC (c_X5_left hG (by rw [put_k (by decide), put_k (by decide), put_k (by decide), mRec_st]; exact hI.zone)) mwX5_left mlX5_109 (hG.at 111 rfl) rfl rfl ⟨rfl, rfl⟩ dX5_start_56 rfl ?_
        exact V.iret hC (by first | (simp [mStart, mStartM, c_1, c_2, c_3]; done) | (simp_all [mStart, mStartM]; done)) dX5_start_59
      · refine V.bipush hC (-3) dX5_start_27 (by decide) ?_
        exact V.iret hC (by first | (simp [mStart, mStartM, c_1, c_2, c_3]; done) | (simp_all [mStart, mStartM]; done)) dX5_start_29
  · refine V.iconst hC (-1) dX5_start_8 (by decide) ?_
    exact V.iret hC (by first | (simp [mStart, mStartM, c_1]; done) | (simp_all [mStart, mStartM]; done)) dX5_start_9
set_option maxHeartbeats 2000000 in
set_option maxRecDepth 20000 in
theorem c_X5_whyNotSteps {l : Launch} {G : dkG}  {M : dkM} (hG : dk_mdl G) {m : Int32}  : dk_Con l yX5_whyNotSteps cX5_whyNotSteps 2 (some .int) 1 22 G [.ref (G.1 + 111), .int m] M (some (.int (mWhyS M m)), M) := by
  refine dk_Con.of mwX5_whyNotSteps.1 (Nat.le_of_ble_eq_true rfl) (fun E hE hC => ?_)
  subst hE
  refine V.iload_n hC dX5_whyNotSteps_0 rfl ?_
  refine V.iconst hC 1 dX5_whyNotSteps_1 (by decide) ?_
  refine V.sipush hC 999 dX5_whyNotSteps_2 (by decide) ?_
  refine V.callS3i hC (c_X5_within) mwX5_within mlX5_52 ⟨rfl, rfl⟩ dX5_whyNotSteps_5 rfl ?_
  refine V.if_neB hC 16 dX5_whyNotSteps_8 (by decide) (fun c_1 => ?_) (fun c_1 => ?_)
  · refine V.aload_n hC dX5_whyNotSteps_16 rfl ?_
    refine V.callV0i hC (c_X5_isRekeying hG) mwX5_isRekeying mlX5_56 (hG.at 111 rfl) rfl rfl ⟨rfl, rfl⟩ dX5_whyNotSteps_17 rfl ?_
    refine V.if_eqB hC 27 dX5_whyNotSteps_20 (by decide) (fun c_2 => ?_) (fun c_2 => ?_)
    · refine V.bipush hC (-3) dX5_whyNotSteps_27 (by decide) ?_
      exact V.iret hC (by first | (simp [mWhyS, c_1, c_2]; done) | (simp_all [mWhyS]; done)) dX5_whyNotSteps_29
    · refine V.iconst hC 0 dX5_whyNotSteps_23 (by decide) ?_
      refine V.goto hC 29 dX5_whyNotSteps_24 (by decide) ?_
      exact V.iret hC (by first | (simp [mWhyS, c_1, c_2]; done) | (simp_all [mWhyS]; done)) dX5_whyNotSteps_29
  · refine V.bipush hC (-2) dX5_whyNotSteps_11 (by decide) ?_
    refine V.goto hC 29 dX5_whyNotSteps_13 (by decide) ?_
    exact V.iret hC (by first | (simp [mWhyS, c_1]; done) | (simp_all [mWhyS]; done)) dX5_whyNotSteps_29
set_option maxHeartbeats 2000000 in
set_option maxRecDepth 20000 in
theorem c_X5_steps {l : Launch} {G : dkG}  {M : dkM} (hG : dk_mdl G) {m : Int32} (hI : mI M) (hR : rI M) : dk_Con l yX5_steps cX5_steps 3 (some .int) 8 173 G [.ref (G.1 + 111), .int m] M (some (.int (mSteps M m).1), (mSteps M m).2) := by
  refine dk_Con.of mwX5_steps.1 (Nat.le_of_ble_eq_true rfl) (fun E hE hC => ?_)
  subst hE
  refine V.aload_n hC dX5_steps_0 rfl ?_
  refine V.iload_n hC dX5_steps_1 rfl ?_
  refine V.callV1i hC (c_X5_whyNotSteps hG) mwX5_whyNotSteps mlX5_112 (hG.at 111 rfl) rfl rfl ⟨rfl, rfl⟩ dX5_steps_2 rfl ?_
  refine V.istore_n hC dX5_steps_5 rfl rfl ?_
  refine V.iload_n hC dX5_steps_6 rfl ?_
  refine V.if_ge hC 12 dX5_steps_7 (by decide) (fun c_1 => ?_) (fun c_1 => ?_)
  · refine V.aload_n hC dX5_steps_12 rfl ?_
    refine V.callV0v hC (c_X5_record hG hR) mwX5_record mlX5_93 (hG.at 111 rfl) rfl rfl ⟨rfl, rfl⟩ dX5_steps_13 rfl ?_
    refine V.aload_n hC dX5_steps_16 rfl ?_
    refine V.iload_n hC dX5_steps_17 rfl ?_
    refine V.callV1i hC (c_X5_makesSteps hG (mI_rec hI)) mwX5_makesSteps mlX5_115 (hG.at 111 rfl) rfl rfl ⟨rfl, rfl⟩ dX5_steps_18 rfl ?_
    exact V.iret hC (by first | (simp [mSteps, c_1, dk_le1 c_1]; done) | (simp_all [mSteps]; done)) dX5_steps_21
  · refine V.iload_n hC dX5_steps_10 rfl ?_
    exact V.iret hC (by first | (simp [mSteps, c_1, dk_nle c_1]; done) | (simp_all [mSteps]; done)) dX5_steps_11
set_option maxHeartbeats 2000000 in
set_option maxRecDepth 20000 in
theorem c_X5_whyNotTurned {l : Launch} {G : dkG}  {M : dkM} (hG : dk_mdl G)  : dk_Con l yX5_whyNotTurned cX5_whyNotTurned 1 (some .int) 1 20 G [.ref (G.1 + 111)] M (some (.int (mWhyT M)), M) := by
  refine dk_Con.of mwX5_whyNotTurned.1 (Nat.le_of_ble_eq_true rfl) (fun E hE hC => ?_)
  subst hE
  refine V.aload_n hC dX5_whyNotTurned_0 rfl ?_
  refine V.callV0i hC (c_X5_isRekeying hG) mwX5_isRekeying mlX5_56 (hG.at 111 rfl) rfl rfl ⟨rfl, rfl⟩ dX5_whyNotTurned_1 rfl ?_
  refine V.if_eqB hC 18 dX5_whyNotTurned_4 (by decide) (fun c_1 => ?_) (fun c_1 => ?_)
  · refine V.bipush hC (-3) dX5_whyNotTurned_18 (by decide) ?_
    exact V.iret hC (by first | (simp [mWhyT, c_1]; done) | (simp_all [mWhyT]; done)) dX5_whyNotTurned_20
  · refine V.aload_n hC dX5_whyNotTurned_7 rfl ?_
    refine V.callV0i hC (c_X5_isOpen hG) mwX5_isOpen mlX5_102 (hG.at 111 rfl) rfl rfl ⟨rfl, rfl⟩ dX5_whyNotTurned_8 rfl ?_
    refine V.if_neB hC 18 dX5_whyNotTurned_11 (by decide) (fun c_2 => ?_) (fun c_2 => ?_)
    · refine V.bipush hC (-3) dX5_whyNotTurned_18 (by decide) ?_
      exact V.iret hC (by first | (simp [mWhyT, c_1, c_2]; done) | (simp_all [mWhyT]; done)) dX5_whyNotTurned_20
    · refine V.iconst hC 0 dX5_whyNotTurned_14 (by decide) ?_
      refine V.goto hC 20 dX5_whyNotTurned_15 (by decide) ?_
      exact V.iret hC (by first | (simp [mWhyT, c_1, c_2]; done) | (simp_all [mWhyT]; done)) dX5_whyNotTurned_20
set_option maxHeartbeats 2000000 in
set_option maxRecDepth 20000 in
theorem c_X5_turns {l : Launch} {G : dkG}  {M : dkM} (hG : dk_mdl G) (hz : ¬ M 112 7 = 0) : dk_Con l yX5_turns cX5_turns 1 (some .int) 3 61 G [.ref (G.1 + 111)] M (some (.int (mLeft (mTurnsM M))), mTurnsM M) := by
  refine dk_Con.of mwX5_turns.1 (Nat.le_of_ble_eq_true rfl) (fun E hE hC => ?_)
  subst hE
  refine V.aload_n hC dX5_turns_0 rfl ?_
  refine gfX5_7 hG hC dX5_turns_1 ?_
  refine V.iconst hC 4 dX5_turns_4 (by decide) ?_
  refine V.iconst hC 1 dX5_turns_5 (by decide) ?_
  refine V.aload_n hC dX5_turns_6 rfl ?_
  refine gfX5_7 hG hC dX5_turns_7 ?_
  refine V.iconst hC 4 dX5_turns_10 (by decide) ?_
  refine V.ialdN hC (4) (hG.at 112 rfl) rfl al112 (rfl) (by omega) dX5_turns_11 ?_
  refine V.isub hC dX5_turns_12 ?_
  refine V.iastN hC (4) (hG.at 112 rfl) rfl al112 (rfl) (by omega) dX5_turns_13 ?_
  refine V.aload_n hC dX5_turns_14 rfl ?_
  refine V.callV0v hC (c_X5_endsAtEnd hG) mwX5_endsAtEnd mlX5_84 (hG.at 111 rfl) rfl rfl ⟨rfl, rfl⟩ dX5_turns_15 rfl ?_
  refine V.aload_n hC dX5_turns_18 rfl ?_
  refine V.callV0i hC (c_X5_left hG (by rw [mEnd_lo _ (by decide) (by decide) (by decide) (by decide) (by decide) (by decide) (by decide) (by decide), put_k (by decide)]; exact hz)) mwX5_left mlX5_109 (hG.at 111 rfl) rfl rfl ⟨rfl, rfl⟩ dX5_turns_19 rfl ?_
  exact V.iret hC (rfl) dX5_turns_22
set_option maxHeartbeats 2000000 in
set_option maxRecDepth 20000 in
theorem c_X5_turnBack {l : Launch} {G : dkG}  {M : dkM} (hG : dk_mdl G) (hI : mI M) (hR : rI M) : dk_Con l yX5_turnBack cX5_turnBack 2 (some .int) 4 81 G [.ref (G.1 + 111)] M (some (.int (mTurn M).1), (mTurn M).2) := by
  refine dk_Con.of mwX5_turnBack.1 (Nat.le_of_ble_eq_true rfl) (fun E hE hC => ?_)
  subst hE
  refine V.aload_n hC dX5_turnBack_0 rfl ?_
  refine V.callV0i hC (c_X5_whyNotTurned hG) mwX5_whyNotTurned mlX5_118 (hG.at 111 rfl) rfl rfl ⟨rfl, rfl⟩ dX5_turnBack_1 rfl ?_
  refine V.istore_n hC dX5_turnBack_4 rfl rfl ?_
  refine V.iload_n hC dX5_turnBack_5 rfl ?_
  refine V.if_ge hC 11 dX5_turnBack_6 (by decide) (fun c_1 => ?_) (fun c_1 => ?_)
  · refine V.aload_n hC dX5_turnBack_11 rfl ?_
    refine V.callV0v hC (c_X5_record hG hR) mwX5_record mlX5_93 (hG.at 111 rfl) rfl rfl ⟨rfl, rfl⟩ dX5_turnBack_12 rfl ?_
    refine V.aload_n hC dX5_turnBack_15 rfl ?_
    refine V.callV0i hC (c_X5_turns hG (by rw [mRec_st]; exact hI.zone)) mwX5_turns mlX5_121 (hG.at 111 rfl) rfl rfl ⟨rfl, rfl⟩ dX5_turnBack_16 rfl ?_
    exact V.iret hC (by first | (simp [mTurn, c_1, dk_le1 c_1]; done) | (simp_all [mTurn]; done)) dX5_turnBack_19
  · refine V.iload_n hC dX5_turnBack_9 rfl ?_
    exact V.iret hC (by first | (simp [mTurn, c_1, dk_nle c_1]; done) | (simp_all [mTurn]; done)) dX5_turnBack_10
set_option maxHeartbeats 2000000 in
set_option maxRecDepth 20000 in
theorem c_X5_whyNotWritten {l : Launch} {G : dkG}  {M : dkM} (hG : dk_mdl G) {s : Int32} {v : Int32} (hI : mI M) : dk_Con l yX5_whyNotWritten cX5_whyNotWritten 3 (some .int) 2 43 G [.ref (G.1 + 111), .int s, .int v] M (some (.int (mWhyW M s v)), M) := by
  refine dk_Con.of mwX5_whyNotWritten.1 (Nat.le_of_ble_eq_true rfl) (fun E hE hC => ?_)
  subst hE
  refine V.aload_n hC dX5_whyNotWritten_0 rfl ?_
  refine V.iload_n hC dX5_whyNotWritten_1 rfl ?_
  refine V.callV1i hC (c_X5_isSector hG) mwX5_isSector mlX5_124 (hG.at 111 rfl) rfl rfl ⟨rfl, rfl⟩ dX5_whyNotWritten_2 rfl ?_
  refine V.if_neB hC 10 dX5_whyNotWritten_5 (by decide) (fun c_1 => ?_) (fun c_1 => ?_)
  · refine V.iload_n hC dX5_whyNotWritten_10 rfl ?_
    refine V.iconst hC 0 dX5_whyNotWritten_11 (by decide) ?_
    refine V.ldc hC klX5_41 dX5_whyNotWritten_12 ?_
    refine V.callS3i hC (c_X5_within) mwX5_within mlX5_52 ⟨rfl, rfl⟩ dX5_whyNotWritten_14 rfl ?_
    refine V.if_neB hC 23 dX5_whyNotWritten_17 (by decide) (fun c_2 => ?_) (fun c_2 => ?_)
    · refine V.aload_n hC dX5_whyNotWritten_23 rfl ?_
      refine gfX5_7 hG hC dX5_whyNotWritten_24 ?_
      refine V.sipush hC 239 dX5_whyNotWritten_27 (by decide) ?_
      refine V.iload_n hC dX5_whyNotWritten_30 rfl ?_
      refine V.iadd hC dX5_whyNotWritten_31 ?_
      refine V.ialdN hC (239 + ix s) (hG.at 112 rfl) rfl al112 (dk_addN rfl (mSec_k hI c_1).1) (by have := (mSec_k hI c_1).2; omega) dX5_whyNotWritten_32 ?_
      refine V.bipush hC (-6) dX5_whyNotWritten_33 (by decide) ?_
      refine V.icmp_ne hC 52 dX5_whyNotWritten_35 (by decide) (fun c_3 => ?_) (fun c_3 => ?_)
      · refine V.iconst hC 0 dX5_whyNotWritten_52 (by decide) ?_
        exact V.iret hC (by first | (simp [mWhyW, c_1, c_2, c_3]; done) | (simp_all [mWhyW]; done)) dX5_whyNotWritten_53
      · refine V.aload_n hC dX5_whyNotWritten_38 rfl ?_
        refine V.callV0i hC (c_X5_cachedMany hG hI.sec) mwX5_cachedMany mlX5_127 (hG.at 111 rfl) rfl rfl ⟨rfl, rfl⟩ dX5_whyNotWritten_39 rfl ?_
        refine V.bipush hC 8 dX5_whyNotWritten_42 (by decide) ?_
        refine V.icmp_ne hC 52 dX5_whyNotWritten_44 (by decide) (fun c_4 => ?_) (fun c_4 => ?_)
        · refine V.iconst hC 0 dX5_whyNotWritten_52 (by decide) ?_
          exact V.iret hC (by first | (simp [mWhyW, c_1, c_2, c_3, c_4]; done) | (simp_all [mWhyW]; done)) dX5_whyNotWritten_53
        · refine V.bipush hC (-4) dX5_whyNotWritten_47 (by decide) ?_
          refine V.goto hC 53 dX5_whyNotWritten_49 (by decide) ?_
          exact V.iret hC (by first | (simp [mWhyW, c_1, c_2, c_3, c_4]; done) | (simp_all [mWhyW]; done)) dX5_whyNotWritten_53
    · refine V.bipush hC (-2) dX5_whyNotWritten_20 (by decide) ?_
      exact V.iret hC (by first | (simp [mWhyW, c_1, c_2]; done) | (simp_all [mWhyW]; done)) dX5_whyNotWritten_22
  · refine V.iconst hC (-1) dX5_whyNotWritten_8 (by decide) ?_
    exact V.iret hC (by first | (simp [mWhyW, c_1]; done) | (simp_all [mWhyW]; done)) dX5_whyNotWritten_9
set_option maxHeartbeats 2000000 in
set_option maxRecDepth 20000 in
theorem c_X5_writes {l : Launch} {G : dkG}  {M : dkM} (hG : dk_mdl G) {s : Int32} {v : Int32} (hs6 : ix (M 112 0) ≤ 64) (hs : s = nI (ix s) ∧ ix s < 64) : dk_Con l yX5_writes cX5_writes 3 (some .int) 1 22 G [.ref (G.1 + 111), .int s, .int v] M (some (.int (nI (mCached (mWritesM M s v)))), mWritesM M s v) := by
  refine dk_Con.of mwX5_writes.1 (Nat.le_of_ble_eq_true rfl) (fun E hE hC => ?_)
  subst hE
  refine V.aload_n hC dX5_writes_0 rfl ?_
  refine gfX5_7 hG hC dX5_writes_1 ?_
  refine V.sipush hC 239 dX5_writes_4 (by decide) ?_
  refine V.iload_n hC dX5_writes_7 rfl ?_
  refine V.iadd hC dX5_writes_8 ?_
  refine V.iload_n hC dX5_writes_9 rfl ?_
  refine V.iastN hC (239 + ix s) (hG.at 112 rfl) rfl al112 (dk_addN rfl hs.1) (by omega) dX5_writes_10 ?_
  refine V.aload_n hC dX5_writes_11 rfl ?_
  refine gfX5_7 hG hC dX5_writes_12 ?_
  refine V.sipush hC 303 dX5_writes_15 (by decide) ?_
  refine V.iload_n hC dX5_writes_18 rfl ?_
  refine V.iadd hC dX5_writes_19 ?_
  refine V.iload_n hC dX5_writes_20 rfl ?_
  refine V.iastN hC (303 + ix s) (hG.at 112 rfl) rfl al112 (dk_addN rfl hs.1) (by omega) dX5_writes_21 ?_
  refine V.aload_n hC dX5_writes_22 rfl ?_
  refine V.callV0i hC (c_X5_cachedMany hG (by rw [put_k (by omega), put_k (by omega)]; exact hs6)) mwX5_cachedMany mlX5_127 (hG.at 111 rfl) rfl rfl ⟨rfl, rfl⟩ dX5_writes_23 rfl ?_
  exact V.iret hC (rfl) dX5_writes_26
set_option maxHeartbeats 2000000 in
set_option maxRecDepth 20000 in
theorem c_X5_write {l : Launch} {G : dkG}  {M : dkM} (hG : dk_mdl G) {s : Int32} {v : Int32} (hI : mI M) (hR : rI M) : dk_Con l yX5_write cX5_write 4 (some .int) 3 65 G [.ref (G.1 + 111), .int s, .int v] M (some (.int (mWrite M s v).1), (mWrite M s v).2) := by
  refine dk_Con.of mwX5_write.1 (Nat.le_of_ble_eq_true rfl) (fun E hE hC => ?_)
  subst hE
  refine V.aload_n hC dX5_write_0 rfl ?_
  refine V.iload_n hC dX5_write_1 rfl ?_
  refine V.iload_n hC dX5_write_2 rfl ?_
  refine V.callV2i hC (c_X5_whyNotWritten hG hI) mwX5_whyNotWritten mlX5_130 (hG.at 111 rfl) rfl rfl ⟨rfl, rfl⟩ dX5_write_3 rfl ?_
  refine V.istore_n hC dX5_write_6 rfl rfl ?_
  refine V.iload_n hC dX5_write_7 rfl ?_
  refine V.if_ge hC 13 dX5_write_8 (by decide) (fun c_1 => ?_) (fun c_1 => ?_)
  · refine V.aload_n hC dX5_write_13 rfl ?_
    refine V.callV0v hC (c_X5_record hG hR) mwX5_record mlX5_93 (hG.at 111 rfl) rfl rfl ⟨rfl, rfl⟩ dX5_write_14 rfl ?_
    refine V.aload_n hC dX5_write_17 rfl ?_
    refine V.iload_n hC dX5_write_18 rfl ?_
    refine V.iload_n hC dX5_write_19 rfl ?_
    refine V.callV2i hC (c_X5_writes hG (mI_rec hI).sec ⟨(mSec_k hI (mWhyW_ok (dk_le1 c_1))).1, (mSec_k hI (mWhyW_ok (dk_le1 c_1))).2.1⟩) mwX5_writes mlX5_133 (hG.at 111 rfl) rfl rfl ⟨rfl, rfl⟩ dX5_write_20 rfl ?_
    exact V.iret hC (by first | (simp [mWrite, c_1, dk_le1 c_1]; done) | (simp_all [mWrite]; done)) dX5_write_23
  · refine V.iload_n hC dX5_write_11 rfl ?_
    exact V.iret hC (by first | (simp [mWrite, c_1, dk_nle c_1]; done) | (simp_all [mWrite]; done)) dX5_write_12
set_option maxHeartbeats 2000000 in
set_option maxRecDepth 20000 in
theorem c_X5_canFlush {l : Launch} {G : dkG}  {M : dkM} (hG : dk_mdl G) {k : Nat} (hk : k < 64) : dk_Con l yX5_canFlush cX5_canFlush 2 (some .boolean) 2 42 G [.ref (G.1 + 111), .int (nI k)] M (some (.int (bI (mCan M k))), M) := by
  refine dk_Con.of mwX5_canFlush.1 (Nat.le_of_ble_eq_true rfl) (fun E hE hC => ?_)
  subst hE
  refine V.aload_n hC dX5_canFlush_0 rfl ?_
  refine gfX5_7 hG hC dX5_canFlush_1 ?_
  refine V.sipush hC 239 dX5_canFlush_4 (by decide) ?_
  refine V.iload_n hC dX5_canFlush_7 rfl ?_
  refine V.iadd hC dX5_canFlush_8 ?_
  refine V.ialdN hC (239 + k) (hG.at 112 rfl) rfl al112 (dk_addN (rfl) (rfl)) (by omega) dX5_canFlush_9 ?_
  refine V.bipush hC (-6) dX5_canFlush_10 (by decide) ?_
  refine V.icmp_eq hC 34 dX5_canFlush_12 (by decide) (fun c_1 => ?_) (fun c_1 => ?_)
  · refine V.iconst hC 0 dX5_canFlush_34 (by decide) ?_
    exact V.zret hC (by first | (simp [mCan, bI, c_1]; done) | (simp_all [mCan, bI]; done)) (by decide) dX5_canFlush_35
  · refine V.aload_n hC dX5_canFlush_15 rfl ?_
    refine V.callV0i hC (c_X5_isOpen hG) mwX5_isOpen mlX5_102 (hG.at 111 rfl) rfl rfl ⟨rfl, rfl⟩ dX5_canFlush_16 rfl ?_
    refine V.if_eqB hC 30 dX5_canFlush_19 (by decide) (fun c_2 => ?_) (fun c_2 => ?_)
    · refine V.iconst hC 1 dX5_canFlush_30 (by decide) ?_
      refine V.goto hC 35 dX5_canFlush_31 (by decide) ?_
      exact V.zret hC (by first | (simp [mCan, bI, c_1, c_2]; done) | (simp_all [mCan, bI]; done)) (by decide) dX5_canFlush_35
    · refine V.aload_n hC dX5_canFlush_22 rfl ?_
      refine V.iload_n hC dX5_canFlush_23 rfl ?_
      refine V.callV1i hC (c_X5_isInZone hG) mwX5_isInZone mlX5_67 (hG.at 111 rfl) rfl rfl ⟨rfl, rfl⟩ dX5_canFlush_24 rfl ?_
      refine V.if_neB hC 34 dX5_canFlush_27 (by decide) (fun c_3 => ?_) (fun c_3 => ?_)
      · refine V.iconst hC 0 dX5_canFlush_34 (by decide) ?_
        exact V.zret hC (by first | (simp [mCan, bI, c_1, c_2, c_3]; done) | (simp_all [mCan, bI]; done)) (by decide) dX5_canFlush_35
      · refine V.iconst hC 1 dX5_canFlush_30 (by decide) ?_
        refine V.goto hC 35 dX5_canFlush_31 (by decide) ?_
        exact V.zret hC (by first | (simp [mCan, bI, c_1, c_2, c_3]; done) | (simp_all [mCan, bI]; done)) (by decide) dX5_canFlush_35
set_option maxHeartbeats 2000000 in
set_option maxRecDepth 20000 in
theorem c_X5_formThen {l : Launch} {G : dkG}  {M : dkM} (hG : dk_mdl G) {k : Nat} (hI : mI M) (hk : k < 64) : dk_Con l yX5_formThen cX5_formThen 2 (some .int) 5 106 G [.ref (G.1 + 111), .int (nI k)] M (some (.int (mForm M k)), M) := by
  refine dk_Con.of mwX5_formThen.1 (Nat.le_of_ble_eq_true rfl) (fun E hE hC => ?_)
  subst hE
  refine V.aload_n hC dX5_formThen_0 rfl ?_
  refine V.iload_n hC dX5_formThen_1 rfl ?_
  refine V.callV1i hC (c_X5_canFlush hG (by omega)) mwX5_canFlush mlX5_136 (hG.at 111 rfl) rfl rfl ⟨rfl, rfl⟩ dX5_formThen_2 rfl ?_
  refine V.if_eqB hC 30 dX5_formThen_5 (by decide) (fun c_1 => ?_) (fun c_1 => ?_)
  · refine V.aload_n hC dX5_formThen_30 rfl ?_
    refine gfX5_7 hG hC dX5_formThen_31 ?_
    refine V.bipush hC 111 dX5_formThen_34 (by decide) ?_
    refine V.iload_n hC dX5_formThen_36 rfl ?_
    refine V.iadd hC dX5_formThen_37 ?_
    refine V.ialdN hC (111 + k) (hG.at 112 rfl) rfl al112 (dk_addN (rfl) (rfl)) (by omega) dX5_formThen_38 ?_
    exact V.iret hC (by first | (simp [mForm, c_1]; done) | (simp_all [mForm]; done)) dX5_formThen_39
  · refine V.aload_n hC dX5_formThen_8 rfl ?_
    refine gfX5_7 hG hC dX5_formThen_9 ?_
    refine V.sipush hC 239 dX5_formThen_12 (by decide) ?_
    refine V.iload_n hC dX5_formThen_15 rfl ?_
    refine V.iadd hC dX5_formThen_16 ?_
    refine V.ialdN hC (239 + k) (hG.at 112 rfl) rfl al112 (dk_addN (rfl) (rfl)) (by omega) dX5_formThen_17 ?_
    refine V.iload_n hC dX5_formThen_18 rfl ?_
    refine V.aload_n hC dX5_formThen_19 rfl ?_
    refine V.iload_n hC dX5_formThen_20 rfl ?_
    refine V.callV1i hC (c_X5_secretAt hG hI) mwX5_secretAt mlX5_78 (hG.at 111 rfl) rfl rfl ⟨rfl, rfl⟩ dX5_formThen_21 rfl ?_
    refine V.callS3i hC (c_X5_scramble) mwX5_scramble mlX5_45 ⟨rfl, rfl⟩ dX5_formThen_24 rfl ?_
    refine V.goto hC 39 dX5_formThen_27 (by decide) ?_
    exact V.iret hC (by first | (simp [mForm, c_1]; done) | (simp_all [mForm]; done)) dX5_formThen_39
set_option maxHeartbeats 2000000 in
set_option maxRecDepth 20000 in
theorem c_X5_flushes {l : Launch} {G : dkG}  {M : dkM} (hG : dk_mdl G) (hI : mI M) : dk_Con l yX5_flushes cX5_flushes 3 (some .int) 6 127 G [.ref (G.1 + 111)] M (some (.int (mFlushes M).1), (mFlushes M).2) := by
  refine dk_Con.of mwX5_flushes.1 (Nat.le_of_ble_eq_true rfl) (fun E hE hC => ?_)
  subst hE
  have hs6 := hI.sec
  obtain ⟨N, hN⟩ : ∃ N, ix (M 112 0) = N := ⟨_, rfl⟩
  rw [hN] at hs6
  have loop_4 : ∀ (n : Nat) (k : Nat), (k ≤ N) → (N < k + n) →  V E G 3 (some (.int (mFlushes M).1), (mFlushes M).2) (mFluL M k) 4 [(0, some (.ref (G.1 + 111))), (1, some (.int (nI (mFluN M k)))), (2, some (.int (nI k)))] [] := by
    intro n
    induction n with
    | zero => intro k hk hn; exact absurd hn (by omega)
    | succ n ih_4 =>
      intro k hk hn
      refine V.iload_n hC dX5_flushes_4 rfl ?_
      refine V.aload_n hC dX5_flushes_5 rfl ?_
      refine gfX5_7 hG hC dX5_flushes_6 ?_
      refine V.iconst hC 0 dX5_flushes_9 (by decide) ?_
      refine V.ialdN hC (0) (hG.at 112 rfl) rfl al112 (rfl) (by omega) dX5_flushes_10 ?_
      refine V.icmp_ge hC 57 dX5_flushes_11 (by decide) (fun c_1 => ?_) (fun c_1 => ?_)
      · have hke : k = N := by have hc := c_1; rw [mFluL_lo _ _ (by decide)] at hc; have := (dk_gek (k := k) (by omega)).mp hc; omega
        refine V.iload_n hC dX5_flushes_57 rfl ?_
        exact V.iret hC (by unfold mFlushes; rw [hN, hke]) dX5_flushes_58
      · have hkl : k < N := by have hc := c_1; rw [mFluL_lo _ _ (by decide)] at hc; have := mt (dk_gek (k := k) (by omega)).mpr hc; omega
        refine V.aload_n hC dX5_flushes_14 rfl ?_
        refine V.iload_n hC dX5_flushes_15 rfl ?_
        refine V.callV1i hC (c_X5_canFlush hG (by omega)) mwX5_canFlush mlX5_136 (hG.at 111 rfl) rfl rfl ⟨rfl, rfl⟩ dX5_flushes_16 rfl ?_
        refine V.if_eqB hC 51 dX5_flushes_19 (by decide) (fun c_2 => ?_) (fun c_2 => ?_)
        · refine V.iinc hC dX5_flushes_51 rfl (dk_incN _) rfl ?_
          refine V.goto hC 4 dX5_flushes_54 (by decide) ?_
          have ih2 := ih_4 (k + 1) (by omega) (by omega)
          simp only [mFluN, mFluL, c_2, if_true, Bool.false_eq_true, if_false] at ih2
          exact V.sub (dk_sc rfl (dk_sc rfl (dk_sc rfl (dk_sn)))) ih2
        · refine V.aload_n hC dX5_flushes_22 rfl ?_
          refine gfX5_7 hG hC dX5_flushes_23 ?_
          refine V.bipush hC 111 dX5_flushes_26 (by decide) ?_
          refine V.iload_n hC dX5_flushes_28 rfl ?_
          refine V.iadd hC dX5_flushes_29 ?_
          refine V.aload_n hC dX5_flushes_30 rfl ?_
          refine V.iload_n hC dX5_flushes_31 rfl ?_
          refine V.callV1i hC (c_X5_formThen hG (mI_flL hI k) (by omega)) mwX5_formThen mlX5_139 (hG.at 111 rfl) rfl rfl ⟨rfl, rfl⟩ dX5_flushes_32 rfl ?_
          refine V.iastN hC (111 + k) (hG.at 112 rfl) rfl al112 (dk_addN (rfl) (rfl)) (by omega) dX5_flushes_35 ?_
          refine V.aload_n hC dX5_flushes_36 rfl ?_
          refine gfX5_7 hG hC dX5_flushes_37 ?_
          refine V.sipush hC 239 dX5_flushes_40 (by decide) ?_
          refine V.iload_n hC dX5_flushes_43 rfl ?_
          refine V.iadd hC dX5_flushes_44 ?_
          refine V.bipush hC (-6) dX5_flushes_45 (by decide) ?_
          refine V.iastN hC (239 + k) (hG.at 112 rfl) rfl al112 (dk_addN (rfl) (rfl)) (by omega) dX5_flushes_47 ?_
          refine V.iinc hC dX5_flushes_48 rfl (dk_incN _) rfl ?_
          refine V.iinc hC dX5_flushes_51 rfl (dk_incN _) rfl ?_
          refine V.goto hC 4 dX5_flushes_54 (by decide) ?_
          have ih2 := ih_4 (k + 1) (by omega) (by omega)
          simp only [mFluN, mFluL, c_2, if_true, Bool.false_eq_true, if_false] at ih2
          exact V.sub (dk_sc rfl (dk_sc rfl (dk_sc rfl (dk_sn)))) ih2
  refine V.iconst hC 0 dX5_flushes_0 (by decide) ?_
  refine V.istore_n hC dX5_flushes_1 rfl rfl ?_
  refine V.iconst hC 0 dX5_flushes_2 (by decide) ?_
  refine V.istore_n hC dX5_flushes_3 rfl rfl ?_
  exact V.sub (dk_sc rfl (dk_sc rfl (dk_sc rfl (dk_sn)))) (loop_4 (N + 1) 0 (Nat.zero_le _) (by omega))
set_option maxHeartbeats 2000000 in
set_option maxRecDepth 20000 in
theorem c_X5_flush {l : Launch} {G : dkG}  {M : dkM} (hG : dk_mdl G) (hI : mI M) (hR : rI M) : dk_Con l yX5_flush cX5_flush 1 (some .int) 7 149 G [.ref (G.1 + 111)] M (some (.int (mFlush M).1), (mFlush M).2) := by
  refine dk_Con.of mwX5_flush.1 (Nat.le_of_ble_eq_true rfl) (fun E hE hC => ?_)
  subst hE
  refine V.aload_n hC dX5_flush_0 rfl ?_
  refine V.callV0v hC (c_X5_record hG hR) mwX5_record mlX5_93 (hG.at 111 rfl) rfl rfl ⟨rfl, rfl⟩ dX5_flush_1 rfl ?_
  refine V.aload_n hC dX5_flush_4 rfl ?_
  refine V.callV0i hC (c_X5_flushes hG (mI_rec hI)) mwX5_flushes mlX5_142 (hG.at 111 rfl) rfl rfl ⟨rfl, rfl⟩ dX5_flush_5 rfl ?_
  exact V.iret hC (rfl) dX5_flush_8
set_option maxHeartbeats 2000000 in
set_option maxRecDepth 20000 in
theorem c_X5_fail {l : Launch} {G : dkG}  {M : dkM} (hG : dk_mdl G) (hI : mI M) (hR : rI M) : dk_Con l yX5_fail cX5_fail 3 (some .int) 7 148 G [.ref (G.1 + 111)] M (some (.int (mFail M).1), (mFail M).2) := by
  refine dk_Con.of mwX5_fail.1 (Nat.le_of_ble_eq_true rfl) (fun E hE hC => ?_)
  subst hE
  have hs6 := (mI_rec hI).sec
  obtain ⟨N, hN⟩ : ∃ N, ix (mRec M 112 0) = N := ⟨_, rfl⟩
  rw [hN] at hs6
  have hs7 := (mI_fail hI).sec
  obtain ⟨N2, hN2⟩ : ∃ N, ix (mFailM M 112 0) = N := ⟨_, rfl⟩
  rw [hN2] at hs7
  have loop_41 : ∀ (n : Nat) (k : Nat), (k ≤ N2) → (N2 < k + n) →  V E G 3 (some (.int (mFail M).1), (mFail M).2) (mFailM M) 41 [(0, some (.ref (G.1 + 111))), (1, some (.int (nI (mChgN (mFailM M) k)))), (2, some (.int (nI k)))] [] := by
    intro n
    induction n with
    | zero => intro k hk hn; exact absurd hn (by omega)
    | succ n ih_41 =>
      intro k hk hn
      refine V.iload_n hC dX5_fail_41 rfl ?_
      refine V.aload_n hC dX5_fail_42 rfl ?_
      refine gfX5_7 hG hC dX5_fail_43 ?_
      refine V.iconst hC 0 dX5_fail_46 (by decide) ?_
      refine V.ialdN hC (0) (hG.at 112 rfl) rfl al112 (rfl) (by omega) dX5_fail_47 ?_
      refine V.icmp_ge hC 79 dX5_fail_48 (by decide) (fun c_1 => ?_) (fun c_1 => ?_)
      · have hke : k = N2 := by have hc := c_1; have := (dk_gek (k := k) (by omega)).mp hc; omega
        refine V.iload_n hC dX5_fail_79 rfl ?_
        exact V.iret hC (by unfold mFail; rw [hN2, hke]) dX5_fail_80
      · have hkl : k < N2 := by have hc := c_1; have := mt (dk_gek (k := k) (by omega)).mpr hc; omega
        refine V.iload_n hC dX5_fail_51 rfl ?_
        refine V.aload_n hC dX5_fail_52 rfl ?_
        refine gfX5_25 hG hC dX5_fail_53 ?_
        refine V.iload_n hC dX5_fail_56 rfl ?_
        refine V.ialdN hC (k) (hG.at 117 rfl) rfl al117 (rfl) (by omega) dX5_fail_57 ?_
        refine V.aload_n hC dX5_fail_58 rfl ?_
        refine V.iload_n hC dX5_fail_59 rfl ?_
        refine V.callV1i hC (c_X5_valueOf hG (mI_fail hI) (by omega)) mwX5_valueOf mlX5_90 (hG.at 111 rfl) rfl rfl ⟨rfl, rfl⟩ dX5_fail_60 rfl ?_
        refine V.icmp_ne hC 70 dX5_fail_63 (by decide) (fun c_2 => ?_) (fun c_2 => ?_)
        · refine V.iconst hC 1 dX5_fail_70 (by decide) ?_
          refine V.iadd hC dX5_fail_71 ?_
          refine V.istore_n hC dX5_fail_72 rfl rfl ?_
          refine V.iinc hC dX5_fail_73 rfl (dk_incN _) rfl ?_
          refine V.goto hC 41 dX5_fail_76 (by decide) ?_
          refine V.sub ?_ (ih_41 (k + 1) (by omega) (by omega))
          exact dk_sc rfl (dk_sc (cntA (p := fun k => mFailM M 117 k != mVal (mFailM M) k) (by simp [c_2])) (dk_sc rfl (dk_sn)))
        · refine V.iconst hC 0 dX5_fail_66 (by decide) ?_
          refine V.goto hC 71 dX5_fail_67 (by decide) ?_
          refine V.iadd hC dX5_fail_71 ?_
          refine V.istore_n hC dX5_fail_72 rfl rfl ?_
          refine V.iinc hC dX5_fail_73 rfl (dk_incN _) rfl ?_
          refine V.goto hC 41 dX5_fail_76 (by decide) ?_
          refine V.sub ?_ (ih_41 (k + 1) (by omega) (by omega))
          exact dk_sc rfl (dk_sc (cntA (p := fun k => mFailM M 117 k != mVal (mFailM M) k) (by simp [c_2])) (dk_sc rfl (dk_sn)))
  have loop_6 : ∀ (n : Nat) (k : Nat), (k ≤ N) → (N < k + n) →  V E G 3 (some (.int (mFail M).1), (mFail M).2) (mVals (mRec M) k) 6 [(0, some (.ref (G.1 + 111))), (1, some (.int (nI k)))] [] := by
    intro n
    induction n with
    | zero => intro k hk hn; exact absurd hn (by omega)
    | succ n ih_6 =>
      intro k hk hn
      refine V.iload_n hC dX5_fail_6 rfl ?_
      refine V.aload_n hC dX5_fail_7 rfl ?_
      refine gfX5_7 hG hC dX5_fail_8 ?_
      refine V.iconst hC 0 dX5_fail_11 (by decide) ?_
      refine V.ialdN hC (0) (hG.at 112 rfl) rfl al112 (rfl) (by omega) dX5_fail_12 ?_
      refine V.icmp_ge hC 33 dX5_fail_13 (by decide) (fun c_1 => ?_) (fun c_1 => ?_)
      · have hke : k = N := by have hc := c_1; rw [mVals_ne _ _ (by decide)] at hc; have := (dk_gek (k := k) (by omega)).mp hc; omega
        refine V.aload_n hC dX5_fail_33 rfl ?_
        refine V.callV0v hC (c_X5_fails hG) mwX5_fails mlX5_145 (hG.at 111 rfl) rfl rfl ⟨rfl, rfl⟩ dX5_fail_34 rfl ?_
        refine V.iconst hC 0 dX5_fail_37 (by decide) ?_
        refine V.istore_n hC dX5_fail_38 rfl rfl ?_
        refine V.iconst hC 0 dX5_fail_39 (by decide) ?_
        refine V.istore_n hC dX5_fail_40 rfl rfl ?_
        refine V.eqM (show _ = mFailM M from by unfold mFailM; rw [hN, hke]) ?_
        exact V.sub (dk_sc rfl (dk_sc rfl (dk_sc rfl (dk_sn)))) (loop_41 (N2 + 1) 0 (Nat.zero_le _) (by omega))
      · have hkl : k < N := by have hc := c_1; rw [mVals_ne _ _ (by decide)] at hc; have := mt (dk_gek (k := k) (by omega)).mpr hc; omega
        refine V.aload_n hC dX5_fail_16 rfl ?_
        refine gfX5_25 hG hC dX5_fail_17 ?_
        refine V.iload_n hC dX5_fail_20 rfl ?_
        refine V.aload_n hC dX5_fail_21 rfl ?_
        refine V.iload_n hC dX5_fail_22 rfl ?_
        refine V.callV1i hC (c_X5_valueOf hG (mI_vals (mI_rec hI) k) (by omega)) mwX5_valueOf mlX5_90 (hG.at 111 rfl) rfl rfl ⟨rfl, rfl⟩ dX5_fail_23 rfl ?_
        refine V.iastN hC (k) (hG.at 117 rfl) rfl al117 (rfl) (by omega) dX5_fail_26 ?_
        refine V.iinc hC dX5_fail_27 rfl (dk_incN _) rfl ?_
        refine V.goto hC 6 dX5_fail_30 (by decide) ?_
        exact V.sub (dk_sc rfl (dk_sc rfl (dk_sn))) (ih_6 (k + 1) (by omega) (by omega))
  refine V.aload_n hC dX5_fail_0 rfl ?_
  refine V.callV0v hC (c_X5_record hG hR) mwX5_record mlX5_93 (hG.at 111 rfl) rfl rfl ⟨rfl, rfl⟩ dX5_fail_1 rfl ?_
  refine V.iconst hC 0 dX5_fail_4 (by decide) ?_
  refine V.istore_n hC dX5_fail_5 rfl rfl ?_
  exact V.sub (dk_sc rfl (dk_sc rfl (dk_sn))) (loop_6 (N + 1) 0 (Nat.zero_le _) (by omega))
set_option maxHeartbeats 2000000 in
set_option maxRecDepth 20000 in
theorem c_X5_countOf {l : Launch} {G : dkG}  {M : dkM} (hG : dk_mdl G) {w : Int32} (hI : mI M) (hw : mWithin w 0 12 = true) : dk_Con l yX5_countOf cX5_countOf 2 (some .int) 1 22 G [.ref (G.1 + 111), .int w] M (some (.int (mCountOf M w)), M) := by
  refine dk_Con.of mwX5_countOf.1 (Nat.le_of_ble_eq_true rfl) (fun E hE hC => ?_)
  subst hE
  have hwb := mW_b hw (by decide)
  have e12 : (12 : Int32).toInt = 12 := by decide
  rw [e12] at hwb
  refine V.iload_n hC dX5_countOf_0 rfl ?_
  by_cases c_1_0 : w = 6
  · refine V.swt hC 44 dX5_countOf_1 (by rw [c_1_0]; decide) ?_
    refine V.aload_n hC dX5_countOf_44 rfl ?_
    refine gfX5_7 hG hC dX5_countOf_45 ?_
    refine V.bipush hC 6 dX5_countOf_48 (by decide) ?_
    refine V.ialdN hC (6) (hG.at 112 rfl) rfl al112 (rfl) (by omega) dX5_countOf_50 ?_
    exact V.iret hC (by first | (simp [mCountOf, c_1_0]; done) | (simp_all [mCountOf]; done)) dX5_countOf_51
  by_cases c_1_1 : w = 7
  · refine V.swt hC 52 dX5_countOf_1 (by rw [c_1_1]; decide) ?_
    refine V.aload_n hC dX5_countOf_52 rfl ?_
    refine V.callV0i hC (c_X5_cachedMany hG hI.sec) mwX5_cachedMany mlX5_127 (hG.at 111 rfl) rfl rfl ⟨rfl, rfl⟩ dX5_countOf_53 rfl ?_
    exact V.iret hC (by first | (simp [mCountOf, c_1_0, c_1_1]; done) | (simp_all [mCountOf]; done)) dX5_countOf_56
  by_cases c_1_2 : w = 8
  · refine V.swt hC 57 dX5_countOf_1 (by rw [c_1_2]; decide) ?_
    refine V.aload_n hC dX5_countOf_57 rfl ?_
    refine gfX5_7 hG hC dX5_countOf_58 ?_
    refine V.bipush hC 7 dX5_countOf_61 (by decide) ?_
    refine V.ialdN hC (7) (hG.at 112 rfl) rfl al112 (rfl) (by omega) dX5_countOf_63 ?_
    exact V.iret hC (by first | (simp [mCountOf, c_1_0, c_1_1, c_1_2]; done) | (simp_all [mCountOf]; done)) dX5_countOf_64
  by_cases c_1_3 : w = 9
  · refine V.swt hC 65 dX5_countOf_1 (by rw [c_1_3]; decide) ?_
    refine V.aload_n hC dX5_countOf_65 rfl ?_
    refine gfX5_7 hG hC dX5_countOf_66 ?_
    refine V.bipush hC 8 dX5_countOf_69 (by decide) ?_
    refine V.ialdN hC (8) (hG.at 112 rfl) rfl al112 (rfl) (by omega) dX5_countOf_71 ?_
    exact V.iret hC (by first | (simp [mCountOf, c_1_0, c_1_1, c_1_2, c_1_3]; done) | (simp_all [mCountOf]; done)) dX5_countOf_72
  by_cases c_1_4 : w = 10
  · refine V.swt hC 73 dX5_countOf_1 (by rw [c_1_4]; decide) ?_
    refine V.aload_n hC dX5_countOf_73 rfl ?_
    refine V.callV0i hC (c_X5_keysMany hG) mwX5_keysMany mlX5_99 (hG.at 111 rfl) rfl rfl ⟨rfl, rfl⟩ dX5_countOf_74 rfl ?_
    exact V.iret hC (by first | (simp [mCountOf, c_1_0, c_1_1, c_1_2, c_1_3, c_1_4]; done) | (simp_all [mCountOf]; done)) dX5_countOf_77
  by_cases c_1_5 : w = 11
  · refine V.swt hC 78 dX5_countOf_1 (by rw [c_1_5]; decide) ?_
    refine V.aload_n hC dX5_countOf_78 rfl ?_
    refine gfX5_7 hG hC dX5_countOf_79 ?_
    refine V.bipush hC 9 dX5_countOf_82 (by decide) ?_
    refine V.ialdN hC (9) (hG.at 112 rfl) rfl al112 (rfl) (by omega) dX5_countOf_84 ?_
    exact V.iret hC (by first | (simp [mCountOf, c_1_0, c_1_1, c_1_2, c_1_3, c_1_4, c_1_5]; done) | (simp_all [mCountOf]; done)) dX5_countOf_85
  by_cases c_1_6 : w = 12
  · refine V.swt hC 86 dX5_countOf_1 (by rw [c_1_6]; decide) ?_
    refine V.aload_n hC dX5_countOf_86 rfl ?_
    refine gfX5_7 hG hC dX5_countOf_87 ?_
    refine V.bipush hC 10 dX5_countOf_90 (by decide) ?_
    refine V.ialdN hC (10) (hG.at 112 rfl) rfl al112 (rfl) (by omega) dX5_countOf_92 ?_
    exact V.iret hC (by first | (simp [mCountOf, c_1_0, c_1_1, c_1_2, c_1_3, c_1_4, c_1_5, c_1_6]; done) | (simp_all [mCountOf]; done)) dX5_countOf_93
  refine V.swd hC 94 dX5_countOf_1 (by decide) (fun h1 h2 => by
      have q0 := dk_neL c_1_0 (show _ = (6 : Int) by decide)
      have q1 := dk_neL c_1_1 (show _ = (7 : Int) by decide)
      have q2 := dk_neL c_1_2 (show _ = (8 : Int) by decide)
      have q3 := dk_neL c_1_3 (show _ = (9 : Int) by decide)
      have q4 := dk_neL c_1_4 (show _ = (10 : Int) by decide)
      have q5 := dk_neL c_1_5 (show _ = (11 : Int) by decide)
      have q6 := dk_neL c_1_6 (show _ = (12 : Int) by decide)
      omega) ?_
  refine V.aload_n hC dX5_countOf_94 rfl ?_
  refine gfX5_7 hG hC dX5_countOf_95 ?_
  refine V.iload_n hC dX5_countOf_98 rfl ?_
  refine V.ialdN hC (ix w) (hG.at 112 rfl) rfl al112 (mW_n hw (by decide)) (by omega) dX5_countOf_99 ?_
  exact V.iret hC (by first | (simp [mCountOf, c_1_0, c_1_1, c_1_2, c_1_3, c_1_4, c_1_5, c_1_6]; done) | (simp_all [mCountOf]; done)) dX5_countOf_100
set_option maxHeartbeats 2000000 in
set_option maxRecDepth 20000 in
theorem c_X5_count {l : Launch} {G : dkG}  {M : dkM} (hG : dk_mdl G) {w : Int32} (hI : mI M) : dk_Con l yX5_count cX5_count 2 (some .int) 2 43 G [.ref (G.1 + 111), .int w] M (some (.int (mCount M w)), M) := by
  refine dk_Con.of mwX5_count.1 (Nat.le_of_ble_eq_true rfl) (fun E hE hC => ?_)
  subst hE
  refine V.iload_n hC dX5_count_0 rfl ?_
  refine V.iconst hC 0 dX5_count_1 (by decide) ?_
  refine V.bipush hC 12 dX5_count_2 (by decide) ?_
  refine V.callS3i hC (c_X5_within) mwX5_within mlX5_52 ⟨rfl, rfl⟩ dX5_count_4 rfl ?_
  refine V.if_eqB hC 18 dX5_count_7 (by decide) (fun c_1 => ?_) (fun c_1 => ?_)
  · refine V.bipush hC (-2) dX5_count_18 (by decide) ?_
    exact V.iret hC (by first | (simp [mCount, c_1]; done) | (simp_all [mCount]; done)) dX5_count_20
  · refine V.aload_n hC dX5_count_10 rfl ?_
    refine V.iload_n hC dX5_count_11 rfl ?_
    refine V.callV1i hC (c_X5_countOf hG hI c_1) mwX5_countOf mlX5_148 (hG.at 111 rfl) rfl rfl ⟨rfl, rfl⟩ dX5_count_12 rfl ?_
    refine V.goto hC 20 dX5_count_15 (by decide) ?_
    exact V.iret hC (by first | (simp [mCount, c_1]; done) | (simp_all [mCount]; done)) dX5_count_20
set_option maxHeartbeats 2000000 in
set_option maxRecDepth 20000 in
theorem c_X5_read {l : Launch} {G : dkG}  {M : dkM} (hG : dk_mdl G) {s : Int32} (hI : mI M) : dk_Con l yX5_read cX5_read 2 (some .int) 7 148 G [.ref (G.1 + 111), .int s] M (some (.int (mRead M s)), M) := by
  refine dk_Con.of mwX5_read.1 (Nat.le_of_ble_eq_true rfl) (fun E hE hC => ?_)
  subst hE
  refine V.aload_n hC dX5_read_0 rfl ?_
  refine V.iload_n hC dX5_read_1 rfl ?_
  refine V.callV1i hC (c_X5_isSector hG) mwX5_isSector mlX5_124 (hG.at 111 rfl) rfl rfl ⟨rfl, rfl⟩ dX5_read_2 rfl ?_
  refine V.if_eqB hC 16 dX5_read_5 (by decide) (fun c_1 => ?_) (fun c_1 => ?_)
  · refine V.iconst hC (-1) dX5_read_16 (by decide) ?_
    exact V.iret hC (by first | (simp [mRead, c_1]; done) | (simp_all [mRead]; done)) dX5_read_17
  · refine V.aload_n hC dX5_read_8 rfl ?_
    refine V.iload_n hC dX5_read_9 rfl ?_
    refine V.top (congrArg Value.int (mSec_k hI c_1).1) ?_
    refine V.callV1i hC (c_X5_valueOf hG hI (mSec_k hI c_1).2.1) mwX5_valueOf mlX5_90 (hG.at 111 rfl) rfl rfl ⟨rfl, rfl⟩ dX5_read_10 rfl ?_
    refine V.goto hC 17 dX5_read_13 (by decide) ?_
    exact V.iret hC (by first | (simp [mRead, c_1]; done) | (simp_all [mRead]; done)) dX5_read_17
set_option maxHeartbeats 2000000 in
set_option maxRecDepth 20000 in
theorem c_X5_stored {l : Launch} {G : dkG}  {M : dkM} (hG : dk_mdl G) {s : Int32} (hI : mI M) : dk_Con l yX5_stored cX5_stored 2 (some .int) 2 43 G [.ref (G.1 + 111), .int s] M (some (.int (mStored M s)), M) := by
  refine dk_Con.of mwX5_stored.1 (Nat.le_of_ble_eq_true rfl) (fun E hE hC => ?_)
  subst hE
  refine V.aload_n hC dX5_stored_0 rfl ?_
  refine V.iload_n hC dX5_stored_1 rfl ?_
  refine V.callV1i hC (c_X5_isSector hG) mwX5_isSector mlX5_124 (hG.at 111 rfl) rfl rfl ⟨rfl, rfl⟩ dX5_stored_2 rfl ?_
  refine V.if_eqB hC 20 dX5_stored_5 (by decide) (fun c_1 => ?_) (fun c_1 => ?_)
  · refine V.iconst hC (-1) dX5_stored_20 (by decide) ?_
    exact V.iret hC (by first | (simp [mStored, c_1]; done) | (simp_all [mStored]; done)) dX5_stored_21
  · refine V.aload_n hC dX5_stored_8 rfl ?_
    refine gfX5_7 hG hC dX5_stored_9 ?_
    refine V.bipush hC 111 dX5_stored_12 (by decide) ?_
    refine V.iload_n hC dX5_stored_14 rfl ?_
    refine V.iadd hC dX5_stored_15 ?_
    refine V.ialdN hC (111 + ix s) (hG.at 112 rfl) rfl al112 (dk_addN rfl (mSec_k hI c_1).1) (by have := (mSec_k hI c_1).2; omega) dX5_stored_16 ?_
    refine V.goto hC 21 dX5_stored_17 (by decide) ?_
    exact V.iret hC (by first | (simp [mStored, c_1]; done) | (simp_all [mStored]; done)) dX5_stored_21
set_option maxHeartbeats 2000000 in
set_option maxRecDepth 20000 in
theorem c_X5_keyOf {l : Launch} {G : dkG}  {M : dkM} (hG : dk_mdl G) {s : Int32} (hI : mI M) : dk_Con l yX5_keyOf cX5_keyOf 2 (some .int) 4 85 G [.ref (G.1 + 111), .int s] M (some (.int (mKeyOf M s)), M) := by
  refine dk_Con.of mwX5_keyOf.1 (Nat.le_of_ble_eq_true rfl) (fun E hE hC => ?_)
  subst hE
  refine V.aload_n hC dX5_keyOf_0 rfl ?_
  refine V.iload_n hC dX5_keyOf_1 rfl ?_
  refine V.callV1i hC (c_X5_isSector hG) mwX5_isSector mlX5_124 (hG.at 111 rfl) rfl rfl ⟨rfl, rfl⟩ dX5_keyOf_2 rfl ?_
  refine V.if_eqB hC 16 dX5_keyOf_5 (by decide) (fun c_1 => ?_) (fun c_1 => ?_)
  · refine V.iconst hC (-1) dX5_keyOf_16 (by decide) ?_
    exact V.iret hC (by first | (simp [mKeyOf, c_1]; done) | (simp_all [mKeyOf]; done)) dX5_keyOf_17
  · refine V.aload_n hC dX5_keyOf_8 rfl ?_
    refine V.iload_n hC dX5_keyOf_9 rfl ?_
    refine V.callV1i hC (c_X5_keyAt hG) mwX5_keyAt mlX5_74 (hG.at 111 rfl) rfl rfl ⟨rfl, rfl⟩ dX5_keyOf_10 rfl ?_
    refine V.goto hC 17 dX5_keyOf_13 (by decide) ?_
    exact V.iret hC (by first | (simp [mKeyOf, c_1]; done) | (simp_all [mKeyOf]; done)) dX5_keyOf_17
set_option maxHeartbeats 2000000 in
set_option maxRecDepth 20000 in
theorem c_X5_journal {l : Launch} {G : dkG}  {M : dkM} (hG : dk_mdl G) {s : Int32} (hI : mI M) : dk_Con l yX5_journal cX5_journal 2 (some .int) 2 43 G [.ref (G.1 + 111), .int s] M (some (.int (mJournal M s)), M) := by
  refine dk_Con.of mwX5_journal.1 (Nat.le_of_ble_eq_true rfl) (fun E hE hC => ?_)
  subst hE
  refine V.aload_n hC dX5_journal_0 rfl ?_
  refine V.iload_n hC dX5_journal_1 rfl ?_
  refine V.callV1i hC (c_X5_isSector hG) mwX5_isSector mlX5_124 (hG.at 111 rfl) rfl rfl ⟨rfl, rfl⟩ dX5_journal_2 rfl ?_
  refine V.if_eqB hC 21 dX5_journal_5 (by decide) (fun c_1 => ?_) (fun c_1 => ?_)
  · refine V.iconst hC (-1) dX5_journal_21 (by decide) ?_
    exact V.iret hC (by first | (simp [mJournal, c_1]; done) | (simp_all [mJournal]; done)) dX5_journal_22
  · refine V.aload_n hC dX5_journal_8 rfl ?_
    refine gfX5_7 hG hC dX5_journal_9 ?_
    refine V.sipush hC 175 dX5_journal_12 (by decide) ?_
    refine V.iload_n hC dX5_journal_15 rfl ?_
    refine V.iadd hC dX5_journal_16 ?_
    refine V.ialdN hC (175 + ix s) (hG.at 112 rfl) rfl al112 (dk_addN rfl (mSec_k hI c_1).1) (by have := (mSec_k hI c_1).2; omega) dX5_journal_17 ?_
    refine V.goto hC 22 dX5_journal_18 (by decide) ?_
    exact V.iret hC (by first | (simp [mJournal, c_1]; done) | (simp_all [mJournal]; done)) dX5_journal_22
set_option maxHeartbeats 2000000 in
set_option maxRecDepth 20000 in
theorem c_X5_cached {l : Launch} {G : dkG}  {M : dkM} (hG : dk_mdl G) {s : Int32} (hI : mI M) : dk_Con l yX5_cached cX5_cached 2 (some .int) 2 43 G [.ref (G.1 + 111), .int s] M (some (.int (mCachedS M s)), M) := by
  refine dk_Con.of mwX5_cached.1 (Nat.le_of_ble_eq_true rfl) (fun E hE hC => ?_)
  subst hE
  refine V.aload_n hC dX5_cached_0 rfl ?_
  refine V.iload_n hC dX5_cached_1 rfl ?_
  refine V.callV1i hC (c_X5_isSector hG) mwX5_isSector mlX5_124 (hG.at 111 rfl) rfl rfl ⟨rfl, rfl⟩ dX5_cached_2 rfl ?_
  refine V.if_eqB hC 21 dX5_cached_5 (by decide) (fun c_1 => ?_) (fun c_1 => ?_)
  · refine V.iconst hC (-1) dX5_cached_21 (by decide) ?_
    exact V.iret hC (by first | (simp [mCachedS, c_1]; done) | (simp_all [mCachedS]; done)) dX5_cached_22
  · refine V.aload_n hC dX5_cached_8 rfl ?_
    refine gfX5_7 hG hC dX5_cached_9 ?_
    refine V.sipush hC 239 dX5_cached_12 (by decide) ?_
    refine V.iload_n hC dX5_cached_15 rfl ?_
    refine V.iadd hC dX5_cached_16 ?_
    refine V.ialdN hC (239 + ix s) (hG.at 112 rfl) rfl al112 (dk_addN rfl (mSec_k hI c_1).1) (by have := (mSec_k hI c_1).2; omega) dX5_cached_17 ?_
    refine V.goto hC 22 dX5_cached_18 (by decide) ?_
    exact V.iret hC (by first | (simp [mCachedS, c_1]; done) | (simp_all [mCachedS]; done)) dX5_cached_22
set_option maxHeartbeats 2000000 in
set_option maxRecDepth 20000 in
theorem c_X5_zoneStart {l : Launch} {G : dkG}  {M : dkM} (hG : dk_mdl G)  : dk_Con l yX5_zoneStart cX5_zoneStart 1 (some .int) 1 21 G [.ref (G.1 + 111)] M (some (.int (mZone M)), M) := by
  refine dk_Con.of mwX5_zoneStart.1 (Nat.le_of_ble_eq_true rfl) (fun E hE hC => ?_)
  subst hE
  refine V.aload_n hC dX5_zoneStart_0 rfl ?_
  refine V.callV0i hC (c_X5_isRekeying hG) mwX5_isRekeying mlX5_56 (hG.at 111 rfl) rfl rfl ⟨rfl, rfl⟩ dX5_zoneStart_1 rfl ?_
  refine V.if_eqB hC 14 dX5_zoneStart_4 (by decide) (fun c_1 => ?_) (fun c_1 => ?_)
  · refine V.bipush hC (-3) dX5_zoneStart_14 (by decide) ?_
    exact V.iret hC (by first | (simp [mZone, c_1]; done) | (simp_all [mZone]; done)) dX5_zoneStart_16
  · refine V.aload_n hC dX5_zoneStart_7 rfl ?_
    refine V.callV0i hC (c_X5_zoneFrom hG) mwX5_zoneFrom mlX5_60 (hG.at 111 rfl) rfl rfl ⟨rfl, rfl⟩ dX5_zoneStart_8 rfl ?_
    refine V.goto hC 16 dX5_zoneStart_11 (by decide) ?_
    exact V.iret hC (by first | (simp [mZone, c_1]; done) | (simp_all [mZone]; done)) dX5_zoneStart_16
set_option maxHeartbeats 2000000 in
set_option maxRecDepth 20000 in
theorem c_X5_damaged {l : Launch} {G : dkG}  {M : dkM} (hG : dk_mdl G) (hI : mI M) : dk_Con l yX5_damaged cX5_damaged 1 (some .int) 8 170 G [.ref (G.1 + 111)] M (some (.int (nI (mDam M))), M) := by
  refine dk_Con.of mwX5_damaged.1 (Nat.le_of_ble_eq_true rfl) (fun E hE hC => ?_)
  subst hE
  refine V.aload_n hC dX5_damaged_0 rfl ?_
  refine V.callV0i hC (c_X5_damagedMany hG hI) mwX5_damagedMany mlX5_151 (hG.at 111 rfl) rfl rfl ⟨rfl, rfl⟩ dX5_damaged_1 rfl ?_
  exact V.iret hC (rfl) dX5_damaged_4
set_option maxHeartbeats 2000000 in
set_option maxRecDepth 20000 in
theorem c_X5_firstOne {l : Launch} {G : dkG}  {M : dkM} (hG : dk_mdl G) (hI : mI M) : dk_Con l yX5_firstOne cX5_firstOne 2 (some .int) 7 148 G [.ref (G.1 + 111)] M (some (.int (mFirst M)), M) := by
  refine dk_Con.of mwX5_firstOne.1 (Nat.le_of_ble_eq_true rfl) (fun E hE hC => ?_)
  subst hE
  have hs6 := hI.sec
  obtain ⟨N, hN⟩ : ∃ N, ix (M 112 0) = N := ⟨_, rfl⟩
  rw [hN] at hs6
  have loop_2 : ∀ (n : Nat) (k : Nat), (k ≤ N) → (N < k + n) → (mFoL M (N - k) k = mFoL M N 0) →  V E G 2 (some (.int (mFirst M)), M) (M) 2 [(0, some (.ref (G.1 + 111))), (1, some (.int (nI k)))] [] := by
    intro n
    induction n with
    | zero => intro k hk hn hT; exact absurd hn (by omega)
    | succ n ih_2 =>
      intro k hk hn hT
      refine V.iload_n hC dX5_firstOne_2 rfl ?_
      refine V.aload_n hC dX5_firstOne_3 rfl ?_
      refine gfX5_7 hG hC dX5_firstOne_4 ?_
      refine V.iconst hC 0 dX5_firstOne_7 (by decide) ?_
      refine V.ialdN hC (0) (hG.at 112 rfl) rfl al112 (rfl) (by omega) dX5_firstOne_8 ?_
      refine V.icmp_ge hC 38 dX5_firstOne_9 (by decide) (fun c_1 => ?_) (fun c_1 => ?_)
      · have hke : k = N := by have := (dk_gek (k := k) (by omega)).mp c_1; omega
        subst hke
        refine V.bipush hC (-6) dX5_firstOne_38 (by decide) ?_
        exact V.iret hC (by unfold mFirst; rw [hN, ← hT, Nat.sub_self]; rfl) dX5_firstOne_40
      · have hkl : k < N := by have := mt (dk_gek (k := k) (by omega)).mpr c_1; omega
        refine V.aload_n hC dX5_firstOne_12 rfl ?_
        refine V.iload_n hC dX5_firstOne_13 rfl ?_
        refine V.callV1i hC (c_X5_valueOf hG hI (by omega)) mwX5_valueOf mlX5_90 (hG.at 111 rfl) rfl rfl ⟨rfl, rfl⟩ dX5_firstOne_14 rfl ?_
        refine V.aload_n hC dX5_firstOne_17 rfl ?_
        refine gfX5_7 hG hC dX5_firstOne_18 ?_
        refine V.sipush hC 303 dX5_firstOne_21 (by decide) ?_
        refine V.iload_n hC dX5_firstOne_24 rfl ?_
        refine V.iadd hC dX5_firstOne_25 ?_
        refine V.ialdN hC (303 + k) (hG.at 112 rfl) rfl al112 (dk_addN (rfl) (rfl)) (by omega) dX5_firstOne_26 ?_
        refine V.icmp_eq hC 32 dX5_firstOne_27 (by decide) (fun c_2 => ?_) (fun c_2 => ?_)
        · refine V.iinc hC dX5_firstOne_32 rfl (dk_incN _) rfl ?_
          refine V.goto hC 2 dX5_firstOne_35 (by decide) ?_
          exact V.sub (dk_sc rfl (dk_sc rfl (dk_sn))) (ih_2 (k + 1) (by omega) (by omega) (by rw [show N - k = N - (k + 1) + 1 by omega, mFoL, if_pos c_2] at hT; exact hT))
        · refine V.iload_n hC dX5_firstOne_30 rfl ?_
          exact V.iret hC (by unfold mFirst; rw [hN, ← hT, show N - k = N - (k + 1) + 1 by omega, mFoL, if_neg c_2]) dX5_firstOne_31
  refine V.iconst hC 0 dX5_firstOne_0 (by decide) ?_
  refine V.istore_n hC dX5_firstOne_1 rfl rfl ?_
  exact V.sub (dk_sc rfl (dk_sc rfl (dk_sn))) (loop_2 (N + 1) 0 (Nat.zero_le _) (by omega) rfl)
set_option maxHeartbeats 2000000 in
set_option maxRecDepth 20000 in
theorem c_X5_firstDamaged {l : Launch} {G : dkG}  {M : dkM} (hG : dk_mdl G) (hI : mI M) : dk_Con l yX5_firstDamaged cX5_firstDamaged 1 (some .int) 8 169 G [.ref (G.1 + 111)] M (some (.int (mFirst M)), M) := by
  refine dk_Con.of mwX5_firstDamaged.1 (Nat.le_of_ble_eq_true rfl) (fun E hE hC => ?_)
  subst hE
  refine V.aload_n hC dX5_firstDamaged_0 rfl ?_
  refine V.callV0i hC (c_X5_firstOne hG hI) mwX5_firstOne mlX5_154 (hG.at 111 rfl) rfl rfl ⟨rfl, rfl⟩ dX5_firstDamaged_1 rfl ?_
  exact V.iret hC (rfl) dX5_firstDamaged_4
set_option maxHeartbeats 2000000 in
set_option maxRecDepth 20000 in
theorem c_X5_stepsLeft {l : Launch} {G : dkG}  {M : dkM} (hG : dk_mdl G) (hI : mI M) : dk_Con l yX5_stepsLeft cX5_stepsLeft 1 (some .int) 2 43 G [.ref (G.1 + 111)] M (some (.int (mStLeft M)), M) := by
  refine dk_Con.of mwX5_stepsLeft.1 (Nat.le_of_ble_eq_true rfl) (fun E hE hC => ?_)
  subst hE
  refine V.aload_n hC dX5_stepsLeft_0 rfl ?_
  refine V.callV0i hC (c_X5_isRekeying hG) mwX5_isRekeying mlX5_56 (hG.at 111 rfl) rfl rfl ⟨rfl, rfl⟩ dX5_stepsLeft_1 rfl ?_
  refine V.if_eqB hC 14 dX5_stepsLeft_4 (by decide) (fun c_1 => ?_) (fun c_1 => ?_)
  · refine V.bipush hC (-3) dX5_stepsLeft_14 (by decide) ?_
    exact V.iret hC (by first | (simp [mStLeft, c_1]; done) | (simp_all [mStLeft]; done)) dX5_stepsLeft_16
  · refine V.aload_n hC dX5_stepsLeft_7 rfl ?_
    refine V.callV0i hC (c_X5_left hG hI.zone) mwX5_left mlX5_109 (hG.at 111 rfl) rfl rfl ⟨rfl, rfl⟩ dX5_stepsLeft_8 rfl ?_
    refine V.goto hC 16 dX5_stepsLeft_11 (by decide) ?_
    exact V.iret hC (by first | (simp [mStLeft, c_1]; done) | (simp_all [mStLeft]; done)) dX5_stepsLeft_16
set_option maxHeartbeats 2000000 in
set_option maxRecDepth 20000 in
theorem c_X5_damagedThen {l : Launch} {G : dkG}  {M : dkM} (hG : dk_mdl G) (hI : mI M) : dk_Con l yX5_damagedThen cX5_damagedThen 2 (some .int) 8 170 G [.ref (G.1 + 111)] M (some (.int (mThen M).1), (mThen M).2) := by
  refine dk_Con.of mwX5_damagedThen.1 (Nat.le_of_ble_eq_true rfl) (fun E hE hC => ?_)
  subst hE
  refine V.aload_n hC dX5_damagedThen_0 rfl ?_
  refine gfX5_7 hG hC dX5_damagedThen_1 ?_
  refine V.iconst hC 0 dX5_damagedThen_4 (by decide) ?_
  refine V.aload_n hC dX5_damagedThen_5 rfl ?_
  refine gfX5_16 hG hC dX5_damagedThen_6 ?_
  refine V.iconst hC 0 dX5_damagedThen_9 (by decide) ?_
  refine V.callS4v hC (c_X5_copies (hG.at 112 rfl) rfl al112 (hG.at 114 rfl) rfl al114 (by decide) (0) (0) (by omega) (by omega)) mwX5_copies mlX5_36 ⟨rfl, rfl⟩ dX5_damagedThen_10 rfl ?_
  refine V.aload_n hC dX5_damagedThen_13 rfl ?_
  refine V.callV0v hC (c_X5_fails hG) mwX5_fails mlX5_145 (hG.at 111 rfl) rfl rfl ⟨rfl, rfl⟩ dX5_damagedThen_14 rfl ?_
  refine V.aload_n hC dX5_damagedThen_17 rfl ?_
  refine V.callV0i hC (c_X5_damagedMany hG (mI_then hI)) mwX5_damagedMany mlX5_151 (hG.at 111 rfl) rfl rfl ⟨rfl, rfl⟩ dX5_damagedThen_18 rfl ?_
  refine V.istore_n hC dX5_damagedThen_21 rfl rfl ?_
  refine V.aload_n hC dX5_damagedThen_22 rfl ?_
  refine gfX5_16 hG hC dX5_damagedThen_23 ?_
  refine V.iconst hC 0 dX5_damagedThen_26 (by decide) ?_
  refine V.aload_n hC dX5_damagedThen_27 rfl ?_
  refine gfX5_7 hG hC dX5_damagedThen_28 ?_
  refine V.iconst hC 0 dX5_damagedThen_31 (by decide) ?_
  refine V.callS4v hC (c_X5_copies (hG.at 114 rfl) rfl al114 (hG.at 112 rfl) rfl al112 (by decide) (0) (0) (by omega) (by omega)) mwX5_copies mlX5_36 ⟨rfl, rfl⟩ dX5_damagedThen_32 rfl ?_
  refine V.iload_n hC dX5_damagedThen_35 rfl ?_
  exact V.iret hC (rfl) dX5_damagedThen_36
set_option maxHeartbeats 2000000 in
set_option maxRecDepth 20000 in
theorem c_X5_ifFailed {l : Launch} {G : dkG}  {M : dkM} (hG : dk_mdl G) {m : Int32} (hI : mI M) : dk_Con l yX5_ifFailed cX5_ifFailed 3 (some .int) 9 191 G [.ref (G.1 + 111), .int m] M (some (.int (mIfFail M m).1), (mIfFail M m).2) := by
  refine dk_Con.of mwX5_ifFailed.1 (Nat.le_of_ble_eq_true rfl) (fun E hE hC => ?_)
  subst hE
  refine V.iload_n hC dX5_ifFailed_0 rfl ?_
  refine V.iconst hC 0 dX5_ifFailed_1 (by decide) ?_
  refine V.sipush hC 999 dX5_ifFailed_2 (by decide) ?_
  refine V.callS3i hC (c_X5_within) mwX5_within mlX5_52 ⟨rfl, rfl⟩ dX5_ifFailed_5 rfl ?_
  refine V.if_neB hC 14 dX5_ifFailed_8 (by decide) (fun c_1 => ?_) (fun c_1 => ?_)
  · refine V.aload_n hC dX5_ifFailed_14 rfl ?_
    refine gfX5_7 hG hC dX5_ifFailed_15 ?_
    refine V.iconst hC 0 dX5_ifFailed_18 (by decide) ?_
    refine V.aload_n hC dX5_ifFailed_19 rfl ?_
    refine gfX5_13 hG hC dX5_ifFailed_20 ?_
    refine V.iconst hC 0 dX5_ifFailed_23 (by decide) ?_
    refine V.callS4v hC (c_X5_copies (hG.at 112 rfl) rfl al112 (hG.at 113 rfl) rfl al113 (by decide) (0) (0) (by omega) (by omega)) mwX5_copies mlX5_36 ⟨rfl, rfl⟩ dX5_ifFailed_24 rfl ?_
    refine V.aload_n hC dX5_ifFailed_27 rfl ?_
    refine V.iload_n hC dX5_ifFailed_28 rfl ?_
    refine V.callV1i hC (c_X5_makesSteps hG (mI_row (mKept_st M) hI)) mwX5_makesSteps mlX5_115 (hG.at 111 rfl) rfl rfl ⟨rfl, rfl⟩ dX5_ifFailed_29 rfl ?_
    refine V.pop hC dX5_ifFailed_32 rfl ?_
    refine V.aload_n hC dX5_ifFailed_33 rfl ?_
    refine V.callV0i hC (c_X5_damagedThen hG (mStepsL_I _ _ _ (mI_row (mKept_st M) hI))) mwX5_damagedThen mlX5_157 (hG.at 111 rfl) rfl rfl ⟨rfl, rfl⟩ dX5_ifFailed_34 rfl ?_
    refine V.istore_n hC dX5_ifFailed_37 rfl rfl ?_
    refine V.aload_n hC dX5_ifFailed_38 rfl ?_
    refine gfX5_13 hG hC dX5_ifFailed_39 ?_
    refine V.iconst hC 0 dX5_ifFailed_42 (by decide) ?_
    refine V.aload_n hC dX5_ifFailed_43 rfl ?_
    refine gfX5_7 hG hC dX5_ifFailed_44 ?_
    refine V.iconst hC 0 dX5_ifFailed_47 (by decide) ?_
    refine V.callS4v hC (c_X5_copies (hG.at 113 rfl) rfl al113 (hG.at 112 rfl) rfl al112 (by decide) (0) (0) (by omega) (by omega)) mwX5_copies mlX5_36 ⟨rfl, rfl⟩ dX5_ifFailed_48 rfl ?_
    refine V.iload_n hC dX5_ifFailed_51 rfl ?_
    exact V.iret hC (by first | (simp [mIfFail, c_1]; done) | (simp only [mIfFail, c_1, if_true]; rfl)) dX5_ifFailed_52
  · refine V.bipush hC (-2) dX5_ifFailed_11 (by decide) ?_
    exact V.iret hC (by first | (simp [mIfFail, c_1]; done) | (simp only [mIfFail, c_1, if_true]; rfl)) dX5_ifFailed_13
set_option maxHeartbeats 2000000 in
set_option maxRecDepth 20000 in
theorem c_X5_worstTime {l : Launch} {G : dkG}  {M : dkM} (hG : dk_mdl G) (hI : mI M) : dk_Con l yX5_worstTime cX5_worstTime 5 (some .int) 9 191 G [.ref (G.1 + 111)] M (some (.int (mWorst M).1), (mWorst M).2) := by
  refine dk_Con.of mwX5_worstTime.1 (Nat.le_of_ble_eq_true rfl) (fun E hE hC => ?_)
  subst hE
  have loop_20 : ∀ (n : Nat) (k : Nat) (M1 : dkM) (found most : Int32), (mI M1) → (k ≤ 100) → (100 < k + n) → (mWorL (100 - k) M1 k found most = mWorL 100 (mKept M) 0 0 (-6)) →  V E G 5 (some (.int (mWorst M).1), (mWorst M).2) (M1) 20 [(0, some (.ref (G.1 + 111))), (1, some (.int found)), (2, some (.int most)), (3, some (.int (nI k)))] [] := by
    intro n
    induction n with
    | zero => intro k M1 found most hI1 hk hn hT; exact absurd hn (by omega)
    | succ n ih_20 =>
      intro k M1 found most hI1 hk hn hT
      refine V.iload_n hC dX5_worstTime_20 rfl ?_
      refine V.bipush hC 100 dX5_worstTime_21 (by decide) ?_
      refine V.icmp_ge hC 69 dX5_worstTime_23 (by decide) (fun c_1 => ?_) (fun c_1 => ?_)
      · have hke : k = 100 := by have := (dk_gek (k := k) (x := nI 100) (by omega)).mp c_1; rw [ix_nI (by omega)] at this; omega
        rw [hke] at hT
        refine V.aload_n hC dX5_worstTime_69 rfl ?_
        refine gfX5_13 hG hC dX5_worstTime_70 ?_
        refine V.iconst hC 0 dX5_worstTime_73 (by decide) ?_
        refine V.aload_n hC dX5_worstTime_74 rfl ?_
        refine gfX5_7 hG hC dX5_worstTime_75 ?_
        refine V.iconst hC 0 dX5_worstTime_78 (by decide) ?_
        refine V.callS4v hC (c_X5_copies (hG.at 113 rfl) rfl al113 (hG.at 112 rfl) rfl al112 (by decide) (0) (0) (by omega) (by omega)) mwX5_copies mlX5_36 ⟨rfl, rfl⟩ dX5_worstTime_79 rfl ?_
        refine V.iload_n hC dX5_worstTime_82 rfl ?_
        exact V.iret hC (by unfold mWorst; rw [← hT]; rfl) dX5_worstTime_83
      · have hkl : k < 100 := by have := mt (dk_gek (k := k) (x := nI 100) (by omega)).mpr c_1; rw [ix_nI (by omega)] at this; omega
        refine V.aload_n hC dX5_worstTime_26 rfl ?_
        refine V.callV0i hC (c_X5_damagedThen hG hI1) mwX5_damagedThen mlX5_157 (hG.at 111 rfl) rfl rfl ⟨rfl, rfl⟩ dX5_worstTime_27 rfl ?_
        refine V.istore hC dX5_worstTime_30 rfl rfl ?_
        refine V.iload hC dX5_worstTime_32 rfl ?_
        refine V.iload_n hC dX5_worstTime_34 rfl ?_
        refine V.icmp_le hC 42 dX5_worstTime_35 (by decide) (fun c_2 => ?_) (fun c_2 => ?_)
        · refine V.iload_n hC dX5_worstTime_42 rfl ?_
          refine V.istore_n hC dX5_worstTime_43 rfl rfl ?_
          refine V.iload hC dX5_worstTime_44 rfl ?_
          refine V.iload_n hC dX5_worstTime_46 rfl ?_
          refine V.icmp_le hC 55 dX5_worstTime_47 (by decide) (fun c_3 => ?_) (fun c_3 => ?_)
          · refine V.iload_n hC dX5_worstTime_55 rfl ?_
            refine V.istore_n hC dX5_worstTime_56 rfl rfl ?_
            refine V.aload_n hC dX5_worstTime_57 rfl ?_
            refine V.iconst hC 1 dX5_worstTime_58 (by decide) ?_
            refine V.callV1i hC (c_X5_makesSteps hG (mI_row (mThen_st M1) hI1)) mwX5_makesSteps mlX5_115 (hG.at 111 rfl) rfl rfl ⟨rfl, rfl⟩ dX5_worstTime_59 rfl ?_
            refine V.pop hC dX5_worstTime_62 rfl ?_
            refine V.iinc hC dX5_worstTime_63 rfl (dk_incN _) rfl ?_
            refine V.goto hC 20 dX5_worstTime_66 (by decide) ?_
            have hT3 := hT
            rw [show 100 - k = 100 - (k + 1) + 1 by omega, mWorL] at hT3
            first | exact absurd c_2 c_3 | exact absurd c_3 c_2 | (rw [if_pos c_2, if_pos c_3] at hT3; exact V.sub (dk_sc rfl (dk_sc rfl (dk_sc rfl (dk_sc rfl (dk_sn))))) (ih_20 (k + 1) _ _ _ (mStepsL_I _ _ _ (mI_row (mThen_st M1) hI1)) (by omega) (by omega) hT3)) | (rw [if_neg c_2, if_neg c_3] at hT3; exact V.sub (dk_sc rfl (dk_sc rfl (dk_sc rfl (dk_sc rfl (dk_sn))))) (ih_20 (k + 1) _ _ _ (mStepsL_I _ _ _ (mI_row (mThen_st M1) hI1)) (by omega) (by omega) hT3))
          · refine V.iload hC dX5_worstTime_50 rfl ?_
            refine V.goto hC 56 dX5_worstTime_52 (by decide) ?_
            refine V.istore_n hC dX5_worstTime_56 rfl rfl ?_
            refine V.aload_n hC dX5_worstTime_57 rfl ?_
            refine V.iconst hC 1 dX5_worstTime_58 (by decide) ?_
            refine V.callV1i hC (c_X5_makesSteps hG (mI_row (mThen_st M1) hI1)) mwX5_makesSteps mlX5_115 (hG.at 111 rfl) rfl rfl ⟨rfl, rfl⟩ dX5_worstTime_59 rfl ?_
            refine V.pop hC dX5_worstTime_62 rfl ?_
            refine V.iinc hC dX5_worstTime_63 rfl (dk_incN _) rfl ?_
            refine V.goto hC 20 dX5_worstTime_66 (by decide) ?_
            have hT3 := hT
            rw [show 100 - k = 100 - (k + 1) + 1 by omega, mWorL] at hT3
            first | exact absurd c_2 c_3 | exact absurd c_3 c_2 | (rw [if_pos c_2, if_pos c_3] at hT3; exact V.sub (dk_sc rfl (dk_sc rfl (dk_sc rfl (dk_sc rfl (dk_sn))))) (ih_20 (k + 1) _ _ _ (mStepsL_I _ _ _ (mI_row (mThen_st M1) hI1)) (by omega) (by omega) hT3)) | (rw [if_neg c_2, if_neg c_3] at hT3; exact V.sub (dk_sc rfl (dk_sc rfl (dk_sc rfl (dk_sc rfl (dk_sn))))) (ih_20 (k + 1) _ _ _ (mStepsL_I _ _ _ (mI_row (mThen_st M1) hI1)) (by omega) (by omega) hT3))
        · refine V.iload_n hC dX5_worstTime_38 rfl ?_
          refine V.goto hC 43 dX5_worstTime_39 (by decide) ?_
          refine V.istore_n hC dX5_worstTime_43 rfl rfl ?_
          refine V.iload hC dX5_worstTime_44 rfl ?_
          refine V.iload_n hC dX5_worstTime_46 rfl ?_
          refine V.icmp_le hC 55 dX5_worstTime_47 (by decide) (fun c_3 => ?_) (fun c_3 => ?_)
          · refine V.iload_n hC dX5_worstTime_55 rfl ?_
            refine V.istore_n hC dX5_worstTime_56 rfl rfl ?_
            refine V.aload_n hC dX5_worstTime_57 rfl ?_
            refine V.iconst hC 1 dX5_worstTime_58 (by decide) ?_
            refine V.callV1i hC (c_X5_makesSteps hG (mI_row (mThen_st M1) hI1)) mwX5_makesSteps mlX5_115 (hG.at 111 rfl) rfl rfl ⟨rfl, rfl⟩ dX5_worstTime_59 rfl ?_
            refine V.pop hC dX5_worstTime_62 rfl ?_
            refine V.iinc hC dX5_worstTime_63 rfl (dk_incN _) rfl ?_
            refine V.goto hC 20 dX5_worstTime_66 (by decide) ?_
            have hT3 := hT
            rw [show 100 - k = 100 - (k + 1) + 1 by omega, mWorL] at hT3
            first | exact absurd c_2 c_3 | exact absurd c_3 c_2 | (rw [if_pos c_2, if_pos c_3] at hT3; exact V.sub (dk_sc rfl (dk_sc rfl (dk_sc rfl (dk_sc rfl (dk_sn))))) (ih_20 (k + 1) _ _ _ (mStepsL_I _ _ _ (mI_row (mThen_st M1) hI1)) (by omega) (by omega) hT3)) | (rw [if_neg c_2, if_neg c_3] at hT3; exact V.sub (dk_sc rfl (dk_sc rfl (dk_sc rfl (dk_sc rfl (dk_sn))))) (ih_20 (k + 1) _ _ _ (mStepsL_I _ _ _ (mI_row (mThen_st M1) hI1)) (by omega) (by omega) hT3))
          · refine V.iload hC dX5_worstTime_50 rfl ?_
            refine V.goto hC 56 dX5_worstTime_52 (by decide) ?_
            refine V.istore_n hC dX5_worstTime_56 rfl rfl ?_
            refine V.aload_n hC dX5_worstTime_57 rfl ?_
            refine V.iconst hC 1 dX5_worstTime_58 (by decide) ?_
            refine V.callV1i hC (c_X5_makesSteps hG (mI_row (mThen_st M1) hI1)) mwX5_makesSteps mlX5_115 (hG.at 111 rfl) rfl rfl ⟨rfl, rfl⟩ dX5_worstTime_59 rfl ?_
            refine V.pop hC dX5_worstTime_62 rfl ?_
            refine V.iinc hC dX5_worstTime_63 rfl (dk_incN _) rfl ?_
            refine V.goto hC 20 dX5_worstTime_66 (by decide) ?_
            have hT3 := hT
            rw [show 100 - k = 100 - (k + 1) + 1 by omega, mWorL] at hT3
            first | exact absurd c_2 c_3 | exact absurd c_3 c_2 | (rw [if_pos c_2, if_pos c_3] at hT3; exact V.sub (dk_sc rfl (dk_sc rfl (dk_sc rfl (dk_sc rfl (dk_sn))))) (ih_20 (k + 1) _ _ _ (mStepsL_I _ _ _ (mI_row (mThen_st M1) hI1)) (by omega) (by omega) hT3)) | (rw [if_neg c_2, if_neg c_3] at hT3; exact V.sub (dk_sc rfl (dk_sc rfl (dk_sc rfl (dk_sc rfl (dk_sn))))) (ih_20 (k + 1) _ _ _ (mStepsL_I _ _ _ (mI_row (mThen_st M1) hI1)) (by omega) (by omega) hT3))
  refine V.aload_n hC dX5_worstTime_0 rfl ?_
  refine gfX5_7 hG hC dX5_worstTime_1 ?_
  refine V.iconst hC 0 dX5_worstTime_4 (by decide) ?_
  refine V.aload_n hC dX5_worstTime_5 rfl ?_
  refine gfX5_13 hG hC dX5_worstTime_6 ?_
  refine V.iconst hC 0 dX5_worstTime_9 (by decide) ?_
  refine V.callS4v hC (c_X5_copies (hG.at 112 rfl) rfl al112 (hG.at 113 rfl) rfl al113 (by decide) (0) (0) (by omega) (by omega)) mwX5_copies mlX5_36 ⟨rfl, rfl⟩ dX5_worstTime_10 rfl ?_
  refine V.iconst hC 0 dX5_worstTime_13 (by decide) ?_
  refine V.istore_n hC dX5_worstTime_14 rfl rfl ?_
  refine V.bipush hC (-6) dX5_worstTime_15 (by decide) ?_
  refine V.istore_n hC dX5_worstTime_17 rfl rfl ?_
  refine V.iconst hC 0 dX5_worstTime_18 (by decide) ?_
  refine V.istore_n hC dX5_worstTime_19 rfl rfl ?_
  exact V.sub (dk_sc rfl (dk_sc rfl (dk_sc rfl (dk_sc rfl (dk_sn))))) (loop_20 101 0 _ _ _ (mI_row (mKept_st M) hI) (Nat.zero_le _) (by omega) rfl)
set_option maxHeartbeats 2000000 in
set_option maxRecDepth 20000 in
theorem c_X5_ifFlushed {l : Launch} {G : dkG}  {M : dkM} (hG : dk_mdl G) {s : Int32} (hI : mI M) : dk_Con l yX5_ifFlushed cX5_ifFlushed 2 (some .int) 6 127 G [.ref (G.1 + 111), .int s] M (some (.int (mIfFl M s)), M) := by
  refine dk_Con.of mwX5_ifFlushed.1 (Nat.le_of_ble_eq_true rfl) (fun E hE hC => ?_)
  subst hE
  refine V.aload_n hC dX5_ifFlushed_0 rfl ?_
  refine V.iload_n hC dX5_ifFlushed_1 rfl ?_
  refine V.callV1i hC (c_X5_isSector hG) mwX5_isSector mlX5_124 (hG.at 111 rfl) rfl rfl ⟨rfl, rfl⟩ dX5_ifFlushed_2 rfl ?_
  refine V.if_eqB hC 16 dX5_ifFlushed_5 (by decide) (fun c_1 => ?_) (fun c_1 => ?_)
  · refine V.iconst hC (-1) dX5_ifFlushed_16 (by decide) ?_
    exact V.iret hC (by first | (simp [mIfFl, c_1]; done) | (simp_all [mIfFl]; done)) dX5_ifFlushed_17
  · refine V.aload_n hC dX5_ifFlushed_8 rfl ?_
    refine V.iload_n hC dX5_ifFlushed_9 rfl ?_
    refine V.top (congrArg Value.int (mSec_k hI c_1).1) ?_
    refine V.callV1i hC (c_X5_formThen hG hI (mSec_k hI c_1).2.1) mwX5_formThen mlX5_139 (hG.at 111 rfl) rfl rfl ⟨rfl, rfl⟩ dX5_ifFlushed_10 rfl ?_
    refine V.goto hC 17 dX5_ifFlushed_13 (by decide) ?_
    exact V.iret hC (by first | (simp [mIfFl, c_1]; done) | (simp_all [mIfFl]; done)) dX5_ifFlushed_17
set_option maxHeartbeats 2000000 in
set_option maxRecDepth 20000 in
theorem c_X5_type {l : Launch} {G : dkG}  {M : dkM} (hG : dk_mdl G) {c : Int32} (ht : tI M) : dk_Con l yX5_type cX5_type 2 (some .int) 1 22 G [.ref (G.1 + 111), .int c] M (some (.int (mType M c).1), (mType M c).2) := by
  refine dk_Con.of mwX5_type.1 (Nat.le_of_ble_eq_true rfl) (fun E hE hC => ?_)
  subst hE
  refine V.iload_n hC dX5_type_0 rfl ?_
  refine V.bipush hC 33 dX5_type_1 (by decide) ?_
  refine V.bipush hC 126 dX5_type_3 (by decide) ?_
  refine V.callS3i hC (c_X5_within) mwX5_within mlX5_52 ⟨rfl, rfl⟩ dX5_type_5 rfl ?_
  refine V.if_neB hC 14 dX5_type_8 (by decide) (fun c_1 => ?_) (fun c_1 => ?_)
  · refine V.aload_n hC dX5_type_14 rfl ?_
    refine gfX5_160 hG hC dX5_type_15 ?_
    refine V.bipush hC 80 dX5_type_18 (by decide) ?_
    refine V.icmp_ne hC 26 dX5_type_20 (by decide) (fun c_2 => ?_) (fun c_2 => ?_)
    · refine V.aload_n hC dX5_type_26 rfl ?_
      refine gfX5_22 hG hC dX5_type_27 ?_
      refine V.aload_n hC dX5_type_30 rfl ?_
      refine gfX5_160 hG hC dX5_type_31 ?_
      refine V.iload_n hC dX5_type_34 rfl ?_
      refine V.iastN hC (ix (M 111 6)) (hG.at 116 rfl) rfl al116 (ht.n) (by have := ht.l c_2; omega) dX5_type_35 ?_
      refine V.aload_n hC dX5_type_36 rfl ?_
      refine V.dup hC dX5_type_37 rfl ?_
      refine gfX5_160 hG hC dX5_type_38 ?_
      refine V.iconst hC 1 dX5_type_41 (by decide) ?_
      refine V.iadd hC dX5_type_42 ?_
      refine pfX5_160 hG hC dX5_type_43 ?_
      refine V.aload_n hC dX5_type_46 rfl ?_
      refine gfX5_160 hG hC dX5_type_47 ?_
      exact V.iret hC (by first | (simp [mType, c_1, c_2]; done) | (simp [mType, dk_put, c_1, c_2]; done)) dX5_type_50
    · refine V.bipush hC (-4) dX5_type_23 (by decide) ?_
      exact V.iret hC (by first | (simp [mType, c_1, c_2]; done) | (simp [mType, dk_put, c_1, c_2]; done)) dX5_type_25
  · refine V.bipush hC (-2) dX5_type_11 (by decide) ?_
    exact V.iret hC (by first | (simp [mType, c_1]; done) | (simp [mType, dk_put, c_1]; done)) dX5_type_13
set_option maxHeartbeats 2000000 in
set_option maxRecDepth 20000 in
theorem c_X5_clearText {l : Launch} {G : dkG}  {M : dkM} (hG : dk_mdl G)  : dk_Con l yX5_clearText cX5_clearText 2 (some .int) 0 0 G [.ref (G.1 + 111)] M (some (.int (M 111 6)), dk_put M 111 6 0) := by
  refine dk_Con.of mwX5_clearText.1 (Nat.le_of_ble_eq_true rfl) (fun E hE hC => ?_)
  subst hE
  refine V.aload_n hC dX5_clearText_0 rfl ?_
  refine gfX5_160 hG hC dX5_clearText_1 ?_
  refine V.istore_n hC dX5_clearText_4 rfl rfl ?_
  refine V.aload_n hC dX5_clearText_5 rfl ?_
  refine V.iconst hC 0 dX5_clearText_6 (by decide) ?_
  refine pfX5_160 hG hC dX5_clearText_7 ?_
  refine V.iload_n hC dX5_clearText_10 rfl ?_
  exact V.iret hC (rfl) dX5_clearText_11
set_option maxHeartbeats 2000000 in
set_option maxRecDepth 20000 in
theorem c_X5_character {l : Launch} {G : dkG}  {M : dkM} (hG : dk_mdl G) {p : Int32} (ht : tI M) (hp : 0 ≤ p.toInt) : dk_Con l yX5_character cX5_character 2 (some .int) 0 0 G [.ref (G.1 + 111), .int p] M (some (.int (mChar M p)), M) := by
  refine dk_Con.of mwX5_character.1 (Nat.le_of_ble_eq_true rfl) (fun E hE hC => ?_)
  subst hE
  refine V.iload_n hC dX5_character_0 rfl ?_
  refine V.aload_n hC dX5_character_1 rfl ?_
  refine gfX5_160 hG hC dX5_character_2 ?_
  refine V.icmp_ge hC 17 dX5_character_5 (by decide) (fun c_1 => ?_) (fun c_1 => ?_)
  · refine V.iconst hC (-1) dX5_character_17 (by decide) ?_
    exact V.iret hC (by first | (simp [mChar, c_1, dk_le1 c_1]; done) | (simp_all [mChar]; done)) dX5_character_18
  · refine V.aload_n hC dX5_character_8 rfl ?_
    refine gfX5_22 hG hC dX5_character_9 ?_
    refine V.iload_n hC dX5_character_12 rfl ?_
    refine V.ialdN hC (ix p) (hG.at 116 rfl) rfl al116 ((mChar_k ht hp c_1).1) (by have := (mChar_k ht hp c_1).2; omega) dX5_character_13 ?_
    refine V.goto hC 18 dX5_character_14 (by decide) ?_
    exact V.iret hC (by first | (simp [mChar, c_1, dk_nle c_1]; done) | (simp_all [mChar]; done)) dX5_character_18
set_option maxHeartbeats 2000000 in
set_option maxRecDepth 20000 in
theorem c_X5_undo {l : Launch} {G : dkG}  {M : dkM} (hG : dk_mdl G) (hR : rI M) : dk_Con l yX5_undo cX5_undo 1 (some .int) 1 24 G [.ref (G.1 + 111)] M (some (.int (mUndo M).1), (mUndo M).2) := by
  refine dk_Con.of mwX5_undo.1 (Nat.le_of_ble_eq_true rfl) (fun E hE hC => ?_)
  subst hE
  refine V.aload_n hC dX5_undo_0 rfl ?_
  refine gfX5_32 hG hC dX5_undo_1 ?_
  refine V.if_ne hC 10 dX5_undo_4 (by decide) (fun c_1 => ?_) (fun c_1 => ?_)
  · have hq := mUn_b hR c_1
    refine V.aload_n hC dX5_undo_10 rfl ?_
    refine V.dup hC dX5_undo_11 rfl ?_
    refine gfX5_32 hG hC dX5_undo_12 ?_
    refine V.iconst hC 1 dX5_undo_15 (by decide) ?_
    refine V.isub hC dX5_undo_16 ?_
    refine pfX5_32 hG hC dX5_undo_17 ?_
    refine V.aload_n hC dX5_undo_20 rfl ?_
    refine gfX5_19 hG hC dX5_undo_21 ?_
    refine V.aload_n hC dX5_undo_24 rfl ?_
    refine gfX5_32 hG hC dX5_undo_25 ?_
    refine V.sipush hC 367 dX5_undo_28 (by decide) ?_
    refine V.imul hC dX5_undo_31 ?_
    refine V.top (congrArg Value.int (dk_mulN hq.1 rfl)) ?_
    refine V.aload_n hC dX5_undo_32 rfl ?_
    refine gfX5_7 hG hC dX5_undo_33 ?_
    refine V.iconst hC 0 dX5_undo_36 (by decide) ?_
    refine V.callS4v hC (c_X5_copies (hG.at 115 rfl) rfl al115 (hG.at 112 rfl) rfl al112 (by decide) (ix (M 111 4 - 1) * 367) (0) (by omega) (by omega)) mwX5_copies mlX5_36 ⟨rfl, rfl⟩ dX5_undo_37 rfl ?_
    refine V.aload_n hC dX5_undo_40 rfl ?_
    refine gfX5_32 hG hC dX5_undo_41 ?_
    exact V.iret hC (by first | (simp [mUndo, c_1]; done) | (simp only [mUndo, c_1, if_false]; rfl)) dX5_undo_44
  · refine V.bipush hC (-3) dX5_undo_7 (by decide) ?_
    exact V.iret hC (by first | (simp [mUndo, c_1]; done) | (simp only [mUndo, c_1, if_false]; rfl)) dX5_undo_9
set_option maxHeartbeats 2000000 in
set_option maxRecDepth 20000 in
theorem c_X5_digest {l : Launch} {G : dkG}  {M : dkM} (hG : dk_mdl G) (hI : mI M) : dk_Con l yX5_digest cX5_digest 4 (some .long) 8 170 G [.ref (G.1 + 111)] M (some (.long (mDigest M)), M) := by
  refine dk_Con.of mwX5_digest.1 (Nat.le_of_ble_eq_true rfl) (fun E hE hC => ?_)
  subst hE
  have hs6 := hI.sec
  obtain ⟨N, hN⟩ : ∃ N, ix (M 112 0) = N := ⟨_, rfl⟩
  rw [hN] at hs6
  have loop_87 : ∀ (n : Nat) (k : Nat), (k ≤ N) → (N < k + n) →  V E G 4 (some (.long (mDigest M)), M) (M) 87 [(0, some (.ref (G.1 + 111))), (1, some (.long (mgS M (mgK M (mgC M 13) 99) k))), (3, some (.int (nI k)))] [] := by
    intro n
    induction n with
    | zero => intro k hk hn; exact absurd hn (by omega)
    | succ n ih_87 =>
      intro k hk hn
      refine V.iload_n hC dX5_digest_87 rfl ?_
      refine V.aload_n hC dX5_digest_88 rfl ?_
      refine gfX5_7 hG hC dX5_digest_89 ?_
      refine V.iconst hC 0 dX5_digest_92 (by decide) ?_
      refine V.ialdN hC (0) (hG.at 112 rfl) rfl al112 (rfl) (by omega) dX5_digest_93 ?_
      refine V.icmp_ge hC 182 dX5_digest_94 (by decide) (fun c_1 => ?_) (fun c_1 => ?_)
      · have hke : k = N := by have hc := c_1; have := (dk_gek (k := k) (by omega)).mp hc; omega
        refine V.ldc2 hC klX5_201 dX5_digest_182 ?_
        refine V.lload_n hC dX5_digest_185 rfl ?_
        refine V.lmul hC dX5_digest_186 ?_
        refine V.aload_n hC dX5_digest_187 rfl ?_
        refine V.callV0i hC (c_X5_damagedMany hG hI) mwX5_damagedMany mlX5_151 (hG.at 111 rfl) rfl rfl ⟨rfl, rfl⟩ dX5_digest_188 rfl ?_
        refine V.i2l hC dX5_digest_191 ?_
        refine V.ladd hC dX5_digest_192 ?_
        refine V.lstore_n hC dX5_digest_193 rfl rfl ?_
        refine V.ldc2 hC klX5_201 dX5_digest_194 ?_
        refine V.lload_n hC dX5_digest_197 rfl ?_
        refine V.lmul hC dX5_digest_198 ?_
        refine V.aload_n hC dX5_digest_199 rfl ?_
        refine V.callV0i hC (c_X5_firstOne hG hI) mwX5_firstOne mlX5_154 (hG.at 111 rfl) rfl rfl ⟨rfl, rfl⟩ dX5_digest_200 rfl ?_
        refine V.i2l hC dX5_digest_203 ?_
        refine V.ladd hC dX5_digest_204 ?_
        refine V.lstore_n hC dX5_digest_205 rfl rfl ?_
        refine V.aload_n hC dX5_digest_206 rfl ?_
        refine V.callV0i hC (c_X5_isRekeying hG) mwX5_isRekeying mlX5_56 (hG.at 111 rfl) rfl rfl ⟨rfl, rfl⟩ dX5_digest_207 rfl ?_
        refine V.if_eqB hC 237 dX5_digest_210 (by decide) (fun c_2 => ?_) (fun c_2 => ?_)
        · refine V.lload_n hC dX5_digest_237 rfl ?_
          exact V.lret hC (by first | (unfold mDigest mDg1; rw [if_pos (by assumption), hN, ← hke]; rfl) | (unfold mDigest mDg1; rw [if_neg (by simp [*]), hN, ← hke]; rfl)) dX5_digest_238
        · refine V.ldc2 hC klX5_201 dX5_digest_213 ?_
          refine V.lload_n hC dX5_digest_216 rfl ?_
          refine V.lmul hC dX5_digest_217 ?_
          refine V.aload_n hC dX5_digest_218 rfl ?_
          refine V.callV0i hC (c_X5_zoneFrom hG) mwX5_zoneFrom mlX5_60 (hG.at 111 rfl) rfl rfl ⟨rfl, rfl⟩ dX5_digest_219 rfl ?_
          refine V.i2l hC dX5_digest_222 ?_
          refine V.ladd hC dX5_digest_223 ?_
          refine V.lstore_n hC dX5_digest_224 rfl rfl ?_
          refine V.ldc2 hC klX5_201 dX5_digest_225 ?_
          refine V.lload_n hC dX5_digest_228 rfl ?_
          refine V.lmul hC dX5_digest_229 ?_
          refine V.aload_n hC dX5_digest_230 rfl ?_
          refine V.callV0i hC (c_X5_left hG hI.zone) mwX5_left mlX5_109 (hG.at 111 rfl) rfl rfl ⟨rfl, rfl⟩ dX5_digest_231 rfl ?_
          refine V.i2l hC dX5_digest_234 ?_
          refine V.ladd hC dX5_digest_235 ?_
          refine V.lstore_n hC dX5_digest_236 rfl rfl ?_
          refine V.lload_n hC dX5_digest_237 rfl ?_
          exact V.lret hC (by first | (unfold mDigest mDg1; rw [if_pos (by assumption), hN, ← hke]; rfl) | (unfold mDigest mDg1; rw [if_neg (by simp [*]), hN, ← hke]; rfl)) dX5_digest_238
      · have hkl : k < N := by have hc := c_1; have := mt (dk_gek (k := k) (by omega)).mpr hc; omega
        refine V.ldc2 hC klX5_201 dX5_digest_97 ?_
        refine V.lload_n hC dX5_digest_100 rfl ?_
        refine V.lmul hC dX5_digest_101 ?_
        refine V.aload_n hC dX5_digest_102 rfl ?_
        refine V.iload_n hC dX5_digest_103 rfl ?_
        refine V.callV1i hC (c_X5_valueOf hG hI (by omega)) mwX5_valueOf mlX5_90 (hG.at 111 rfl) rfl rfl ⟨rfl, rfl⟩ dX5_digest_104 rfl ?_
        refine V.i2l hC dX5_digest_107 ?_
        refine V.ladd hC dX5_digest_108 ?_
        refine V.lstore_n hC dX5_digest_109 rfl rfl ?_
        refine V.ldc2 hC klX5_201 dX5_digest_110 ?_
        refine V.lload_n hC dX5_digest_113 rfl ?_
        refine V.lmul hC dX5_digest_114 ?_
        refine V.aload_n hC dX5_digest_115 rfl ?_
        refine gfX5_7 hG hC dX5_digest_116 ?_
        refine V.bipush hC 111 dX5_digest_119 (by decide) ?_
        refine V.iload_n hC dX5_digest_121 rfl ?_
        refine V.iadd hC dX5_digest_122 ?_
        refine V.ialdN hC (111 + k) (hG.at 112 rfl) rfl al112 (dk_addN (rfl) (rfl)) (by omega) dX5_digest_123 ?_
        refine V.i2l hC dX5_digest_124 ?_
        refine V.ladd hC dX5_digest_125 ?_
        refine V.lstore_n hC dX5_digest_126 rfl rfl ?_
        refine V.ldc2 hC klX5_201 dX5_digest_127 ?_
        refine V.lload_n hC dX5_digest_130 rfl ?_
        refine V.lmul hC dX5_digest_131 ?_
        refine V.aload_n hC dX5_digest_132 rfl ?_
        refine V.iload_n hC dX5_digest_133 rfl ?_
        refine V.callV1i hC (c_X5_keyAt hG) mwX5_keyAt mlX5_74 (hG.at 111 rfl) rfl rfl ⟨rfl, rfl⟩ dX5_digest_134 rfl ?_
        refine V.i2l hC dX5_digest_137 ?_
        refine V.ladd hC dX5_digest_138 ?_
        refine V.lstore_n hC dX5_digest_139 rfl rfl ?_
        refine V.ldc2 hC klX5_201 dX5_digest_140 ?_
        refine V.lload_n hC dX5_digest_143 rfl ?_
        refine V.lmul hC dX5_digest_144 ?_
        refine V.aload_n hC dX5_digest_145 rfl ?_
        refine gfX5_7 hG hC dX5_digest_146 ?_
        refine V.sipush hC 175 dX5_digest_149 (by decide) ?_
        refine V.iload_n hC dX5_digest_152 rfl ?_
        refine V.iadd hC dX5_digest_153 ?_
        refine V.ialdN hC (175 + k) (hG.at 112 rfl) rfl al112 (dk_addN (rfl) (rfl)) (by omega) dX5_digest_154 ?_
        refine V.i2l hC dX5_digest_155 ?_
        refine V.ladd hC dX5_digest_156 ?_
        refine V.lstore_n hC dX5_digest_157 rfl rfl ?_
        refine V.ldc2 hC klX5_201 dX5_digest_158 ?_
        refine V.lload_n hC dX5_digest_161 rfl ?_
        refine V.lmul hC dX5_digest_162 ?_
        refine V.aload_n hC dX5_digest_163 rfl ?_
        refine gfX5_7 hG hC dX5_digest_164 ?_
        refine V.sipush hC 239 dX5_digest_167 (by decide) ?_
        refine V.iload_n hC dX5_digest_170 rfl ?_
        refine V.iadd hC dX5_digest_171 ?_
        refine V.ialdN hC (239 + k) (hG.at 112 rfl) rfl al112 (dk_addN (rfl) (rfl)) (by omega) dX5_digest_172 ?_
        refine V.i2l hC dX5_digest_173 ?_
        refine V.ladd hC dX5_digest_174 ?_
        refine V.lstore_n hC dX5_digest_175 rfl rfl ?_
        refine V.iinc hC dX5_digest_176 rfl (dk_incN _) rfl ?_
        refine V.goto hC 87 dX5_digest_179 (by decide) ?_
        exact V.sub (dk_sc rfl (dk_sc rfl (dk_sc rfl (dk_sn)))) (ih_87 (k + 1) (by omega) (by omega))
  have loop_33 : ∀ (n : Nat) (k : Nat), (k ≤ 99) → (99 < k + n) →  V E G 4 (some (.long (mDigest M)), M) (M) 33 [(0, some (.ref (G.1 + 111))), (1, some (.long (mgK M (mgC M 13) k))), (3, some (.int (nI (k + 1))))] [] := by
    intro n
    induction n with
    | zero => intro k hk hn; exact absurd hn (by omega)
    | succ n ih_33 =>
      intro k hk hn
      refine V.iload_n hC dX5_digest_33 rfl ?_
      refine V.bipush hC 100 dX5_digest_34 (by decide) ?_
      refine V.icmp_ge hC 85 dX5_digest_36 (by decide) (fun c_1 => ?_) (fun c_1 => ?_)
      · have hke : k = 99 := by have := (dk_gek (k := k + 1) (x := nI 100) (by omega)).mp c_1; rw [ix_nI (by omega)] at this; omega
        rw [hke]
        refine V.iconst hC 0 dX5_digest_85 (by decide) ?_
        refine V.istore_n hC dX5_digest_86 rfl rfl ?_
        exact V.sub (dk_sc rfl (dk_sc rfl (dk_sc rfl (dk_sn)))) (loop_87 (N + 1) 0 (Nat.zero_le _) (by omega))
      · have hkl : k < 99 := by have := mt (dk_gek (k := k + 1) (x := nI 100) (by omega)).mpr c_1; rw [ix_nI (by omega)] at this; omega
        refine V.aload_n hC dX5_digest_39 rfl ?_
        refine gfX5_7 hG hC dX5_digest_40 ?_
        refine V.bipush hC 11 dX5_digest_43 (by decide) ?_
        refine V.iload_n hC dX5_digest_45 rfl ?_
        refine V.iadd hC dX5_digest_46 ?_
        refine V.ialdN hC ((11) + (k + 1)) (hG.at 112 rfl) rfl al112 (dk_addN (rfl) (rfl)) (by omega) dX5_digest_47 ?_
        refine V.bipush hC (-6) dX5_digest_48 (by decide) ?_
        refine V.icmp_eq hC 79 dX5_digest_50 (by decide) (fun c_2 => ?_) (fun c_2 => ?_)
        · refine V.iinc hC dX5_digest_79 rfl (dk_incN _) rfl ?_
          refine V.goto hC 33 dX5_digest_82 (by decide) ?_
          have ih2 := ih_33 (k + 1) (by omega) (by omega)
          first | rw [show mgK M (mgC M 13) (k + 1) = mgK M (mgC M 13) k from by rw [mgK, if_pos c_2]] at ih2 | rw [show mgK M (mgC M 13) (k + 1) = dg (dg (mgK M (mgC M 13) k) (nI (k + 1))) (M 112 (11 + (k + 1))) from by rw [mgK, if_neg c_2]] at ih2
          exact V.sub (dk_sc rfl (dk_sc rfl (dk_sc rfl (dk_sn)))) ih2
        · refine V.ldc2 hC klX5_201 dX5_digest_53 ?_
          refine V.lload_n hC dX5_digest_56 rfl ?_
          refine V.lmul hC dX5_digest_57 ?_
          refine V.iload_n hC dX5_digest_58 rfl ?_
          refine V.i2l hC dX5_digest_59 ?_
          refine V.ladd hC dX5_digest_60 ?_
          refine V.lstore_n hC dX5_digest_61 rfl rfl ?_
          refine V.ldc2 hC klX5_201 dX5_digest_62 ?_
          refine V.lload_n hC dX5_digest_65 rfl ?_
          refine V.lmul hC dX5_digest_66 ?_
          refine V.aload_n hC dX5_digest_67 rfl ?_
          refine gfX5_7 hG hC dX5_digest_68 ?_
          refine V.bipush hC 11 dX5_digest_71 (by decide) ?_
          refine V.iload_n hC dX5_digest_73 rfl ?_
          refine V.iadd hC dX5_digest_74 ?_
          refine V.ialdN hC ((11) + (k + 1)) (hG.at 112 rfl) rfl al112 (dk_addN (rfl) (rfl)) (by omega) dX5_digest_75 ?_
          refine V.i2l hC dX5_digest_76 ?_
          refine V.ladd hC dX5_digest_77 ?_
          refine V.lstore_n hC dX5_digest_78 rfl rfl ?_
          refine V.iinc hC dX5_digest_79 rfl (dk_incN _) rfl ?_
          refine V.goto hC 33 dX5_digest_82 (by decide) ?_
          have ih2 := ih_33 (k + 1) (by omega) (by omega)
          first | rw [show mgK M (mgC M 13) (k + 1) = mgK M (mgC M 13) k from by rw [mgK, if_pos c_2]] at ih2 | rw [show mgK M (mgC M 13) (k + 1) = dg (dg (mgK M (mgC M 13) k) (nI (k + 1))) (M 112 (11 + (k + 1))) from by rw [mgK, if_neg c_2]] at ih2
          exact V.sub (dk_sc rfl (dk_sc rfl (dk_sc rfl (dk_sn)))) ih2
  have loop_6 : ∀ (n : Nat) (k : Nat), (k ≤ 13) → (13 < k + n) →  V E G 4 (some (.long (mDigest M)), M) (M) 6 [(0, some (.ref (G.1 + 111))), (1, some (.long (mgC M k))), (3, some (.int (nI k)))] [] := by
    intro n
    induction n with
    | zero => intro k hk hn; exact absurd hn (by omega)
    | succ n ih_6 =>
      intro k hk hn
      refine V.iload_n hC dX5_digest_6 rfl ?_
      refine V.bipush hC 12 dX5_digest_7 (by decide) ?_
      refine V.icmp_gt hC 31 dX5_digest_9 (by decide) (fun c_1 => ?_) (fun c_1 => ?_)
      · have hke : k = 13 := by have := (dk_ltk (k := 12) (x := nI k) (by omega)).mp c_1; rw [ix_nI (by omega)] at this; omega
        rw [hke]
        refine V.iconst hC 1 dX5_digest_31 (by decide) ?_
        refine V.istore_n hC dX5_digest_32 rfl rfl ?_
        exact V.sub (dk_sc rfl (dk_sc rfl (dk_sc rfl (dk_sn)))) (loop_33 100 0 (Nat.zero_le _) (by omega))
      · have hkl : k < 13 := by have := mt (dk_ltk (k := 12) (x := nI k) (by omega)).mpr c_1; rw [ix_nI (by omega)] at this; omega
        refine V.ldc2 hC klX5_201 dX5_digest_12 ?_
        refine V.lload_n hC dX5_digest_15 rfl ?_
        refine V.lmul hC dX5_digest_16 ?_
        refine V.aload_n hC dX5_digest_17 rfl ?_
        refine V.iload_n hC dX5_digest_18 rfl ?_
        refine V.callV1i hC (c_X5_countOf hG hI (mW_nI (by omega))) mwX5_countOf mlX5_148 (hG.at 111 rfl) rfl rfl ⟨rfl, rfl⟩ dX5_digest_19 rfl ?_
        refine V.i2l hC dX5_digest_22 ?_
        refine V.ladd hC dX5_digest_23 ?_
        refine V.lstore_n hC dX5_digest_24 rfl rfl ?_
        refine V.iinc hC dX5_digest_25 rfl (dk_incN _) rfl ?_
        refine V.goto hC 6 dX5_digest_28 (by decide) ?_
        exact V.sub (dk_sc rfl (dk_sc rfl (dk_sc rfl (dk_sn)))) (ih_6 (k + 1) (by omega) (by omega))
  refine V.ldc2 hC klX5_199 dX5_digest_0 ?_
  refine V.lstore_n hC dX5_digest_3 rfl rfl ?_
  refine V.iconst hC 0 dX5_digest_4 (by decide) ?_
  refine V.istore_n hC dX5_digest_5 rfl rfl ?_
  exact V.sub (dk_sc rfl (dk_sc rfl (dk_sc rfl (dk_sn)))) (loop_6 14 0 (Nat.zero_le _) (by omega))
