set_option maxHeartbeats 2000000 in
set_option maxRecDepth 20000 in
theorem c_X0_isRekeying {l : Launch} {G : dkG} {d : Nat} {M : dkM} (hd : dk_disk G d)  : dk_Con l yX0_isRekeying cX0_isRekeying 1 (some .boolean) 0 0 G [.ref (G.1 + d)] M (some (.int (bI (isRek M d))), M) := by
  refine dk_Con.of mwX0_isRekeying.1 (Nat.le_of_ble_eq_true rfl) (fun E hE hC => ?_)
  subst hE
  refine V.aload_n hC dX0_isRekeying_0 rfl ?_
  refine gfX0_39 hd hC dX0_isRekeying_1 ?_
  refine V.if_eq hC 11 dX0_isRekeying_4 (by decide) (fun c_1 => ?_) (fun c_1 => ?_)
  · refine V.iconst hC 0 dX0_isRekeying_11 (by decide) ?_
    exact V.zret hC (by first | (simp [isRek, bI, c_1]; done) | (simp_all [isRek, bI]; done)) (by decide) dX0_isRekeying_12
  · refine V.iconst hC 1 dX0_isRekeying_7 (by decide) ?_
    refine V.goto hC 12 dX0_isRekeying_8 (by decide) ?_
    exact V.zret hC (by first | (simp [isRek, bI, c_1]; done) | (simp_all [isRek, bI]; done)) (by decide) dX0_isRekeying_12
set_option maxHeartbeats 2000000 in
set_option maxRecDepth 20000 in
theorem c_X0_zoneFirst {l : Launch} {G : dkG} {d : Nat} {M : dkM} (hd : dk_disk G d)  : dk_Con l yX0_zoneFirst cX0_zoneFirst 1 (some .int) 1 21 G [.ref (G.1 + d)] M (some (.int (zFirst M d)), M) := by
  refine dk_Con.of mwX0_zoneFirst.1 (Nat.le_of_ble_eq_true rfl) (fun E hE hC => ?_)
  subst hE
  refine V.aload_n hC dX0_zoneFirst_0 rfl ?_
  refine gfX0_42 hd hC dX0_zoneFirst_1 ?_
  refine V.if_eq hC 14 dX0_zoneFirst_4 (by decide) (fun c_1 => ?_) (fun c_1 => ?_)
  · refine V.iconst hC 0 dX0_zoneFirst_14 (by decide) ?_
    refine V.aload_n hC dX0_zoneFirst_15 rfl ?_
    refine gfX0_46 hd hC dX0_zoneFirst_16 ?_
    refine V.aload_n hC dX0_zoneFirst_19 rfl ?_
    refine gfX0_52 hd hC dX0_zoneFirst_20 ?_
    refine V.isub hC dX0_zoneFirst_23 ?_
    refine V.mmax hC mlX0_161 ⟨rfl, rfl⟩ dX0_zoneFirst_24 rfl ?_
    exact V.iret hC (by first | (simp [zFirst, c_1]; done) | (simp_all [zFirst]; done)) dX0_zoneFirst_27
  · refine V.aload_n hC dX0_zoneFirst_7 rfl ?_
    refine gfX0_46 hd hC dX0_zoneFirst_8 ?_
    refine V.goto hC 27 dX0_zoneFirst_11 (by decide) ?_
    exact V.iret hC (by first | (simp [zFirst, c_1]; done) | (simp_all [zFirst]; done)) dX0_zoneFirst_27
set_option maxHeartbeats 2000000 in
set_option maxRecDepth 20000 in
theorem c_X0_zoneEnd {l : Launch} {G : dkG} {d : Nat} {M : dkM} (hd : dk_disk G d)  : dk_Con l yX0_zoneEnd cX0_zoneEnd 1 (some .int) 1 21 G [.ref (G.1 + d)] M (some (.int (zEnd M d)), M) := by
  refine dk_Con.of mwX0_zoneEnd.1 (Nat.le_of_ble_eq_true rfl) (fun E hE hC => ?_)
  subst hE
  refine V.aload_n hC dX0_zoneEnd_0 rfl ?_
  refine gfX0_42 hd hC dX0_zoneEnd_1 ?_
  refine V.if_eq hC 26 dX0_zoneEnd_4 (by decide) (fun c_1 => ?_) (fun c_1 => ?_)
  · refine V.aload_n hC dX0_zoneEnd_26 rfl ?_
    refine gfX0_46 hd hC dX0_zoneEnd_27 ?_
    exact V.iret hC (by first | (simp [zEnd, c_1]; done) | (simp_all [zEnd]; done)) dX0_zoneEnd_30
  · refine V.aload_n hC dX0_zoneEnd_7 rfl ?_
    refine gfX0_32 hd hC dX0_zoneEnd_8 ?_
    refine V.aload_n hC dX0_zoneEnd_11 rfl ?_
    refine gfX0_46 hd hC dX0_zoneEnd_12 ?_
    refine V.aload_n hC dX0_zoneEnd_15 rfl ?_
    refine gfX0_52 hd hC dX0_zoneEnd_16 ?_
    refine V.iadd hC dX0_zoneEnd_19 ?_
    refine V.mmin hC mlX0_166 ⟨rfl, rfl⟩ dX0_zoneEnd_20 rfl ?_
    refine V.goto hC 30 dX0_zoneEnd_23 (by decide) ?_
    exact V.iret hC (by first | (simp [zEnd, c_1]; done) | (simp_all [zEnd]; done)) dX0_zoneEnd_30
set_option maxHeartbeats 2000000 in
set_option maxRecDepth 20000 in
theorem c_X0_isZoneOpen {l : Launch} {G : dkG} {d : Nat} {M : dkM} (hd : dk_disk G d)  : dk_Con l yX0_isZoneOpen cX0_isZoneOpen 1 (some .boolean) 1 22 G [.ref (G.1 + d)] M (some (.int (bI (zOpen M d))), M) := by
  refine dk_Con.of mwX0_isZoneOpen.1 (Nat.le_of_ble_eq_true rfl) (fun E hE hC => ?_)
  subst hE
  refine V.aload_n hC dX0_isZoneOpen_0 rfl ?_
  refine gfX0_49 hd hC dX0_isZoneOpen_1 ?_
  refine V.if_gt hC 17 dX0_isZoneOpen_4 (by decide) (fun c_1 => ?_) (fun c_1 => ?_)
  · refine V.iconst hC 1 dX0_isZoneOpen_17 (by decide) ?_
    refine V.goto hC 22 dX0_isZoneOpen_18 (by decide) ?_
    exact V.zret hC (by first | (simp [zOpen, bI, c_1, dk_lt1 c_1]; done) | (simp_all [zOpen, bI]; done)) (by decide) dX0_isZoneOpen_22
  · refine V.aload_n hC dX0_isZoneOpen_7 rfl ?_
    refine gfX0_26 hd hC dX0_isZoneOpen_8 ?_
    refine V.callV0i hC (c_X2_filled hd.r7) mwX2_filled mlX0_83 hd.r7.s hd.r7.k rfl ⟨rfl, rfl⟩ dX0_isZoneOpen_11 rfl ?_
    refine V.if_le hC 21 dX0_isZoneOpen_14 (by decide) (fun c_2 => ?_) (fun c_2 => ?_)
    · refine V.iconst hC 0 dX0_isZoneOpen_21 (by decide) ?_
      exact V.zret hC (by first | (simp [zOpen, bI, c_1, dk_nlt c_1, c_2, dk_le1 c_2]; done) | (simp_all [zOpen, bI]; done)) (by decide) dX0_isZoneOpen_22
    · refine V.iconst hC 1 dX0_isZoneOpen_17 (by decide) ?_
      refine V.goto hC 22 dX0_isZoneOpen_18 (by decide) ?_
      exact V.zret hC (by first | (simp [zOpen, bI, c_1, dk_nlt c_1, c_2, dk_nle c_2]; done) | (simp_all [zOpen, bI]; done)) (by decide) dX0_isZoneOpen_22
set_option maxHeartbeats 2000000 in
set_option maxRecDepth 20000 in
theorem c_X0_needsJournal {l : Launch} {G : dkG} {d : Nat} {M : dkM} (hd : dk_disk G d)  : dk_Con l yX0_needsJournal cX0_needsJournal 1 (some .boolean) 2 42 G [.ref (G.1 + d)] M (some (.int (bI (needsJ M d))), M) := by
  refine dk_Con.of mwX0_needsJournal.1 (Nat.le_of_ble_eq_true rfl) (fun E hE hC => ?_)
  subst hE
  refine V.aload_n hC dX0_needsJournal_0 rfl ?_
  refine gfX0_55 hd hC dX0_needsJournal_1 ?_
  refine V.if_eq hC 18 dX0_needsJournal_4 (by decide) (fun c_1 => ?_) (fun c_1 => ?_)
  · refine V.iconst hC 0 dX0_needsJournal_18 (by decide) ?_
    exact V.zret hC (by first | (simp [needsJ, bI, c_1]; done) | (simp_all [needsJ, bI]; done)) (by decide) dX0_needsJournal_19
  · refine V.aload_n hC dX0_needsJournal_7 rfl ?_
    refine V.callV0i hC (c_X0_isZoneOpen hd) mwX0_isZoneOpen mlX0_87 hd.s hd.k rfl ⟨rfl, rfl⟩ dX0_needsJournal_8 rfl ?_
    refine V.if_neB hC 18 dX0_needsJournal_11 (by decide) (fun c_2 => ?_) (fun c_2 => ?_)
    · refine V.iconst hC 0 dX0_needsJournal_18 (by decide) ?_
      exact V.zret hC (by first | (simp [needsJ, bI, c_1, c_2]; done) | (simp_all [needsJ, bI]; done)) (by decide) dX0_needsJournal_19
    · refine V.iconst hC 1 dX0_needsJournal_14 (by decide) ?_
      refine V.goto hC 19 dX0_needsJournal_15 (by decide) ?_
      exact V.zret hC (by first | (simp [needsJ, bI, c_1, c_2]; done) | (simp_all [needsJ, bI]; done)) (by decide) dX0_needsJournal_19
set_option maxHeartbeats 2000000 in
set_option maxRecDepth 20000 in
theorem c_X0_hasSector {l : Launch} {G : dkG} {d : Nat} {M : dkM} (hd : dk_disk G d) {s : Int32}  : dk_Con l yX0_hasSector cX0_hasSector 2 (some .boolean) 0 0 G [.ref (G.1 + d), .int s] M (some (.int (bI (hasSec M d s))), M) := by
  refine dk_Con.of mwX0_hasSector.1 (Nat.le_of_ble_eq_true rfl) (fun E hE hC => ?_)
  subst hE
  refine V.iload_n hC dX0_hasSector_0 rfl ?_
  refine V.if_lt hC 16 dX0_hasSector_1 (by decide) (fun c_1 => ?_) (fun c_1 => ?_)
  · refine V.iconst hC 0 dX0_hasSector_16 (by decide) ?_
    exact V.zret hC (by first | (simp [hasSec, bI, c_1, dk_lt1 c_1]; done) | (simp_all [hasSec, bI]; done)) (by decide) dX0_hasSector_17
  · refine V.iload_n hC dX0_hasSector_4 rfl ?_
    refine V.aload_n hC dX0_hasSector_5 rfl ?_
    refine gfX0_32 hd hC dX0_hasSector_6 ?_
    refine V.icmp_ge hC 16 dX0_hasSector_9 (by decide) (fun c_2 => ?_) (fun c_2 => ?_)
    · refine V.iconst hC 0 dX0_hasSector_16 (by decide) ?_
      exact V.zret hC (by first | (simp [hasSec, bI, c_1, dk_nlt c_1, c_2, dk_le1 c_2]; done) | (simp_all [hasSec, bI]; done)) (by decide) dX0_hasSector_17
    · refine V.iconst hC 1 dX0_hasSector_12 (by decide) ?_
      refine V.goto hC 17 dX0_hasSector_13 (by decide) ?_
      exact V.zret hC (by first | (simp [hasSec, bI, c_1, dk_nlt c_1, c_2, dk_nle c_2]; done) | (simp_all [hasSec, bI]; done)) (by decide) dX0_hasSector_17
set_option maxHeartbeats 2000000 in
set_option maxRecDepth 20000 in
theorem c_X0_hasKey {l : Launch} {G : dkG} {d : Nat} {M : dkM} (hd : dk_disk G d) {k : Int32}  : dk_Con l yX0_hasKey cX0_hasKey 2 (some .boolean) 1 21 G [.ref (G.1 + d), .int k] M (some (.int (bI (hasKey M d k))), M) := by
  refine dk_Con.of mwX0_hasKey.1 (Nat.le_of_ble_eq_true rfl) (fun E hE hC => ?_)
  subst hE
  refine V.aload_n hC dX0_hasKey_0 rfl ?_
  refine gfX0_29 hd hC dX0_hasKey_1 ?_
  refine V.iload_n hC dX0_hasKey_4 rfl ?_
  refine V.callV1i hC (c_X2_get hd.r9) mwX2_get mlX0_106 hd.r9.s hd.r9.k rfl ⟨rfl, rfl⟩ dX0_hasKey_5 rfl ?_
  refine V.iconst hC (-1) dX0_hasKey_8 (by decide) ?_
  refine V.icmp_eq hC 16 dX0_hasKey_9 (by decide) (fun c_1 => ?_) (fun c_1 => ?_)
  · refine V.iconst hC 0 dX0_hasKey_16 (by decide) ?_
    exact V.zret hC (by first | (simp [hasKey, bI, c_1]; done) | (simp_all [hasKey, bI]; done)) (by decide) dX0_hasKey_17
  · refine V.iconst hC 1 dX0_hasKey_12 (by decide) ?_
    refine V.goto hC 17 dX0_hasKey_13 (by decide) ?_
    exact V.zret hC (by first | (simp [hasKey, bI, c_1]; done) | (simp_all [hasKey, bI]; done)) (by decide) dX0_hasKey_17
set_option maxHeartbeats 2000000 in
set_option maxRecDepth 20000 in
theorem c_X0_secretBehind {l : Launch} {G : dkG} {d : Nat} {M : dkM} (hd : dk_disk G d) {s : Int32}  : dk_Con l yX0_secretBehind cX0_secretBehind 2 (some .int) 1 21 G [.ref (G.1 + d), .int s] M (some (.int (rget M (d + 9) 100 s)), M) := by
  refine dk_Con.of mwX0_secretBehind.1 (Nat.le_of_ble_eq_true rfl) (fun E hE hC => ?_)
  subst hE
  refine V.aload_n hC dX0_secretBehind_0 rfl ?_
  refine gfX0_29 hd hC dX0_secretBehind_1 ?_
  refine V.iload_n hC dX0_secretBehind_4 rfl ?_
  refine V.callV1i hC (c_X2_get hd.r9) mwX2_get mlX0_106 hd.r9.s hd.r9.k rfl ⟨rfl, rfl⟩ dX0_secretBehind_5 rfl ?_
  exact V.iret hC (rfl) dX0_secretBehind_8
set_option maxHeartbeats 2000000 in
set_option maxRecDepth 20000 in
theorem c_X0_scrambledIn {l : Launch} {G : dkG} {d : Nat} {M : dkM} (hd : dk_disk G d) {s : Int32}  : dk_Con l yX0_scrambledIn cX0_scrambledIn 2 (some .int) 1 21 G [.ref (G.1 + d), .int s] M (some (.int (rget M (d + 1) 64 s)), M) := by
  refine dk_Con.of mwX0_scrambledIn.1 (Nat.le_of_ble_eq_true rfl) (fun E hE hC => ?_)
  subst hE
  refine V.aload_n hC dX0_scrambledIn_0 rfl ?_
  refine gfX0_14 hd hC dX0_scrambledIn_1 ?_
  refine V.iload_n hC dX0_scrambledIn_4 rfl ?_
  refine V.callV1i hC (c_X2_get hd.r1) mwX2_get mlX0_106 hd.r1.s hd.r1.k rfl ⟨rfl, rfl⟩ dX0_scrambledIn_5 rfl ?_
  exact V.iret hC (rfl) dX0_scrambledIn_8
set_option maxHeartbeats 2000000 in
set_option maxRecDepth 20000 in
theorem c_X0_inJournal {l : Launch} {G : dkG} {d : Nat} {M : dkM} (hd : dk_disk G d) {s : Int32}  : dk_Con l yX0_inJournal cX0_inJournal 2 (some .int) 1 21 G [.ref (G.1 + d), .int s] M (some (.int (rget M (d + 7) 64 s)), M) := by
  refine dk_Con.of mwX0_inJournal.1 (Nat.le_of_ble_eq_true rfl) (fun E hE hC => ?_)
  subst hE
  refine V.aload_n hC dX0_inJournal_0 rfl ?_
  refine gfX0_26 hd hC dX0_inJournal_1 ?_
  refine V.iload_n hC dX0_inJournal_4 rfl ?_
  refine V.callV1i hC (c_X2_get hd.r7) mwX2_get mlX0_106 hd.r7.s hd.r7.k rfl ⟨rfl, rfl⟩ dX0_inJournal_5 rfl ?_
  exact V.iret hC (rfl) dX0_inJournal_8
set_option maxHeartbeats 2000000 in
set_option maxRecDepth 20000 in
theorem c_X0_inCache {l : Launch} {G : dkG} {d : Nat} {M : dkM} (hd : dk_disk G d) {s : Int32}  : dk_Con l yX0_inCache cX0_inCache 2 (some .int) 1 21 G [.ref (G.1 + d), .int s] M (some (.int (rget M (d + 5) 64 s)), M) := by
  refine dk_Con.of mwX0_inCache.1 (Nat.le_of_ble_eq_true rfl) (fun E hE hC => ?_)
  subst hE
  refine V.aload_n hC dX0_inCache_0 rfl ?_
  refine gfX0_23 hd hC dX0_inCache_1 ?_
  refine V.iload_n hC dX0_inCache_4 rfl ?_
  refine V.callV1i hC (c_X2_get hd.r5) mwX2_get mlX0_106 hd.r5.s hd.r5.k rfl ⟨rfl, rfl⟩ dX0_inCache_5 rfl ?_
  exact V.iret hC (rfl) dX0_inCache_8
set_option maxHeartbeats 2000000 in
set_option maxRecDepth 20000 in
theorem c_X0_keyByPosition {l : Launch} {G : dkG} {d : Nat} {M : dkM} (hd : dk_disk G d) {s : Int32}  : dk_Con l yX0_keyByPosition cX0_keyByPosition 2 (some .int) 1 20 G [.ref (G.1 + d), .int s] M (some (.int (kbp M d s)), M) := by
  refine dk_Con.of mwX0_keyByPosition.1 (Nat.le_of_ble_eq_true rfl) (fun E hE hC => ?_)
  subst hE
  refine V.aload_n hC dX0_keyByPosition_0 rfl ?_
  refine V.callV0i hC (c_X0_isRekeying hd) mwX0_isRekeying mlX0_91 hd.s hd.k rfl ⟨rfl, rfl⟩ dX0_keyByPosition_1 rfl ?_
  refine V.if_eqB hC 22 dX0_keyByPosition_4 (by decide) (fun c_1 => ?_) (fun c_1 => ?_)
  · refine V.aload_n hC dX0_keyByPosition_22 rfl ?_
    refine gfX0_36 hd hC dX0_keyByPosition_23 ?_
    exact V.iret hC (by first | (simp [kbp, c_1]; done) | (simp_all [kbp]; done)) dX0_keyByPosition_26
  · refine V.iload_n hC dX0_keyByPosition_7 rfl ?_
    refine V.aload_n hC dX0_keyByPosition_8 rfl ?_
    refine gfX0_46 hd hC dX0_keyByPosition_9 ?_
    refine V.icmp_ge hC 22 dX0_keyByPosition_12 (by decide) (fun c_2 => ?_) (fun c_2 => ?_)
    · refine V.aload_n hC dX0_keyByPosition_22 rfl ?_
      refine gfX0_36 hd hC dX0_keyByPosition_23 ?_
      exact V.iret hC (by first | (simp [kbp, c_1, c_2, dk_le1 c_2]; done) | (simp_all [kbp]; done)) dX0_keyByPosition_26
    · refine V.aload_n hC dX0_keyByPosition_15 rfl ?_
      refine gfX0_39 hd hC dX0_keyByPosition_16 ?_
      refine V.goto hC 26 dX0_keyByPosition_19 (by decide) ?_
      exact V.iret hC (by first | (simp [kbp, c_1, c_2, dk_nle c_2]; done) | (simp_all [kbp]; done)) dX0_keyByPosition_26
set_option maxHeartbeats 2000000 in
set_option maxRecDepth 20000 in
theorem c_X0_otherKey {l : Launch} {G : dkG} {d : Nat} {M : dkM} (hd : dk_disk G d) {s : Int32}  : dk_Con l yX0_otherKey cX0_otherKey 2 (some .int) 0 0 G [.ref (G.1 + d), .int s] M (some (.int (othK M d s)), M) := by
  refine dk_Con.of mwX0_otherKey.1 (Nat.le_of_ble_eq_true rfl) (fun E hE hC => ?_)
  subst hE
  refine V.iload_n hC dX0_otherKey_0 rfl ?_
  refine V.aload_n hC dX0_otherKey_1 rfl ?_
  refine gfX0_36 hd hC dX0_otherKey_2 ?_
  refine V.icmp_ne hC 15 dX0_otherKey_5 (by decide) (fun c_1 => ?_) (fun c_1 => ?_)
  · refine V.aload_n hC dX0_otherKey_15 rfl ?_
    refine gfX0_36 hd hC dX0_otherKey_16 ?_
    exact V.iret hC (by first | (simp [othK, c_1]; done) | (simp_all [othK]; done)) dX0_otherKey_19
  · refine V.aload_n hC dX0_otherKey_8 rfl ?_
    refine gfX0_39 hd hC dX0_otherKey_9 ?_
    refine V.goto hC 19 dX0_otherKey_12 (by decide) ?_
    exact V.iret hC (by first | (simp [othK, c_1]; done) | (simp_all [othK]; done)) dX0_otherKey_19
set_option maxHeartbeats 2000000 in
set_option maxRecDepth 20000 in
theorem c_X0_exchange {l : Launch} {G : dkG} {d : Nat} {M : dkM} (hd : dk_disk G d) {x : Int32} {s : Int32} {k : Int32}  : dk_Con l yX0_exchange cX0_exchange 5 (some .int) 1 21 G [.ref (G.1 + d), .int x, .int s, .int k] M (some (.int (exch M d x s k)), M) := by
  refine dk_Con.of mwX0_exchange.1 (Nat.le_of_ble_eq_true rfl) (fun E hE hC => ?_)
  subst hE
  refine V.ldc hC klX0_160 dX0_exchange_0 ?_
  refine V.aload_n hC dX0_exchange_2 rfl ?_
  refine gfX0_29 hd hC dX0_exchange_3 ?_
  refine V.iload_n hC dX0_exchange_6 rfl ?_
  refine V.callV1i hC (c_X2_get hd.r9) mwX2_get mlX0_106 hd.r9.s hd.r9.k rfl ⟨rfl, rfl⟩ dX0_exchange_7 rfl ?_
  refine V.imul hC dX0_exchange_10 ?_
  refine V.sipush hC 30011 dX0_exchange_11 (by decide) ?_
  refine V.iload_n hC dX0_exchange_14 rfl ?_
  refine V.imul hC dX0_exchange_15 ?_
  refine V.iadd hC dX0_exchange_16 ?_
  refine V.sipush hC 12345 dX0_exchange_17 (by decide) ?_
  refine V.iadd hC dX0_exchange_20 ?_
  refine V.istore hC dX0_exchange_21 rfl rfl ?_
  refine V.iload_n hC dX0_exchange_23 rfl ?_
  refine V.iload hC dX0_exchange_24 rfl ?_
  refine V.ldc hC klX0_78 dX0_exchange_26 ?_
  refine V.iand hC dX0_exchange_28 ?_
  refine V.ixor hC dX0_exchange_29 ?_
  exact V.iret hC (rfl) dX0_exchange_30
set_option maxHeartbeats 2000000 in
set_option maxRecDepth 20000 in
theorem c_X0_keyAt {l : Launch} {G : dkG} {d : Nat} {M : dkM} (hd : dk_disk G d) {s : Int32}  : dk_Con l yX0_keyAt cX0_keyAt 4 (some .int) 2 41 G [.ref (G.1 + d), .int s] M (some (.int (keyAt M d s)), M) := by
  refine dk_Con.of mwX0_keyAt.1 (Nat.le_of_ble_eq_true rfl) (fun E hE hC => ?_)
  subst hE
  refine V.aload_n hC dX0_keyAt_0 rfl ?_
  refine V.callV0i hC (c_X0_zoneFirst hd) mwX0_zoneFirst mlX0_151 hd.s hd.k rfl ⟨rfl, rfl⟩ dX0_keyAt_1 rfl ?_
  refine V.istore_n hC dX0_keyAt_4 rfl rfl ?_
  refine V.iload_n hC dX0_keyAt_5 rfl ?_
  refine V.iload_n hC dX0_keyAt_6 rfl ?_
  refine V.icmp_lt hC 24 dX0_keyAt_7 (by decide) (fun c_1 => ?_) (fun c_1 => ?_)
  · refine V.iconst hC 0 dX0_keyAt_24 (by decide) ?_
    refine V.istore_n hC dX0_keyAt_25 rfl rfl ?_
    refine V.iload_n hC dX0_keyAt_26 rfl ?_
    refine V.if_eq_t hC 42 dX0_keyAt_27 (by decide) (by decide) ?_
    refine V.aload_n hC dX0_keyAt_42 rfl ?_
    refine V.iload_n hC dX0_keyAt_43 rfl ?_
    refine V.callV1i hC (c_X0_keyByPosition hd) mwX0_keyByPosition mlX0_154 hd.s hd.k rfl ⟨rfl, rfl⟩ dX0_keyAt_44 rfl ?_
    exact V.iret hC (by first | (simp [keyAt, c_1, dk_lt1 c_1]; done) | (simp_all [keyAt]; done)) dX0_keyAt_47
  · refine V.iload_n hC dX0_keyAt_10 rfl ?_
    refine V.iload_n hC dX0_keyAt_11 rfl ?_
    refine V.aload_n hC dX0_keyAt_12 rfl ?_
    refine gfX0_49 hd hC dX0_keyAt_13 ?_
    refine V.iadd hC dX0_keyAt_16 ?_
    refine V.icmp_ge hC 24 dX0_keyAt_17 (by decide) (fun c_2 => ?_) (fun c_2 => ?_)
    · refine V.iconst hC 0 dX0_keyAt_24 (by decide) ?_
      refine V.istore_n hC dX0_keyAt_25 rfl rfl ?_
      refine V.iload_n hC dX0_keyAt_26 rfl ?_
      refine V.if_eq_t hC 42 dX0_keyAt_27 (by decide) (by decide) ?_
      refine V.aload_n hC dX0_keyAt_42 rfl ?_
      refine V.iload_n hC dX0_keyAt_43 rfl ?_
      refine V.callV1i hC (c_X0_keyByPosition hd) mwX0_keyByPosition mlX0_154 hd.s hd.k rfl ⟨rfl, rfl⟩ dX0_keyAt_44 rfl ?_
      exact V.iret hC (by first | (simp [keyAt, c_1, dk_nlt c_1, c_2, dk_le1 c_2]; done) | (simp_all [keyAt]; done)) dX0_keyAt_47
    · refine V.iconst hC 1 dX0_keyAt_20 (by decide) ?_
      refine V.goto hC 25 dX0_keyAt_21 (by decide) ?_
      refine V.istore_n hC dX0_keyAt_25 rfl rfl ?_
      refine V.iload_n hC dX0_keyAt_26 rfl ?_
      refine V.if_eq_f hC 42 dX0_keyAt_27 (by decide) (by decide) ?_
      refine V.aload_n hC dX0_keyAt_30 rfl ?_
      refine V.aload_n hC dX0_keyAt_31 rfl ?_
      refine V.iload_n hC dX0_keyAt_32 rfl ?_
      refine V.callV1i hC (c_X0_keyByPosition hd) mwX0_keyByPosition mlX0_154 hd.s hd.k rfl ⟨rfl, rfl⟩ dX0_keyAt_33 rfl ?_
      refine V.callV1i hC (c_X0_otherKey hd) mwX0_otherKey mlX0_157 hd.s hd.k rfl ⟨rfl, rfl⟩ dX0_keyAt_36 rfl ?_
      refine V.goto hC 47 dX0_keyAt_39 (by decide) ?_
      exact V.iret hC (by first | (simp [keyAt, c_1, dk_nlt c_1, c_2, dk_nle c_2]; done) | (simp_all [keyAt]; done)) dX0_keyAt_47
set_option maxHeartbeats 2000000 in
set_option maxRecDepth 20000 in
theorem c_X0_valueIn {l : Launch} {G : dkG} {d : Nat} {M : dkM} (hd : dk_disk G d) {s : Int32}  : dk_Con l yX0_valueIn cX0_valueIn 3 (some .int) 3 64 G [.ref (G.1 + d), .int s] M (some (.int (valIn M d s)), M) := by
  refine dk_Con.of mwX0_valueIn.1 (Nat.le_of_ble_eq_true rfl) (fun E hE hC => ?_)
  subst hE
  refine V.aload_n hC dX0_valueIn_0 rfl ?_
  refine gfX0_23 hd hC dX0_valueIn_1 ?_
  refine V.iload_n hC dX0_valueIn_4 rfl ?_
  refine V.callV1i hC (c_X2_get hd.r5) mwX2_get mlX0_106 hd.r5.s hd.r5.k rfl ⟨rfl, rfl⟩ dX0_valueIn_5 rfl ?_
  refine V.istore_n hC dX0_valueIn_8 rfl rfl ?_
  refine V.iload_n hC dX0_valueIn_9 rfl ?_
  refine V.iconst hC (-1) dX0_valueIn_10 (by decide) ?_
  refine V.icmp_eq hC 18 dX0_valueIn_11 (by decide) (fun c_1 => ?_) (fun c_1 => ?_)
  · refine V.aload_n hC dX0_valueIn_18 rfl ?_
    refine V.aload_n hC dX0_valueIn_19 rfl ?_
    refine gfX0_14 hd hC dX0_valueIn_20 ?_
    refine V.iload_n hC dX0_valueIn_23 rfl ?_
    refine V.callV1i hC (c_X2_get hd.r1) mwX2_get mlX0_106 hd.r1.s hd.r1.k rfl ⟨rfl, rfl⟩ dX0_valueIn_24 rfl ?_
    refine V.iload_n hC dX0_valueIn_27 rfl ?_
    refine V.aload_n hC dX0_valueIn_28 rfl ?_
    refine V.iload_n hC dX0_valueIn_29 rfl ?_
    refine V.callV1i hC (c_X0_keyAt hd) mwX0_keyAt mlX0_144 hd.s hd.k rfl ⟨rfl, rfl⟩ dX0_valueIn_30 rfl ?_
    refine V.callV3i hC (c_X0_exchange hd) mwX0_exchange mlX0_147 hd.s hd.k rfl ⟨rfl, rfl⟩ dX0_valueIn_33 rfl ?_
    exact V.iret hC (by first | (simp [valIn, c_1]; done) | (simp_all [valIn]; done)) dX0_valueIn_36
  · refine V.iload_n hC dX0_valueIn_14 rfl ?_
    refine V.goto hC 36 dX0_valueIn_15 (by decide) ?_
    exact V.iret hC (by first | (simp [valIn, c_1]; done) | (simp_all [valIn]; done)) dX0_valueIn_36
set_option maxHeartbeats 2000000 in
set_option maxRecDepth 20000 in
theorem c_X0_scrambledAfterFailure {l : Launch} {G : dkG} {d : Nat} {M : dkM} (hd : dk_disk G d) {s : Int32}  : dk_Con l yX0_scrambledAfterFailure cX0_scrambledAfterFailure 3 (some .int) 1 21 G [.ref (G.1 + d), .int s] M (some (.int (saF M d s)), M) := by
  refine dk_Con.of mwX0_scrambledAfterFailure.1 (Nat.le_of_ble_eq_true rfl) (fun E hE hC => ?_)
  subst hE
  refine V.aload_n hC dX0_scrambledAfterFailure_0 rfl ?_
  refine gfX0_26 hd hC dX0_scrambledAfterFailure_1 ?_
  refine V.iload_n hC dX0_scrambledAfterFailure_4 rfl ?_
  refine V.callV1i hC (c_X2_get hd.r7) mwX2_get mlX0_106 hd.r7.s hd.r7.k rfl ⟨rfl, rfl⟩ dX0_scrambledAfterFailure_5 rfl ?_
  refine V.istore_n hC dX0_scrambledAfterFailure_8 rfl rfl ?_
  refine V.iload_n hC dX0_scrambledAfterFailure_9 rfl ?_
  refine V.iconst hC (-1) dX0_scrambledAfterFailure_10 (by decide) ?_
  refine V.icmp_eq hC 18 dX0_scrambledAfterFailure_11 (by decide) (fun c_1 => ?_) (fun c_1 => ?_)
  · refine V.aload_n hC dX0_scrambledAfterFailure_18 rfl ?_
    refine gfX0_14 hd hC dX0_scrambledAfterFailure_19 ?_
    refine V.iload_n hC dX0_scrambledAfterFailure_22 rfl ?_
    refine V.callV1i hC (c_X2_get hd.r1) mwX2_get mlX0_106 hd.r1.s hd.r1.k rfl ⟨rfl, rfl⟩ dX0_scrambledAfterFailure_23 rfl ?_
    exact V.iret hC (by first | (simp [saF, c_1]; done) | (simp_all [saF]; done)) dX0_scrambledAfterFailure_26
  · refine V.iload_n hC dX0_scrambledAfterFailure_14 rfl ?_
    refine V.goto hC 26 dX0_scrambledAfterFailure_15 (by decide) ?_
    exact V.iret hC (by first | (simp [saF, c_1]; done) | (simp_all [saF]; done)) dX0_scrambledAfterFailure_26
set_option maxHeartbeats 2000000 in
set_option maxRecDepth 20000 in
theorem c_X0_valueAfterFailure {l : Launch} {G : dkG} {d : Nat} {M : dkM} (hd : dk_disk G d) {s : Int32}  : dk_Con l yX0_valueAfterFailure cX0_valueAfterFailure 2 (some .int) 2 45 G [.ref (G.1 + d), .int s] M (some (.int (vaF M d s)), M) := by
  refine dk_Con.of mwX0_valueAfterFailure.1 (Nat.le_of_ble_eq_true rfl) (fun E hE hC => ?_)
  subst hE
  refine V.aload_n hC dX0_valueAfterFailure_0 rfl ?_
  refine V.aload_n hC dX0_valueAfterFailure_1 rfl ?_
  refine V.iload_n hC dX0_valueAfterFailure_2 rfl ?_
  refine V.callV1i hC (c_X0_scrambledAfterFailure hd) mwX0_scrambledAfterFailure mlX0_122 hd.s hd.k rfl ⟨rfl, rfl⟩ dX0_valueAfterFailure_3 rfl ?_
  refine V.iload_n hC dX0_valueAfterFailure_6 rfl ?_
  refine V.aload_n hC dX0_valueAfterFailure_7 rfl ?_
  refine V.iload_n hC dX0_valueAfterFailure_8 rfl ?_
  refine V.callV1i hC (c_X0_keyByPosition hd) mwX0_keyByPosition mlX0_154 hd.s hd.k rfl ⟨rfl, rfl⟩ dX0_valueAfterFailure_9 rfl ?_
  refine V.callV3i hC (c_X0_exchange hd) mwX0_exchange mlX0_147 hd.s hd.k rfl ⟨rfl, rfl⟩ dX0_valueAfterFailure_12 rfl ?_
  exact V.iret hC (rfl) dX0_valueAfterFailure_15
set_option maxHeartbeats 2000000 in
set_option maxRecDepth 20000 in
theorem c_X0_isFlushable {l : Launch} {G : dkG} {d : Nat} {M : dkM} (hd : dk_disk G d) {s : Int32}  : dk_Con l yX0_isFlushable cX0_isFlushable 3 (some .boolean) 2 42 G [.ref (G.1 + d), .int s] M (some (.int (bI (isFl M d s))), M) := by
  refine dk_Con.of mwX0_isFlushable.1 (Nat.le_of_ble_eq_true rfl) (fun E hE hC => ?_)
  subst hE
  refine V.aload_n hC dX0_isFlushable_0 rfl ?_
  refine V.callV0i hC (c_X0_isZoneOpen hd) mwX0_isZoneOpen mlX0_87 hd.s hd.k rfl ⟨rfl, rfl⟩ dX0_isFlushable_1 rfl ?_
  refine V.if_eqB hC 27 dX0_isFlushable_4 (by decide) (fun c_1 => ?_) (fun c_1 => ?_)
  · refine V.iconst hC 0 dX0_isFlushable_27 (by decide) ?_
    refine V.istore_n hC dX0_isFlushable_28 rfl rfl ?_
    refine V.aload_n hC dX0_isFlushable_29 rfl ?_
    refine gfX0_23 hd hC dX0_isFlushable_30 ?_
    refine V.iload_n hC dX0_isFlushable_33 rfl ?_
    refine V.callV1i hC (c_X2_get hd.r5) mwX2_get mlX0_106 hd.r5.s hd.r5.k rfl ⟨rfl, rfl⟩ dX0_isFlushable_34 rfl ?_
    refine V.iconst hC (-1) dX0_isFlushable_37 (by decide) ?_
    refine V.icmp_eq hC 49 dX0_isFlushable_38 (by decide) (fun c_2 => ?_) (fun c_2 => ?_)
    · refine V.iconst hC 0 dX0_isFlushable_49 (by decide) ?_
      exact V.zret hC (by first | (simp [isFl, bI, c_1, c_2]; done) | (simp_all [isFl, bI]; done)) (by decide) dX0_isFlushable_50
    · refine V.iload_n hC dX0_isFlushable_41 rfl ?_
      refine V.if_ne_f hC 49 dX0_isFlushable_42 (by decide) (by decide) ?_
      refine V.iconst hC 1 dX0_isFlushable_45 (by decide) ?_
      refine V.goto hC 50 dX0_isFlushable_46 (by decide) ?_
      exact V.zret hC (by first | (simp [isFl, bI, c_1, c_2]; done) | (simp_all [isFl, bI]; done)) (by decide) dX0_isFlushable_50
  · refine V.iload_n hC dX0_isFlushable_7 rfl ?_
    refine V.aload_n hC dX0_isFlushable_8 rfl ?_
    refine V.callV0i hC (c_X0_zoneFirst hd) mwX0_zoneFirst mlX0_151 hd.s hd.k rfl ⟨rfl, rfl⟩ dX0_isFlushable_9 rfl ?_
    refine V.icmp_lt hC 27 dX0_isFlushable_12 (by decide) (fun c_2 => ?_) (fun c_2 => ?_)
    · refine V.iconst hC 0 dX0_isFlushable_27 (by decide) ?_
      refine V.istore_n hC dX0_isFlushable_28 rfl rfl ?_
      refine V.aload_n hC dX0_isFlushable_29 rfl ?_
      refine gfX0_23 hd hC dX0_isFlushable_30 ?_
      refine V.iload_n hC dX0_isFlushable_33 rfl ?_
      refine V.callV1i hC (c_X2_get hd.r5) mwX2_get mlX0_106 hd.r5.s hd.r5.k rfl ⟨rfl, rfl⟩ dX0_isFlushable_34 rfl ?_
      refine V.iconst hC (-1) dX0_isFlushable_37 (by decide) ?_
      refine V.icmp_eq hC 49 dX0_isFlushable_38 (by decide) (fun c_3 => ?_) (fun c_3 => ?_)
      · refine V.iconst hC 0 dX0_isFlushable_49 (by decide) ?_
        exact V.zret hC (by first | (simp [isFl, bI, c_1, c_2, dk_lt1 c_2, c_3]; done) | (simp_all [isFl, bI]; done)) (by decide) dX0_isFlushable_50
      · refine V.iload_n hC dX0_isFlushable_41 rfl ?_
        refine V.if_ne_f hC 49 dX0_isFlushable_42 (by decide) (by decide) ?_
        refine V.iconst hC 1 dX0_isFlushable_45 (by decide) ?_
        refine V.goto hC 50 dX0_isFlushable_46 (by decide) ?_
        exact V.zret hC (by first | (simp [isFl, bI, c_1, c_2, dk_lt1 c_2, c_3]; done) | (simp_all [isFl, bI]; done)) (by decide) dX0_isFlushable_50
    · refine V.iload_n hC dX0_isFlushable_15 rfl ?_
      refine V.aload_n hC dX0_isFlushable_16 rfl ?_
      refine V.callV0i hC (c_X0_zoneEnd hd) mwX0_zoneEnd mlX0_172 hd.s hd.k rfl ⟨rfl, rfl⟩ dX0_isFlushable_17 rfl ?_
      refine V.icmp_ge hC 27 dX0_isFlushable_20 (by decide) (fun c_3 => ?_) (fun c_3 => ?_)
      · refine V.iconst hC 0 dX0_isFlushable_27 (by decide) ?_
        refine V.istore_n hC dX0_isFlushable_28 rfl rfl ?_
        refine V.aload_n hC dX0_isFlushable_29 rfl ?_
        refine gfX0_23 hd hC dX0_isFlushable_30 ?_
        refine V.iload_n hC dX0_isFlushable_33 rfl ?_
        refine V.callV1i hC (c_X2_get hd.r5) mwX2_get mlX0_106 hd.r5.s hd.r5.k rfl ⟨rfl, rfl⟩ dX0_isFlushable_34 rfl ?_
        refine V.iconst hC (-1) dX0_isFlushable_37 (by decide) ?_
        refine V.icmp_eq hC 49 dX0_isFlushable_38 (by decide) (fun c_4 => ?_) (fun c_4 => ?_)
        · refine V.iconst hC 0 dX0_isFlushable_49 (by decide) ?_
          exact V.zret hC (by first | (simp [isFl, bI, c_1, c_2, dk_nlt c_2, c_3, dk_le1 c_3, c_4]; done) | (simp_all [isFl, bI]; done)) (by decide) dX0_isFlushable_50
        · refine V.iload_n hC dX0_isFlushable_41 rfl ?_
          refine V.if_ne_f hC 49 dX0_isFlushable_42 (by decide) (by decide) ?_
          refine V.iconst hC 1 dX0_isFlushable_45 (by decide) ?_
          refine V.goto hC 50 dX0_isFlushable_46 (by decide) ?_
          exact V.zret hC (by first | (simp [isFl, bI, c_1, c_2, dk_nlt c_2, c_3, dk_le1 c_3, c_4]; done) | (simp_all [isFl, bI]; done)) (by decide) dX0_isFlushable_50
      · refine V.iconst hC 1 dX0_isFlushable_23 (by decide) ?_
        refine V.goto hC 28 dX0_isFlushable_24 (by decide) ?_
        refine V.istore_n hC dX0_isFlushable_28 rfl rfl ?_
        refine V.aload_n hC dX0_isFlushable_29 rfl ?_
        refine gfX0_23 hd hC dX0_isFlushable_30 ?_
        refine V.iload_n hC dX0_isFlushable_33 rfl ?_
        refine V.callV1i hC (c_X2_get hd.r5) mwX2_get mlX0_106 hd.r5.s hd.r5.k rfl ⟨rfl, rfl⟩ dX0_isFlushable_34 rfl ?_
        refine V.iconst hC (-1) dX0_isFlushable_37 (by decide) ?_
        refine V.icmp_eq hC 49 dX0_isFlushable_38 (by decide) (fun c_4 => ?_) (fun c_4 => ?_)
        · refine V.iconst hC 0 dX0_isFlushable_49 (by decide) ?_
          exact V.zret hC (by first | (simp [isFl, bI, c_1, c_2, dk_nlt c_2, c_3, dk_nle c_3, c_4]; done) | (simp_all [isFl, bI]; done)) (by decide) dX0_isFlushable_50
        · refine V.iload_n hC dX0_isFlushable_41 rfl ?_
          refine V.if_ne_t hC 49 dX0_isFlushable_42 (by decide) (by decide) ?_
          refine V.iconst hC 0 dX0_isFlushable_49 (by decide) ?_
          exact V.zret hC (by first | (simp [isFl, bI, c_1, c_2, dk_nlt c_2, c_3, dk_nle c_3, c_4]; done) | (simp_all [isFl, bI]; done)) (by decide) dX0_isFlushable_50
set_option maxHeartbeats 2000000 in
set_option maxRecDepth 20000 in
theorem c_X0_scrambledAfterFlush {l : Launch} {G : dkG} {d : Nat} {M : dkM} (hd : dk_disk G d) {s : Int32}  : dk_Con l yX0_scrambledAfterFlush cX0_scrambledAfterFlush 2 (some .int) 3 64 G [.ref (G.1 + d), .int s] M (some (.int (saFl M d s)), M) := by
  refine dk_Con.of mwX0_scrambledAfterFlush.1 (Nat.le_of_ble_eq_true rfl) (fun E hE hC => ?_)
  subst hE
  refine V.aload_n hC dX0_scrambledAfterFlush_0 rfl ?_
  refine V.iload_n hC dX0_scrambledAfterFlush_1 rfl ?_
  refine V.callV1i hC (c_X0_isFlushable hd) mwX0_isFlushable mlX0_110 hd.s hd.k rfl ⟨rfl, rfl⟩ dX0_scrambledAfterFlush_2 rfl ?_
  refine V.if_eqB hC 29 dX0_scrambledAfterFlush_5 (by decide) (fun c_1 => ?_) (fun c_1 => ?_)
  · refine V.aload_n hC dX0_scrambledAfterFlush_29 rfl ?_
    refine gfX0_14 hd hC dX0_scrambledAfterFlush_30 ?_
    refine V.iload_n hC dX0_scrambledAfterFlush_33 rfl ?_
    refine V.callV1i hC (c_X2_get hd.r1) mwX2_get mlX0_106 hd.r1.s hd.r1.k rfl ⟨rfl, rfl⟩ dX0_scrambledAfterFlush_34 rfl ?_
    exact V.iret hC (by first | (simp [saFl, c_1]; done) | (simp_all [saFl]; done)) dX0_scrambledAfterFlush_37
  · refine V.aload_n hC dX0_scrambledAfterFlush_8 rfl ?_
    refine V.aload_n hC dX0_scrambledAfterFlush_9 rfl ?_
    refine gfX0_23 hd hC dX0_scrambledAfterFlush_10 ?_
    refine V.iload_n hC dX0_scrambledAfterFlush_13 rfl ?_
    refine V.callV1i hC (c_X2_get hd.r5) mwX2_get mlX0_106 hd.r5.s hd.r5.k rfl ⟨rfl, rfl⟩ dX0_scrambledAfterFlush_14 rfl ?_
    refine V.iload_n hC dX0_scrambledAfterFlush_17 rfl ?_
    refine V.aload_n hC dX0_scrambledAfterFlush_18 rfl ?_
    refine V.iload_n hC dX0_scrambledAfterFlush_19 rfl ?_
    refine V.callV1i hC (c_X0_keyAt hd) mwX0_keyAt mlX0_144 hd.s hd.k rfl ⟨rfl, rfl⟩ dX0_scrambledAfterFlush_20 rfl ?_
    refine V.callV3i hC (c_X0_exchange hd) mwX0_exchange mlX0_147 hd.s hd.k rfl ⟨rfl, rfl⟩ dX0_scrambledAfterFlush_23 rfl ?_
    refine V.goto hC 37 dX0_scrambledAfterFlush_26 (by decide) ?_
    exact V.iret hC (by first | (simp [saFl, c_1]; done) | (simp_all [saFl]; done)) dX0_scrambledAfterFlush_37
