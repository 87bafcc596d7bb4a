set_option maxHeartbeats 2000000 in
set_option maxRecDepth 20000 in
theorem c_X1_slot {l : Launch} {G : dkG}  {M : dkM} (hG : dk_cls G) {j : Nat} (hj : j < 7) : dk_Con l yX1_slot cX1_slot 2 (some (.object "DiskRekeying$Disk")) 0 0 G [.ref (G.1 + 23), .int (nI j)] M (some (.ref (G.1 + (24 + 1 + 11 * j))), M) := by
  refine dk_Con.of mwX1_slot.1 (Nat.le_of_ble_eq_true rfl) (fun E hE hC => ?_)
  subst hE
  refine V.iload_n hC dX1_slot_0 rfl ?_
  refine V.if_lt hC 22 dX1_slot_1 (by decide) (fun c_1 => ?_) (fun c_1 => ?_)
  · exact absurd c_1 (nI_pos (by omega)) --done
  · refine V.iload_n hC dX1_slot_4 rfl ?_
    refine V.aload_n hC dX1_slot_5 rfl ?_
    refine gfX1_13 hG hC dX1_slot_6 ?_
    refine V.alen7 hC (hG.at 24 rfl) rfl dX1_slot_9 ?_
    refine V.icmp_ge hC 22 dX1_slot_10 (by decide) (fun c_2 => ?_) (fun c_2 => ?_)
    · exact absurd c_2 (nI_ge hj (by decide)) --done
    · refine V.aload_n hC dX1_slot_13 rfl ?_
      refine gfX1_13 hG hC dX1_slot_14 ?_
      refine V.iload_n hC dX1_slot_17 rfl ?_
      refine V.aald hC (hG.at 24 rfl) rfl (hj) dX1_slot_18 ?_
      refine V.goto hC 23 dX1_slot_19 (by decide) ?_
      exact V.aret hC (rfl) dX1_slot_23
set_option maxHeartbeats 2000000 in
set_option maxRecDepth 20000 in
theorem c_X1_draft {l : Launch} {G : dkG}  {M : dkM} (hG : dk_cls G) (hh : hI M) (hz : dZ M 1) : dk_Con l yX1_draft cX1_draft 3 none 3 64 G [.ref (G.1 + 23), .ref (G.1 + 1)] M (none, hDraft M) := by
  refine dk_Con.of mwX1_draft.1 (Nat.le_of_ble_eq_true rfl) (fun E hE hC => ?_)
  subst hE
  refine V.aload_n hC dX1_draft_0 rfl ?_
  refine V.aload_n hC dX1_draft_1 rfl ?_
  refine gfX1_17 hG hC dX1_draft_2 ?_
  refine V.top (congrArg Value.int hh.n) ?_
  refine V.callV1a hC (c_X1_slot hG hh.j) mwX1_slot mlX1_25 (hG.at 23 rfl) rfl rfl ⟨rfl, rfl⟩ dX1_draft_5 rfl ?_
  refine V.astore_n hC dX1_draft_8 rfl rfl ?_
  refine V.aload_n hC dX1_draft_9 rfl ?_
  refine V.ifnull hC dX1_draft_10 ?_
  refine V.aload_n hC dX1_draft_13 rfl ?_
  refine V.aload_n hC dX1_draft_14 rfl ?_
  refine V.callV1v hC (c_X0_takeOver (dk_diskS hG hh.j) (dk_disk1 hG) (by unfold apart; omega) hz) mwX0_takeOver mlX1_29 (dk_diskS hG hh.j).s (dk_diskS hG hh.j).k rfl ⟨rfl, rfl⟩ dX1_draft_15 rfl ?_
  exact V.vret hC (rfl) dX1_draft_18
set_option maxHeartbeats 2000000 in
set_option maxRecDepth 20000 in
theorem c_X1_keep {l : Launch} {G : dkG}  {M : dkM} (hG : dk_cls G) {a : Int32}  : dk_Con l yX1_keep cX1_keep 2 (some .int) 1 21 G [.ref (G.1 + 23), .int a] M (some (.int a), hKeep M a) := by
  refine dk_Con.of mwX1_keep.1 (Nat.le_of_ble_eq_true rfl) (fun E hE hC => ?_)
  subst hE
  refine V.iload_n hC dX1_keep_0 rfl ?_
  refine V.if_lt hC 32 dX1_keep_1 (by decide) (fun c_1 => ?_) (fun c_1 => ?_)
  · refine V.iload_n hC dX1_keep_32 rfl ?_
    exact V.iret hC (by first | (simp [hKeep, iRem, c_1, dk_lt1 c_1]; done) | (simp [hKeep, iRem, dk_put, c_1, dk_lt1 c_1]; done)) dX1_keep_33
  · refine V.aload_n hC dX1_keep_4 rfl ?_
    refine V.aload_n hC dX1_keep_5 rfl ?_
    refine gfX1_17 hG hC dX1_keep_6 ?_
    refine V.iconst hC 1 dX1_keep_9 (by decide) ?_
    refine V.iadd hC dX1_keep_10 ?_
    refine V.bipush hC 7 dX1_keep_11 (by decide) ?_
    refine V.irem hC dX1_keep_13 (by decide) ?_
    refine pfX1_17 hG hC dX1_keep_14 ?_
    refine V.aload_n hC dX1_keep_17 rfl ?_
    refine V.aload_n hC dX1_keep_18 rfl ?_
    refine gfX1_21 hG hC dX1_keep_19 ?_
    refine V.iconst hC 1 dX1_keep_22 (by decide) ?_
    refine V.iadd hC dX1_keep_23 ?_
    refine V.bipush hC 6 dX1_keep_24 (by decide) ?_
    refine V.mmin hC mlX1_33 ⟨rfl, rfl⟩ dX1_keep_26 rfl ?_
    refine pfX1_21 hG hC dX1_keep_29 ?_
    refine V.iload_n hC dX1_keep_32 rfl ?_
    exact V.iret hC (by first | (simp [hKeep, iRem, c_1, dk_nlt c_1]; done) | (simp [hKeep, iRem, dk_put, c_1, dk_nlt c_1]; done)) dX1_keep_33
