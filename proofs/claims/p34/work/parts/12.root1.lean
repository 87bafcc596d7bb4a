set_option maxHeartbeats 2000000 in
set_option maxRecDepth 20000 in
theorem c_X4_format {l : Launch} {G : dkG}  {M : dkM} (hG : dk_cls G) (hX : xI M) {n : Int32}  : dk_Con l yX4_format cX4_format 2 (some .int) 4 88 G [.ref (G.1 + 0), .int n] M (some (.int (xU (dFormat (hDraft M) 1 n)).1), (xU (dFormat (hDraft M) 1 n)).2) := by
  refine dk_Con.of mwX4_format.1 (Nat.le_of_ble_eq_true rfl) (fun E hE hC => ?_)
  subst hE
  refine V.aload_n hC dX4_format_0 rfl ?_
  refine gfX4_22 hG hC dX4_format_1 ?_
  refine V.aload_n hC dX4_format_4 rfl ?_
  refine gfX4_12 hG hC dX4_format_5 ?_
  refine V.callV1v hC (c_X1_draft hG hX.1 hX.2.2.1) mwX1_draft mlX4_33 (hG.at 23 rfl) rfl rfl ⟨rfl, rfl⟩ dX4_format_8 rfl ?_
  refine V.aload_n hC dX4_format_11 rfl ?_
  refine gfX4_22 hG hC dX4_format_12 ?_
  refine V.aload_n hC dX4_format_15 rfl ?_
  refine gfX4_12 hG hC dX4_format_16 ?_
  refine V.iload_n hC dX4_format_19 rfl ?_
  refine V.callV1i hC (c_X0_reformat (dk_disk1 hG)) mwX0_reformat mlX4_37 (dk_disk1 hG).s (dk_disk1 hG).k rfl ⟨rfl, rfl⟩ dX4_format_20 rfl ?_
  refine V.callV1i hC (c_X1_keep hG) mwX1_keep mlX4_41 (hG.at 23 rfl) rfl rfl ⟨rfl, rfl⟩ dX4_format_23 rfl ?_
  exact V.iret hC (rfl) dX4_format_26
set_option maxHeartbeats 2000000 in
set_option maxRecDepth 20000 in
theorem c_X4_addKey {l : Launch} {G : dkG}  {M : dkM} (hG : dk_cls G) (hX : xI M) {k : Int32} {c : Int32}  : dk_Con l yX4_addKey cX4_addKey 3 (some .int) 4 86 G [.ref (G.1 + 0), .int k, .int c] M (some (.int (xU (dAdd (hDraft M) 1 k c)).1), (xU (dAdd (hDraft M) 1 k c)).2) := by
  refine dk_Con.of mwX4_addKey.1 (Nat.le_of_ble_eq_true rfl) (fun E hE hC => ?_)
  subst hE
  refine V.aload_n hC dX4_addKey_0 rfl ?_
  refine gfX4_22 hG hC dX4_addKey_1 ?_
  refine V.aload_n hC dX4_addKey_4 rfl ?_
  refine gfX4_12 hG hC dX4_addKey_5 ?_
  refine V.callV1v hC (c_X1_draft hG hX.1 hX.2.2.1) mwX1_draft mlX4_33 (hG.at 23 rfl) rfl rfl ⟨rfl, rfl⟩ dX4_addKey_8 rfl ?_
  refine V.aload_n hC dX4_addKey_11 rfl ?_
  refine gfX4_22 hG hC dX4_addKey_12 ?_
  refine V.aload_n hC dX4_addKey_15 rfl ?_
  refine gfX4_12 hG hC dX4_addKey_16 ?_
  refine V.iload_n hC dX4_addKey_19 rfl ?_
  refine V.iload_n hC dX4_addKey_20 rfl ?_
  refine V.callV2i hC (c_X0_insertKey (dk_disk1 hG)) mwX0_insertKey mlX4_44 (dk_disk1 hG).s (dk_disk1 hG).k rfl ⟨rfl, rfl⟩ dX4_addKey_21 rfl ?_
  refine V.callV1i hC (c_X1_keep hG) mwX1_keep mlX4_41 (hG.at 23 rfl) rfl rfl ⟨rfl, rfl⟩ dX4_addKey_24 rfl ?_
  exact V.iret hC (rfl) dX4_addKey_27
set_option maxHeartbeats 2000000 in
set_option maxRecDepth 20000 in
theorem c_X4_removeKey {l : Launch} {G : dkG}  {M : dkM} (hG : dk_cls G) (hX : xI M) {k : Int32}  : dk_Con l yX4_removeKey cX4_removeKey 2 (some .int) 4 86 G [.ref (G.1 + 0), .int k] M (some (.int (xU (dDrop (hDraft M) 1 k)).1), (xU (dDrop (hDraft M) 1 k)).2) := by
  refine dk_Con.of mwX4_removeKey.1 (Nat.le_of_ble_eq_true rfl) (fun E hE hC => ?_)
  subst hE
  refine V.aload_n hC dX4_removeKey_0 rfl ?_
  refine gfX4_22 hG hC dX4_removeKey_1 ?_
  refine V.aload_n hC dX4_removeKey_4 rfl ?_
  refine gfX4_12 hG hC dX4_removeKey_5 ?_
  refine V.callV1v hC (c_X1_draft hG hX.1 hX.2.2.1) mwX1_draft mlX4_33 (hG.at 23 rfl) rfl rfl ⟨rfl, rfl⟩ dX4_removeKey_8 rfl ?_
  refine V.aload_n hC dX4_removeKey_11 rfl ?_
  refine gfX4_22 hG hC dX4_removeKey_12 ?_
  refine V.aload_n hC dX4_removeKey_15 rfl ?_
  refine gfX4_12 hG hC dX4_removeKey_16 ?_
  refine V.iload_n hC dX4_removeKey_19 rfl ?_
  refine V.callV1i hC (c_X0_dropKey (dk_disk1 hG)) mwX0_dropKey mlX4_48 (dk_disk1 hG).s (dk_disk1 hG).k rfl ⟨rfl, rfl⟩ dX4_removeKey_20 rfl ?_
  refine V.callV1i hC (c_X1_keep hG) mwX1_keep mlX4_41 (hG.at 23 rfl) rfl rfl ⟨rfl, rfl⟩ dX4_removeKey_23 rfl ?_
  exact V.iret hC (rfl) dX4_removeKey_26
set_option maxHeartbeats 2000000 in
set_option maxRecDepth 20000 in
theorem c_X4_setZone {l : Launch} {G : dkG}  {M : dkM} (hG : dk_cls G) (hX : xI M) {z : Int32}  : dk_Con l yX4_setZone cX4_setZone 2 (some .int) 4 86 G [.ref (G.1 + 0), .int z] M (some (.int (xU (dZone (hDraft M) 1 z)).1), (xU (dZone (hDraft M) 1 z)).2) := by
  refine dk_Con.of mwX4_setZone.1 (Nat.le_of_ble_eq_true rfl) (fun E hE hC => ?_)
  subst hE
  refine V.aload_n hC dX4_setZone_0 rfl ?_
  refine gfX4_22 hG hC dX4_setZone_1 ?_
  refine V.aload_n hC dX4_setZone_4 rfl ?_
  refine gfX4_12 hG hC dX4_setZone_5 ?_
  refine V.callV1v hC (c_X1_draft hG hX.1 hX.2.2.1) mwX1_draft mlX4_33 (hG.at 23 rfl) rfl rfl ⟨rfl, rfl⟩ dX4_setZone_8 rfl ?_
  refine V.aload_n hC dX4_setZone_11 rfl ?_
  refine gfX4_22 hG hC dX4_setZone_12 ?_
  refine V.aload_n hC dX4_setZone_15 rfl ?_
  refine gfX4_12 hG hC dX4_setZone_16 ?_
  refine V.iload_n hC dX4_setZone_19 rfl ?_
  refine V.callV1i hC (c_X0_resizeZone (dk_disk1 hG)) mwX0_resizeZone mlX4_58 (dk_disk1 hG).s (dk_disk1 hG).k rfl ⟨rfl, rfl⟩ dX4_setZone_20 rfl ?_
  refine V.callV1i hC (c_X1_keep hG) mwX1_keep mlX4_41 (hG.at 23 rfl) rfl rfl ⟨rfl, rfl⟩ dX4_setZone_23 rfl ?_
  exact V.iret hC (rfl) dX4_setZone_26
set_option maxHeartbeats 2000000 in
set_option maxRecDepth 20000 in
theorem c_X4_setJournal {l : Launch} {G : dkG}  {M : dkM} (hG : dk_cls G) (hX : xI M) {on : Int32}  : dk_Con l yX4_setJournal cX4_setJournal 2 (some .int) 4 86 G [.ref (G.1 + 0), .int on] M (some (.int (xU (dJour (hDraft M) 1 on)).1), (xU (dJour (hDraft M) 1 on)).2) := by
  refine dk_Con.of mwX4_setJournal.1 (Nat.le_of_ble_eq_true rfl) (fun E hE hC => ?_)
  subst hE
  refine V.aload_n hC dX4_setJournal_0 rfl ?_
  refine gfX4_22 hG hC dX4_setJournal_1 ?_
  refine V.aload_n hC dX4_setJournal_4 rfl ?_
  refine gfX4_12 hG hC dX4_setJournal_5 ?_
  refine V.callV1v hC (c_X1_draft hG hX.1 hX.2.2.1) mwX1_draft mlX4_33 (hG.at 23 rfl) rfl rfl ⟨rfl, rfl⟩ dX4_setJournal_8 rfl ?_
  refine V.aload_n hC dX4_setJournal_11 rfl ?_
  refine gfX4_22 hG hC dX4_setJournal_12 ?_
  refine V.aload_n hC dX4_setJournal_15 rfl ?_
  refine gfX4_12 hG hC dX4_setJournal_16 ?_
  refine V.iload_n hC dX4_setJournal_19 rfl ?_
  refine V.callV1i hC (c_X0_switchJournal (dk_disk1 hG)) mwX0_switchJournal mlX4_61 (dk_disk1 hG).s (dk_disk1 hG).k rfl ⟨rfl, rfl⟩ dX4_setJournal_20 rfl ?_
  refine V.callV1i hC (c_X1_keep hG) mwX1_keep mlX4_41 (hG.at 23 rfl) rfl rfl ⟨rfl, rfl⟩ dX4_setJournal_23 rfl ?_
  exact V.iret hC (rfl) dX4_setJournal_26
set_option maxHeartbeats 2000000 in
set_option maxRecDepth 20000 in
theorem c_X4_start {l : Launch} {G : dkG}  {M : dkM} (hG : dk_cls G) (hX : xI M) {k : Int32}  : dk_Con l yX4_start cX4_start 2 (some .int) 5 106 G [.ref (G.1 + 0), .int k] M (some (.int (xU (dBegin (hDraft M) 1 k)).1), (xU (dBegin (hDraft M) 1 k)).2) := by
  refine dk_Con.of mwX4_start.1 (Nat.le_of_ble_eq_true rfl) (fun E hE hC => ?_)
  subst hE
  refine V.aload_n hC dX4_start_0 rfl ?_
  refine gfX4_22 hG hC dX4_start_1 ?_
  refine V.aload_n hC dX4_start_4 rfl ?_
  refine gfX4_12 hG hC dX4_start_5 ?_
  refine V.callV1v hC (c_X1_draft hG hX.1 hX.2.2.1) mwX1_draft mlX4_33 (hG.at 23 rfl) rfl rfl ⟨rfl, rfl⟩ dX4_start_8 rfl ?_
  refine V.aload_n hC dX4_start_11 rfl ?_
  refine gfX4_22 hG hC dX4_start_12 ?_
  refine V.aload_n hC dX4_start_15 rfl ?_
  refine gfX4_12 hG hC dX4_start_16 ?_
  refine V.iload_n hC dX4_start_19 rfl ?_
  refine V.callV1i hC (c_X0_begin (dk_disk1 hG)) mwX0_begin mlX4_64 (dk_disk1 hG).s (dk_disk1 hG).k rfl ⟨rfl, rfl⟩ dX4_start_20 rfl ?_
  refine V.callV1i hC (c_X1_keep hG) mwX1_keep mlX4_41 (hG.at 23 rfl) rfl rfl ⟨rfl, rfl⟩ dX4_start_23 rfl ?_
  exact V.iret hC (rfl) dX4_start_26
set_option maxHeartbeats 2000000 in
set_option maxRecDepth 20000 in
theorem c_X4_steps {l : Launch} {G : dkG}  {M : dkM} (hG : dk_cls G) (hX : xI M) {n : Int32}  : dk_Con l yX4_steps cX4_steps 2 (some .int) 5 111 G [.ref (G.1 + 0), .int n] M (some (.int (xU (dAdv (hDraft M) 1 n)).1), (xU (dAdv (hDraft M) 1 n)).2) := by
  refine dk_Con.of mwX4_steps.1 (Nat.le_of_ble_eq_true rfl) (fun E hE hC => ?_)
  subst hE
  refine V.aload_n hC dX4_steps_0 rfl ?_
  refine gfX4_22 hG hC dX4_steps_1 ?_
  refine V.aload_n hC dX4_steps_4 rfl ?_
  refine gfX4_12 hG hC dX4_steps_5 ?_
  refine V.callV1v hC (c_X1_draft hG hX.1 hX.2.2.1) mwX1_draft mlX4_33 (hG.at 23 rfl) rfl rfl ⟨rfl, rfl⟩ dX4_steps_8 rfl ?_
  refine V.aload_n hC dX4_steps_11 rfl ?_
  refine gfX4_22 hG hC dX4_steps_12 ?_
  refine V.aload_n hC dX4_steps_15 rfl ?_
  refine gfX4_12 hG hC dX4_steps_16 ?_
  refine V.iload_n hC dX4_steps_19 rfl ?_
  refine V.callV1i hC (c_X0_advance (dk_disk1 hG) hX.draft) mwX0_advance mlX4_67 (dk_disk1 hG).s (dk_disk1 hG).k rfl ⟨rfl, rfl⟩ dX4_steps_20 rfl ?_
  refine V.callV1i hC (c_X1_keep hG) mwX1_keep mlX4_41 (hG.at 23 rfl) rfl rfl ⟨rfl, rfl⟩ dX4_steps_23 rfl ?_
  exact V.iret hC (rfl) dX4_steps_26
set_option maxHeartbeats 2000000 in
set_option maxRecDepth 20000 in
theorem c_X4_turnBack {l : Launch} {G : dkG}  {M : dkM} (hG : dk_cls G) (hX : xI M)  : dk_Con l yX4_turnBack cX4_turnBack 1 (some .int) 5 105 G [.ref (G.1 + 0)] M (some (.int (xU (dTurn (hDraft M) 1)).1), (xU (dTurn (hDraft M) 1)).2) := by
  refine dk_Con.of mwX4_turnBack.1 (Nat.le_of_ble_eq_true rfl) (fun E hE hC => ?_)
  subst hE
  refine V.aload_n hC dX4_turnBack_0 rfl ?_
  refine gfX4_22 hG hC dX4_turnBack_1 ?_
  refine V.aload_n hC dX4_turnBack_4 rfl ?_
  refine gfX4_12 hG hC dX4_turnBack_5 ?_
  refine V.callV1v hC (c_X1_draft hG hX.1 hX.2.2.1) mwX1_draft mlX4_33 (hG.at 23 rfl) rfl rfl ⟨rfl, rfl⟩ dX4_turnBack_8 rfl ?_
  refine V.aload_n hC dX4_turnBack_11 rfl ?_
  refine gfX4_22 hG hC dX4_turnBack_12 ?_
  refine V.aload_n hC dX4_turnBack_15 rfl ?_
  refine gfX4_12 hG hC dX4_turnBack_16 ?_
  refine V.callV0i hC (c_X0_turn (dk_disk1 hG)) mwX0_turn mlX4_70 (dk_disk1 hG).s (dk_disk1 hG).k rfl ⟨rfl, rfl⟩ dX4_turnBack_19 rfl ?_
  refine V.callV1i hC (c_X1_keep hG) mwX1_keep mlX4_41 (hG.at 23 rfl) rfl rfl ⟨rfl, rfl⟩ dX4_turnBack_22 rfl ?_
  exact V.iret hC (rfl) dX4_turnBack_25
set_option maxHeartbeats 2000000 in
set_option maxRecDepth 20000 in
theorem c_X4_write {l : Launch} {G : dkG}  {M : dkM} (hG : dk_cls G) (hX : xI M) {s : Int32} {v : Int32}  : dk_Con l yX4_write cX4_write 3 (some .int) 4 86 G [.ref (G.1 + 0), .int s, .int v] M (some (.int (xU (dPut (hDraft M) 1 s v)).1), (xU (dPut (hDraft M) 1 s v)).2) := by
  refine dk_Con.of mwX4_write.1 (Nat.le_of_ble_eq_true rfl) (fun E hE hC => ?_)
  subst hE
  refine V.aload_n hC dX4_write_0 rfl ?_
  refine gfX4_22 hG hC dX4_write_1 ?_
  refine V.aload_n hC dX4_write_4 rfl ?_
  refine gfX4_12 hG hC dX4_write_5 ?_
  refine V.callV1v hC (c_X1_draft hG hX.1 hX.2.2.1) mwX1_draft mlX4_33 (hG.at 23 rfl) rfl rfl ⟨rfl, rfl⟩ dX4_write_8 rfl ?_
  refine V.aload_n hC dX4_write_11 rfl ?_
  refine gfX4_22 hG hC dX4_write_12 ?_
  refine V.aload_n hC dX4_write_15 rfl ?_
  refine gfX4_12 hG hC dX4_write_16 ?_
  refine V.iload_n hC dX4_write_19 rfl ?_
  refine V.iload_n hC dX4_write_20 rfl ?_
  refine V.callV2i hC (c_X0_put (dk_disk1 hG)) mwX0_put mlX4_74 (dk_disk1 hG).s (dk_disk1 hG).k rfl ⟨rfl, rfl⟩ dX4_write_21 rfl ?_
  refine V.callV1i hC (c_X1_keep hG) mwX1_keep mlX4_41 (hG.at 23 rfl) rfl rfl ⟨rfl, rfl⟩ dX4_write_24 rfl ?_
  exact V.iret hC (rfl) dX4_write_27
set_option maxHeartbeats 2000000 in
set_option maxRecDepth 20000 in
theorem c_X4_flush {l : Launch} {G : dkG}  {M : dkM} (hG : dk_cls G) (hX : xI M)  : dk_Con l yX4_flush cX4_flush 1 (some .int) 5 107 G [.ref (G.1 + 0)] M (some (.int (xU (nI (flN (hDraft M) 1 (ix (hDraft M 1 5))), flM (hDraft M) 1 (ix (hDraft M 1 5)))).1), (xU (nI (flN (hDraft M) 1 (ix (hDraft M 1 5))), flM (hDraft M) 1 (ix (hDraft M 1 5)))).2) := by
  refine dk_Con.of mwX4_flush.1 (Nat.le_of_ble_eq_true rfl) (fun E hE hC => ?_)
  subst hE
  refine V.aload_n hC dX4_flush_0 rfl ?_
  refine gfX4_22 hG hC dX4_flush_1 ?_
  refine V.aload_n hC dX4_flush_4 rfl ?_
  refine gfX4_12 hG hC dX4_flush_5 ?_
  refine V.callV1v hC (c_X1_draft hG hX.1 hX.2.2.1) mwX1_draft mlX4_33 (hG.at 23 rfl) rfl rfl ⟨rfl, rfl⟩ dX4_flush_8 rfl ?_
  refine V.aload_n hC dX4_flush_11 rfl ?_
  refine gfX4_22 hG hC dX4_flush_12 ?_
  refine V.aload_n hC dX4_flush_15 rfl ?_
  refine gfX4_12 hG hC dX4_flush_16 ?_
  refine V.callV0i hC (c_X0_flushCache (dk_disk1 hG)) mwX0_flushCache mlX4_77 (dk_disk1 hG).s (dk_disk1 hG).k rfl ⟨rfl, rfl⟩ dX4_flush_19 rfl ?_
  refine V.callV1i hC (c_X1_keep hG) mwX1_keep mlX4_41 (hG.at 23 rfl) rfl rfl ⟨rfl, rfl⟩ dX4_flush_22 rfl ?_
  exact V.iret hC (rfl) dX4_flush_25
set_option maxHeartbeats 2000000 in
set_option maxRecDepth 20000 in
theorem c_X4_fail {l : Launch} {G : dkG}  {M : dkM} (hG : dk_cls G) (hX : xI M)  : dk_Con l yX4_fail cX4_fail 1 (some .int) 5 108 G [.ref (G.1 + 0)] M (some (.int (xU (nI (lpN (hDraft M) 1 (ix (hDraft M 1 5))), dFail (hDraft M) 1)).1), (xU (nI (lpN (hDraft M) 1 (ix (hDraft M 1 5))), dFail (hDraft M) 1)).2) := by
  refine dk_Con.of mwX4_fail.1 (Nat.le_of_ble_eq_true rfl) (fun E hE hC => ?_)
  subst hE
  refine V.aload_n hC dX4_fail_0 rfl ?_
  refine gfX4_22 hG hC dX4_fail_1 ?_
  refine V.aload_n hC dX4_fail_4 rfl ?_
  refine gfX4_12 hG hC dX4_fail_5 ?_
  refine V.callV1v hC (c_X1_draft hG hX.1 hX.2.2.1) mwX1_draft mlX4_33 (hG.at 23 rfl) rfl rfl ⟨rfl, rfl⟩ dX4_fail_8 rfl ?_
  refine V.aload_n hC dX4_fail_11 rfl ?_
  refine gfX4_22 hG hC dX4_fail_12 ?_
  refine V.aload_n hC dX4_fail_15 rfl ?_
  refine gfX4_12 hG hC dX4_fail_16 ?_
  refine V.callV0i hC (c_X0_losePower (dk_disk1 hG)) mwX0_losePower mlX4_80 (dk_disk1 hG).s (dk_disk1 hG).k rfl ⟨rfl, rfl⟩ dX4_fail_19 rfl ?_
  refine V.callV1i hC (c_X1_keep hG) mwX1_keep mlX4_41 (hG.at 23 rfl) rfl rfl ⟨rfl, rfl⟩ dX4_fail_22 rfl ?_
  exact V.iret hC (rfl) dX4_fail_25
set_option maxHeartbeats 2000000 in
set_option maxRecDepth 20000 in
theorem c_X4_secretOf {l : Launch} {G : dkG}  {M : dkM} (hG : dk_cls G) {k : Int32}  : dk_Con l yX4_secretOf cX4_secretOf 2 (some .int) 2 42 G [.ref (G.1 + 0), .int k] M (some (.int (xSecret M k)), M) := by
  refine dk_Con.of mwX4_secretOf.1 (Nat.le_of_ble_eq_true rfl) (fun E hE hC => ?_)
  subst hE
  refine V.aload_n hC dX4_secretOf_0 rfl ?_
  refine gfX4_12 hG hC dX4_secretOf_1 ?_
  refine V.iload_n hC dX4_secretOf_4 rfl ?_
  refine V.callV1i hC (c_X0_hasKey (dk_disk1 hG)) mwX0_hasKey mlX4_51 (dk_disk1 hG).s (dk_disk1 hG).k rfl ⟨rfl, rfl⟩ dX4_secretOf_5 rfl ?_
  refine V.if_eqB hC 22 dX4_secretOf_8 (by decide) (fun c_1 => ?_) (fun c_1 => ?_)
  · refine V.iconst hC (-1) dX4_secretOf_22 (by decide) ?_
    exact V.iret hC (by first | (simp [xSecret, c_1]; done) | (simp_all [xSecret]; done)) dX4_secretOf_23
  · refine V.aload_n hC dX4_secretOf_11 rfl ?_
    refine gfX4_12 hG hC dX4_secretOf_12 ?_
    refine V.iload_n hC dX4_secretOf_15 rfl ?_
    refine V.callV1i hC (c_X0_secretBehind (dk_disk1 hG)) mwX0_secretBehind mlX4_55 (dk_disk1 hG).s (dk_disk1 hG).k rfl ⟨rfl, rfl⟩ dX4_secretOf_16 rfl ?_
    refine V.goto hC 23 dX4_secretOf_19 (by decide) ?_
    exact V.iret hC (by first | (simp [xSecret, c_1]; done) | (simp_all [xSecret]; done)) dX4_secretOf_23
set_option maxHeartbeats 2000000 in
set_option maxRecDepth 20000 in
theorem c_X4_count {l : Launch} {G : dkG}  {M : dkM} (hG : dk_cls G) {w : Int32}  : dk_Con l yX4_count cX4_count 2 (some .int) 2 43 G [.ref (G.1 + 0), .int w] M (some (.int (xCount M w)), M) := by
  refine dk_Con.of mwX4_count.1 (Nat.le_of_ble_eq_true rfl) (fun E hE hC => ?_)
  subst hE
  refine V.iload_n hC dX4_count_0 rfl ?_
  refine V.if_lt hC 10 dX4_count_1 (by decide) (fun c_1 => ?_) (fun c_1 => ?_)
  · refine V.bipush hC (-2) dX4_count_10 (by decide) ?_
    exact V.iret hC (by first | (simp [xCount, c_1, dk_lt1 c_1]; done) | (simp_all [xCount]; done)) dX4_count_12
  · refine V.iload_n hC dX4_count_4 rfl ?_
    refine V.bipush hC 13 dX4_count_5 (by decide) ?_
    refine V.icmp_lt hC 13 dX4_count_7 (by decide) (fun c_2 => ?_) (fun c_2 => ?_)
    · refine V.iload_n hC dX4_count_13 rfl ?_
      refine V.iconst hC 2 dX4_count_14 (by decide) ?_
      refine V.icmp_lt hC 34 dX4_count_15 (by decide) (fun c_3 => ?_) (fun c_3 => ?_)
      · refine V.aload_n hC dX4_count_34 rfl ?_
        refine gfX4_12 hG hC dX4_count_35 ?_
        refine V.iload_n hC dX4_count_38 rfl ?_
        refine V.callV1i hC (c_X0_number (dk_disk1 hG)) mwX0_number mlX4_86 (dk_disk1 hG).s (dk_disk1 hG).k rfl ⟨rfl, rfl⟩ dX4_count_39 rfl ?_
        exact V.iret hC (by first | (simp [xCount, c_1, dk_nlt c_1, c_2, dk_lt1 c_2, c_3, dk_lt1 c_3]; done) | (simp_all [xCount]; done)) dX4_count_42
      · refine V.iload_n hC dX4_count_18 rfl ?_
        refine V.iconst hC 4 dX4_count_19 (by decide) ?_
        refine V.icmp_gt hC 34 dX4_count_20 (by decide) (fun c_4 => ?_) (fun c_4 => ?_)
        · refine V.aload_n hC dX4_count_34 rfl ?_
          refine gfX4_12 hG hC dX4_count_35 ?_
          refine V.iload_n hC dX4_count_38 rfl ?_
          refine V.callV1i hC (c_X0_number (dk_disk1 hG)) mwX0_number mlX4_86 (dk_disk1 hG).s (dk_disk1 hG).k rfl ⟨rfl, rfl⟩ dX4_count_39 rfl ?_
          exact V.iret hC (by first | (simp [xCount, c_1, dk_nlt c_1, c_2, dk_lt1 c_2, c_3, dk_nlt c_3, c_4, dk_lt1 c_4]; done) | (simp_all [xCount]; done)) dX4_count_42
        · refine V.aload_n hC dX4_count_23 rfl ?_
          refine gfX4_12 hG hC dX4_count_24 ?_
          refine V.iload_n hC dX4_count_27 rfl ?_
          refine V.callV1i hC (c_X0_numberOfRekeying (dk_disk1 hG)) mwX0_numberOfRekeying mlX4_83 (dk_disk1 hG).s (dk_disk1 hG).k rfl ⟨rfl, rfl⟩ dX4_count_28 rfl ?_
          refine V.goto hC 42 dX4_count_31 (by decide) ?_
          exact V.iret hC (by first | (simp [xCount, c_1, dk_nlt c_1, c_2, dk_lt1 c_2, c_3, dk_nlt c_3, c_4, dk_nlt c_4]; done) | (simp_all [xCount]; done)) dX4_count_42
    · refine V.bipush hC (-2) dX4_count_10 (by decide) ?_
      exact V.iret hC (by first | (simp [xCount, c_1, dk_nlt c_1, c_2, dk_nlt c_2]; done) | (simp_all [xCount]; done)) dX4_count_12
set_option maxHeartbeats 2000000 in
set_option maxRecDepth 20000 in
theorem c_X4_read {l : Launch} {G : dkG}  {M : dkM} (hG : dk_cls G) {s : Int32}  : dk_Con l yX4_read cX4_read 2 (some .int) 4 86 G [.ref (G.1 + 0), .int s] M (some (.int (xRead M s)), M) := by
  refine dk_Con.of mwX4_read.1 (Nat.le_of_ble_eq_true rfl) (fun E hE hC => ?_)
  subst hE
  refine V.aload_n hC dX4_read_0 rfl ?_
  refine gfX4_12 hG hC dX4_read_1 ?_
  refine V.iload_n hC dX4_read_4 rfl ?_
  refine V.callV1i hC (c_X0_hasSector (dk_disk1 hG)) mwX0_hasSector mlX4_89 (dk_disk1 hG).s (dk_disk1 hG).k rfl ⟨rfl, rfl⟩ dX4_read_5 rfl ?_
  refine V.if_eqB hC 22 dX4_read_8 (by decide) (fun c_1 => ?_) (fun c_1 => ?_)
  · refine V.iconst hC (-1) dX4_read_22 (by decide) ?_
    exact V.iret hC (by first | (simp [xRead, c_1]; done) | (simp_all [xRead]; done)) dX4_read_23
  · refine V.aload_n hC dX4_read_11 rfl ?_
    refine gfX4_12 hG hC dX4_read_12 ?_
    refine V.iload_n hC dX4_read_15 rfl ?_
    refine V.callV1i hC (c_X0_valueIn (dk_disk1 hG)) mwX0_valueIn mlX4_92 (dk_disk1 hG).s (dk_disk1 hG).k rfl ⟨rfl, rfl⟩ dX4_read_16 rfl ?_
    refine V.goto hC 23 dX4_read_19 (by decide) ?_
    exact V.iret hC (by first | (simp [xRead, c_1]; done) | (simp_all [xRead]; done)) dX4_read_23
set_option maxHeartbeats 2000000 in
set_option maxRecDepth 20000 in
theorem c_X4_stored {l : Launch} {G : dkG}  {M : dkM} (hG : dk_cls G) {s : Int32}  : dk_Con l yX4_stored cX4_stored 2 (some .int) 2 42 G [.ref (G.1 + 0), .int s] M (some (.int (xStored M s)), M) := by
  refine dk_Con.of mwX4_stored.1 (Nat.le_of_ble_eq_true rfl) (fun E hE hC => ?_)
  subst hE
  refine V.aload_n hC dX4_stored_0 rfl ?_
  refine gfX4_12 hG hC dX4_stored_1 ?_
  refine V.iload_n hC dX4_stored_4 rfl ?_
  refine V.callV1i hC (c_X0_hasSector (dk_disk1 hG)) mwX0_hasSector mlX4_89 (dk_disk1 hG).s (dk_disk1 hG).k rfl ⟨rfl, rfl⟩ dX4_stored_5 rfl ?_
  refine V.if_eqB hC 22 dX4_stored_8 (by decide) (fun c_1 => ?_) (fun c_1 => ?_)
  · refine V.iconst hC (-1) dX4_stored_22 (by decide) ?_
    exact V.iret hC (by first | (simp [xStored, c_1]; done) | (simp_all [xStored]; done)) dX4_stored_23
  · refine V.aload_n hC dX4_stored_11 rfl ?_
    refine gfX4_12 hG hC dX4_stored_12 ?_
    refine V.iload_n hC dX4_stored_15 rfl ?_
    refine V.callV1i hC (c_X0_scrambledIn (dk_disk1 hG)) mwX0_scrambledIn mlX4_95 (dk_disk1 hG).s (dk_disk1 hG).k rfl ⟨rfl, rfl⟩ dX4_stored_16 rfl ?_
    refine V.goto hC 23 dX4_stored_19 (by decide) ?_
    exact V.iret hC (by first | (simp [xStored, c_1]; done) | (simp_all [xStored]; done)) dX4_stored_23
set_option maxHeartbeats 2000000 in
set_option maxRecDepth 20000 in
theorem c_X4_keyOf {l : Launch} {G : dkG}  {M : dkM} (hG : dk_cls G) {s : Int32}  : dk_Con l yX4_keyOf cX4_keyOf 2 (some .int) 3 64 G [.ref (G.1 + 0), .int s] M (some (.int (xKeyOf M s)), M) := by
  refine dk_Con.of mwX4_keyOf.1 (Nat.le_of_ble_eq_true rfl) (fun E hE hC => ?_)
  subst hE
  refine V.aload_n hC dX4_keyOf_0 rfl ?_
  refine gfX4_12 hG hC dX4_keyOf_1 ?_
  refine V.iload_n hC dX4_keyOf_4 rfl ?_
  refine V.callV1i hC (c_X0_hasSector (dk_disk1 hG)) mwX0_hasSector mlX4_89 (dk_disk1 hG).s (dk_disk1 hG).k rfl ⟨rfl, rfl⟩ dX4_keyOf_5 rfl ?_
  refine V.if_eqB hC 22 dX4_keyOf_8 (by decide) (fun c_1 => ?_) (fun c_1 => ?_)
  · refine V.iconst hC (-1) dX4_keyOf_22 (by decide) ?_
    exact V.iret hC (by first | (simp [xKeyOf, c_1]; done) | (simp_all [xKeyOf]; done)) dX4_keyOf_23
  · refine V.aload_n hC dX4_keyOf_11 rfl ?_
    refine gfX4_12 hG hC dX4_keyOf_12 ?_
    refine V.iload_n hC dX4_keyOf_15 rfl ?_
    refine V.callV1i hC (c_X0_keyAt (dk_disk1 hG)) mwX0_keyAt mlX4_98 (dk_disk1 hG).s (dk_disk1 hG).k rfl ⟨rfl, rfl⟩ dX4_keyOf_16 rfl ?_
    refine V.goto hC 23 dX4_keyOf_19 (by decide) ?_
    exact V.iret hC (by first | (simp [xKeyOf, c_1]; done) | (simp_all [xKeyOf]; done)) dX4_keyOf_23
set_option maxHeartbeats 2000000 in
set_option maxRecDepth 20000 in
theorem c_X4_orNone {l : Launch} {G : dkG}  {M : dkM} {x : Int32}  : dk_Con l yX4_orNone cX4_orNone 1 (some .int) 0 0 G [.int x] M (some (.int (orN x)), M) := by
  refine dk_Con.of mwX4_orNone.1 (Nat.le_of_ble_eq_true rfl) (fun E hE hC => ?_)
  subst hE
  refine V.iload_n hC dX4_orNone_0 rfl ?_
  refine V.iconst hC (-1) dX4_orNone_1 (by decide) ?_
  refine V.icmp_ne hC 10 dX4_orNone_2 (by decide) (fun c_1 => ?_) (fun c_1 => ?_)
  · refine V.iload_n hC dX4_orNone_10 rfl ?_
    exact V.iret hC (by first | (simp [orN, c_1]; done) | (simp_all [orN]; done)) dX4_orNone_11
  · refine V.bipush hC (-6) dX4_orNone_5 (by decide) ?_
    refine V.goto hC 11 dX4_orNone_7 (by decide) ?_
    exact V.iret hC (by first | (simp [orN, c_1]; done) | (simp_all [orN]; done)) dX4_orNone_11
set_option maxHeartbeats 2000000 in
set_option maxRecDepth 20000 in
theorem c_X4_journal {l : Launch} {G : dkG}  {M : dkM} (hG : dk_cls G) {s : Int32}  : dk_Con l yX4_journal cX4_journal 2 (some .int) 2 42 G [.ref (G.1 + 0), .int s] M (some (.int (xJournal M s)), M) := by
  refine dk_Con.of mwX4_journal.1 (Nat.le_of_ble_eq_true rfl) (fun E hE hC => ?_)
  subst hE
  refine V.aload_n hC dX4_journal_0 rfl ?_
  refine gfX4_12 hG hC dX4_journal_1 ?_
  refine V.iload_n hC dX4_journal_4 rfl ?_
  refine V.callV1i hC (c_X0_hasSector (dk_disk1 hG)) mwX0_hasSector mlX4_89 (dk_disk1 hG).s (dk_disk1 hG).k rfl ⟨rfl, rfl⟩ dX4_journal_5 rfl ?_
  refine V.if_eqB hC 25 dX4_journal_8 (by decide) (fun c_1 => ?_) (fun c_1 => ?_)
  · refine V.iconst hC (-1) dX4_journal_25 (by decide) ?_
    exact V.iret hC (by first | (simp [xJournal, c_1]; done) | (simp_all [xJournal]; done)) dX4_journal_26
  · refine V.aload_n hC dX4_journal_11 rfl ?_
    refine gfX4_12 hG hC dX4_journal_12 ?_
    refine V.iload_n hC dX4_journal_15 rfl ?_
    refine V.callV1i hC (c_X0_inJournal (dk_disk1 hG)) mwX0_inJournal mlX4_101 (dk_disk1 hG).s (dk_disk1 hG).k rfl ⟨rfl, rfl⟩ dX4_journal_16 rfl ?_
    refine V.callS1i hC (c_X4_orNone) mwX4_orNone mlX4_104 ⟨rfl, rfl⟩ dX4_journal_19 rfl ?_
    refine V.goto hC 26 dX4_journal_22 (by decide) ?_
    exact V.iret hC (by first | (simp [xJournal, c_1]; done) | (simp_all [xJournal]; done)) dX4_journal_26
set_option maxHeartbeats 2000000 in
set_option maxRecDepth 20000 in
theorem c_X4_cached {l : Launch} {G : dkG}  {M : dkM} (hG : dk_cls G) {s : Int32}  : dk_Con l yX4_cached cX4_cached 2 (some .int) 2 42 G [.ref (G.1 + 0), .int s] M (some (.int (xCached M s)), M) := by
  refine dk_Con.of mwX4_cached.1 (Nat.le_of_ble_eq_true rfl) (fun E hE hC => ?_)
  subst hE
  refine V.aload_n hC dX4_cached_0 rfl ?_
  refine gfX4_12 hG hC dX4_cached_1 ?_
  refine V.iload_n hC dX4_cached_4 rfl ?_
  refine V.callV1i hC (c_X0_hasSector (dk_disk1 hG)) mwX0_hasSector mlX4_89 (dk_disk1 hG).s (dk_disk1 hG).k rfl ⟨rfl, rfl⟩ dX4_cached_5 rfl ?_
  refine V.if_eqB hC 25 dX4_cached_8 (by decide) (fun c_1 => ?_) (fun c_1 => ?_)
  · refine V.iconst hC (-1) dX4_cached_25 (by decide) ?_
    exact V.iret hC (by first | (simp [xCached, c_1]; done) | (simp_all [xCached]; done)) dX4_cached_26
  · refine V.aload_n hC dX4_cached_11 rfl ?_
    refine gfX4_12 hG hC dX4_cached_12 ?_
    refine V.iload_n hC dX4_cached_15 rfl ?_
    refine V.callV1i hC (c_X0_inCache (dk_disk1 hG)) mwX0_inCache mlX4_107 (dk_disk1 hG).s (dk_disk1 hG).k rfl ⟨rfl, rfl⟩ dX4_cached_16 rfl ?_
    refine V.callS1i hC (c_X4_orNone) mwX4_orNone mlX4_104 ⟨rfl, rfl⟩ dX4_cached_19 rfl ?_
    refine V.goto hC 26 dX4_cached_22 (by decide) ?_
    exact V.iret hC (by first | (simp [xCached, c_1]; done) | (simp_all [xCached]; done)) dX4_cached_26
set_option maxHeartbeats 2000000 in
set_option maxRecDepth 20000 in
theorem c_X4_zoneStart {l : Launch} {G : dkG}  {M : dkM} (hG : dk_cls G)  : dk_Con l yX4_zoneStart cX4_zoneStart 1 (some .int) 2 41 G [.ref (G.1 + 0)] M (some (.int (xZone M)), M) := by
  refine dk_Con.of mwX4_zoneStart.1 (Nat.le_of_ble_eq_true rfl) (fun E hE hC => ?_)
  subst hE
  refine V.aload_n hC dX4_zoneStart_0 rfl ?_
  refine gfX4_12 hG hC dX4_zoneStart_1 ?_
  refine V.callV0i hC (c_X0_isRekeying (dk_disk1 hG)) mwX0_isRekeying mlX4_110 (dk_disk1 hG).s (dk_disk1 hG).k rfl ⟨rfl, rfl⟩ dX4_zoneStart_4 rfl ?_
  refine V.if_eqB hC 20 dX4_zoneStart_7 (by decide) (fun c_1 => ?_) (fun c_1 => ?_)
  · refine V.bipush hC (-3) dX4_zoneStart_20 (by decide) ?_
    exact V.iret hC (by first | (simp [xZone, c_1]; done) | (simp_all [xZone]; done)) dX4_zoneStart_22
  · refine V.aload_n hC dX4_zoneStart_10 rfl ?_
    refine gfX4_12 hG hC dX4_zoneStart_11 ?_
    refine V.callV0i hC (c_X0_zoneFirst (dk_disk1 hG)) mwX0_zoneFirst mlX4_114 (dk_disk1 hG).s (dk_disk1 hG).k rfl ⟨rfl, rfl⟩ dX4_zoneStart_14 rfl ?_
    refine V.goto hC 22 dX4_zoneStart_17 (by decide) ?_
    exact V.iret hC (by first | (simp [xZone, c_1]; done) | (simp_all [xZone]; done)) dX4_zoneStart_22
set_option maxHeartbeats 2000000 in
set_option maxRecDepth 20000 in
theorem c_X4_damaged {l : Launch} {G : dkG}  {M : dkM} (hG : dk_cls G)  : dk_Con l yX4_damaged cX4_damaged 1 (some .int) 5 108 G [.ref (G.1 + 0)] M (some (.int (xDam M)), M) := by
  refine dk_Con.of mwX4_damaged.1 (Nat.le_of_ble_eq_true rfl) (fun E hE hC => ?_)
  subst hE
  refine V.aload_n hC dX4_damaged_0 rfl ?_
  refine gfX4_12 hG hC dX4_damaged_1 ?_
  refine V.callV0i hC (c_X0_damageCount (dk_disk1 hG)) mwX0_damageCount mlX4_117 (dk_disk1 hG).s (dk_disk1 hG).k rfl ⟨rfl, rfl⟩ dX4_damaged_4 rfl ?_
  exact V.iret hC (rfl) dX4_damaged_7
set_option maxHeartbeats 2000000 in
set_option maxRecDepth 20000 in
theorem c_X4_firstDamaged {l : Launch} {G : dkG}  {M : dkM} (hG : dk_cls G)  : dk_Con l yX4_firstDamaged cX4_firstDamaged 1 (some .int) 5 107 G [.ref (G.1 + 0)] M (some (.int (xFirst M)), M) := by
  refine dk_Con.of mwX4_firstDamaged.1 (Nat.le_of_ble_eq_true rfl) (fun E hE hC => ?_)
  subst hE
  refine V.aload_n hC dX4_firstDamaged_0 rfl ?_
  refine gfX4_12 hG hC dX4_firstDamaged_1 ?_
  refine V.callV0i hC (c_X0_firstDamage (dk_disk1 hG)) mwX0_firstDamage mlX4_120 (dk_disk1 hG).s (dk_disk1 hG).k rfl ⟨rfl, rfl⟩ dX4_firstDamaged_4 rfl ?_
  refine V.callS1i hC (c_X4_orNone) mwX4_orNone mlX4_104 ⟨rfl, rfl⟩ dX4_firstDamaged_7 rfl ?_
  exact V.iret hC (rfl) dX4_firstDamaged_10
set_option maxHeartbeats 2000000 in
set_option maxRecDepth 20000 in
theorem c_X4_stepsLeft {l : Launch} {G : dkG}  {M : dkM} (hG : dk_cls G)  : dk_Con l yX4_stepsLeft cX4_stepsLeft 1 (some .int) 4 85 G [.ref (G.1 + 0)] M (some (.int (xLeft M)), M) := by
  refine dk_Con.of mwX4_stepsLeft.1 (Nat.le_of_ble_eq_true rfl) (fun E hE hC => ?_)
  subst hE
  refine V.aload_n hC dX4_stepsLeft_0 rfl ?_
  refine gfX4_12 hG hC dX4_stepsLeft_1 ?_
  refine V.callV0i hC (c_X0_isRekeying (dk_disk1 hG)) mwX0_isRekeying mlX4_110 (dk_disk1 hG).s (dk_disk1 hG).k rfl ⟨rfl, rfl⟩ dX4_stepsLeft_4 rfl ?_
  refine V.if_eqB hC 20 dX4_stepsLeft_7 (by decide) (fun c_1 => ?_) (fun c_1 => ?_)
  · refine V.bipush hC (-3) dX4_stepsLeft_20 (by decide) ?_
    exact V.iret hC (by first | (simp [xLeft, c_1]; done) | (simp_all [xLeft]; done)) dX4_stepsLeft_22
  · refine V.aload_n hC dX4_stepsLeft_10 rfl ?_
    refine gfX4_12 hG hC dX4_stepsLeft_11 ?_
    refine V.callV0i hC (c_X0_stepsAhead (dk_disk1 hG)) mwX0_stepsAhead mlX4_123 (dk_disk1 hG).s (dk_disk1 hG).k rfl ⟨rfl, rfl⟩ dX4_stepsLeft_14 rfl ?_
    refine V.goto hC 22 dX4_stepsLeft_17 (by decide) ?_
    exact V.iret hC (by first | (simp [xLeft, c_1]; done) | (simp_all [xLeft]; done)) dX4_stepsLeft_22
set_option maxHeartbeats 2000000 in
set_option maxRecDepth 20000 in
theorem c_X4_ifFlushed {l : Launch} {G : dkG}  {M : dkM} (hG : dk_cls G) {s : Int32}  : dk_Con l yX4_ifFlushed cX4_ifFlushed 2 (some .int) 4 85 G [.ref (G.1 + 0), .int s] M (some (.int (xIfFl M s)), M) := by
  refine dk_Con.of mwX4_ifFlushed.1 (Nat.le_of_ble_eq_true rfl) (fun E hE hC => ?_)
  subst hE
  refine V.aload_n hC dX4_ifFlushed_0 rfl ?_
  refine gfX4_12 hG hC dX4_ifFlushed_1 ?_
  refine V.iload_n hC dX4_ifFlushed_4 rfl ?_
  refine V.callV1i hC (c_X0_hasSector (dk_disk1 hG)) mwX0_hasSector mlX4_89 (dk_disk1 hG).s (dk_disk1 hG).k rfl ⟨rfl, rfl⟩ dX4_ifFlushed_5 rfl ?_
  refine V.if_eqB hC 22 dX4_ifFlushed_8 (by decide) (fun c_1 => ?_) (fun c_1 => ?_)
  · refine V.iconst hC (-1) dX4_ifFlushed_22 (by decide) ?_
    exact V.iret hC (by first | (simp [xIfFl, c_1]; done) | (simp_all [xIfFl]; done)) dX4_ifFlushed_23
  · refine V.aload_n hC dX4_ifFlushed_11 rfl ?_
    refine gfX4_12 hG hC dX4_ifFlushed_12 ?_
    refine V.iload_n hC dX4_ifFlushed_15 rfl ?_
    refine V.callV1i hC (c_X0_scrambledAfterFlush (dk_disk1 hG)) mwX0_scrambledAfterFlush mlX4_135 (dk_disk1 hG).s (dk_disk1 hG).k rfl ⟨rfl, rfl⟩ dX4_ifFlushed_16 rfl ?_
    refine V.goto hC 23 dX4_ifFlushed_19 (by decide) ?_
    exact V.iret hC (by first | (simp [xIfFl, c_1]; done) | (simp_all [xIfFl]; done)) dX4_ifFlushed_23
