set_option maxHeartbeats 2000000 in
set_option maxRecDepth 20000 in
theorem c_X4_ifFailed {l : Launch} {G : dkG}  {M : dkM} (hG : dk_cls G) {st : Int32} (hX : xI M) : dk_Con l yX4_ifFailed cX4_ifFailed 3 (some .int) 4 89 G [.ref (G.1 + 0), .int st] M (some (.int (xIfFail M st).1), (xIfFail M st).2) := by
  refine dk_Con.of mwX4_ifFailed.1 (Nat.le_of_ble_eq_true rfl) (fun E hE hC => ?_)
  subst hE
  have hI0 : dI (dCopy M 12 1) 12 := dI_congr (dCopy_f (by decide) (by decide)) (dCopy_f (by decide) (by decide)) (dCopy_f (by decide) (by decide)) (show dI (fun _ => M 1) 12 from hX.2.2.2)
  have loop_27 : ∀ (n : Nat) (k : Nat) (M1 : dkM), (¬ st < 0) → (¬ 999 < st) → (dI M1 12) → (k ≤ ix st) → (ix st < k + n) → (advL 12 (ix st - k) M1 k = advL 12 (ix st) (dCopy M 12 1) 0) →  V E G 3 (some (.int (xIfFail M st).1), (xIfFail M st).2) (M1) 27 [(0, some (.ref (G.1 + 0))), (1, some (.int st)), (2, some (.int (nI k)))] [] := by
    intro n
    induction n with
    | zero => intro k M1 h1 h2 hI1 hk hn hT; exact absurd hn (by omega)
    | succ n ih_27 =>
      intro k M1 h1 h2 hI1 hk hn hT
      have hsz := ix_lt st
      refine V.iload_n hC dX4_ifFailed_27 rfl ?_
      refine V.iload_n hC dX4_ifFailed_28 rfl ?_
      refine V.icmp_ge hC 55 dX4_ifFailed_29 (by decide) (fun c_1 => ?_) (fun c_1 => ?_)
      · have hke : k = ix st := by have := (dk_gek (k := k) (by omega)).mp c_1; omega
        rw [hke, Nat.sub_self, advL] at hT
        refine V.aload_n hC dX4_ifFailed_55 rfl ?_
        refine gfX4_16 hG hC dX4_ifFailed_56 ?_
        refine V.callV0i hC (c_X0_damageAfterFailure (dk_disk12 hG)) mwX0_damageAfterFailure mlX4_132 (dk_disk12 hG).s (dk_disk12 hG).k rfl ⟨rfl, rfl⟩ dX4_ifFailed_59 rfl ?_
        exact V.iret hC (by simp only [xIfFail, h1, h2, if_false, ← hT]; rfl) dX4_ifFailed_62
      · have hkl : k < ix st := by have := mt (dk_gek (k := k) (by omega)).mpr c_1; omega
        refine V.aload_n hC dX4_ifFailed_32 rfl ?_
        refine gfX4_16 hG hC dX4_ifFailed_33 ?_
        refine V.callV0i hC (c_X0_isRekeying (dk_disk12 hG)) mwX0_isRekeying mlX4_110 (dk_disk12 hG).s (dk_disk12 hG).k rfl ⟨rfl, rfl⟩ dX4_ifFailed_36 rfl ?_
        refine V.if_eqB hC 55 dX4_ifFailed_39 (by decide) (fun c_2 => ?_) (fun c_2 => ?_)
        · rw [show ix st - k = ix st - (k + 1) + 1 by omega, advL, if_neg (by rw [c_2]; decide)] at hT
          refine V.aload_n hC dX4_ifFailed_55 rfl ?_
          refine gfX4_16 hG hC dX4_ifFailed_56 ?_
          refine V.callV0i hC (c_X0_damageAfterFailure (dk_disk12 hG)) mwX0_damageAfterFailure mlX4_132 (dk_disk12 hG).s (dk_disk12 hG).k rfl ⟨rfl, rfl⟩ dX4_ifFailed_59 rfl ?_
          exact V.iret hC (by simp only [xIfFail, h1, h2, if_false, ← hT]; rfl) dX4_ifFailed_62
        · refine V.aload_n hC dX4_ifFailed_42 rfl ?_
          refine gfX4_16 hG hC dX4_ifFailed_43 ?_
          refine V.callV0v hC (c_X0_makeStep (dk_disk12 hG) hI1) mwX0_makeStep mlX4_129 (dk_disk12 hG).s (dk_disk12 hG).k rfl ⟨rfl, rfl⟩ dX4_ifFailed_46 rfl ?_
          refine V.iinc hC dX4_ifFailed_49 rfl (dk_incN _) rfl ?_
          refine V.goto hC 27 dX4_ifFailed_52 (by decide) ?_
          exact V.sub (dk_sc rfl (dk_sc rfl (dk_sc rfl (dk_sn)))) (ih_27 (k + 1) (dStep M1 12) h1 h2 (dI_step hI1) (by omega) (by omega) (by rw [show ix st - k = ix st - (k + 1) + 1 by omega, advL, if_pos c_2] at hT; exact hT))
  refine V.iload_n hC dX4_ifFailed_0 rfl ?_
  refine V.if_lt hC 11 dX4_ifFailed_1 (by decide) (fun c_1 => ?_) (fun c_1 => ?_)
  · refine V.bipush hC (-2) dX4_ifFailed_11 (by decide) ?_
    exact V.iret hC (by first | (simp [xIfFail, c_1, dk_lt1 c_1]; done) | (simp_all [xIfFail]; done)) dX4_ifFailed_13
  · refine V.iload_n hC dX4_ifFailed_4 rfl ?_
    refine V.sipush hC 999 dX4_ifFailed_5 (by decide) ?_
    refine V.icmp_le hC 14 dX4_ifFailed_8 (by decide) (fun c_2 => ?_) (fun c_2 => ?_)
    · refine V.aload_n hC dX4_ifFailed_14 rfl ?_
      refine gfX4_16 hG hC dX4_ifFailed_15 ?_
      refine V.aload_n hC dX4_ifFailed_18 rfl ?_
      refine gfX4_12 hG hC dX4_ifFailed_19 ?_
      refine V.callV1v hC (c_X0_takeOver (dk_disk12 hG) (dk_disk1 hG) (by unfold apart; omega) hX.2.2.1) mwX0_takeOver mlX4_126 (dk_disk12 hG).s (dk_disk12 hG).k rfl ⟨rfl, rfl⟩ dX4_ifFailed_22 rfl ?_
      refine V.iconst hC 0 dX4_ifFailed_25 (by decide) ?_
      refine V.istore_n hC dX4_ifFailed_26 rfl rfl ?_
      exact V.sub (dk_sc rfl (dk_sc rfl (dk_sc rfl (dk_sn)))) (loop_27 (ix st + 1) 0 _ c_1 (dk_le1 c_2) hI0 (Nat.zero_le _) (by omega) rfl)
    · refine V.bipush hC (-2) dX4_ifFailed_11 (by decide) ?_
      exact V.iret hC (by first | (simp [xIfFail, c_1, dk_nlt c_1, c_2, dk_nle c_2]; done) | (simp_all [xIfFail]; done)) dX4_ifFailed_13
set_option maxHeartbeats 2000000 in
set_option maxRecDepth 20000 in
theorem c_X4_worstTime {l : Launch} {G : dkG}  {M : dkM} (hG : dk_cls G) (hX : xI M) : dk_Con l yX4_worstTime cX4_worstTime 5 (some .int) 4 89 G [.ref (G.1 + 0)] M (some (.int (xWorst M).1), (xWorst M).2) := by
  refine dk_Con.of mwX4_worstTime.1 (Nat.le_of_ble_eq_true rfl) (fun E hE hC => ?_)
  subst hE
  have hI0 : dI (dCopy M 12 1) 12 := dI_congr (dCopy_f (by decide) (by decide)) (dCopy_f (by decide) (by decide)) (dCopy_f (by decide) (by decide)) (show dI (fun _ => M 1) 12 from hX.2.2.2)
  have loop_23 : ∀ (n : Nat) (k : Nat) (M1 : dkM) (w most : Int32), (dI M1 12) → (k ≤ 99) → (99 < k + n) → (wtL (99 - k) M1 w most (k + 1) = xWorst M) →  V E G 5 (some (.int (xWorst M).1), (xWorst M).2) (M1) 23 [(0, some (.ref (G.1 + 0))), (1, some (.int w)), (2, some (.int most)), (3, some (.int (nI (k + 1))))] [] := by
    intro n
    induction n with
    | zero => intro k M1 w most hI1 hk hn hT; exact absurd hn (by omega)
    | succ n ih_23 =>
      intro k M1 w most hI1 hk hn hT
      refine V.iload_n hC dX4_worstTime_23 rfl ?_
      refine V.bipush hC 99 dX4_worstTime_24 (by decide) ?_
      refine V.icmp_gt hC 72 dX4_worstTime_26 (by decide) (fun c_1 => ?_) (fun c_1 => ?_)
      · have hke : k = 99 := by have := (dk_ltk (k := 99) (x := nI (k + 1)) (by omega)).mp c_1; rw [ix_nI (by omega)] at this; omega
        rw [hke] at hT
        refine V.iload_n hC dX4_worstTime_72 rfl ?_
        exact V.iret hC (by rw [← hT] <;> rfl) dX4_worstTime_73
      · have hkl : k < 99 := by have := mt (dk_ltk (k := 99) (x := nI (k + 1)) (by omega)).mpr c_1; rw [ix_nI (by omega)] at this; omega
        refine V.aload_n hC dX4_worstTime_29 rfl ?_
        refine gfX4_16 hG hC dX4_worstTime_30 ?_
        refine V.callV0i hC (c_X0_isRekeying (dk_disk12 hG)) mwX0_isRekeying mlX4_110 (dk_disk12 hG).s (dk_disk12 hG).k rfl ⟨rfl, rfl⟩ dX4_worstTime_33 rfl ?_
        refine V.if_eqB hC 72 dX4_worstTime_36 (by decide) (fun c_2 => ?_) (fun c_2 => ?_)
        · rw [show 99 - k = 99 - (k + 1) + 1 by omega, wtL, if_neg (by rw [c_2]; decide)] at hT
          refine V.iload_n hC dX4_worstTime_72 rfl ?_
          exact V.iret hC (by rw [← hT] <;> rfl) dX4_worstTime_73
        · refine V.aload_n hC dX4_worstTime_39 rfl ?_
          refine gfX4_16 hG hC dX4_worstTime_40 ?_
          refine V.callV0v hC (c_X0_makeStep (dk_disk12 hG) hI1) mwX0_makeStep mlX4_129 (dk_disk12 hG).s (dk_disk12 hG).k rfl ⟨rfl, rfl⟩ dX4_worstTime_43 rfl ?_
          refine V.aload_n hC dX4_worstTime_46 rfl ?_
          refine gfX4_16 hG hC dX4_worstTime_47 ?_
          refine V.callV0i hC (c_X0_damageAfterFailure (dk_disk12 hG)) mwX0_damageAfterFailure mlX4_132 (dk_disk12 hG).s (dk_disk12 hG).k rfl ⟨rfl, rfl⟩ dX4_worstTime_50 rfl ?_
          refine V.istore hC dX4_worstTime_53 rfl rfl ?_
          refine V.iload hC dX4_worstTime_55 rfl ?_
          refine V.iload_n hC dX4_worstTime_57 rfl ?_
          refine V.icmp_le hC 66 dX4_worstTime_58 (by decide) (fun c_3 => ?_) (fun c_3 => ?_)
          · refine V.iinc hC dX4_worstTime_66 rfl (dk_incN _) rfl ?_
            refine V.goto hC 23 dX4_worstTime_69 (by decide) ?_
            have hT3 := hT
            rw [show 99 - k = 99 - (k + 1) + 1 by omega, wtL, if_pos c_2] at hT3
            first | rw [if_pos (show most < dDaf (dStep M1 12) from dk_nle c_3)] at hT3 | rw [if_neg (show ¬ most < dDaf (dStep M1 12) from dk_le1 c_3)] at hT3
            exact V.sub (dk_sc rfl (dk_sc rfl (dk_sc rfl (dk_sc rfl (dk_sn))))) (ih_23 (k + 1) (dStep M1 12) _ _ (dI_step hI1) (by omega) (by omega) hT3)
          · refine V.iload hC dX4_worstTime_61 rfl ?_
            refine V.istore_n hC dX4_worstTime_63 rfl rfl ?_
            refine V.iload_n hC dX4_worstTime_64 rfl ?_
            refine V.istore_n hC dX4_worstTime_65 rfl rfl ?_
            refine V.iinc hC dX4_worstTime_66 rfl (dk_incN _) rfl ?_
            refine V.goto hC 23 dX4_worstTime_69 (by decide) ?_
            have hT3 := hT
            rw [show 99 - k = 99 - (k + 1) + 1 by omega, wtL, if_pos c_2] at hT3
            first | rw [if_pos (show most < dDaf (dStep M1 12) from dk_nle c_3)] at hT3 | rw [if_neg (show ¬ most < dDaf (dStep M1 12) from dk_le1 c_3)] at hT3
            exact V.sub (dk_sc rfl (dk_sc rfl (dk_sc rfl (dk_sc rfl (dk_sn))))) (ih_23 (k + 1) (dStep M1 12) _ _ (dI_step hI1) (by omega) (by omega) hT3)
  refine V.aload_n hC dX4_worstTime_0 rfl ?_
  refine gfX4_16 hG hC dX4_worstTime_1 ?_
  refine V.aload_n hC dX4_worstTime_4 rfl ?_
  refine gfX4_12 hG hC dX4_worstTime_5 ?_
  refine V.callV1v hC (c_X0_takeOver (dk_disk12 hG) (dk_disk1 hG) (by unfold apart; omega) hX.2.2.1) mwX0_takeOver mlX4_126 (dk_disk12 hG).s (dk_disk12 hG).k rfl ⟨rfl, rfl⟩ dX4_worstTime_8 rfl ?_
  refine V.iconst hC 0 dX4_worstTime_11 (by decide) ?_
  refine V.istore_n hC dX4_worstTime_12 rfl rfl ?_
  refine V.aload_n hC dX4_worstTime_13 rfl ?_
  refine gfX4_16 hG hC dX4_worstTime_14 ?_
  refine V.callV0i hC (c_X0_damageAfterFailure (dk_disk12 hG)) mwX0_damageAfterFailure mlX4_132 (dk_disk12 hG).s (dk_disk12 hG).k rfl ⟨rfl, rfl⟩ dX4_worstTime_17 rfl ?_
  refine V.istore_n hC dX4_worstTime_20 rfl rfl ?_
  refine V.iconst hC 1 dX4_worstTime_21 (by decide) ?_
  refine V.istore_n hC dX4_worstTime_22 rfl rfl ?_
  exact V.sub (dk_sc rfl (dk_sc rfl (dk_sc rfl (dk_sc rfl (dk_sn))))) (loop_23 100 0 _ _ _ hI0 (Nat.zero_le _) (by omega) rfl)
set_option maxHeartbeats 2000000 in
set_option maxRecDepth 20000 in
theorem c_X4_carryOut {l : Launch} {G : dkG}  {M : dkM} (hG : dk_cls G) (hX : xI M) : dk_Con l yX4_carryOut cX4_carryOut 3 (some .int) 6 134 G [.ref (G.1 + 0)] M (some (.int (xCarry M).1), (xCarry M).2) := by
  refine dk_Con.of mwX4_carryOut.1 (Nat.le_of_ble_eq_true rfl) (fun E hE hC => ?_)
  subst hE
  have hI0 : dI (xSplit (hDraft M)).2 1 := dI_of (xSplit_ne _ (by decide) (by decide) (by decide)) hX.draft
  have hsz := ix_lt (xSplit (hDraft M)).1
  have loop_36 : ∀ (n : Nat) (k : Nat) (M1 : dkM), (xErr M = -6) → (dI M1 1) → (k ≤ ix (xSplit (hDraft M)).1) → (ix (xSplit (hDraft M)).1 < k + n) → (coL (ix (xSplit (hDraft M)).1 - k) M1 k = xCo M) →  V E G 3 (some (.int (xCarry M).1), (xCarry M).2) (M1) 36 [(0, some (.ref (G.1 + 0))), (1, some (.int (xSplit (hDraft M)).1)), (2, some (.int (nI k)))] [] := by
    intro n
    induction n with
    | zero => intro k M1 h1 hI1 hk hn hT; exact absurd hn (by omega)
    | succ n ih_36 =>
      intro k M1 h1 hI1 hk hn hT
      refine V.iload_n hC dX4_carryOut_36 rfl ?_
      refine V.iload_n hC dX4_carryOut_37 rfl ?_
      refine V.icmp_ge hC 81 dX4_carryOut_38 (by decide) (fun c_1 => ?_) (fun c_1 => ?_)
      · have hke : k = ix (xSplit (hDraft M)).1 := by have := (dk_gek (k := k) (by omega)).mp c_1; omega
        rw [hke, Nat.sub_self, coL] at hT
        rw [hke]
        refine V.aload_n hC dX4_carryOut_81 rfl ?_
        refine gfX4_29 hG hC dX4_carryOut_82 ?_
        refine V.callV0i hC (c_X3_empty hG) mwX3_empty mlX4_141 (hG.at 102 rfl) rfl rfl ⟨rfl, rfl⟩ dX4_carryOut_85 rfl ?_
        refine V.pop hC dX4_carryOut_88 rfl ?_
        refine V.aload_n hC dX4_carryOut_89 rfl ?_
        refine gfX4_22 hG hC dX4_carryOut_90 ?_
        refine V.iload_n hC dX4_carryOut_93 rfl ?_
        refine V.callV1i hC (c_X1_keep hG) mwX1_keep mlX4_41 (hG.at 23 rfl) rfl rfl ⟨rfl, rfl⟩ dX4_carryOut_94 rfl ?_
        exact V.iret hC (by unfold xCarry; rw [if_pos h1, ← hT] <;> rfl) dX4_carryOut_97
      · have hkl : k < ix (xSplit (hDraft M)).1 := by have := mt (dk_gek (k := k) (by omega)).mpr c_1; omega
        refine V.aload_n hC dX4_carryOut_41 rfl ?_
        refine gfX4_12 hG hC dX4_carryOut_42 ?_
        refine V.aload_n hC dX4_carryOut_45 rfl ?_
        refine gfX4_29 hG hC dX4_carryOut_46 ?_
        refine V.iload_n hC dX4_carryOut_49 rfl ?_
        refine V.callV1i hC (c_X3_letter hG) mwX3_letter mlX4_150 (hG.at 102 rfl) rfl rfl ⟨rfl, rfl⟩ dX4_carryOut_50 rfl ?_
        refine V.aload_n hC dX4_carryOut_53 rfl ?_
        refine gfX4_29 hG hC dX4_carryOut_54 ?_
        refine V.iload_n hC dX4_carryOut_57 rfl ?_
        refine V.callV1i hC (c_X3_sector hG) mwX3_sector mlX4_153 (hG.at 102 rfl) rfl rfl ⟨rfl, rfl⟩ dX4_carryOut_58 rfl ?_
        refine V.aload_n hC dX4_carryOut_61 rfl ?_
        refine gfX4_29 hG hC dX4_carryOut_62 ?_
        refine V.iload_n hC dX4_carryOut_65 rfl ?_
        refine V.callV1i hC (c_X3_number hG) mwX3_number mlX4_156 (hG.at 102 rfl) rfl rfl ⟨rfl, rfl⟩ dX4_carryOut_66 rfl ?_
        refine V.callV3i hC (c_X0_obey (dk_disk1 hG) hI1) mwX0_obey mlX4_157 (dk_disk1 hG).s (dk_disk1 hG).k rfl ⟨rfl, rfl⟩ dX4_carryOut_69 rfl ?_
        refine V.if_lt hC 81 dX4_carryOut_72 (by decide) (fun c_2 => ?_) (fun c_2 => ?_)
        · have hT3 := hT
          rw [show ix (xSplit (hDraft M)).1 - k = ix (xSplit (hDraft M)).1 - (k + 1) + 1 by omega, coL, if_pos (show (coR M1 k).1 < 0 from c_2)] at hT3
          clear hT
          have hT := hT3
          refine V.aload_n hC dX4_carryOut_81 rfl ?_
          refine gfX4_29 hG hC dX4_carryOut_82 ?_
          refine V.callV0i hC (c_X3_empty hG) mwX3_empty mlX4_141 (hG.at 102 rfl) rfl rfl ⟨rfl, rfl⟩ dX4_carryOut_85 rfl ?_
          refine V.pop hC dX4_carryOut_88 rfl ?_
          refine V.aload_n hC dX4_carryOut_89 rfl ?_
          refine gfX4_22 hG hC dX4_carryOut_90 ?_
          refine V.iload_n hC dX4_carryOut_93 rfl ?_
          refine V.callV1i hC (c_X1_keep hG) mwX1_keep mlX4_41 (hG.at 23 rfl) rfl rfl ⟨rfl, rfl⟩ dX4_carryOut_94 rfl ?_
          exact V.iret hC (by unfold xCarry; rw [if_pos h1, ← hT] <;> rfl) dX4_carryOut_97
        · refine V.iinc hC dX4_carryOut_75 rfl (dk_incN _) rfl ?_
          refine V.goto hC 36 dX4_carryOut_78 (by decide) ?_
          exact V.sub (dk_sc rfl (dk_sc rfl (dk_sc rfl (dk_sn)))) (ih_36 (k + 1) (coR M1 k).2 h1 (dI_obey hI1 _ _ _) (by omega) (by omega) (by rw [show ix (xSplit (hDraft M)).1 - k = ix (xSplit (hDraft M)).1 - (k + 1) + 1 by omega, coL, if_neg (show ¬ (coR M1 k).1 < 0 from c_2)] at hT; exact hT))
  refine V.aload_n hC dX4_carryOut_0 rfl ?_
  refine gfX4_29 hG hC dX4_carryOut_1 ?_
  refine V.callV0i hC (c_X3_firstError hG) mwX3_firstError mlX4_144 (hG.at 102 rfl) rfl rfl ⟨rfl, rfl⟩ dX4_carryOut_4 rfl ?_
  refine V.bipush hC (-6) dX4_carryOut_7 (by decide) ?_
  refine V.icmp_eq hC 15 dX4_carryOut_9 (by decide) (fun c_1 => ?_) (fun c_1 => ?_)
  · refine V.aload_n hC dX4_carryOut_15 rfl ?_
    refine gfX4_22 hG hC dX4_carryOut_16 ?_
    refine V.aload_n hC dX4_carryOut_19 rfl ?_
    refine gfX4_12 hG hC dX4_carryOut_20 ?_
    refine V.callV1v hC (c_X1_draft hG hX.1 hX.2.2.1) mwX1_draft mlX4_33 (hG.at 23 rfl) rfl rfl ⟨rfl, rfl⟩ dX4_carryOut_23 rfl ?_
    refine V.aload_n hC dX4_carryOut_26 rfl ?_
    refine gfX4_29 hG hC dX4_carryOut_27 ?_
    refine V.callV0i hC (c_X3_split hG) mwX3_split mlX4_147 (hG.at 102 rfl) rfl rfl ⟨rfl, rfl⟩ dX4_carryOut_30 rfl ?_
    refine V.istore_n hC dX4_carryOut_33 rfl rfl ?_
    refine V.iconst hC 0 dX4_carryOut_34 (by decide) ?_
    refine V.istore_n hC dX4_carryOut_35 rfl rfl ?_
    exact V.sub (dk_sc rfl (dk_sc rfl (dk_sc rfl (dk_sn)))) (loop_36 (ix (xSplit (hDraft M)).1 + 1) 0 _ c_1 hI0 (Nat.zero_le _) (by omega) rfl)
  · refine V.bipush hC (-5) dX4_carryOut_12 (by decide) ?_
    exact V.iret hC (by first | (simp [xCarry, c_1]; done) | (simp_all [xCarry]; done)) dX4_carryOut_14
set_option maxHeartbeats 2000000 in
set_option maxRecDepth 20000 in
theorem c_X4_withKeys {l : Launch} {G : dkG}  {M : dkM} (hG : dk_cls G) {h0 : Int64} : dk_Con l yX4_withKeys cX4_withKeys 6 (some .long) 3 63 G [.ref (G.1 + 0), .long h0] M (some (.long (dgK M h0 99)), M) := by
  refine dk_Con.of mwX4_withKeys.1 (Nat.le_of_ble_eq_true rfl) (fun E hE hC => ?_)
  subst hE
  have loop_5 : ∀ (n : Nat) (k : Nat), (k ≤ 99) → (99 < k + n) →  V E G 6 (some (.long (dgK M h0 99)), M) (M) 5 [(0, some (.ref (G.1 + 0))), (3, some (.long (dgK M h0 k))), (5, some (.int (nI (k + 1))))] [] := by
    intro n
    induction n with
    | zero => intro k hk hn; exact absurd hn (by omega)
    | succ n ih_5 =>
      intro k hk hn
      refine V.iload hC dX4_withKeys_5 rfl ?_
      refine V.bipush hC 99 dX4_withKeys_7 (by decide) ?_
      refine V.icmp_gt hC 54 dX4_withKeys_9 (by decide) (fun c_1 => ?_) (fun c_1 => ?_)
      · have hke : k = 99 := by have := (dk_ltk (k := 99) (x := nI (k + 1)) (by omega)).mp c_1; rw [ix_nI (by omega)] at this; omega
        refine V.lload_n hC dX4_withKeys_54 rfl ?_
        exact V.lret hC (by rw [hke]) dX4_withKeys_55
      · have hkl : k < 99 := by have := mt (dk_ltk (k := 99) (x := nI (k + 1)) (by omega)).mpr c_1; rw [ix_nI (by omega)] at this; omega
        refine V.aload_n hC dX4_withKeys_12 rfl ?_
        refine gfX4_12 hG hC dX4_withKeys_13 ?_
        refine V.iload hC dX4_withKeys_16 rfl ?_
        refine V.callV1i hC (c_X0_hasKey (dk_disk1 hG)) mwX0_hasKey mlX4_51 (dk_disk1 hG).s (dk_disk1 hG).k rfl ⟨rfl, rfl⟩ dX4_withKeys_18 rfl ?_
        refine V.if_eqB hC 48 dX4_withKeys_21 (by decide) (fun c_2 => ?_) (fun c_2 => ?_)
        · refine V.iinc hC dX4_withKeys_48 rfl (dk_incN _) rfl ?_
          refine V.goto hC 5 dX4_withKeys_51 (by decide) ?_
          have ih2 := ih_5 (k + 1) (by omega) (by omega)
          first | rw [show dgK M h0 (k + 1) = dg (dg (dgK M h0 k) (nI (k + 1))) (xSecret M (nI (k + 1))) from by rw [dgK, if_pos c_2]] at ih2 | rw [show dgK M h0 (k + 1) = dgK M h0 k from by rw [dgK, if_neg (by rw [c_2]; decide)]] at ih2
          exact V.sub (dk_sc rfl (dk_sc rfl (dk_sc rfl (dk_sn)))) ih2
        · refine V.ldc2 hC klX4_167 dX4_withKeys_24 ?_
          refine V.lload_n hC dX4_withKeys_27 rfl ?_
          refine V.lmul hC dX4_withKeys_28 ?_
          refine V.iload hC dX4_withKeys_29 rfl ?_
          refine V.i2l hC dX4_withKeys_31 ?_
          refine V.ladd hC dX4_withKeys_32 ?_
          refine V.lstore_n hC dX4_withKeys_33 rfl rfl ?_
          refine V.ldc2 hC klX4_167 dX4_withKeys_34 ?_
          refine V.lload_n hC dX4_withKeys_37 rfl ?_
          refine V.lmul hC dX4_withKeys_38 ?_
          refine V.aload_n hC dX4_withKeys_39 rfl ?_
          refine V.iload hC dX4_withKeys_40 rfl ?_
          refine V.callV1i hC (c_X4_secretOf hG) mwX4_secretOf mlX4_191 (hG.at 0 rfl) rfl rfl ⟨rfl, rfl⟩ dX4_withKeys_42 rfl ?_
          refine V.i2l hC dX4_withKeys_45 ?_
          refine V.ladd hC dX4_withKeys_46 ?_
          refine V.lstore_n hC dX4_withKeys_47 rfl rfl ?_
          refine V.iinc hC dX4_withKeys_48 rfl (dk_incN _) rfl ?_
          refine V.goto hC 5 dX4_withKeys_51 (by decide) ?_
          have ih2 := ih_5 (k + 1) (by omega) (by omega)
          first | rw [show dgK M h0 (k + 1) = dg (dg (dgK M h0 k) (nI (k + 1))) (xSecret M (nI (k + 1))) from by rw [dgK, if_pos c_2]] at ih2 | rw [show dgK M h0 (k + 1) = dgK M h0 k from by rw [dgK, if_neg (by rw [c_2]; decide)]] at ih2
          exact V.sub (dk_sc rfl (dk_sc rfl (dk_sc rfl (dk_sn)))) ih2
  refine V.lload_n hC dX4_withKeys_0 rfl ?_
  refine V.lstore_n hC dX4_withKeys_1 rfl rfl ?_
  refine V.iconst hC 1 dX4_withKeys_2 (by decide) ?_
  refine V.istore hC dX4_withKeys_3 rfl rfl ?_
  exact V.sub (dk_sc rfl (dk_sc rfl (dk_sc rfl (dk_sn)))) (loop_5 100 0 (Nat.zero_le _) (by omega))
set_option maxHeartbeats 2000000 in
set_option maxRecDepth 20000 in
theorem c_X4_withSectors {l : Launch} {G : dkG}  {M : dkM} (hG : dk_cls G) {h0 : Int64} : dk_Con l yX4_withSectors cX4_withSectors 6 (some .long) 5 107 G [.ref (G.1 + 0), .long h0] M (some (.long (dgS M h0 (dgN M))), M) := by
  refine dk_Con.of mwX4_withSectors.1 (Nat.le_of_ble_eq_true rfl) (fun E hE hC => ?_)
  subst hE
  have hsz := ix_lt (M 1 5)
  have hm : dgN M ≤ 64 ∧ dgN M ≤ ix (M 1 5) ∧ (dgN M = 64 ∨ dgN M = ix (M 1 5)) := by unfold dgN; omega
  have loop_5 : ∀ (n : Nat) (k : Nat), (k ≤ dgN M) → (dgN M < k + n) →  V E G 6 (some (.long (dgS M h0 (dgN M))), M) (M) 5 [(0, some (.ref (G.1 + 0))), (3, some (.long (dgS M h0 k))), (5, some (.int (nI k)))] [] := by
    intro n
    induction n with
    | zero => intro k hk hn; exact absurd hn (by omega)
    | succ n ih_5 =>
      intro k hk hn
      refine V.iload hC dX4_withSectors_5 rfl ?_
      refine V.bipush hC 64 dX4_withSectors_7 (by decide) ?_
      refine V.icmp_ge hC 100 dX4_withSectors_9 (by decide) (fun c_1 => ?_) (fun c_1 => ?_)
      · have hke : k = dgN M := by have := (dk_gek (k := k) (x := nI 64) (by omega)).mp c_1; rw [ix_nI (by omega)] at this; omega
        refine V.lload_n hC dX4_withSectors_100 rfl ?_
        exact V.lret hC (by rw [hke]) dX4_withSectors_101
      · have hk6 : k < 64 := by have := mt (dk_gek (k := k) (x := nI 64) (by omega)).mpr c_1; rw [ix_nI (by omega)] at this; omega
        refine V.aload_n hC dX4_withSectors_12 rfl ?_
        refine gfX4_12 hG hC dX4_withSectors_13 ?_
        refine V.iload hC dX4_withSectors_16 rfl ?_
        refine V.callV1i hC (c_X0_hasSector (dk_disk1 hG)) mwX0_hasSector mlX4_89 (dk_disk1 hG).s (dk_disk1 hG).k rfl ⟨rfl, rfl⟩ dX4_withSectors_18 rfl ?_
        refine V.if_eqB hC 100 dX4_withSectors_21 (by decide) (fun c_2 => ?_) (fun c_2 => ?_)
        · have hke : k = dgN M := by rw [hasSec_nI (by omega)] at c_2; have := of_decide_eq_false c_2; omega
          refine V.lload_n hC dX4_withSectors_100 rfl ?_
          exact V.lret hC (by rw [hke]) dX4_withSectors_101
        · have hkl : k < dgN M := by rw [hasSec_nI (by omega)] at c_2; have := of_decide_eq_true c_2; omega
          refine V.ldc2 hC klX4_167 dX4_withSectors_24 ?_
          refine V.lload_n hC dX4_withSectors_27 rfl ?_
          refine V.lmul hC dX4_withSectors_28 ?_
          refine V.aload_n hC dX4_withSectors_29 rfl ?_
          refine V.iload hC dX4_withSectors_30 rfl ?_
          refine V.callV1i hC (c_X4_read hG) mwX4_read mlX4_194 (hG.at 0 rfl) rfl rfl ⟨rfl, rfl⟩ dX4_withSectors_32 rfl ?_
          refine V.i2l hC dX4_withSectors_35 ?_
          refine V.ladd hC dX4_withSectors_36 ?_
          refine V.lstore_n hC dX4_withSectors_37 rfl rfl ?_
          refine V.ldc2 hC klX4_167 dX4_withSectors_38 ?_
          refine V.lload_n hC dX4_withSectors_41 rfl ?_
          refine V.lmul hC dX4_withSectors_42 ?_
          refine V.aload_n hC dX4_withSectors_43 rfl ?_
          refine V.iload hC dX4_withSectors_44 rfl ?_
          refine V.callV1i hC (c_X4_stored hG) mwX4_stored mlX4_197 (hG.at 0 rfl) rfl rfl ⟨rfl, rfl⟩ dX4_withSectors_46 rfl ?_
          refine V.i2l hC dX4_withSectors_49 ?_
          refine V.ladd hC dX4_withSectors_50 ?_
          refine V.lstore_n hC dX4_withSectors_51 rfl rfl ?_
          refine V.ldc2 hC klX4_167 dX4_withSectors_52 ?_
          refine V.lload_n hC dX4_withSectors_55 rfl ?_
          refine V.lmul hC dX4_withSectors_56 ?_
          refine V.aload_n hC dX4_withSectors_57 rfl ?_
          refine V.iload hC dX4_withSectors_58 rfl ?_
          refine V.callV1i hC (c_X4_keyOf hG) mwX4_keyOf mlX4_200 (hG.at 0 rfl) rfl rfl ⟨rfl, rfl⟩ dX4_withSectors_60 rfl ?_
          refine V.i2l hC dX4_withSectors_63 ?_
          refine V.ladd hC dX4_withSectors_64 ?_
          refine V.lstore_n hC dX4_withSectors_65 rfl rfl ?_
          refine V.ldc2 hC klX4_167 dX4_withSectors_66 ?_
          refine V.lload_n hC dX4_withSectors_69 rfl ?_
          refine V.lmul hC dX4_withSectors_70 ?_
          refine V.aload_n hC dX4_withSectors_71 rfl ?_
          refine V.iload hC dX4_withSectors_72 rfl ?_
          refine V.callV1i hC (c_X4_journal hG) mwX4_journal mlX4_203 (hG.at 0 rfl) rfl rfl ⟨rfl, rfl⟩ dX4_withSectors_74 rfl ?_
          refine V.i2l hC dX4_withSectors_77 ?_
          refine V.ladd hC dX4_withSectors_78 ?_
          refine V.lstore_n hC dX4_withSectors_79 rfl rfl ?_
          refine V.ldc2 hC klX4_167 dX4_withSectors_80 ?_
          refine V.lload_n hC dX4_withSectors_83 rfl ?_
          refine V.lmul hC dX4_withSectors_84 ?_
          refine V.aload_n hC dX4_withSectors_85 rfl ?_
          refine V.iload hC dX4_withSectors_86 rfl ?_
          refine V.callV1i hC (c_X4_cached hG) mwX4_cached mlX4_206 (hG.at 0 rfl) rfl rfl ⟨rfl, rfl⟩ dX4_withSectors_88 rfl ?_
          refine V.i2l hC dX4_withSectors_91 ?_
          refine V.ladd hC dX4_withSectors_92 ?_
          refine V.lstore_n hC dX4_withSectors_93 rfl rfl ?_
          refine V.iinc hC dX4_withSectors_94 rfl (dk_incN _) rfl ?_
          refine V.goto hC 5 dX4_withSectors_97 (by decide) ?_
          exact V.sub (dk_sc rfl (dk_sc rfl (dk_sc rfl (dk_sn)))) (ih_5 (k + 1) (by omega) (by omega))
  refine V.lload_n hC dX4_withSectors_0 rfl ?_
  refine V.lstore_n hC dX4_withSectors_1 rfl rfl ?_
  refine V.iconst hC 0 dX4_withSectors_2 (by decide) ?_
  refine V.istore hC dX4_withSectors_3 rfl rfl ?_
  exact V.sub (dk_sc rfl (dk_sc rfl (dk_sc rfl (dk_sn)))) (loop_5 (dgN M + 1) 0 (Nat.zero_le _) (by omega))
set_option maxHeartbeats 2000000 in
set_option maxRecDepth 20000 in
theorem c_X4_digest {l : Launch} {G : dkG}  {M : dkM} (hG : dk_cls G)  : dk_Con l yX4_digest cX4_digest 4 (some .long) 6 132 G [.ref (G.1 + 0)] M (some (.long (xDigest M)), M) := by
  refine dk_Con.of mwX4_digest.1 (Nat.le_of_ble_eq_true rfl) (fun E hE hC => ?_)
  subst hE
  have loop_6 : ∀ (n : Nat) (k : Nat), (k ≤ 13) → (13 < k + n) →  V E G 4 (some (.long (xDigest M)), M) (M) 6 [(0, some (.ref (G.1 + 0))), (1, some (.long (dgC M k))), (3, some (.int (nI k)))] [] := by
    intro n
    induction n with
    | zero => intro k hk hn; exact absurd hn (by omega)
    | succ n ih_6 =>
      intro k hk hn
      refine V.iload_n hC dX4_digest_6 rfl ?_
      refine V.bipush hC 13 dX4_digest_7 (by decide) ?_
      refine V.icmp_ge hC 31 dX4_digest_9 (by decide) (fun c_1 => ?_) (fun c_1 => ?_)
      · have hke : k = 13 := by have := (dk_gek (k := k) (x := nI 13) (by omega)).mp c_1; rw [ix_nI (by omega)] at this; omega
        rw [hke]
        refine V.aload_n hC dX4_digest_31 rfl ?_
        refine V.aload_n hC dX4_digest_32 rfl ?_
        refine V.lload_n hC dX4_digest_33 rfl ?_
        refine V.callV1l hC (c_X4_withKeys hG) mwX4_withKeys mlX4_172 (hG.at 0 rfl) rfl rfl ⟨rfl, rfl⟩ dX4_digest_34 rfl ?_
        refine V.callV1l hC (c_X4_withSectors hG) mwX4_withSectors mlX4_176 (hG.at 0 rfl) rfl rfl ⟨rfl, rfl⟩ dX4_digest_37 rfl ?_
        refine V.lstore_n hC dX4_digest_40 rfl rfl ?_
        refine V.ldc2 hC klX4_167 dX4_digest_41 ?_
        refine V.lload_n hC dX4_digest_44 rfl ?_
        refine V.lmul hC dX4_digest_45 ?_
        refine V.aload_n hC dX4_digest_46 rfl ?_
        refine V.callV0i hC (c_X4_damaged hG) mwX4_damaged mlX4_179 (hG.at 0 rfl) rfl rfl ⟨rfl, rfl⟩ dX4_digest_47 rfl ?_
        refine V.i2l hC dX4_digest_50 ?_
        refine V.ladd hC dX4_digest_51 ?_
        refine V.lstore_n hC dX4_digest_52 rfl rfl ?_
        refine V.ldc2 hC klX4_167 dX4_digest_53 ?_
        refine V.lload_n hC dX4_digest_56 rfl ?_
        refine V.lmul hC dX4_digest_57 ?_
        refine V.aload_n hC dX4_digest_58 rfl ?_
        refine V.callV0i hC (c_X4_firstDamaged hG) mwX4_firstDamaged mlX4_182 (hG.at 0 rfl) rfl rfl ⟨rfl, rfl⟩ dX4_digest_59 rfl ?_
        refine V.i2l hC dX4_digest_62 ?_
        refine V.ladd hC dX4_digest_63 ?_
        refine V.lstore_n hC dX4_digest_64 rfl rfl ?_
        refine V.aload_n hC dX4_digest_65 rfl ?_
        refine gfX4_12 hG hC dX4_digest_66 ?_
        refine V.callV0i hC (c_X0_isRekeying (dk_disk1 hG)) mwX0_isRekeying mlX4_110 (dk_disk1 hG).s (dk_disk1 hG).k rfl ⟨rfl, rfl⟩ dX4_digest_69 rfl ?_
        refine V.if_eqB hC 99 dX4_digest_72 (by decide) (fun c_2 => ?_) (fun c_2 => ?_)
        · refine V.lload_n hC dX4_digest_99 rfl ?_
          exact V.lret hC (by first | (unfold xDigest; rw [if_pos (by assumption)]; rfl) | (unfold xDigest; rw [if_neg (by simp [*])]; rfl)) dX4_digest_100
        · refine V.ldc2 hC klX4_167 dX4_digest_75 ?_
          refine V.lload_n hC dX4_digest_78 rfl ?_
          refine V.lmul hC dX4_digest_79 ?_
          refine V.aload_n hC dX4_digest_80 rfl ?_
          refine V.callV0i hC (c_X4_zoneStart hG) mwX4_zoneStart mlX4_185 (hG.at 0 rfl) rfl rfl ⟨rfl, rfl⟩ dX4_digest_81 rfl ?_
          refine V.i2l hC dX4_digest_84 ?_
          refine V.ladd hC dX4_digest_85 ?_
          refine V.lstore_n hC dX4_digest_86 rfl rfl ?_
          refine V.ldc2 hC klX4_167 dX4_digest_87 ?_
          refine V.lload_n hC dX4_digest_90 rfl ?_
          refine V.lmul hC dX4_digest_91 ?_
          refine V.aload_n hC dX4_digest_92 rfl ?_
          refine V.callV0i hC (c_X4_stepsLeft hG) mwX4_stepsLeft mlX4_188 (hG.at 0 rfl) rfl rfl ⟨rfl, rfl⟩ dX4_digest_93 rfl ?_
          refine V.i2l hC dX4_digest_96 ?_
          refine V.ladd hC dX4_digest_97 ?_
          refine V.lstore_n hC dX4_digest_98 rfl rfl ?_
          refine V.lload_n hC dX4_digest_99 rfl ?_
          exact V.lret hC (by first | (unfold xDigest; rw [if_pos (by assumption)]; rfl) | (unfold xDigest; rw [if_neg (by simp [*])]; rfl)) dX4_digest_100
      · have hkl : k < 13 := by have := mt (dk_gek (k := k) (x := nI 13) (by omega)).mpr c_1; rw [ix_nI (by omega)] at this; omega
        refine V.ldc2 hC klX4_167 dX4_digest_12 ?_
        refine V.lload_n hC dX4_digest_15 rfl ?_
        refine V.lmul hC dX4_digest_16 ?_
        refine V.aload_n hC dX4_digest_17 rfl ?_
        refine V.iload_n hC dX4_digest_18 rfl ?_
        refine V.callV1i hC (c_X4_count hG) mwX4_count mlX4_169 (hG.at 0 rfl) rfl rfl ⟨rfl, rfl⟩ dX4_digest_19 rfl ?_
        refine V.i2l hC dX4_digest_22 ?_
        refine V.ladd hC dX4_digest_23 ?_
        refine V.lstore_n hC dX4_digest_24 rfl rfl ?_
        refine V.iinc hC dX4_digest_25 rfl (dk_incN _) rfl ?_
        refine V.goto hC 6 dX4_digest_28 (by decide) ?_
        exact V.sub (dk_sc rfl (dk_sc rfl (dk_sc rfl (dk_sn)))) (ih_6 (k + 1) (by omega) (by omega))
  refine V.ldc2 hC klX4_165 dX4_digest_0 ?_
  refine V.lstore_n hC dX4_digest_3 rfl rfl ?_
  refine V.iconst hC 0 dX4_digest_4 (by decide) ?_
  refine V.istore_n hC dX4_digest_5 rfl rfl ?_
  exact V.sub (dk_sc rfl (dk_sc rfl (dk_sc rfl (dk_sn)))) (loop_6 14 0 (Nat.zero_le _) (by omega))
