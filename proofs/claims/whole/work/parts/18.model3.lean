set_option maxHeartbeats 2000000 in
set_option maxRecDepth 20000 in
theorem c_X5_isNext {l : Launch} {G : dkG}  {M : dkM} (hG : dk_mdl G) {c : Int32} (ha : aI M) : dk_Con l yX5_isNext cX5_isNext 3 (some .boolean) 1 21 G [.ref (G.1 + 111), .int c] M (some (.int (bI (mNextB M c))), mNextM M c) := by
  refine dk_Con.of mwX5_isNext.1 (Nat.le_of_ble_eq_true rfl) (fun E hE hC => ?_)
  subst hE
  refine V.aload_n hC dX5_isNext_0 rfl ?_
  refine V.aload_n hC dX5_isNext_1 rfl ?_
  refine gfX5_163 hG hC dX5_isNext_2 ?_
  refine V.callV1i hC (c_X5_character hG ha.1 ha.c) mwX5_character mlX5_166 (hG.at 111 rfl) rfl rfl ⟨rfl, rfl⟩ dX5_isNext_5 rfl ?_
  refine V.iload_n hC dX5_isNext_8 rfl ?_
  refine V.icmp_ne hC 16 dX5_isNext_9 (by decide) (fun c_1 => ?_) (fun c_1 => ?_)
  · refine V.iconst hC 0 dX5_isNext_16 (by decide) ?_
    refine V.istore_n hC dX5_isNext_17 rfl rfl ?_
    refine V.aload_n hC dX5_isNext_18 rfl ?_
    refine V.dup hC dX5_isNext_19 rfl ?_
    refine gfX5_163 hG hC dX5_isNext_20 ?_
    refine V.iload_n hC dX5_isNext_23 rfl ?_
    refine V.if_eq_t hC 31 dX5_isNext_24 (by decide) (by decide) ?_
    refine V.iconst hC 0 dX5_isNext_31 (by decide) ?_
    refine V.iadd hC dX5_isNext_32 ?_
    refine pfX5_163 hG hC dX5_isNext_33 ?_
    refine V.iload_n hC dX5_isNext_36 rfl ?_
    exact V.zret hC (by first | (simp [mNextB, mNextM, bI, c_1]; done) | (simp_all [mNextB, mNextM, bI]; done)) (by decide) dX5_isNext_37
  · refine V.iconst hC 1 dX5_isNext_12 (by decide) ?_
    refine V.goto hC 17 dX5_isNext_13 (by decide) ?_
    refine V.istore_n hC dX5_isNext_17 rfl rfl ?_
    refine V.aload_n hC dX5_isNext_18 rfl ?_
    refine V.dup hC dX5_isNext_19 rfl ?_
    refine gfX5_163 hG hC dX5_isNext_20 ?_
    refine V.iload_n hC dX5_isNext_23 rfl ?_
    refine V.if_eq_f hC 31 dX5_isNext_24 (by decide) (by decide) ?_
    refine V.iconst hC 1 dX5_isNext_27 (by decide) ?_
    refine V.goto hC 32 dX5_isNext_28 (by decide) ?_
    refine V.iadd hC dX5_isNext_32 ?_
    refine pfX5_163 hG hC dX5_isNext_33 ?_
    refine V.iload_n hC dX5_isNext_36 rfl ?_
    exact V.zret hC (by first | (simp [mNextB, mNextM, bI, c_1]; done) | (simp_all [mNextB, mNextM, bI]; done)) (by decide) dX5_isNext_37
set_option maxHeartbeats 2000000 in
set_option maxRecDepth 20000 in
theorem c_X5_readsNumber {l : Launch} {G : dkG}  {M : dkM} (hG : dk_mdl G) (ha : aI M) : dk_Con l yX5_readsNumber cX5_readsNumber 2 (some .boolean) 1 22 G [.ref (G.1 + 111)] M (some (.int (bI (mRnB M))), (mRn M).2) := by
  refine dk_Con.of mwX5_readsNumber.1 (Nat.le_of_ble_eq_true rfl) (fun E hE hC => ?_)
  subst hE
  have loop_7 : ∀ (n : Nat) (k : Nat) (M1 : dkM), (aI M1) → (k ≤ 5) → (5 < k + n) → (mRnL (5 - k) M1 k = mRn M) →  V E G 2 (some (.int (bI (mRnB M))), (mRn M).2) (M1) 7 [(0, some (.ref (G.1 + 111))), (1, some (.int (nI k)))] [] := by
    intro n
    induction n with
    | zero => intro k M1 hA hk hn hT; exact absurd hn (by omega)
    | succ n ih_7 =>
      intro k M1 hA hk hn hT
      refine V.iload_n hC dX5_readsNumber_7 rfl ?_
      refine V.iconst hC 5 dX5_readsNumber_8 (by decide) ?_
      refine V.icmp_ge hC 69 dX5_readsNumber_9 (by decide) (fun c_1 => ?_) (fun c_1 => ?_)
      · have hke : k = 5 := by have := (dk_gek (k := k) (x := nI 5) (by omega)).mp c_1; rw [ix_nI (by omega)] at this; omega
        rw [hke, Nat.sub_self, mRnL] at hT
        refine V.iload_n hC dX5_readsNumber_69 rfl ?_
        refine V.if_le hC 77 dX5_readsNumber_70 (by decide) (fun c_2 => ?_) (fun c_2 => ?_)
        · have e0 : (0 : Int32).toInt = 0 := by decide
          have hk0 : k = 0 := by have := tI_le.mp c_2; rw [nI_toInt (by omega)] at this; omega
          refine V.iconst hC 0 dX5_readsNumber_77 (by decide) ?_
          exact V.zret hC (by first | (exfalso; omega) | (simp [mRnB, ← hT, hk0, bI]; done) | (simp [mRnB, ← hT, hke, bI]; done)) (by decide) dX5_readsNumber_78
        · have e0 : (0 : Int32).toInt = 0 := by decide
          have hk0 : ¬ k = 0 := by intro z; exact c_2 (by rw [z]; decide)
          refine V.iconst hC 1 dX5_readsNumber_73 (by decide) ?_
          refine V.goto hC 78 dX5_readsNumber_74 (by decide) ?_
          exact V.zret hC (by first | (exfalso; omega) | (simp [mRnB, ← hT, hk0, bI]; done) | (simp [mRnB, ← hT, hke, bI]; done)) (by decide) dX5_readsNumber_78
      · have hkl : k < 5 := by have := mt (dk_gek (k := k) (x := nI 5) (by omega)).mpr c_1; rw [ix_nI (by omega)] at this; omega
        refine V.aload_n hC dX5_readsNumber_12 rfl ?_
        refine V.aload_n hC dX5_readsNumber_13 rfl ?_
        refine gfX5_163 hG hC dX5_readsNumber_14 ?_
        refine V.callV1i hC (c_X5_character hG hA.1 hA.c) mwX5_character mlX5_166 (hG.at 111 rfl) rfl rfl ⟨rfl, rfl⟩ dX5_readsNumber_17 rfl ?_
        refine V.bipush hC 48 dX5_readsNumber_20 (by decide) ?_
        refine V.bipush hC 57 dX5_readsNumber_22 (by decide) ?_
        refine V.callS3i hC (c_X5_within) mwX5_within mlX5_52 ⟨rfl, rfl⟩ dX5_readsNumber_24 rfl ?_
        refine V.if_eqB hC 69 dX5_readsNumber_27 (by decide) (fun c_2 => ?_) (fun c_2 => ?_)
        · rw [show 5 - k = 5 - (k + 1) + 1 by omega, mRnL, if_neg (by rw [c_2]; decide)] at hT
          refine V.iload_n hC dX5_readsNumber_69 rfl ?_
          refine V.if_le hC 77 dX5_readsNumber_70 (by decide) (fun c_3 => ?_) (fun c_3 => ?_)
          · have e0 : (0 : Int32).toInt = 0 := by decide
            have hk0 : k = 0 := by have := tI_le.mp c_3; rw [nI_toInt (by omega)] at this; omega
            refine V.iconst hC 0 dX5_readsNumber_77 (by decide) ?_
            exact V.zret hC (by first | (exfalso; omega) | (simp [mRnB, ← hT, hk0, bI]; done) | (simp [mRnB, ← hT, hke, bI]; done)) (by decide) dX5_readsNumber_78
          · have e0 : (0 : Int32).toInt = 0 := by decide
            have hk0 : ¬ k = 0 := by intro z; exact c_3 (by rw [z]; decide)
            refine V.iconst hC 1 dX5_readsNumber_73 (by decide) ?_
            refine V.goto hC 78 dX5_readsNumber_74 (by decide) ?_
            exact V.zret hC (by first | (exfalso; omega) | (simp [mRnB, ← hT, hk0, bI]; done) | (simp [mRnB, ← hT, hke, bI]; done)) (by decide) dX5_readsNumber_78
        · refine V.aload_n hC dX5_readsNumber_30 rfl ?_
          refine V.bipush hC 10 dX5_readsNumber_31 (by decide) ?_
          refine V.aload_n hC dX5_readsNumber_33 rfl ?_
          refine gfX5_169 hG hC dX5_readsNumber_34 ?_
          refine V.imul hC dX5_readsNumber_37 ?_
          refine V.aload_n hC dX5_readsNumber_38 rfl ?_
          refine V.aload_n hC dX5_readsNumber_39 rfl ?_
          refine gfX5_163 hG hC dX5_readsNumber_40 ?_
          refine V.callV1i hC (c_X5_character hG hA.1 hA.c) mwX5_character mlX5_166 (hG.at 111 rfl) rfl rfl ⟨rfl, rfl⟩ dX5_readsNumber_43 rfl ?_
          refine V.iadd hC dX5_readsNumber_46 ?_
          refine V.bipush hC 48 dX5_readsNumber_47 (by decide) ?_
          refine V.isub hC dX5_readsNumber_49 ?_
          refine pfX5_169 hG hC dX5_readsNumber_50 ?_
          refine V.iinc hC dX5_readsNumber_53 rfl (dk_incN _) rfl ?_
          refine V.aload_n hC dX5_readsNumber_56 rfl ?_
          refine V.dup hC dX5_readsNumber_57 rfl ?_
          refine gfX5_163 hG hC dX5_readsNumber_58 ?_
          refine V.iconst hC 1 dX5_readsNumber_61 (by decide) ?_
          refine V.iadd hC dX5_readsNumber_62 ?_
          refine pfX5_163 hG hC dX5_readsNumber_63 ?_
          refine V.goto hC 7 dX5_readsNumber_66 (by decide) ?_
          exact V.sub (dk_sc rfl (dk_sc rfl (dk_sn))) (ih_7 (k + 1) (mRnS M1) (mRnS_a hA c_2).1 (by omega) (by omega) (by rw [show 5 - k = 5 - (k + 1) + 1 by omega, mRnL, if_pos c_2] at hT; exact hT))
  refine V.aload_n hC dX5_readsNumber_0 rfl ?_
  refine V.iconst hC 0 dX5_readsNumber_1 (by decide) ?_
  refine pfX5_169 hG hC dX5_readsNumber_2 ?_
  refine V.iconst hC 0 dX5_readsNumber_5 (by decide) ?_
  refine V.istore_n hC dX5_readsNumber_6 rfl rfl ?_
  exact V.sub (dk_sc rfl (dk_sc rfl (dk_sn))) (loop_7 6 0 _ (aI_same ha (put_k (by decide)) (put_k (by decide))) (Nat.zero_le _) (by omega) rfl)
set_option maxHeartbeats 2000000 in
set_option maxRecDepth 20000 in
theorem c_X5_readsCommand {l : Launch} {G : dkG}  {M : dkM} (hG : dk_mdl G) (ha : aI M) : dk_Con l yX5_readsCommand cX5_readsCommand 2 (some .boolean) 2 43 G [.ref (G.1 + 111)] M (some (.int (bI (mCmd M).1)), (mCmd M).2) := by
  refine dk_Con.of mwX5_readsCommand.1 (Nat.le_of_ble_eq_true rfl) (fun E hE hC => ?_)
  subst hE
  refine V.aload_n hC dX5_readsCommand_0 rfl ?_
  refine V.aload_n hC dX5_readsCommand_1 rfl ?_
  refine V.aload_n hC dX5_readsCommand_2 rfl ?_
  refine gfX5_163 hG hC dX5_readsCommand_3 ?_
  refine V.callV1i hC (c_X5_character hG ha.1 ha.c) mwX5_character mlX5_166 (hG.at 111 rfl) rfl rfl ⟨rfl, rfl⟩ dX5_readsCommand_6 rfl ?_
  refine pfX5_172 hG hC dX5_readsCommand_9 ?_
  refine V.eqM (M' := mLet M) rfl ?_
  have hsp : mLet M 111 9 = 119 ∨ mLet M 111 9 = 102 ∨ mLet M 111 9 = 115 ∨ mLet M 111 9 = 120 ∨ mLet M 111 9 = 98 ∨ (mLet M 111 9 ≠ 119 ∧ mLet M 111 9 ≠ 102 ∧ mLet M 111 9 ≠ 115 ∧ mLet M 111 9 ≠ 120 ∧ mLet M 111 9 ≠ 98) := by
    by_cases q1 : mLet M 111 9 = 119
    · exact Or.inl q1
    · by_cases q2 : mLet M 111 9 = 102
      · exact Or.inr (Or.inl q2)
      · by_cases q3 : mLet M 111 9 = 115
        · exact Or.inr (Or.inr (Or.inl q3))
        · by_cases q4 : mLet M 111 9 = 120
          · exact Or.inr (Or.inr (Or.inr (Or.inl q4)))
          · by_cases q5 : mLet M 111 9 = 98
            · exact Or.inr (Or.inr (Or.inr (Or.inr (Or.inl q5))))
            · exact Or.inr (Or.inr (Or.inr (Or.inr (Or.inr ⟨q1, q2, q3, q4, q5⟩))))
  rcases hsp with hL | hL | hL | hL | hL | hL
  · refine V.aload_n hC dX5_readsCommand_12 rfl ?_
    refine gfX5_172 hG hC dX5_readsCommand_13 ?_
    refine V.top (x' := .int 119) (congrArg Value.int hL) ?_
    refine V.bipush hC 119 dX5_readsCommand_16 (by decide) ?_
    refine V.icmp_eq_t hC 59 dX5_readsCommand_18 (by decide) (by decide) ?_
    refine V.aload_n hC dX5_readsCommand_59 rfl ?_
    refine V.dup hC dX5_readsCommand_60 rfl ?_
    refine gfX5_163 hG hC dX5_readsCommand_61 ?_
    refine V.iconst hC 1 dX5_readsCommand_64 (by decide) ?_
    refine V.iadd hC dX5_readsCommand_65 ?_
    refine pfX5_163 hG hC dX5_readsCommand_66 ?_
    refine V.eqM (M' := mAt1 M) rfl ?_
    have h2 : mAt1 M 111 9 = _ := (show mAt1 M 111 9 = mLet M 111 9 from put_k (by decide)).trans hL
    have hA1 : aI (mAt1 M) := (mAt1_a ha (by rw [hL]; decide)).1
    refine V.aload_n hC dX5_readsCommand_69 rfl ?_
    refine gfX5_172 hG hC dX5_readsCommand_70 ?_
    refine V.top (x' := .int 119) (congrArg Value.int h2) ?_
    refine V.bipush hC 119 dX5_readsCommand_73 (by decide) ?_
    refine V.icmp_eq_t hC 87 dX5_readsCommand_75 (by decide) (by decide) ?_
    refine V.aload_n hC dX5_readsCommand_87 rfl ?_
    refine V.callV0i hC (c_X5_readsNumber hG hA1) mwX5_readsNumber mlX5_175 (hG.at 111 rfl) rfl rfl ⟨rfl, rfl⟩ dX5_readsCommand_88 rfl ?_
    refine V.if_eqB hC 98 dX5_readsCommand_91 (by decide) (fun c_1 => ?_) (fun c_1 => ?_)
    · refine V.iconst hC 0 dX5_readsCommand_98 (by decide) ?_
      refine V.istore_n hC dX5_readsCommand_99 rfl rfl ?_
      refine V.aload_n hC dX5_readsCommand_100 rfl ?_
      refine V.aload_n hC dX5_readsCommand_101 rfl ?_
      refine gfX5_169 hG hC dX5_readsCommand_102 ?_
      refine pfX5_178 hG hC dX5_readsCommand_105 ?_
      refine V.eqM (M' := mOne _) rfl ?_
      refine V.iload_n hC dX5_readsCommand_108 rfl ?_
      refine V.if_eq_t hC 141 dX5_readsCommand_109 (by decide) (by decide) ?_
      refine V.iconst hC 0 dX5_readsCommand_141 (by decide) ?_
      refine V.istore_n hC dX5_readsCommand_142 rfl rfl ?_
      refine V.aload_n hC dX5_readsCommand_143 rfl ?_
      refine V.aload_n hC dX5_readsCommand_144 rfl ?_
      refine gfX5_169 hG hC dX5_readsCommand_145 ?_
      refine pfX5_184 hG hC dX5_readsCommand_148 ?_
      refine V.eqM (M' := mTwo _) rfl ?_
      refine V.iload_n hC dX5_readsCommand_151 rfl ?_
      exact V.zret hC (by first | (rw [mCmd, if_pos hL, mCmdW, if_neg (by rw [c_1]; decide)]; rfl) | (rw [mCmd, if_pos hL, mCmdW, if_pos c_1, if_neg (by rw [c_2]; decide)]; rfl) | (rw [mCmd, if_pos hL, mCmdW, if_pos c_1, if_pos c_2]; dsimp only; rw [c_3]; rfl) | (rw [mCmd, if_neg (by rw [hL]; decide), if_pos hL]; dsimp only; rw [c_1]; rfl) | (rw [mCmd, if_neg (by rw [hL]; decide), if_neg (by rw [hL]; decide), if_pos (by rw [hL]; decide)]; rfl) | (rw [mCmd, if_neg hL.1, if_neg hL.2.2.1, if_neg (by rintro (z | z | z); exact hL.2.1 z; exact hL.2.2.2.1 z; exact hL.2.2.2.2 z)]; rfl)) (by decide) dX5_readsCommand_152
    · refine V.iconst hC 1 dX5_readsCommand_94 (by decide) ?_
      refine V.goto hC 99 dX5_readsCommand_95 (by decide) ?_
      refine V.istore_n hC dX5_readsCommand_99 rfl rfl ?_
      refine V.aload_n hC dX5_readsCommand_100 rfl ?_
      refine V.aload_n hC dX5_readsCommand_101 rfl ?_
      refine gfX5_169 hG hC dX5_readsCommand_102 ?_
      refine pfX5_178 hG hC dX5_readsCommand_105 ?_
      refine V.eqM (M' := mOne _) rfl ?_
      refine V.iload_n hC dX5_readsCommand_108 rfl ?_
      refine V.if_eq_f hC 141 dX5_readsCommand_109 (by decide) (by decide) ?_
      have h3 : mOne (mRn (mAt1 M)).2 111 9 = _ := (show mOne (mRn (mAt1 M)).2 111 9 = (mRn (mAt1 M)).2 111 9 from put_k (by decide)).trans ((mRn_9 _).trans h2)
      have h4 : mOne (mAt1 M) 111 9 = _ := (show mOne (mAt1 M) 111 9 = mAt1 M 111 9 from put_k (by decide)).trans h2
      refine V.aload_n hC dX5_readsCommand_112 rfl ?_
      refine gfX5_172 hG hC dX5_readsCommand_113 ?_
      refine V.top (x' := .int 119) (by first | exact congrArg Value.int h3 | exact congrArg Value.int h4) ?_
      refine V.bipush hC 119 dX5_readsCommand_116 (by decide) ?_
      refine V.icmp_ne_f hC 137 dX5_readsCommand_118 (by decide) (by decide) ?_
      refine V.aload_n hC dX5_readsCommand_121 rfl ?_
      refine V.bipush hC 61 dX5_readsCommand_122 (by decide) ?_
      refine V.callV1i hC (c_X5_isNext hG (mOne_a (mRn_a hA1).1)) mwX5_isNext mlX5_181 (hG.at 111 rfl) rfl rfl ⟨rfl, rfl⟩ dX5_readsCommand_124 rfl ?_
      refine V.if_eqB hC 141 dX5_readsCommand_127 (by decide) (fun c_2 => ?_) (fun c_2 => ?_)
      · refine V.iconst hC 0 dX5_readsCommand_141 (by decide) ?_
        refine V.istore_n hC dX5_readsCommand_142 rfl rfl ?_
        refine V.aload_n hC dX5_readsCommand_143 rfl ?_
        refine V.aload_n hC dX5_readsCommand_144 rfl ?_
        refine gfX5_169 hG hC dX5_readsCommand_145 ?_
        refine pfX5_184 hG hC dX5_readsCommand_148 ?_
        refine V.eqM (M' := mTwo _) rfl ?_
        refine V.iload_n hC dX5_readsCommand_151 rfl ?_
        exact V.zret hC (by first | (rw [mCmd, if_pos hL, mCmdW, if_neg (by rw [c_1]; decide)]; rfl) | (rw [mCmd, if_pos hL, mCmdW, if_pos c_1, if_neg (by rw [c_2]; decide)]; rfl) | (rw [mCmd, if_pos hL, mCmdW, if_pos c_1, if_pos c_2]; dsimp only; rw [c_3]; rfl) | (rw [mCmd, if_neg (by rw [hL]; decide), if_pos hL]; dsimp only; rw [c_1]; rfl) | (rw [mCmd, if_neg (by rw [hL]; decide), if_neg (by rw [hL]; decide), if_pos (by rw [hL]; decide)]; rfl) | (rw [mCmd, if_neg hL.1, if_neg hL.2.2.1, if_neg (by rintro (z | z | z); exact hL.2.1 z; exact hL.2.2.2.1 z; exact hL.2.2.2.2 z)]; rfl)) (by decide) dX5_readsCommand_152
      · refine V.aload_n hC dX5_readsCommand_130 rfl ?_
        refine V.callV0i hC (c_X5_readsNumber hG (mNextM_a (c := 61) (mOne_a (mRn_a hA1).1) (by decide)).1) mwX5_readsNumber mlX5_175 (hG.at 111 rfl) rfl rfl ⟨rfl, rfl⟩ dX5_readsCommand_131 rfl ?_
        refine V.if_eqB hC 141 dX5_readsCommand_134 (by decide) (fun c_3 => ?_) (fun c_3 => ?_)
        · refine V.iconst hC 0 dX5_readsCommand_141 (by decide) ?_
          refine V.istore_n hC dX5_readsCommand_142 rfl rfl ?_
          refine V.aload_n hC dX5_readsCommand_143 rfl ?_
          refine V.aload_n hC dX5_readsCommand_144 rfl ?_
          refine gfX5_169 hG hC dX5_readsCommand_145 ?_
          refine pfX5_184 hG hC dX5_readsCommand_148 ?_
          refine V.eqM (M' := mTwo _) rfl ?_
          refine V.iload_n hC dX5_readsCommand_151 rfl ?_
          exact V.zret hC (by first | (rw [mCmd, if_pos hL, mCmdW, if_neg (by rw [c_1]; decide)]; rfl) | (rw [mCmd, if_pos hL, mCmdW, if_pos c_1, if_neg (by rw [c_2]; decide)]; rfl) | (rw [mCmd, if_pos hL, mCmdW, if_pos c_1, if_pos c_2]; dsimp only; rw [c_3]; rfl) | (rw [mCmd, if_neg (by rw [hL]; decide), if_pos hL]; dsimp only; rw [c_1]; rfl) | (rw [mCmd, if_neg (by rw [hL]; decide), if_neg (by rw [hL]; decide), if_pos (by rw [hL]; decide)]; rfl) | (rw [mCmd, if_neg hL.1, if_neg hL.2.2.1, if_neg (by rintro (z | z | z); exact hL.2.1 z; exact hL.2.2.2.1 z; exact hL.2.2.2.2 z)]; rfl)) (by decide) dX5_readsCommand_152
        · refine V.iconst hC 1 dX5_readsCommand_137 (by decide) ?_
          refine V.goto hC 142 dX5_readsCommand_138 (by decide) ?_
          refine V.istore_n hC dX5_readsCommand_142 rfl rfl ?_
          refine V.aload_n hC dX5_readsCommand_143 rfl ?_
          refine V.aload_n hC dX5_readsCommand_144 rfl ?_
          refine gfX5_169 hG hC dX5_readsCommand_145 ?_
          refine pfX5_184 hG hC dX5_readsCommand_148 ?_
          refine V.eqM (M' := mTwo _) rfl ?_
          refine V.iload_n hC dX5_readsCommand_151 rfl ?_
          exact V.zret hC (by first | (rw [mCmd, if_pos hL, mCmdW, if_neg (by rw [c_1]; decide)]; rfl) | (rw [mCmd, if_pos hL, mCmdW, if_pos c_1, if_neg (by rw [c_2]; decide)]; rfl) | (rw [mCmd, if_pos hL, mCmdW, if_pos c_1, if_pos c_2]; dsimp only; rw [c_3]; rfl) | (rw [mCmd, if_neg (by rw [hL]; decide), if_pos hL]; dsimp only; rw [c_1]; rfl) | (rw [mCmd, if_neg (by rw [hL]; decide), if_neg (by rw [hL]; decide), if_pos (by rw [hL]; decide)]; rfl) | (rw [mCmd, if_neg hL.1, if_neg hL.2.2.1, if_neg (by rintro (z | z | z); exact hL.2.1 z; exact hL.2.2.2.1 z; exact hL.2.2.2.2 z)]; rfl)) (by decide) dX5_readsCommand_152
  · refine V.aload_n hC dX5_readsCommand_12 rfl ?_
    refine gfX5_172 hG hC dX5_readsCommand_13 ?_
    refine V.top (x' := .int 102) (congrArg Value.int hL) ?_
    refine V.bipush hC 119 dX5_readsCommand_16 (by decide) ?_
    refine V.icmp_eq_f hC 59 dX5_readsCommand_18 (by decide) (by decide) ?_
    refine V.aload_n hC dX5_readsCommand_21 rfl ?_
    refine gfX5_172 hG hC dX5_readsCommand_22 ?_
    refine V.top (x' := .int 102) (congrArg Value.int hL) ?_
    refine V.bipush hC 102 dX5_readsCommand_25 (by decide) ?_
    refine V.icmp_eq_t hC 59 dX5_readsCommand_27 (by decide) (by decide) ?_
    refine V.aload_n hC dX5_readsCommand_59 rfl ?_
    refine V.dup hC dX5_readsCommand_60 rfl ?_
    refine gfX5_163 hG hC dX5_readsCommand_61 ?_
    refine V.iconst hC 1 dX5_readsCommand_64 (by decide) ?_
    refine V.iadd hC dX5_readsCommand_65 ?_
    refine pfX5_163 hG hC dX5_readsCommand_66 ?_
    refine V.eqM (M' := mAt1 M) rfl ?_
    have h2 : mAt1 M 111 9 = _ := (show mAt1 M 111 9 = mLet M 111 9 from put_k (by decide)).trans hL
    have hA1 : aI (mAt1 M) := (mAt1_a ha (by rw [hL]; decide)).1
    refine V.aload_n hC dX5_readsCommand_69 rfl ?_
    refine gfX5_172 hG hC dX5_readsCommand_70 ?_
    refine V.top (x' := .int 102) (congrArg Value.int h2) ?_
    refine V.bipush hC 119 dX5_readsCommand_73 (by decide) ?_
    refine V.icmp_eq_f hC 87 dX5_readsCommand_75 (by decide) (by decide) ?_
    refine V.aload_n hC dX5_readsCommand_78 rfl ?_
    refine gfX5_172 hG hC dX5_readsCommand_79 ?_
    refine V.top (x' := .int 102) (congrArg Value.int h2) ?_
    refine V.bipush hC 115 dX5_readsCommand_82 (by decide) ?_
    refine V.icmp_ne_t hC 94 dX5_readsCommand_84 (by decide) (by decide) ?_
    refine V.iconst hC 1 dX5_readsCommand_94 (by decide) ?_
    refine V.goto hC 99 dX5_readsCommand_95 (by decide) ?_
    refine V.istore_n hC dX5_readsCommand_99 rfl rfl ?_
    refine V.aload_n hC dX5_readsCommand_100 rfl ?_
    refine V.aload_n hC dX5_readsCommand_101 rfl ?_
    refine gfX5_169 hG hC dX5_readsCommand_102 ?_
    refine pfX5_178 hG hC dX5_readsCommand_105 ?_
    refine V.eqM (M' := mOne _) rfl ?_
    refine V.iload_n hC dX5_readsCommand_108 rfl ?_
    refine V.if_eq_f hC 141 dX5_readsCommand_109 (by decide) (by decide) ?_
    have h3 : mOne (mRn (mAt1 M)).2 111 9 = _ := (show mOne (mRn (mAt1 M)).2 111 9 = (mRn (mAt1 M)).2 111 9 from put_k (by decide)).trans ((mRn_9 _).trans h2)
    have h4 : mOne (mAt1 M) 111 9 = _ := (show mOne (mAt1 M) 111 9 = mAt1 M 111 9 from put_k (by decide)).trans h2
    refine V.aload_n hC dX5_readsCommand_112 rfl ?_
    refine gfX5_172 hG hC dX5_readsCommand_113 ?_
    refine V.top (x' := .int 102) (by first | exact congrArg Value.int h3 | exact congrArg Value.int h4) ?_
    refine V.bipush hC 119 dX5_readsCommand_116 (by decide) ?_
    refine V.icmp_ne_t hC 137 dX5_readsCommand_118 (by decide) (by decide) ?_
    refine V.iconst hC 1 dX5_readsCommand_137 (by decide) ?_
    refine V.goto hC 142 dX5_readsCommand_138 (by decide) ?_
    refine V.istore_n hC dX5_readsCommand_142 rfl rfl ?_
    refine V.aload_n hC dX5_readsCommand_143 rfl ?_
    refine V.aload_n hC dX5_readsCommand_144 rfl ?_
    refine gfX5_169 hG hC dX5_readsCommand_145 ?_
    refine pfX5_184 hG hC dX5_readsCommand_148 ?_
    refine V.eqM (M' := mTwo _) rfl ?_
    refine V.iload_n hC dX5_readsCommand_151 rfl ?_
    exact V.zret hC (by first | (rw [mCmd, if_pos hL, mCmdW, if_neg (by rw [c_1]; decide)]; rfl) | (rw [mCmd, if_pos hL, mCmdW, if_pos c_1, if_neg (by rw [c_2]; decide)]; rfl) | (rw [mCmd, if_pos hL, mCmdW, if_pos c_1, if_pos c_2]; dsimp only; rw [c_3]; rfl) | (rw [mCmd, if_neg (by rw [hL]; decide), if_pos hL]; dsimp only; rw [c_1]; rfl) | (rw [mCmd, if_neg (by rw [hL]; decide), if_neg (by rw [hL]; decide), if_pos (by rw [hL]; decide)]; rfl) | (rw [mCmd, if_neg hL.1, if_neg hL.2.2.1, if_neg (by rintro (z | z | z); exact hL.2.1 z; exact hL.2.2.2.1 z; exact hL.2.2.2.2 z)]; rfl)) (by decide) dX5_readsCommand_152
  · refine V.aload_n hC dX5_readsCommand_12 rfl ?_
    refine gfX5_172 hG hC dX5_readsCommand_13 ?_
    refine V.top (x' := .int 115) (congrArg Value.int hL) ?_
    refine V.bipush hC 119 dX5_readsCommand_16 (by decide) ?_
    refine V.icmp_eq_f hC 59 dX5_readsCommand_18 (by decide) (by decide) ?_
    refine V.aload_n hC dX5_readsCommand_21 rfl ?_
    refine gfX5_172 hG hC dX5_readsCommand_22 ?_
    refine V.top (x' := .int 115) (congrArg Value.int hL) ?_
    refine V.bipush hC 102 dX5_readsCommand_25 (by decide) ?_
    refine V.icmp_eq_f hC 59 dX5_readsCommand_27 (by decide) (by decide) ?_
    refine V.aload_n hC dX5_readsCommand_30 rfl ?_
    refine gfX5_172 hG hC dX5_readsCommand_31 ?_
    refine V.top (x' := .int 115) (congrArg Value.int hL) ?_
    refine V.bipush hC 115 dX5_readsCommand_34 (by decide) ?_
    refine V.icmp_eq_t hC 59 dX5_readsCommand_36 (by decide) (by decide) ?_
    refine V.aload_n hC dX5_readsCommand_59 rfl ?_
    refine V.dup hC dX5_readsCommand_60 rfl ?_
    refine gfX5_163 hG hC dX5_readsCommand_61 ?_
    refine V.iconst hC 1 dX5_readsCommand_64 (by decide) ?_
    refine V.iadd hC dX5_readsCommand_65 ?_
    refine pfX5_163 hG hC dX5_readsCommand_66 ?_
    refine V.eqM (M' := mAt1 M) rfl ?_
    have h2 : mAt1 M 111 9 = _ := (show mAt1 M 111 9 = mLet M 111 9 from put_k (by decide)).trans hL
    have hA1 : aI (mAt1 M) := (mAt1_a ha (by rw [hL]; decide)).1
    refine V.aload_n hC dX5_readsCommand_69 rfl ?_
    refine gfX5_172 hG hC dX5_readsCommand_70 ?_
    refine V.top (x' := .int 115) (congrArg Value.int h2) ?_
    refine V.bipush hC 119 dX5_readsCommand_73 (by decide) ?_
    refine V.icmp_eq_f hC 87 dX5_readsCommand_75 (by decide) (by decide) ?_
    refine V.aload_n hC dX5_readsCommand_78 rfl ?_
    refine gfX5_172 hG hC dX5_readsCommand_79 ?_
    refine V.top (x' := .int 115) (congrArg Value.int h2) ?_
    refine V.bipush hC 115 dX5_readsCommand_82 (by decide) ?_
    refine V.icmp_ne_f hC 94 dX5_readsCommand_84 (by decide) (by decide) ?_
    refine V.aload_n hC dX5_readsCommand_87 rfl ?_
    refine V.callV0i hC (c_X5_readsNumber hG hA1) mwX5_readsNumber mlX5_175 (hG.at 111 rfl) rfl rfl ⟨rfl, rfl⟩ dX5_readsCommand_88 rfl ?_
    refine V.if_eqB hC 98 dX5_readsCommand_91 (by decide) (fun c_1 => ?_) (fun c_1 => ?_)
    · refine V.iconst hC 0 dX5_readsCommand_98 (by decide) ?_
      refine V.istore_n hC dX5_readsCommand_99 rfl rfl ?_
      refine V.aload_n hC dX5_readsCommand_100 rfl ?_
      refine V.aload_n hC dX5_readsCommand_101 rfl ?_
      refine gfX5_169 hG hC dX5_readsCommand_102 ?_
      refine pfX5_178 hG hC dX5_readsCommand_105 ?_
      refine V.eqM (M' := mOne _) rfl ?_
      refine V.iload_n hC dX5_readsCommand_108 rfl ?_
      refine V.if_eq_t hC 141 dX5_readsCommand_109 (by decide) (by decide) ?_
      refine V.iconst hC 0 dX5_readsCommand_141 (by decide) ?_
      refine V.istore_n hC dX5_readsCommand_142 rfl rfl ?_
      refine V.aload_n hC dX5_readsCommand_143 rfl ?_
      refine V.aload_n hC dX5_readsCommand_144 rfl ?_
      refine gfX5_169 hG hC dX5_readsCommand_145 ?_
      refine pfX5_184 hG hC dX5_readsCommand_148 ?_
      refine V.eqM (M' := mTwo _) rfl ?_
      refine V.iload_n hC dX5_readsCommand_151 rfl ?_
      exact V.zret hC (by first | (rw [mCmd, if_pos hL, mCmdW, if_neg (by rw [c_1]; decide)]; rfl) | (rw [mCmd, if_pos hL, mCmdW, if_pos c_1, if_neg (by rw [c_2]; decide)]; rfl) | (rw [mCmd, if_pos hL, mCmdW, if_pos c_1, if_pos c_2]; dsimp only; rw [c_3]; rfl) | (rw [mCmd, if_neg (by rw [hL]; decide), if_pos hL]; dsimp only; rw [c_1]; rfl) | (rw [mCmd, if_neg (by rw [hL]; decide), if_neg (by rw [hL]; decide), if_pos (by rw [hL]; decide)]; rfl) | (rw [mCmd, if_neg hL.1, if_neg hL.2.2.1, if_neg (by rintro (z | z | z); exact hL.2.1 z; exact hL.2.2.2.1 z; exact hL.2.2.2.2 z)]; rfl)) (by decide) dX5_readsCommand_152
    · refine V.iconst hC 1 dX5_readsCommand_94 (by decide) ?_
      refine V.goto hC 99 dX5_readsCommand_95 (by decide) ?_
      refine V.istore_n hC dX5_readsCommand_99 rfl rfl ?_
      refine V.aload_n hC dX5_readsCommand_100 rfl ?_
      refine V.aload_n hC dX5_readsCommand_101 rfl ?_
      refine gfX5_169 hG hC dX5_readsCommand_102 ?_
      refine pfX5_178 hG hC dX5_readsCommand_105 ?_
      refine V.eqM (M' := mOne _) rfl ?_
      refine V.iload_n hC dX5_readsCommand_108 rfl ?_
      refine V.if_eq_f hC 141 dX5_readsCommand_109 (by decide) (by decide) ?_
      have h3 : mOne (mRn (mAt1 M)).2 111 9 = _ := (show mOne (mRn (mAt1 M)).2 111 9 = (mRn (mAt1 M)).2 111 9 from put_k (by decide)).trans ((mRn_9 _).trans h2)
      have h4 : mOne (mAt1 M) 111 9 = _ := (show mOne (mAt1 M) 111 9 = mAt1 M 111 9 from put_k (by decide)).trans h2
      refine V.aload_n hC dX5_readsCommand_112 rfl ?_
      refine gfX5_172 hG hC dX5_readsCommand_113 ?_
      refine V.top (x' := .int 115) (by first | exact congrArg Value.int h3 | exact congrArg Value.int h4) ?_
      refine V.bipush hC 119 dX5_readsCommand_116 (by decide) ?_
      refine V.icmp_ne_t hC 137 dX5_readsCommand_118 (by decide) (by decide) ?_
      refine V.iconst hC 1 dX5_readsCommand_137 (by decide) ?_
      refine V.goto hC 142 dX5_readsCommand_138 (by decide) ?_
      refine V.istore_n hC dX5_readsCommand_142 rfl rfl ?_
      refine V.aload_n hC dX5_readsCommand_143 rfl ?_
      refine V.aload_n hC dX5_readsCommand_144 rfl ?_
      refine gfX5_169 hG hC dX5_readsCommand_145 ?_
      refine pfX5_184 hG hC dX5_readsCommand_148 ?_
      refine V.eqM (M' := mTwo _) rfl ?_
      refine V.iload_n hC dX5_readsCommand_151 rfl ?_
      exact V.zret hC (by first | (rw [mCmd, if_pos hL, mCmdW, if_neg (by rw [c_1]; decide)]; rfl) | (rw [mCmd, if_pos hL, mCmdW, if_pos c_1, if_neg (by rw [c_2]; decide)]; rfl) | (rw [mCmd, if_pos hL, mCmdW, if_pos c_1, if_pos c_2]; dsimp only; rw [c_3]; rfl) | (rw [mCmd, if_neg (by rw [hL]; decide), if_pos hL]; dsimp only; rw [c_1]; rfl) | (rw [mCmd, if_neg (by rw [hL]; decide), if_neg (by rw [hL]; decide), if_pos (by rw [hL]; decide)]; rfl) | (rw [mCmd, if_neg hL.1, if_neg hL.2.2.1, if_neg (by rintro (z | z | z); exact hL.2.1 z; exact hL.2.2.2.1 z; exact hL.2.2.2.2 z)]; rfl)) (by decide) dX5_readsCommand_152
  · refine V.aload_n hC dX5_readsCommand_12 rfl ?_
    refine gfX5_172 hG hC dX5_readsCommand_13 ?_
    refine V.top (x' := .int 120) (congrArg Value.int hL) ?_
    refine V.bipush hC 119 dX5_readsCommand_16 (by decide) ?_
    refine V.icmp_eq_f hC 59 dX5_readsCommand_18 (by decide) (by decide) ?_
    refine V.aload_n hC dX5_readsCommand_21 rfl ?_
    refine gfX5_172 hG hC dX5_readsCommand_22 ?_
    refine V.top (x' := .int 120) (congrArg Value.int hL) ?_
    refine V.bipush hC 102 dX5_readsCommand_25 (by decide) ?_
    refine V.icmp_eq_f hC 59 dX5_readsCommand_27 (by decide) (by decide) ?_
    refine V.aload_n hC dX5_readsCommand_30 rfl ?_
    refine gfX5_172 hG hC dX5_readsCommand_31 ?_
    refine V.top (x' := .int 120) (congrArg Value.int hL) ?_
    refine V.bipush hC 115 dX5_readsCommand_34 (by decide) ?_
    refine V.icmp_eq_f hC 59 dX5_readsCommand_36 (by decide) (by decide) ?_
    refine V.aload_n hC dX5_readsCommand_39 rfl ?_
    refine gfX5_172 hG hC dX5_readsCommand_40 ?_
    refine V.top (x' := .int 120) (congrArg Value.int hL) ?_
    refine V.bipush hC 120 dX5_readsCommand_43 (by decide) ?_
    refine V.icmp_eq_t hC 59 dX5_readsCommand_45 (by decide) (by decide) ?_
    refine V.aload_n hC dX5_readsCommand_59 rfl ?_
    refine V.dup hC dX5_readsCommand_60 rfl ?_
    refine gfX5_163 hG hC dX5_readsCommand_61 ?_
    refine V.iconst hC 1 dX5_readsCommand_64 (by decide) ?_
    refine V.iadd hC dX5_readsCommand_65 ?_
    refine pfX5_163 hG hC dX5_readsCommand_66 ?_
    refine V.eqM (M' := mAt1 M) rfl ?_
    have h2 : mAt1 M 111 9 = _ := (show mAt1 M 111 9 = mLet M 111 9 from put_k (by decide)).trans hL
    have hA1 : aI (mAt1 M) := (mAt1_a ha (by rw [hL]; decide)).1
    refine V.aload_n hC dX5_readsCommand_69 rfl ?_
    refine gfX5_172 hG hC dX5_readsCommand_70 ?_
    refine V.top (x' := .int 120) (congrArg Value.int h2) ?_
    refine V.bipush hC 119 dX5_readsCommand_73 (by decide) ?_
    refine V.icmp_eq_f hC 87 dX5_readsCommand_75 (by decide) (by decide) ?_
    refine V.aload_n hC dX5_readsCommand_78 rfl ?_
    refine gfX5_172 hG hC dX5_readsCommand_79 ?_
    refine V.top (x' := .int 120) (congrArg Value.int h2) ?_
    refine V.bipush hC 115 dX5_readsCommand_82 (by decide) ?_
    refine V.icmp_ne_t hC 94 dX5_readsCommand_84 (by decide) (by decide) ?_
    refine V.iconst hC 1 dX5_readsCommand_94 (by decide) ?_
    refine V.goto hC 99 dX5_readsCommand_95 (by decide) ?_
    refine V.istore_n hC dX5_readsCommand_99 rfl rfl ?_
    refine V.aload_n hC dX5_readsCommand_100 rfl ?_
    refine V.aload_n hC dX5_readsCommand_101 rfl ?_
    refine gfX5_169 hG hC dX5_readsCommand_102 ?_
    refine pfX5_178 hG hC dX5_readsCommand_105 ?_
    refine V.eqM (M' := mOne _) rfl ?_
    refine V.iload_n hC dX5_readsCommand_108 rfl ?_
    refine V.if_eq_f hC 141 dX5_readsCommand_109 (by decide) (by decide) ?_
    have h3 : mOne (mRn (mAt1 M)).2 111 9 = _ := (show mOne (mRn (mAt1 M)).2 111 9 = (mRn (mAt1 M)).2 111 9 from put_k (by decide)).trans ((mRn_9 _).trans h2)
    have h4 : mOne (mAt1 M) 111 9 = _ := (show mOne (mAt1 M) 111 9 = mAt1 M 111 9 from put_k (by decide)).trans h2
    refine V.aload_n hC dX5_readsCommand_112 rfl ?_
    refine gfX5_172 hG hC dX5_readsCommand_113 ?_
    refine V.top (x' := .int 120) (by first | exact congrArg Value.int h3 | exact congrArg Value.int h4) ?_
    refine V.bipush hC 119 dX5_readsCommand_116 (by decide) ?_
    refine V.icmp_ne_t hC 137 dX5_readsCommand_118 (by decide) (by decide) ?_
    refine V.iconst hC 1 dX5_readsCommand_137 (by decide) ?_
    refine V.goto hC 142 dX5_readsCommand_138 (by decide) ?_
    refine V.istore_n hC dX5_readsCommand_142 rfl rfl ?_
    refine V.aload_n hC dX5_readsCommand_143 rfl ?_
    refine V.aload_n hC dX5_readsCommand_144 rfl ?_
    refine gfX5_169 hG hC dX5_readsCommand_145 ?_
    refine pfX5_184 hG hC dX5_readsCommand_148 ?_
    refine V.eqM (M' := mTwo _) rfl ?_
    refine V.iload_n hC dX5_readsCommand_151 rfl ?_
    exact V.zret hC (by first | (rw [mCmd, if_pos hL, mCmdW, if_neg (by rw [c_1]; decide)]; rfl) | (rw [mCmd, if_pos hL, mCmdW, if_pos c_1, if_neg (by rw [c_2]; decide)]; rfl) | (rw [mCmd, if_pos hL, mCmdW, if_pos c_1, if_pos c_2]; dsimp only; rw [c_3]; rfl) | (rw [mCmd, if_neg (by rw [hL]; decide), if_pos hL]; dsimp only; rw [c_1]; rfl) | (rw [mCmd, if_neg (by rw [hL]; decide), if_neg (by rw [hL]; decide), if_pos (by rw [hL]; decide)]; rfl) | (rw [mCmd, if_neg hL.1, if_neg hL.2.2.1, if_neg (by rintro (z | z | z); exact hL.2.1 z; exact hL.2.2.2.1 z; exact hL.2.2.2.2 z)]; rfl)) (by decide) dX5_readsCommand_152
  · refine V.aload_n hC dX5_readsCommand_12 rfl ?_
    refine gfX5_172 hG hC dX5_readsCommand_13 ?_
    refine V.top (x' := .int 98) (congrArg Value.int hL) ?_
    refine V.bipush hC 119 dX5_readsCommand_16 (by decide) ?_
    refine V.icmp_eq_f hC 59 dX5_readsCommand_18 (by decide) (by decide) ?_
    refine V.aload_n hC dX5_readsCommand_21 rfl ?_
    refine gfX5_172 hG hC dX5_readsCommand_22 ?_
    refine V.top (x' := .int 98) (congrArg Value.int hL) ?_
    refine V.bipush hC 102 dX5_readsCommand_25 (by decide) ?_
    refine V.icmp_eq_f hC 59 dX5_readsCommand_27 (by decide) (by decide) ?_
    refine V.aload_n hC dX5_readsCommand_30 rfl ?_
    refine gfX5_172 hG hC dX5_readsCommand_31 ?_
    refine V.top (x' := .int 98) (congrArg Value.int hL) ?_
    refine V.bipush hC 115 dX5_readsCommand_34 (by decide) ?_
    refine V.icmp_eq_f hC 59 dX5_readsCommand_36 (by decide) (by decide) ?_
    refine V.aload_n hC dX5_readsCommand_39 rfl ?_
    refine gfX5_172 hG hC dX5_readsCommand_40 ?_
    refine V.top (x' := .int 98) (congrArg Value.int hL) ?_
    refine V.bipush hC 120 dX5_readsCommand_43 (by decide) ?_
    refine V.icmp_eq_f hC 59 dX5_readsCommand_45 (by decide) (by decide) ?_
    refine V.aload_n hC dX5_readsCommand_48 rfl ?_
    refine gfX5_172 hG hC dX5_readsCommand_49 ?_
    refine V.top (x' := .int 98) (congrArg Value.int hL) ?_
    refine V.bipush hC 98 dX5_readsCommand_52 (by decide) ?_
    refine V.icmp_eq_t hC 59 dX5_readsCommand_54 (by decide) (by decide) ?_
    refine V.aload_n hC dX5_readsCommand_59 rfl ?_
    refine V.dup hC dX5_readsCommand_60 rfl ?_
    refine gfX5_163 hG hC dX5_readsCommand_61 ?_
    refine V.iconst hC 1 dX5_readsCommand_64 (by decide) ?_
    refine V.iadd hC dX5_readsCommand_65 ?_
    refine pfX5_163 hG hC dX5_readsCommand_66 ?_
    refine V.eqM (M' := mAt1 M) rfl ?_
    have h2 : mAt1 M 111 9 = _ := (show mAt1 M 111 9 = mLet M 111 9 from put_k (by decide)).trans hL
    have hA1 : aI (mAt1 M) := (mAt1_a ha (by rw [hL]; decide)).1
    refine V.aload_n hC dX5_readsCommand_69 rfl ?_
    refine gfX5_172 hG hC dX5_readsCommand_70 ?_
    refine V.top (x' := .int 98) (congrArg Value.int h2) ?_
    refine V.bipush hC 119 dX5_readsCommand_73 (by decide) ?_
    refine V.icmp_eq_f hC 87 dX5_readsCommand_75 (by decide) (by decide) ?_
    refine V.aload_n hC dX5_readsCommand_78 rfl ?_
    refine gfX5_172 hG hC dX5_readsCommand_79 ?_
    refine V.top (x' := .int 98) (congrArg Value.int h2) ?_
    refine V.bipush hC 115 dX5_readsCommand_82 (by decide) ?_
    refine V.icmp_ne_t hC 94 dX5_readsCommand_84 (by decide) (by decide) ?_
    refine V.iconst hC 1 dX5_readsCommand_94 (by decide) ?_
    refine V.goto hC 99 dX5_readsCommand_95 (by decide) ?_
    refine V.istore_n hC dX5_readsCommand_99 rfl rfl ?_
    refine V.aload_n hC dX5_readsCommand_100 rfl ?_
    refine V.aload_n hC dX5_readsCommand_101 rfl ?_
    refine gfX5_169 hG hC dX5_readsCommand_102 ?_
    refine pfX5_178 hG hC dX5_readsCommand_105 ?_
    refine V.eqM (M' := mOne _) rfl ?_
    refine V.iload_n hC dX5_readsCommand_108 rfl ?_
    refine V.if_eq_f hC 141 dX5_readsCommand_109 (by decide) (by decide) ?_
    have h3 : mOne (mRn (mAt1 M)).2 111 9 = _ := (show mOne (mRn (mAt1 M)).2 111 9 = (mRn (mAt1 M)).2 111 9 from put_k (by decide)).trans ((mRn_9 _).trans h2)
    have h4 : mOne (mAt1 M) 111 9 = _ := (show mOne (mAt1 M) 111 9 = mAt1 M 111 9 from put_k (by decide)).trans h2
    refine V.aload_n hC dX5_readsCommand_112 rfl ?_
    refine gfX5_172 hG hC dX5_readsCommand_113 ?_
    refine V.top (x' := .int 98) (by first | exact congrArg Value.int h3 | exact congrArg Value.int h4) ?_
    refine V.bipush hC 119 dX5_readsCommand_116 (by decide) ?_
    refine V.icmp_ne_t hC 137 dX5_readsCommand_118 (by decide) (by decide) ?_
    refine V.iconst hC 1 dX5_readsCommand_137 (by decide) ?_
    refine V.goto hC 142 dX5_readsCommand_138 (by decide) ?_
    refine V.istore_n hC dX5_readsCommand_142 rfl rfl ?_
    refine V.aload_n hC dX5_readsCommand_143 rfl ?_
    refine V.aload_n hC dX5_readsCommand_144 rfl ?_
    refine gfX5_169 hG hC dX5_readsCommand_145 ?_
    refine pfX5_184 hG hC dX5_readsCommand_148 ?_
    refine V.eqM (M' := mTwo _) rfl ?_
    refine V.iload_n hC dX5_readsCommand_151 rfl ?_
    exact V.zret hC (by first | (rw [mCmd, if_pos hL, mCmdW, if_neg (by rw [c_1]; decide)]; rfl) | (rw [mCmd, if_pos hL, mCmdW, if_pos c_1, if_neg (by rw [c_2]; decide)]; rfl) | (rw [mCmd, if_pos hL, mCmdW, if_pos c_1, if_pos c_2]; dsimp only; rw [c_3]; rfl) | (rw [mCmd, if_neg (by rw [hL]; decide), if_pos hL]; dsimp only; rw [c_1]; rfl) | (rw [mCmd, if_neg (by rw [hL]; decide), if_neg (by rw [hL]; decide), if_pos (by rw [hL]; decide)]; rfl) | (rw [mCmd, if_neg hL.1, if_neg hL.2.2.1, if_neg (by rintro (z | z | z); exact hL.2.1 z; exact hL.2.2.2.1 z; exact hL.2.2.2.2 z)]; rfl)) (by decide) dX5_readsCommand_152
  · refine V.aload_n hC dX5_readsCommand_12 rfl ?_
    refine gfX5_172 hG hC dX5_readsCommand_13 ?_
    refine V.bipush hC 119 dX5_readsCommand_16 (by decide) ?_
    refine V.icmp_eq_f hC 59 dX5_readsCommand_18 (by decide) (hL.1) ?_
    refine V.aload_n hC dX5_readsCommand_21 rfl ?_
    refine gfX5_172 hG hC dX5_readsCommand_22 ?_
    refine V.bipush hC 102 dX5_readsCommand_25 (by decide) ?_
    refine V.icmp_eq_f hC 59 dX5_readsCommand_27 (by decide) (hL.2.1) ?_
    refine V.aload_n hC dX5_readsCommand_30 rfl ?_
    refine gfX5_172 hG hC dX5_readsCommand_31 ?_
    refine V.bipush hC 115 dX5_readsCommand_34 (by decide) ?_
    refine V.icmp_eq_f hC 59 dX5_readsCommand_36 (by decide) (hL.2.2.1) ?_
    refine V.aload_n hC dX5_readsCommand_39 rfl ?_
    refine gfX5_172 hG hC dX5_readsCommand_40 ?_
    refine V.bipush hC 120 dX5_readsCommand_43 (by decide) ?_
    refine V.icmp_eq_f hC 59 dX5_readsCommand_45 (by decide) (hL.2.2.2.1) ?_
    refine V.aload_n hC dX5_readsCommand_48 rfl ?_
    refine gfX5_172 hG hC dX5_readsCommand_49 ?_
    refine V.bipush hC 98 dX5_readsCommand_52 (by decide) ?_
    refine V.icmp_eq_f hC 59 dX5_readsCommand_54 (by decide) (hL.2.2.2.2) ?_
    refine V.iconst hC 0 dX5_readsCommand_57 (by decide) ?_
    exact V.zret hC (by first | (rw [mCmd, if_pos hL, mCmdW, if_neg (by rw [c_1]; decide)]; rfl) | (rw [mCmd, if_pos hL, mCmdW, if_pos c_1, if_neg (by rw [c_2]; decide)]; rfl) | (rw [mCmd, if_pos hL, mCmdW, if_pos c_1, if_pos c_2]; dsimp only; rw [c_3]; rfl) | (rw [mCmd, if_neg (by rw [hL]; decide), if_pos hL]; dsimp only; rw [c_1]; rfl) | (rw [mCmd, if_neg (by rw [hL]; decide), if_neg (by rw [hL]; decide), if_pos (by rw [hL]; decide)]; rfl) | (rw [mCmd, if_neg hL.1, if_neg hL.2.2.1, if_neg (by rintro (z | z | z); exact hL.2.1 z; exact hL.2.2.2.1 z; exact hL.2.2.2.2 z)]; rfl)) (by decide) dX5_readsCommand_58
set_option maxHeartbeats 2000000 in
set_option maxRecDepth 20000 in
theorem c_X5_findError {l : Launch} {G : dkG}  {M : dkM} (hG : dk_mdl G) (ht : tI M) : dk_Con l yX5_findError cX5_findError 1 (some .int) 3 64 G [.ref (G.1 + 111)] M (some (.int (mErr M).1), (mErr M).2) := by
  refine dk_Con.of mwX5_findError.1 (Nat.le_of_ble_eq_true rfl) (fun E hE hC => ?_)
  subst hE
  have loop_5 : ∀ (n : Nat) (M1 : dkM), (aI M1) → ((M1 111 6).toInt - (M1 111 8).toInt < (n : Int)) → (mErrL n M1 = mErr M) →  V E G 1 (some (.int (mErr M).1), (mErr M).2) (M1) 5 [(0, some (.ref (G.1 + 111)))] [] := by
    intro n
    induction n with
    | zero => intro M1 hA hn hT; exact absurd hn (by have := hA.2.2; omega)
    | succ n ih_5 =>
      intro M1 hA hn hT
      refine V.aload_n hC dX5_findError_5 rfl ?_
      refine V.callV0i hC (c_X5_readsCommand hG hA) mwX5_readsCommand mlX5_187 (hG.at 111 rfl) rfl rfl ⟨rfl, rfl⟩ dX5_findError_6 rfl ?_
      refine V.if_neB hC 17 dX5_findError_9 (by decide) (fun c_1 => ?_) (fun c_1 => ?_)
      · rw [mErrL, if_pos c_1] at hT
        refine V.aload_n hC dX5_findError_17 rfl ?_
        refine gfX5_163 hG hC dX5_findError_18 ?_
        refine V.aload_n hC dX5_findError_21 rfl ?_
        refine gfX5_160 hG hC dX5_findError_22 ?_
        refine V.icmp_ne hC 31 dX5_findError_25 (by decide) (fun c_2 => ?_) (fun c_2 => ?_)
        · rw [if_neg c_2] at hT
          refine V.aload_n hC dX5_findError_31 rfl ?_
          refine V.bipush hC 59 dX5_findError_32 (by decide) ?_
          refine V.callV1i hC (c_X5_isNext hG (mCmd_a hA).1) mwX5_isNext mlX5_181 (hG.at 111 rfl) rfl rfl ⟨rfl, rfl⟩ dX5_findError_34 rfl ?_
          refine V.if_neB hC 5 dX5_findError_37 (by decide) (fun c_3 => ?_) (fun c_3 => ?_)
          · rw [if_pos c_3] at hT
            obtain ⟨b1, b2, b3⟩ := mCmd_a hA
            obtain ⟨b4, b5, b6⟩ := mNextM_a (c := 59) b1 (by decide)
            have b7 := b2 c_1
            exact V.sub (dk_sc rfl (dk_sn)) (ih_5 (mNextM (mCmd M1).2 59) b4 (by rw [b6, b3]; omega) hT)
          · rw [if_neg (by rw [c_3]; decide)] at hT
            refine V.aload_n hC dX5_findError_40 rfl ?_
            refine gfX5_163 hG hC dX5_findError_41 ?_
            exact V.iret hC (by rw [← hT]) dX5_findError_44
        · rw [if_pos c_2] at hT
          refine V.bipush hC (-6) dX5_findError_28 (by decide) ?_
          exact V.iret hC (by rw [← hT]) dX5_findError_30
      · rw [mErrL, if_neg (by rw [c_1]; decide)] at hT
        refine V.aload_n hC dX5_findError_12 rfl ?_
        refine gfX5_163 hG hC dX5_findError_13 ?_
        exact V.iret hC (by rw [← hT]) dX5_findError_16
  refine V.aload_n hC dX5_findError_0 rfl ?_
  refine V.iconst hC 0 dX5_findError_1 (by decide) ?_
  refine pfX5_163 hG hC dX5_findError_2 ?_
  exact V.sub (dk_sc rfl (dk_sn)) (loop_5 100 _ (aI_0 ht (put_k (by decide)) put_same) (by rw [put_k (by decide), put_same, e0I]; have := ht.2; omega) rfl)
set_option maxHeartbeats 2000000 in
set_option maxRecDepth 20000 in
theorem c_X5_syntaxError {l : Launch} {G : dkG}  {M : dkM} (hG : dk_mdl G) (ht : tI M) : dk_Con l yX5_syntaxError cX5_syntaxError 1 (some .int) 4 84 G [.ref (G.1 + 111)] M (some (.int (mErr M).1), (mErr M).2) := by
  refine dk_Con.of mwX5_syntaxError.1 (Nat.le_of_ble_eq_true rfl) (fun E hE hC => ?_)
  subst hE
  refine V.aload_n hC dX5_syntaxError_0 rfl ?_
  refine V.callV0i hC (c_X5_findError hG ht) mwX5_findError mlX5_190 (hG.at 111 rfl) rfl rfl ⟨rfl, rfl⟩ dX5_syntaxError_1 rfl ?_
  exact V.iret hC (rfl) dX5_syntaxError_4
set_option maxHeartbeats 2000000 in
set_option maxRecDepth 20000 in
theorem c_X5_whyNotDone {l : Launch} {G : dkG}  {M : dkM} (hG : dk_mdl G) (hI : mI M) : dk_Con l yX5_whyNotDone cX5_whyNotDone 1 (some .int) 3 65 G [.ref (G.1 + 111)] M (some (.int (mWhyD M)), M) := by
  refine dk_Con.of mwX5_whyNotDone.1 (Nat.le_of_ble_eq_true rfl) (fun E hE hC => ?_)
  subst hE
  refine V.aload_n hC dX5_whyNotDone_0 rfl ?_
  refine gfX5_172 hG hC dX5_whyNotDone_1 ?_
  by_cases c_1_0 : M 111 9 = 98
  · refine V.swi hC 62 dX5_whyNotDone_4 (by decide) (by rw [c_1_0]; decide) ?_
    refine V.aload_n hC dX5_whyNotDone_62 rfl ?_
    refine V.callV0i hC (c_X5_whyNotTurned hG) mwX5_whyNotTurned mlX5_118 (hG.at 111 rfl) rfl rfl ⟨rfl, rfl⟩ dX5_whyNotDone_63 rfl ?_
    exact V.iret hC (by first | (simp [mWhyD, c_1_0]; done) | (simp_all [mWhyD]; done)) dX5_whyNotDone_66
  by_cases c_1_1 : M 111 9 = 115
  · refine V.swi hC 53 dX5_whyNotDone_4 (by decide) (by rw [c_1_1]; decide) ?_
    refine V.aload_n hC dX5_whyNotDone_53 rfl ?_
    refine V.aload_n hC dX5_whyNotDone_54 rfl ?_
    refine gfX5_178 hG hC dX5_whyNotDone_55 ?_
    refine V.callV1i hC (c_X5_whyNotSteps hG) mwX5_whyNotSteps mlX5_112 (hG.at 111 rfl) rfl rfl ⟨rfl, rfl⟩ dX5_whyNotDone_58 rfl ?_
    exact V.iret hC (by first | (simp [mWhyD, c_1_0, c_1_1]; done) | (simp_all [mWhyD]; done)) dX5_whyNotDone_61
  by_cases c_1_2 : M 111 9 = 119
  · refine V.swi hC 40 dX5_whyNotDone_4 (by decide) (by rw [c_1_2]; decide) ?_
    refine V.aload_n hC dX5_whyNotDone_40 rfl ?_
    refine V.aload_n hC dX5_whyNotDone_41 rfl ?_
    refine gfX5_178 hG hC dX5_whyNotDone_42 ?_
    refine V.aload_n hC dX5_whyNotDone_45 rfl ?_
    refine gfX5_184 hG hC dX5_whyNotDone_46 ?_
    refine V.callV2i hC (c_X5_whyNotWritten hG hI) mwX5_whyNotWritten mlX5_130 (hG.at 111 rfl) rfl rfl ⟨rfl, rfl⟩ dX5_whyNotDone_49 rfl ?_
    exact V.iret hC (by first | (simp [mWhyD, c_1_0, c_1_1, c_1_2]; done) | (simp_all [mWhyD]; done)) dX5_whyNotDone_52
  refine V.swi hC 67 dX5_whyNotDone_4 (by decide) (by rw [(dk_off_ne c_1_0 (by decide)).trans ((dk_off_ne c_1_1 (by decide)).trans ((dk_off_ne c_1_2 (by decide)).trans (rfl)))]; rfl) ?_
  refine V.iconst hC 0 dX5_whyNotDone_67 (by decide) ?_
  exact V.iret hC (by first | (simp [mWhyD, c_1_0, c_1_1, c_1_2]; done) | (simp_all [mWhyD]; done)) dX5_whyNotDone_68
set_option maxHeartbeats 2000000 in
set_option maxRecDepth 20000 in
theorem c_X5_does {l : Launch} {G : dkG}  {M : dkM} (hG : dk_mdl G) (hI : mI M) (hw : mWhyD M = 0) : dk_Con l yX5_does cX5_does 1 none 8 173 G [.ref (G.1 + 111)] M (none, mDoes M) := by
  refine dk_Con.of mwX5_does.1 (Nat.le_of_ble_eq_true rfl) (fun E hE hC => ?_)
  subst hE
  refine V.aload_n hC dX5_does_0 rfl ?_
  refine gfX5_172 hG hC dX5_does_1 ?_
  by_cases c_1_0 : M 111 9 = 98
  · refine V.swi hC 76 dX5_does_4 (by decide) (by rw [c_1_0]; decide) ?_
    refine V.aload_n hC dX5_does_76 rfl ?_
    refine V.callV0i hC (c_X5_turns hG hI.zone) mwX5_turns mlX5_121 (hG.at 111 rfl) rfl rfl ⟨rfl, rfl⟩ dX5_does_77 rfl ?_
    refine V.pop hC dX5_does_80 rfl ?_
    refine V.goto hC 96 dX5_does_81 (by decide) ?_
    exact V.vret hC (by first | (simp [mDoes, c_1_0]; done) | (simp_all [mDoes]; done)) dX5_does_96
  by_cases c_1_1 : M 111 9 = 102
  · refine V.swi hC 84 dX5_does_4 (by decide) (by rw [c_1_1]; decide) ?_
    refine V.aload_n hC dX5_does_84 rfl ?_
    refine V.callV0i hC (c_X5_flushes hG hI) mwX5_flushes mlX5_142 (hG.at 111 rfl) rfl rfl ⟨rfl, rfl⟩ dX5_does_85 rfl ?_
    refine V.pop hC dX5_does_88 rfl ?_
    refine V.goto hC 96 dX5_does_89 (by decide) ?_
    exact V.vret hC (by first | (simp [mDoes, c_1_0, c_1_1]; done) | (simp_all [mDoes]; done)) dX5_does_96
  by_cases c_1_2 : M 111 9 = 115
  · refine V.swi hC 64 dX5_does_4 (by decide) (by rw [c_1_2]; decide) ?_
    refine V.aload_n hC dX5_does_64 rfl ?_
    refine V.aload_n hC dX5_does_65 rfl ?_
    refine gfX5_178 hG hC dX5_does_66 ?_
    refine V.callV1i hC (c_X5_makesSteps hG hI) mwX5_makesSteps mlX5_115 (hG.at 111 rfl) rfl rfl ⟨rfl, rfl⟩ dX5_does_69 rfl ?_
    refine V.pop hC dX5_does_72 rfl ?_
    refine V.goto hC 96 dX5_does_73 (by decide) ?_
    exact V.vret hC (by first | (simp [mDoes, c_1_0, c_1_1, c_1_2]; done) | (simp_all [mDoes]; done)) dX5_does_96
  by_cases c_1_3 : M 111 9 = 119
  · refine V.swi hC 48 dX5_does_4 (by decide) (by rw [c_1_3]; decide) ?_
    refine V.aload_n hC dX5_does_48 rfl ?_
    refine V.aload_n hC dX5_does_49 rfl ?_
    refine gfX5_178 hG hC dX5_does_50 ?_
    refine V.aload_n hC dX5_does_53 rfl ?_
    refine gfX5_184 hG hC dX5_does_54 ?_
    refine V.callV2i hC (c_X5_writes hG hI.sec (mDoes_s hI hw c_1_3)) mwX5_writes mlX5_133 (hG.at 111 rfl) rfl rfl ⟨rfl, rfl⟩ dX5_does_57 rfl ?_
    refine V.pop hC dX5_does_60 rfl ?_
    refine V.goto hC 96 dX5_does_61 (by decide) ?_
    exact V.vret hC (by first | (simp [mDoes, c_1_0, c_1_1, c_1_2, c_1_3]; done) | (simp_all [mDoes]; done)) dX5_does_96
  refine V.swi hC 92 dX5_does_4 (by decide) (by rw [(dk_off_ne c_1_0 (by decide)).trans ((dk_off_ne c_1_1 (by decide)).trans ((dk_off_ne c_1_2 (by decide)).trans ((dk_off_ne c_1_3 (by decide)).trans (rfl))))]; rfl) ?_
  refine V.aload_n hC dX5_does_92 rfl ?_
  refine V.callV0v hC (c_X5_fails hG) mwX5_fails mlX5_145 (hG.at 111 rfl) rfl rfl ⟨rfl, rfl⟩ dX5_does_93 rfl ?_
  exact V.vret hC (by first | (simp [mDoes, c_1_0, c_1_1, c_1_2, c_1_3]; done) | (simp_all [mDoes]; done)) dX5_does_96
set_option maxHeartbeats 2000000 in
set_option maxRecDepth 20000 in
theorem c_X5_carryOut {l : Launch} {G : dkG}  {M : dkM} (hG : dk_mdl G) (hI : mI M) (hR : rI M) (ht : tI M) : dk_Con l yX5_carryOut cX5_carryOut 3 (some .int) 9 193 G [.ref (G.1 + 111)] M (some (.int (mCarry M).1), (mCarry M).2) := by
  refine dk_Con.of mwX5_carryOut.1 (Nat.le_of_ble_eq_true rfl) (fun E hE hC => ?_)
  subst hE
  have hI0 : mI (dk_put (mRec (mErr M).2) 111 8 0) := mI_row ((dk_put_ne (by decide)).trans ((mRec_st _).trans (mErrL_rows _ _ (by decide)))) (mI_row (M := M) (M' := dk_put M 111 8 0) (dk_put_ne (by decide)) hI)
  have hR0 : rI (mErr M).2 := by unfold rI; rw [show (mErr M).2 111 4 = M 111 4 from (mErrL_4 _ _).trans (put_k (by decide))]; exact hR
  have h60 : dk_put (mRec (mErr M).2) 111 8 0 111 6 = M 111 6 := (put_k (by decide)).trans ((mRec_111 _ (by decide)).trans (mErr_6 ht))
  have hA0 : aI (dk_put (mRec (mErr M).2) 111 8 0) := aI_0 ht h60 put_same
  have hQ0 : tEq (dk_put M 111 8 0) (dk_put (mRec (mErr M).2) 111 8 0) := ⟨(put_k (by decide)).trans h60.symm, put_same.trans put_same.symm, (dk_put_ne (by decide)).trans (((dk_put_ne (by decide)).trans ((mRec_ne _ (by decide) (by decide)).trans ((mErrL_rows _ _ (by decide)).trans (dk_put_ne (by decide))))).symm)⟩
  have loop_29 : ∀ (n : Nat) (k : Nat) (M1 : dkM), ((mErr M).1 = -6) → (mI M1) → (aI M1) → (M1 111 8 = M1 111 6 ∨ okE M1) → ((M1 111 6).toInt - (M1 111 8).toInt < (n : Int)) → (mCoL n M1 k = mCo M) →  V E G 3 (some (.int (mCarry M).1), (mCarry M).2) (M1) 29 [(0, some (.ref (G.1 + 111))), (1, some (.int (nI k))), (2, some (.int 1))] [] := by
    intro n
    induction n with
    | zero => intro k M1 h1 hI1 hA hok hn hT; exact absurd hn (by have := hA.2.2; omega)
    | succ n ih_29 =>
      intro k M1 h1 hI1 hA hok hn hT
      refine V.aload_n hC dX5_carryOut_29 rfl ?_
      refine gfX5_163 hG hC dX5_carryOut_30 ?_
      refine V.aload_n hC dX5_carryOut_33 rfl ?_
      refine gfX5_160 hG hC dX5_carryOut_34 ?_
      refine V.icmp_ge hC 79 dX5_carryOut_37 (by decide) (fun c_1 => ?_) (fun c_1 => ?_)
      · rw [mCoL, if_pos c_1] at hT
        refine V.aload_n hC dX5_carryOut_79 rfl ?_
        refine V.iconst hC 0 dX5_carryOut_80 (by decide) ?_
        refine pfX5_160 hG hC dX5_carryOut_81 ?_
        refine V.iload_n hC dX5_carryOut_84 rfl ?_
        exact V.iret hC (by rw [mCarry, if_pos h1, ← hT]) dX5_carryOut_85
      · rw [mCoL, if_neg c_1] at hT
        obtain ⟨hcm, hok2⟩ := okE.cmd hA (hok.resolve_left (fun z => c_1 (by rw [z]; exact Int32.le_refl _)))
        obtain ⟨n1, n2, n3⟩ := mNxt_a hA hcm
        have hI2 : mI (mNxt M1) := mI_row (mNxt_rows _ (by decide)) hI1
        refine V.aload_n hC dX5_carryOut_40 rfl ?_
        refine V.callV0i hC (c_X5_readsCommand hG hA) mwX5_readsCommand mlX5_187 (hG.at 111 rfl) rfl rfl ⟨rfl, rfl⟩ dX5_carryOut_41 rfl ?_
        refine V.pop hC dX5_carryOut_44 rfl ?_
        refine V.aload_n hC dX5_carryOut_45 rfl ?_
        refine V.bipush hC 59 dX5_carryOut_46 (by decide) ?_
        refine V.callV1i hC (c_X5_isNext hG (mCmd_a hA).1) mwX5_isNext mlX5_181 (hG.at 111 rfl) rfl rfl ⟨rfl, rfl⟩ dX5_carryOut_48 rfl ?_
        refine V.pop hC dX5_carryOut_51 rfl ?_
        refine V.eqM (M' := mNxt M1) rfl ?_
        refine V.aload_n hC dX5_carryOut_52 rfl ?_
        refine V.callV0i hC (c_X5_whyNotDone hG hI2) mwX5_whyNotDone mlX5_193 (hG.at 111 rfl) rfl rfl ⟨rfl, rfl⟩ dX5_carryOut_53 rfl ?_
        refine V.if_ne hC 63 dX5_carryOut_56 (by decide) (fun c_2 => ?_) (fun c_2 => ?_)
        · rw [if_neg c_2] at hT
          refine V.iconst hC 0 dX5_carryOut_63 (by decide) ?_
          refine V.istore_n hC dX5_carryOut_64 rfl rfl ?_
          refine V.iload_n hC dX5_carryOut_65 rfl ?_
          refine V.if_eq_t hC 25 dX5_carryOut_66 (by decide) (by decide) ?_
          refine V.iload_n hC dX5_carryOut_25 rfl ?_
          refine V.if_eq_t hC 79 dX5_carryOut_26 (by decide) (by decide) ?_
          refine V.aload_n hC dX5_carryOut_79 rfl ?_
          refine V.iconst hC 0 dX5_carryOut_80 (by decide) ?_
          refine pfX5_160 hG hC dX5_carryOut_81 ?_
          refine V.iload_n hC dX5_carryOut_84 rfl ?_
          exact V.iret hC (by rw [mCarry, if_pos h1, ← hT]) dX5_carryOut_85
        · rw [if_pos c_2] at hT
          refine V.iconst hC 1 dX5_carryOut_59 (by decide) ?_
          refine V.goto hC 64 dX5_carryOut_60 (by decide) ?_
          refine V.istore_n hC dX5_carryOut_64 rfl rfl ?_
          refine V.iload_n hC dX5_carryOut_65 rfl ?_
          refine V.if_eq_f hC 25 dX5_carryOut_66 (by decide) (by decide) ?_
          refine V.aload_n hC dX5_carryOut_69 rfl ?_
          refine V.callV0v hC (c_X5_does hG hI2 c_2) mwX5_does mlX5_196 (hG.at 111 rfl) rfl rfl ⟨rfl, rfl⟩ dX5_carryOut_70 rfl ?_
          refine V.iinc hC dX5_carryOut_73 rfl (dk_incN _) rfl ?_
          refine V.goto hC 25 dX5_carryOut_76 (by decide) ?_
          refine V.iload_n hC dX5_carryOut_25 rfl ?_
          refine V.if_eq_f hC 79 dX5_carryOut_26 (by decide) (by decide) ?_
          exact V.sub (dk_sc rfl (dk_sc rfl (dk_sc rfl (dk_sn)))) (ih_29 (k + 1) (mDoes (mNxt M1)) h1 (mDoes_I hI2 c_2) (aI_same n1 (by rw [mDoes_row _ (by decide)]) (by rw [mDoes_row _ (by decide)])) (hok2.elim (fun z => Or.inl (by rw [mDoes_row _ (by decide)]; exact z)) (fun z => Or.inr (okE.eq ⟨by rw [mDoes_row _ (by decide)], by rw [mDoes_row _ (by decide)], by rw [mDoes_row _ (by decide)]⟩ z))) (by rw [mDoes_row _ (by decide), n3]; omega) hT)
  refine V.aload_n hC dX5_carryOut_0 rfl ?_
  refine V.callV0i hC (c_X5_findError hG ht) mwX5_findError mlX5_190 (hG.at 111 rfl) rfl rfl ⟨rfl, rfl⟩ dX5_carryOut_1 rfl ?_
  refine V.bipush hC (-6) dX5_carryOut_4 (by decide) ?_
  refine V.icmp_eq hC 12 dX5_carryOut_6 (by decide) (fun c_1 => ?_) (fun c_1 => ?_)
  · refine V.aload_n hC dX5_carryOut_12 rfl ?_
    refine V.callV0v hC (c_X5_record hG hR0) mwX5_record mlX5_93 (hG.at 111 rfl) rfl rfl ⟨rfl, rfl⟩ dX5_carryOut_13 rfl ?_
    refine V.iconst hC 0 dX5_carryOut_16 (by decide) ?_
    refine V.istore_n hC dX5_carryOut_17 rfl rfl ?_
    refine V.aload_n hC dX5_carryOut_18 rfl ?_
    refine V.iconst hC 0 dX5_carryOut_19 (by decide) ?_
    refine pfX5_163 hG hC dX5_carryOut_20 ?_
    refine V.iconst hC 1 dX5_carryOut_23 (by decide) ?_
    refine V.istore_n hC dX5_carryOut_24 rfl rfl ?_
    refine V.iload_n hC dX5_carryOut_25 rfl ?_
    refine V.if_eq_f hC 79 dX5_carryOut_26 (by decide) (by decide) ?_
    exact V.sub (dk_sc rfl (dk_sc rfl (dk_sc rfl (dk_sn)))) (loop_29 100 0 _ c_1 hI0 hA0 (Or.inr (okE.eq hQ0 ⟨100, c_1⟩)) (by rw [h60, put_same, e0I]; have := ht.2; omega) rfl)
  · refine V.bipush hC (-5) dX5_carryOut_9 (by decide) ?_
    exact V.iret hC (by simp [mCarry, c_1]) dX5_carryOut_11
