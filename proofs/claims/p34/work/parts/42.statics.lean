set_option maxHeartbeats 2000000 in
set_option maxRecDepth 20000 in
theorem c_L_low {l : Launch} {G : dkG}  {M : dkM} {v n : Int32} (hn : ¬ n = 0) : dk_Con l yL_low cL_low 2 (some .int) 0 0 G [.int v, .int n] M (some (.int (lLow v n)), M) := by
  refine dk_Con.of mwL_low.1 (Nat.le_of_ble_eq_true rfl) (fun E hE hC => ?_)
  subst hE
  refine V.iload_n hC dL_low_0 rfl ?_
  refine V.ldc hC klL_9 dL_low_1 ?_
  refine V.iand hC dL_low_3 ?_
  refine V.iload_n hC dL_low_4 rfl ?_
  refine V.irem hC dL_low_5 (hn) ?_
  exact V.iret hC (rfl) dL_low_6
set_option maxHeartbeats 2000000 in
set_option maxRecDepth 20000 in
theorem c_L_mix {l : Launch} {G : dkG}  {M : dkM} {v s x : Int32} : dk_Con l yL_mix cL_mix 7 (some .int) 0 0 G [.int v, .int s, .int x] M (some (.int (lMix v s x)), M) := by
  refine dk_Con.of mwL_mix.1 (Nat.le_of_ble_eq_true rfl) (fun E hE hC => ?_)
  subst hE
  have loop_24 : ∀ (n : Nat) (k : Nat), (k ≤ 16) → (16 < k + n) →  V E G 7 (some (.int (lMix v s x)), M) (M) 24 [(0, some (.int v)), (3, some (.long (lMixW s x))), (5, some (.int (lMixL v (lMixW s x) k))), (6, some (.int (nI k)))] [] := by
    intro n
    induction n with
    | zero => intro k hk hn; exact absurd hn (by omega)
    | succ n ih_24 =>
      intro k hk hn
      refine V.iload hC dL_mix_24 rfl ?_
      refine V.bipush hC 16 dL_mix_26 (by decide) ?_
      refine V.icmp_ge hC 66 dL_mix_28 (by decide) (fun c_1 => ?_) (fun c_1 => ?_)
      · have hke : k = 16 := by have := (dk_gek (k := k) (by omega)).mp c_1; rw [show ix 16 = 16 from by decide] at this; omega
        refine V.iload hC dL_mix_66 rfl ?_
        exact V.iret hC (by rw [hke]; rfl) dL_mix_68
      · have hkl : k < 16 := by have := mt (dk_gek (k := k) (by omega)).mpr c_1; rw [show ix 16 = 16 from by decide] at this; omega
        refine V.iload hC dL_mix_31 rfl ?_
        refine V.iload_n hC dL_mix_33 rfl ?_
        refine V.iload hC dL_mix_34 rfl ?_
        refine V.ishr hC dL_mix_36 ?_
        refine V.iconst hC 1 dL_mix_37 (by decide) ?_
        refine V.iand hC dL_mix_38 ?_
        refine V.lload_n hC dL_mix_39 rfl ?_
        refine V.iload hC dL_mix_40 rfl ?_
        refine V.lshr hC dL_mix_42 ?_
        refine V.lconst hC 1 dL_mix_43 (by decide) ?_
        refine V.land hC dL_mix_44 ?_
        refine V.l2i hC dL_mix_45 ?_
        refine V.icmp_eq hC 56 dL_mix_46 (by decide) (fun c_2 => ?_) (fun c_2 => ?_)
        · refine V.iconst hC 0 dL_mix_56 (by decide) ?_
          refine V.ior hC dL_mix_57 ?_
          refine V.top (x' := .int (lMixL v (lMixW s x) (k + 1))) (by rw [lMixL]; first | rw [if_pos c_2] | rw [if_neg c_2]) ?_
          refine V.istore hC dL_mix_58 rfl rfl ?_
          refine V.iinc hC dL_mix_60 rfl (dk_incN _) rfl ?_
          refine V.goto hC 24 dL_mix_63 (by decide) ?_
          exact V.sub (dk_sc rfl (dk_sc rfl (dk_sc rfl (dk_sc rfl (dk_sn))))) (ih_24 (k + 1) (by omega) (by omega))
        · refine V.iconst hC 1 dL_mix_49 (by decide) ?_
          refine V.iload hC dL_mix_50 rfl ?_
          refine V.ishl hC dL_mix_52 ?_
          refine V.goto hC 57 dL_mix_53 (by decide) ?_
          refine V.ior hC dL_mix_57 ?_
          refine V.top (x' := .int (lMixL v (lMixW s x) (k + 1))) (by rw [lMixL]; first | rw [if_pos c_2] | rw [if_neg c_2]) ?_
          refine V.istore hC dL_mix_58 rfl rfl ?_
          refine V.iinc hC dL_mix_60 rfl (dk_incN _) rfl ?_
          refine V.goto hC 24 dL_mix_63 (by decide) ?_
          exact V.sub (dk_sc rfl (dk_sc rfl (dk_sc rfl (dk_sc rfl (dk_sn))))) (ih_24 (k + 1) (by omega) (by omega))
  refine V.ldc2 hC klL_10 dL_mix_0 ?_
  refine V.iload_n hC dL_mix_3 rfl ?_
  refine V.i2l hC dL_mix_4 ?_
  refine V.lmul hC dL_mix_5 ?_
  refine V.ldc2 hC klL_12 dL_mix_6 ?_
  refine V.iload_n hC dL_mix_9 rfl ?_
  refine V.i2l hC dL_mix_10 ?_
  refine V.lmul hC dL_mix_11 ?_
  refine V.ladd hC dL_mix_12 ?_
  refine V.ldc2 hC klL_14 dL_mix_13 ?_
  refine V.ladd hC dL_mix_16 ?_
  refine V.lstore_n hC dL_mix_17 rfl rfl ?_
  refine V.iconst hC 0 dL_mix_18 (by decide) ?_
  refine V.istore hC dL_mix_19 rfl rfl ?_
  refine V.iconst hC 0 dL_mix_21 (by decide) ?_
  refine V.istore hC dL_mix_22 rfl rfl ?_
  exact V.sub (dk_sc rfl (dk_sc rfl (dk_sc rfl (dk_sc rfl (dk_sn))))) (loop_24 17 0 (Nat.zero_le _) (by omega))
set_option maxHeartbeats 2000000 in
set_option maxRecDepth 20000 in
theorem c_L_first {l : Launch} {G : dkG} {q : Nat} {M : dkM} (hq : lA G q 16)  : dk_Con l yL_first cL_first 1 (some .int) 0 0 G [.ref (G.1 + q)] M (some (.int (lFirst M q)), M) := by
  refine dk_Con.of mwL_first.1 (Nat.le_of_ble_eq_true rfl) (fun E hE hC => ?_)
  subst hE
  refine V.aload_n hC dL_first_0 rfl ?_
  refine V.iconst hC 4 dL_first_1 (by decide) ?_
  refine V.ialdLN hC (4) hq (rfl) (by omega) dL_first_2 ?_
  refine V.iconst hC 1 dL_first_3 (by decide) ?_
  refine V.icmp_ne hC 11 dL_first_4 (by decide) (fun c_1 => ?_) (fun c_1 => ?_)
  · refine V.aload_n hC dL_first_11 rfl ?_
    refine V.iconst hC 3 dL_first_12 (by decide) ?_
    refine V.ialdLN hC (3) hq (rfl) (by omega) dL_first_13 ?_
    refine V.aload_n hC dL_first_14 rfl ?_
    refine V.bipush hC 7 dL_first_15 (by decide) ?_
    refine V.ialdLN hC (7) hq (rfl) (by omega) dL_first_17 ?_
    refine V.icmp_le hC 32 dL_first_18 (by decide) (fun c_2 => ?_) (fun c_2 => ?_)
    · refine V.iconst hC 0 dL_first_32 (by decide) ?_
      exact V.iret hC (by first | (simp [lFirst, c_1, c_2, dk_le1 c_2]; done) | (simp_all [lFirst]; done)) dL_first_33
    · refine V.aload_n hC dL_first_21 rfl ?_
      refine V.iconst hC 3 dL_first_22 (by decide) ?_
      refine V.ialdLN hC (3) hq (rfl) (by omega) dL_first_23 ?_
      refine V.aload_n hC dL_first_24 rfl ?_
      refine V.bipush hC 7 dL_first_25 (by decide) ?_
      refine V.ialdLN hC (7) hq (rfl) (by omega) dL_first_27 ?_
      refine V.isub hC dL_first_28 ?_
      refine V.goto hC 33 dL_first_29 (by decide) ?_
      exact V.iret hC (by first | (simp [lFirst, c_1, c_2, dk_nle c_2]; done) | (simp_all [lFirst]; done)) dL_first_33
  · refine V.aload_n hC dL_first_7 rfl ?_
    refine V.iconst hC 3 dL_first_8 (by decide) ?_
    refine V.ialdLN hC (3) hq (rfl) (by omega) dL_first_9 ?_
    exact V.iret hC (by first | (simp [lFirst, c_1]; done) | (simp_all [lFirst]; done)) dL_first_10
set_option maxHeartbeats 2000000 in
set_option maxRecDepth 20000 in
theorem c_L_behind {l : Launch} {G : dkG} {q : Nat} {M : dkM} (hq : lA G q 16)  : dk_Con l yL_behind cL_behind 1 (some .int) 0 0 G [.ref (G.1 + q)] M (some (.int (lBehind M q)), M) := by
  refine dk_Con.of mwL_behind.1 (Nat.le_of_ble_eq_true rfl) (fun E hE hC => ?_)
  subst hE
  refine V.aload_n hC dL_behind_0 rfl ?_
  refine V.iconst hC 4 dL_behind_1 (by decide) ?_
  refine V.ialdLN hC (4) hq (rfl) (by omega) dL_behind_2 ?_
  refine V.if_ne hC 10 dL_behind_3 (by decide) (fun c_1 => ?_) (fun c_1 => ?_)
  · refine V.aload_n hC dL_behind_10 rfl ?_
    refine V.iconst hC 3 dL_behind_11 (by decide) ?_
    refine V.ialdLN hC (3) hq (rfl) (by omega) dL_behind_12 ?_
    refine V.aload_n hC dL_behind_13 rfl ?_
    refine V.bipush hC 7 dL_behind_14 (by decide) ?_
    refine V.ialdLN hC (7) hq (rfl) (by omega) dL_behind_16 ?_
    refine V.iadd hC dL_behind_17 ?_
    refine V.aload_n hC dL_behind_18 rfl ?_
    refine V.iconst hC 0 dL_behind_19 (by decide) ?_
    refine V.ialdLN hC (0) hq (rfl) (by omega) dL_behind_20 ?_
    refine V.icmp_ge hC 35 dL_behind_21 (by decide) (fun c_2 => ?_) (fun c_2 => ?_)
    · refine V.aload_n hC dL_behind_35 rfl ?_
      refine V.iconst hC 0 dL_behind_36 (by decide) ?_
      refine V.ialdLN hC (0) hq (rfl) (by omega) dL_behind_37 ?_
      exact V.iret hC (by first | (simp [lBehind, c_1, c_2, dk_le1 c_2]; done) | (simp_all [lBehind]; done)) dL_behind_38
    · refine V.aload_n hC dL_behind_24 rfl ?_
      refine V.iconst hC 3 dL_behind_25 (by decide) ?_
      refine V.ialdLN hC (3) hq (rfl) (by omega) dL_behind_26 ?_
      refine V.aload_n hC dL_behind_27 rfl ?_
      refine V.bipush hC 7 dL_behind_28 (by decide) ?_
      refine V.ialdLN hC (7) hq (rfl) (by omega) dL_behind_30 ?_
      refine V.iadd hC dL_behind_31 ?_
      refine V.goto hC 38 dL_behind_32 (by decide) ?_
      exact V.iret hC (by first | (simp [lBehind, c_1, c_2, dk_nle c_2]; done) | (simp_all [lBehind]; done)) dL_behind_38
  · refine V.aload_n hC dL_behind_6 rfl ?_
    refine V.iconst hC 3 dL_behind_7 (by decide) ?_
    refine V.ialdLN hC (3) hq (rfl) (by omega) dL_behind_8 ?_
    exact V.iret hC (by first | (simp [lBehind, c_1]; done) | (simp_all [lBehind]; done)) dL_behind_9
set_option maxHeartbeats 2000000 in
set_option maxRecDepth 20000 in
theorem c_L_key {l : Launch} {G : dkG} {q : Nat} {M : dkM} (hq : lA G q 16) {s : Int32} : dk_Con l yL_key cL_key 3 (some .int) 1 20 G [.int s, .ref (G.1 + q)] M (some (.int (lKey M q s)), M) := by
  refine dk_Con.of mwL_key.1 (Nat.le_of_ble_eq_true rfl) (fun E hE hC => ?_)
  subst hE
  refine V.aload_n hC dL_key_0 rfl ?_
  refine V.iconst hC 2 dL_key_1 (by decide) ?_
  refine V.ialdLN hC (2) hq (rfl) (by omega) dL_key_2 ?_
  refine V.if_ge hC 10 dL_key_3 (by decide) (fun c_1 => ?_) (fun c_1 => ?_)
  · refine V.iload_n hC dL_key_10 rfl ?_
    refine V.aload_n hC dL_key_11 rfl ?_
    refine V.callS1i hC (c_L_first hq) mwL_first mlL_16 ⟨rfl, rfl⟩ dL_key_12 rfl ?_
    refine V.icmp_lt hC 34 dL_key_15 (by decide) (fun c_2 => ?_) (fun c_2 => ?_)
    · refine V.iconst hC 0 dL_key_34 (by decide) ?_
      refine V.istore_n hC dL_key_35 rfl rfl ?_
      refine V.aload_n hC dL_key_36 rfl ?_
      refine V.iconst hC 4 dL_key_37 (by decide) ?_
      refine V.ialdLN hC (4) hq (rfl) (by omega) dL_key_38 ?_
      refine V.iconst hC 1 dL_key_39 (by decide) ?_
      refine V.icmp_ne hC 64 dL_key_40 (by decide) (fun c_3 => ?_) (fun c_3 => ?_)
      · refine V.iload_n hC dL_key_64 rfl ?_
        refine V.aload_n hC dL_key_65 rfl ?_
        refine V.iconst hC 3 dL_key_66 (by decide) ?_
        refine V.ialdLN hC (3) hq (rfl) (by omega) dL_key_67 ?_
        refine V.icmp_ge hC 81 dL_key_68 (by decide) (fun c_4 => ?_) (fun c_4 => ?_)
        · refine V.aload_n hC dL_key_81 rfl ?_
          refine V.iconst hC 1 dL_key_82 (by decide) ?_
          refine V.ialdLN hC (1) hq (rfl) (by omega) dL_key_83 ?_
          exact V.iret hC (by first | (simp [lKey, lRw, c_1, dk_le1 c_1, c_2, dk_lt1 c_2, c_3, c_4, dk_le1 c_4]; done) | (simp_all [lKey, lRw]; done)) dL_key_84
        · refine V.iload_n hC dL_key_71 rfl ?_
          refine V.if_ne_f hC 81 dL_key_72 (by decide) (by decide) ?_
          refine V.aload_n hC dL_key_75 rfl ?_
          refine V.iconst hC 2 dL_key_76 (by decide) ?_
          refine V.ialdLN hC (2) hq (rfl) (by omega) dL_key_77 ?_
          refine V.goto hC 84 dL_key_78 (by decide) ?_
          exact V.iret hC (by first | (simp [lKey, lRw, c_1, dk_le1 c_1, c_2, dk_lt1 c_2, c_3, c_4, dk_nle c_4]; done) | (simp_all [lKey, lRw]; done)) dL_key_84
      · refine V.iload_n hC dL_key_43 rfl ?_
        refine V.aload_n hC dL_key_44 rfl ?_
        refine V.iconst hC 3 dL_key_45 (by decide) ?_
        refine V.ialdLN hC (3) hq (rfl) (by omega) dL_key_46 ?_
        refine V.icmp_lt hC 54 dL_key_47 (by decide) (fun c_4 => ?_) (fun c_4 => ?_)
        · refine V.aload_n hC dL_key_54 rfl ?_
          refine V.iconst hC 2 dL_key_55 (by decide) ?_
          refine V.ialdLN hC (2) hq (rfl) (by omega) dL_key_56 ?_
          refine V.goto hC 63 dL_key_57 (by decide) ?_
          exact V.iret hC (by first | (simp [lKey, lRw, c_1, dk_le1 c_1, c_2, dk_lt1 c_2, c_3, c_4, dk_lt1 c_4]; done) | (simp_all [lKey, lRw]; done)) dL_key_63
        · refine V.iload_n hC dL_key_50 rfl ?_
          refine V.if_eq_t hC 60 dL_key_51 (by decide) (by decide) ?_
          refine V.aload_n hC dL_key_60 rfl ?_
          refine V.iconst hC 1 dL_key_61 (by decide) ?_
          refine V.ialdLN hC (1) hq (rfl) (by omega) dL_key_62 ?_
          exact V.iret hC (by first | (simp [lKey, lRw, c_1, dk_le1 c_1, c_2, dk_lt1 c_2, c_3, c_4, dk_nlt c_4]; done) | (simp_all [lKey, lRw]; done)) dL_key_63
    · refine V.iload_n hC dL_key_18 rfl ?_
      refine V.aload_n hC dL_key_19 rfl ?_
      refine V.callS1i hC (c_L_first hq) mwL_first mlL_16 ⟨rfl, rfl⟩ dL_key_20 rfl ?_
      refine V.aload_n hC dL_key_23 rfl ?_
      refine V.iconst hC 5 dL_key_24 (by decide) ?_
      refine V.ialdLN hC (5) hq (rfl) (by omega) dL_key_25 ?_
      refine V.iadd hC dL_key_26 ?_
      refine V.icmp_ge hC 34 dL_key_27 (by decide) (fun c_3 => ?_) (fun c_3 => ?_)
      · refine V.iconst hC 0 dL_key_34 (by decide) ?_
        refine V.istore_n hC dL_key_35 rfl rfl ?_
        refine V.aload_n hC dL_key_36 rfl ?_
        refine V.iconst hC 4 dL_key_37 (by decide) ?_
        refine V.ialdLN hC (4) hq (rfl) (by omega) dL_key_38 ?_
        refine V.iconst hC 1 dL_key_39 (by decide) ?_
        refine V.icmp_ne hC 64 dL_key_40 (by decide) (fun c_4 => ?_) (fun c_4 => ?_)
        · refine V.iload_n hC dL_key_64 rfl ?_
          refine V.aload_n hC dL_key_65 rfl ?_
          refine V.iconst hC 3 dL_key_66 (by decide) ?_
          refine V.ialdLN hC (3) hq (rfl) (by omega) dL_key_67 ?_
          refine V.icmp_ge hC 81 dL_key_68 (by decide) (fun c_5 => ?_) (fun c_5 => ?_)
          · refine V.aload_n hC dL_key_81 rfl ?_
            refine V.iconst hC 1 dL_key_82 (by decide) ?_
            refine V.ialdLN hC (1) hq (rfl) (by omega) dL_key_83 ?_
            exact V.iret hC (by first | (simp [lKey, lRw, c_1, dk_le1 c_1, c_2, dk_nlt c_2, c_3, dk_le1 c_3, c_4, c_5, dk_le1 c_5]; done) | (simp_all [lKey, lRw]; done)) dL_key_84
          · refine V.iload_n hC dL_key_71 rfl ?_
            refine V.if_ne_f hC 81 dL_key_72 (by decide) (by decide) ?_
            refine V.aload_n hC dL_key_75 rfl ?_
            refine V.iconst hC 2 dL_key_76 (by decide) ?_
            refine V.ialdLN hC (2) hq (rfl) (by omega) dL_key_77 ?_
            refine V.goto hC 84 dL_key_78 (by decide) ?_
            exact V.iret hC (by first | (simp [lKey, lRw, c_1, dk_le1 c_1, c_2, dk_nlt c_2, c_3, dk_le1 c_3, c_4, c_5, dk_nle c_5]; done) | (simp_all [lKey, lRw]; done)) dL_key_84
        · refine V.iload_n hC dL_key_43 rfl ?_
          refine V.aload_n hC dL_key_44 rfl ?_
          refine V.iconst hC 3 dL_key_45 (by decide) ?_
          refine V.ialdLN hC (3) hq (rfl) (by omega) dL_key_46 ?_
          refine V.icmp_lt hC 54 dL_key_47 (by decide) (fun c_5 => ?_) (fun c_5 => ?_)
          · refine V.aload_n hC dL_key_54 rfl ?_
            refine V.iconst hC 2 dL_key_55 (by decide) ?_
            refine V.ialdLN hC (2) hq (rfl) (by omega) dL_key_56 ?_
            refine V.goto hC 63 dL_key_57 (by decide) ?_
            exact V.iret hC (by first | (simp [lKey, lRw, c_1, dk_le1 c_1, c_2, dk_nlt c_2, c_3, dk_le1 c_3, c_4, c_5, dk_lt1 c_5]; done) | (simp_all [lKey, lRw]; done)) dL_key_63
          · refine V.iload_n hC dL_key_50 rfl ?_
            refine V.if_eq_t hC 60 dL_key_51 (by decide) (by decide) ?_
            refine V.aload_n hC dL_key_60 rfl ?_
            refine V.iconst hC 1 dL_key_61 (by decide) ?_
            refine V.ialdLN hC (1) hq (rfl) (by omega) dL_key_62 ?_
            exact V.iret hC (by first | (simp [lKey, lRw, c_1, dk_le1 c_1, c_2, dk_nlt c_2, c_3, dk_le1 c_3, c_4, c_5, dk_nlt c_5]; done) | (simp_all [lKey, lRw]; done)) dL_key_63
      · refine V.iconst hC 1 dL_key_30 (by decide) ?_
        refine V.goto hC 35 dL_key_31 (by decide) ?_
        refine V.istore_n hC dL_key_35 rfl rfl ?_
        refine V.aload_n hC dL_key_36 rfl ?_
        refine V.iconst hC 4 dL_key_37 (by decide) ?_
        refine V.ialdLN hC (4) hq (rfl) (by omega) dL_key_38 ?_
        refine V.iconst hC 1 dL_key_39 (by decide) ?_
        refine V.icmp_ne hC 64 dL_key_40 (by decide) (fun c_4 => ?_) (fun c_4 => ?_)
        · refine V.iload_n hC dL_key_64 rfl ?_
          refine V.aload_n hC dL_key_65 rfl ?_
          refine V.iconst hC 3 dL_key_66 (by decide) ?_
          refine V.ialdLN hC (3) hq (rfl) (by omega) dL_key_67 ?_
          refine V.icmp_ge hC 81 dL_key_68 (by decide) (fun c_5 => ?_) (fun c_5 => ?_)
          · refine V.aload_n hC dL_key_81 rfl ?_
            refine V.iconst hC 1 dL_key_82 (by decide) ?_
            refine V.ialdLN hC (1) hq (rfl) (by omega) dL_key_83 ?_
            exact V.iret hC (by first | (simp [lKey, lRw, c_1, dk_le1 c_1, c_2, dk_nlt c_2, c_3, dk_nle c_3, c_4, c_5, dk_le1 c_5]; done) | (simp_all [lKey, lRw]; done)) dL_key_84
          · refine V.iload_n hC dL_key_71 rfl ?_
            refine V.if_ne_t hC 81 dL_key_72 (by decide) (by decide) ?_
            refine V.aload_n hC dL_key_81 rfl ?_
            refine V.iconst hC 1 dL_key_82 (by decide) ?_
            refine V.ialdLN hC (1) hq (rfl) (by omega) dL_key_83 ?_
            exact V.iret hC (by first | (simp [lKey, lRw, c_1, dk_le1 c_1, c_2, dk_nlt c_2, c_3, dk_nle c_3, c_4, c_5, dk_nle c_5]; done) | (simp_all [lKey, lRw]; done)) dL_key_84
        · refine V.iload_n hC dL_key_43 rfl ?_
          refine V.aload_n hC dL_key_44 rfl ?_
          refine V.iconst hC 3 dL_key_45 (by decide) ?_
          refine V.ialdLN hC (3) hq (rfl) (by omega) dL_key_46 ?_
          refine V.icmp_lt hC 54 dL_key_47 (by decide) (fun c_5 => ?_) (fun c_5 => ?_)
          · refine V.aload_n hC dL_key_54 rfl ?_
            refine V.iconst hC 2 dL_key_55 (by decide) ?_
            refine V.ialdLN hC (2) hq (rfl) (by omega) dL_key_56 ?_
            refine V.goto hC 63 dL_key_57 (by decide) ?_
            exact V.iret hC (by first | (simp [lKey, lRw, c_1, dk_le1 c_1, c_2, dk_nlt c_2, c_3, dk_nle c_3, c_4, c_5, dk_lt1 c_5]; done) | (simp_all [lKey, lRw]; done)) dL_key_63
          · refine V.iload_n hC dL_key_50 rfl ?_
            refine V.if_eq_f hC 60 dL_key_51 (by decide) (by decide) ?_
            refine V.aload_n hC dL_key_54 rfl ?_
            refine V.iconst hC 2 dL_key_55 (by decide) ?_
            refine V.ialdLN hC (2) hq (rfl) (by omega) dL_key_56 ?_
            refine V.goto hC 63 dL_key_57 (by decide) ?_
            exact V.iret hC (by first | (simp [lKey, lRw, c_1, dk_le1 c_1, c_2, dk_nlt c_2, c_3, dk_nle c_3, c_4, c_5, dk_nlt c_5]; done) | (simp_all [lKey, lRw]; done)) dL_key_63
  · refine V.aload_n hC dL_key_6 rfl ?_
    refine V.iconst hC 1 dL_key_7 (by decide) ?_
    refine V.ialdLN hC (1) hq (rfl) (by omega) dL_key_8 ?_
    exact V.iret hC (by first | (simp [lKey, lRw, c_1, dk_nle c_1]; done) | (simp_all [lKey, lRw]; done)) dL_key_9
set_option maxHeartbeats 2000000 in
set_option maxRecDepth 20000 in
theorem c_L_plain {l : Launch} {G : dkG} {q d : Nat} {M : dkM} (hq : lA G q 16) (hd : lA G d 20) {k : Nat} (hk : k < 20) (hkey : 0 ≤ (lKey M q (nI k)).toInt ∧ (lKey M q (nI k)).toInt ≤ 5) : dk_Con l yL_plain cL_plain 3 (some .int) 2 42 G [.int (nI k), .ref (G.1 + q), .ref (G.1 + d)] M (some (.int (lPlain M q d k)), M) := by
  refine dk_Con.of mwL_plain.1 (Nat.le_of_ble_eq_true rfl) (fun E hE hC => ?_)
  subst hE
  have hki := ix_toInt hkey.1
  refine V.aload_n hC dL_plain_0 rfl ?_
  refine V.iload_n hC dL_plain_1 rfl ?_
  refine V.ialdLN hC (k) hd (rfl) (by omega) dL_plain_2 ?_
  refine V.iload_n hC dL_plain_3 rfl ?_
  refine V.aload_n hC dL_plain_4 rfl ?_
  refine V.bipush hC 10 dL_plain_5 (by decide) ?_
  refine V.iload_n hC dL_plain_7 rfl ?_
  refine V.aload_n hC dL_plain_8 rfl ?_
  refine V.callS2i hC (c_L_key hq) mwL_key mlL_22 ⟨rfl, rfl⟩ dL_plain_9 rfl ?_
  refine V.iadd hC dL_plain_12 ?_
  refine V.ialdLN hC (10 + ix (lKey M q (nI k))) hq (dk_addN rfl (nI_ix hkey.1)) (by omega) dL_plain_13 ?_
  refine V.callS3i hC (c_L_mix) mwL_mix mlL_26 ⟨rfl, rfl⟩ dL_plain_14 rfl ?_
  exact V.iret hC (rfl) dL_plain_17
set_option maxHeartbeats 2000000 in
set_option maxRecDepth 20000 in
theorem c_L_close {l : Launch} {G : dkG} {q j : Nat} {M : dkM} (hq : lA G q 16) (hj : lA G j 20)  : dk_Con l yL_close cL_close 3 none 0 0 G [.ref (G.1 + q), .ref (G.1 + j)] M (none, lClose M q j) := by
  refine dk_Con.of mwL_close.1 (Nat.le_of_ble_eq_true rfl) (fun E hE hC => ?_)
  subst hE
  have loop_11 : ∀ (n : Nat) (k : Nat), (k ≤ 20) → (20 < k + n) →  V E G 3 (none, lClose M q j) (lClr (dk_put (dk_put M q 5 0) q 6 0) j k) 11 [(0, some (.ref (G.1 + q))), (1, some (.ref (G.1 + j))), (2, some (.int (nI k)))] [] := by
    intro n
    induction n with
    | zero => intro k hk hn; exact absurd hn (by omega)
    | succ n ih_11 =>
      intro k hk hn
      refine V.iload_n hC dL_close_11 rfl ?_
      refine V.bipush hC 20 dL_close_12 (by decide) ?_
      refine V.icmp_ge hC 28 dL_close_14 (by decide) (fun c_1 => ?_) (fun c_1 => ?_)
      · have hke : k = 20 := by have := (dk_gek (k := k) (by omega)).mp c_1; rw [show ix 20 = 20 from by decide] at this; omega
        exact V.vret hC (by rw [hke]; rfl) dL_close_28
      · have hkl : k < 20 := by have := mt (dk_gek (k := k) (by omega)).mpr c_1; rw [show ix 20 = 20 from by decide] at this; omega
        refine V.aload_n hC dL_close_17 rfl ?_
        refine V.iload_n hC dL_close_18 rfl ?_
        refine V.bipush hC (-6) dL_close_19 (by decide) ?_
        refine V.iastLN hC (k) hj (rfl) (by omega) dL_close_21 ?_
        refine V.iinc hC dL_close_22 rfl (dk_incN _) rfl ?_
        refine V.goto hC 11 dL_close_25 (by decide) ?_
        refine V.eqM (lClr_s _ _ _) ?_
        exact V.sub (dk_sc rfl (dk_sc rfl (dk_sc rfl (dk_sn)))) (ih_11 (k + 1) (by omega) (by omega))
  refine V.aload_n hC dL_close_0 rfl ?_
  refine V.iconst hC 5 dL_close_1 (by decide) ?_
  refine V.iconst hC 0 dL_close_2 (by decide) ?_
  refine V.iastLN hC (5) hq (rfl) (by omega) dL_close_3 ?_
  refine V.aload_n hC dL_close_4 rfl ?_
  refine V.bipush hC 6 dL_close_5 (by decide) ?_
  refine V.iconst hC 0 dL_close_7 (by decide) ?_
  refine V.iastLN hC (6) hq (rfl) (by omega) dL_close_8 ?_
  refine V.iconst hC 0 dL_close_9 (by decide) ?_
  refine V.istore_n hC dL_close_10 rfl rfl ?_
  refine V.eqM ((lClr_0 _ j).symm) ?_
  exact V.sub (dk_sc rfl (dk_sc rfl (dk_sc rfl (dk_sn)))) (loop_11 21 0 (Nat.zero_le _) (by omega))
set_option maxHeartbeats 2000000 in
set_option maxRecDepth 20000 in
theorem c_L_end {l : Launch} {G : dkG} {q j : Nat} {M : dkM} (hq : lA G q 16) (hj : lA G j 20)  : dk_Con l yL_end cL_end 3 none 1 22 G [.ref (G.1 + q), .ref (G.1 + j)] M (none, lEnd M q j) := by
  refine dk_Con.of mwL_end.1 (Nat.le_of_ble_eq_true rfl) (fun E hE hC => ?_)
  subst hE
  refine V.aload_n hC dL_end_0 rfl ?_
  refine V.iconst hC 4 dL_end_1 (by decide) ?_
  refine V.ialdLN hC (4) hq (rfl) (by omega) dL_end_2 ?_
  refine V.iconst hC 1 dL_end_3 (by decide) ?_
  refine V.icmp_ne hC 20 dL_end_4 (by decide) (fun c_1 => ?_) (fun c_1 => ?_)
  · refine V.iconst hC 0 dL_end_20 (by decide) ?_
    refine V.istore_n hC dL_end_21 rfl rfl ?_
    refine V.iload_n hC dL_end_22 rfl ?_
    refine V.if_ne_f hC 40 dL_end_23 (by decide) (by decide) ?_
    refine V.aload_n hC dL_end_26 rfl ?_
    refine V.iconst hC 4 dL_end_27 (by decide) ?_
    refine V.ialdLN hC (4) hq (rfl) (by omega) dL_end_28 ?_
    refine V.iconst hC 1 dL_end_29 (by decide) ?_
    refine V.icmp_eq hC 39 dL_end_30 (by decide) (fun c_2 => ?_) (fun c_2 => ?_)
    · exact V.vret hC (by first | (simp [lEnd, lOff, lDone, c_1, c_2]; done) | (simp_all [lEnd, lOff, lDone]; done)) dL_end_39
    · refine V.aload_n hC dL_end_33 rfl ?_
      refine V.iconst hC 3 dL_end_34 (by decide) ?_
      refine V.ialdLN hC (3) hq (rfl) (by omega) dL_end_35 ?_
      refine V.if_le hC 40 dL_end_36 (by decide) (fun c_3 => ?_) (fun c_3 => ?_)
      · refine V.iload_n hC dL_end_40 rfl ?_
        refine V.if_eq_t hC 58 dL_end_41 (by decide) (by decide) ?_
        refine V.aload_n hC dL_end_58 rfl ?_
        refine V.iconst hC 2 dL_end_59 (by decide) ?_
        refine V.bipush hC (-6) dL_end_60 (by decide) ?_
        refine V.iastLN hC (2) hq (rfl) (by omega) dL_end_62 ?_
        refine V.aload_n hC dL_end_63 rfl ?_
        refine V.iconst hC 3 dL_end_64 (by decide) ?_
        refine V.bipush hC (-6) dL_end_65 (by decide) ?_
        refine V.iastLN hC (3) hq (rfl) (by omega) dL_end_67 ?_
        refine V.aload_n hC dL_end_68 rfl ?_
        refine V.iconst hC 4 dL_end_69 (by decide) ?_
        refine V.bipush hC (-6) dL_end_70 (by decide) ?_
        refine V.iastLN hC (4) hq (rfl) (by omega) dL_end_72 ?_
        refine V.aload_n hC dL_end_73 rfl ?_
        refine V.aload_n hC dL_end_74 rfl ?_
        refine V.callS2v hC (c_L_close hq hj) mwL_close mlL_30 ⟨rfl, rfl⟩ dL_end_75 rfl ?_
        exact V.vret hC (by first | (simp [lEnd, lOff, lDone, c_1, c_2, c_3, dk_le1 c_3]; done) | (simp_all [lEnd, lOff, lDone]; done)) dL_end_78
      · exact V.vret hC (by first | (simp [lEnd, lOff, lDone, c_1, c_2, c_3, dk_nle c_3]; done) | (simp_all [lEnd, lOff, lDone]; done)) dL_end_39
  · refine V.aload_n hC dL_end_7 rfl ?_
    refine V.iconst hC 3 dL_end_8 (by decide) ?_
    refine V.ialdLN hC (3) hq (rfl) (by omega) dL_end_9 ?_
    refine V.aload_n hC dL_end_10 rfl ?_
    refine V.iconst hC 0 dL_end_11 (by decide) ?_
    refine V.ialdLN hC (0) hq (rfl) (by omega) dL_end_12 ?_
    refine V.icmp_ne hC 20 dL_end_13 (by decide) (fun c_2 => ?_) (fun c_2 => ?_)
    · refine V.iconst hC 0 dL_end_20 (by decide) ?_
      refine V.istore_n hC dL_end_21 rfl rfl ?_
      refine V.iload_n hC dL_end_22 rfl ?_
      refine V.if_ne_f hC 40 dL_end_23 (by decide) (by decide) ?_
      refine V.aload_n hC dL_end_26 rfl ?_
      refine V.iconst hC 4 dL_end_27 (by decide) ?_
      refine V.ialdLN hC (4) hq (rfl) (by omega) dL_end_28 ?_
      refine V.iconst hC 1 dL_end_29 (by decide) ?_
      refine V.icmp_eq hC 39 dL_end_30 (by decide) (fun c_3 => ?_) (fun c_3 => ?_)
      · exact V.vret hC (by first | (simp [lEnd, lOff, lDone, c_1, c_2, c_3]; done) | (simp_all [lEnd, lOff, lDone]; done)) dL_end_39
      · refine V.aload_n hC dL_end_33 rfl ?_
        refine V.iconst hC 3 dL_end_34 (by decide) ?_
        refine V.ialdLN hC (3) hq (rfl) (by omega) dL_end_35 ?_
        refine V.if_le hC 40 dL_end_36 (by decide) (fun c_4 => ?_) (fun c_4 => ?_)
        · refine V.iload_n hC dL_end_40 rfl ?_
          refine V.if_eq_t hC 58 dL_end_41 (by decide) (by decide) ?_
          refine V.aload_n hC dL_end_58 rfl ?_
          refine V.iconst hC 2 dL_end_59 (by decide) ?_
          refine V.bipush hC (-6) dL_end_60 (by decide) ?_
          refine V.iastLN hC (2) hq (rfl) (by omega) dL_end_62 ?_
          refine V.aload_n hC dL_end_63 rfl ?_
          refine V.iconst hC 3 dL_end_64 (by decide) ?_
          refine V.bipush hC (-6) dL_end_65 (by decide) ?_
          refine V.iastLN hC (3) hq (rfl) (by omega) dL_end_67 ?_
          refine V.aload_n hC dL_end_68 rfl ?_
          refine V.iconst hC 4 dL_end_69 (by decide) ?_
          refine V.bipush hC (-6) dL_end_70 (by decide) ?_
          refine V.iastLN hC (4) hq (rfl) (by omega) dL_end_72 ?_
          refine V.aload_n hC dL_end_73 rfl ?_
          refine V.aload_n hC dL_end_74 rfl ?_
          refine V.callS2v hC (c_L_close hq hj) mwL_close mlL_30 ⟨rfl, rfl⟩ dL_end_75 rfl ?_
          exact V.vret hC (by first | (simp [lEnd, lOff, lDone, c_1, c_2, c_3, c_4, dk_le1 c_4]; done) | (simp_all [lEnd, lOff, lDone]; done)) dL_end_78
        · exact V.vret hC (by first | (simp [lEnd, lOff, lDone, c_1, c_2, c_3, c_4, dk_nle c_4]; done) | (simp_all [lEnd, lOff, lDone]; done)) dL_end_39
    · refine V.iconst hC 1 dL_end_16 (by decide) ?_
      refine V.goto hC 21 dL_end_17 (by decide) ?_
      refine V.istore_n hC dL_end_21 rfl rfl ?_
      refine V.iload_n hC dL_end_22 rfl ?_
      refine V.if_ne_t hC 40 dL_end_23 (by decide) (by decide) ?_
      refine V.iload_n hC dL_end_40 rfl ?_
      refine V.if_eq_f hC 58 dL_end_41 (by decide) (by decide) ?_
      refine V.aload_n hC dL_end_44 rfl ?_
      refine V.iconst hC 1 dL_end_45 (by decide) ?_
      refine V.aload_n hC dL_end_46 rfl ?_
      refine V.iconst hC 2 dL_end_47 (by decide) ?_
      refine V.ialdLN hC (2) hq (rfl) (by omega) dL_end_48 ?_
      refine V.iastLN hC (1) hq (rfl) (by omega) dL_end_49 ?_
      refine V.aload_n hC dL_end_50 rfl ?_
      refine V.bipush hC 9 dL_end_51 (by decide) ?_
      refine V.dup2 hC dL_end_53 rfl rfl ?_
      refine V.ialdLN hC (9) hq (rfl) (by omega) dL_end_54 ?_
      refine V.iconst hC 1 dL_end_55 (by decide) ?_
      refine V.iadd hC dL_end_56 ?_
      refine V.iastLN hC (9) hq (rfl) (by omega) dL_end_57 ?_
      refine V.aload_n hC dL_end_58 rfl ?_
      refine V.iconst hC 2 dL_end_59 (by decide) ?_
      refine V.bipush hC (-6) dL_end_60 (by decide) ?_
      refine V.iastLN hC (2) hq (rfl) (by omega) dL_end_62 ?_
      refine V.aload_n hC dL_end_63 rfl ?_
      refine V.iconst hC 3 dL_end_64 (by decide) ?_
      refine V.bipush hC (-6) dL_end_65 (by decide) ?_
      refine V.iastLN hC (3) hq (rfl) (by omega) dL_end_67 ?_
      refine V.aload_n hC dL_end_68 rfl ?_
      refine V.iconst hC 4 dL_end_69 (by decide) ?_
      refine V.bipush hC (-6) dL_end_70 (by decide) ?_
      refine V.iastLN hC (4) hq (rfl) (by omega) dL_end_72 ?_
      refine V.aload_n hC dL_end_73 rfl ?_
      refine V.aload_n hC dL_end_74 rfl ?_
      refine V.callS2v hC (c_L_close hq hj) mwL_close mlL_30 ⟨rfl, rfl⟩ dL_end_75 rfl ?_
      exact V.vret hC (by first | (simp [lEnd, lOff, lDone, c_1, c_2]; done) | (simp_all [lEnd, lOff, lDone]; done)) dL_end_78
set_option maxHeartbeats 2000000 in
set_option maxRecDepth 20000 in
theorem c_L_step {l : Launch} {G : dkG} {q d j : Nat} {M : dkM} (hq : lA G q 16) (hd : lA G d 20) (hj : lA G j 20) (hB : lB M q) (hqd : q ≠ d) (hqj : q ≠ j) (hdj : d ≠ j) : dk_Con l yL_step cL_step 7 (some .boolean) 3 64 G [.ref (G.1 + q), .ref (G.1 + d), .ref (G.1 + j)] M (some (.int (bI (lGo M q))), lStep M q d j) := by
  refine dk_Con.of mwL_step.1 (Nat.le_of_ble_eq_true rfl) (fun E hE hC => ?_)
  subst hE
  obtain ⟨⟨hf0, hf1⟩, ⟨hb0, hb1⟩, ⟨hr0, hr1⟩, hK⟩ := hB
  have if0 := ix_toInt hf0
  have ib0 := ix_toInt hb0
  have ir0 := ix_toInt hr0
  have loop_43 : ∀ (n : Nat) (k : Nat), (0 ≤ M q 2) → (M q 8 = 1) → (M q 6 = 0) → (M q 5 = 0) → (k ≤ ix (lBehind M q) - ix (lFirst M q)) → (ix (lBehind M q) - ix (lFirst M q) < k + n) →  V E G 7 (some (.int (bI (lGo M q))), lStep M q d j) (ljL M d j (ix (lFirst M q)) k) 43 [(0, some (.ref (G.1 + q))), (1, some (.ref (G.1 + d))), (2, some (.ref (G.1 + j))), (4, some (.int (nI (ix (lBehind M q))))), (5, some (.int (nI (ix (lFirst M q) + k))))] [] := by
    intro n
    induction n with
    | zero => intro k h2 h8 h6 h5 hk hn; exact absurd hn (by omega)
    | succ n ih_43 =>
      intro k h2 h8 h6 h5 hk hn
      refine V.iload hC dL_step_43 rfl ?_
      refine V.iload hC dL_step_45 rfl ?_
      refine V.icmp_ge hC 64 dL_step_47 (by decide) (fun c_1 => ?_) (fun c_1 => ?_)
      · have hke : k = ix (lBehind M q) - ix (lFirst M q) := by have := (dk_gek (k := ix (lFirst M q) + k) (by omega)).mp c_1; rw [ix_nI (by omega)] at this; omega
        refine V.aload_n hC dL_step_64 rfl ?_
        refine V.bipush hC 6 dL_step_65 (by decide) ?_
        refine V.iconst hC 1 dL_step_67 (by decide) ?_
        refine V.iastLN hC (6) hq (rfl) (by omega) dL_step_68 ?_
        refine V.goto hC 171 dL_step_69 (by decide) ?_
        refine V.iconst hC 1 dL_step_171 (by decide) ?_
        exact V.zret hC (by first | (rw [hke]; simp [lGo, lStep, bI, h2, h8, h6, h5]; done) | (rw [show lStep M q d j = lRwr M q d (lS M q) from (by unfold lStep; rw [if_pos c_1, if_neg (by simp [c_1, dk_le1 c_1]), if_neg hz])]; rw [show lGo M q = true from (by unfold lGo; rw [if_pos c_1])]; unfold lRwr lRwD lS; rfl) | (rw [show lStep M q d j = lEnd (lClose (dk_put M q 3 (if M q 4 = 1 then nI (ix (lBehind M q)) else nI (ix (lFirst M q)))) q j) q j from (by unfold lStep; rw [if_pos c_1, if_neg (by simp [c_1, dk_le1 c_1]), if_pos hz])]; rw [show lGo M q = true from (by unfold lGo; rw [if_pos c_1])]; simp [bI, c_1, dk_le1 c_1]; done) | (simp [lGo, lStep, bI, c_1, dk_le1 c_1]; done)) (by decide) dL_step_172
      · have hkl : k < ix (lBehind M q) - ix (lFirst M q) := by have := mt (dk_gek (k := ix (lFirst M q) + k) (by omega)).mpr c_1; rw [ix_nI (by omega)] at this; omega
        refine V.aload_n hC dL_step_50 rfl ?_
        refine V.iload hC dL_step_51 rfl ?_
        refine V.aload_n hC dL_step_53 rfl ?_
        refine V.iload hC dL_step_54 rfl ?_
        refine V.ialdLN hC (ix (lFirst M q) + k) hd (rfl) (by omega) dL_step_56 ?_
        refine V.iastLN hC (ix (lFirst M q) + k) hj (rfl) (by omega) dL_step_57 ?_
        refine V.iinc hC dL_step_58 rfl (dk_incN _) rfl ?_
        refine V.goto hC 43 dL_step_61 (by decide) ?_
        exact V.sub (dk_sc rfl (dk_sc rfl (dk_sc rfl (dk_sc rfl (dk_sc rfl (dk_sn)))))) (ih_43 (k + 1) h2 h8 h6 h5 (by omega) (by omega))
  refine V.aload_n hC dL_step_0 rfl ?_
  refine V.iconst hC 2 dL_step_1 (by decide) ?_
  refine V.ialdLN hC (2) hq (rfl) (by omega) dL_step_2 ?_
  refine V.if_ge hC 8 dL_step_3 (by decide) (fun c_1 => ?_) (fun c_1 => ?_)
  · refine V.aload_n hC dL_step_8 rfl ?_
    refine V.callS1i hC (c_L_first hq) mwL_first mlL_16 ⟨rfl, rfl⟩ dL_step_9 rfl ?_
    refine V.top (congrArg Value.int (nI_ix hf0)) ?_
    refine V.istore_n hC dL_step_12 rfl rfl ?_
    refine V.aload_n hC dL_step_13 rfl ?_
    refine V.callS1i hC (c_L_behind hq) mwL_behind mlL_34 ⟨rfl, rfl⟩ dL_step_14 rfl ?_
    refine V.top (congrArg Value.int (nI_ix hb0)) ?_
    refine V.istore hC dL_step_17 rfl rfl ?_
    refine V.aload_n hC dL_step_19 rfl ?_
    refine V.bipush hC 8 dL_step_20 (by decide) ?_
    refine V.ialdLN hC (8) hq (rfl) (by omega) dL_step_22 ?_
    refine V.iconst hC 1 dL_step_23 (by decide) ?_
    refine V.icmp_ne hC 72 dL_step_24 (by decide) (fun c_2 => ?_) (fun c_2 => ?_)
    · refine V.iload_n hC dL_step_72 rfl ?_
      refine V.aload_n hC dL_step_73 rfl ?_
      refine V.iconst hC 5 dL_step_74 (by decide) ?_
      refine V.ialdLN hC (5) hq (rfl) (by omega) dL_step_75 ?_
      refine V.top (congrArg Value.int (nI_ix hr0)) ?_
      refine V.iadd hC dL_step_76 ?_
      refine V.iload hC dL_step_77 rfl ?_
      refine V.icmp_ge hC 145 dL_step_79 (by decide) (fun c_3 => ?_) (fun c_3 => ?_)
      · have hz : ix (lBehind M q) ≤ lS M q := by have h := c_3; rw [dk_addN rfl rfl, dk_gek (by omega), ix_nI (by omega)] at h; exact h
        refine V.aload_n hC dL_step_145 rfl ?_
        refine V.iconst hC 3 dL_step_146 (by decide) ?_
        refine V.aload_n hC dL_step_147 rfl ?_
        refine V.iconst hC 4 dL_step_148 (by decide) ?_
        refine V.ialdLN hC (4) hq (rfl) (by omega) dL_step_149 ?_
        refine V.iconst hC 1 dL_step_150 (by decide) ?_
        refine V.icmp_ne hC 159 dL_step_151 (by decide) (fun c_4 => ?_) (fun c_4 => ?_)
        · refine V.iload_n hC dL_step_159 rfl ?_
          refine V.iastLN hC (3) hq (rfl) (by omega) dL_step_160 ?_
          refine V.aload_n hC dL_step_161 rfl ?_
          refine V.aload_n hC dL_step_162 rfl ?_
          refine V.callS2v hC (c_L_close hq hj) mwL_close mlL_30 ⟨rfl, rfl⟩ dL_step_163 rfl ?_
          refine V.aload_n hC dL_step_166 rfl ?_
          refine V.aload_n hC dL_step_167 rfl ?_
          refine V.callS2v hC (c_L_end hq hj) mwL_end mlL_41 ⟨rfl, rfl⟩ dL_step_168 rfl ?_
          refine V.iconst hC 1 dL_step_171 (by decide) ?_
          exact V.zret hC (by first | (rw [hke]; simp [lGo, lStep, bI, h2, h8, h6, h5]; done) | (rw [show lStep M q d j = lRwr M q d (lS M q) from (by unfold lStep; rw [if_pos c_1, if_neg (by simp [c_1, dk_le1 c_1, c_2, c_3, dk_le1 c_3, c_4]), if_neg hz])]; rw [show lGo M q = true from (by unfold lGo; rw [if_pos c_1])]; unfold lRwr lRwD lS; rfl) | (rw [show lStep M q d j = lEnd (lClose (dk_put M q 3 (if M q 4 = 1 then nI (ix (lBehind M q)) else nI (ix (lFirst M q)))) q j) q j from (by unfold lStep; rw [if_pos c_1, if_neg (by simp [c_1, dk_le1 c_1, c_2, c_3, dk_le1 c_3, c_4]), if_pos hz])]; rw [show lGo M q = true from (by unfold lGo; rw [if_pos c_1])]; simp [bI, c_1, dk_le1 c_1, c_2, c_3, dk_le1 c_3, c_4]; done) | (simp [lGo, lStep, bI, c_1, dk_le1 c_1, c_2, c_3, dk_le1 c_3, c_4]; done)) (by decide) dL_step_172
        · refine V.iload hC dL_step_154 rfl ?_
          refine V.goto hC 160 dL_step_156 (by decide) ?_
          refine V.iastLN hC (3) hq (rfl) (by omega) dL_step_160 ?_
          refine V.aload_n hC dL_step_161 rfl ?_
          refine V.aload_n hC dL_step_162 rfl ?_
          refine V.callS2v hC (c_L_close hq hj) mwL_close mlL_30 ⟨rfl, rfl⟩ dL_step_163 rfl ?_
          refine V.aload_n hC dL_step_166 rfl ?_
          refine V.aload_n hC dL_step_167 rfl ?_
          refine V.callS2v hC (c_L_end hq hj) mwL_end mlL_41 ⟨rfl, rfl⟩ dL_step_168 rfl ?_
          refine V.iconst hC 1 dL_step_171 (by decide) ?_
          exact V.zret hC (by first | (rw [hke]; simp [lGo, lStep, bI, h2, h8, h6, h5]; done) | (rw [show lStep M q d j = lRwr M q d (lS M q) from (by unfold lStep; rw [if_pos c_1, if_neg (by simp [c_1, dk_le1 c_1, c_2, c_3, dk_le1 c_3, c_4]), if_neg hz])]; rw [show lGo M q = true from (by unfold lGo; rw [if_pos c_1])]; unfold lRwr lRwD lS; rfl) | (rw [show lStep M q d j = lEnd (lClose (dk_put M q 3 (if M q 4 = 1 then nI (ix (lBehind M q)) else nI (ix (lFirst M q)))) q j) q j from (by unfold lStep; rw [if_pos c_1, if_neg (by simp [c_1, dk_le1 c_1, c_2, c_3, dk_le1 c_3, c_4]), if_pos hz])]; rw [show lGo M q = true from (by unfold lGo; rw [if_pos c_1])]; simp [bI, c_1, dk_le1 c_1, c_2, c_3, dk_le1 c_3, c_4]; done) | (simp [lGo, lStep, bI, c_1, dk_le1 c_1, c_2, c_3, dk_le1 c_3, c_4]; done)) (by decide) dL_step_172
      · have hz : ¬ ix (lBehind M q) ≤ lS M q := by have h := c_3; rw [dk_addN rfl rfl, dk_gek (by omega), ix_nI (by omega)] at h; exact h
        have hs20 : ix (lFirst M q) + ix (M q 5) < 20 := by unfold lS at hz; omega
        have ho0 := lOth_b hK c_1 (lKey M q (nI (ix (lFirst M q) + ix (M q 5))))
        refine V.iload_n hC dL_step_82 rfl ?_
        refine V.aload_n hC dL_step_83 rfl ?_
        refine V.iconst hC 5 dL_step_84 (by decide) ?_
        refine V.ialdLN hC (5) hq (rfl) (by omega) dL_step_85 ?_
        refine V.top (congrArg Value.int (nI_ix hr0)) ?_
        refine V.iadd hC dL_step_86 ?_
        refine V.top (congrArg Value.int (dk_addN rfl rfl)) ?_
        refine V.istore hC dL_step_87 rfl rfl ?_
        refine V.iload hC dL_step_89 rfl ?_
        refine V.aload_n hC dL_step_91 rfl ?_
        refine V.callS2i hC (c_L_key hq) mwL_key mlL_22 ⟨rfl, rfl⟩ dL_step_92 rfl ?_
        refine V.aload_n hC dL_step_95 rfl ?_
        refine V.iconst hC 1 dL_step_96 (by decide) ?_
        refine V.ialdLN hC (1) hq (rfl) (by omega) dL_step_97 ?_
        refine V.icmp_ne hC 107 dL_step_98 (by decide) (fun c_4 => ?_) (fun c_4 => ?_)
        · have hio : (10 : Int32) + M q 1 = nI (10 + ix (lOth M q (lKey M q (nI (ix (lFirst M q) + ix (M q 5)))))) := by
            have e : lOth M q (lKey M q (nI (ix (lFirst M q) + ix (M q 5)))) = M q 1 := by unfold lOth; rw [if_neg c_4]
            rw [e] at ho0 ⊢
            exact dk_addN rfl (nI_ix ho0.1)
          refine V.aload_n hC dL_step_107 rfl ?_
          refine V.iconst hC 1 dL_step_108 (by decide) ?_
          refine V.ialdLN hC (1) hq (rfl) (by omega) dL_step_109 ?_
          refine V.istore hC dL_step_110 rfl rfl ?_
          refine V.aload_n hC dL_step_112 rfl ?_
          refine V.iload hC dL_step_113 rfl ?_
          refine V.iload hC dL_step_115 rfl ?_
          refine V.aload_n hC dL_step_117 rfl ?_
          refine V.aload_n hC dL_step_118 rfl ?_
          refine V.callS3i hC (c_L_plain hq hd hs20 (lKey_b hK _)) mwL_plain mlL_37 ⟨rfl, rfl⟩ dL_step_119 rfl ?_
          refine V.iload hC dL_step_122 rfl ?_
          refine V.aload_n hC dL_step_124 rfl ?_
          refine V.bipush hC 10 dL_step_125 (by decide) ?_
          refine V.iload hC dL_step_127 rfl ?_
          refine V.iadd hC dL_step_129 ?_
          refine V.ialdLN hC (10 + ix (lOth M q (lKey M q (nI (ix (lFirst M q) + ix (M q 5)))))) hq (hio) (by have := ix_toInt ho0.1; omega) dL_step_130 ?_
          refine V.callS3i hC (c_L_mix) mwL_mix mlL_26 ⟨rfl, rfl⟩ dL_step_131 rfl ?_
          refine V.iastLN hC (ix (lFirst M q) + ix (M q 5)) hd (rfl) (by omega) dL_step_134 ?_
          refine V.aload_n hC dL_step_135 rfl ?_
          refine V.iconst hC 5 dL_step_136 (by decide) ?_
          refine V.dup2 hC dL_step_137 rfl rfl ?_
          refine V.ialdLN hC (5) hq (rfl) (by omega) dL_step_138 ?_
          refine V.iconst hC 1 dL_step_139 (by decide) ?_
          refine V.iadd hC dL_step_140 ?_
          refine V.iastLN hC (5) hq (rfl) (by omega) dL_step_141 ?_
          refine V.goto hC 171 dL_step_142 (by decide) ?_
          refine V.iconst hC 1 dL_step_171 (by decide) ?_
          exact V.zret hC (by first | (rw [hke]; simp [lGo, lStep, bI, h2, h8, h6, h5]; done) | (rw [show lStep M q d j = lRwr M q d (lS M q) from (by unfold lStep; rw [if_pos c_1, if_neg (by simp [c_1, dk_le1 c_1, c_2, c_3, dk_nle c_3, c_4]), if_neg hz])]; rw [show lGo M q = true from (by unfold lGo; rw [if_pos c_1])]; unfold lRwr lRwD lS; rfl) | (rw [show lStep M q d j = lEnd (lClose (dk_put M q 3 (if M q 4 = 1 then nI (ix (lBehind M q)) else nI (ix (lFirst M q)))) q j) q j from (by unfold lStep; rw [if_pos c_1, if_neg (by simp [c_1, dk_le1 c_1, c_2, c_3, dk_nle c_3, c_4]), if_pos hz])]; rw [show lGo M q = true from (by unfold lGo; rw [if_pos c_1])]; simp [bI, c_1, dk_le1 c_1, c_2, c_3, dk_nle c_3, c_4]; done) | (simp [lGo, lStep, bI, c_1, dk_le1 c_1, c_2, c_3, dk_nle c_3, c_4]; done)) (by decide) dL_step_172
        · have hio : (10 : Int32) + M q 2 = nI (10 + ix (lOth M q (lKey M q (nI (ix (lFirst M q) + ix (M q 5)))))) := by
            have e : lOth M q (lKey M q (nI (ix (lFirst M q) + ix (M q 5)))) = M q 2 := by unfold lOth; rw [if_pos c_4]
            rw [e] at ho0 ⊢
            exact dk_addN rfl (nI_ix ho0.1)
          refine V.aload_n hC dL_step_101 rfl ?_
          refine V.iconst hC 2 dL_step_102 (by decide) ?_
          refine V.ialdLN hC (2) hq (rfl) (by omega) dL_step_103 ?_
          refine V.goto hC 110 dL_step_104 (by decide) ?_
          refine V.istore hC dL_step_110 rfl rfl ?_
          refine V.aload_n hC dL_step_112 rfl ?_
          refine V.iload hC dL_step_113 rfl ?_
          refine V.iload hC dL_step_115 rfl ?_
          refine V.aload_n hC dL_step_117 rfl ?_
          refine V.aload_n hC dL_step_118 rfl ?_
          refine V.callS3i hC (c_L_plain hq hd hs20 (lKey_b hK _)) mwL_plain mlL_37 ⟨rfl, rfl⟩ dL_step_119 rfl ?_
          refine V.iload hC dL_step_122 rfl ?_
          refine V.aload_n hC dL_step_124 rfl ?_
          refine V.bipush hC 10 dL_step_125 (by decide) ?_
          refine V.iload hC dL_step_127 rfl ?_
          refine V.iadd hC dL_step_129 ?_
          refine V.ialdLN hC (10 + ix (lOth M q (lKey M q (nI (ix (lFirst M q) + ix (M q 5)))))) hq (hio) (by have := ix_toInt ho0.1; omega) dL_step_130 ?_
          refine V.callS3i hC (c_L_mix) mwL_mix mlL_26 ⟨rfl, rfl⟩ dL_step_131 rfl ?_
          refine V.iastLN hC (ix (lFirst M q) + ix (M q 5)) hd (rfl) (by omega) dL_step_134 ?_
          refine V.aload_n hC dL_step_135 rfl ?_
          refine V.iconst hC 5 dL_step_136 (by decide) ?_
          refine V.dup2 hC dL_step_137 rfl rfl ?_
          refine V.ialdLN hC (5) hq (rfl) (by omega) dL_step_138 ?_
          refine V.iconst hC 1 dL_step_139 (by decide) ?_
          refine V.iadd hC dL_step_140 ?_
          refine V.iastLN hC (5) hq (rfl) (by omega) dL_step_141 ?_
          refine V.goto hC 171 dL_step_142 (by decide) ?_
          refine V.iconst hC 1 dL_step_171 (by decide) ?_
          exact V.zret hC (by first | (rw [hke]; simp [lGo, lStep, bI, h2, h8, h6, h5]; done) | (rw [show lStep M q d j = lRwr M q d (lS M q) from (by unfold lStep; rw [if_pos c_1, if_neg (by simp [c_1, dk_le1 c_1, c_2, c_3, dk_nle c_3, c_4]), if_neg hz])]; rw [show lGo M q = true from (by unfold lGo; rw [if_pos c_1])]; unfold lRwr lRwD lS; rfl) | (rw [show lStep M q d j = lEnd (lClose (dk_put M q 3 (if M q 4 = 1 then nI (ix (lBehind M q)) else nI (ix (lFirst M q)))) q j) q j from (by unfold lStep; rw [if_pos c_1, if_neg (by simp [c_1, dk_le1 c_1, c_2, c_3, dk_nle c_3, c_4]), if_pos hz])]; rw [show lGo M q = true from (by unfold lGo; rw [if_pos c_1])]; simp [bI, c_1, dk_le1 c_1, c_2, c_3, dk_nle c_3, c_4]; done) | (simp [lGo, lStep, bI, c_1, dk_le1 c_1, c_2, c_3, dk_nle c_3, c_4]; done)) (by decide) dL_step_172
    · refine V.aload_n hC dL_step_27 rfl ?_
      refine V.bipush hC 6 dL_step_28 (by decide) ?_
      refine V.ialdLN hC (6) hq (rfl) (by omega) dL_step_30 ?_
      refine V.if_ne hC 72 dL_step_31 (by decide) (fun c_3 => ?_) (fun c_3 => ?_)
      · refine V.iload_n hC dL_step_72 rfl ?_
        refine V.aload_n hC dL_step_73 rfl ?_
        refine V.iconst hC 5 dL_step_74 (by decide) ?_
        refine V.ialdLN hC (5) hq (rfl) (by omega) dL_step_75 ?_
        refine V.top (congrArg Value.int (nI_ix hr0)) ?_
        refine V.iadd hC dL_step_76 ?_
        refine V.iload hC dL_step_77 rfl ?_
        refine V.icmp_ge hC 145 dL_step_79 (by decide) (fun c_4 => ?_) (fun c_4 => ?_)
        · have hz : ix (lBehind M q) ≤ lS M q := by have h := c_4; rw [dk_addN rfl rfl, dk_gek (by omega), ix_nI (by omega)] at h; exact h
          refine V.aload_n hC dL_step_145 rfl ?_
          refine V.iconst hC 3 dL_step_146 (by decide) ?_
          refine V.aload_n hC dL_step_147 rfl ?_
          refine V.iconst hC 4 dL_step_148 (by decide) ?_
          refine V.ialdLN hC (4) hq (rfl) (by omega) dL_step_149 ?_
          refine V.iconst hC 1 dL_step_150 (by decide) ?_
          refine V.icmp_ne hC 159 dL_step_151 (by decide) (fun c_5 => ?_) (fun c_5 => ?_)
          · refine V.iload_n hC dL_step_159 rfl ?_
            refine V.iastLN hC (3) hq (rfl) (by omega) dL_step_160 ?_
            refine V.aload_n hC dL_step_161 rfl ?_
            refine V.aload_n hC dL_step_162 rfl ?_
            refine V.callS2v hC (c_L_close hq hj) mwL_close mlL_30 ⟨rfl, rfl⟩ dL_step_163 rfl ?_
            refine V.aload_n hC dL_step_166 rfl ?_
            refine V.aload_n hC dL_step_167 rfl ?_
            refine V.callS2v hC (c_L_end hq hj) mwL_end mlL_41 ⟨rfl, rfl⟩ dL_step_168 rfl ?_
            refine V.iconst hC 1 dL_step_171 (by decide) ?_
            exact V.zret hC (by first | (rw [hke]; simp [lGo, lStep, bI, h2, h8, h6, h5]; done) | (rw [show lStep M q d j = lRwr M q d (lS M q) from (by unfold lStep; rw [if_pos c_1, if_neg (by simp [c_1, dk_le1 c_1, c_2, c_3, c_4, dk_le1 c_4, c_5]), if_neg hz])]; rw [show lGo M q = true from (by unfold lGo; rw [if_pos c_1])]; unfold lRwr lRwD lS; rfl) | (rw [show lStep M q d j = lEnd (lClose (dk_put M q 3 (if M q 4 = 1 then nI (ix (lBehind M q)) else nI (ix (lFirst M q)))) q j) q j from (by unfold lStep; rw [if_pos c_1, if_neg (by simp [c_1, dk_le1 c_1, c_2, c_3, c_4, dk_le1 c_4, c_5]), if_pos hz])]; rw [show lGo M q = true from (by unfold lGo; rw [if_pos c_1])]; simp [bI, c_1, dk_le1 c_1, c_2, c_3, c_4, dk_le1 c_4, c_5]; done) | (simp [lGo, lStep, bI, c_1, dk_le1 c_1, c_2, c_3, c_4, dk_le1 c_4, c_5]; done)) (by decide) dL_step_172
          · refine V.iload hC dL_step_154 rfl ?_
            refine V.goto hC 160 dL_step_156 (by decide) ?_
            refine V.iastLN hC (3) hq (rfl) (by omega) dL_step_160 ?_
            refine V.aload_n hC dL_step_161 rfl ?_
            refine V.aload_n hC dL_step_162 rfl ?_
            refine V.callS2v hC (c_L_close hq hj) mwL_close mlL_30 ⟨rfl, rfl⟩ dL_step_163 rfl ?_
            refine V.aload_n hC dL_step_166 rfl ?_
            refine V.aload_n hC dL_step_167 rfl ?_
            refine V.callS2v hC (c_L_end hq hj) mwL_end mlL_41 ⟨rfl, rfl⟩ dL_step_168 rfl ?_
            refine V.iconst hC 1 dL_step_171 (by decide) ?_
            exact V.zret hC (by first | (rw [hke]; simp [lGo, lStep, bI, h2, h8, h6, h5]; done) | (rw [show lStep M q d j = lRwr M q d (lS M q) from (by unfold lStep; rw [if_pos c_1, if_neg (by simp [c_1, dk_le1 c_1, c_2, c_3, c_4, dk_le1 c_4, c_5]), if_neg hz])]; rw [show lGo M q = true from (by unfold lGo; rw [if_pos c_1])]; unfold lRwr lRwD lS; rfl) | (rw [show lStep M q d j = lEnd (lClose (dk_put M q 3 (if M q 4 = 1 then nI (ix (lBehind M q)) else nI (ix (lFirst M q)))) q j) q j from (by unfold lStep; rw [if_pos c_1, if_neg (by simp [c_1, dk_le1 c_1, c_2, c_3, c_4, dk_le1 c_4, c_5]), if_pos hz])]; rw [show lGo M q = true from (by unfold lGo; rw [if_pos c_1])]; simp [bI, c_1, dk_le1 c_1, c_2, c_3, c_4, dk_le1 c_4, c_5]; done) | (simp [lGo, lStep, bI, c_1, dk_le1 c_1, c_2, c_3, c_4, dk_le1 c_4, c_5]; done)) (by decide) dL_step_172
        · have hz : ¬ ix (lBehind M q) ≤ lS M q := by have h := c_4; rw [dk_addN rfl rfl, dk_gek (by omega), ix_nI (by omega)] at h; exact h
          have hs20 : ix (lFirst M q) + ix (M q 5) < 20 := by unfold lS at hz; omega
          have ho0 := lOth_b hK c_1 (lKey M q (nI (ix (lFirst M q) + ix (M q 5))))
          refine V.iload_n hC dL_step_82 rfl ?_
          refine V.aload_n hC dL_step_83 rfl ?_
          refine V.iconst hC 5 dL_step_84 (by decide) ?_
          refine V.ialdLN hC (5) hq (rfl) (by omega) dL_step_85 ?_
          refine V.top (congrArg Value.int (nI_ix hr0)) ?_
          refine V.iadd hC dL_step_86 ?_
          refine V.top (congrArg Value.int (dk_addN rfl rfl)) ?_
          refine V.istore hC dL_step_87 rfl rfl ?_
          refine V.iload hC dL_step_89 rfl ?_
          refine V.aload_n hC dL_step_91 rfl ?_
          refine V.callS2i hC (c_L_key hq) mwL_key mlL_22 ⟨rfl, rfl⟩ dL_step_92 rfl ?_
          refine V.aload_n hC dL_step_95 rfl ?_
          refine V.iconst hC 1 dL_step_96 (by decide) ?_
          refine V.ialdLN hC (1) hq (rfl) (by omega) dL_step_97 ?_
          refine V.icmp_ne hC 107 dL_step_98 (by decide) (fun c_5 => ?_) (fun c_5 => ?_)
          · have hio : (10 : Int32) + M q 1 = nI (10 + ix (lOth M q (lKey M q (nI (ix (lFirst M q) + ix (M q 5)))))) := by
              have e : lOth M q (lKey M q (nI (ix (lFirst M q) + ix (M q 5)))) = M q 1 := by unfold lOth; rw [if_neg c_5]
              rw [e] at ho0 ⊢
              exact dk_addN rfl (nI_ix ho0.1)
            refine V.aload_n hC dL_step_107 rfl ?_
            refine V.iconst hC 1 dL_step_108 (by decide) ?_
            refine V.ialdLN hC (1) hq (rfl) (by omega) dL_step_109 ?_
            refine V.istore hC dL_step_110 rfl rfl ?_
            refine V.aload_n hC dL_step_112 rfl ?_
            refine V.iload hC dL_step_113 rfl ?_
            refine V.iload hC dL_step_115 rfl ?_
            refine V.aload_n hC dL_step_117 rfl ?_
            refine V.aload_n hC dL_step_118 rfl ?_
            refine V.callS3i hC (c_L_plain hq hd hs20 (lKey_b hK _)) mwL_plain mlL_37 ⟨rfl, rfl⟩ dL_step_119 rfl ?_
            refine V.iload hC dL_step_122 rfl ?_
            refine V.aload_n hC dL_step_124 rfl ?_
            refine V.bipush hC 10 dL_step_125 (by decide) ?_
            refine V.iload hC dL_step_127 rfl ?_
            refine V.iadd hC dL_step_129 ?_
            refine V.ialdLN hC (10 + ix (lOth M q (lKey M q (nI (ix (lFirst M q) + ix (M q 5)))))) hq (hio) (by have := ix_toInt ho0.1; omega) dL_step_130 ?_
            refine V.callS3i hC (c_L_mix) mwL_mix mlL_26 ⟨rfl, rfl⟩ dL_step_131 rfl ?_
            refine V.iastLN hC (ix (lFirst M q) + ix (M q 5)) hd (rfl) (by omega) dL_step_134 ?_
            refine V.aload_n hC dL_step_135 rfl ?_
            refine V.iconst hC 5 dL_step_136 (by decide) ?_
            refine V.dup2 hC dL_step_137 rfl rfl ?_
            refine V.ialdLN hC (5) hq (rfl) (by omega) dL_step_138 ?_
            refine V.iconst hC 1 dL_step_139 (by decide) ?_
            refine V.iadd hC dL_step_140 ?_
            refine V.iastLN hC (5) hq (rfl) (by omega) dL_step_141 ?_
            refine V.goto hC 171 dL_step_142 (by decide) ?_
            refine V.iconst hC 1 dL_step_171 (by decide) ?_
            exact V.zret hC (by first | (rw [hke]; simp [lGo, lStep, bI, h2, h8, h6, h5]; done) | (rw [show lStep M q d j = lRwr M q d (lS M q) from (by unfold lStep; rw [if_pos c_1, if_neg (by simp [c_1, dk_le1 c_1, c_2, c_3, c_4, dk_nle c_4, c_5]), if_neg hz])]; rw [show lGo M q = true from (by unfold lGo; rw [if_pos c_1])]; unfold lRwr lRwD lS; rfl) | (rw [show lStep M q d j = lEnd (lClose (dk_put M q 3 (if M q 4 = 1 then nI (ix (lBehind M q)) else nI (ix (lFirst M q)))) q j) q j from (by unfold lStep; rw [if_pos c_1, if_neg (by simp [c_1, dk_le1 c_1, c_2, c_3, c_4, dk_nle c_4, c_5]), if_pos hz])]; rw [show lGo M q = true from (by unfold lGo; rw [if_pos c_1])]; simp [bI, c_1, dk_le1 c_1, c_2, c_3, c_4, dk_nle c_4, c_5]; done) | (simp [lGo, lStep, bI, c_1, dk_le1 c_1, c_2, c_3, c_4, dk_nle c_4, c_5]; done)) (by decide) dL_step_172
          · have hio : (10 : Int32) + M q 2 = nI (10 + ix (lOth M q (lKey M q (nI (ix (lFirst M q) + ix (M q 5)))))) := by
              have e : lOth M q (lKey M q (nI (ix (lFirst M q) + ix (M q 5)))) = M q 2 := by unfold lOth; rw [if_pos c_5]
              rw [e] at ho0 ⊢
              exact dk_addN rfl (nI_ix ho0.1)
            refine V.aload_n hC dL_step_101 rfl ?_
            refine V.iconst hC 2 dL_step_102 (by decide) ?_
            refine V.ialdLN hC (2) hq (rfl) (by omega) dL_step_103 ?_
            refine V.goto hC 110 dL_step_104 (by decide) ?_
            refine V.istore hC dL_step_110 rfl rfl ?_
            refine V.aload_n hC dL_step_112 rfl ?_
            refine V.iload hC dL_step_113 rfl ?_
            refine V.iload hC dL_step_115 rfl ?_
            refine V.aload_n hC dL_step_117 rfl ?_
            refine V.aload_n hC dL_step_118 rfl ?_
            refine V.callS3i hC (c_L_plain hq hd hs20 (lKey_b hK _)) mwL_plain mlL_37 ⟨rfl, rfl⟩ dL_step_119 rfl ?_
            refine V.iload hC dL_step_122 rfl ?_
            refine V.aload_n hC dL_step_124 rfl ?_
            refine V.bipush hC 10 dL_step_125 (by decide) ?_
            refine V.iload hC dL_step_127 rfl ?_
            refine V.iadd hC dL_step_129 ?_
            refine V.ialdLN hC (10 + ix (lOth M q (lKey M q (nI (ix (lFirst M q) + ix (M q 5)))))) hq (hio) (by have := ix_toInt ho0.1; omega) dL_step_130 ?_
            refine V.callS3i hC (c_L_mix) mwL_mix mlL_26 ⟨rfl, rfl⟩ dL_step_131 rfl ?_
            refine V.iastLN hC (ix (lFirst M q) + ix (M q 5)) hd (rfl) (by omega) dL_step_134 ?_
            refine V.aload_n hC dL_step_135 rfl ?_
            refine V.iconst hC 5 dL_step_136 (by decide) ?_
            refine V.dup2 hC dL_step_137 rfl rfl ?_
            refine V.ialdLN hC (5) hq (rfl) (by omega) dL_step_138 ?_
            refine V.iconst hC 1 dL_step_139 (by decide) ?_
            refine V.iadd hC dL_step_140 ?_
            refine V.iastLN hC (5) hq (rfl) (by omega) dL_step_141 ?_
            refine V.goto hC 171 dL_step_142 (by decide) ?_
            refine V.iconst hC 1 dL_step_171 (by decide) ?_
            exact V.zret hC (by first | (rw [hke]; simp [lGo, lStep, bI, h2, h8, h6, h5]; done) | (rw [show lStep M q d j = lRwr M q d (lS M q) from (by unfold lStep; rw [if_pos c_1, if_neg (by simp [c_1, dk_le1 c_1, c_2, c_3, c_4, dk_nle c_4, c_5]), if_neg hz])]; rw [show lGo M q = true from (by unfold lGo; rw [if_pos c_1])]; unfold lRwr lRwD lS; rfl) | (rw [show lStep M q d j = lEnd (lClose (dk_put M q 3 (if M q 4 = 1 then nI (ix (lBehind M q)) else nI (ix (lFirst M q)))) q j) q j from (by unfold lStep; rw [if_pos c_1, if_neg (by simp [c_1, dk_le1 c_1, c_2, c_3, c_4, dk_nle c_4, c_5]), if_pos hz])]; rw [show lGo M q = true from (by unfold lGo; rw [if_pos c_1])]; simp [bI, c_1, dk_le1 c_1, c_2, c_3, c_4, dk_nle c_4, c_5]; done) | (simp [lGo, lStep, bI, c_1, dk_le1 c_1, c_2, c_3, c_4, dk_nle c_4, c_5]; done)) (by decide) dL_step_172
      · refine V.aload_n hC dL_step_34 rfl ?_
        refine V.iconst hC 5 dL_step_35 (by decide) ?_
        refine V.ialdLN hC (5) hq (rfl) (by omega) dL_step_36 ?_
        refine V.if_ne hC 72 dL_step_37 (by decide) (fun c_4 => ?_) (fun c_4 => ?_)
        · refine V.iload_n hC dL_step_72 rfl ?_
          refine V.aload_n hC dL_step_73 rfl ?_
          refine V.iconst hC 5 dL_step_74 (by decide) ?_
          refine V.ialdLN hC (5) hq (rfl) (by omega) dL_step_75 ?_
          refine V.top (congrArg Value.int (nI_ix hr0)) ?_
          refine V.iadd hC dL_step_76 ?_
          refine V.iload hC dL_step_77 rfl ?_
          refine V.icmp_ge hC 145 dL_step_79 (by decide) (fun c_5 => ?_) (fun c_5 => ?_)
          · have hz : ix (lBehind M q) ≤ lS M q := by have h := c_5; rw [dk_addN rfl rfl, dk_gek (by omega), ix_nI (by omega)] at h; exact h
            refine V.aload_n hC dL_step_145 rfl ?_
            refine V.iconst hC 3 dL_step_146 (by decide) ?_
            refine V.aload_n hC dL_step_147 rfl ?_
            refine V.iconst hC 4 dL_step_148 (by decide) ?_
            refine V.ialdLN hC (4) hq (rfl) (by omega) dL_step_149 ?_
            refine V.iconst hC 1 dL_step_150 (by decide) ?_
            refine V.icmp_ne hC 159 dL_step_151 (by decide) (fun c_6 => ?_) (fun c_6 => ?_)
            · refine V.iload_n hC dL_step_159 rfl ?_
              refine V.iastLN hC (3) hq (rfl) (by omega) dL_step_160 ?_
              refine V.aload_n hC dL_step_161 rfl ?_
              refine V.aload_n hC dL_step_162 rfl ?_
              refine V.callS2v hC (c_L_close hq hj) mwL_close mlL_30 ⟨rfl, rfl⟩ dL_step_163 rfl ?_
              refine V.aload_n hC dL_step_166 rfl ?_
              refine V.aload_n hC dL_step_167 rfl ?_
              refine V.callS2v hC (c_L_end hq hj) mwL_end mlL_41 ⟨rfl, rfl⟩ dL_step_168 rfl ?_
              refine V.iconst hC 1 dL_step_171 (by decide) ?_
              exact V.zret hC (by first | (rw [hke]; simp [lGo, lStep, bI, h2, h8, h6, h5]; done) | (rw [show lStep M q d j = lRwr M q d (lS M q) from (by unfold lStep; rw [if_pos c_1, if_neg (by simp [c_1, dk_le1 c_1, c_2, c_3, c_4, c_5, dk_le1 c_5, c_6]), if_neg hz])]; rw [show lGo M q = true from (by unfold lGo; rw [if_pos c_1])]; unfold lRwr lRwD lS; rfl) | (rw [show lStep M q d j = lEnd (lClose (dk_put M q 3 (if M q 4 = 1 then nI (ix (lBehind M q)) else nI (ix (lFirst M q)))) q j) q j from (by unfold lStep; rw [if_pos c_1, if_neg (by simp [c_1, dk_le1 c_1, c_2, c_3, c_4, c_5, dk_le1 c_5, c_6]), if_pos hz])]; rw [show lGo M q = true from (by unfold lGo; rw [if_pos c_1])]; simp [bI, c_1, dk_le1 c_1, c_2, c_3, c_4, c_5, dk_le1 c_5, c_6]; done) | (simp [lGo, lStep, bI, c_1, dk_le1 c_1, c_2, c_3, c_4, c_5, dk_le1 c_5, c_6]; done)) (by decide) dL_step_172
            · refine V.iload hC dL_step_154 rfl ?_
              refine V.goto hC 160 dL_step_156 (by decide) ?_
              refine V.iastLN hC (3) hq (rfl) (by omega) dL_step_160 ?_
              refine V.aload_n hC dL_step_161 rfl ?_
              refine V.aload_n hC dL_step_162 rfl ?_
              refine V.callS2v hC (c_L_close hq hj) mwL_close mlL_30 ⟨rfl, rfl⟩ dL_step_163 rfl ?_
              refine V.aload_n hC dL_step_166 rfl ?_
              refine V.aload_n hC dL_step_167 rfl ?_
              refine V.callS2v hC (c_L_end hq hj) mwL_end mlL_41 ⟨rfl, rfl⟩ dL_step_168 rfl ?_
              refine V.iconst hC 1 dL_step_171 (by decide) ?_
              exact V.zret hC (by first | (rw [hke]; simp [lGo, lStep, bI, h2, h8, h6, h5]; done) | (rw [show lStep M q d j = lRwr M q d (lS M q) from (by unfold lStep; rw [if_pos c_1, if_neg (by simp [c_1, dk_le1 c_1, c_2, c_3, c_4, c_5, dk_le1 c_5, c_6]), if_neg hz])]; rw [show lGo M q = true from (by unfold lGo; rw [if_pos c_1])]; unfold lRwr lRwD lS; rfl) | (rw [show lStep M q d j = lEnd (lClose (dk_put M q 3 (if M q 4 = 1 then nI (ix (lBehind M q)) else nI (ix (lFirst M q)))) q j) q j from (by unfold lStep; rw [if_pos c_1, if_neg (by simp [c_1, dk_le1 c_1, c_2, c_3, c_4, c_5, dk_le1 c_5, c_6]), if_pos hz])]; rw [show lGo M q = true from (by unfold lGo; rw [if_pos c_1])]; simp [bI, c_1, dk_le1 c_1, c_2, c_3, c_4, c_5, dk_le1 c_5, c_6]; done) | (simp [lGo, lStep, bI, c_1, dk_le1 c_1, c_2, c_3, c_4, c_5, dk_le1 c_5, c_6]; done)) (by decide) dL_step_172
          · have hz : ¬ ix (lBehind M q) ≤ lS M q := by have h := c_5; rw [dk_addN rfl rfl, dk_gek (by omega), ix_nI (by omega)] at h; exact h
            have hs20 : ix (lFirst M q) + ix (M q 5) < 20 := by unfold lS at hz; omega
            have ho0 := lOth_b hK c_1 (lKey M q (nI (ix (lFirst M q) + ix (M q 5))))
            refine V.iload_n hC dL_step_82 rfl ?_
            refine V.aload_n hC dL_step_83 rfl ?_
            refine V.iconst hC 5 dL_step_84 (by decide) ?_
            refine V.ialdLN hC (5) hq (rfl) (by omega) dL_step_85 ?_
            refine V.top (congrArg Value.int (nI_ix hr0)) ?_
            refine V.iadd hC dL_step_86 ?_
            refine V.top (congrArg Value.int (dk_addN rfl rfl)) ?_
            refine V.istore hC dL_step_87 rfl rfl ?_
            refine V.iload hC dL_step_89 rfl ?_
            refine V.aload_n hC dL_step_91 rfl ?_
            refine V.callS2i hC (c_L_key hq) mwL_key mlL_22 ⟨rfl, rfl⟩ dL_step_92 rfl ?_
            refine V.aload_n hC dL_step_95 rfl ?_
            refine V.iconst hC 1 dL_step_96 (by decide) ?_
            refine V.ialdLN hC (1) hq (rfl) (by omega) dL_step_97 ?_
            refine V.icmp_ne hC 107 dL_step_98 (by decide) (fun c_6 => ?_) (fun c_6 => ?_)
            · have hio : (10 : Int32) + M q 1 = nI (10 + ix (lOth M q (lKey M q (nI (ix (lFirst M q) + ix (M q 5)))))) := by
                have e : lOth M q (lKey M q (nI (ix (lFirst M q) + ix (M q 5)))) = M q 1 := by unfold lOth; rw [if_neg c_6]
                rw [e] at ho0 ⊢
                exact dk_addN rfl (nI_ix ho0.1)
              refine V.aload_n hC dL_step_107 rfl ?_
              refine V.iconst hC 1 dL_step_108 (by decide) ?_
              refine V.ialdLN hC (1) hq (rfl) (by omega) dL_step_109 ?_
              refine V.istore hC dL_step_110 rfl rfl ?_
              refine V.aload_n hC dL_step_112 rfl ?_
              refine V.iload hC dL_step_113 rfl ?_
              refine V.iload hC dL_step_115 rfl ?_
              refine V.aload_n hC dL_step_117 rfl ?_
              refine V.aload_n hC dL_step_118 rfl ?_
              refine V.callS3i hC (c_L_plain hq hd hs20 (lKey_b hK _)) mwL_plain mlL_37 ⟨rfl, rfl⟩ dL_step_119 rfl ?_
              refine V.iload hC dL_step_122 rfl ?_
              refine V.aload_n hC dL_step_124 rfl ?_
              refine V.bipush hC 10 dL_step_125 (by decide) ?_
              refine V.iload hC dL_step_127 rfl ?_
              refine V.iadd hC dL_step_129 ?_
              refine V.ialdLN hC (10 + ix (lOth M q (lKey M q (nI (ix (lFirst M q) + ix (M q 5)))))) hq (hio) (by have := ix_toInt ho0.1; omega) dL_step_130 ?_
              refine V.callS3i hC (c_L_mix) mwL_mix mlL_26 ⟨rfl, rfl⟩ dL_step_131 rfl ?_
              refine V.iastLN hC (ix (lFirst M q) + ix (M q 5)) hd (rfl) (by omega) dL_step_134 ?_
              refine V.aload_n hC dL_step_135 rfl ?_
              refine V.iconst hC 5 dL_step_136 (by decide) ?_
              refine V.dup2 hC dL_step_137 rfl rfl ?_
              refine V.ialdLN hC (5) hq (rfl) (by omega) dL_step_138 ?_
              refine V.iconst hC 1 dL_step_139 (by decide) ?_
              refine V.iadd hC dL_step_140 ?_
              refine V.iastLN hC (5) hq (rfl) (by omega) dL_step_141 ?_
              refine V.goto hC 171 dL_step_142 (by decide) ?_
              refine V.iconst hC 1 dL_step_171 (by decide) ?_
              exact V.zret hC (by first | (rw [hke]; simp [lGo, lStep, bI, h2, h8, h6, h5]; done) | (rw [show lStep M q d j = lRwr M q d (lS M q) from (by unfold lStep; rw [if_pos c_1, if_neg (by simp [c_1, dk_le1 c_1, c_2, c_3, c_4, c_5, dk_nle c_5, c_6]), if_neg hz])]; rw [show lGo M q = true from (by unfold lGo; rw [if_pos c_1])]; unfold lRwr lRwD lS; rfl) | (rw [show lStep M q d j = lEnd (lClose (dk_put M q 3 (if M q 4 = 1 then nI (ix (lBehind M q)) else nI (ix (lFirst M q)))) q j) q j from (by unfold lStep; rw [if_pos c_1, if_neg (by simp [c_1, dk_le1 c_1, c_2, c_3, c_4, c_5, dk_nle c_5, c_6]), if_pos hz])]; rw [show lGo M q = true from (by unfold lGo; rw [if_pos c_1])]; simp [bI, c_1, dk_le1 c_1, c_2, c_3, c_4, c_5, dk_nle c_5, c_6]; done) | (simp [lGo, lStep, bI, c_1, dk_le1 c_1, c_2, c_3, c_4, c_5, dk_nle c_5, c_6]; done)) (by decide) dL_step_172
            · have hio : (10 : Int32) + M q 2 = nI (10 + ix (lOth M q (lKey M q (nI (ix (lFirst M q) + ix (M q 5)))))) := by
                have e : lOth M q (lKey M q (nI (ix (lFirst M q) + ix (M q 5)))) = M q 2 := by unfold lOth; rw [if_pos c_6]
                rw [e] at ho0 ⊢
                exact dk_addN rfl (nI_ix ho0.1)
              refine V.aload_n hC dL_step_101 rfl ?_
              refine V.iconst hC 2 dL_step_102 (by decide) ?_
              refine V.ialdLN hC (2) hq (rfl) (by omega) dL_step_103 ?_
              refine V.goto hC 110 dL_step_104 (by decide) ?_
              refine V.istore hC dL_step_110 rfl rfl ?_
              refine V.aload_n hC dL_step_112 rfl ?_
              refine V.iload hC dL_step_113 rfl ?_
              refine V.iload hC dL_step_115 rfl ?_
              refine V.aload_n hC dL_step_117 rfl ?_
              refine V.aload_n hC dL_step_118 rfl ?_
              refine V.callS3i hC (c_L_plain hq hd hs20 (lKey_b hK _)) mwL_plain mlL_37 ⟨rfl, rfl⟩ dL_step_119 rfl ?_
              refine V.iload hC dL_step_122 rfl ?_
              refine V.aload_n hC dL_step_124 rfl ?_
              refine V.bipush hC 10 dL_step_125 (by decide) ?_
              refine V.iload hC dL_step_127 rfl ?_
              refine V.iadd hC dL_step_129 ?_
              refine V.ialdLN hC (10 + ix (lOth M q (lKey M q (nI (ix (lFirst M q) + ix (M q 5)))))) hq (hio) (by have := ix_toInt ho0.1; omega) dL_step_130 ?_
              refine V.callS3i hC (c_L_mix) mwL_mix mlL_26 ⟨rfl, rfl⟩ dL_step_131 rfl ?_
              refine V.iastLN hC (ix (lFirst M q) + ix (M q 5)) hd (rfl) (by omega) dL_step_134 ?_
              refine V.aload_n hC dL_step_135 rfl ?_
              refine V.iconst hC 5 dL_step_136 (by decide) ?_
              refine V.dup2 hC dL_step_137 rfl rfl ?_
              refine V.ialdLN hC (5) hq (rfl) (by omega) dL_step_138 ?_
              refine V.iconst hC 1 dL_step_139 (by decide) ?_
              refine V.iadd hC dL_step_140 ?_
              refine V.iastLN hC (5) hq (rfl) (by omega) dL_step_141 ?_
              refine V.goto hC 171 dL_step_142 (by decide) ?_
              refine V.iconst hC 1 dL_step_171 (by decide) ?_
              exact V.zret hC (by first | (rw [hke]; simp [lGo, lStep, bI, h2, h8, h6, h5]; done) | (rw [show lStep M q d j = lRwr M q d (lS M q) from (by unfold lStep; rw [if_pos c_1, if_neg (by simp [c_1, dk_le1 c_1, c_2, c_3, c_4, c_5, dk_nle c_5, c_6]), if_neg hz])]; rw [show lGo M q = true from (by unfold lGo; rw [if_pos c_1])]; unfold lRwr lRwD lS; rfl) | (rw [show lStep M q d j = lEnd (lClose (dk_put M q 3 (if M q 4 = 1 then nI (ix (lBehind M q)) else nI (ix (lFirst M q)))) q j) q j from (by unfold lStep; rw [if_pos c_1, if_neg (by simp [c_1, dk_le1 c_1, c_2, c_3, c_4, c_5, dk_nle c_5, c_6]), if_pos hz])]; rw [show lGo M q = true from (by unfold lGo; rw [if_pos c_1])]; simp [bI, c_1, dk_le1 c_1, c_2, c_3, c_4, c_5, dk_nle c_5, c_6]; done) | (simp [lGo, lStep, bI, c_1, dk_le1 c_1, c_2, c_3, c_4, c_5, dk_nle c_5, c_6]; done)) (by decide) dL_step_172
        · refine V.iload_n hC dL_step_40 rfl ?_
          refine V.istore hC dL_step_41 rfl rfl ?_
          exact V.sub (dk_sc rfl (dk_sc rfl (dk_sc rfl (dk_sc rfl (dk_sc rfl (dk_sn)))))) (loop_43 (ix (lBehind M q) - ix (lFirst M q) + 1) 0 c_1 c_2 c_3 c_4 (Nat.zero_le _) (by omega))
  · refine V.iconst hC 0 dL_step_6 (by decide) ?_
    exact V.zret hC (by first | (rw [hke]; simp [lGo, lStep, bI, h2, h8, h6, h5]; done) | (rw [show lStep M q d j = lRwr M q d (lS M q) from (by unfold lStep; rw [if_pos c_1, if_neg (by simp [c_1, dk_nle c_1]), if_neg hz])]; rw [show lGo M q = true from (by unfold lGo; rw [if_pos c_1])]; unfold lRwr lRwD lS; rfl) | (rw [show lStep M q d j = lEnd (lClose (dk_put M q 3 (if M q 4 = 1 then nI (ix (lBehind M q)) else nI (ix (lFirst M q)))) q j) q j from (by unfold lStep; rw [if_pos c_1, if_neg (by simp [c_1, dk_nle c_1]), if_pos hz])]; rw [show lGo M q = true from (by unfold lGo; rw [if_pos c_1])]; simp [bI, c_1, dk_nle c_1]; done) | (simp [lGo, lStep, bI, c_1, dk_nle c_1]; done)) (by decide) dL_step_7
set_option maxHeartbeats 2000000 in
set_option maxRecDepth 20000 in
theorem c_L_fail {l : Launch} {G : dkG} {q d c j : Nat} {M : dkM} (hq : lA G q 16) (hd : lA G d 20) (hc : lA G c 20) (hj : lA G j 20) (hN : lNn M q) (hqd : q ≠ d) (hqc : q ≠ c) : dk_Con l yL_fail cL_fail 5 none 1 22 G [.ref (G.1 + q), .ref (G.1 + d), .ref (G.1 + c), .ref (G.1 + j)] M (none, lFail M q d c j) := by
  refine dk_Con.of mwL_fail.1 (Nat.le_of_ble_eq_true rfl) (fun E hE hC => ?_)
  subst hE
  obtain ⟨hN0, hN1⟩ := hN
  have in0 := ix_toInt hN0
  have loop_3 : ∀ (n : Nat) (k : Nat), (k ≤ ix (M q 0)) → (ix (M q 0) < k + n) →  V E G 5 (none, lFail M q d c j) (lFl M d c j k) 3 [(0, some (.ref (G.1 + q))), (1, some (.ref (G.1 + d))), (2, some (.ref (G.1 + c))), (3, some (.ref (G.1 + j))), (4, some (.int (nI k)))] [] := by
    intro n
    induction n with
    | zero => intro k hk hn; exact absurd hn (by omega)
    | succ n ih_3 =>
      intro k hk hn
      refine V.iload hC dL_fail_3 rfl ?_
      refine V.aload_n hC dL_fail_5 rfl ?_
      refine V.iconst hC 0 dL_fail_6 (by decide) ?_
      refine V.ialdLN hC (0) hq (rfl) (by omega) dL_fail_7 ?_
      refine V.icmp_ge hC 38 dL_fail_8 (by decide) (fun c_1 => ?_) (fun c_1 => ?_)
      · have hke : k = ix (M q 0) := by have hc := c_1; rw [lFl_ne M d c j hqc hqd] at hc; have := (dk_gek (k := k) (by omega)).mp hc; omega
        refine V.aload_n hC dL_fail_38 rfl ?_
        refine V.aload_n hC dL_fail_39 rfl ?_
        refine V.callS2v hC (c_L_close hq hj) mwL_close mlL_30 ⟨rfl, rfl⟩ dL_fail_40 rfl ?_
        refine V.aload_n hC dL_fail_43 rfl ?_
        refine V.bipush hC 10 dL_fail_44 (by decide) ?_
        refine V.dup2 hC dL_fail_46 rfl rfl ?_
        refine V.ialdLN hC (10) hq (rfl) (by omega) dL_fail_47 ?_
        refine V.iconst hC 1 dL_fail_48 (by decide) ?_
        refine V.iadd hC dL_fail_49 ?_
        refine V.iastLN hC (10) hq (rfl) (by omega) dL_fail_50 ?_
        exact V.vret hC (by rw [hke]; rfl) dL_fail_51
      · have hkl : k < ix (M q 0) := by have hc := c_1; rw [lFl_ne M d c j hqc hqd] at hc; have := mt (dk_gek (k := k) (by omega)).mpr hc; omega
        refine V.aload_n hC dL_fail_11 rfl ?_
        refine V.iload hC dL_fail_12 rfl ?_
        refine V.bipush hC (-6) dL_fail_14 (by decide) ?_
        refine V.iastLN hC (k) hc (rfl) (by omega) dL_fail_16 ?_
        refine V.aload_n hC dL_fail_17 rfl ?_
        refine V.iload hC dL_fail_18 rfl ?_
        refine V.ialdLN hC (k) hj (rfl) (by omega) dL_fail_20 ?_
        refine V.if_lt hC 32 dL_fail_21 (by decide) (fun c_2 => ?_) (fun c_2 => ?_)
        · refine V.iinc hC dL_fail_32 rfl (dk_incN _) rfl ?_
          refine V.goto hC 3 dL_fail_35 (by decide) ?_
          refine V.eqM (by show _ = lFl M d c j (k + 1); rw [lFl]; first | rw [if_pos c_2] | rw [if_neg c_2]) ?_
          exact V.sub (dk_sc rfl (dk_sc rfl (dk_sc rfl (dk_sc rfl (dk_sc rfl (dk_sn)))))) (ih_3 (k + 1) (by omega) (by omega))
        · refine V.aload_n hC dL_fail_24 rfl ?_
          refine V.iload hC dL_fail_25 rfl ?_
          refine V.aload_n hC dL_fail_27 rfl ?_
          refine V.iload hC dL_fail_28 rfl ?_
          refine V.ialdLN hC (k) hj (rfl) (by omega) dL_fail_30 ?_
          refine V.iastLN hC (k) hd (rfl) (by omega) dL_fail_31 ?_
          refine V.iinc hC dL_fail_32 rfl (dk_incN _) rfl ?_
          refine V.goto hC 3 dL_fail_35 (by decide) ?_
          refine V.eqM (by show _ = lFl M d c j (k + 1); rw [lFl]; first | rw [if_pos c_2] | rw [if_neg c_2]) ?_
          exact V.sub (dk_sc rfl (dk_sc rfl (dk_sc rfl (dk_sc rfl (dk_sc rfl (dk_sn)))))) (ih_3 (k + 1) (by omega) (by omega))
  refine V.iconst hC 0 dL_fail_0 (by decide) ?_
  refine V.istore hC dL_fail_1 rfl rfl ?_
  exact V.sub (dk_sc rfl (dk_sc rfl (dk_sc rfl (dk_sc rfl (dk_sc rfl (dk_sn)))))) (loop_3 (ix (M q 0) + 1) 0 (Nat.zero_le _) (by omega))
set_option maxHeartbeats 2000000 in
set_option maxRecDepth 20000 in
theorem c_L_damaged {l : Launch} {G : dkG} {q d c w : Nat} {M : dkM} (hq : lA G q 16) (hd : lA G d 20) (hc : lA G c 20) (hw : lA G w 20) (hN : lNn M q) (hK : lK M q) : dk_Con l yL_damaged cL_damaged 6 (some .int) 3 64 G [.ref (G.1 + q), .ref (G.1 + d), .ref (G.1 + c), .ref (G.1 + w)] M (some (.int (nI (lDamN M q d c w (ix (M q 0))))), M) := by
  refine dk_Con.of mwL_damaged.1 (Nat.le_of_ble_eq_true rfl) (fun E hE hC => ?_)
  subst hE
  obtain ⟨hN0, hN1⟩ := hN
  have in0 := ix_toInt hN0
  have loop_6 : ∀ (n : Nat) (k : Nat), (k ≤ ix (M q 0)) → (ix (M q 0) < k + n) →  V E G 6 (some (.int (nI (lDamN M q d c w (ix (M q 0))))), M) (M) 6 [(0, some (.ref (G.1 + q))), (1, some (.ref (G.1 + d))), (2, some (.ref (G.1 + c))), (3, some (.ref (G.1 + w))), (4, some (.int (nI (lDamN M q d c w k)))), (5, some (.int (nI k)))] [] := by
    intro n
    induction n with
    | zero => intro k hk hn; exact absurd hn (by omega)
    | succ n ih_6 =>
      intro k hk hn
      refine V.iload hC dL_damaged_6 rfl ?_
      refine V.aload_n hC dL_damaged_8 rfl ?_
      refine V.iconst hC 0 dL_damaged_9 (by decide) ?_
      refine V.ialdLN hC (0) hq (rfl) (by omega) dL_damaged_10 ?_
      refine V.icmp_ge hC 58 dL_damaged_11 (by decide) (fun c_1 => ?_) (fun c_1 => ?_)
      · have hke : k = ix (M q 0) := by have := (dk_gek (k := k) (by omega)).mp c_1; omega
        refine V.iload hC dL_damaged_58 rfl ?_
        exact V.iret hC (by rw [hke]) dL_damaged_60
      · have hkl : k < ix (M q 0) := by have := mt (dk_gek (k := k) (by omega)).mpr c_1; omega
        refine V.iload hC dL_damaged_14 rfl ?_
        refine V.aload_n hC dL_damaged_16 rfl ?_
        refine V.iload hC dL_damaged_17 rfl ?_
        refine V.ialdLN hC (k) hc (rfl) (by omega) dL_damaged_19 ?_
        refine V.if_ge hC 33 dL_damaged_20 (by decide) (fun c_2 => ?_) (fun c_2 => ?_)
        · refine V.aload_n hC dL_damaged_33 rfl ?_
          refine V.iload hC dL_damaged_34 rfl ?_
          refine V.ialdLN hC (k) hc (rfl) (by omega) dL_damaged_36 ?_
          refine V.aload_n hC dL_damaged_37 rfl ?_
          refine V.iload hC dL_damaged_38 rfl ?_
          refine V.ialdLN hC (k) hw (rfl) (by omega) dL_damaged_40 ?_
          refine V.icmp_ne hC 48 dL_damaged_41 (by decide) (fun c_3 => ?_) (fun c_3 => ?_)
          · refine V.iconst hC 1 dL_damaged_48 (by decide) ?_
            refine V.iadd hC dL_damaged_49 ?_
            refine V.top (x' := .int (nI (lDamN M q d c w (k + 1)))) (by first | (have e : lVal M q d c k = M c k := if_pos c_2; simp [lDamN, cnt, e, c_3, nI_1]; done) | (have e : lVal M q d c k = lPlain M q d k := if_neg c_2; simp [lDamN, cnt, e, c_3, nI_1]; done)) ?_
            refine V.istore hC dL_damaged_50 rfl rfl ?_
            refine V.iinc hC dL_damaged_52 rfl (dk_incN _) rfl ?_
            refine V.goto hC 6 dL_damaged_55 (by decide) ?_
            exact V.sub (dk_sc rfl (dk_sc rfl (dk_sc rfl (dk_sc rfl (dk_sc rfl (dk_sc rfl (dk_sn))))))) (ih_6 (k + 1) (by omega) (by omega))
          · refine V.iconst hC 0 dL_damaged_44 (by decide) ?_
            refine V.goto hC 49 dL_damaged_45 (by decide) ?_
            refine V.iadd hC dL_damaged_49 ?_
            refine V.top (x' := .int (nI (lDamN M q d c w (k + 1)))) (by first | (have e : lVal M q d c k = M c k := if_pos c_2; simp [lDamN, cnt, e, c_3, nI_1]; done) | (have e : lVal M q d c k = lPlain M q d k := if_neg c_2; simp [lDamN, cnt, e, c_3, nI_1]; done)) ?_
            refine V.istore hC dL_damaged_50 rfl rfl ?_
            refine V.iinc hC dL_damaged_52 rfl (dk_incN _) rfl ?_
            refine V.goto hC 6 dL_damaged_55 (by decide) ?_
            exact V.sub (dk_sc rfl (dk_sc rfl (dk_sc rfl (dk_sc rfl (dk_sc rfl (dk_sc rfl (dk_sn))))))) (ih_6 (k + 1) (by omega) (by omega))
        · refine V.iload hC dL_damaged_23 rfl ?_
          refine V.aload_n hC dL_damaged_25 rfl ?_
          refine V.aload_n hC dL_damaged_26 rfl ?_
          refine V.callS3i hC (c_L_plain hq hd (by omega) (lKey_b hK _)) mwL_plain mlL_37 ⟨rfl, rfl⟩ dL_damaged_27 rfl ?_
          refine V.goto hC 37 dL_damaged_30 (by decide) ?_
          refine V.aload_n hC dL_damaged_37 rfl ?_
          refine V.iload hC dL_damaged_38 rfl ?_
          refine V.ialdLN hC (k) hw (rfl) (by omega) dL_damaged_40 ?_
          refine V.icmp_ne hC 48 dL_damaged_41 (by decide) (fun c_3 => ?_) (fun c_3 => ?_)
          · refine V.iconst hC 1 dL_damaged_48 (by decide) ?_
            refine V.iadd hC dL_damaged_49 ?_
            refine V.top (x' := .int (nI (lDamN M q d c w (k + 1)))) (by first | (have e : lVal M q d c k = M c k := if_pos c_2; simp [lDamN, cnt, e, c_3, nI_1]; done) | (have e : lVal M q d c k = lPlain M q d k := if_neg c_2; simp [lDamN, cnt, e, c_3, nI_1]; done)) ?_
            refine V.istore hC dL_damaged_50 rfl rfl ?_
            refine V.iinc hC dL_damaged_52 rfl (dk_incN _) rfl ?_
            refine V.goto hC 6 dL_damaged_55 (by decide) ?_
            exact V.sub (dk_sc rfl (dk_sc rfl (dk_sc rfl (dk_sc rfl (dk_sc rfl (dk_sc rfl (dk_sn))))))) (ih_6 (k + 1) (by omega) (by omega))
          · refine V.iconst hC 0 dL_damaged_44 (by decide) ?_
            refine V.goto hC 49 dL_damaged_45 (by decide) ?_
            refine V.iadd hC dL_damaged_49 ?_
            refine V.top (x' := .int (nI (lDamN M q d c w (k + 1)))) (by first | (have e : lVal M q d c k = M c k := if_pos c_2; simp [lDamN, cnt, e, c_3, nI_1]; done) | (have e : lVal M q d c k = lPlain M q d k := if_neg c_2; simp [lDamN, cnt, e, c_3, nI_1]; done)) ?_
            refine V.istore hC dL_damaged_50 rfl rfl ?_
            refine V.iinc hC dL_damaged_52 rfl (dk_incN _) rfl ?_
            refine V.goto hC 6 dL_damaged_55 (by decide) ?_
            exact V.sub (dk_sc rfl (dk_sc rfl (dk_sc rfl (dk_sc rfl (dk_sc rfl (dk_sc rfl (dk_sn))))))) (ih_6 (k + 1) (by omega) (by omega))
  refine V.iconst hC 0 dL_damaged_0 (by decide) ?_
  refine V.istore hC dL_damaged_1 rfl rfl ?_
  refine V.iconst hC 0 dL_damaged_3 (by decide) ?_
  refine V.istore hC dL_damaged_4 rfl rfl ?_
  exact V.sub (dk_sc rfl (dk_sc rfl (dk_sc rfl (dk_sc rfl (dk_sc rfl (dk_sc rfl (dk_sn))))))) (loop_6 (ix (M q 0) + 1) 0 (Nat.zero_le _) (by omega))
set_option maxHeartbeats 2000000 in
set_option maxRecDepth 20000 in
theorem c_L_cached {l : Launch} {G : dkG} {q c : Nat} {M : dkM} (hq : lA G q 16) (hc : lA G c 20) (hN : lNn M q) : dk_Con l yL_cached cL_cached 4 (some .int) 0 0 G [.ref (G.1 + q), .ref (G.1 + c)] M (some (.int (nI (lCaN M c (ix (M q 0))))), M) := by
  refine dk_Con.of mwL_cached.1 (Nat.le_of_ble_eq_true rfl) (fun E hE hC => ?_)
  subst hE
  obtain ⟨hN0, hN1⟩ := hN
  have in0 := ix_toInt hN0
  have loop_4 : ∀ (n : Nat) (k : Nat), (k ≤ ix (M q 0)) → (ix (M q 0) < k + n) →  V E G 4 (some (.int (nI (lCaN M c (ix (M q 0))))), M) (M) 4 [(0, some (.ref (G.1 + q))), (1, some (.ref (G.1 + c))), (2, some (.int (nI (lCaN M c k)))), (3, some (.int (nI k)))] [] := by
    intro n
    induction n with
    | zero => intro k hk hn; exact absurd hn (by omega)
    | succ n ih_4 =>
      intro k hk hn
      refine V.iload_n hC dL_cached_4 rfl ?_
      refine V.aload_n hC dL_cached_5 rfl ?_
      refine V.iconst hC 0 dL_cached_6 (by decide) ?_
      refine V.ialdLN hC (0) hq (rfl) (by omega) dL_cached_7 ?_
      refine V.icmp_ge hC 31 dL_cached_8 (by decide) (fun c_1 => ?_) (fun c_1 => ?_)
      · have hke : k = ix (M q 0) := by have := (dk_gek (k := k) (by omega)).mp c_1; omega
        refine V.iload_n hC dL_cached_31 rfl ?_
        exact V.iret hC (by rw [hke]) dL_cached_32
      · have hkl : k < ix (M q 0) := by have := mt (dk_gek (k := k) (by omega)).mpr c_1; omega
        refine V.iload_n hC dL_cached_11 rfl ?_
        refine V.aload_n hC dL_cached_12 rfl ?_
        refine V.iload_n hC dL_cached_13 rfl ?_
        refine V.ialdLN hC (k) hc (rfl) (by omega) dL_cached_14 ?_
        refine V.if_ge hC 22 dL_cached_15 (by decide) (fun c_2 => ?_) (fun c_2 => ?_)
        · refine V.iconst hC 1 dL_cached_22 (by decide) ?_
          refine V.iadd hC dL_cached_23 ?_
          refine V.top (x' := .int (nI (lCaN M c (k + 1)))) (by simp [lCaN, cnt, c_2, nI_1]) ?_
          refine V.istore_n hC dL_cached_24 rfl rfl ?_
          refine V.iinc hC dL_cached_25 rfl (dk_incN _) rfl ?_
          refine V.goto hC 4 dL_cached_28 (by decide) ?_
          exact V.sub (dk_sc rfl (dk_sc rfl (dk_sc rfl (dk_sc rfl (dk_sn))))) (ih_4 (k + 1) (by omega) (by omega))
        · refine V.iconst hC 0 dL_cached_18 (by decide) ?_
          refine V.goto hC 23 dL_cached_19 (by decide) ?_
          refine V.iadd hC dL_cached_23 ?_
          refine V.top (x' := .int (nI (lCaN M c (k + 1)))) (by simp [lCaN, cnt, c_2, nI_1]) ?_
          refine V.istore_n hC dL_cached_24 rfl rfl ?_
          refine V.iinc hC dL_cached_25 rfl (dk_incN _) rfl ?_
          refine V.goto hC 4 dL_cached_28 (by decide) ?_
          exact V.sub (dk_sc rfl (dk_sc rfl (dk_sc rfl (dk_sc rfl (dk_sn))))) (ih_4 (k + 1) (by omega) (by omega))
  refine V.iconst hC 0 dL_cached_0 (by decide) ?_
  refine V.istore_n hC dL_cached_1 rfl rfl ?_
  refine V.iconst hC 0 dL_cached_2 (by decide) ?_
  refine V.istore_n hC dL_cached_3 rfl rfl ?_
  exact V.sub (dk_sc rfl (dk_sc rfl (dk_sc rfl (dk_sc rfl (dk_sn))))) (loop_4 (ix (M q 0) + 1) 0 (Nat.zero_le _) (by omega))
