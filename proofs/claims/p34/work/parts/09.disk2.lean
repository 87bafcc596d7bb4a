set_option maxHeartbeats 2000000 in
set_option maxRecDepth 20000 in
theorem c_X0_damageCount {l : Launch} {G : dkG} {d : Nat} {M : dkM} (hd : dk_disk G d)  : dk_Con l yX0_damageCount cX0_damageCount 3 (some .int) 4 86 G [.ref (G.1 + d)] M (some (.int (nI (dcN M d (ix (M d 5))))), M) := by
  refine dk_Con.of mwX0_damageCount.1 (Nat.le_of_ble_eq_true rfl) (fun E hE hC => ?_)
  subst hE
  obtain ⟨N, hN⟩ : ∃ N, ix (M d 5) = N := ⟨_, rfl⟩
  have hsz : N < 2 ^ 31 := hN ▸ ix_lt _
  have loop_4 : ∀ (n : Nat) (k : Nat), (k ≤ N) → (N < k + n) →  V E G 3 (some (.int (nI (dcN M d (ix (M d 5))))), M) (M) 4 [(0, some (.ref (G.1 + d))), (1, some (.int (nI (dcN M d k)))), (2, some (.int (nI k)))] [] := by
    intro n
    induction n with
    | zero => intro k hk hn; exact absurd hn (by omega)
    | succ n ih_4 =>
      intro k hk hn
      refine V.iload_n hC dX0_damageCount_4 rfl ?_
      refine V.aload_n hC dX0_damageCount_5 rfl ?_
      refine gfX0_32 hd hC dX0_damageCount_6 ?_
      refine V.icmp_ge hC 37 dX0_damageCount_9 (by decide) (fun c_1 => ?_) (fun c_1 => ?_)
      · have hke : k = N := by have := (dk_gek (k := k) (by omega)).mp c_1; omega
        subst hke
        refine V.iload_n hC dX0_damageCount_37 rfl ?_
        exact V.iret hC (by rw [hN]) dX0_damageCount_38
      · have hkl : k < N := by have := mt (dk_gek (k := k) (by omega)).mpr c_1; omega
        refine V.aload_n hC dX0_damageCount_12 rfl ?_
        refine V.iload_n hC dX0_damageCount_13 rfl ?_
        refine V.callV1i hC (c_X0_valueIn hd) mwX0_valueIn mlX0_116 hd.s hd.k rfl ⟨rfl, rfl⟩ dX0_damageCount_14 rfl ?_
        refine V.aload_n hC dX0_damageCount_17 rfl ?_
        refine gfX0_20 hd hC dX0_damageCount_18 ?_
        refine V.iload_n hC dX0_damageCount_21 rfl ?_
        refine V.callV1i hC (c_X2_get hd.r3) mwX2_get mlX0_106 hd.r3.s hd.r3.k rfl ⟨rfl, rfl⟩ dX0_damageCount_22 rfl ?_
        refine V.icmp_eq hC 31 dX0_damageCount_25 (by decide) (fun c_2 => ?_) (fun c_2 => ?_)
        · refine V.iinc hC dX0_damageCount_31 rfl (dk_incN _) rfl ?_
          refine V.goto hC 4 dX0_damageCount_34 (by decide) ?_
          have ih2 := ih_4 (k + 1) (by omega) (by omega)
          simp [dcN, cnt, c_2] at ih2
          exact V.sub (dk_sc rfl (dk_sc rfl (dk_sc rfl (dk_sn)))) ih2
        · refine V.iinc hC dX0_damageCount_28 rfl (dk_incN _) rfl ?_
          refine V.iinc hC dX0_damageCount_31 rfl (dk_incN _) rfl ?_
          refine V.goto hC 4 dX0_damageCount_34 (by decide) ?_
          have ih2 := ih_4 (k + 1) (by omega) (by omega)
          simp [dcN, cnt, c_2] at ih2
          exact V.sub (dk_sc rfl (dk_sc rfl (dk_sc rfl (dk_sn)))) ih2
  refine V.iconst hC 0 dX0_damageCount_0 (by decide) ?_
  refine V.istore_n hC dX0_damageCount_1 rfl rfl ?_
  refine V.iconst hC 0 dX0_damageCount_2 (by decide) ?_
  refine V.istore_n hC dX0_damageCount_3 rfl rfl ?_
  exact V.sub (dk_sc rfl (dk_sc rfl (dk_sc rfl (dk_sn)))) (loop_4 (N + 1) 0 (Nat.zero_le _) (by omega))
set_option maxHeartbeats 2000000 in
set_option maxRecDepth 20000 in
theorem c_X0_damageAfterFailure {l : Launch} {G : dkG} {d : Nat} {M : dkM} (hd : dk_disk G d)  : dk_Con l yX0_damageAfterFailure cX0_damageAfterFailure 3 (some .int) 3 66 G [.ref (G.1 + d)] M (some (.int (nI (dafN M d (ix (M d 5))))), M) := by
  refine dk_Con.of mwX0_damageAfterFailure.1 (Nat.le_of_ble_eq_true rfl) (fun E hE hC => ?_)
  subst hE
  obtain ⟨N, hN⟩ : ∃ N, ix (M d 5) = N := ⟨_, rfl⟩
  have hsz : N < 2 ^ 31 := hN ▸ ix_lt _
  have loop_4 : ∀ (n : Nat) (k : Nat), (k ≤ N) → (N < k + n) →  V E G 3 (some (.int (nI (dafN M d (ix (M d 5))))), M) (M) 4 [(0, some (.ref (G.1 + d))), (1, some (.int (nI (dafN M d k)))), (2, some (.int (nI k)))] [] := by
    intro n
    induction n with
    | zero => intro k hk hn; exact absurd hn (by omega)
    | succ n ih_4 =>
      intro k hk hn
      refine V.iload_n hC dX0_damageAfterFailure_4 rfl ?_
      refine V.aload_n hC dX0_damageAfterFailure_5 rfl ?_
      refine gfX0_32 hd hC dX0_damageAfterFailure_6 ?_
      refine V.icmp_ge hC 37 dX0_damageAfterFailure_9 (by decide) (fun c_1 => ?_) (fun c_1 => ?_)
      · have hke : k = N := by have := (dk_gek (k := k) (by omega)).mp c_1; omega
        subst hke
        refine V.iload_n hC dX0_damageAfterFailure_37 rfl ?_
        exact V.iret hC (by rw [hN]) dX0_damageAfterFailure_38
      · have hkl : k < N := by have := mt (dk_gek (k := k) (by omega)).mpr c_1; omega
        refine V.aload_n hC dX0_damageAfterFailure_12 rfl ?_
        refine V.iload_n hC dX0_damageAfterFailure_13 rfl ?_
        refine V.callV1i hC (c_X0_valueAfterFailure hd) mwX0_valueAfterFailure mlX0_119 hd.s hd.k rfl ⟨rfl, rfl⟩ dX0_damageAfterFailure_14 rfl ?_
        refine V.aload_n hC dX0_damageAfterFailure_17 rfl ?_
        refine gfX0_20 hd hC dX0_damageAfterFailure_18 ?_
        refine V.iload_n hC dX0_damageAfterFailure_21 rfl ?_
        refine V.callV1i hC (c_X2_get hd.r3) mwX2_get mlX0_106 hd.r3.s hd.r3.k rfl ⟨rfl, rfl⟩ dX0_damageAfterFailure_22 rfl ?_
        refine V.icmp_eq hC 31 dX0_damageAfterFailure_25 (by decide) (fun c_2 => ?_) (fun c_2 => ?_)
        · refine V.iinc hC dX0_damageAfterFailure_31 rfl (dk_incN _) rfl ?_
          refine V.goto hC 4 dX0_damageAfterFailure_34 (by decide) ?_
          have ih2 := ih_4 (k + 1) (by omega) (by omega)
          simp [dafN, cnt, c_2] at ih2
          exact V.sub (dk_sc rfl (dk_sc rfl (dk_sc rfl (dk_sn)))) ih2
        · refine V.iinc hC dX0_damageAfterFailure_28 rfl (dk_incN _) rfl ?_
          refine V.iinc hC dX0_damageAfterFailure_31 rfl (dk_incN _) rfl ?_
          refine V.goto hC 4 dX0_damageAfterFailure_34 (by decide) ?_
          have ih2 := ih_4 (k + 1) (by omega) (by omega)
          simp [dafN, cnt, c_2] at ih2
          exact V.sub (dk_sc rfl (dk_sc rfl (dk_sc rfl (dk_sn)))) ih2
  refine V.iconst hC 0 dX0_damageAfterFailure_0 (by decide) ?_
  refine V.istore_n hC dX0_damageAfterFailure_1 rfl rfl ?_
  refine V.iconst hC 0 dX0_damageAfterFailure_2 (by decide) ?_
  refine V.istore_n hC dX0_damageAfterFailure_3 rfl rfl ?_
  exact V.sub (dk_sc rfl (dk_sc rfl (dk_sc rfl (dk_sn)))) (loop_4 (N + 1) 0 (Nat.zero_le _) (by omega))
set_option maxHeartbeats 2000000 in
set_option maxRecDepth 20000 in
theorem c_X0_firstDamage {l : Launch} {G : dkG} {d : Nat} {M : dkM} (hd : dk_disk G d)  : dk_Con l yX0_firstDamage cX0_firstDamage 2 (some .int) 4 86 G [.ref (G.1 + d)] M (some (.int (fdL M d (ix (M d 5)) 0)), M) := by
  refine dk_Con.of mwX0_firstDamage.1 (Nat.le_of_ble_eq_true rfl) (fun E hE hC => ?_)
  subst hE
  obtain ⟨N, hN⟩ : ∃ N, ix (M d 5) = N := ⟨_, rfl⟩
  have hsz : N < 2 ^ 31 := hN ▸ ix_lt _
  have loop_2 : ∀ (n : Nat) (k : Nat), (k ≤ N) → (N < k + n) → (fdL M d (N - k) k = fdL M d N 0) →  V E G 2 (some (.int (fdL M d (ix (M d 5)) 0)), M) (M) 2 [(0, some (.ref (G.1 + d))), (1, some (.int (nI k)))] [] := by
    intro n
    induction n with
    | zero => intro k hk hn hT; exact absurd hn (by omega)
    | succ n ih_2 =>
      intro k hk hn hT
      refine V.iload_n hC dX0_firstDamage_2 rfl ?_
      refine V.aload_n hC dX0_firstDamage_3 rfl ?_
      refine gfX0_32 hd hC dX0_firstDamage_4 ?_
      refine V.icmp_ge hC 34 dX0_firstDamage_7 (by decide) (fun c_1 => ?_) (fun c_1 => ?_)
      · have hke : k = N := by have := (dk_gek (k := k) (by omega)).mp c_1; omega
        subst hke
        refine V.iconst hC (-1) dX0_firstDamage_34 (by decide) ?_
        exact V.iret hC (by rw [hN, ← hT, Nat.sub_self]; rfl) dX0_firstDamage_35
      · have hkl : k < N := by have := mt (dk_gek (k := k) (by omega)).mpr c_1; omega
        refine V.aload_n hC dX0_firstDamage_10 rfl ?_
        refine V.iload_n hC dX0_firstDamage_11 rfl ?_
        refine V.callV1i hC (c_X0_valueIn hd) mwX0_valueIn mlX0_116 hd.s hd.k rfl ⟨rfl, rfl⟩ dX0_firstDamage_12 rfl ?_
        refine V.aload_n hC dX0_firstDamage_15 rfl ?_
        refine gfX0_20 hd hC dX0_firstDamage_16 ?_
        refine V.iload_n hC dX0_firstDamage_19 rfl ?_
        refine V.callV1i hC (c_X2_get hd.r3) mwX2_get mlX0_106 hd.r3.s hd.r3.k rfl ⟨rfl, rfl⟩ dX0_firstDamage_20 rfl ?_
        refine V.icmp_eq hC 28 dX0_firstDamage_23 (by decide) (fun c_2 => ?_) (fun c_2 => ?_)
        · refine V.iinc hC dX0_firstDamage_28 rfl (dk_incN _) rfl ?_
          refine V.goto hC 2 dX0_firstDamage_31 (by decide) ?_
          exact V.sub (dk_sc rfl (dk_sc rfl (dk_sn))) (ih_2 (k + 1) (by omega) (by omega) (by rw [show N - k = N - (k + 1) + 1 by omega, fdL, if_pos c_2] at hT; exact hT))
        · refine V.iload_n hC dX0_firstDamage_26 rfl ?_
          exact V.iret hC (by rw [hN, ← hT, show N - k = N - (k + 1) + 1 by omega, fdL, if_neg c_2]) dX0_firstDamage_27
  refine V.iconst hC 0 dX0_firstDamage_0 (by decide) ?_
  refine V.istore_n hC dX0_firstDamage_1 rfl rfl ?_
  exact V.sub (dk_sc rfl (dk_sc rfl (dk_sn))) (loop_2 (N + 1) 0 (Nat.zero_le _) (by omega) rfl)
set_option maxHeartbeats 2000000 in
set_option maxRecDepth 20000 in
theorem c_X0_fillWithZeros {l : Launch} {G : dkG} {d : Nat} {M : dkM} (hd : dk_disk G d)  : dk_Con l yX0_fillWithZeros cX0_fillWithZeros 2 none 2 45 G [.ref (G.1 + d)] M (none, fillZ M d) := by
  refine dk_Con.of mwX0_fillWithZeros.1 (Nat.le_of_ble_eq_true rfl) (fun E hE hC => ?_)
  subst hE
  obtain ⟨N, hN⟩ : ∃ N, ix (M d 5) = N := ⟨_, rfl⟩
  have hsz : N < 2 ^ 31 := hN ▸ ix_lt _
  have hq : rclear M (d + 5) 64 d = M d := rclear_ne (by omega)
  have loop_9 : ∀ (n : Nat) (k : Nat), (k ≤ N) → (N < k + n) →  V E G 2 (none, fillZ M d) (fzM (rclear M (d + 5) 64) d k) 9 [(0, some (.ref (G.1 + d))), (1, some (.int (nI k)))] [] := by
    intro n
    induction n with
    | zero => intro k hk hn; exact absurd hn (by omega)
    | succ n ih_9 =>
      intro k hk hn
      refine V.iload_n hC dX0_fillWithZeros_9 rfl ?_
      refine V.aload_n hC dX0_fillWithZeros_10 rfl ?_
      refine gfX0_32 hd hC dX0_fillWithZeros_11 ?_
      refine V.icmp_ge hC 50 dX0_fillWithZeros_14 (by decide) (fun c_1 => ?_) (fun c_1 => ?_)
      · have hke : k = N := by have hc := c_1; rw [fzM_d, hq] at hc; have := (dk_gek (k := k) (by omega)).mp hc; omega
        subst hke
        exact V.vret hC (by unfold fillZ; rw [hN]) dX0_fillWithZeros_50
      · have hkl : k < N := by have hc := c_1; rw [fzM_d, hq] at hc; have := mt (dk_gek (k := k) (by omega)).mpr hc; omega
        refine V.aload_n hC dX0_fillWithZeros_17 rfl ?_
        refine gfX0_14 hd hC dX0_fillWithZeros_18 ?_
        refine V.iload_n hC dX0_fillWithZeros_21 rfl ?_
        refine V.aload_n hC dX0_fillWithZeros_22 rfl ?_
        refine V.iconst hC 0 dX0_fillWithZeros_23 (by decide) ?_
        refine V.iload_n hC dX0_fillWithZeros_24 rfl ?_
        refine V.aload_n hC dX0_fillWithZeros_25 rfl ?_
        refine gfX0_36 hd hC dX0_fillWithZeros_26 ?_
        refine V.callV3i hC (c_X0_exchange hd) mwX0_exchange mlX0_147 hd.s hd.k rfl ⟨rfl, rfl⟩ dX0_fillWithZeros_29 rfl ?_
        refine V.callV2v hC (c_X2_set hd.r1) mwX2_set mlX0_64 hd.r1.s hd.r1.k rfl ⟨rfl, rfl⟩ dX0_fillWithZeros_32 rfl ?_
        refine V.aload_n hC dX0_fillWithZeros_35 rfl ?_
        refine gfX0_20 hd hC dX0_fillWithZeros_36 ?_
        refine V.iload_n hC dX0_fillWithZeros_39 rfl ?_
        refine V.iconst hC 0 dX0_fillWithZeros_40 (by decide) ?_
        refine V.callV2v hC (c_X2_set hd.r3) mwX2_set mlX0_64 hd.r3.s hd.r3.k rfl ⟨rfl, rfl⟩ dX0_fillWithZeros_41 rfl ?_
        refine V.iinc hC dX0_fillWithZeros_44 rfl (dk_incN _) rfl ?_
        refine V.goto hC 9 dX0_fillWithZeros_47 (by decide) ?_
        exact V.sub (dk_sc rfl (dk_sc rfl (dk_sn))) (ih_9 (k + 1) (by omega) (by omega))
  refine V.aload_n hC dX0_fillWithZeros_0 rfl ?_
  refine gfX0_23 hd hC dX0_fillWithZeros_1 ?_
  refine V.callV0v hC (c_X2_clear hd.r5) mwX2_clear mlX0_125 hd.r5.s hd.r5.k rfl ⟨rfl, rfl⟩ dX0_fillWithZeros_4 rfl ?_
  refine V.iconst hC 0 dX0_fillWithZeros_7 (by decide) ?_
  refine V.istore_n hC dX0_fillWithZeros_8 rfl rfl ?_
  exact V.sub (dk_sc rfl (dk_sc rfl (dk_sn))) (loop_9 (N + 1) 0 (Nat.zero_le _) (by omega))
set_option maxHeartbeats 2000000 in
set_option maxRecDepth 20000 in
theorem c_X0_flushCache {l : Launch} {G : dkG} {d : Nat} {M : dkM} (hd : dk_disk G d)  : dk_Con l yX0_flushCache cX0_flushCache 3 (some .int) 4 85 G [.ref (G.1 + d)] M (some (.int (nI (flN M d (ix (M d 5))))), flM M d (ix (M d 5))) := by
  refine dk_Con.of mwX0_flushCache.1 (Nat.le_of_ble_eq_true rfl) (fun E hE hC => ?_)
  subst hE
  obtain ⟨N, hN⟩ : ∃ N, ix (M d 5) = N := ⟨_, rfl⟩
  have hsz : N < 2 ^ 31 := hN ▸ ix_lt _
  have loop_4 : ∀ (n : Nat) (k : Nat), (k ≤ N) → (N < k + n) →  V E G 3 (some (.int (nI (flN M d (ix (M d 5))))), flM M d (ix (M d 5))) (flM M d k) 4 [(0, some (.ref (G.1 + d))), (1, some (.int (nI (flN M d k)))), (2, some (.int (nI k)))] [] := by
    intro n
    induction n with
    | zero => intro k hk hn; exact absurd hn (by omega)
    | succ n ih_4 =>
      intro k hk hn
      refine V.iload_n hC dX0_flushCache_4 rfl ?_
      refine V.aload_n hC dX0_flushCache_5 rfl ?_
      refine gfX0_32 hd hC dX0_flushCache_6 ?_
      refine V.icmp_ge hC 51 dX0_flushCache_9 (by decide) (fun c_1 => ?_) (fun c_1 => ?_)
      · have hke : k = N := by have hc := c_1; rw [flM_d] at hc; have := (dk_gek (k := k) (by omega)).mp hc; omega
        subst hke
        refine V.iload_n hC dX0_flushCache_51 rfl ?_
        exact V.iret hC (by rw [hN]) dX0_flushCache_52
      · have hkl : k < N := by have hc := c_1; rw [flM_d] at hc; have := mt (dk_gek (k := k) (by omega)).mpr hc; omega
        refine V.aload_n hC dX0_flushCache_12 rfl ?_
        refine V.iload_n hC dX0_flushCache_13 rfl ?_
        refine V.callV1i hC (c_X0_isFlushable hd) mwX0_isFlushable mlX0_110 hd.s hd.k rfl ⟨rfl, rfl⟩ dX0_flushCache_14 rfl ?_
        refine V.if_eqB hC 45 dX0_flushCache_17 (by decide) (fun c_2 => ?_) (fun c_2 => ?_)
        · refine V.iinc hC dX0_flushCache_45 rfl (dk_incN _) rfl ?_
          refine V.goto hC 4 dX0_flushCache_48 (by decide) ?_
          have ih2 := ih_4 (k + 1) (by omega) (by omega)
          simp only [flN, flM, c_2, if_true, Bool.false_eq_true, if_false] at ih2
          exact V.sub (dk_sc rfl (dk_sc rfl (dk_sc rfl (dk_sn)))) ih2
        · refine V.aload_n hC dX0_flushCache_20 rfl ?_
          refine gfX0_14 hd hC dX0_flushCache_21 ?_
          refine V.iload_n hC dX0_flushCache_24 rfl ?_
          refine V.aload_n hC dX0_flushCache_25 rfl ?_
          refine V.iload_n hC dX0_flushCache_26 rfl ?_
          refine V.callV1i hC (c_X0_scrambledAfterFlush hd) mwX0_scrambledAfterFlush mlX0_113 hd.s hd.k rfl ⟨rfl, rfl⟩ dX0_flushCache_27 rfl ?_
          refine V.callV2v hC (c_X2_set hd.r1) mwX2_set mlX0_64 hd.r1.s hd.r1.k rfl ⟨rfl, rfl⟩ dX0_flushCache_30 rfl ?_
          refine V.aload_n hC dX0_flushCache_33 rfl ?_
          refine gfX0_23 hd hC dX0_flushCache_34 ?_
          refine V.iload_n hC dX0_flushCache_37 rfl ?_
          refine V.iconst hC (-1) dX0_flushCache_38 (by decide) ?_
          refine V.callV2v hC (c_X2_set hd.r5) mwX2_set mlX0_64 hd.r5.s hd.r5.k rfl ⟨rfl, rfl⟩ dX0_flushCache_39 rfl ?_
          refine V.iinc hC dX0_flushCache_42 rfl (dk_incN _) rfl ?_
          refine V.iinc hC dX0_flushCache_45 rfl (dk_incN _) rfl ?_
          refine V.goto hC 4 dX0_flushCache_48 (by decide) ?_
          have ih2 := ih_4 (k + 1) (by omega) (by omega)
          simp only [flN, flM, c_2, if_true, Bool.false_eq_true, if_false] at ih2
          exact V.sub (dk_sc rfl (dk_sc rfl (dk_sc rfl (dk_sn)))) ih2
  refine V.iconst hC 0 dX0_flushCache_0 (by decide) ?_
  refine V.istore_n hC dX0_flushCache_1 rfl rfl ?_
  refine V.iconst hC 0 dX0_flushCache_2 (by decide) ?_
  refine V.istore_n hC dX0_flushCache_3 rfl rfl ?_
  exact V.sub (dk_sc rfl (dk_sc rfl (dk_sc rfl (dk_sn)))) (loop_4 (N + 1) 0 (Nat.zero_le _) (by omega))
set_option maxHeartbeats 2000000 in
set_option maxRecDepth 20000 in
theorem c_X0_closeZone {l : Launch} {G : dkG} {d : Nat} {M : dkM} (hd : dk_disk G d)  : dk_Con l yX0_closeZone cX0_closeZone 1 none 1 21 G [.ref (G.1 + d)] M (none, dClose M d) := by
  refine dk_Con.of mwX0_closeZone.1 (Nat.le_of_ble_eq_true rfl) (fun E hE hC => ?_)
  subst hE
  refine V.aload_n hC dX0_closeZone_0 rfl ?_
  refine gfX0_26 hd hC dX0_closeZone_1 ?_
  refine V.callV0v hC (c_X2_clear hd.r7) mwX2_clear mlX0_125 hd.r7.s hd.r7.k rfl ⟨rfl, rfl⟩ dX0_closeZone_4 rfl ?_
  refine V.aload_n hC dX0_closeZone_7 rfl ?_
  refine V.iconst hC 0 dX0_closeZone_8 (by decide) ?_
  refine pfX0_49 hd hC dX0_closeZone_9 ?_
  exact V.vret hC (rfl) dX0_closeZone_12
set_option maxHeartbeats 2000000 in
set_option maxRecDepth 20000 in
theorem c_X0_losePower {l : Launch} {G : dkG} {d : Nat} {M : dkM} (hd : dk_disk G d)  : dk_Con l yX0_losePower cX0_losePower 3 (some .int) 4 86 G [.ref (G.1 + d)] M (some (.int (nI (lpN M d (ix (M d 5))))), dFail M d) := by
  refine dk_Con.of mwX0_losePower.1 (Nat.le_of_ble_eq_true rfl) (fun E hE hC => ?_)
  subst hE
  obtain ⟨N, hN⟩ : ∃ N, ix (M d 5) = N := ⟨_, rfl⟩
  have hsz : N < 2 ^ 31 := hN ▸ ix_lt _
  have loop_36 : ∀ (n : Nat) (k : Nat), (k ≤ N) → (N < k + n) →  V E G 3 (some (.int (nI (lpN M d (ix (M d 5))))), dFail M d) (lpM M d k) 36 [(0, some (.ref (G.1 + d))), (1, some (.int (nI (lpN M d N)))), (2, some (.int (nI k)))] [] := by
    intro n
    induction n with
    | zero => intro k hk hn; exact absurd hn (by omega)
    | succ n ih_36 =>
      intro k hk hn
      refine V.iload_n hC dX0_losePower_36 rfl ?_
      refine V.aload_n hC dX0_losePower_37 rfl ?_
      refine gfX0_32 hd hC dX0_losePower_38 ?_
      refine V.icmp_ge hC 63 dX0_losePower_41 (by decide) (fun c_1 => ?_) (fun c_1 => ?_)
      · have hke : k = N := by have hc := c_1; rw [lpM_d] at hc; have := (dk_gek (k := k) (by omega)).mp hc; omega
        subst hke
        refine V.aload_n hC dX0_losePower_63 rfl ?_
        refine gfX0_23 hd hC dX0_losePower_64 ?_
        refine V.callV0v hC (c_X2_clear hd.r5) mwX2_clear mlX0_125 hd.r5.s hd.r5.k rfl ⟨rfl, rfl⟩ dX0_losePower_67 rfl ?_
        refine V.aload_n hC dX0_losePower_70 rfl ?_
        refine V.callV0v hC (c_X0_closeZone hd) mwX0_closeZone mlX0_75 hd.s hd.k rfl ⟨rfl, rfl⟩ dX0_losePower_71 rfl ?_
        refine V.aload_n hC dX0_losePower_74 rfl ?_
        refine V.dup hC dX0_losePower_75 rfl ?_
        refine gfX0_61 hd hC dX0_losePower_76 ?_
        refine V.iconst hC 1 dX0_losePower_79 (by decide) ?_
        refine V.iadd hC dX0_losePower_80 ?_
        refine pfX0_61 hd hC dX0_losePower_81 ?_
        refine V.iload_n hC dX0_losePower_84 rfl ?_
        exact V.iret hC (by unfold dFail dFailM; rw [hN]) dX0_losePower_85
      · have hkl : k < N := by have hc := c_1; rw [lpM_d] at hc; have := mt (dk_gek (k := k) (by omega)).mpr hc; omega
        refine V.aload_n hC dX0_losePower_44 rfl ?_
        refine gfX0_14 hd hC dX0_losePower_45 ?_
        refine V.iload_n hC dX0_losePower_48 rfl ?_
        refine V.aload_n hC dX0_losePower_49 rfl ?_
        refine V.iload_n hC dX0_losePower_50 rfl ?_
        refine V.callV1i hC (c_X0_scrambledAfterFailure hd) mwX0_scrambledAfterFailure mlX0_122 hd.s hd.k rfl ⟨rfl, rfl⟩ dX0_losePower_51 rfl ?_
        refine V.callV2v hC (c_X2_set hd.r1) mwX2_set mlX0_64 hd.r1.s hd.r1.k rfl ⟨rfl, rfl⟩ dX0_losePower_54 rfl ?_
        refine V.iinc hC dX0_losePower_57 rfl (dk_incN _) rfl ?_
        refine V.goto hC 36 dX0_losePower_60 (by decide) ?_
        exact V.sub (dk_sc rfl (dk_sc rfl (dk_sc rfl (dk_sn)))) (ih_36 (k + 1) (by omega) (by omega))
  have loop_4 : ∀ (n : Nat) (k : Nat), (k ≤ N) → (N < k + n) →  V E G 3 (some (.int (nI (lpN M d (ix (M d 5))))), dFail M d) (M) 4 [(0, some (.ref (G.1 + d))), (1, some (.int (nI (lpN M d k)))), (2, some (.int (nI k)))] [] := by
    intro n
    induction n with
    | zero => intro k hk hn; exact absurd hn (by omega)
    | succ n ih_4 =>
      intro k hk hn
      refine V.iload_n hC dX0_losePower_4 rfl ?_
      refine V.aload_n hC dX0_losePower_5 rfl ?_
      refine gfX0_32 hd hC dX0_losePower_6 ?_
      refine V.icmp_ge hC 34 dX0_losePower_9 (by decide) (fun c_1 => ?_) (fun c_1 => ?_)
      · have hke : k = N := by have := (dk_gek (k := k) (by omega)).mp c_1; omega
        rw [hke]
        refine V.iconst hC 0 dX0_losePower_34 (by decide) ?_
        refine V.istore_n hC dX0_losePower_35 rfl rfl ?_
        skip
        exact V.sub (dk_sc rfl (dk_sc rfl (dk_sc rfl (dk_sn)))) (loop_36 (N + 1) 0 (Nat.zero_le _) (by omega))
      · have hkl : k < N := by have := mt (dk_gek (k := k) (by omega)).mpr c_1; omega
        refine V.aload_n hC dX0_losePower_12 rfl ?_
        refine V.iload_n hC dX0_losePower_13 rfl ?_
        refine V.callV1i hC (c_X0_valueIn hd) mwX0_valueIn mlX0_116 hd.s hd.k rfl ⟨rfl, rfl⟩ dX0_losePower_14 rfl ?_
        refine V.aload_n hC dX0_losePower_17 rfl ?_
        refine V.iload_n hC dX0_losePower_18 rfl ?_
        refine V.callV1i hC (c_X0_valueAfterFailure hd) mwX0_valueAfterFailure mlX0_119 hd.s hd.k rfl ⟨rfl, rfl⟩ dX0_losePower_19 rfl ?_
        refine V.icmp_eq hC 28 dX0_losePower_22 (by decide) (fun c_2 => ?_) (fun c_2 => ?_)
        · refine V.iinc hC dX0_losePower_28 rfl (dk_incN _) rfl ?_
          refine V.goto hC 4 dX0_losePower_31 (by decide) ?_
          have ih2 := ih_4 (k + 1) (by omega) (by omega)
          simp [lpN, cnt, c_2] at ih2
          exact V.sub (dk_sc rfl (dk_sc rfl (dk_sc rfl (dk_sn)))) ih2
        · refine V.iinc hC dX0_losePower_25 rfl (dk_incN _) rfl ?_
          refine V.iinc hC dX0_losePower_28 rfl (dk_incN _) rfl ?_
          refine V.goto hC 4 dX0_losePower_31 (by decide) ?_
          have ih2 := ih_4 (k + 1) (by omega) (by omega)
          simp [lpN, cnt, c_2] at ih2
          exact V.sub (dk_sc rfl (dk_sc rfl (dk_sc rfl (dk_sn)))) ih2
  refine V.iconst hC 0 dX0_losePower_0 (by decide) ?_
  refine V.istore_n hC dX0_losePower_1 rfl rfl ?_
  refine V.iconst hC 0 dX0_losePower_2 (by decide) ?_
  refine V.istore_n hC dX0_losePower_3 rfl rfl ?_
  exact V.sub (dk_sc rfl (dk_sc rfl (dk_sc rfl (dk_sn)))) (loop_4 (N + 1) 0 (Nat.zero_le _) (by omega))
set_option maxHeartbeats 2000000 in
set_option maxRecDepth 20000 in
theorem c_X0_endIfThrough {l : Launch} {G : dkG} {d : Nat} {M : dkM} (hd : dk_disk G d)  : dk_Con l yX0_endIfThrough cX0_endIfThrough 1 none 0 0 G [.ref (G.1 + d)] M (none, endThru M d) := by
  refine dk_Con.of mwX0_endIfThrough.1 (Nat.le_of_ble_eq_true rfl) (fun E hE hC => ?_)
  subst hE
  refine V.aload_n hC dX0_endIfThrough_0 rfl ?_
  refine gfX0_42 hd hC dX0_endIfThrough_1 ?_
  refine V.if_eq hC 44 dX0_endIfThrough_4 (by decide) (fun c_1 => ?_) (fun c_1 => ?_)
  · refine V.aload_n hC dX0_endIfThrough_44 rfl ?_
    refine gfX0_42 hd hC dX0_endIfThrough_45 ?_
    refine V.if_ne hC 63 dX0_endIfThrough_48 (by decide) (fun c_2 => ?_) (fun c_2 => ?_)
    · exact V.vret hC (by first | exact absurd c_1 c_2 | exact absurd c_3 c_1 | simp [endThru, put_k, c_1, c_2]) dX0_endIfThrough_63
    · refine V.aload_n hC dX0_endIfThrough_51 rfl ?_
      refine gfX0_46 hd hC dX0_endIfThrough_52 ?_
      refine V.if_gt hC 63 dX0_endIfThrough_55 (by decide) (fun c_3 => ?_) (fun c_3 => ?_)
      · exact V.vret hC (by first | exact absurd c_1 c_2 | exact absurd c_3 c_1 | simp [endThru, put_k, c_1, c_2, c_3, dk_lt1 c_3]) dX0_endIfThrough_63
      · refine V.aload_n hC dX0_endIfThrough_58 rfl ?_
        refine V.iconst hC 0 dX0_endIfThrough_59 (by decide) ?_
        refine pfX0_39 hd hC dX0_endIfThrough_60 ?_
        exact V.vret hC (by first | exact absurd c_1 c_2 | exact absurd c_3 c_1 | simp [endThru, put_k, c_1, c_2, c_3, dk_nlt c_3]) dX0_endIfThrough_63
  · refine V.aload_n hC dX0_endIfThrough_7 rfl ?_
    refine gfX0_46 hd hC dX0_endIfThrough_8 ?_
    refine V.aload_n hC dX0_endIfThrough_11 rfl ?_
    refine gfX0_32 hd hC dX0_endIfThrough_12 ?_
    refine V.icmp_lt hC 44 dX0_endIfThrough_15 (by decide) (fun c_2 => ?_) (fun c_2 => ?_)
    · refine V.aload_n hC dX0_endIfThrough_44 rfl ?_
      refine gfX0_42 hd hC dX0_endIfThrough_45 ?_
      refine V.if_ne hC 63 dX0_endIfThrough_48 (by decide) (fun c_3 => ?_) (fun c_3 => ?_)
      · exact V.vret hC (by first | exact absurd c_1 c_2 | exact absurd c_3 c_1 | simp [endThru, put_k, c_1, c_2, dk_lt1 c_2, c_3]) dX0_endIfThrough_63
      · refine V.aload_n hC dX0_endIfThrough_51 rfl ?_
        refine gfX0_46 hd hC dX0_endIfThrough_52 ?_
        refine V.if_gt hC 63 dX0_endIfThrough_55 (by decide) (fun c_4 => ?_) (fun c_4 => ?_)
        · exact V.vret hC (by first | exact absurd c_1 c_2 | exact absurd c_3 c_1 | simp [endThru, put_k, c_1, c_2, dk_lt1 c_2, c_3, c_4, dk_lt1 c_4]) dX0_endIfThrough_63
        · refine V.aload_n hC dX0_endIfThrough_58 rfl ?_
          refine V.iconst hC 0 dX0_endIfThrough_59 (by decide) ?_
          refine pfX0_39 hd hC dX0_endIfThrough_60 ?_
          exact V.vret hC (by first | exact absurd c_1 c_2 | exact absurd c_3 c_1 | simp [endThru, put_k, c_1, c_2, dk_lt1 c_2, c_3, c_4, dk_nlt c_4]) dX0_endIfThrough_63
    · refine V.aload_n hC dX0_endIfThrough_18 rfl ?_
      refine V.aload_n hC dX0_endIfThrough_19 rfl ?_
      refine gfX0_39 hd hC dX0_endIfThrough_20 ?_
      refine pfX0_36 hd hC dX0_endIfThrough_23 ?_
      refine V.aload_n hC dX0_endIfThrough_26 rfl ?_
      refine V.dup hC dX0_endIfThrough_27 rfl ?_
      refine gfX0_58 hd hC dX0_endIfThrough_28 ?_
      refine V.iconst hC 1 dX0_endIfThrough_31 (by decide) ?_
      refine V.iadd hC dX0_endIfThrough_32 ?_
      refine pfX0_58 hd hC dX0_endIfThrough_33 ?_
      refine V.aload_n hC dX0_endIfThrough_36 rfl ?_
      refine V.iconst hC 0 dX0_endIfThrough_37 (by decide) ?_
      refine pfX0_39 hd hC dX0_endIfThrough_38 ?_
      refine V.goto hC 63 dX0_endIfThrough_41 (by decide) ?_
      exact V.vret hC (by first | exact absurd c_1 c_2 | exact absurd c_3 c_1 | simp [endThru, put_k, c_1, c_2, dk_nlt c_2]) dX0_endIfThrough_63
set_option maxHeartbeats 2000000 in
set_option maxRecDepth 20000 in
theorem c_X0_rewriteNext {l : Launch} {G : dkG} {d : Nat} {M : dkM} (hd : dk_disk G d) {s : Int32}  : dk_Con l yX0_rewriteNext cX0_rewriteNext 4 none 2 45 G [.ref (G.1 + d), .int s] M (none, rwNext M d s) := by
  refine dk_Con.of mwX0_rewriteNext.1 (Nat.le_of_ble_eq_true rfl) (fun E hE hC => ?_)
  subst hE
  refine V.aload_n hC dX0_rewriteNext_0 rfl ?_
  refine V.iload_n hC dX0_rewriteNext_1 rfl ?_
  refine V.callV1i hC (c_X0_keyByPosition hd) mwX0_keyByPosition mlX0_154 hd.s hd.k rfl ⟨rfl, rfl⟩ dX0_rewriteNext_2 rfl ?_
  refine V.istore_n hC dX0_rewriteNext_5 rfl rfl ?_
  refine V.aload_n hC dX0_rewriteNext_6 rfl ?_
  refine V.aload_n hC dX0_rewriteNext_7 rfl ?_
  refine gfX0_14 hd hC dX0_rewriteNext_8 ?_
  refine V.iload_n hC dX0_rewriteNext_11 rfl ?_
  refine V.callV1i hC (c_X2_get hd.r1) mwX2_get mlX0_106 hd.r1.s hd.r1.k rfl ⟨rfl, rfl⟩ dX0_rewriteNext_12 rfl ?_
  refine V.iload_n hC dX0_rewriteNext_15 rfl ?_
  refine V.iload_n hC dX0_rewriteNext_16 rfl ?_
  refine V.callV3i hC (c_X0_exchange hd) mwX0_exchange mlX0_147 hd.s hd.k rfl ⟨rfl, rfl⟩ dX0_rewriteNext_17 rfl ?_
  refine V.istore_n hC dX0_rewriteNext_20 rfl rfl ?_
  refine V.aload_n hC dX0_rewriteNext_21 rfl ?_
  refine gfX0_14 hd hC dX0_rewriteNext_22 ?_
  refine V.iload_n hC dX0_rewriteNext_25 rfl ?_
  refine V.aload_n hC dX0_rewriteNext_26 rfl ?_
  refine V.iload_n hC dX0_rewriteNext_27 rfl ?_
  refine V.iload_n hC dX0_rewriteNext_28 rfl ?_
  refine V.aload_n hC dX0_rewriteNext_29 rfl ?_
  refine V.iload_n hC dX0_rewriteNext_30 rfl ?_
  refine V.callV1i hC (c_X0_otherKey hd) mwX0_otherKey mlX0_157 hd.s hd.k rfl ⟨rfl, rfl⟩ dX0_rewriteNext_31 rfl ?_
  refine V.callV3i hC (c_X0_exchange hd) mwX0_exchange mlX0_147 hd.s hd.k rfl ⟨rfl, rfl⟩ dX0_rewriteNext_34 rfl ?_
  refine V.callV2v hC (c_X2_set hd.r1) mwX2_set mlX0_64 hd.r1.s hd.r1.k rfl ⟨rfl, rfl⟩ dX0_rewriteNext_37 rfl ?_
  refine V.aload_n hC dX0_rewriteNext_40 rfl ?_
  refine V.dup hC dX0_rewriteNext_41 rfl ?_
  refine gfX0_49 hd hC dX0_rewriteNext_42 ?_
  refine V.iconst hC 1 dX0_rewriteNext_45 (by decide) ?_
  refine V.iadd hC dX0_rewriteNext_46 ?_
  refine pfX0_49 hd hC dX0_rewriteNext_47 ?_
  exact V.vret hC (rfl) dX0_rewriteNext_50
set_option maxHeartbeats 2000000 in
set_option maxRecDepth 20000 in
theorem c_X0_makeStep {l : Launch} {G : dkG} {d : Nat} {M : dkM} (hd : dk_disk G d) (hI : dI M d) : dk_Con l yX0_makeStep cX0_makeStep 2 none 3 68 G [.ref (G.1 + d)] M (none, dStep M d) := by
  refine dk_Con.of mwX0_makeStep.1 (Nat.le_of_ble_eq_true rfl) (fun E hE hC => ?_)
  subst hE
  have hz0 := dI_zFb hI
  have hze := dI_zEb hI
  have hi0 := ix_toInt hz0.1
  have hi1 := ix_toInt hze.1
  have loop_12 : ∀ (n : Nat) (k : Nat), (needsJ M d = true) → (k ≤ ix (zEnd M d) - ix (zFirst M d)) → (ix (zEnd M d) - ix (zFirst M d) < k + n) →  V E G 2 (none, dStep M d) (jrM M d (ix (zFirst M d)) k) 12 [(0, some (.ref (G.1 + d))), (1, some (.int (nI (ix (zFirst M d) + k))))] [] := by
    intro n
    induction n with
    | zero => intro k hj hk hn; exact absurd hn (by omega)
    | succ n ih_12 =>
      intro k hj hk hn
      refine V.iload_n hC dX0_makeStep_12 rfl ?_
      refine V.aload_n hC dX0_makeStep_13 rfl ?_
      refine V.callV0i hC (c_X0_zoneEnd hd) mwX0_zoneEnd mlX0_172 hd.s hd.k rfl ⟨rfl, rfl⟩ dX0_makeStep_14 rfl ?_
      refine V.icmp_ge hC 42 dX0_makeStep_17 (by decide) (fun c_1 => ?_) (fun c_1 => ?_)
      · have hke : k = ix (zEnd M d) - ix (zFirst M d) := by have hc := c_1; rw [zEnd_congr (jrM_ne _ _ _ _ (by omega))] at hc; have := (dk_gek (k := ix (zFirst M d) + k) (by omega)).mp hc; omega
        refine V.goto hC 107 dX0_makeStep_42 (by decide) ?_
        exact V.vret hC (by first | (simp [dStep, hj, hke]; done) | simp [dStep, c_1, dk_le1 c_1]) dX0_makeStep_107
      · have hkl : k < ix (zEnd M d) - ix (zFirst M d) := by have hc := c_1; rw [zEnd_congr (jrM_ne _ _ _ _ (by omega))] at hc; have := mt (dk_gek (k := ix (zFirst M d) + k) (by omega)).mpr hc; omega
        refine V.aload_n hC dX0_makeStep_20 rfl ?_
        refine gfX0_26 hd hC dX0_makeStep_21 ?_
        refine V.iload_n hC dX0_makeStep_24 rfl ?_
        refine V.aload_n hC dX0_makeStep_25 rfl ?_
        refine gfX0_14 hd hC dX0_makeStep_26 ?_
        refine V.iload_n hC dX0_makeStep_29 rfl ?_
        refine V.callV1i hC (c_X2_get hd.r1) mwX2_get mlX0_106 hd.r1.s hd.r1.k rfl ⟨rfl, rfl⟩ dX0_makeStep_30 rfl ?_
        refine V.callV2v hC (c_X2_set hd.r7) mwX2_set mlX0_64 hd.r7.s hd.r7.k rfl ⟨rfl, rfl⟩ dX0_makeStep_33 rfl ?_
        refine V.iinc hC dX0_makeStep_36 rfl (dk_incN _) rfl ?_
        refine V.goto hC 12 dX0_makeStep_39 (by decide) ?_
        exact V.sub (dk_sc rfl (dk_sc rfl (dk_sn))) (ih_12 (k + 1) hj (by omega) (by omega))
  refine V.aload_n hC dX0_makeStep_0 rfl ?_
  refine V.callV0i hC (c_X0_needsJournal hd) mwX0_needsJournal mlX0_169 hd.s hd.k rfl ⟨rfl, rfl⟩ dX0_makeStep_1 rfl ?_
  refine V.if_eqB hC 45 dX0_makeStep_4 (by decide) (fun c_1 => ?_) (fun c_1 => ?_)
  · refine V.aload_n hC dX0_makeStep_45 rfl ?_
    refine V.callV0i hC (c_X0_zoneFirst hd) mwX0_zoneFirst mlX0_151 hd.s hd.k rfl ⟨rfl, rfl⟩ dX0_makeStep_46 rfl ?_
    refine V.aload_n hC dX0_makeStep_49 rfl ?_
    refine gfX0_49 hd hC dX0_makeStep_50 ?_
    refine V.iadd hC dX0_makeStep_53 ?_
    refine V.aload_n hC dX0_makeStep_54 rfl ?_
    refine V.callV0i hC (c_X0_zoneEnd hd) mwX0_zoneEnd mlX0_172 hd.s hd.k rfl ⟨rfl, rfl⟩ dX0_makeStep_55 rfl ?_
    refine V.icmp_ge hC 77 dX0_makeStep_58 (by decide) (fun c_2 => ?_) (fun c_2 => ?_)
    · refine V.aload_n hC dX0_makeStep_77 rfl ?_
      refine V.aload_n hC dX0_makeStep_78 rfl ?_
      refine gfX0_42 hd hC dX0_makeStep_79 ?_
      refine V.if_eq hC 92 dX0_makeStep_82 (by decide) (fun c_3 => ?_) (fun c_3 => ?_)
      · refine V.aload_n hC dX0_makeStep_92 rfl ?_
        refine V.callV0i hC (c_X0_zoneFirst hd) mwX0_zoneFirst mlX0_151 hd.s hd.k rfl ⟨rfl, rfl⟩ dX0_makeStep_93 rfl ?_
        refine pfX0_46 hd hC dX0_makeStep_96 ?_
        refine V.aload_n hC dX0_makeStep_99 rfl ?_
        refine V.callV0v hC (c_X0_closeZone hd) mwX0_closeZone mlX0_75 hd.s hd.k rfl ⟨rfl, rfl⟩ dX0_makeStep_100 rfl ?_
        refine V.aload_n hC dX0_makeStep_103 rfl ?_
        refine V.callV0v hC (c_X0_endIfThrough hd) mwX0_endIfThrough mlX0_100 hd.s hd.k rfl ⟨rfl, rfl⟩ dX0_makeStep_104 rfl ?_
        exact V.vret hC (by first | (simp [dStep, hj, hke]; done) | simp [dStep, c_1, c_2, dk_le1 c_2, c_3]) dX0_makeStep_107
      · refine V.aload_n hC dX0_makeStep_85 rfl ?_
        refine V.callV0i hC (c_X0_zoneEnd hd) mwX0_zoneEnd mlX0_172 hd.s hd.k rfl ⟨rfl, rfl⟩ dX0_makeStep_86 rfl ?_
        refine V.goto hC 96 dX0_makeStep_89 (by decide) ?_
        refine pfX0_46 hd hC dX0_makeStep_96 ?_
        refine V.aload_n hC dX0_makeStep_99 rfl ?_
        refine V.callV0v hC (c_X0_closeZone hd) mwX0_closeZone mlX0_75 hd.s hd.k rfl ⟨rfl, rfl⟩ dX0_makeStep_100 rfl ?_
        refine V.aload_n hC dX0_makeStep_103 rfl ?_
        refine V.callV0v hC (c_X0_endIfThrough hd) mwX0_endIfThrough mlX0_100 hd.s hd.k rfl ⟨rfl, rfl⟩ dX0_makeStep_104 rfl ?_
        exact V.vret hC (by first | (simp [dStep, hj, hke]; done) | simp [dStep, c_1, c_2, dk_le1 c_2, c_3]) dX0_makeStep_107
    · refine V.aload_n hC dX0_makeStep_61 rfl ?_
      refine V.aload_n hC dX0_makeStep_62 rfl ?_
      refine V.callV0i hC (c_X0_zoneFirst hd) mwX0_zoneFirst mlX0_151 hd.s hd.k rfl ⟨rfl, rfl⟩ dX0_makeStep_63 rfl ?_
      refine V.aload_n hC dX0_makeStep_66 rfl ?_
      refine gfX0_49 hd hC dX0_makeStep_67 ?_
      refine V.iadd hC dX0_makeStep_70 ?_
      refine V.callV1v hC (c_X0_rewriteNext hd) mwX0_rewriteNext mlX0_175 hd.s hd.k rfl ⟨rfl, rfl⟩ dX0_makeStep_71 rfl ?_
      refine V.goto hC 107 dX0_makeStep_74 (by decide) ?_
      exact V.vret hC (by first | (simp [dStep, hj, hke]; done) | simp [dStep, c_1, c_2, dk_nle c_2]) dX0_makeStep_107
  · refine V.aload_n hC dX0_makeStep_7 rfl ?_
    refine V.callV0i hC (c_X0_zoneFirst hd) mwX0_zoneFirst mlX0_151 hd.s hd.k rfl ⟨rfl, rfl⟩ dX0_makeStep_8 rfl ?_
    refine V.top (congrArg Value.int (nI_ix hz0.1)) ?_
    refine V.istore_n hC dX0_makeStep_11 rfl rfl ?_
    exact V.sub (dk_sc rfl (dk_sc rfl (dk_sn))) (loop_12 (ix (zEnd M d) - ix (zFirst M d) + 1) 0 c_1 (Nat.zero_le _) (by omega))
set_option maxHeartbeats 2000000 in
set_option maxRecDepth 20000 in
theorem c_X0_stepsAhead {l : Launch} {G : dkG} {d : Nat} {M : dkM} (hd : dk_disk G d)  : dk_Con l yX0_stepsAhead cX0_stepsAhead 4 (some .int) 3 62 G [.ref (G.1 + d)] M (some (.int (sAhead M d)), M) := by
  refine dk_Con.of mwX0_stepsAhead.1 (Nat.le_of_ble_eq_true rfl) (fun E hE hC => ?_)
  subst hE
  refine V.aload_n hC dX0_stepsAhead_0 rfl ?_
  refine V.callV0i hC (c_X0_isRekeying hd) mwX0_isRekeying mlX0_91 hd.s hd.k rfl ⟨rfl, rfl⟩ dX0_stepsAhead_1 rfl ?_
  refine V.if_neB hC 9 dX0_stepsAhead_4 (by decide) (fun c_1 => ?_) (fun c_1 => ?_)
  · refine V.aload_n hC dX0_stepsAhead_9 rfl ?_
    refine V.callV0i hC (c_X0_needsJournal hd) mwX0_needsJournal mlX0_169 hd.s hd.k rfl ⟨rfl, rfl⟩ dX0_stepsAhead_10 rfl ?_
    refine V.if_eqB hC 20 dX0_stepsAhead_13 (by decide) (fun c_2 => ?_) (fun c_2 => ?_)
    · refine V.iconst hC 0 dX0_stepsAhead_20 (by decide) ?_
      refine V.aload_n hC dX0_stepsAhead_21 rfl ?_
      refine V.callV0i hC (c_X0_zoneEnd hd) mwX0_zoneEnd mlX0_172 hd.s hd.k rfl ⟨rfl, rfl⟩ dX0_stepsAhead_22 rfl ?_
      refine V.iadd hC dX0_stepsAhead_25 ?_
      refine V.aload_n hC dX0_stepsAhead_26 rfl ?_
      refine V.callV0i hC (c_X0_zoneFirst hd) mwX0_zoneFirst mlX0_151 hd.s hd.k rfl ⟨rfl, rfl⟩ dX0_stepsAhead_27 rfl ?_
      refine V.isub hC dX0_stepsAhead_30 ?_
      refine V.aload_n hC dX0_stepsAhead_31 rfl ?_
      refine gfX0_49 hd hC dX0_stepsAhead_32 ?_
      refine V.isub hC dX0_stepsAhead_35 ?_
      refine V.iconst hC 1 dX0_stepsAhead_36 (by decide) ?_
      refine V.iadd hC dX0_stepsAhead_37 ?_
      refine V.istore_n hC dX0_stepsAhead_38 rfl rfl ?_
      refine V.aload_n hC dX0_stepsAhead_39 rfl ?_
      refine gfX0_42 hd hC dX0_stepsAhead_40 ?_
      refine V.if_eq hC 58 dX0_stepsAhead_43 (by decide) (fun c_3 => ?_) (fun c_3 => ?_)
      · refine V.aload_n hC dX0_stepsAhead_58 rfl ?_
        refine V.callV0i hC (c_X0_zoneFirst hd) mwX0_zoneFirst mlX0_151 hd.s hd.k rfl ⟨rfl, rfl⟩ dX0_stepsAhead_59 rfl ?_
        refine V.istore_n hC dX0_stepsAhead_62 rfl rfl ?_
        refine V.aload_n hC dX0_stepsAhead_63 rfl ?_
        refine gfX0_52 hd hC dX0_stepsAhead_64 ?_
        refine V.if_le hC 86 dX0_stepsAhead_67 (by decide) (fun c_4 => ?_) (fun c_4 => ?_)
        · refine V.iconst hC 0 dX0_stepsAhead_86 (by decide) ?_
          refine V.istore_n hC dX0_stepsAhead_87 rfl rfl ?_
          refine V.iload_n hC dX0_stepsAhead_88 rfl ?_
          refine V.iload_n hC dX0_stepsAhead_89 rfl ?_
          refine V.iadd hC dX0_stepsAhead_90 ?_
          refine V.iload_n hC dX0_stepsAhead_91 rfl ?_
          refine V.aload_n hC dX0_stepsAhead_92 rfl ?_
          refine gfX0_55 hd hC dX0_stepsAhead_93 ?_
          refine V.if_eq hC 103 dX0_stepsAhead_96 (by decide) (fun c_5 => ?_) (fun c_5 => ?_)
          · refine V.iconst hC 1 dX0_stepsAhead_103 (by decide) ?_
            refine V.imul hC dX0_stepsAhead_104 ?_
            refine V.iadd hC dX0_stepsAhead_105 ?_
            exact V.iret hC (by first | (simp [sAhead, c_1, c_2, c_3, c_4, dk_le1 c_4, c_5]; done) | (simp_all [sAhead]; done)) dX0_stepsAhead_106
          · refine V.iconst hC 2 dX0_stepsAhead_99 (by decide) ?_
            refine V.goto hC 104 dX0_stepsAhead_100 (by decide) ?_
            refine V.imul hC dX0_stepsAhead_104 ?_
            refine V.iadd hC dX0_stepsAhead_105 ?_
            exact V.iret hC (by first | (simp [sAhead, c_1, c_2, c_3, c_4, dk_le1 c_4, c_5]; done) | (simp_all [sAhead]; done)) dX0_stepsAhead_106
        · refine V.iload_n hC dX0_stepsAhead_70 rfl ?_
          refine V.aload_n hC dX0_stepsAhead_71 rfl ?_
          refine gfX0_52 hd hC dX0_stepsAhead_72 ?_
          refine V.iadd hC dX0_stepsAhead_75 ?_
          refine V.iconst hC 1 dX0_stepsAhead_76 (by decide) ?_
          refine V.isub hC dX0_stepsAhead_77 ?_
          refine V.aload_n hC dX0_stepsAhead_78 rfl ?_
          refine gfX0_52 hd hC dX0_stepsAhead_79 ?_
          refine V.idiv hC dX0_stepsAhead_82 (fun h => c_4 (by rw [h]; decide)) ?_
          refine V.goto hC 87 dX0_stepsAhead_83 (by decide) ?_
          refine V.istore_n hC dX0_stepsAhead_87 rfl rfl ?_
          refine V.iload_n hC dX0_stepsAhead_88 rfl ?_
          refine V.iload_n hC dX0_stepsAhead_89 rfl ?_
          refine V.iadd hC dX0_stepsAhead_90 ?_
          refine V.iload_n hC dX0_stepsAhead_91 rfl ?_
          refine V.aload_n hC dX0_stepsAhead_92 rfl ?_
          refine gfX0_55 hd hC dX0_stepsAhead_93 ?_
          refine V.if_eq hC 103 dX0_stepsAhead_96 (by decide) (fun c_5 => ?_) (fun c_5 => ?_)
          · refine V.iconst hC 1 dX0_stepsAhead_103 (by decide) ?_
            refine V.imul hC dX0_stepsAhead_104 ?_
            refine V.iadd hC dX0_stepsAhead_105 ?_
            exact V.iret hC (by first | (simp [sAhead, c_1, c_2, c_3, c_4, dk_nle c_4, c_5]; done) | (simp_all [sAhead]; done)) dX0_stepsAhead_106
          · refine V.iconst hC 2 dX0_stepsAhead_99 (by decide) ?_
            refine V.goto hC 104 dX0_stepsAhead_100 (by decide) ?_
            refine V.imul hC dX0_stepsAhead_104 ?_
            refine V.iadd hC dX0_stepsAhead_105 ?_
            exact V.iret hC (by first | (simp [sAhead, c_1, c_2, c_3, c_4, dk_nle c_4, c_5]; done) | (simp_all [sAhead]; done)) dX0_stepsAhead_106
      · refine V.aload_n hC dX0_stepsAhead_46 rfl ?_
        refine gfX0_32 hd hC dX0_stepsAhead_47 ?_
        refine V.aload_n hC dX0_stepsAhead_50 rfl ?_
        refine V.callV0i hC (c_X0_zoneEnd hd) mwX0_zoneEnd mlX0_172 hd.s hd.k rfl ⟨rfl, rfl⟩ dX0_stepsAhead_51 rfl ?_
        refine V.isub hC dX0_stepsAhead_54 ?_
        refine V.goto hC 62 dX0_stepsAhead_55 (by decide) ?_
        refine V.istore_n hC dX0_stepsAhead_62 rfl rfl ?_
        refine V.aload_n hC dX0_stepsAhead_63 rfl ?_
        refine gfX0_52 hd hC dX0_stepsAhead_64 ?_
        refine V.if_le hC 86 dX0_stepsAhead_67 (by decide) (fun c_4 => ?_) (fun c_4 => ?_)
        · refine V.iconst hC 0 dX0_stepsAhead_86 (by decide) ?_
          refine V.istore_n hC dX0_stepsAhead_87 rfl rfl ?_
          refine V.iload_n hC dX0_stepsAhead_88 rfl ?_
          refine V.iload_n hC dX0_stepsAhead_89 rfl ?_
          refine V.iadd hC dX0_stepsAhead_90 ?_
          refine V.iload_n hC dX0_stepsAhead_91 rfl ?_
          refine V.aload_n hC dX0_stepsAhead_92 rfl ?_
          refine gfX0_55 hd hC dX0_stepsAhead_93 ?_
          refine V.if_eq hC 103 dX0_stepsAhead_96 (by decide) (fun c_5 => ?_) (fun c_5 => ?_)
          · refine V.iconst hC 1 dX0_stepsAhead_103 (by decide) ?_
            refine V.imul hC dX0_stepsAhead_104 ?_
            refine V.iadd hC dX0_stepsAhead_105 ?_
            exact V.iret hC (by first | (simp [sAhead, c_1, c_2, c_3, c_4, dk_le1 c_4, c_5]; done) | (simp_all [sAhead]; done)) dX0_stepsAhead_106
          · refine V.iconst hC 2 dX0_stepsAhead_99 (by decide) ?_
            refine V.goto hC 104 dX0_stepsAhead_100 (by decide) ?_
            refine V.imul hC dX0_stepsAhead_104 ?_
            refine V.iadd hC dX0_stepsAhead_105 ?_
            exact V.iret hC (by first | (simp [sAhead, c_1, c_2, c_3, c_4, dk_le1 c_4, c_5]; done) | (simp_all [sAhead]; done)) dX0_stepsAhead_106
        · refine V.iload_n hC dX0_stepsAhead_70 rfl ?_
          refine V.aload_n hC dX0_stepsAhead_71 rfl ?_
          refine gfX0_52 hd hC dX0_stepsAhead_72 ?_
          refine V.iadd hC dX0_stepsAhead_75 ?_
          refine V.iconst hC 1 dX0_stepsAhead_76 (by decide) ?_
          refine V.isub hC dX0_stepsAhead_77 ?_
          refine V.aload_n hC dX0_stepsAhead_78 rfl ?_
          refine gfX0_52 hd hC dX0_stepsAhead_79 ?_
          refine V.idiv hC dX0_stepsAhead_82 (fun h => c_4 (by rw [h]; decide)) ?_
          refine V.goto hC 87 dX0_stepsAhead_83 (by decide) ?_
          refine V.istore_n hC dX0_stepsAhead_87 rfl rfl ?_
          refine V.iload_n hC dX0_stepsAhead_88 rfl ?_
          refine V.iload_n hC dX0_stepsAhead_89 rfl ?_
          refine V.iadd hC dX0_stepsAhead_90 ?_
          refine V.iload_n hC dX0_stepsAhead_91 rfl ?_
          refine V.aload_n hC dX0_stepsAhead_92 rfl ?_
          refine gfX0_55 hd hC dX0_stepsAhead_93 ?_
          refine V.if_eq hC 103 dX0_stepsAhead_96 (by decide) (fun c_5 => ?_) (fun c_5 => ?_)
          · refine V.iconst hC 1 dX0_stepsAhead_103 (by decide) ?_
            refine V.imul hC dX0_stepsAhead_104 ?_
            refine V.iadd hC dX0_stepsAhead_105 ?_
            exact V.iret hC (by first | (simp [sAhead, c_1, c_2, c_3, c_4, dk_nle c_4, c_5]; done) | (simp_all [sAhead]; done)) dX0_stepsAhead_106
          · refine V.iconst hC 2 dX0_stepsAhead_99 (by decide) ?_
            refine V.goto hC 104 dX0_stepsAhead_100 (by decide) ?_
            refine V.imul hC dX0_stepsAhead_104 ?_
            refine V.iadd hC dX0_stepsAhead_105 ?_
            exact V.iret hC (by first | (simp [sAhead, c_1, c_2, c_3, c_4, dk_nle c_4, c_5]; done) | (simp_all [sAhead]; done)) dX0_stepsAhead_106
    · refine V.iconst hC 1 dX0_stepsAhead_16 (by decide) ?_
      refine V.goto hC 21 dX0_stepsAhead_17 (by decide) ?_
      refine V.aload_n hC dX0_stepsAhead_21 rfl ?_
      refine V.callV0i hC (c_X0_zoneEnd hd) mwX0_zoneEnd mlX0_172 hd.s hd.k rfl ⟨rfl, rfl⟩ dX0_stepsAhead_22 rfl ?_
      refine V.iadd hC dX0_stepsAhead_25 ?_
      refine V.aload_n hC dX0_stepsAhead_26 rfl ?_
      refine V.callV0i hC (c_X0_zoneFirst hd) mwX0_zoneFirst mlX0_151 hd.s hd.k rfl ⟨rfl, rfl⟩ dX0_stepsAhead_27 rfl ?_
      refine V.isub hC dX0_stepsAhead_30 ?_
      refine V.aload_n hC dX0_stepsAhead_31 rfl ?_
      refine gfX0_49 hd hC dX0_stepsAhead_32 ?_
      refine V.isub hC dX0_stepsAhead_35 ?_
      refine V.iconst hC 1 dX0_stepsAhead_36 (by decide) ?_
      refine V.iadd hC dX0_stepsAhead_37 ?_
      refine V.istore_n hC dX0_stepsAhead_38 rfl rfl ?_
      refine V.aload_n hC dX0_stepsAhead_39 rfl ?_
      refine gfX0_42 hd hC dX0_stepsAhead_40 ?_
      refine V.if_eq hC 58 dX0_stepsAhead_43 (by decide) (fun c_3 => ?_) (fun c_3 => ?_)
      · refine V.aload_n hC dX0_stepsAhead_58 rfl ?_
        refine V.callV0i hC (c_X0_zoneFirst hd) mwX0_zoneFirst mlX0_151 hd.s hd.k rfl ⟨rfl, rfl⟩ dX0_stepsAhead_59 rfl ?_
        refine V.istore_n hC dX0_stepsAhead_62 rfl rfl ?_
        refine V.aload_n hC dX0_stepsAhead_63 rfl ?_
        refine gfX0_52 hd hC dX0_stepsAhead_64 ?_
        refine V.if_le hC 86 dX0_stepsAhead_67 (by decide) (fun c_4 => ?_) (fun c_4 => ?_)
        · refine V.iconst hC 0 dX0_stepsAhead_86 (by decide) ?_
          refine V.istore_n hC dX0_stepsAhead_87 rfl rfl ?_
          refine V.iload_n hC dX0_stepsAhead_88 rfl ?_
          refine V.iload_n hC dX0_stepsAhead_89 rfl ?_
          refine V.iadd hC dX0_stepsAhead_90 ?_
          refine V.iload_n hC dX0_stepsAhead_91 rfl ?_
          refine V.aload_n hC dX0_stepsAhead_92 rfl ?_
          refine gfX0_55 hd hC dX0_stepsAhead_93 ?_
          refine V.if_eq hC 103 dX0_stepsAhead_96 (by decide) (fun c_5 => ?_) (fun c_5 => ?_)
          · refine V.iconst hC 1 dX0_stepsAhead_103 (by decide) ?_
            refine V.imul hC dX0_stepsAhead_104 ?_
            refine V.iadd hC dX0_stepsAhead_105 ?_
            exact V.iret hC (by first | (simp [sAhead, c_1, c_2, c_3, c_4, dk_le1 c_4, c_5]; done) | (simp_all [sAhead]; done)) dX0_stepsAhead_106
          · refine V.iconst hC 2 dX0_stepsAhead_99 (by decide) ?_
            refine V.goto hC 104 dX0_stepsAhead_100 (by decide) ?_
            refine V.imul hC dX0_stepsAhead_104 ?_
            refine V.iadd hC dX0_stepsAhead_105 ?_
            exact V.iret hC (by first | (simp [sAhead, c_1, c_2, c_3, c_4, dk_le1 c_4, c_5]; done) | (simp_all [sAhead]; done)) dX0_stepsAhead_106
        · refine V.iload_n hC dX0_stepsAhead_70 rfl ?_
          refine V.aload_n hC dX0_stepsAhead_71 rfl ?_
          refine gfX0_52 hd hC dX0_stepsAhead_72 ?_
          refine V.iadd hC dX0_stepsAhead_75 ?_
          refine V.iconst hC 1 dX0_stepsAhead_76 (by decide) ?_
          refine V.isub hC dX0_stepsAhead_77 ?_
          refine V.aload_n hC dX0_stepsAhead_78 rfl ?_
          refine gfX0_52 hd hC dX0_stepsAhead_79 ?_
          refine V.idiv hC dX0_stepsAhead_82 (fun h => c_4 (by rw [h]; decide)) ?_
          refine V.goto hC 87 dX0_stepsAhead_83 (by decide) ?_
          refine V.istore_n hC dX0_stepsAhead_87 rfl rfl ?_
          refine V.iload_n hC dX0_stepsAhead_88 rfl ?_
          refine V.iload_n hC dX0_stepsAhead_89 rfl ?_
          refine V.iadd hC dX0_stepsAhead_90 ?_
          refine V.iload_n hC dX0_stepsAhead_91 rfl ?_
          refine V.aload_n hC dX0_stepsAhead_92 rfl ?_
          refine gfX0_55 hd hC dX0_stepsAhead_93 ?_
          refine V.if_eq hC 103 dX0_stepsAhead_96 (by decide) (fun c_5 => ?_) (fun c_5 => ?_)
          · refine V.iconst hC 1 dX0_stepsAhead_103 (by decide) ?_
            refine V.imul hC dX0_stepsAhead_104 ?_
            refine V.iadd hC dX0_stepsAhead_105 ?_
            exact V.iret hC (by first | (simp [sAhead, c_1, c_2, c_3, c_4, dk_nle c_4, c_5]; done) | (simp_all [sAhead]; done)) dX0_stepsAhead_106
          · refine V.iconst hC 2 dX0_stepsAhead_99 (by decide) ?_
            refine V.goto hC 104 dX0_stepsAhead_100 (by decide) ?_
            refine V.imul hC dX0_stepsAhead_104 ?_
            refine V.iadd hC dX0_stepsAhead_105 ?_
            exact V.iret hC (by first | (simp [sAhead, c_1, c_2, c_3, c_4, dk_nle c_4, c_5]; done) | (simp_all [sAhead]; done)) dX0_stepsAhead_106
      · refine V.aload_n hC dX0_stepsAhead_46 rfl ?_
        refine gfX0_32 hd hC dX0_stepsAhead_47 ?_
        refine V.aload_n hC dX0_stepsAhead_50 rfl ?_
        refine V.callV0i hC (c_X0_zoneEnd hd) mwX0_zoneEnd mlX0_172 hd.s hd.k rfl ⟨rfl, rfl⟩ dX0_stepsAhead_51 rfl ?_
        refine V.isub hC dX0_stepsAhead_54 ?_
        refine V.goto hC 62 dX0_stepsAhead_55 (by decide) ?_
        refine V.istore_n hC dX0_stepsAhead_62 rfl rfl ?_
        refine V.aload_n hC dX0_stepsAhead_63 rfl ?_
        refine gfX0_52 hd hC dX0_stepsAhead_64 ?_
        refine V.if_le hC 86 dX0_stepsAhead_67 (by decide) (fun c_4 => ?_) (fun c_4 => ?_)
        · refine V.iconst hC 0 dX0_stepsAhead_86 (by decide) ?_
          refine V.istore_n hC dX0_stepsAhead_87 rfl rfl ?_
          refine V.iload_n hC dX0_stepsAhead_88 rfl ?_
          refine V.iload_n hC dX0_stepsAhead_89 rfl ?_
          refine V.iadd hC dX0_stepsAhead_90 ?_
          refine V.iload_n hC dX0_stepsAhead_91 rfl ?_
          refine V.aload_n hC dX0_stepsAhead_92 rfl ?_
          refine gfX0_55 hd hC dX0_stepsAhead_93 ?_
          refine V.if_eq hC 103 dX0_stepsAhead_96 (by decide) (fun c_5 => ?_) (fun c_5 => ?_)
          · refine V.iconst hC 1 dX0_stepsAhead_103 (by decide) ?_
            refine V.imul hC dX0_stepsAhead_104 ?_
            refine V.iadd hC dX0_stepsAhead_105 ?_
            exact V.iret hC (by first | (simp [sAhead, c_1, c_2, c_3, c_4, dk_le1 c_4, c_5]; done) | (simp_all [sAhead]; done)) dX0_stepsAhead_106
          · refine V.iconst hC 2 dX0_stepsAhead_99 (by decide) ?_
            refine V.goto hC 104 dX0_stepsAhead_100 (by decide) ?_
            refine V.imul hC dX0_stepsAhead_104 ?_
            refine V.iadd hC dX0_stepsAhead_105 ?_
            exact V.iret hC (by first | (simp [sAhead, c_1, c_2, c_3, c_4, dk_le1 c_4, c_5]; done) | (simp_all [sAhead]; done)) dX0_stepsAhead_106
        · refine V.iload_n hC dX0_stepsAhead_70 rfl ?_
          refine V.aload_n hC dX0_stepsAhead_71 rfl ?_
          refine gfX0_52 hd hC dX0_stepsAhead_72 ?_
          refine V.iadd hC dX0_stepsAhead_75 ?_
          refine V.iconst hC 1 dX0_stepsAhead_76 (by decide) ?_
          refine V.isub hC dX0_stepsAhead_77 ?_
          refine V.aload_n hC dX0_stepsAhead_78 rfl ?_
          refine gfX0_52 hd hC dX0_stepsAhead_79 ?_
          refine V.idiv hC dX0_stepsAhead_82 (fun h => c_4 (by rw [h]; decide)) ?_
          refine V.goto hC 87 dX0_stepsAhead_83 (by decide) ?_
          refine V.istore_n hC dX0_stepsAhead_87 rfl rfl ?_
          refine V.iload_n hC dX0_stepsAhead_88 rfl ?_
          refine V.iload_n hC dX0_stepsAhead_89 rfl ?_
          refine V.iadd hC dX0_stepsAhead_90 ?_
          refine V.iload_n hC dX0_stepsAhead_91 rfl ?_
          refine V.aload_n hC dX0_stepsAhead_92 rfl ?_
          refine gfX0_55 hd hC dX0_stepsAhead_93 ?_
          refine V.if_eq hC 103 dX0_stepsAhead_96 (by decide) (fun c_5 => ?_) (fun c_5 => ?_)
          · refine V.iconst hC 1 dX0_stepsAhead_103 (by decide) ?_
            refine V.imul hC dX0_stepsAhead_104 ?_
            refine V.iadd hC dX0_stepsAhead_105 ?_
            exact V.iret hC (by first | (simp [sAhead, c_1, c_2, c_3, c_4, dk_nle c_4, c_5]; done) | (simp_all [sAhead]; done)) dX0_stepsAhead_106
          · refine V.iconst hC 2 dX0_stepsAhead_99 (by decide) ?_
            refine V.goto hC 104 dX0_stepsAhead_100 (by decide) ?_
            refine V.imul hC dX0_stepsAhead_104 ?_
            refine V.iadd hC dX0_stepsAhead_105 ?_
            exact V.iret hC (by first | (simp [sAhead, c_1, c_2, c_3, c_4, dk_nle c_4, c_5]; done) | (simp_all [sAhead]; done)) dX0_stepsAhead_106
  · refine V.iconst hC 0 dX0_stepsAhead_7 (by decide) ?_
    exact V.iret hC (by first | (simp [sAhead, c_1]; done) | (simp_all [sAhead]; done)) dX0_stepsAhead_8
set_option maxHeartbeats 2000000 in
set_option maxRecDepth 20000 in
theorem c_X0_reformat {l : Launch} {G : dkG} {d : Nat} {M : dkM} (hd : dk_disk G d) {n : Int32}  : dk_Con l yX0_reformat cX0_reformat 3 (some .int) 3 66 G [.ref (G.1 + d), .int n] M (some (.int (dFormat M d n).1), (dFormat M d n).2) := by
  refine dk_Con.of mwX0_reformat.1 (Nat.le_of_ble_eq_true rfl) (fun E hE hC => ?_)
  subst hE
  refine V.iload_n hC dX0_reformat_0 rfl ?_
  refine V.iconst hC 4 dX0_reformat_1 (by decide) ?_
  refine V.icmp_lt hC 11 dX0_reformat_2 (by decide) (fun c_1 => ?_) (fun c_1 => ?_)
  · refine V.bipush hC (-2) dX0_reformat_11 (by decide) ?_
    exact V.iret hC (by first | (simp [dFormat, put_k, put_same, c_1, dk_lt1 c_1]; done) | (simp_all [dFormat, put_k, put_same]; done)) dX0_reformat_13
  · refine V.iload_n hC dX0_reformat_5 rfl ?_
    refine V.bipush hC 64 dX0_reformat_6 (by decide) ?_
    refine V.icmp_le hC 14 dX0_reformat_8 (by decide) (fun c_2 => ?_) (fun c_2 => ?_)
    · refine V.aload_n hC dX0_reformat_14 rfl ?_
      refine gfX0_32 hd hC dX0_reformat_15 ?_
      refine V.istore_n hC dX0_reformat_18 rfl rfl ?_
      refine V.aload_n hC dX0_reformat_19 rfl ?_
      refine V.iload_n hC dX0_reformat_20 rfl ?_
      refine pfX0_32 hd hC dX0_reformat_21 ?_
      refine V.aload_n hC dX0_reformat_24 rfl ?_
      refine V.iconst hC 0 dX0_reformat_25 (by decide) ?_
      refine pfX0_39 hd hC dX0_reformat_26 ?_
      refine V.aload_n hC dX0_reformat_29 rfl ?_
      refine V.callV0v hC (c_X0_closeZone hd) mwX0_closeZone mlX0_75 hd.s hd.k rfl ⟨rfl, rfl⟩ dX0_reformat_30 rfl ?_
      refine V.aload_n hC dX0_reformat_33 rfl ?_
      refine V.callV0v hC (c_X0_fillWithZeros hd) mwX0_fillWithZeros mlX0_68 hd.s hd.k rfl ⟨rfl, rfl⟩ dX0_reformat_34 rfl ?_
      refine V.iload_n hC dX0_reformat_37 rfl ?_
      exact V.iret hC (by first | (simp [dFormat, put_k, put_same, c_1, dk_nlt c_1, c_2, dk_le1 c_2]; done) | (simp_all [dFormat, put_k, put_same]; done)) dX0_reformat_38
    · refine V.bipush hC (-2) dX0_reformat_11 (by decide) ?_
      exact V.iret hC (by first | (simp [dFormat, put_k, put_same, c_1, dk_nlt c_1, c_2, dk_nle c_2]; done) | (simp_all [dFormat, put_k, put_same]; done)) dX0_reformat_13
set_option maxHeartbeats 2000000 in
set_option maxRecDepth 20000 in
theorem c_X0_insertKey {l : Launch} {G : dkG} {d : Nat} {M : dkM} (hd : dk_disk G d) {k : Int32} {c : Int32}  : dk_Con l yX0_insertKey cX0_insertKey 3 (some .int) 2 42 G [.ref (G.1 + d), .int k, .int c] M (some (.int (dAdd M d k c).1), (dAdd M d k c).2) := by
  refine dk_Con.of mwX0_insertKey.1 (Nat.le_of_ble_eq_true rfl) (fun E hE hC => ?_)
  subst hE
  refine V.iload_n hC dX0_insertKey_0 rfl ?_
  refine V.iconst hC 1 dX0_insertKey_1 (by decide) ?_
  refine V.icmp_lt hC 21 dX0_insertKey_2 (by decide) (fun c_1 => ?_) (fun c_1 => ?_)
  · refine V.bipush hC (-2) dX0_insertKey_21 (by decide) ?_
    exact V.iret hC (by first | (simp [dAdd, c_1, dk_lt1 c_1]; done) | (simp_all [dAdd]; done)) dX0_insertKey_23
  · refine V.iload_n hC dX0_insertKey_5 rfl ?_
    refine V.bipush hC 99 dX0_insertKey_6 (by decide) ?_
    refine V.icmp_gt hC 21 dX0_insertKey_8 (by decide) (fun c_2 => ?_) (fun c_2 => ?_)
    · refine V.bipush hC (-2) dX0_insertKey_21 (by decide) ?_
      exact V.iret hC (by first | (simp [dAdd, c_1, dk_nlt c_1, c_2, dk_lt1 c_2]; done) | (simp_all [dAdd]; done)) dX0_insertKey_23
    · refine V.iload_n hC dX0_insertKey_11 rfl ?_
      refine V.if_lt hC 21 dX0_insertKey_12 (by decide) (fun c_3 => ?_) (fun c_3 => ?_)
      · refine V.bipush hC (-2) dX0_insertKey_21 (by decide) ?_
        exact V.iret hC (by first | (simp [dAdd, c_1, dk_nlt c_1, c_2, dk_nlt c_2, c_3, dk_lt1 c_3]; done) | (simp_all [dAdd]; done)) dX0_insertKey_23
      · refine V.iload_n hC dX0_insertKey_15 rfl ?_
        refine V.ldc hC klX0_78 dX0_insertKey_16 ?_
        refine V.icmp_le hC 24 dX0_insertKey_18 (by decide) (fun c_4 => ?_) (fun c_4 => ?_)
        · refine V.aload_n hC dX0_insertKey_24 rfl ?_
          refine V.iload_n hC dX0_insertKey_25 rfl ?_
          refine V.callV1i hC (c_X0_hasKey hd) mwX0_hasKey mlX0_79 hd.s hd.k rfl ⟨rfl, rfl⟩ dX0_insertKey_26 rfl ?_
          refine V.if_eqB hC 35 dX0_insertKey_29 (by decide) (fun c_5 => ?_) (fun c_5 => ?_)
          · refine V.aload_n hC dX0_insertKey_35 rfl ?_
            refine gfX0_29 hd hC dX0_insertKey_36 ?_
            refine V.callV0i hC (c_X2_filled hd.r9) mwX2_filled mlX0_83 hd.r9.s hd.r9.k rfl ⟨rfl, rfl⟩ dX0_insertKey_39 rfl ?_
            refine V.bipush hC 8 dX0_insertKey_42 (by decide) ?_
            refine V.icmp_lt hC 50 dX0_insertKey_44 (by decide) (fun c_6 => ?_) (fun c_6 => ?_)
            · refine V.aload_n hC dX0_insertKey_50 rfl ?_
              refine gfX0_29 hd hC dX0_insertKey_51 ?_
              refine V.iload_n hC dX0_insertKey_54 rfl ?_
              refine V.iload_n hC dX0_insertKey_55 rfl ?_
              refine V.callV2v hC (c_X2_set hd.r9) mwX2_set mlX0_64 hd.r9.s hd.r9.k rfl ⟨rfl, rfl⟩ dX0_insertKey_56 rfl ?_
              refine V.aload_n hC dX0_insertKey_59 rfl ?_
              refine gfX0_29 hd hC dX0_insertKey_60 ?_
              refine V.callV0i hC (c_X2_filled hd.r9) mwX2_filled mlX0_83 hd.r9.s hd.r9.k rfl ⟨rfl, rfl⟩ dX0_insertKey_63 rfl ?_
              exact V.iret hC (by first | (simp [dAdd, c_1, dk_nlt c_1, c_2, dk_nlt c_2, c_3, dk_nlt c_3, c_4, dk_le1 c_4, c_5, c_6, dk_lt1 c_6]; done) | (simp_all [dAdd]; done)) dX0_insertKey_66
            · refine V.bipush hC (-4) dX0_insertKey_47 (by decide) ?_
              exact V.iret hC (by first | (simp [dAdd, c_1, dk_nlt c_1, c_2, dk_nlt c_2, c_3, dk_nlt c_3, c_4, dk_le1 c_4, c_5, c_6, dk_nlt c_6]; done) | (simp_all [dAdd]; done)) dX0_insertKey_49
          · refine V.bipush hC (-3) dX0_insertKey_32 (by decide) ?_
            exact V.iret hC (by first | (simp [dAdd, c_1, dk_nlt c_1, c_2, dk_nlt c_2, c_3, dk_nlt c_3, c_4, dk_le1 c_4, c_5]; done) | (simp_all [dAdd]; done)) dX0_insertKey_34
        · refine V.bipush hC (-2) dX0_insertKey_21 (by decide) ?_
          exact V.iret hC (by first | (simp [dAdd, c_1, dk_nlt c_1, c_2, dk_nlt c_2, c_3, dk_nlt c_3, c_4, dk_nle c_4]; done) | (simp_all [dAdd]; done)) dX0_insertKey_23
set_option maxHeartbeats 2000000 in
set_option maxRecDepth 20000 in
theorem c_X0_dropKey {l : Launch} {G : dkG} {d : Nat} {M : dkM} (hd : dk_disk G d) {k : Int32}  : dk_Con l yX0_dropKey cX0_dropKey 2 (some .int) 2 42 G [.ref (G.1 + d), .int k] M (some (.int (dDrop M d k).1), (dDrop M d k).2) := by
  refine dk_Con.of mwX0_dropKey.1 (Nat.le_of_ble_eq_true rfl) (fun E hE hC => ?_)
  subst hE
  refine V.aload_n hC dX0_dropKey_0 rfl ?_
  refine V.iload_n hC dX0_dropKey_1 rfl ?_
  refine V.callV1i hC (c_X0_hasKey hd) mwX0_hasKey mlX0_79 hd.s hd.k rfl ⟨rfl, rfl⟩ dX0_dropKey_2 rfl ?_
  refine V.if_neB hC 10 dX0_dropKey_5 (by decide) (fun c_1 => ?_) (fun c_1 => ?_)
  · refine V.iload_n hC dX0_dropKey_10 rfl ?_
    refine V.aload_n hC dX0_dropKey_11 rfl ?_
    refine gfX0_36 hd hC dX0_dropKey_12 ?_
    refine V.icmp_eq hC 26 dX0_dropKey_15 (by decide) (fun c_2 => ?_) (fun c_2 => ?_)
    · refine V.bipush hC (-3) dX0_dropKey_26 (by decide) ?_
      exact V.iret hC (by first | (simp [dDrop, c_1, c_2]; done) | (simp_all [dDrop]; done)) dX0_dropKey_28
    · refine V.iload_n hC dX0_dropKey_18 rfl ?_
      refine V.aload_n hC dX0_dropKey_19 rfl ?_
      refine gfX0_39 hd hC dX0_dropKey_20 ?_
      refine V.icmp_ne hC 29 dX0_dropKey_23 (by decide) (fun c_3 => ?_) (fun c_3 => ?_)
      · refine V.aload_n hC dX0_dropKey_29 rfl ?_
        refine gfX0_29 hd hC dX0_dropKey_30 ?_
        refine V.iload_n hC dX0_dropKey_33 rfl ?_
        refine V.iconst hC (-1) dX0_dropKey_34 (by decide) ?_
        refine V.callV2v hC (c_X2_set hd.r9) mwX2_set mlX0_64 hd.r9.s hd.r9.k rfl ⟨rfl, rfl⟩ dX0_dropKey_35 rfl ?_
        refine V.aload_n hC dX0_dropKey_38 rfl ?_
        refine gfX0_29 hd hC dX0_dropKey_39 ?_
        refine V.callV0i hC (c_X2_filled hd.r9) mwX2_filled mlX0_83 hd.r9.s hd.r9.k rfl ⟨rfl, rfl⟩ dX0_dropKey_42 rfl ?_
        exact V.iret hC (by first | (simp [dDrop, c_1, c_2, c_3]; done) | (simp_all [dDrop]; done)) dX0_dropKey_45
      · refine V.bipush hC (-3) dX0_dropKey_26 (by decide) ?_
        exact V.iret hC (by first | (simp [dDrop, c_1, c_2, c_3]; done) | (simp_all [dDrop]; done)) dX0_dropKey_28
  · refine V.iconst hC (-1) dX0_dropKey_8 (by decide) ?_
    exact V.iret hC (by first | (simp [dDrop, c_1]; done) | (simp_all [dDrop]; done)) dX0_dropKey_9
set_option maxHeartbeats 2000000 in
set_option maxRecDepth 20000 in
theorem c_X0_resizeZone {l : Launch} {G : dkG} {d : Nat} {M : dkM} (hd : dk_disk G d) {z : Int32}  : dk_Con l yX0_resizeZone cX0_resizeZone 3 (some .int) 2 42 G [.ref (G.1 + d), .int z] M (some (.int (dZone M d z).1), (dZone M d z).2) := by
  refine dk_Con.of mwX0_resizeZone.1 (Nat.le_of_ble_eq_true rfl) (fun E hE hC => ?_)
  subst hE
  refine V.iload_n hC dX0_resizeZone_0 rfl ?_
  refine V.iconst hC 1 dX0_resizeZone_1 (by decide) ?_
  refine V.icmp_lt hC 11 dX0_resizeZone_2 (by decide) (fun c_1 => ?_) (fun c_1 => ?_)
  · refine V.bipush hC (-2) dX0_resizeZone_11 (by decide) ?_
    exact V.iret hC (by first | (simp [dZone, c_1, dk_lt1 c_1]; done) | (simp_all [dZone]; done)) dX0_resizeZone_13
  · refine V.iload_n hC dX0_resizeZone_5 rfl ?_
    refine V.bipush hC 8 dX0_resizeZone_6 (by decide) ?_
    refine V.icmp_le hC 14 dX0_resizeZone_8 (by decide) (fun c_2 => ?_) (fun c_2 => ?_)
    · refine V.aload_n hC dX0_resizeZone_14 rfl ?_
      refine V.callV0i hC (c_X0_isZoneOpen hd) mwX0_isZoneOpen mlX0_87 hd.s hd.k rfl ⟨rfl, rfl⟩ dX0_resizeZone_15 rfl ?_
      refine V.if_eqB hC 24 dX0_resizeZone_18 (by decide) (fun c_3 => ?_) (fun c_3 => ?_)
      · refine V.aload_n hC dX0_resizeZone_24 rfl ?_
        refine gfX0_52 hd hC dX0_resizeZone_25 ?_
        refine V.istore_n hC dX0_resizeZone_28 rfl rfl ?_
        refine V.aload_n hC dX0_resizeZone_29 rfl ?_
        refine V.iload_n hC dX0_resizeZone_30 rfl ?_
        refine pfX0_52 hd hC dX0_resizeZone_31 ?_
        refine V.iload_n hC dX0_resizeZone_34 rfl ?_
        exact V.iret hC (by first | (simp [dZone, c_1, dk_nlt c_1, c_2, dk_le1 c_2, c_3]; done) | (simp_all [dZone]; done)) dX0_resizeZone_35
      · refine V.bipush hC (-3) dX0_resizeZone_21 (by decide) ?_
        exact V.iret hC (by first | (simp [dZone, c_1, dk_nlt c_1, c_2, dk_le1 c_2, c_3]; done) | (simp_all [dZone]; done)) dX0_resizeZone_23
    · refine V.bipush hC (-2) dX0_resizeZone_11 (by decide) ?_
      exact V.iret hC (by first | (simp [dZone, c_1, dk_nlt c_1, c_2, dk_nle c_2]; done) | (simp_all [dZone]; done)) dX0_resizeZone_13
set_option maxHeartbeats 2000000 in
set_option maxRecDepth 20000 in
theorem c_X0_switchJournal {l : Launch} {G : dkG} {d : Nat} {M : dkM} (hd : dk_disk G d) {on : Int32}  : dk_Con l yX0_switchJournal cX0_switchJournal 3 (some .int) 2 42 G [.ref (G.1 + d), .int on] M (some (.int (dJour M d on).1), (dJour M d on).2) := by
  refine dk_Con.of mwX0_switchJournal.1 (Nat.le_of_ble_eq_true rfl) (fun E hE hC => ?_)
  subst hE
  refine V.iload_n hC dX0_switchJournal_0 rfl ?_
  refine V.if_eq hC 12 dX0_switchJournal_1 (by decide) (fun c_1 => ?_) (fun c_1 => ?_)
  · refine V.aload_n hC dX0_switchJournal_12 rfl ?_
    refine V.callV0i hC (c_X0_isZoneOpen hd) mwX0_isZoneOpen mlX0_87 hd.s hd.k rfl ⟨rfl, rfl⟩ dX0_switchJournal_13 rfl ?_
    refine V.if_eqB hC 22 dX0_switchJournal_16 (by decide) (fun c_2 => ?_) (fun c_2 => ?_)
    · refine V.aload_n hC dX0_switchJournal_22 rfl ?_
      refine gfX0_55 hd hC dX0_switchJournal_23 ?_
      refine V.if_eq hC 33 dX0_switchJournal_26 (by decide) (fun c_3 => ?_) (fun c_3 => ?_)
      · refine V.iconst hC 0 dX0_switchJournal_33 (by decide) ?_
        refine V.istore_n hC dX0_switchJournal_34 rfl rfl ?_
        refine V.aload_n hC dX0_switchJournal_35 rfl ?_
        refine V.iload_n hC dX0_switchJournal_36 rfl ?_
        refine V.iconst hC 1 dX0_switchJournal_37 (by decide) ?_
        refine V.icmp_ne hC 45 dX0_switchJournal_38 (by decide) (fun c_4 => ?_) (fun c_4 => ?_)
        · refine V.iconst hC 0 dX0_switchJournal_45 (by decide) ?_
          refine pfX0_55 hd hC (by decide) dX0_switchJournal_46 ?_
          refine V.iload_n hC dX0_switchJournal_49 rfl ?_
          exact V.iret hC (by first | exact absurd c_1 c_2 | (simp_all [dJour]; done) | simp [dJour, c_1, c_2, c_3, c_4]) dX0_switchJournal_50
        · refine V.iconst hC 1 dX0_switchJournal_41 (by decide) ?_
          refine V.goto hC 46 dX0_switchJournal_42 (by decide) ?_
          refine pfX0_55 hd hC (by decide) dX0_switchJournal_46 ?_
          refine V.iload_n hC dX0_switchJournal_49 rfl ?_
          exact V.iret hC (by first | exact absurd c_1 c_2 | (simp_all [dJour]; done) | simp [dJour, c_1, c_2, c_3, c_4]) dX0_switchJournal_50
      · refine V.iconst hC 1 dX0_switchJournal_29 (by decide) ?_
        refine V.goto hC 34 dX0_switchJournal_30 (by decide) ?_
        refine V.istore_n hC dX0_switchJournal_34 rfl rfl ?_
        refine V.aload_n hC dX0_switchJournal_35 rfl ?_
        refine V.iload_n hC dX0_switchJournal_36 rfl ?_
        refine V.iconst hC 1 dX0_switchJournal_37 (by decide) ?_
        refine V.icmp_ne hC 45 dX0_switchJournal_38 (by decide) (fun c_4 => ?_) (fun c_4 => ?_)
        · refine V.iconst hC 0 dX0_switchJournal_45 (by decide) ?_
          refine pfX0_55 hd hC (by decide) dX0_switchJournal_46 ?_
          refine V.iload_n hC dX0_switchJournal_49 rfl ?_
          exact V.iret hC (by first | exact absurd c_1 c_2 | (simp_all [dJour]; done) | simp [dJour, c_1, c_2, c_3, c_4]) dX0_switchJournal_50
        · refine V.iconst hC 1 dX0_switchJournal_41 (by decide) ?_
          refine V.goto hC 46 dX0_switchJournal_42 (by decide) ?_
          refine pfX0_55 hd hC (by decide) dX0_switchJournal_46 ?_
          refine V.iload_n hC dX0_switchJournal_49 rfl ?_
          exact V.iret hC (by first | exact absurd c_1 c_2 | (simp_all [dJour]; done) | simp [dJour, c_1, c_2, c_3, c_4]) dX0_switchJournal_50
    · refine V.bipush hC (-3) dX0_switchJournal_19 (by decide) ?_
      exact V.iret hC (by first | exact absurd c_1 c_2 | (simp_all [dJour]; done) | simp [dJour, c_1, c_2]) dX0_switchJournal_21
  · refine V.iload_n hC dX0_switchJournal_4 rfl ?_
    refine V.iconst hC 1 dX0_switchJournal_5 (by decide) ?_
    refine V.icmp_eq hC 12 dX0_switchJournal_6 (by decide) (fun c_2 => ?_) (fun c_2 => ?_)
    · refine V.aload_n hC dX0_switchJournal_12 rfl ?_
      refine V.callV0i hC (c_X0_isZoneOpen hd) mwX0_isZoneOpen mlX0_87 hd.s hd.k rfl ⟨rfl, rfl⟩ dX0_switchJournal_13 rfl ?_
      refine V.if_eqB hC 22 dX0_switchJournal_16 (by decide) (fun c_3 => ?_) (fun c_3 => ?_)
      · refine V.aload_n hC dX0_switchJournal_22 rfl ?_
        refine gfX0_55 hd hC dX0_switchJournal_23 ?_
        refine V.if_eq hC 33 dX0_switchJournal_26 (by decide) (fun c_4 => ?_) (fun c_4 => ?_)
        · refine V.iconst hC 0 dX0_switchJournal_33 (by decide) ?_
          refine V.istore_n hC dX0_switchJournal_34 rfl rfl ?_
          refine V.aload_n hC dX0_switchJournal_35 rfl ?_
          refine V.iload_n hC dX0_switchJournal_36 rfl ?_
          refine V.iconst hC 1 dX0_switchJournal_37 (by decide) ?_
          refine V.icmp_ne hC 45 dX0_switchJournal_38 (by decide) (fun c_5 => ?_) (fun c_5 => ?_)
          · refine V.iconst hC 0 dX0_switchJournal_45 (by decide) ?_
            refine pfX0_55 hd hC (by decide) dX0_switchJournal_46 ?_
            refine V.iload_n hC dX0_switchJournal_49 rfl ?_
            exact V.iret hC (by first | exact absurd c_1 c_2 | (simp_all [dJour]; done) | simp [dJour, c_1, c_2, c_3, c_4, c_5]) dX0_switchJournal_50
          · refine V.iconst hC 1 dX0_switchJournal_41 (by decide) ?_
            refine V.goto hC 46 dX0_switchJournal_42 (by decide) ?_
            refine pfX0_55 hd hC (by decide) dX0_switchJournal_46 ?_
            refine V.iload_n hC dX0_switchJournal_49 rfl ?_
            exact V.iret hC (by first | exact absurd c_1 c_2 | (simp_all [dJour]; done) | simp [dJour, c_1, c_2, c_3, c_4, c_5]) dX0_switchJournal_50
        · refine V.iconst hC 1 dX0_switchJournal_29 (by decide) ?_
          refine V.goto hC 34 dX0_switchJournal_30 (by decide) ?_
          refine V.istore_n hC dX0_switchJournal_34 rfl rfl ?_
          refine V.aload_n hC dX0_switchJournal_35 rfl ?_
          refine V.iload_n hC dX0_switchJournal_36 rfl ?_
          refine V.iconst hC 1 dX0_switchJournal_37 (by decide) ?_
          refine V.icmp_ne hC 45 dX0_switchJournal_38 (by decide) (fun c_5 => ?_) (fun c_5 => ?_)
          · refine V.iconst hC 0 dX0_switchJournal_45 (by decide) ?_
            refine pfX0_55 hd hC (by decide) dX0_switchJournal_46 ?_
            refine V.iload_n hC dX0_switchJournal_49 rfl ?_
            exact V.iret hC (by first | exact absurd c_1 c_2 | (simp_all [dJour]; done) | simp [dJour, c_1, c_2, c_3, c_4, c_5]) dX0_switchJournal_50
          · refine V.iconst hC 1 dX0_switchJournal_41 (by decide) ?_
            refine V.goto hC 46 dX0_switchJournal_42 (by decide) ?_
            refine pfX0_55 hd hC (by decide) dX0_switchJournal_46 ?_
            refine V.iload_n hC dX0_switchJournal_49 rfl ?_
            exact V.iret hC (by first | exact absurd c_1 c_2 | (simp_all [dJour]; done) | simp [dJour, c_1, c_2, c_3, c_4, c_5]) dX0_switchJournal_50
      · refine V.bipush hC (-3) dX0_switchJournal_19 (by decide) ?_
        exact V.iret hC (by first | exact absurd c_1 c_2 | (simp_all [dJour]; done) | simp [dJour, c_1, c_2, c_3]) dX0_switchJournal_21
    · refine V.bipush hC (-2) dX0_switchJournal_9 (by decide) ?_
      exact V.iret hC (by first | exact absurd c_1 c_2 | (simp_all [dJour]; done) | simp [dJour, c_1, c_2]) dX0_switchJournal_11
set_option maxHeartbeats 2000000 in
set_option maxRecDepth 20000 in
theorem c_X0_begin {l : Launch} {G : dkG} {d : Nat} {M : dkM} (hd : dk_disk G d) {k : Int32}  : dk_Con l yX0_begin cX0_begin 2 (some .int) 4 85 G [.ref (G.1 + d), .int k] M (some (.int (dBegin M d k).1), (dBegin M d k).2) := by
  refine dk_Con.of mwX0_begin.1 (Nat.le_of_ble_eq_true rfl) (fun E hE hC => ?_)
  subst hE
  refine V.aload_n hC dX0_begin_0 rfl ?_
  refine V.iload_n hC dX0_begin_1 rfl ?_
  refine V.callV1i hC (c_X0_hasKey hd) mwX0_hasKey mlX0_79 hd.s hd.k rfl ⟨rfl, rfl⟩ dX0_begin_2 rfl ?_
  refine V.if_neB hC 10 dX0_begin_5 (by decide) (fun c_1 => ?_) (fun c_1 => ?_)
  · refine V.aload_n hC dX0_begin_10 rfl ?_
    refine V.callV0i hC (c_X0_isRekeying hd) mwX0_isRekeying mlX0_91 hd.s hd.k rfl ⟨rfl, rfl⟩ dX0_begin_11 rfl ?_
    refine V.if_neB hC 25 dX0_begin_14 (by decide) (fun c_2 => ?_) (fun c_2 => ?_)
    · refine V.bipush hC (-3) dX0_begin_25 (by decide) ?_
      exact V.iret hC (by first | (simp [dBegin, c_1, c_2]; done) | (simp_all [dBegin]; done)) dX0_begin_27
    · refine V.iload_n hC dX0_begin_17 rfl ?_
      refine V.aload_n hC dX0_begin_18 rfl ?_
      refine gfX0_36 hd hC dX0_begin_19 ?_
      refine V.icmp_ne hC 28 dX0_begin_22 (by decide) (fun c_3 => ?_) (fun c_3 => ?_)
      · refine V.aload_n hC dX0_begin_28 rfl ?_
        refine V.iload_n hC dX0_begin_29 rfl ?_
        refine pfX0_39 hd hC dX0_begin_30 ?_
        refine V.aload_n hC dX0_begin_33 rfl ?_
        refine V.iconst hC 1 dX0_begin_34 (by decide) ?_
        refine pfX0_42 hd hC (by decide) dX0_begin_35 ?_
        refine V.aload_n hC dX0_begin_38 rfl ?_
        refine V.iconst hC 0 dX0_begin_39 (by decide) ?_
        refine pfX0_46 hd hC dX0_begin_40 ?_
        refine V.aload_n hC dX0_begin_43 rfl ?_
        refine V.callV0i hC (c_X0_stepsAhead hd) mwX0_stepsAhead mlX0_94 hd.s hd.k rfl ⟨rfl, rfl⟩ dX0_begin_44 rfl ?_
        exact V.iret hC (by first | (simp [dBegin, c_1, c_2, c_3]; done) | (simp_all [dBegin]; done)) dX0_begin_47
      · refine V.bipush hC (-3) dX0_begin_25 (by decide) ?_
        exact V.iret hC (by first | (simp [dBegin, c_1, c_2, c_3]; done) | (simp_all [dBegin]; done)) dX0_begin_27
  · refine V.iconst hC (-1) dX0_begin_8 (by decide) ?_
    exact V.iret hC (by first | (simp [dBegin, c_1]; done) | (simp_all [dBegin]; done)) dX0_begin_9
set_option maxHeartbeats 2000000 in
set_option maxRecDepth 20000 in
theorem c_X0_turn {l : Launch} {G : dkG} {d : Nat} {M : dkM} (hd : dk_disk G d)  : dk_Con l yX0_turn cX0_turn 1 (some .int) 4 85 G [.ref (G.1 + d)] M (some (.int (dTurn M d).1), (dTurn M d).2) := by
  refine dk_Con.of mwX0_turn.1 (Nat.le_of_ble_eq_true rfl) (fun E hE hC => ?_)
  subst hE
  refine V.aload_n hC dX0_turn_0 rfl ?_
  refine V.callV0i hC (c_X0_isRekeying hd) mwX0_isRekeying mlX0_91 hd.s hd.k rfl ⟨rfl, rfl⟩ dX0_turn_1 rfl ?_
  refine V.if_eqB hC 14 dX0_turn_4 (by decide) (fun c_1 => ?_) (fun c_1 => ?_)
  · refine V.bipush hC (-3) dX0_turn_14 (by decide) ?_
    exact V.iret hC (by first | (simp [dTurn, c_1]; done) | (simp_all [dTurn]; done)) dX0_turn_16
  · refine V.aload_n hC dX0_turn_7 rfl ?_
    refine V.callV0i hC (c_X0_isZoneOpen hd) mwX0_isZoneOpen mlX0_87 hd.s hd.k rfl ⟨rfl, rfl⟩ dX0_turn_8 rfl ?_
    refine V.if_eqB hC 17 dX0_turn_11 (by decide) (fun c_2 => ?_) (fun c_2 => ?_)
    · refine V.aload_n hC dX0_turn_17 rfl ?_
      refine V.aload_n hC dX0_turn_18 rfl ?_
      refine gfX0_42 hd hC dX0_turn_19 ?_
      refine V.if_ne hC 29 dX0_turn_22 (by decide) (fun c_3 => ?_) (fun c_3 => ?_)
      · refine V.iconst hC 0 dX0_turn_29 (by decide) ?_
        refine pfX0_42 hd hC (by decide) dX0_turn_30 ?_
        refine V.aload_n hC dX0_turn_33 rfl ?_
        refine V.callV0v hC (c_X0_endIfThrough hd) mwX0_endIfThrough mlX0_100 hd.s hd.k rfl ⟨rfl, rfl⟩ dX0_turn_34 rfl ?_
        refine V.aload_n hC dX0_turn_37 rfl ?_
        refine V.callV0i hC (c_X0_stepsAhead hd) mwX0_stepsAhead mlX0_94 hd.s hd.k rfl ⟨rfl, rfl⟩ dX0_turn_38 rfl ?_
        exact V.iret hC (by first | (simp [dTurn, c_1, c_2, c_3]; done) | (simp_all [dTurn]; done)) dX0_turn_41
      · refine V.iconst hC 1 dX0_turn_25 (by decide) ?_
        refine V.goto hC 30 dX0_turn_26 (by decide) ?_
        refine pfX0_42 hd hC (by decide) dX0_turn_30 ?_
        refine V.aload_n hC dX0_turn_33 rfl ?_
        refine V.callV0v hC (c_X0_endIfThrough hd) mwX0_endIfThrough mlX0_100 hd.s hd.k rfl ⟨rfl, rfl⟩ dX0_turn_34 rfl ?_
        refine V.aload_n hC dX0_turn_37 rfl ?_
        refine V.callV0i hC (c_X0_stepsAhead hd) mwX0_stepsAhead mlX0_94 hd.s hd.k rfl ⟨rfl, rfl⟩ dX0_turn_38 rfl ?_
        exact V.iret hC (by first | (simp [dTurn, c_1, c_2, c_3]; done) | (simp_all [dTurn]; done)) dX0_turn_41
    · refine V.bipush hC (-3) dX0_turn_14 (by decide) ?_
      exact V.iret hC (by first | (simp [dTurn, c_1, c_2]; done) | (simp_all [dTurn]; done)) dX0_turn_16
set_option maxHeartbeats 2000000 in
set_option maxRecDepth 20000 in
theorem c_X0_put {l : Launch} {G : dkG} {d : Nat} {M : dkM} (hd : dk_disk G d) {s : Int32} {v : Int32}  : dk_Con l yX0_put cX0_put 3 (some .int) 1 22 G [.ref (G.1 + d), .int s, .int v] M (some (.int (dPut M d s v).1), (dPut M d s v).2) := by
  refine dk_Con.of mwX0_put.1 (Nat.le_of_ble_eq_true rfl) (fun E hE hC => ?_)
  subst hE
  refine V.aload_n hC dX0_put_0 rfl ?_
  refine V.iload_n hC dX0_put_1 rfl ?_
  refine V.callV1i hC (c_X0_hasSector hd) mwX0_hasSector mlX0_103 hd.s hd.k rfl ⟨rfl, rfl⟩ dX0_put_2 rfl ?_
  refine V.if_neB hC 10 dX0_put_5 (by decide) (fun c_1 => ?_) (fun c_1 => ?_)
  · refine V.iload_n hC dX0_put_10 rfl ?_
    refine V.if_lt hC 20 dX0_put_11 (by decide) (fun c_2 => ?_) (fun c_2 => ?_)
    · refine V.bipush hC (-2) dX0_put_20 (by decide) ?_
      exact V.iret hC (by first | (simp [dPut, c_1, c_2, dk_lt1 c_2]; done) | (simp_all [dPut]; done)) dX0_put_22
    · refine V.iload_n hC dX0_put_14 rfl ?_
      refine V.ldc hC klX0_78 dX0_put_15 ?_
      refine V.icmp_le hC 23 dX0_put_17 (by decide) (fun c_3 => ?_) (fun c_3 => ?_)
      · refine V.aload_n hC dX0_put_23 rfl ?_
        refine gfX0_23 hd hC dX0_put_24 ?_
        refine V.iload_n hC dX0_put_27 rfl ?_
        refine V.callV1i hC (c_X2_get hd.r5) mwX2_get mlX0_106 hd.r5.s hd.r5.k rfl ⟨rfl, rfl⟩ dX0_put_28 rfl ?_
        refine V.iconst hC (-1) dX0_put_31 (by decide) ?_
        refine V.icmp_ne hC 50 dX0_put_32 (by decide) (fun c_4 => ?_) (fun c_4 => ?_)
        · refine V.aload_n hC dX0_put_50 rfl ?_
          refine gfX0_23 hd hC dX0_put_51 ?_
          refine V.iload_n hC dX0_put_54 rfl ?_
          refine V.iload_n hC dX0_put_55 rfl ?_
          refine V.callV2v hC (c_X2_set hd.r5) mwX2_set mlX0_64 hd.r5.s hd.r5.k rfl ⟨rfl, rfl⟩ dX0_put_56 rfl ?_
          refine V.aload_n hC dX0_put_59 rfl ?_
          refine gfX0_20 hd hC dX0_put_60 ?_
          refine V.iload_n hC dX0_put_63 rfl ?_
          refine V.iload_n hC dX0_put_64 rfl ?_
          refine V.callV2v hC (c_X2_set hd.r3) mwX2_set mlX0_64 hd.r3.s hd.r3.k rfl ⟨rfl, rfl⟩ dX0_put_65 rfl ?_
          refine V.aload_n hC dX0_put_68 rfl ?_
          refine gfX0_23 hd hC dX0_put_69 ?_
          refine V.callV0i hC (c_X2_filled hd.r5) mwX2_filled mlX0_83 hd.r5.s hd.r5.k rfl ⟨rfl, rfl⟩ dX0_put_72 rfl ?_
          exact V.iret hC (by first | (simp [dPut, c_1, c_2, dk_nlt c_2, c_3, dk_le1 c_3, c_4]; done) | (simp_all [dPut]; done)) dX0_put_75
        · refine V.aload_n hC dX0_put_35 rfl ?_
          refine gfX0_23 hd hC dX0_put_36 ?_
          refine V.callV0i hC (c_X2_filled hd.r5) mwX2_filled mlX0_83 hd.r5.s hd.r5.k rfl ⟨rfl, rfl⟩ dX0_put_39 rfl ?_
          refine V.bipush hC 8 dX0_put_42 (by decide) ?_
          refine V.icmp_lt hC 50 dX0_put_44 (by decide) (fun c_5 => ?_) (fun c_5 => ?_)
          · refine V.aload_n hC dX0_put_50 rfl ?_
            refine gfX0_23 hd hC dX0_put_51 ?_
            refine V.iload_n hC dX0_put_54 rfl ?_
            refine V.iload_n hC dX0_put_55 rfl ?_
            refine V.callV2v hC (c_X2_set hd.r5) mwX2_set mlX0_64 hd.r5.s hd.r5.k rfl ⟨rfl, rfl⟩ dX0_put_56 rfl ?_
            refine V.aload_n hC dX0_put_59 rfl ?_
            refine gfX0_20 hd hC dX0_put_60 ?_
            refine V.iload_n hC dX0_put_63 rfl ?_
            refine V.iload_n hC dX0_put_64 rfl ?_
            refine V.callV2v hC (c_X2_set hd.r3) mwX2_set mlX0_64 hd.r3.s hd.r3.k rfl ⟨rfl, rfl⟩ dX0_put_65 rfl ?_
            refine V.aload_n hC dX0_put_68 rfl ?_
            refine gfX0_23 hd hC dX0_put_69 ?_
            refine V.callV0i hC (c_X2_filled hd.r5) mwX2_filled mlX0_83 hd.r5.s hd.r5.k rfl ⟨rfl, rfl⟩ dX0_put_72 rfl ?_
            exact V.iret hC (by first | (simp [dPut, c_1, c_2, dk_nlt c_2, c_3, dk_le1 c_3, c_4, c_5, dk_lt1 c_5]; done) | (simp_all [dPut]; done)) dX0_put_75
          · refine V.bipush hC (-4) dX0_put_47 (by decide) ?_
            exact V.iret hC (by first | (simp [dPut, c_1, c_2, dk_nlt c_2, c_3, dk_le1 c_3, c_4, c_5, dk_nlt c_5]; done) | (simp_all [dPut]; done)) dX0_put_49
      · refine V.bipush hC (-2) dX0_put_20 (by decide) ?_
        exact V.iret hC (by first | (simp [dPut, c_1, c_2, dk_nlt c_2, c_3, dk_nle c_3]; done) | (simp_all [dPut]; done)) dX0_put_22
  · refine V.iconst hC (-1) dX0_put_8 (by decide) ?_
    exact V.iret hC (by first | (simp [dPut, c_1]; done) | (simp_all [dPut]; done)) dX0_put_9
set_option maxHeartbeats 2000000 in
set_option maxRecDepth 20000 in
theorem c_X0_advance {l : Launch} {G : dkG} {d : Nat} {M : dkM} (hd : dk_disk G d) {st : Int32} (hI : dI M d) : dk_Con l yX0_advance cX0_advance 3 (some .int) 4 89 G [.ref (G.1 + d), .int st] M (some (.int (dAdv M d st).1), (dAdv M d st).2) := by
  refine dk_Con.of mwX0_advance.1 (Nat.le_of_ble_eq_true rfl) (fun E hE hC => ?_)
  subst hE
  have loop_27 : ∀ (n : Nat) (k : Nat) (M1 : dkM), (¬ st < 1) → (¬ 999 < st) → (isRek M d = true) → (dI M1 d) → (k ≤ ix st) → (ix st < k + n) → (advL d (ix st - k) M1 k = advL d (ix st) M 0) →  V E G 3 (some (.int (dAdv M d st).1), (dAdv M d st).2) (M1) 27 [(0, some (.ref (G.1 + d))), (1, some (.int st)), (2, some (.int (nI k)))] [] := by
    intro n
    induction n with
    | zero => intro k M1 h1 h2 h3 hI1 hk hn hT; exact absurd hn (by omega)
    | succ n ih_27 =>
      intro k M1 h1 h2 h3 hI1 hk hn hT
      have hsz := ix_lt st
      refine V.iload_n hC dX0_advance_27 rfl ?_
      refine V.iload_n hC dX0_advance_28 rfl ?_
      refine V.icmp_ge hC 49 dX0_advance_29 (by decide) (fun c_1 => ?_) (fun c_1 => ?_)
      · have hke : k = ix st := by have := (dk_gek (k := k) (by omega)).mp c_1; omega
        refine V.iload_n hC dX0_advance_49 rfl ?_
        exact V.iret hC (by first | (rw [hke, Nat.sub_self, advL] at hT; simp only [dAdv, h1, h2, h3, if_true, if_false, ← hT]; rw [hke]; done) | (simp only [dAdv, h1, h2, h3, if_true, if_false, ← hT]; done)) dX0_advance_50
      · have hkl : k < ix st := by have := mt (dk_gek (k := k) (by omega)).mpr c_1; omega
        refine V.aload_n hC dX0_advance_32 rfl ?_
        refine V.callV0i hC (c_X0_isRekeying hd) mwX0_isRekeying mlX0_91 hd.s hd.k rfl ⟨rfl, rfl⟩ dX0_advance_33 rfl ?_
        refine V.if_eqB hC 49 dX0_advance_36 (by decide) (fun c_2 => ?_) (fun c_2 => ?_)
        · rw [show ix st - k = ix st - (k + 1) + 1 by omega, advL, if_neg (by rw [c_2]; decide)] at hT
          refine V.iload_n hC dX0_advance_49 rfl ?_
          exact V.iret hC (by first | (rw [hke, Nat.sub_self, advL] at hT; simp only [dAdv, h1, h2, h3, if_true, if_false, ← hT]; rw [hke]; done) | (simp only [dAdv, h1, h2, h3, if_true, if_false, ← hT]; done)) dX0_advance_50
        · refine V.aload_n hC dX0_advance_39 rfl ?_
          refine V.callV0v hC (c_X0_makeStep hd hI1) mwX0_makeStep mlX0_97 hd.s hd.k rfl ⟨rfl, rfl⟩ dX0_advance_40 rfl ?_
          refine V.iinc hC dX0_advance_43 rfl (dk_incN _) rfl ?_
          refine V.goto hC 27 dX0_advance_46 (by decide) ?_
          exact V.sub (dk_sc rfl (dk_sc rfl (dk_sc rfl (dk_sn)))) (ih_27 (k + 1) (dStep M1 d) h1 h2 h3 (dI_step hI1) (by omega) (by omega) (by rw [show ix st - k = ix st - (k + 1) + 1 by omega, advL, if_pos c_2] at hT; exact hT))
  refine V.iload_n hC dX0_advance_0 rfl ?_
  refine V.iconst hC 1 dX0_advance_1 (by decide) ?_
  refine V.icmp_lt hC 12 dX0_advance_2 (by decide) (fun c_1 => ?_) (fun c_1 => ?_)
  · refine V.bipush hC (-2) dX0_advance_12 (by decide) ?_
    exact V.iret hC (by first | (simp [dAdv, c_1, dk_lt1 c_1]; done) | (simp_all [dAdv]; done)) dX0_advance_14
  · refine V.iload_n hC dX0_advance_5 rfl ?_
    refine V.sipush hC 999 dX0_advance_6 (by decide) ?_
    refine V.icmp_le hC 15 dX0_advance_9 (by decide) (fun c_2 => ?_) (fun c_2 => ?_)
    · refine V.aload_n hC dX0_advance_15 rfl ?_
      refine V.callV0i hC (c_X0_isRekeying hd) mwX0_isRekeying mlX0_91 hd.s hd.k rfl ⟨rfl, rfl⟩ dX0_advance_16 rfl ?_
      refine V.if_neB hC 25 dX0_advance_19 (by decide) (fun c_3 => ?_) (fun c_3 => ?_)
      · refine V.iconst hC 0 dX0_advance_25 (by decide) ?_
        refine V.istore_n hC dX0_advance_26 rfl rfl ?_
        exact V.sub (dk_sc rfl (dk_sc rfl (dk_sc rfl (dk_sn)))) (loop_27 (ix st + 1) 0 M c_1 (dk_le1 c_2) c_3 hI (Nat.zero_le _) (by omega) rfl)
      · refine V.bipush hC (-3) dX0_advance_22 (by decide) ?_
        exact V.iret hC (by first | (simp [dAdv, c_1, dk_nlt c_1, c_2, dk_le1 c_2, c_3]; done) | (simp_all [dAdv]; done)) dX0_advance_24
    · refine V.bipush hC (-2) dX0_advance_12 (by decide) ?_
      exact V.iret hC (by first | (simp [dAdv, c_1, dk_nlt c_1, c_2, dk_nle c_2]; done) | (simp_all [dAdv]; done)) dX0_advance_14
set_option maxHeartbeats 2000000 in
set_option maxRecDepth 20000 in
theorem c_X0_numberOfRekeying {l : Launch} {G : dkG} {d : Nat} {M : dkM} (hd : dk_disk G d) {w : Int32}  : dk_Con l yX0_numberOfRekeying cX0_numberOfRekeying 2 (some .int) 1 20 G [.ref (G.1 + d), .int w] M (some (.int (dNumR M d w)), M) := by
  refine dk_Con.of mwX0_numberOfRekeying.1 (Nat.le_of_ble_eq_true rfl) (fun E hE hC => ?_)
  subst hE
  refine V.aload_n hC dX0_numberOfRekeying_0 rfl ?_
  refine V.callV0i hC (c_X0_isRekeying hd) mwX0_isRekeying mlX0_91 hd.s hd.k rfl ⟨rfl, rfl⟩ dX0_numberOfRekeying_1 rfl ?_
  refine V.if_neB hC 10 dX0_numberOfRekeying_4 (by decide) (fun c_1 => ?_) (fun c_1 => ?_)
  · refine V.iload_n hC dX0_numberOfRekeying_10 rfl ?_
    refine V.iconst hC 2 dX0_numberOfRekeying_11 (by decide) ?_
    refine V.icmp_ne hC 20 dX0_numberOfRekeying_12 (by decide) (fun c_2 => ?_) (fun c_2 => ?_)
    · refine V.iload_n hC dX0_numberOfRekeying_20 rfl ?_
      refine V.iconst hC 3 dX0_numberOfRekeying_21 (by decide) ?_
      refine V.icmp_ne hC 30 dX0_numberOfRekeying_22 (by decide) (fun c_3 => ?_) (fun c_3 => ?_)
      · refine V.aload_n hC dX0_numberOfRekeying_30 rfl ?_
        refine gfX0_42 hd hC dX0_numberOfRekeying_31 ?_
        refine V.if_eq hC 41 dX0_numberOfRekeying_34 (by decide) (fun c_4 => ?_) (fun c_4 => ?_)
        · refine V.iconst hC 0 dX0_numberOfRekeying_41 (by decide) ?_
          exact V.iret hC (by first | (simp [dNumR, c_1, c_2, c_3, c_4]; done) | (simp_all [dNumR]; done)) dX0_numberOfRekeying_42
        · refine V.iconst hC 1 dX0_numberOfRekeying_37 (by decide) ?_
          refine V.goto hC 42 dX0_numberOfRekeying_38 (by decide) ?_
          exact V.iret hC (by first | (simp [dNumR, c_1, c_2, c_3, c_4]; done) | (simp_all [dNumR]; done)) dX0_numberOfRekeying_42
      · refine V.aload_n hC dX0_numberOfRekeying_25 rfl ?_
        refine gfX0_46 hd hC dX0_numberOfRekeying_26 ?_
        exact V.iret hC (by first | (simp [dNumR, c_1, c_2, c_3]; done) | (simp_all [dNumR]; done)) dX0_numberOfRekeying_29
    · refine V.aload_n hC dX0_numberOfRekeying_15 rfl ?_
      refine gfX0_39 hd hC dX0_numberOfRekeying_16 ?_
      exact V.iret hC (by first | (simp [dNumR, c_1, c_2]; done) | (simp_all [dNumR]; done)) dX0_numberOfRekeying_19
  · refine V.bipush hC (-6) dX0_numberOfRekeying_7 (by decide) ?_
    exact V.iret hC (by first | (simp [dNumR, c_1]; done) | (simp_all [dNumR]; done)) dX0_numberOfRekeying_9
set_option maxHeartbeats 2000000 in
set_option maxRecDepth 20000 in
theorem c_X0_number {l : Launch} {G : dkG} {d : Nat} {M : dkM} (hd : dk_disk G d) {w : Int32}  : dk_Con l yX0_number cX0_number 2 (some .int) 1 22 G [.ref (G.1 + d), .int w] M (some (.int (dNum M d w)), M) := by
  refine dk_Con.of mwX0_number.1 (Nat.le_of_ble_eq_true rfl) (fun E hE hC => ?_)
  subst hE
  refine V.iload_n hC dX0_number_0 rfl ?_
  by_cases c_1_0 : w = 0
  · refine V.swt hC 68 dX0_number_1 (by rw [c_1_0]; decide) ?_
    refine V.aload_n hC dX0_number_68 rfl ?_
    refine gfX0_32 hd hC dX0_number_69 ?_
    exact V.iret hC (by first | (simp [dNum, c_1_0]; done) | (simp_all [dNum]; done)) dX0_number_72
  by_cases c_1_1 : w = 1
  · refine V.swt hC 73 dX0_number_1 (by rw [c_1_1]; decide) ?_
    refine V.aload_n hC dX0_number_73 rfl ?_
    refine gfX0_36 hd hC dX0_number_74 ?_
    exact V.iret hC (by first | (simp [dNum, c_1_0, c_1_1]; done) | (simp_all [dNum]; done)) dX0_number_77
  by_cases c_1_2 : w = 5
  · refine V.swt hC 78 dX0_number_1 (by rw [c_1_2]; decide) ?_
    refine V.aload_n hC dX0_number_78 rfl ?_
    refine gfX0_49 hd hC dX0_number_79 ?_
    exact V.iret hC (by first | (simp [dNum, c_1_0, c_1_1, c_1_2]; done) | (simp_all [dNum]; done)) dX0_number_82
  by_cases c_1_3 : w = 6
  · refine V.swt hC 83 dX0_number_1 (by rw [c_1_3]; decide) ?_
    refine V.aload_n hC dX0_number_83 rfl ?_
    refine gfX0_26 hd hC dX0_number_84 ?_
    refine V.callV0i hC (c_X2_filled hd.r7) mwX2_filled mlX0_83 hd.r7.s hd.r7.k rfl ⟨rfl, rfl⟩ dX0_number_87 rfl ?_
    exact V.iret hC (by first | (simp [dNum, c_1_0, c_1_1, c_1_2, c_1_3]; done) | (simp_all [dNum]; done)) dX0_number_90
  by_cases c_1_4 : w = 7
  · refine V.swt hC 91 dX0_number_1 (by rw [c_1_4]; decide) ?_
    refine V.aload_n hC dX0_number_91 rfl ?_
    refine gfX0_23 hd hC dX0_number_92 ?_
    refine V.callV0i hC (c_X2_filled hd.r5) mwX2_filled mlX0_83 hd.r5.s hd.r5.k rfl ⟨rfl, rfl⟩ dX0_number_95 rfl ?_
    exact V.iret hC (by first | (simp [dNum, c_1_0, c_1_1, c_1_2, c_1_3, c_1_4]; done) | (simp_all [dNum]; done)) dX0_number_98
  by_cases c_1_5 : w = 8
  · refine V.swt hC 99 dX0_number_1 (by rw [c_1_5]; decide) ?_
    refine V.aload_n hC dX0_number_99 rfl ?_
    refine gfX0_52 hd hC dX0_number_100 ?_
    exact V.iret hC (by first | (simp [dNum, c_1_0, c_1_1, c_1_2, c_1_3, c_1_4, c_1_5]; done) | (simp_all [dNum]; done)) dX0_number_103
  by_cases c_1_6 : w = 9
  · refine V.swt hC 104 dX0_number_1 (by rw [c_1_6]; decide) ?_
    refine V.aload_n hC dX0_number_104 rfl ?_
    refine gfX0_55 hd hC dX0_number_105 ?_
    refine V.if_eq hC 115 dX0_number_108 (by decide) (fun c_8 => ?_) (fun c_8 => ?_)
    · refine V.iconst hC 0 dX0_number_115 (by decide) ?_
      exact V.iret hC (by first | (simp [dNum, c_1_0, c_1_1, c_1_2, c_1_3, c_1_4, c_1_5, c_1_6, c_8]; done) | (simp_all [dNum]; done)) dX0_number_116
    · refine V.iconst hC 1 dX0_number_111 (by decide) ?_
      refine V.goto hC 116 dX0_number_112 (by decide) ?_
      exact V.iret hC (by first | (simp [dNum, c_1_0, c_1_1, c_1_2, c_1_3, c_1_4, c_1_5, c_1_6, c_8]; done) | (simp_all [dNum]; done)) dX0_number_116
  by_cases c_1_7 : w = 10
  · refine V.swt hC 117 dX0_number_1 (by rw [c_1_7]; decide) ?_
    refine V.aload_n hC dX0_number_117 rfl ?_
    refine gfX0_29 hd hC dX0_number_118 ?_
    refine V.callV0i hC (c_X2_filled hd.r9) mwX2_filled mlX0_83 hd.r9.s hd.r9.k rfl ⟨rfl, rfl⟩ dX0_number_121 rfl ?_
    exact V.iret hC (by first | (simp [dNum, c_1_0, c_1_1, c_1_2, c_1_3, c_1_4, c_1_5, c_1_6, c_1_7]; done) | (simp_all [dNum]; done)) dX0_number_124
  by_cases c_1_8 : w = 11
  · refine V.swt hC 125 dX0_number_1 (by rw [c_1_8]; decide) ?_
    refine V.aload_n hC dX0_number_125 rfl ?_
    refine gfX0_58 hd hC dX0_number_126 ?_
    exact V.iret hC (by first | (simp [dNum, c_1_0, c_1_1, c_1_2, c_1_3, c_1_4, c_1_5, c_1_6, c_1_7, c_1_8]; done) | (simp_all [dNum]; done)) dX0_number_129
  by_cases c_1_9 : w = 12
  · refine V.swt hC 130 dX0_number_1 (by rw [c_1_9]; decide) ?_
    refine V.aload_n hC dX0_number_130 rfl ?_
    refine gfX0_61 hd hC dX0_number_131 ?_
    exact V.iret hC (by first | (simp [dNum, c_1_0, c_1_1, c_1_2, c_1_3, c_1_4, c_1_5, c_1_6, c_1_7, c_1_8, c_1_9]; done) | (simp_all [dNum]; done)) dX0_number_134
  refine V.swd hC 135 dX0_number_1 (by decide) (fun h1 h2 => by
      have q0 := dk_neL c_1_0 (show _ = (0 : Int) by decide)
      have q1 := dk_neL c_1_1 (show _ = (1 : Int) by decide)
      have q2 := dk_neL c_1_2 (show _ = (5 : Int) by decide)
      have q3 := dk_neL c_1_3 (show _ = (6 : Int) by decide)
      have q4 := dk_neL c_1_4 (show _ = (7 : Int) by decide)
      have q5 := dk_neL c_1_5 (show _ = (8 : Int) by decide)
      have q6 := dk_neL c_1_6 (show _ = (9 : Int) by decide)
      have q7 := dk_neL c_1_7 (show _ = (10 : Int) by decide)
      have q8 := dk_neL c_1_8 (show _ = (11 : Int) by decide)
      have q9 := dk_neL c_1_9 (show _ = (12 : Int) by decide)
      have e : w.toInt = 2 ∨ w.toInt = 3 ∨ w.toInt = 4 := by omega
      rcases e with e | e | e <;> rw [e] <;> rfl) ?_
  refine V.bipush hC (-2) dX0_number_135 (by decide) ?_
  exact V.iret hC (by first | (simp [dNum, c_1_0, c_1_1, c_1_2, c_1_3, c_1_4, c_1_5, c_1_6, c_1_7, c_1_8, c_1_9]; done) | (simp_all [dNum]; done)) dX0_number_137
set_option maxHeartbeats 2000000 in
set_option maxRecDepth 20000 in
theorem c_X0_takeOver {l : Launch} {G : dkG} {d : Nat} {M : dkM} (hd : dk_disk G d) {e : Nat} (he : dk_disk G e) (ha : apart d e) (hz : dZ M e) : dk_Con l yX0_takeOver cX0_takeOver 2 none 2 43 G [.ref (G.1 + d), .ref (G.1 + e)] M (none, dCopy M d e) := by
  refine dk_Con.of mwX0_takeOver.1 (Nat.le_of_ble_eq_true rfl) (fun E hE hC => ?_)
  subst hE
  have hne : e ≠ d := by unfold apart at ha; omega
  have hab := ha
  unfold apart at hab
  have ht : dTake M d e e = M e := dTake_ne ha (by omega)
  refine V.aload_n hC dX0_takeOver_0 rfl ?_
  refine gfX0_14 hd hC dX0_takeOver_1 ?_
  refine V.aload_n hC dX0_takeOver_4 rfl ?_
  refine gfX0_14 he hC dX0_takeOver_5 ?_
  refine V.callV1v hC (c_X2_takeOver hd.r1 he.r1 (by omega)) mwX2_takeOver mlX0_71 hd.r1.s hd.r1.k rfl ⟨rfl, rfl⟩ dX0_takeOver_8 rfl ?_
  refine V.aload_n hC dX0_takeOver_11 rfl ?_
  refine gfX0_20 hd hC dX0_takeOver_12 ?_
  refine V.aload_n hC dX0_takeOver_15 rfl ?_
  refine gfX0_20 he hC dX0_takeOver_16 ?_
  refine V.callV1v hC (c_X2_takeOver hd.r3 he.r3 (by omega)) mwX2_takeOver mlX0_71 hd.r3.s hd.r3.k rfl ⟨rfl, rfl⟩ dX0_takeOver_19 rfl ?_
  refine V.aload_n hC dX0_takeOver_22 rfl ?_
  refine gfX0_23 hd hC dX0_takeOver_23 ?_
  refine V.aload_n hC dX0_takeOver_26 rfl ?_
  refine gfX0_23 he hC dX0_takeOver_27 ?_
  refine V.callV1v hC (c_X2_takeOver hd.r5 he.r5 (by omega)) mwX2_takeOver mlX0_71 hd.r5.s hd.r5.k rfl ⟨rfl, rfl⟩ dX0_takeOver_30 rfl ?_
  refine V.aload_n hC dX0_takeOver_33 rfl ?_
  refine gfX0_26 hd hC dX0_takeOver_34 ?_
  refine V.aload_n hC dX0_takeOver_37 rfl ?_
  refine gfX0_26 he hC dX0_takeOver_38 ?_
  refine V.callV1v hC (c_X2_takeOver hd.r7 he.r7 (by omega)) mwX2_takeOver mlX0_71 hd.r7.s hd.r7.k rfl ⟨rfl, rfl⟩ dX0_takeOver_41 rfl ?_
  refine V.aload_n hC dX0_takeOver_44 rfl ?_
  refine gfX0_29 hd hC dX0_takeOver_45 ?_
  refine V.aload_n hC dX0_takeOver_48 rfl ?_
  refine gfX0_29 he hC dX0_takeOver_49 ?_
  refine V.callV1v hC (c_X2_takeOver hd.r9 he.r9 (by omega)) mwX2_takeOver mlX0_71 hd.r9.s hd.r9.k rfl ⟨rfl, rfl⟩ dX0_takeOver_52 rfl ?_
  refine V.eqM (M' := dTake M d e) rfl ?_
  refine V.aload_n hC dX0_takeOver_55 rfl ?_
  refine V.aload_n hC dX0_takeOver_56 rfl ?_
  refine gfX0_32 he hC dX0_takeOver_57 ?_
  refine V.top (x' := .int (M e 5)) (by simp only [dk_put_ne hne, ht]) ?_
  refine pfX0_32 hd hC dX0_takeOver_60 ?_
  refine V.aload_n hC dX0_takeOver_63 rfl ?_
  refine V.aload_n hC dX0_takeOver_64 rfl ?_
  refine gfX0_36 he hC dX0_takeOver_65 ?_
  refine V.top (x' := .int (M e 6)) (by simp only [dk_put_ne hne, ht]) ?_
  refine pfX0_36 hd hC dX0_takeOver_68 ?_
  refine V.aload_n hC dX0_takeOver_71 rfl ?_
  refine V.aload_n hC dX0_takeOver_72 rfl ?_
  refine gfX0_39 he hC dX0_takeOver_73 ?_
  refine V.top (x' := .int (M e 7)) (by simp only [dk_put_ne hne, ht]) ?_
  refine pfX0_39 hd hC dX0_takeOver_76 ?_
  refine V.aload_n hC dX0_takeOver_79 rfl ?_
  refine V.aload_n hC dX0_takeOver_80 rfl ?_
  refine gfX0_42 he hC dX0_takeOver_81 ?_
  refine V.top (x' := .int (M e 8)) (by simp only [dk_put_ne hne, ht]) ?_
  refine pfX0_42 hd hC (hz.1) dX0_takeOver_84 ?_
  refine V.aload_n hC dX0_takeOver_87 rfl ?_
  refine V.aload_n hC dX0_takeOver_88 rfl ?_
  refine gfX0_46 he hC dX0_takeOver_89 ?_
  refine V.top (x' := .int (M e 9)) (by simp only [dk_put_ne hne, ht]) ?_
  refine pfX0_46 hd hC dX0_takeOver_92 ?_
  refine V.aload_n hC dX0_takeOver_95 rfl ?_
  refine V.aload_n hC dX0_takeOver_96 rfl ?_
  refine gfX0_49 he hC dX0_takeOver_97 ?_
  refine V.top (x' := .int (M e 10)) (by simp only [dk_put_ne hne, ht]) ?_
  refine pfX0_49 hd hC dX0_takeOver_100 ?_
  refine V.aload_n hC dX0_takeOver_103 rfl ?_
  refine V.aload_n hC dX0_takeOver_104 rfl ?_
  refine gfX0_52 he hC dX0_takeOver_105 ?_
  refine V.top (x' := .int (M e 11)) (by simp only [dk_put_ne hne, ht]) ?_
  refine pfX0_52 hd hC dX0_takeOver_108 ?_
  refine V.aload_n hC dX0_takeOver_111 rfl ?_
  refine V.aload_n hC dX0_takeOver_112 rfl ?_
  refine gfX0_55 he hC dX0_takeOver_113 ?_
  refine V.top (x' := .int (M e 12)) (by simp only [dk_put_ne hne, ht]) ?_
  refine pfX0_55 hd hC (hz.2) dX0_takeOver_116 ?_
  refine V.aload_n hC dX0_takeOver_119 rfl ?_
  refine V.aload_n hC dX0_takeOver_120 rfl ?_
  refine gfX0_58 he hC dX0_takeOver_121 ?_
  refine V.top (x' := .int (M e 13)) (by simp only [dk_put_ne hne, ht]) ?_
  refine pfX0_58 hd hC dX0_takeOver_124 ?_
  refine V.aload_n hC dX0_takeOver_127 rfl ?_
  refine V.aload_n hC dX0_takeOver_128 rfl ?_
  refine gfX0_61 he hC dX0_takeOver_129 ?_
  refine V.top (x' := .int (M e 14)) (by simp only [dk_put_ne hne, ht]) ?_
  refine pfX0_61 hd hC dX0_takeOver_132 ?_
  exact V.vret hC (rfl) dX0_takeOver_135
