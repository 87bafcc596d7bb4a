set_option maxHeartbeats 2000000 in
set_option maxRecDepth 20000 in
theorem c_X2_get {l : Launch} {G : dkG} {o n : Nat} {M : dkM} (h : dk_row G o n) {i : Int32} : dk_Con l yX2_get cX2_get 2 (some .int) 0 0 G [.ref (G.1 + o), .int i] M (some (.int (rget M o n i)), M) := by
  refine dk_Con.of mwX2_get.1 (Nat.le_of_ble_eq_true rfl) (fun E hE hC => ?_)
  subst hE
  refine V.iload_n hC dX2_get_0 rfl ?_
  refine V.if_lt hC 22 dX2_get_1 (by decide) (fun c_1 => ?_) (fun c_1 => ?_)
  · refine V.iconst hC (-1) dX2_get_22 (by decide) ?_
    exact V.iret hC (by first | (simp [rget, c_1, dk_lt1 c_1]; done) | (simp_all [rget]; done)) dX2_get_23
  · refine V.iload_n hC dX2_get_4 rfl ?_
    refine V.aload_n hC dX2_get_5 rfl ?_
    refine gfX2_15 h hC dX2_get_6 ?_
    refine V.alen hC h.s1 h.k1 h.a dX2_get_9 ?_
    refine V.icmp_ge hC 22 dX2_get_10 (by decide) (fun c_2 => ?_) (fun c_2 => ?_)
    · refine V.iconst hC (-1) dX2_get_22 (by decide) ?_
      exact V.iret hC (by first | (simp [rget, c_1, dk_nlt c_1, c_2, dk_le1 c_2]; done) | (simp_all [rget]; done)) dX2_get_23
    · refine V.aload_n hC dX2_get_13 rfl ?_
      refine gfX2_15 h hC dX2_get_14 ?_
      refine V.iload_n hC dX2_get_17 rfl ?_
      refine V.iald hC h.s1 h.k1 h.a (dk_in c_1 c_2 (Nat.lt_trans h.n (by decide))) dX2_get_18 ?_
      refine V.goto hC 23 dX2_get_19 (by decide) ?_
      exact V.iret hC (by first | (simp [rget, c_1, dk_nlt c_1, c_2, dk_nle c_2]; done) | (simp_all [rget]; done)) dX2_get_23
set_option maxHeartbeats 2000000 in
set_option maxRecDepth 20000 in
theorem c_X2_set {l : Launch} {G : dkG} {o n : Nat} {M : dkM} (h : dk_row G o n) {i v : Int32} : dk_Con l yX2_set cX2_set 3 none 0 0 G [.ref (G.1 + o), .int i, .int v] M (none, rset M o n i v) := by
  refine dk_Con.of mwX2_set.1 (Nat.le_of_ble_eq_true rfl) (fun E hE hC => ?_)
  subst hE
  refine V.iload_n hC dX2_set_0 rfl ?_
  refine V.if_lt hC 20 dX2_set_1 (by decide) (fun c_1 => ?_) (fun c_1 => ?_)
  · exact V.vret hC (by first | (simp [rset, c_1, dk_lt1 c_1]; done) | (simp_all [rset]; done)) dX2_set_20
  · refine V.iload_n hC dX2_set_4 rfl ?_
    refine V.aload_n hC dX2_set_5 rfl ?_
    refine gfX2_15 h hC dX2_set_6 ?_
    refine V.alen hC h.s1 h.k1 h.a dX2_set_9 ?_
    refine V.icmp_ge hC 20 dX2_set_10 (by decide) (fun c_2 => ?_) (fun c_2 => ?_)
    · exact V.vret hC (by first | (simp [rset, c_1, dk_nlt c_1, c_2, dk_le1 c_2]; done) | (simp_all [rset]; done)) dX2_set_20
    · refine V.aload_n hC dX2_set_13 rfl ?_
      refine gfX2_15 h hC dX2_set_14 ?_
      refine V.iload_n hC dX2_set_17 rfl ?_
      refine V.iload_n hC dX2_set_18 rfl ?_
      refine V.iast hC h.s1 h.k1 h.a (dk_in c_1 c_2 (Nat.lt_trans h.n (by decide))) dX2_set_19 ?_
      exact V.vret hC (by first | (simp [rset, c_1, dk_nlt c_1, c_2, dk_nle c_2]; done) | (simp_all [rset]; done)) dX2_set_20
set_option maxHeartbeats 2000000 in
set_option maxRecDepth 20000 in
theorem c_X2_clear {l : Launch} {G : dkG} {o nn : Nat} {M : dkM} (h : dk_row G o nn) : dk_Con l yX2_clear cX2_clear 2 none 0 0 G [.ref (G.1 + o)] M (none, rclear M o nn) := by
  refine dk_Con.of mwX2_clear.1 (Nat.le_of_ble_eq_true rfl) (fun E hE hC => ?_)
  subst hE
  have hn0 := h.n
  have loop_2 : ∀ (n : Nat) (k : Nat), (k ≤ nn) → (nn < k + n) →  V E G 2 (none, rclear M o nn) (rclear M o k) 2 [(0, some (.ref (G.1 + o))), (1, some (.int (nI k)))] [] := by
    intro n
    induction n with
    | zero => intro k hk hn; exact absurd hn (by omega)
    | succ n ih_2 =>
      intro k hk hn
      refine V.iload_n hC dX2_clear_2 rfl ?_
      refine V.aload_n hC dX2_clear_3 rfl ?_
      refine gfX2_15 h hC dX2_clear_4 ?_
      refine V.alen hC h.s1 h.k1 h.a dX2_clear_7 ?_
      refine V.icmp_ge hC 24 dX2_clear_8 (by decide) (fun c_1 => ?_) (fun c_1 => ?_)
      · have hke : k = nn := by have := (dk_gek (k := k) (by omega)).mp c_1; rw [ix_nI (by omega)] at this; omega
        subst hke
        exact V.vret hC (rfl) dX2_clear_24
      · have hkl : k < nn := by have := mt (dk_gek (k := k) (by omega)).mpr c_1; rw [ix_nI (by omega)] at this; omega
        refine V.aload_n hC dX2_clear_11 rfl ?_
        refine gfX2_15 h hC dX2_clear_12 ?_
        refine V.iload_n hC dX2_clear_15 rfl ?_
        refine V.iconst hC (-1) dX2_clear_16 (by decide) ?_
        refine V.iastN hC (k) h.s1 h.k1 h.a (rfl) (by omega) dX2_clear_17 ?_
        refine V.iinc hC dX2_clear_18 rfl (dk_incN _) rfl ?_
        refine V.goto hC 2 dX2_clear_21 (by decide) ?_
        refine V.eqM (rclear_s M o k) ?_
        exact V.sub (dk_sc rfl (dk_sc rfl (dk_sn))) (ih_2 (k + 1) (by omega) (by omega))
  refine V.iconst hC 0 dX2_clear_0 (by decide) ?_
  refine V.istore_n hC dX2_clear_1 rfl rfl ?_
  refine V.eqM ((rclear_0 M o).symm) ?_
  exact V.sub (dk_sc rfl (dk_sc rfl (dk_sn))) (loop_2 (nn + 1) 0 (Nat.zero_le _) (by omega))
set_option maxHeartbeats 2000000 in
set_option maxRecDepth 20000 in
theorem c_X2_filled {l : Launch} {G : dkG} {o nn : Nat} {M : dkM} (h : dk_row G o nn) : dk_Con l yX2_filled cX2_filled 3 (some .int) 0 0 G [.ref (G.1 + o)] M (some (.int (nI (rfilled M o nn))), M) := by
  refine dk_Con.of mwX2_filled.1 (Nat.le_of_ble_eq_true rfl) (fun E hE hC => ?_)
  subst hE
  have hn0 := h.n
  have loop_4 : ∀ (n : Nat) (k : Nat), (k ≤ nn) → (nn < k + n) →  V E G 3 (some (.int (nI (rfilled M o nn))), M) (M) 4 [(0, some (.ref (G.1 + o))), (1, some (.int (nI (rfilled M o k)))), (2, some (.int (nI k)))] [] := by
    intro n
    induction n with
    | zero => intro k hk hn; exact absurd hn (by omega)
    | succ n ih_4 =>
      intro k hk hn
      refine V.iload_n hC dX2_filled_4 rfl ?_
      refine V.aload_n hC dX2_filled_5 rfl ?_
      refine gfX2_15 h hC dX2_filled_6 ?_
      refine V.alen hC h.s1 h.k1 h.a dX2_filled_9 ?_
      refine V.icmp_ge hC 32 dX2_filled_10 (by decide) (fun c_1 => ?_) (fun c_1 => ?_)
      · have hke : k = nn := by have := (dk_gek (k := k) (by omega)).mp c_1; rw [ix_nI (by omega)] at this; omega
        subst hke
        refine V.iload_n hC dX2_filled_32 rfl ?_
        exact V.iret hC (rfl) dX2_filled_33
      · have hkl : k < nn := by have := mt (dk_gek (k := k) (by omega)).mpr c_1; rw [ix_nI (by omega)] at this; omega
        refine V.aload_n hC dX2_filled_13 rfl ?_
        refine gfX2_15 h hC dX2_filled_14 ?_
        refine V.iload_n hC dX2_filled_17 rfl ?_
        refine V.ialdN hC (k) h.s1 h.k1 h.a (rfl) (by omega) dX2_filled_18 ?_
        refine V.iconst hC (-1) dX2_filled_19 (by decide) ?_
        refine V.icmp_eq hC 26 dX2_filled_20 (by decide) (fun c_2 => ?_) (fun c_2 => ?_)
        · have hf : rfilled M o (k + 1) = rfilled M o k := by unfold rfilled; rw [cnt, if_neg (by simp [c_2])]
          rw [← hf]
          refine V.iinc hC dX2_filled_26 rfl (dk_incN _) rfl ?_
          refine V.goto hC 4 dX2_filled_29 (by decide) ?_
          exact V.sub (dk_sc rfl (dk_sc rfl (dk_sc rfl (dk_sn)))) (ih_4 (k + 1) (by omega) (by omega))
        · have hf : rfilled M o (k + 1) = rfilled M o k + 1 := by unfold rfilled; rw [cnt, if_pos (by simp [c_2])]
          refine V.iinc hC dX2_filled_23 rfl ((dk_incN _).trans (congrArg nI hf.symm)) rfl ?_
          refine V.iinc hC dX2_filled_26 rfl (dk_incN _) rfl ?_
          refine V.goto hC 4 dX2_filled_29 (by decide) ?_
          exact V.sub (dk_sc rfl (dk_sc rfl (dk_sc rfl (dk_sn)))) (ih_4 (k + 1) (by omega) (by omega)) --done
  refine V.iconst hC 0 dX2_filled_0 (by decide) ?_
  refine V.istore_n hC dX2_filled_1 rfl rfl ?_
  refine V.iconst hC 0 dX2_filled_2 (by decide) ?_
  refine V.istore_n hC dX2_filled_3 rfl rfl ?_
  exact V.sub (dk_sc rfl (dk_sc rfl (dk_sc rfl (dk_sn)))) (loop_4 (nn + 1) 0 (Nat.zero_le _) (by omega))
set_option maxHeartbeats 2000000 in
set_option maxRecDepth 20000 in
theorem c_X2_takeOver {l : Launch} {G : dkG} {o o2 nn : Nat} {M : dkM} (h : dk_row G o nn) (h2 : dk_row G o2 nn) (ho : o2 ≠ o) : dk_Con l yX2_takeOver cX2_takeOver 3 none 1 21 G [.ref (G.1 + o), .ref (G.1 + o2)] M (none, rtake M o o2 nn) := by
  refine dk_Con.of mwX2_takeOver.1 (Nat.le_of_ble_eq_true rfl) (fun E hE hC => ?_)
  subst hE
  have hn0 := h.n
  have loop_2 : ∀ (n : Nat) (k : Nat), (k ≤ nn) → (nn < k + n) →  V E G 3 (none, rtake M o o2 nn) (rtake M o o2 k) 2 [(0, some (.ref (G.1 + o))), (1, some (.ref (G.1 + o2))), (2, some (.int (nI k)))] [] := by
    intro n
    induction n with
    | zero => intro k hk hn; exact absurd hn (by omega)
    | succ n ih_2 =>
      intro k hk hn
      refine V.iload_n hC dX2_takeOver_2 rfl ?_
      refine V.aload_n hC dX2_takeOver_3 rfl ?_
      refine gfX2_15 h hC dX2_takeOver_4 ?_
      refine V.alen hC h.s1 h.k1 h.a dX2_takeOver_7 ?_
      refine V.icmp_ge hC 28 dX2_takeOver_8 (by decide) (fun c_1 => ?_) (fun c_1 => ?_)
      · have hke : k = nn := by have := (dk_gek (k := k) (by omega)).mp c_1; rw [ix_nI (by omega)] at this; omega
        subst hke
        exact V.vret hC (rfl) dX2_takeOver_28
      · have hkl : k < nn := by have := mt (dk_gek (k := k) (by omega)).mpr c_1; rw [ix_nI (by omega)] at this; omega
        refine V.aload_n hC dX2_takeOver_11 rfl ?_
        refine gfX2_15 h hC dX2_takeOver_12 ?_
        refine V.iload_n hC dX2_takeOver_15 rfl ?_
        refine V.aload_n hC dX2_takeOver_16 rfl ?_
        refine V.iload_n hC dX2_takeOver_17 rfl ?_
        refine V.callV1i hC (c_X2_get h2) mwX2_get mlX2_24 h2.s h2.k rfl ⟨rfl, rfl⟩ dX2_takeOver_18 rfl ?_
        refine V.iastN hC (k) h.s1 h.k1 h.a (rfl) (by omega) dX2_takeOver_21 ?_
        refine V.iinc hC dX2_takeOver_22 rfl (dk_incN _) rfl ?_
        refine V.goto hC 2 dX2_takeOver_25 (by decide) ?_
        refine V.eqM (rtake_s M o o2 k nn hkl (by omega) ho) ?_
        exact V.sub (dk_sc rfl (dk_sc rfl (dk_sc rfl (dk_sn)))) (ih_2 (k + 1) (by omega) (by omega))
  refine V.iconst hC 0 dX2_takeOver_0 (by decide) ?_
  refine V.istore_n hC dX2_takeOver_1 rfl rfl ?_
  refine V.eqM ((rtake_0 M o o2).symm) ?_
  exact V.sub (dk_sc rfl (dk_sc rfl (dk_sc rfl (dk_sn)))) (loop_2 (nn + 1) 0 (Nat.zero_le _) (by omega))
