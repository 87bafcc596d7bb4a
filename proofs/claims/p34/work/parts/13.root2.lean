set_option maxHeartbeats 2000000 in
set_option maxRecDepth 20000 in
theorem c_X4_ifFailed {l : Launch} {G : dkG}  {M : dkM} (hG : dk_cls G) {st : Int32} (hX : xI M) : dk_Con l yX4_ifFailed cX4_ifFailed 3 (some .int) 4 89 G [.ref (G.1 + 0), .int st] M (some (.int (xIfFail M st).1), (xIfFail M st).2) := by
  refine dk_Con.of mwX4_ifFailed.1 (Nat.le_of_ble_eq_true rfl) (fun E hE hC => ?_)
  subst hE
  have hI0 : dI (dCopy M 12 1) 12 := dI_congr (dCopy_f (by decide) (by decide)) (dCopy_f (by decide) (by decide)) (dCopy_f (by decide) (by decide)) (show dI (fun _ => M 1) 12 from hX.2.2.2)
  have loop_27 : ∀ (n : Nat) (k : Nat) (M1 : dkM), (¬ st < 0) → (¬ 999 < st) → (dI M1 12) → (k ≤ ix st) → (ix st < k + n) → (advL 12 (ix st - k) M1 k = advL 12 (ix st) (dCopy M 12 1) 0) →  V E G 3 (some (.int (xIfFail M st).1), (xIfFail M st).2) (M1) 27 [(0, some (.ref (G.1 + 0))), (1, some (.int st)), (2, some (.int (nI k)))] [] := by
    intro n
    induction n with
    | zero => intro k M1 h1 h2 hI1 hk hn hT; exact absurd hn (by omega)
    | succ n ih_27 =>
      intro k M1 h1 h2 hI1 hk hn hT
      have hsz := ix_lt st
      refine V.iload_n hC dX4_ifFailed_27 rfl ?_
      refine V.iload_n hC dX4_ifFailed_28 rfl ?_
      refine V.icmp_ge hC 55 dX4_ifFailed_29 (by decide) (fun c_1 => ?_) (fun c_1 => ?_)
      · have hke : k = ix st := by have := (dk_gek (k := k) (by omega)).mp c_1; omega
        rw [hke, Nat.sub_self, advL] at hT
        refine V.aload_n hC dX4_ifFailed_55 rfl ?_
        refine gfX4_16 hG hC dX4_ifFailed_56 ?_
        refine V.callV0i hC (c_X0_damageAfterFailure (dk_disk12 hG)) mwX0_damageAfterFailure mlX4_132 (dk_disk12 hG).s (dk_disk12 hG).k rfl ⟨rfl, rfl⟩ dX4_ifFailed_59 rfl ?_
        exact V.iret hC (by simp only [xIfFail, h1, h2, if_false, ← hT]; rfl) dX4_ifFailed_62
      · have hkl : k < ix st := by have := mt (dk_gek (k := k) (by omega)).mpr c_1; omega
        refine V.aload_n hC dX4_ifFailed_32 rfl ?_
        refine gfX4_16 hG hC dX4_ifFailed_33 ?_
        refine V.callV0i hC (c_X0_isRekeying (dk_disk12 hG)) mwX0_isRekeying mlX4_110 (dk_disk12 hG).s (dk_disk12 hG).k rfl ⟨rfl, rfl⟩ dX4_ifFailed_36 rfl ?_
        refine V.if_eqB hC 55 dX4_ifFailed_39 (by decide) (fun c_2 => ?_) (fun c_2 => ?_)
        · rw [show ix st - k = ix st - (k + 1) + 1 by omega, advL, if_neg (by rw [c_2]; decide)] at hT
          refine V.aload_n hC dX4_ifFailed_55 rfl ?_
          refine gfX4_16 hG hC dX4_ifFailed_56 ?_
          refine V.callV0i hC (c_X0_damageAfterFailure (dk_disk12 hG)) mwX0_damageAfterFailure mlX4_132 (dk_disk12 hG).s (dk_disk12 hG).k rfl ⟨rfl, rfl⟩ dX4_ifFailed_59 rfl ?_
          exact V.iret hC (by simp only [xIfFail, h1, h2, if_false, ← hT]; rfl) dX4_ifFailed_62
        · refine V.aload_n hC dX4_ifFailed_42 rfl ?_
          refine gfX4_16 hG hC dX4_ifFailed_43 ?_
          refine V.callV0v hC (c_X0_makeStep (dk_disk12 hG) hI1) mwX0_makeStep mlX4_129 (dk_disk12 hG).s (dk_disk12 hG).k rfl ⟨rfl, rfl⟩ dX4_ifFailed_46 rfl ?_
          refine V.iinc hC dX4_ifFailed_49 rfl (dk_incN _) rfl ?_
          refine V.goto hC 27 dX4_ifFailed_52 (by decide) ?_
          exact V.sub (dk_sc rfl (dk_sc rfl (dk_sc rfl (dk_sn)))) (ih_27 (k + 1) (dStep M1 12) h1 h2 (dI_step hI1) (by omega) (by omega) (by rw [show ix st - k = ix st - (k + 1) + 1 by omega, advL, if_pos c_2] at hT; exact hT))
  refine V.iload_n hC dX4_ifFailed_0 rfl ?_
  refine V.if_lt hC 11 dX4_ifFailed_1 (by decide) (fun c_1 => ?_) (fun c_1 => ?_)
  · refine V.bipush hC (-2) dX4_ifFailed_11 (by decide) ?_
    exact V.iret hC (by first | (simp [xIfFail, c_1, dk_lt1 c_1]; done) | (simp_all [xIfFail]; done)) dX4_ifFailed_13
  · refine V.iload_n hC dX4_ifFailed_4 rfl ?_
    refine V.sipush hC 999 dX4_ifFailed_5 (by decide) ?_
    refine V.icmp_le hC 14 dX4_ifFailed_8 (by decide) (fun c_2 => ?_) (fun c_2 => ?_)
    · refine V.aload_n hC dX4_ifFailed_14 rfl ?_
      refine gfX4_16 hG hC dX4_ifFailed_15 ?_
      refine V.aload_n hC dX4_ifFailed_18 rfl ?_
      refine gfX4_12 hG hC dX4_ifFailed_19 ?_
      refine V.callV1v hC (c_X0_takeOver (dk_disk12 hG) (dk_disk1 hG) (by unfold apart; omega) hX.2.2.1) mwX0_takeOver mlX4_126 (dk_disk12 hG).s (dk_disk12 hG).k rfl ⟨rfl, rfl⟩ dX4_ifFailed_22 rfl ?_
      refine V.iconst hC 0 dX4_ifFailed_25 (by decide) ?_
      refine V.istore_n hC dX4_ifFailed_26 rfl rfl ?_
      exact V.sub (dk_sc rfl (dk_sc rfl (dk_sc rfl (dk_sn)))) (loop_27 (ix st + 1) 0 _ c_1 (dk_le1 c_2) hI0 (Nat.zero_le _) (by omega) rfl)
    · refine V.bipush hC (-2) dX4_ifFailed_11 (by decide) ?_
      exact V.iret hC (by first | (simp [xIfFail, c_1, dk_nlt c_1, c_2, dk_nle c_2]; done) | (simp_all [xIfFail]; done)) dX4_ifFailed_13
