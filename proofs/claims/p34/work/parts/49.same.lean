/-! the comparison of the two disks -/
theorem sub_1 (x : Int32) : x + Int32.ofInt (-1) = x - 1 := by rw [Int32.sub_eq_add_neg]; rfl
theorem LR.opf {Mx : dkM} {e : Nat} {M N : dkM} {q d c w j : Nat} (h : DS Mx e (N 112)) (r : LR M q d c w j (N 112)) (h1 : ¬ 0 < M q 5) (h2 : ¬ 0 < M q 6) : mOpen N = false := by
  cases ho : mOpen N with
  | false => rfl
  | true =>
    rcases (r.opn h).mpr ho with z | z
    · exact absurd z h1
    · exact absurd z h2
section IN
variable {M N : dkM} {q d c w j : Nat} {s : Int32} {Mx : dkM} {e : Nat}
theorem in_a (h : DS Mx e (N 112)) (r : LR M q d c w j (N 112)) (c1 : M q 2 ≤ 0) : mInZ N s = false := by rw [f_in h r, if_pos c1]
theorem in_b (h : DS Mx e (N 112)) (r : LR M q d c w j (N 112)) (c1 : ¬ M q 2 ≤ 0) (c2 : s < lFirst M q) : mInZ N s = false := by rw [f_in h r, if_neg c1, if_pos c2]
theorem in_c (h : DS Mx e (N 112)) (r : LR M q d c w j (N 112)) (c1 : ¬ M q 2 ≤ 0) (c2 : ¬ s < lFirst M q) (c3 : lBehind M q ≤ s) : mInZ N s = false := by rw [f_in h r, if_neg c1, if_neg c2, if_pos c3]
theorem in_t (h : DS Mx e (N 112)) (r : LR M q d c w j (N 112)) (c1 : ¬ M q 2 ≤ 0) (c2 : ¬ s < lFirst M q) (c3 : ¬ lBehind M q ≤ s) : mInZ N s = true := by rw [f_in h r, if_neg c1, if_neg c2, if_neg c3]
theorem fo_a (h : DS Mx e (N 112)) (r : LR M q d c w j (N 112)) {k : Nat} (hk : k < ix (N 112 0)) (c1 : M c k < 0) : M d k = mForm N k := by rw [f_form h r hk, if_neg (dk_lt1 c1)]
theorem fo_b (h : DS Mx e (N 112)) (r : LR M q d c w j (N 112)) {k : Nat} (hk : k < ix (N 112 0)) (c1 : ¬ M c k < 0) (c2 : mOpen N = false) : lMix (M c k) (nI k) (M q (10 + ix (lKey M q (nI k)))) = mForm N k := by rw [f_form h r hk, if_pos (dk_nlt c1), c2]; rfl
theorem fo_c (h : DS Mx e (N 112)) (r : LR M q d c w j (N 112)) {k : Nat} (hk : k < ix (N 112 0)) (c1 : ¬ M c k < 0) (c2 : mOpen N = true) (c3 : mInZ N (nI k) = false) : lMix (M c k) (nI k) (M q (10 + ix (lKey M q (nI k)))) = mForm N k := by rw [f_form h r hk, if_pos (dk_nlt c1), c2, c3]; rfl
theorem fo_d (h : DS Mx e (N 112)) (r : LR M q d c w j (N 112)) {k : Nat} (hk : k < ix (N 112 0)) (c1 : ¬ M c k < 0) (c2 : mOpen N = true) (c3 : mInZ N (nI k) = true) : M d k = mForm N k := by rw [f_form h r hk, if_pos (dk_nlt c1), c2, c3]; rfl
end IN
set_option maxHeartbeats 2000000 in
set_option maxRecDepth 20000 in
theorem same_keys {E : dkE} {G : dkG} {T : dkT} {M N : dkM} {q d c w j : Nat} {x : Int32} (hC : dk_Cx E G cL_same 14 RL (some .boolean) 6 128) (hG : dk_cls G) (hq : lA G q 16) (hd : lA G d 20) (hc : lA G c 20) (hw : lA G w 20) (hj : lA G j 20) (Sm : Sim M N) (r : LR M q d c w j (N 112)) (K : V E G 14 T M 95 [(0, some (.ref (G.1 + 0))), (1, some (.int x)), (2, some (.ref (G.1 + q))), (3, some (.ref (G.1 + d))), (4, some (.ref (G.1 + c))), (5, some (.ref (G.1 + w))), (6, some (.ref (G.1 + j))), (7, some (.int (nI (lKyN M q 5)))), (8, some (.int (-6))), (9, some (.int (bI (mOpen N))))] []) : V E G 14 T M 0 [(0, some (.ref (G.1 + 0))), (1, some (.int x)), (2, some (.ref (G.1 + q))), (3, some (.ref (G.1 + d))), (4, some (.ref (G.1 + c))), (5, some (.ref (G.1 + w))), (6, some (.ref (G.1 + j)))] [] := by
  have hsec := (r.sec Sm.ds).2.1
  have loop_30 : ∀ (n : Nat) (k : Nat), (k ≤ 5) → (5 < k + n) →  V E G 14 T (M) 30 [(0, some (.ref (G.1 + 0))), (1, some (.int x)), (2, some (.ref (G.1 + q))), (3, some (.ref (G.1 + d))), (4, some (.ref (G.1 + c))), (5, some (.ref (G.1 + w))), (6, some (.ref (G.1 + j))), (7, some (.int (nI (lKyN M q k)))), (8, some (.int (-6))), (9, some (.int (bI (mOpen N)))), (10, some (.int (nI (k + 1))))] [] := by
    intro n
    induction n with
    | zero => intro k hk hn; exact absurd hn (by omega)
    | succ n ih_30 =>
      intro k hk hn
      refine V.iload hC dL_same_30 rfl ?_
      refine V.bipush hC 6 dL_same_32 (by decide) ?_
      refine V.icmp_ge hC 95 dL_same_34 (by decide) (fun c_1 => ?_) (fun c_1 => ?_)
      · have hke : k = 5 := by have := (dk_gek (k := k + 1) (by omega)).mp c_1; rw [show ix 6 = 6 from by decide] at this; omega
        subst hke
        exact V.sub (dk_sc rfl (dk_sc rfl (dk_sc rfl (dk_sc rfl (dk_sc rfl (dk_sc rfl (dk_sc rfl (dk_sc rfl (dk_sc rfl (dk_sc rfl (dk_sn))))))))))) K
      · have hkl : k < 5 := by have := mt (dk_gek (k := k + 1) (by omega)).mpr c_1; rw [show ix 6 = 6 from by decide] at this; omega
        refine V.iload hC dL_same_37 rfl ?_
        refine V.aload_n hC dL_same_39 rfl ?_
        refine V.bipush hC 10 dL_same_40 (by decide) ?_
        refine V.iload hC dL_same_42 rfl ?_
        refine V.iadd hC dL_same_44 ?_
        refine V.ialdLN hC ((10) + (k + 1)) hq (dk_addN (rfl) (rfl)) (by omega) dL_same_45 ?_
        refine V.if_ge hC 53 dL_same_46 (by decide) (fun c_2 => ?_) (fun c_2 => ?_)
        · refine V.iconst hC 1 dL_same_53 (by decide) ?_
          refine V.iadd hC dL_same_54 ?_
          refine V.top (x' := .int (nI (lKyN M q (k + 1)))) (by simp [lKyN, cnt, c_2, nI_1]) ?_
          refine V.istore hC dL_same_55 rfl rfl ?_
          refine V.aload_n hC dL_same_57 rfl ?_
          refine V.iload hC dL_same_58 rfl ?_
          refine V.callV1i hC (c_X4_secretOf hG) mwX4_secretOf mlL_56 (hG.at 0 rfl) rfl rfl ⟨rfl, rfl⟩ dL_same_60 rfl ?_
          refine V.aload_n hC dL_same_63 rfl ?_
          refine V.bipush hC 10 dL_same_64 (by decide) ?_
          refine V.iload hC dL_same_66 rfl ?_
          refine V.iadd hC dL_same_68 ?_
          refine V.ialdLN hC ((10) + (k + 1)) hq (dk_addN (rfl) (rfl)) (by omega) dL_same_69 ?_
          refine V.if_ge hC 77 dL_same_70 (by decide) (fun c_3 => ?_) (fun c_3 => ?_)
          · refine V.aload_n hC dL_same_77 rfl ?_
            refine V.bipush hC 10 dL_same_78 (by decide) ?_
            refine V.iload hC dL_same_80 rfl ?_
            refine V.iadd hC dL_same_82 ?_
            refine V.ialdLN hC ((10) + (k + 1)) hq (dk_addN (rfl) (rfl)) (by omega) dL_same_83 ?_
            refine V.icmp_eq hC 89 dL_same_84 (by decide) (fun c_4 => ?_) (fun c_4 => ?_)
            · refine V.iinc hC dL_same_89 rfl (dk_incN _) rfl ?_
              refine V.goto hC 30 dL_same_92 (by decide) ?_
              exact V.sub (dk_sc rfl (dk_sc rfl (dk_sc rfl (dk_sc rfl (dk_sc rfl (dk_sc rfl (dk_sc rfl (dk_sc rfl (dk_sc rfl (dk_sc rfl (dk_sc rfl (dk_sn)))))))))))) (ih_30 (k + 1) (by omega) (by omega))
            · exact absurd (by rw [f_secret Sm r (by omega) (by omega)]; first | rw [if_pos c_3] | rw [if_neg c_3]) c_4 --done
          · refine V.iconst hC (-1) dL_same_73 (by decide) ?_
            refine V.goto hC 84 dL_same_74 (by decide) ?_
            refine V.icmp_eq hC 89 dL_same_84 (by decide) (fun c_4 => ?_) (fun c_4 => ?_)
            · refine V.iinc hC dL_same_89 rfl (dk_incN _) rfl ?_
              refine V.goto hC 30 dL_same_92 (by decide) ?_
              exact V.sub (dk_sc rfl (dk_sc rfl (dk_sc rfl (dk_sc rfl (dk_sc rfl (dk_sc rfl (dk_sc rfl (dk_sc rfl (dk_sc rfl (dk_sc rfl (dk_sc rfl (dk_sn)))))))))))) (ih_30 (k + 1) (by omega) (by omega))
            · exact absurd (by rw [f_secret Sm r (by omega) (by omega)]; first | rw [if_pos c_3] | rw [if_neg c_3]) c_4 --done
        · refine V.iconst hC 0 dL_same_49 (by decide) ?_
          refine V.goto hC 54 dL_same_50 (by decide) ?_
          refine V.iadd hC dL_same_54 ?_
          refine V.top (x' := .int (nI (lKyN M q (k + 1)))) (by simp [lKyN, cnt, c_2, nI_1]) ?_
          refine V.istore hC dL_same_55 rfl rfl ?_
          refine V.aload_n hC dL_same_57 rfl ?_
          refine V.iload hC dL_same_58 rfl ?_
          refine V.callV1i hC (c_X4_secretOf hG) mwX4_secretOf mlL_56 (hG.at 0 rfl) rfl rfl ⟨rfl, rfl⟩ dL_same_60 rfl ?_
          refine V.aload_n hC dL_same_63 rfl ?_
          refine V.bipush hC 10 dL_same_64 (by decide) ?_
          refine V.iload hC dL_same_66 rfl ?_
          refine V.iadd hC dL_same_68 ?_
          refine V.ialdLN hC ((10) + (k + 1)) hq (dk_addN (rfl) (rfl)) (by omega) dL_same_69 ?_
          refine V.if_ge hC 77 dL_same_70 (by decide) (fun c_3 => ?_) (fun c_3 => ?_)
          · refine V.aload_n hC dL_same_77 rfl ?_
            refine V.bipush hC 10 dL_same_78 (by decide) ?_
            refine V.iload hC dL_same_80 rfl ?_
            refine V.iadd hC dL_same_82 ?_
            refine V.ialdLN hC ((10) + (k + 1)) hq (dk_addN (rfl) (rfl)) (by omega) dL_same_83 ?_
            refine V.icmp_eq hC 89 dL_same_84 (by decide) (fun c_4 => ?_) (fun c_4 => ?_)
            · refine V.iinc hC dL_same_89 rfl (dk_incN _) rfl ?_
              refine V.goto hC 30 dL_same_92 (by decide) ?_
              exact V.sub (dk_sc rfl (dk_sc rfl (dk_sc rfl (dk_sc rfl (dk_sc rfl (dk_sc rfl (dk_sc rfl (dk_sc rfl (dk_sc rfl (dk_sc rfl (dk_sc rfl (dk_sn)))))))))))) (ih_30 (k + 1) (by omega) (by omega))
            · exact absurd (by rw [f_secret Sm r (by omega) (by omega)]; first | rw [if_pos c_3] | rw [if_neg c_3]) c_4 --done
          · refine V.iconst hC (-1) dL_same_73 (by decide) ?_
            refine V.goto hC 84 dL_same_74 (by decide) ?_
            refine V.icmp_eq hC 89 dL_same_84 (by decide) (fun c_4 => ?_) (fun c_4 => ?_)
            · refine V.iinc hC dL_same_89 rfl (dk_incN _) rfl ?_
              refine V.goto hC 30 dL_same_92 (by decide) ?_
              exact V.sub (dk_sc rfl (dk_sc rfl (dk_sc rfl (dk_sc rfl (dk_sc rfl (dk_sc rfl (dk_sc rfl (dk_sc rfl (dk_sc rfl (dk_sc rfl (dk_sc rfl (dk_sn)))))))))))) (ih_30 (k + 1) (by omega) (by omega))
            · exact absurd (by rw [f_secret Sm r (by omega) (by omega)]; first | rw [if_pos c_3] | rw [if_neg c_3]) c_4 --done
  have loop_27 : ∀ (n : Nat) , (0 < n) →  V E G 14 T (M) 27 [(0, some (.ref (G.1 + 0))), (1, some (.int x)), (2, some (.ref (G.1 + q))), (3, some (.ref (G.1 + d))), (4, some (.ref (G.1 + c))), (5, some (.ref (G.1 + w))), (6, some (.ref (G.1 + j))), (7, some (.int 0)), (8, some (.int (-6))), (9, some (.int (bI (mOpen N))))] [] := by
    intro n
    induction n with
    | zero => intro  hn; exact absurd hn (by omega)
    | succ n ih_27 =>
      intro  hn
      refine V.iconst hC 1 dL_same_27 (by decide) ?_
      refine V.istore hC dL_same_28 rfl rfl ?_
      exact V.sub (dk_sc rfl (dk_sc rfl (dk_sc rfl (dk_sc rfl (dk_sc rfl (dk_sc rfl (dk_sc rfl (dk_sc rfl (dk_sc rfl (dk_sc rfl (dk_sc rfl (dk_sn)))))))))))) (loop_30 6 0 (Nat.zero_le _) (by omega))
  refine V.iconst hC 0 dL_same_0 (by decide) ?_
  refine V.istore hC dL_same_1 rfl rfl ?_
  refine V.bipush hC (-6) dL_same_3 (by decide) ?_
  refine V.istore hC dL_same_5 rfl rfl ?_
  refine V.aload_n hC dL_same_7 rfl ?_
  refine V.iconst hC 5 dL_same_8 (by decide) ?_
  refine V.ialdLN hC (5) hq (rfl) (by omega) dL_same_9 ?_
  refine V.if_gt hC 20 dL_same_10 (by decide) (fun c_1 => ?_) (fun c_1 => ?_)
  · refine V.iconst hC 1 dL_same_20 (by decide) ?_
    refine V.goto hC 25 dL_same_21 (by decide) ?_
    refine V.top (x' := .int (bI (mOpen N))) (by first | (rw [(r.opn Sm.ds).mp (Or.inl c_1)]; rfl) | (rw [(r.opn Sm.ds).mp (Or.inr (dk_nle c_2))]; rfl) | (rw [r.opf Sm.ds c_1 (dk_le1 c_2)]; rfl)) ?_
    refine V.istore hC dL_same_25 rfl rfl ?_
    exact V.sub (dk_sc rfl (dk_sc rfl (dk_sc rfl (dk_sc rfl (dk_sc rfl (dk_sc rfl (dk_sc rfl (dk_sc rfl (dk_sc rfl (dk_sc rfl (dk_sn))))))))))) (loop_27 1  (by omega))
  · refine V.aload_n hC dL_same_13 rfl ?_
    refine V.bipush hC 6 dL_same_14 (by decide) ?_
    refine V.ialdLN hC (6) hq (rfl) (by omega) dL_same_16 ?_
    refine V.if_le hC 24 dL_same_17 (by decide) (fun c_2 => ?_) (fun c_2 => ?_)
    · refine V.iconst hC 0 dL_same_24 (by decide) ?_
      refine V.top (x' := .int (bI (mOpen N))) (by first | (rw [(r.opn Sm.ds).mp (Or.inl c_1)]; rfl) | (rw [(r.opn Sm.ds).mp (Or.inr (dk_nle c_2))]; rfl) | (rw [r.opf Sm.ds c_1 (dk_le1 c_2)]; rfl)) ?_
      refine V.istore hC dL_same_25 rfl rfl ?_
      exact V.sub (dk_sc rfl (dk_sc rfl (dk_sc rfl (dk_sc rfl (dk_sc rfl (dk_sc rfl (dk_sc rfl (dk_sc rfl (dk_sc rfl (dk_sc rfl (dk_sn))))))))))) (loop_27 1  (by omega))
    · refine V.iconst hC 1 dL_same_20 (by decide) ?_
      refine V.goto hC 25 dL_same_21 (by decide) ?_
      refine V.top (x' := .int (bI (mOpen N))) (by first | (rw [(r.opn Sm.ds).mp (Or.inl c_1)]; rfl) | (rw [(r.opn Sm.ds).mp (Or.inr (dk_nle c_2))]; rfl) | (rw [r.opf Sm.ds c_1 (dk_le1 c_2)]; rfl)) ?_
      refine V.istore hC dL_same_25 rfl rfl ?_
      exact V.sub (dk_sc rfl (dk_sc rfl (dk_sc rfl (dk_sc rfl (dk_sc rfl (dk_sc rfl (dk_sc rfl (dk_sc rfl (dk_sc rfl (dk_sc rfl (dk_sn))))))))))) (loop_27 1  (by omega))
set_option maxHeartbeats 2000000 in
set_option maxRecDepth 20000 in
theorem same_body {E : dkE} {G : dkG} {T : dkT} {M N : dkM} {q d c w j : Nat} {x : Int32} {k : Nat} {ky : Int32} (hC : dk_Cx E G cL_same 14 RL (some .boolean) 6 128) (hG : dk_cls G) (hq : lA G q 16) (hd : lA G d 20) (hc : lA G c 20) (hw : lA G w 20) (hj : lA G j 20) (Sm : Sim M N) (r : LR M q d c w j (N 112)) (hk : k < ix (N 112 0)) (K : V E G 14 T M 102 [(0, some (.ref (G.1 + 0))), (1, some (.int x)), (2, some (.ref (G.1 + q))), (3, some (.ref (G.1 + d))), (4, some (.ref (G.1 + c))), (5, some (.ref (G.1 + w))), (6, some (.ref (G.1 + j))), (7, some (.int ky)), (8, some (.int (mFoL N (ix (N 112 0) - k) k))), (9, some (.int (bI (mOpen N)))), (10, some (.int (nI k - 1)))] []) : V E G 14 T M 107 [(0, some (.ref (G.1 + 0))), (1, some (.int x)), (2, some (.ref (G.1 + q))), (3, some (.ref (G.1 + d))), (4, some (.ref (G.1 + c))), (5, some (.ref (G.1 + w))), (6, some (.ref (G.1 + j))), (7, some (.int ky)), (8, some (.int (mFoL N (ix (N 112 0) - (k + 1)) (k + 1)))), (9, some (.int (bI (mOpen N)))), (10, some (.int (nI k)))] [] := by
  have hk20 : k < 20 := r.sn Sm.ds hk
  have hkb := lKey_b (r.lk Sm.ds) (nI k)
  have loop_230 : ∀ (n : Nat) , (0 < n) →  V E G 14 T (M) 230 [(0, some (.ref (G.1 + 0))), (1, some (.int x)), (2, some (.ref (G.1 + q))), (3, some (.ref (G.1 + d))), (4, some (.ref (G.1 + c))), (5, some (.ref (G.1 + w))), (6, some (.ref (G.1 + j))), (7, some (.int ky)), (8, some (.int (mFoL N (ix (N 112 0) - k) k))), (9, some (.int (bI (mOpen N)))), (10, some (.int (nI k))), (11, some (.int (mVal N k))), (13, some (.int (mForm N k)))] [] := by
    intro n
    induction n with
    | zero => intro  hn; exact absurd hn (by omega)
    | succ n ih_230 =>
      intro  hn
      refine V.aload_n hC dL_same_230 rfl ?_
      refine V.iload hC dL_same_231 rfl ?_
      refine V.callV1i hC (c_X4_read hG) mwX4_read mlL_62 (hG.at 0 rfl) rfl rfl ⟨rfl, rfl⟩ dL_same_233 rfl ?_
      refine V.iload hC dL_same_236 rfl ?_
      refine V.icmp_ne hC 308 dL_same_238 (by decide) (fun c_1 => ?_) (fun c_1 => ?_)
      · exact absurd (f_read Sm hk) c_1 --done
      · refine V.aload_n hC dL_same_241 rfl ?_
        refine V.iload hC dL_same_242 rfl ?_
        refine V.callV1i hC (c_X4_stored hG) mwX4_stored mlL_65 (hG.at 0 rfl) rfl rfl ⟨rfl, rfl⟩ dL_same_244 rfl ?_
        refine V.aload_n hC dL_same_247 rfl ?_
        refine V.iload hC dL_same_248 rfl ?_
        refine V.ialdLN hC (k) hd (rfl) (by omega) dL_same_250 ?_
        refine V.icmp_ne hC 308 dL_same_251 (by decide) (fun c_2 => ?_) (fun c_2 => ?_)
        · exact absurd (f_stored Sm r hk) c_2 --done
        · refine V.aload_n hC dL_same_254 rfl ?_
          refine V.iload hC dL_same_255 rfl ?_
          refine V.callV1i hC (c_X4_keyOf hG) mwX4_keyOf mlL_68 (hG.at 0 rfl) rfl rfl ⟨rfl, rfl⟩ dL_same_257 rfl ?_
          refine V.iload hC dL_same_260 rfl ?_
          refine V.aload_n hC dL_same_262 rfl ?_
          refine V.callS2i hC (c_L_key hq) mwL_key mlL_22 ⟨rfl, rfl⟩ dL_same_263 rfl ?_
          refine V.icmp_ne hC 308 dL_same_266 (by decide) (fun c_3 => ?_) (fun c_3 => ?_)
          · exact absurd (f_keyOf Sm r hk) c_3 --done
          · refine V.aload_n hC dL_same_269 rfl ?_
            refine V.iload hC dL_same_270 rfl ?_
            refine V.callV1i hC (c_X4_journal hG) mwX4_journal mlL_71 (hG.at 0 rfl) rfl rfl ⟨rfl, rfl⟩ dL_same_272 rfl ?_
            refine V.aload hC dL_same_275 rfl ?_
            refine V.iload hC dL_same_277 rfl ?_
            refine V.ialdLN hC (k) hj (rfl) (by omega) dL_same_279 ?_
            refine V.icmp_ne hC 308 dL_same_280 (by decide) (fun c_4 => ?_) (fun c_4 => ?_)
            · exact absurd (f_journal Sm r hk) c_4 --done
            · refine V.aload_n hC dL_same_283 rfl ?_
              refine V.iload hC dL_same_284 rfl ?_
              refine V.callV1i hC (c_X4_cached hG) mwX4_cached mlL_74 (hG.at 0 rfl) rfl rfl ⟨rfl, rfl⟩ dL_same_286 rfl ?_
              refine V.aload hC dL_same_289 rfl ?_
              refine V.iload hC dL_same_291 rfl ?_
              refine V.ialdLN hC (k) hc (rfl) (by omega) dL_same_293 ?_
              refine V.icmp_ne hC 308 dL_same_294 (by decide) (fun c_5 => ?_) (fun c_5 => ?_)
              · exact absurd (f_cached Sm r hk) c_5 --done
              · refine V.aload_n hC dL_same_297 rfl ?_
                refine V.iload hC dL_same_298 rfl ?_
                refine V.callV1i hC (c_X4_ifFlushed hG) mwX4_ifFlushed mlL_77 (hG.at 0 rfl) rfl rfl ⟨rfl, rfl⟩ dL_same_300 rfl ?_
                refine V.iload hC dL_same_303 rfl ?_
                refine V.icmp_eq hC 310 dL_same_305 (by decide) (fun c_6 => ?_) (fun c_6 => ?_)
                · refine V.iinc hC dL_same_310 rfl (sub_1 _) rfl ?_
                  refine V.goto hC 102 dL_same_313 (by decide) ?_
                  exact V.sub (dk_sc rfl (dk_sc rfl (dk_sc rfl (dk_sc rfl (dk_sc rfl (dk_sc rfl (dk_sc rfl (dk_sc rfl (dk_sc rfl (dk_sc rfl (dk_sc rfl (dk_sn)))))))))))) K
                · exact absurd (f_ifFl Sm hk) c_6 --done
  have loop_211 : ∀ (n : Nat) , (0 < n) →  V E G 14 T (M) 211 [(0, some (.ref (G.1 + 0))), (1, some (.int x)), (2, some (.ref (G.1 + q))), (3, some (.ref (G.1 + d))), (4, some (.ref (G.1 + c))), (5, some (.ref (G.1 + w))), (6, some (.ref (G.1 + j))), (7, some (.int ky)), (8, some (.int (mFoL N (ix (N 112 0) - (k + 1)) (k + 1)))), (9, some (.int (bI (mOpen N)))), (10, some (.int (nI k))), (11, some (.int (mVal N k))), (13, some (.int (mForm N k)))] [] := by
    intro n
    induction n with
    | zero => intro  hn; exact absurd hn (by omega)
    | succ n ih_211 =>
      intro  hn
      refine V.iload hC dL_same_211 rfl ?_
      refine V.aload hC dL_same_213 rfl ?_
      refine V.iload hC dL_same_215 rfl ?_
      refine V.ialdLN hC (k) hw (rfl) (by omega) dL_same_217 ?_
      refine V.icmp_ne hC 226 dL_same_218 (by decide) (fun c_1 => ?_) (fun c_1 => ?_)
      · refine V.iload hC dL_same_226 rfl ?_
        refine V.top (x' := .int (mFoL N (ix (N 112 0) - k) k)) (by rw [mFoL_s hk, ← (r.2.2.2.2 k hk).2.2]; first | rw [if_pos c_1] | rw [if_neg c_1]) ?_
        refine V.istore hC dL_same_228 rfl rfl ?_
        exact V.sub (dk_sc rfl (dk_sc rfl (dk_sc rfl (dk_sc rfl (dk_sc rfl (dk_sc rfl (dk_sc rfl (dk_sc rfl (dk_sc rfl (dk_sc rfl (dk_sc rfl (dk_sc rfl (dk_sc rfl (dk_sn)))))))))))))) (loop_230 1  (by omega))
      · refine V.iload hC dL_same_221 rfl ?_
        refine V.goto hC 228 dL_same_223 (by decide) ?_
        refine V.top (x' := .int (mFoL N (ix (N 112 0) - k) k)) (by rw [mFoL_s hk, ← (r.2.2.2.2 k hk).2.2]; first | rw [if_pos c_1] | rw [if_neg c_1]) ?_
        refine V.istore hC dL_same_228 rfl rfl ?_
        exact V.sub (dk_sc rfl (dk_sc rfl (dk_sc rfl (dk_sc rfl (dk_sc rfl (dk_sc rfl (dk_sc rfl (dk_sc rfl (dk_sc rfl (dk_sc rfl (dk_sc rfl (dk_sc rfl (dk_sc rfl (dk_sn)))))))))))))) (loop_230 1  (by omega))
  have loop_163 : ∀ (n : Nat) , (0 < n) →  V E G 14 T (M) 163 [(0, some (.ref (G.1 + 0))), (1, some (.int x)), (2, some (.ref (G.1 + q))), (3, some (.ref (G.1 + d))), (4, some (.ref (G.1 + c))), (5, some (.ref (G.1 + w))), (6, some (.ref (G.1 + j))), (7, some (.int ky)), (8, some (.int (mFoL N (ix (N 112 0) - (k + 1)) (k + 1)))), (9, some (.int (bI (mOpen N)))), (10, some (.int (nI k))), (11, some (.int (mVal N k))), (12, some (.int (bI (mInZ N (nI k)))))] [] := by
    intro n
    induction n with
    | zero => intro  hn; exact absurd hn (by omega)
    | succ n ih_163 =>
      intro  hn
      refine V.aload hC dL_same_163 rfl ?_
      refine V.iload hC dL_same_165 rfl ?_
      refine V.ialdLN hC (k) hc (rfl) (by omega) dL_same_167 ?_
      refine V.if_lt hC 181 dL_same_168 (by decide) (fun c_1 => ?_) (fun c_1 => ?_)
      · refine V.aload_n hC dL_same_181 rfl ?_
        refine V.iload hC dL_same_182 rfl ?_
        refine V.ialdLN hC (k) hd (rfl) (by omega) dL_same_184 ?_
        refine V.goto hC 209 dL_same_185 (by decide) ?_
        refine V.top (x' := .int (mForm N k)) (congrArg Value.int (by first | exact fo_a Sm.ds r hk c_1 | exact fo_b Sm.ds r hk c_1 c_2 | exact fo_c Sm.ds r hk c_1 c_2 c_3 | exact fo_d Sm.ds r hk c_1 c_2 c_3)) ?_
        refine V.istore hC dL_same_209 rfl rfl ?_
        exact V.sub (dk_sc rfl (dk_sc rfl (dk_sc rfl (dk_sc rfl (dk_sc rfl (dk_sc rfl (dk_sc rfl (dk_sc rfl (dk_sc rfl (dk_sc rfl (dk_sc rfl (dk_sc rfl (dk_sc rfl (dk_sn)))))))))))))) (loop_211 1  (by omega))
      · refine V.iload hC dL_same_171 rfl ?_
        refine V.if_eqB hC 188 dL_same_173 (by decide) (fun c_2 => ?_) (fun c_2 => ?_)
        · refine V.aload hC dL_same_188 rfl ?_
          refine V.iload hC dL_same_190 rfl ?_
          refine V.ialdLN hC (k) hc (rfl) (by omega) dL_same_192 ?_
          refine V.iload hC dL_same_193 rfl ?_
          refine V.aload_n hC dL_same_195 rfl ?_
          refine V.bipush hC 10 dL_same_196 (by decide) ?_
          refine V.iload hC dL_same_198 rfl ?_
          refine V.aload_n hC dL_same_200 rfl ?_
          refine V.callS2i hC (c_L_key hq) mwL_key mlL_22 ⟨rfl, rfl⟩ dL_same_201 rfl ?_
          refine V.iadd hC dL_same_204 ?_
          refine V.ialdLN hC (10 + ix (lKey M q (nI k))) hq (dk_addN rfl (nI_ix hkb.1)) (by have := ix_toInt hkb.1; omega) dL_same_205 ?_
          refine V.callS3i hC (c_L_mix) mwL_mix mlL_26 ⟨rfl, rfl⟩ dL_same_206 rfl ?_
          refine V.top (x' := .int (mForm N k)) (congrArg Value.int (by first | exact fo_a Sm.ds r hk c_1 | exact fo_b Sm.ds r hk c_1 c_2 | exact fo_c Sm.ds r hk c_1 c_2 c_3 | exact fo_d Sm.ds r hk c_1 c_2 c_3)) ?_
          refine V.istore hC dL_same_209 rfl rfl ?_
          exact V.sub (dk_sc rfl (dk_sc rfl (dk_sc rfl (dk_sc rfl (dk_sc rfl (dk_sc rfl (dk_sc rfl (dk_sc rfl (dk_sc rfl (dk_sc rfl (dk_sc rfl (dk_sc rfl (dk_sc rfl (dk_sn)))))))))))))) (loop_211 1  (by omega))
        · refine V.iload hC dL_same_176 rfl ?_
          refine V.if_eqB hC 188 dL_same_178 (by decide) (fun c_3 => ?_) (fun c_3 => ?_)
          · refine V.aload hC dL_same_188 rfl ?_
            refine V.iload hC dL_same_190 rfl ?_
            refine V.ialdLN hC (k) hc (rfl) (by omega) dL_same_192 ?_
            refine V.iload hC dL_same_193 rfl ?_
            refine V.aload_n hC dL_same_195 rfl ?_
            refine V.bipush hC 10 dL_same_196 (by decide) ?_
            refine V.iload hC dL_same_198 rfl ?_
            refine V.aload_n hC dL_same_200 rfl ?_
            refine V.callS2i hC (c_L_key hq) mwL_key mlL_22 ⟨rfl, rfl⟩ dL_same_201 rfl ?_
            refine V.iadd hC dL_same_204 ?_
            refine V.ialdLN hC (10 + ix (lKey M q (nI k))) hq (dk_addN rfl (nI_ix hkb.1)) (by have := ix_toInt hkb.1; omega) dL_same_205 ?_
            refine V.callS3i hC (c_L_mix) mwL_mix mlL_26 ⟨rfl, rfl⟩ dL_same_206 rfl ?_
            refine V.top (x' := .int (mForm N k)) (congrArg Value.int (by first | exact fo_a Sm.ds r hk c_1 | exact fo_b Sm.ds r hk c_1 c_2 | exact fo_c Sm.ds r hk c_1 c_2 c_3 | exact fo_d Sm.ds r hk c_1 c_2 c_3)) ?_
            refine V.istore hC dL_same_209 rfl rfl ?_
            exact V.sub (dk_sc rfl (dk_sc rfl (dk_sc rfl (dk_sc rfl (dk_sc rfl (dk_sc rfl (dk_sc rfl (dk_sc rfl (dk_sc rfl (dk_sc rfl (dk_sc rfl (dk_sc rfl (dk_sc rfl (dk_sn)))))))))))))) (loop_211 1  (by omega))
          · refine V.aload_n hC dL_same_181 rfl ?_
            refine V.iload hC dL_same_182 rfl ?_
            refine V.ialdLN hC (k) hd (rfl) (by omega) dL_same_184 ?_
            refine V.goto hC 209 dL_same_185 (by decide) ?_
            refine V.top (x' := .int (mForm N k)) (congrArg Value.int (by first | exact fo_a Sm.ds r hk c_1 | exact fo_b Sm.ds r hk c_1 c_2 | exact fo_c Sm.ds r hk c_1 c_2 c_3 | exact fo_d Sm.ds r hk c_1 c_2 c_3)) ?_
            refine V.istore hC dL_same_209 rfl rfl ?_
            exact V.sub (dk_sc rfl (dk_sc rfl (dk_sc rfl (dk_sc rfl (dk_sc rfl (dk_sc rfl (dk_sc rfl (dk_sc rfl (dk_sc rfl (dk_sc rfl (dk_sc rfl (dk_sc rfl (dk_sc rfl (dk_sn)))))))))))))) (loop_211 1  (by omega))
  have loop_132 : ∀ (n : Nat) , (0 < n) →  V E G 14 T (M) 132 [(0, some (.ref (G.1 + 0))), (1, some (.int x)), (2, some (.ref (G.1 + q))), (3, some (.ref (G.1 + d))), (4, some (.ref (G.1 + c))), (5, some (.ref (G.1 + w))), (6, some (.ref (G.1 + j))), (7, some (.int ky)), (8, some (.int (mFoL N (ix (N 112 0) - (k + 1)) (k + 1)))), (9, some (.int (bI (mOpen N)))), (10, some (.int (nI k))), (11, some (.int (mVal N k)))] [] := by
    intro n
    induction n with
    | zero => intro  hn; exact absurd hn (by omega)
    | succ n ih_132 =>
      intro  hn
      refine V.aload_n hC dL_same_132 rfl ?_
      refine V.iconst hC 2 dL_same_133 (by decide) ?_
      refine V.ialdLN hC (2) hq (rfl) (by omega) dL_same_134 ?_
      refine V.if_le hC 160 dL_same_135 (by decide) (fun c_1 => ?_) (fun c_1 => ?_)
      · refine V.iconst hC 0 dL_same_160 (by decide) ?_
        refine V.top (x' := .int (bI (mInZ N (nI k)))) (by first | (rw [in_a Sm.ds r c_1]; rfl) | (rw [in_b Sm.ds r c_1 c_2]; rfl) | (rw [in_c Sm.ds r c_1 c_2 c_3]; rfl) | (rw [in_t Sm.ds r c_1 c_2 c_3]; rfl)) ?_
        refine V.istore hC dL_same_161 rfl rfl ?_
        exact V.sub (dk_sc rfl (dk_sc rfl (dk_sc rfl (dk_sc rfl (dk_sc rfl (dk_sc rfl (dk_sc rfl (dk_sc rfl (dk_sc rfl (dk_sc rfl (dk_sc rfl (dk_sc rfl (dk_sc rfl (dk_sn)))))))))))))) (loop_163 1  (by omega))
      · refine V.iload hC dL_same_138 rfl ?_
        refine V.aload_n hC dL_same_140 rfl ?_
        refine V.callS1i hC (c_L_first hq) mwL_first mlL_16 ⟨rfl, rfl⟩ dL_same_141 rfl ?_
        refine V.icmp_lt hC 160 dL_same_144 (by decide) (fun c_2 => ?_) (fun c_2 => ?_)
        · refine V.iconst hC 0 dL_same_160 (by decide) ?_
          refine V.top (x' := .int (bI (mInZ N (nI k)))) (by first | (rw [in_a Sm.ds r c_1]; rfl) | (rw [in_b Sm.ds r c_1 c_2]; rfl) | (rw [in_c Sm.ds r c_1 c_2 c_3]; rfl) | (rw [in_t Sm.ds r c_1 c_2 c_3]; rfl)) ?_
          refine V.istore hC dL_same_161 rfl rfl ?_
          exact V.sub (dk_sc rfl (dk_sc rfl (dk_sc rfl (dk_sc rfl (dk_sc rfl (dk_sc rfl (dk_sc rfl (dk_sc rfl (dk_sc rfl (dk_sc rfl (dk_sc rfl (dk_sc rfl (dk_sc rfl (dk_sn)))))))))))))) (loop_163 1  (by omega))
        · refine V.iload hC dL_same_147 rfl ?_
          refine V.aload_n hC dL_same_149 rfl ?_
          refine V.callS1i hC (c_L_behind hq) mwL_behind mlL_34 ⟨rfl, rfl⟩ dL_same_150 rfl ?_
          refine V.icmp_ge hC 160 dL_same_153 (by decide) (fun c_3 => ?_) (fun c_3 => ?_)
          · refine V.iconst hC 0 dL_same_160 (by decide) ?_
            refine V.top (x' := .int (bI (mInZ N (nI k)))) (by first | (rw [in_a Sm.ds r c_1]; rfl) | (rw [in_b Sm.ds r c_1 c_2]; rfl) | (rw [in_c Sm.ds r c_1 c_2 c_3]; rfl) | (rw [in_t Sm.ds r c_1 c_2 c_3]; rfl)) ?_
            refine V.istore hC dL_same_161 rfl rfl ?_
            exact V.sub (dk_sc rfl (dk_sc rfl (dk_sc rfl (dk_sc rfl (dk_sc rfl (dk_sc rfl (dk_sc rfl (dk_sc rfl (dk_sc rfl (dk_sc rfl (dk_sc rfl (dk_sc rfl (dk_sc rfl (dk_sn)))))))))))))) (loop_163 1  (by omega))
          · refine V.iconst hC 1 dL_same_156 (by decide) ?_
            refine V.goto hC 161 dL_same_157 (by decide) ?_
            refine V.top (x' := .int (bI (mInZ N (nI k)))) (by first | (rw [in_a Sm.ds r c_1]; rfl) | (rw [in_b Sm.ds r c_1 c_2]; rfl) | (rw [in_c Sm.ds r c_1 c_2 c_3]; rfl) | (rw [in_t Sm.ds r c_1 c_2 c_3]; rfl)) ?_
            refine V.istore hC dL_same_161 rfl rfl ?_
            exact V.sub (dk_sc rfl (dk_sc rfl (dk_sc rfl (dk_sc rfl (dk_sc rfl (dk_sc rfl (dk_sc rfl (dk_sc rfl (dk_sc rfl (dk_sc rfl (dk_sc rfl (dk_sc rfl (dk_sc rfl (dk_sn)))))))))))))) (loop_163 1  (by omega))
  refine V.aload hC dL_same_107 rfl ?_
  refine V.iload hC dL_same_109 rfl ?_
  refine V.ialdLN hC (k) hc (rfl) (by omega) dL_same_111 ?_
  refine V.if_ge hC 125 dL_same_112 (by decide) (fun c_1 => ?_) (fun c_1 => ?_)
  · refine V.aload hC dL_same_125 rfl ?_
    refine V.iload hC dL_same_127 rfl ?_
    refine V.ialdLN hC (k) hc (rfl) (by omega) dL_same_129 ?_
    refine V.top (x' := .int (mVal N k)) (by rw [← r.val Sm.ds hk]; unfold lVal; first | rw [if_pos c_1] | rw [if_neg c_1]) ?_
    refine V.istore hC dL_same_130 rfl rfl ?_
    exact V.sub (dk_sc rfl (dk_sc rfl (dk_sc rfl (dk_sc rfl (dk_sc rfl (dk_sc rfl (dk_sc rfl (dk_sc rfl (dk_sc rfl (dk_sc rfl (dk_sc rfl (dk_sc rfl (dk_sn))))))))))))) (loop_132 1  (by omega))
  · refine V.iload hC dL_same_115 rfl ?_
    refine V.aload_n hC dL_same_117 rfl ?_
    refine V.aload_n hC dL_same_118 rfl ?_
    refine V.callS3i hC (c_L_plain hq hd hk20 hkb) mwL_plain mlL_37 ⟨rfl, rfl⟩ dL_same_119 rfl ?_
    refine V.goto hC 130 dL_same_122 (by decide) ?_
    refine V.top (x' := .int (mVal N k)) (by rw [← r.val Sm.ds hk]; unfold lVal; first | rw [if_pos c_1] | rw [if_neg c_1]) ?_
    refine V.istore hC dL_same_130 rfl rfl ?_
    exact V.sub (dk_sc rfl (dk_sc rfl (dk_sc rfl (dk_sc rfl (dk_sc rfl (dk_sc rfl (dk_sc rfl (dk_sc rfl (dk_sc rfl (dk_sc rfl (dk_sc rfl (dk_sc rfl (dk_sn))))))))))))) (loop_132 1  (by omega))
theorem nI_p (k : Nat) : nI (k + 1) - 1 = nI k := by rw [← nI_1]; grind
theorem same_loop {E : dkE} {G : dkG} {T : dkT} {M N : dkM} {q d c w j : Nat} {x : Int32} {ky : Int32} (hC : dk_Cx E G cL_same 14 RL (some .boolean) 6 128) (hG : dk_cls G) (hq : lA G q 16) (hd : lA G d 20) (hc : lA G c 20) (hw : lA G w 20) (hj : lA G j 20) (Sm : Sim M N) (r : LR M q d c w j (N 112)) (K : V E G 14 T M 316 [(0, some (.ref (G.1 + 0))), (1, some (.int x)), (2, some (.ref (G.1 + q))), (3, some (.ref (G.1 + d))), (4, some (.ref (G.1 + c))), (5, some (.ref (G.1 + w))), (6, some (.ref (G.1 + j))), (7, some (.int ky)), (8, some (.int (mFirst N)))] []) : ∀ k, k ≤ ix (N 112 0) → V E G 14 T M 102 [(0, some (.ref (G.1 + 0))), (1, some (.int x)), (2, some (.ref (G.1 + q))), (3, some (.ref (G.1 + d))), (4, some (.ref (G.1 + c))), (5, some (.ref (G.1 + w))), (6, some (.ref (G.1 + j))), (7, some (.int ky)), (8, some (.int (mFoL N (ix (N 112 0) - k) k))), (9, some (.int (bI (mOpen N)))), (10, some (.int (nI k - 1)))] []
  | 0, hk => by
    refine V.iload hC dL_same_102 rfl ?_
    refine V.if_lt hC 316 dL_same_104 (by decide) (fun _ => ?_) (fun c_1 => absurd (show nI 0 - 1 < (0 : Int32) by decide) c_1)
    exact V.sub (dk_sc rfl (dk_sc rfl (dk_sc rfl (dk_sc rfl (dk_sc rfl (dk_sc rfl (dk_sc rfl (dk_sc rfl (dk_sc rfl (dk_sn)))))))))) K
  | k + 1, hk => by
    have hsec := (r.sec Sm.ds).2.1
    have ih := same_loop hC hG hq hd hc hw hj Sm r K k (by omega)
    refine V.iload hC dL_same_102 rfl ?_
    refine V.if_lt hC 316 dL_same_104 (by decide) (fun c_1 => absurd c_1 (by rw [nI_p]; exact nI_pos (by omega))) (fun _ => ?_)
    rw [nI_p]
    exact same_body hC hG hq hd hc hw hj Sm r (by omega) ih
set_option maxHeartbeats 2000000 in
set_option maxRecDepth 20000 in
theorem same_tail {E : dkE} {G : dkG} {T : dkT} {M N : dkM} {q d c w j : Nat} {x : Int32} (hC : dk_Cx E G cL_same 14 RL (some .boolean) 6 128) (hG : dk_cls G) (hq : lA G q 16) (hd : lA G d 20) (hc : lA G c 20) (hw : lA G w 20) (hj : lA G j 20) (Sm : Sim M N) (r : LR M q d c w j (N 112)) (hA : dk_Al E G) (hr : dk_rm E 4 76) (D : lD q d c w j) (K : V (dk_more E 4 76) G 14 T M 577 [(0, some (.ref (G.1 + 0))), (1, some (.int x)), (2, some (.ref (G.1 + q))), (3, some (.ref (G.1 + d))), (4, some (.ref (G.1 + c))), (5, some (.ref (G.1 + w))), (6, some (.ref (G.1 + j))), (10, some (.int (lLow x 60)))] []) : V E G 14 T M 316 [(0, some (.ref (G.1 + 0))), (1, some (.int x)), (2, some (.ref (G.1 + q))), (3, some (.ref (G.1 + d))), (4, some (.ref (G.1 + c))), (5, some (.ref (G.1 + w))), (6, some (.ref (G.1 + j))), (7, some (.int (nI (lKyN M q 5)))), (8, some (.int (mFirst N)))] [] := by
  have loop_544 : ∀ (n : Nat) , (0 < n) →  V E G 14 T (M) 544 [(0, some (.ref (G.1 + 0))), (1, some (.int x)), (2, some (.ref (G.1 + q))), (3, some (.ref (G.1 + d))), (4, some (.ref (G.1 + c))), (5, some (.ref (G.1 + w))), (6, some (.ref (G.1 + j))), (10, some (.int (lLow x 60)))] [] := by
    intro n
    induction n with
    | zero => intro  hn; exact absurd hn (by omega)
    | succ n ih_544 =>
      intro  hn
      refine V.aload_n hC dL_same_544 rfl ?_
      refine V.callV0i hC (c_X4_stepsLeft hG) mwX4_stepsLeft mlL_99 (hG.at 0 rfl) rfl rfl ⟨rfl, rfl⟩ dL_same_545 rfl ?_
      refine V.aload_n hC dL_same_548 rfl ?_
      refine V.iconst hC 2 dL_same_549 (by decide) ?_
      refine V.ialdLN hC (2) hq (rfl) (by omega) dL_same_550 ?_
      refine V.if_ge hC 559 dL_same_551 (by decide) (fun c_1 => ?_) (fun c_1 => ?_)
      · refine V.sipush hC 999 dL_same_559 (by decide) ?_
        refine V.iconst hC 0 dL_same_562 (by decide) ?_
        refine V.aload_n hC dL_same_563 rfl ?_
        refine V.aload_n hC dL_same_564 rfl ?_
        refine V.aload hC dL_same_565 rfl ?_
        refine V.aload hC dL_same_567 rfl ?_
        refine V.aload hC dL_same_569 rfl ?_
        refine V.callSA hC hA (c_L_then (b := false) hG hq hd hc hw hj D Sm.ds r) mwL_then mlL_102 (by omega) hr ⟨rfl, rfl⟩ dL_same_571 rfl rfl rfl ?_
        obtain ⟨hC, hA⟩ := dk_Cx.more hC hA hr
        refine V.icmp_ne hC 625 dL_same_574 (by decide) (fun c_2 => ?_) (fun c_2 => ?_)
        · exact absurd ((f_left Sm r).trans (by first | rw [if_pos c_1] | rw [if_neg c_1])) c_2 --done
        · first | exact V.sub (dk_sc rfl (dk_sc rfl (dk_sc rfl (dk_sc rfl (dk_sc rfl (dk_sc rfl (dk_sc rfl (dk_sc rfl (dk_sn))))))))) K | exact V.more (k := 4) (n := 76) (V.sub (dk_sc rfl (dk_sc rfl (dk_sc rfl (dk_sc rfl (dk_sc rfl (dk_sc rfl (dk_sc rfl (dk_sc rfl (dk_sn))))))))) K)
      · refine V.bipush hC (-3) dL_same_554 (by decide) ?_
        refine V.goto hC 574 dL_same_556 (by decide) ?_
        refine V.icmp_ne hC 625 dL_same_574 (by decide) (fun c_2 => ?_) (fun c_2 => ?_)
        · exact absurd ((f_left Sm r).trans (by first | rw [if_pos c_1] | rw [if_neg c_1])) c_2 --done
        · first | exact V.sub (dk_sc rfl (dk_sc rfl (dk_sc rfl (dk_sc rfl (dk_sc rfl (dk_sc rfl (dk_sc rfl (dk_sc rfl (dk_sn))))))))) K | exact V.more (k := 4) (n := 76) (V.sub (dk_sc rfl (dk_sc rfl (dk_sc rfl (dk_sc rfl (dk_sc rfl (dk_sc rfl (dk_sc rfl (dk_sc rfl (dk_sn))))))))) K)
  have loop_419 : ∀ (n : Nat) , (0 < n) →  V E G 14 T (M) 419 [(0, some (.ref (G.1 + 0))), (1, some (.int x)), (2, some (.ref (G.1 + q))), (3, some (.ref (G.1 + d))), (4, some (.ref (G.1 + c))), (5, some (.ref (G.1 + w))), (6, some (.ref (G.1 + j))), (7, some (.int (nI (lKyN M q 5)))), (8, some (.int (mFirst N))), (10, some (.int (lLow x 60)))] [] := by
    intro n
    induction n with
    | zero => intro  hn; exact absurd hn (by omega)
    | succ n ih_419 =>
      intro  hn
      refine V.aload_n hC dL_same_419 rfl ?_
      refine V.bipush hC 7 dL_same_420 (by decide) ?_
      refine V.callV1i hC (c_X4_count hG) mwX4_count mlL_84 (hG.at 0 rfl) rfl rfl ⟨rfl, rfl⟩ dL_same_422 rfl ?_
      refine V.aload_n hC dL_same_425 rfl ?_
      refine V.aload hC dL_same_426 rfl ?_
      refine V.callS2i hC (c_L_cached hq hc (r.sec Sm.ds).2.2.2) mwL_cached mlL_87 ⟨rfl, rfl⟩ dL_same_428 rfl ?_
      refine V.icmp_ne hC 625 dL_same_431 (by decide) (fun c_1 => ?_) (fun c_1 => ?_)
      · exact absurd (f_c7 Sm r) c_1 --done
      · refine V.aload_n hC dL_same_434 rfl ?_
        refine V.bipush hC 8 dL_same_435 (by decide) ?_
        refine V.callV1i hC (c_X4_count hG) mwX4_count mlL_84 (hG.at 0 rfl) rfl rfl ⟨rfl, rfl⟩ dL_same_437 rfl ?_
        refine V.aload_n hC dL_same_440 rfl ?_
        refine V.bipush hC 7 dL_same_441 (by decide) ?_
        refine V.ialdLN hC (7) hq (rfl) (by omega) dL_same_443 ?_
        refine V.icmp_ne hC 625 dL_same_444 (by decide) (fun c_2 => ?_) (fun c_2 => ?_)
        · exact absurd (f_num Sm r (k := 8) (v := 7) (by omega) (by omega) (by omega) rfl) c_2 --done
        · refine V.aload_n hC dL_same_447 rfl ?_
          refine V.bipush hC 9 dL_same_448 (by decide) ?_
          refine V.callV1i hC (c_X4_count hG) mwX4_count mlL_84 (hG.at 0 rfl) rfl rfl ⟨rfl, rfl⟩ dL_same_450 rfl ?_
          refine V.aload_n hC dL_same_453 rfl ?_
          refine V.bipush hC 8 dL_same_454 (by decide) ?_
          refine V.ialdLN hC (8) hq (rfl) (by omega) dL_same_456 ?_
          refine V.icmp_ne hC 625 dL_same_457 (by decide) (fun c_3 => ?_) (fun c_3 => ?_)
          · exact absurd (f_num Sm r (k := 9) (v := 8) (by omega) (by omega) (by omega) rfl) c_3 --done
          · refine V.aload_n hC dL_same_460 rfl ?_
            refine V.bipush hC 10 dL_same_461 (by decide) ?_
            refine V.callV1i hC (c_X4_count hG) mwX4_count mlL_84 (hG.at 0 rfl) rfl rfl ⟨rfl, rfl⟩ dL_same_463 rfl ?_
            refine V.iload hC dL_same_466 rfl ?_
            refine V.icmp_ne hC 625 dL_same_468 (by decide) (fun c_4 => ?_) (fun c_4 => ?_)
            · exact absurd (f_c10 Sm r) c_4 --done
            · refine V.aload_n hC dL_same_471 rfl ?_
              refine V.bipush hC 11 dL_same_472 (by decide) ?_
              refine V.callV1i hC (c_X4_count hG) mwX4_count mlL_84 (hG.at 0 rfl) rfl rfl ⟨rfl, rfl⟩ dL_same_474 rfl ?_
              refine V.aload_n hC dL_same_477 rfl ?_
              refine V.bipush hC 9 dL_same_478 (by decide) ?_
              refine V.ialdLN hC (9) hq (rfl) (by omega) dL_same_480 ?_
              refine V.icmp_ne hC 625 dL_same_481 (by decide) (fun c_5 => ?_) (fun c_5 => ?_)
              · exact absurd (f_num Sm r (k := 11) (v := 9) (by omega) (by omega) (by omega) rfl) c_5 --done
              · refine V.aload_n hC dL_same_484 rfl ?_
                refine V.bipush hC 12 dL_same_485 (by decide) ?_
                refine V.callV1i hC (c_X4_count hG) mwX4_count mlL_84 (hG.at 0 rfl) rfl rfl ⟨rfl, rfl⟩ dL_same_487 rfl ?_
                refine V.aload_n hC dL_same_490 rfl ?_
                refine V.bipush hC 10 dL_same_491 (by decide) ?_
                refine V.ialdLN hC (10) hq (rfl) (by omega) dL_same_493 ?_
                refine V.icmp_ne hC 625 dL_same_494 (by decide) (fun c_6 => ?_) (fun c_6 => ?_)
                · exact absurd (f_num Sm r (k := 12) (v := 10) (by omega) (by omega) (by omega) rfl) c_6 --done
                · refine V.aload_n hC dL_same_497 rfl ?_
                  refine V.callV0i hC (c_X4_damaged hG) mwX4_damaged mlL_90 (hG.at 0 rfl) rfl rfl ⟨rfl, rfl⟩ dL_same_498 rfl ?_
                  refine V.aload_n hC dL_same_501 rfl ?_
                  refine V.aload_n hC dL_same_502 rfl ?_
                  refine V.aload hC dL_same_503 rfl ?_
                  refine V.aload hC dL_same_505 rfl ?_
                  refine V.callS4i hC (c_L_damaged hq hd hc hw (r.sec Sm.ds).2.2.2 (r.lk Sm.ds)) mwL_damaged mlL_52 ⟨rfl, rfl⟩ dL_same_507 rfl ?_
                  refine V.icmp_ne hC 625 dL_same_510 (by decide) (fun c_7 => ?_) (fun c_7 => ?_)
                  · exact absurd (f_dam Sm r) c_7 --done
                  · refine V.aload_n hC dL_same_513 rfl ?_
                    refine V.callV0i hC (c_X4_firstDamaged hG) mwX4_firstDamaged mlL_93 (hG.at 0 rfl) rfl rfl ⟨rfl, rfl⟩ dL_same_514 rfl ?_
                    refine V.iload hC dL_same_517 rfl ?_
                    refine V.icmp_ne hC 625 dL_same_519 (by decide) (fun c_8 => ?_) (fun c_8 => ?_)
                    · exact absurd (xFirst_eq Sm.ds) c_8 --done
                    · refine V.aload_n hC dL_same_522 rfl ?_
                      refine V.callV0i hC (c_X4_zoneStart hG) mwX4_zoneStart mlL_96 (hG.at 0 rfl) rfl rfl ⟨rfl, rfl⟩ dL_same_523 rfl ?_
                      refine V.aload_n hC dL_same_526 rfl ?_
                      refine V.iconst hC 2 dL_same_527 (by decide) ?_
                      refine V.ialdLN hC (2) hq (rfl) (by omega) dL_same_528 ?_
                      refine V.if_ge hC 537 dL_same_529 (by decide) (fun c_9 => ?_) (fun c_9 => ?_)
                      · refine V.aload_n hC dL_same_537 rfl ?_
                        refine V.callS1i hC (c_L_first hq) mwL_first mlL_16 ⟨rfl, rfl⟩ dL_same_538 rfl ?_
                        refine V.icmp_ne hC 625 dL_same_541 (by decide) (fun c_10 => ?_) (fun c_10 => ?_)
                        · exact absurd ((f_zone Sm r).trans (by first | rw [if_pos c_9] | rw [if_neg c_9])) c_10 --done
                        · exact V.sub (dk_sc rfl (dk_sc rfl (dk_sc rfl (dk_sc rfl (dk_sc rfl (dk_sc rfl (dk_sc rfl (dk_sc rfl (dk_sn))))))))) (loop_544 1  (by omega))
                      · refine V.bipush hC (-3) dL_same_532 (by decide) ?_
                        refine V.goto hC 541 dL_same_534 (by decide) ?_
                        refine V.icmp_ne hC 625 dL_same_541 (by decide) (fun c_10 => ?_) (fun c_10 => ?_)
                        · exact absurd ((f_zone Sm r).trans (by first | rw [if_pos c_9] | rw [if_neg c_9])) c_10 --done
                        · exact V.sub (dk_sc rfl (dk_sc rfl (dk_sc rfl (dk_sc rfl (dk_sc rfl (dk_sc rfl (dk_sc rfl (dk_sc rfl (dk_sn))))))))) (loop_544 1  (by omega))
  refine V.iload_n hC dL_same_316 rfl ?_
  refine V.bipush hC 60 dL_same_317 (by decide) ?_
  refine V.callS2i hC (c_L_low (show ¬ (60 : Int32) = 0 by decide)) mwL_low mlL_80 ⟨rfl, rfl⟩ dL_same_319 rfl ?_
  refine V.istore hC dL_same_322 rfl rfl ?_
  refine V.aload_n hC dL_same_324 rfl ?_
  refine V.iconst hC 0 dL_same_325 (by decide) ?_
  refine V.callV1i hC (c_X4_count hG) mwX4_count mlL_84 (hG.at 0 rfl) rfl rfl ⟨rfl, rfl⟩ dL_same_326 rfl ?_
  refine V.aload_n hC dL_same_329 rfl ?_
  refine V.iconst hC 0 dL_same_330 (by decide) ?_
  refine V.ialdLN hC (0) hq (rfl) (by omega) dL_same_331 ?_
  refine V.icmp_ne hC 625 dL_same_332 (by decide) (fun c_1 => ?_) (fun c_1 => ?_)
  · exact absurd (f_num Sm r (k := 0) (v := 0) (by omega) (by omega) (by omega) rfl) c_1 --done
  · refine V.aload_n hC dL_same_335 rfl ?_
    refine V.iconst hC 1 dL_same_336 (by decide) ?_
    refine V.callV1i hC (c_X4_count hG) mwX4_count mlL_84 (hG.at 0 rfl) rfl rfl ⟨rfl, rfl⟩ dL_same_337 rfl ?_
    refine V.aload_n hC dL_same_340 rfl ?_
    refine V.iconst hC 1 dL_same_341 (by decide) ?_
    refine V.ialdLN hC (1) hq (rfl) (by omega) dL_same_342 ?_
    refine V.icmp_ne hC 625 dL_same_343 (by decide) (fun c_2 => ?_) (fun c_2 => ?_)
    · exact absurd (f_num Sm r (k := 1) (v := 1) (by omega) (by omega) (by omega) rfl) c_2 --done
    · refine V.aload_n hC dL_same_346 rfl ?_
      refine V.iconst hC 2 dL_same_347 (by decide) ?_
      refine V.callV1i hC (c_X4_count hG) mwX4_count mlL_84 (hG.at 0 rfl) rfl rfl ⟨rfl, rfl⟩ dL_same_348 rfl ?_
      refine V.aload_n hC dL_same_351 rfl ?_
      refine V.iconst hC 2 dL_same_352 (by decide) ?_
      refine V.ialdLN hC (2) hq (rfl) (by omega) dL_same_353 ?_
      refine V.icmp_ne hC 625 dL_same_354 (by decide) (fun c_3 => ?_) (fun c_3 => ?_)
      · exact absurd (f_num Sm r (k := 2) (v := 2) (by omega) (by omega) (by omega) rfl) c_3 --done
      · refine V.aload_n hC dL_same_357 rfl ?_
        refine V.iconst hC 3 dL_same_358 (by decide) ?_
        refine V.callV1i hC (c_X4_count hG) mwX4_count mlL_84 (hG.at 0 rfl) rfl rfl ⟨rfl, rfl⟩ dL_same_359 rfl ?_
        refine V.aload_n hC dL_same_362 rfl ?_
        refine V.iconst hC 3 dL_same_363 (by decide) ?_
        refine V.ialdLN hC (3) hq (rfl) (by omega) dL_same_364 ?_
        refine V.icmp_ne hC 625 dL_same_365 (by decide) (fun c_4 => ?_) (fun c_4 => ?_)
        · exact absurd (f_num Sm r (k := 3) (v := 3) (by omega) (by omega) (by omega) rfl) c_4 --done
        · refine V.aload_n hC dL_same_368 rfl ?_
          refine V.iconst hC 4 dL_same_369 (by decide) ?_
          refine V.callV1i hC (c_X4_count hG) mwX4_count mlL_84 (hG.at 0 rfl) rfl rfl ⟨rfl, rfl⟩ dL_same_370 rfl ?_
          refine V.aload_n hC dL_same_373 rfl ?_
          refine V.iconst hC 4 dL_same_374 (by decide) ?_
          refine V.ialdLN hC (4) hq (rfl) (by omega) dL_same_375 ?_
          refine V.icmp_ne hC 625 dL_same_376 (by decide) (fun c_5 => ?_) (fun c_5 => ?_)
          · exact absurd (f_num Sm r (k := 4) (v := 4) (by omega) (by omega) (by omega) rfl) c_5 --done
          · refine V.aload_n hC dL_same_379 rfl ?_
            refine V.iconst hC 5 dL_same_380 (by decide) ?_
            refine V.callV1i hC (c_X4_count hG) mwX4_count mlL_84 (hG.at 0 rfl) rfl rfl ⟨rfl, rfl⟩ dL_same_381 rfl ?_
            refine V.aload_n hC dL_same_384 rfl ?_
            refine V.iconst hC 5 dL_same_385 (by decide) ?_
            refine V.ialdLN hC (5) hq (rfl) (by omega) dL_same_386 ?_
            refine V.icmp_ne hC 625 dL_same_387 (by decide) (fun c_6 => ?_) (fun c_6 => ?_)
            · exact absurd (f_num Sm r (k := 5) (v := 5) (by omega) (by omega) (by omega) rfl) c_6 --done
            · refine V.aload_n hC dL_same_390 rfl ?_
              refine V.bipush hC 6 dL_same_391 (by decide) ?_
              refine V.callV1i hC (c_X4_count hG) mwX4_count mlL_84 (hG.at 0 rfl) rfl rfl ⟨rfl, rfl⟩ dL_same_393 rfl ?_
              refine V.aload_n hC dL_same_396 rfl ?_
              refine V.bipush hC 6 dL_same_397 (by decide) ?_
              refine V.ialdLN hC (6) hq (rfl) (by omega) dL_same_399 ?_
              refine V.if_ne hC 407 dL_same_400 (by decide) (fun c_7 => ?_) (fun c_7 => ?_)
              · refine V.aload_n hC dL_same_407 rfl ?_
                refine V.callS1i hC (c_L_behind hq) mwL_behind mlL_34 ⟨rfl, rfl⟩ dL_same_408 rfl ?_
                refine V.aload_n hC dL_same_411 rfl ?_
                refine V.callS1i hC (c_L_first hq) mwL_first mlL_16 ⟨rfl, rfl⟩ dL_same_412 rfl ?_
                refine V.isub hC dL_same_415 ?_
                refine V.icmp_ne hC 625 dL_same_416 (by decide) (fun c_8 => ?_) (fun c_8 => ?_)
                · exact absurd ((f_c6 Sm r).trans (by first | rw [if_pos c_7] | rw [if_neg c_7])) c_8 --done
                · exact V.sub (dk_sc rfl (dk_sc rfl (dk_sc rfl (dk_sc rfl (dk_sc rfl (dk_sc rfl (dk_sc rfl (dk_sc rfl (dk_sc rfl (dk_sc rfl (dk_sn))))))))))) (loop_419 1  (by omega))
              · refine V.iconst hC 0 dL_same_403 (by decide) ?_
                refine V.goto hC 416 dL_same_404 (by decide) ?_
                refine V.icmp_ne hC 625 dL_same_416 (by decide) (fun c_8 => ?_) (fun c_8 => ?_)
                · exact absurd ((f_c6 Sm r).trans (by first | rw [if_pos c_7] | rw [if_neg c_7])) c_8 --done
                · exact V.sub (dk_sc rfl (dk_sc rfl (dk_sc rfl (dk_sc rfl (dk_sc rfl (dk_sc rfl (dk_sc rfl (dk_sc rfl (dk_sc rfl (dk_sc rfl (dk_sn))))))))))) (loop_419 1  (by omega))
set_option maxHeartbeats 2000000 in
theorem same_end {E : dkE} {G : dkG} {M N : dkM} {q d c w j : Nat} {x : Int32} (hC : dk_Cx E G cL_same 14 RL (some .boolean) 6 128) (hG : dk_cls G) (hq : lA G q 16) (hd : lA G d 20) (hc : lA G c 20) (hw : lA G w 20) (hj : lA G j 20) (Sm : Sim M N) (r : LR M q d c w j (N 112)) (hA : dk_Al E G) (hr : dk_rm E 8 152) (D : lD q d c w j) (h111 : 111 ≤ q ∧ 111 ≤ d ∧ 111 ≤ c ∧ 111 ≤ w ∧ 111 ≤ j) : V E G 14 (some (.int 1), (xIfFail (xIfFail M (lLow x 60)).2 0).2) M 577 [(0, some (.ref (G.1 + 0))), (1, some (.int x)), (2, some (.ref (G.1 + q))), (3, some (.ref (G.1 + d))), (4, some (.ref (G.1 + c))), (5, some (.ref (G.1 + w))), (6, some (.ref (G.1 + j))), (10, some (.int (lLow x 60)))] [] := by
  obtain ⟨b1, b2⟩ := lLow_b (v := x) (n := 60) (by decide)
  rw [show (60 : Int32).toInt = 60 from by decide] at b2
  generalize lLow x 60 = st at *
  have hr1 : dk_rm E 4 76 := hr.mono (by omega) (by omega)
  have hr2 : dk_rm (dk_more E 4 76) 4 76 := dk_rm.more (c := 4) (s := 76) hr
  have row : ∀ (X : dkM) (n : Int32) a, 111 ≤ a → (xIfFail X n).2 a = X a := fun X n a ha => ifFail_ne X n (by omega)
  have keepS : ∀ (X : dkM) (n : Int32), Sim X N → Sim (xIfFail X n).2 N := fun X n hX => hX.keep (fun a h1 h2 => ifFail_ne X n h2)
  have keepL : ∀ (X : dkM) (n : Int32), LR X q d c w j (N 112) → LR (xIfFail X n).2 q d c w j (N 112) := fun X n hX => hX.keep (row X n q h111.1) (row X n d h111.2.1) (row X n c h111.2.2.1) (row X n w h111.2.2.2.1) (row X n j h111.2.2.2.2)
  have Sm1 := keepS M st Sm
  have r1 := keepL M st r
  refine V.aload_n hC dL_same_577 rfl ?_
  refine V.iload hC dL_same_578 rfl ?_
  refine V.callV1i hC (c_X4_ifFailed hG Sm.x) mwX4_ifFailed mlL_106 (hG.at 0 rfl) rfl rfl ⟨rfl, rfl⟩ dL_same_580 rfl ?_
  refine V.iload hC dL_same_583 rfl ?_
  refine V.iconst hC 1 dL_same_585 (by decide) ?_
  refine V.aload_n hC dL_same_586 rfl ?_
  refine V.aload_n hC dL_same_587 rfl ?_
  refine V.aload hC dL_same_588 rfl ?_
  refine V.aload hC dL_same_590 rfl ?_
  refine V.aload hC dL_same_592 rfl ?_
  refine V.callSA hC hA (c_L_then (b := true) hG hq hd hc hw hj D Sm1.ds r1) mwL_then mlL_102 (by omega) hr1 ⟨rfl, rfl⟩ dL_same_594 rfl rfl rfl ?_
  obtain ⟨hC1, hA1⟩ := dk_Cx.more hC hA hr1
  refine V.icmp_ne_f hC1 625 dL_same_597 (by decide) (f_ifFail Sm.ds ⟨b1, by omega⟩) ?_
  generalize (xIfFail M st).2 = M1 at *
  have Sm2 := keepS M1 0 Sm1
  have r2 := keepL M1 0 r1
  refine V.aload_n hC1 dL_same_600 rfl ?_
  refine V.iconst hC1 0 dL_same_601 (by decide) ?_
  refine V.callV1i hC1 (c_X4_ifFailed hG Sm1.x) mwX4_ifFailed mlL_106 (hG.at 0 rfl) rfl rfl ⟨rfl, rfl⟩ dL_same_602 rfl ?_
  refine V.iconst hC1 0 dL_same_605 (by decide) ?_
  refine V.iconst hC1 1 dL_same_606 (by decide) ?_
  refine V.aload_n hC1 dL_same_607 rfl ?_
  refine V.aload_n hC1 dL_same_608 rfl ?_
  refine V.aload hC1 dL_same_609 rfl ?_
  refine V.aload hC1 dL_same_611 rfl ?_
  refine V.aload hC1 dL_same_613 rfl ?_
  refine V.callSA hC1 hA1 (c_L_then (b := true) hG hq hd hc hw hj D Sm2.ds r2) mwL_then mlL_102 (by omega) hr2 ⟨rfl, rfl⟩ dL_same_615 rfl rfl rfl ?_
  obtain ⟨hC2, hA2⟩ := dk_Cx.more hC1 hA1 hr2
  refine V.icmp_ne_f hC2 625 dL_same_618 (by decide) (f_ifFail Sm1.ds ⟨by decide, by decide⟩) ?_
  refine V.iconst hC2 1 dL_same_621 (by decide) ?_
  refine V.goto hC2 626 dL_same_622 (by decide) ?_
  exact V.zret hC2 rfl (by decide) dL_same_626
set_option maxHeartbeats 2000000 in
theorem c_L_same {l : Launch} {G : dkG} {M N : dkM} {q d c w j : Nat} {x : Int32} (hG : dk_cls G) (hq : lA G q 16) (hd : lA G d 20) (hc : lA G c 20) (hw : lA G w 20) (hj : lA G j 20) (D : lD q d c w j) (h111 : 111 ≤ q ∧ 111 ≤ d ∧ 111 ≤ c ∧ 111 ≤ w ∧ 111 ≤ j) (Sm : Sim M N) (r : LR M q d c w j (N 112)) : dk_ConA l yL_same cL_same 14 (some .boolean) 6 128 12 228 G [.ref (G.1 + 0), .int x, .ref (G.1 + q), .ref (G.1 + d), .ref (G.1 + c), .ref (G.1 + w), .ref (G.1 + j)] M (some (.int 1), (xIfFail (xIfFail M (lLow x 60)).2 0).2) := by
  refine dk_ConA.of mwL_same.1 (Nat.le_of_ble_eq_true rfl) (fun E hE hC hA hrm => ?_)
  subst hE
  have hr1 : dk_rm E 4 76 := hrm.mono (by omega) (by omega)
  have hr2 : dk_rm (dk_more E 4 76) 8 152 := dk_rm.more (c := 4) (s := 76) hrm
  obtain ⟨hC1, hA1⟩ := dk_Cx.more hC hA hr1
  have e0 := r.k (k := 0) (by decide) (by decide)
  have hs := Sm.ds.sec
  refine V.sub ?_ (same_keys (x := x) hC hG hq hd hc hw hj Sm r ?_)
  · exact dk_sc rfl (dk_sc rfl (dk_sc rfl (dk_sc rfl (dk_sc rfl (dk_sc rfl (dk_sc rfl (dk_sn)))))))
  refine V.aload_n hC dL_same_95 rfl ?_
  refine V.iconst hC 0 dL_same_96 (by decide) ?_
  refine V.ialdLN hC (0) hq rfl (by omega) dL_same_97 ?_
  refine V.iconst hC 1 dL_same_98 (by decide) ?_
  refine V.isub hC dL_same_99 ?_
  refine V.istore hC dL_same_100 rfl rfl ?_
  rw [e0, hs.2.2.2]
  have h3 := same_loop (x := x) (ky := nI (lKyN M q 5)) hC hG hq hd hc hw hj Sm r (same_tail hC hG hq hd hc hw hj Sm r hA hr1 D (same_end hC1 hG hq hd hc hw hj Sm r hA1 hr2 D h111)) (ix (N 112 0)) (Nat.le_refl _)
  rw [Nat.sub_self] at h3
  refine V.sub ?_ h3
  exact dk_sc rfl (dk_sc rfl (dk_sc rfl (dk_sc rfl (dk_sc rfl (dk_sc rfl (dk_sc rfl (dk_sc rfl (dk_sc rfl (dk_sc rfl (dk_sc rfl (dk_sn)))))))))))
