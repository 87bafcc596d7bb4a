/-! the acts, one by one: failing, the zone's size, the journal -/
theorem chg_eq {N Mx : dkM} {e : Nat} (h : DS Mx e (N 112)) : mFailM N 112 0 = N 112 0 ∧ mChgN (mFailM N) (ix (mFailM N 112 0)) = cnt (fun k => mVal N k != mPlain (mFailM N) k) (ix (N 112 0)) := by
  have hs := h.sec
  have hRv : mVals (mRec N) (ix (mRec N 112 0)) 112 = N 112 := by rw [mVals_ne _ _ (by decide), mRec_st]
  have e0 : mFailM N 112 0 = N 112 0 := by
    unfold mFailM mFails
    rw [put_k (by decide)]
    unfold mFails1
    rw [mC_k (by decide) (by decide) (by decide), mFlL_st _ (by omega), if_neg (by omega), if_neg (by omega), hRv]
  refine ⟨e0, ?_⟩
  rw [e0]
  unfold mChgN
  refine cnt_congr fun k hk => ?_
  have e1 : mFailM N 117 k = mVal N k := by
    unfold mFailM
    rw [mFails_row _ (by decide), mRec_st, mVals_117 _ _ _ hk]
    exact mVal_cg (mRec_st N) k
  have e2 : mFailM N 112 (239 + k) = -6 := by
    unfold mFailM mFails
    rw [put_k (by omega)]
    unfold mFails1
    rw [mC_k (by omega) (by omega) (by omega), mFlL_st _ (by omega), if_neg (by omega), if_pos (by omega)]
  have e3 : mVal (mFailM N) k = mPlain (mFailM N) k := by unfold mVal; rw [if_pos e2]
  rw [e1, e3]
def fcn (N : dkM) (i : Nat) : Nat := cnt (fun k => mVal N k != mPlain (mFailM N) k) i
theorem fcn_t {N : dkM} {i : Nat} (h : ¬ mVal N i = mPlain (mFailM N) i) : fcn N (i + 1) = fcn N i + 1 := by simp [fcn, cnt, h]
theorem fcn_f {N : dkM} {i : Nat} (h : mVal N i = mPlain (mFailM N) i) : fcn N (i + 1) = fcn N i := by simp [fcn, cnt, h]
theorem dk_more2 {E : dkE} : dk_more (dk_more E 1 20) 3 56 = dk_more E 4 76 := by
  unfold dk_more
  simp only [Nat.add_assoc]
theorem z4 (kd : Int32) (N : dkM) : (kd = 16 ∧ mOpen N = false) ∨ (kd = 16 ∧ mOpen N = true) ∨ (¬ kd = 16 ∧ mOpen N = false) ∨ (¬ kd = 16 ∧ mOpen N = true) := by
  by_cases h : kd = 16
  · cases h2 : mOpen N <;> simp [h]
  · cases h2 : mOpen N <;> simp [h]
set_option maxHeartbeats 2000000 in
set_option maxRecDepth 20000 in
theorem law_fail_in {E : dkE} {G : dkG} {T : dkT} {M N : dkM} {q d c w j b : Nat} {tn x y kd : Int32} {sc : Nat} {o : Nat} (hC : dk_Cx E G cL_law 18 RL (some .boolean) 9 322) (hG : dk_cls G) (hq : lA G q 16) (hd : lA G d 20) (hc : lA G c 20) (hw : lA G w 20) (hj : lA G j 20) (D : lD q d c w j) (h111 : 111 ≤ q ∧ 111 ≤ d ∧ 111 ≤ c ∧ 111 ≤ w ∧ 111 ≤ j) (Sm : Sim M N) (r : LR M q d c w j (N 112)) (hsc : sc < ix (N 112 0)) (ho : lA G o 20) (go : 111 ≤ o) (oq : o ≠ q ∧ o ≠ d ∧ o ≠ c ∧ o ≠ w ∧ o ≠ j) (K : ∀ (M' N' : dkM), Sim M' N' → LR M' q d c w j (N' 112) → V E G 18 T M' 1387 [(0, some (.ref b)), (1, some (.ref (G.1 + 0))), (2, some (.ref (G.1 + q))), (3, some (.ref (G.1 + d))), (4, some (.ref (G.1 + c))), (5, some (.ref (G.1 + w))), (6, some (.ref (G.1 + j))), (7, some (.int tn)), (9, some (.int y))] []) : V E G 18 T M 1175 [(0, some (.ref b)), (1, some (.ref (G.1 + 0))), (2, some (.ref (G.1 + q))), (3, some (.ref (G.1 + d))), (4, some (.ref (G.1 + c))), (5, some (.ref (G.1 + w))), (6, some (.ref (G.1 + j))), (7, some (.int tn)), (9, some (.int y)), (13, some (.ref (G.1 + o)))] [] := by
  obtain ⟨⟨d1, d2, d3, d4⟩, ⟨d5, d6, d7⟩, ⟨d8, d9⟩, d10⟩ := id D
  obtain ⟨g1, g2, g3, g4, g5⟩ := h111
  have hsec := Sm.ds.sec
  have hsec2 := r.sec Sm.ds
  have Mo : ∀ X : dkM, (∀ a, 111 ≤ a → X a = M a) → LR X q d c w j (N 112) := fun X h => r.keep (h q g1) (h d g2) (h c g3) (h w g4) (h j g5)
  have hch := chg_eq Sm.ds
  have hRv0 : mVals (mRec N) (ix (mRec N 112 0)) 112 = N 112 := by rw [mVals_ne _ _ (by decide), mRec_st]
  have hDF : DS (dFail M 1) 1 (mFailM N 112) := DS.failM (Mm := mVals (mRec N) (ix (mRec N 112 0))) (by rw [hRv0]; exact Sm.ds)
  have loop_1274 : ∀ (n : Nat) (M2 : dkM), (∀ a, a ≠ o → a ≠ q → a ≠ d → a ≠ c → a ≠ j → M2 a = M a) → (LR M2 q d c w j (mFailM N 112)) → (0 < n) →  V E G 18 T (M2) 1274 [(0, some (.ref b)), (1, some (.ref (G.1 + 0))), (2, some (.ref (G.1 + q))), (3, some (.ref (G.1 + d))), (4, some (.ref (G.1 + c))), (5, some (.ref (G.1 + w))), (6, some (.ref (G.1 + j))), (7, some (.int tn)), (9, some (.int y)), (14, some (.int (nI (fcn N (ix (N 112 0))))))] [] := by
    intro n
    induction n with
    | zero => intro M2 hM2 hL2 hn; exact absurd hn (by omega)
    | succ n ih_1274 =>
      intro M2 hM2 hL2 hn
      have Sm2 : Sim M2 N := Sm.keep (fun a y1 y2 => hM2 a (by omega) (by omega) (by omega) (by omega) (by omega))
      refine V.aload_n hC dL_law_1274 rfl ?_
      refine V.callV0i hC (c_X4_fail hG Sm2.x) mwX4_fail mlL_139 (hG.at 0 rfl) rfl rfl ⟨rfl, rfl⟩ dL_law_1275 rfl ?_
      obtain ⟨a1, a2, a3⟩ := op_ok Sm2 Sm2.draft.ds.fail
      generalize xU (nI (lpN (hDraft M2) 1 (ix (hDraft M2 1 5))), dFail (hDraft M2) 1) = P at *
      refine V.iload hC dL_law_1278 rfl ?_
      have a9 : P.1 = nI (fcn N (ix (N 112 0))) := a1.trans (congrArg nI hch.2)
      · refine V.icmp_eq_t hC 1285 dL_law_1280 (by decide) (a9) ?_
        have hS : Sim P.2 (mFailM N) := a2
        have hL : LR P.2 q d c w j (mFailM N 112) := hL2.keep (a3 q g1) (a3 d g2) (a3 c g3) (a3 w g4) (a3 j g5)
        refine V.goto hC 1387 dL_law_1285 (by decide) ?_
        exact V.sub (dk_sc rfl (dk_sc rfl (dk_sc rfl (dk_sc rfl (dk_sc rfl (dk_sc rfl (dk_sc rfl (dk_sc rfl (dk_sc rfl (dk_sn)))))))))) (K _ _ hS hL)
  have loop_1235 : ∀ (n : Nat) (i : Nat) (M2 : dkM), (∀ a, a ≠ o → a ≠ q → a ≠ d → a ≠ c → a ≠ j → M2 a = M a) → (LR M2 q d c w j (mFailM N 112)) → (∀ b9, b9 < ix (N 112 0) → M2 o b9 = mVal N b9) → (i ≤ ix (N 112 0)) → (ix (N 112 0) < i + n) →  V E G 18 T (M2) 1235 [(0, some (.ref b)), (1, some (.ref (G.1 + 0))), (2, some (.ref (G.1 + q))), (3, some (.ref (G.1 + d))), (4, some (.ref (G.1 + c))), (5, some (.ref (G.1 + w))), (6, some (.ref (G.1 + j))), (7, some (.int tn)), (9, some (.int y)), (13, some (.ref (G.1 + o))), (14, some (.int (nI (fcn N i)))), (15, some (.int (nI i)))] [] := by
    intro n
    induction n with
    | zero => intro i M2 hM2 hL2 hb hi hn; exact absurd hn (by omega)
    | succ n ih_1235 =>
      intro i M2 hM2 hL2 hb hi hn
      have q0 : M2 q 0 = N 112 0 := by rw [hL2.k (k := 0) (by decide) (by decide)]; exact hch.1
      have hkb := lKey_b (hL2.lk hDF) (nI i)
      refine V.iload hC dL_law_1235 rfl ?_
      refine V.aload_n hC dL_law_1237 rfl ?_
      refine V.iconst hC 0 dL_law_1238 (by decide) ?_
      refine V.ialdLN hC (0) hq (rfl) (by omega) dL_law_1239 ?_
      refine V.icmp_ge hC 1274 dL_law_1240 (by decide) (fun c_1 => ?_) (fun c_1 => ?_)
      · have hke : i = ix (N 112 0) := by have h := c_1; rw [q0] at h; have := (dk_gek (k := i) (by omega)).mp h; omega
        subst hke
        exact V.sub (dk_sc rfl (dk_sc rfl (dk_sc rfl (dk_sc rfl (dk_sc rfl (dk_sc rfl (dk_sc rfl (dk_sc rfl (dk_sc rfl (dk_sc rfl (dk_sn))))))))))) (loop_1274 1 M2 hM2 hL2 (by omega))
      · have hkl : i < ix (N 112 0) := by have h := c_1; rw [q0] at h; have := mt (dk_gek (k := i) (by omega)).mpr h; omega
        have hk20 : i < 20 := r.sn Sm.ds hkl
        refine V.iload hC dL_law_1243 rfl ?_
        refine V.aload hC dL_law_1245 rfl ?_
        refine V.iload hC dL_law_1247 rfl ?_
        refine V.ialdLN hC (i) ho (rfl) (by omega) dL_law_1249 ?_
        refine V.iload hC dL_law_1250 rfl ?_
        refine V.aload_n hC dL_law_1252 rfl ?_
        refine V.aload_n hC dL_law_1253 rfl ?_
        refine V.callS3i hC (c_L_plain hq hd hk20 hkb) mwL_plain mlL_37 ⟨rfl, rfl⟩ dL_law_1254 rfl ?_
        refine V.icmp_ne hC 1264 dL_law_1257 (by decide) (fun c_2 => ?_) (fun c_2 => ?_)
        · refine V.iconst hC 1 dL_law_1264 (by decide) ?_
          refine V.iadd hC dL_law_1265 ?_
          refine V.top (x' := .int (nI (fcn N (i + 1)))) (by first | (rw [fcn_t (fun z9 => c_2 (by rw [hb i hkl, hL2.plain hDF (by rw [hch.1]; exact hkl)]; exact z9)), nI_1]) | (rw [fcn_f (by rw [← hb i hkl, ← hL2.plain hDF (by rw [hch.1]; exact hkl)]; exact c_2), p0])) ?_
          refine V.istore hC dL_law_1266 rfl rfl ?_
          refine V.iinc hC dL_law_1268 rfl (dk_incN _) rfl ?_
          refine V.goto hC 1235 dL_law_1271 (by decide) ?_
          exact V.sub (dk_sc rfl (dk_sc rfl (dk_sc rfl (dk_sc rfl (dk_sc rfl (dk_sc rfl (dk_sc rfl (dk_sc rfl (dk_sc rfl (dk_sc rfl (dk_sc rfl (dk_sc rfl (dk_sn))))))))))))) (ih_1235 (i + 1) M2 hM2 hL2 hb (by omega) (by omega))
        · refine V.iconst hC 0 dL_law_1260 (by decide) ?_
          refine V.goto hC 1265 dL_law_1261 (by decide) ?_
          refine V.iadd hC dL_law_1265 ?_
          refine V.top (x' := .int (nI (fcn N (i + 1)))) (by first | (rw [fcn_t (fun z9 => c_2 (by rw [hb i hkl, hL2.plain hDF (by rw [hch.1]; exact hkl)]; exact z9)), nI_1]) | (rw [fcn_f (by rw [← hb i hkl, ← hL2.plain hDF (by rw [hch.1]; exact hkl)]; exact c_2), p0])) ?_
          refine V.istore hC dL_law_1266 rfl rfl ?_
          refine V.iinc hC dL_law_1268 rfl (dk_incN _) rfl ?_
          refine V.goto hC 1235 dL_law_1271 (by decide) ?_
          exact V.sub (dk_sc rfl (dk_sc rfl (dk_sc rfl (dk_sc rfl (dk_sc rfl (dk_sc rfl (dk_sc rfl (dk_sc rfl (dk_sc rfl (dk_sc rfl (dk_sc rfl (dk_sc rfl (dk_sn))))))))))))) (ih_1235 (i + 1) M2 hM2 hL2 hb (by omega) (by omega))
  have loop_1178 : ∀ (n : Nat) (k : Nat) (M1 : dkM), (∀ a, a ≠ o → M1 a = M a) → (∀ b9, b9 < k → M1 o b9 = mVal N b9) → (k ≤ ix (N 112 0)) → (ix (N 112 0) < k + n) →  V E G 18 T (M1) 1178 [(0, some (.ref b)), (1, some (.ref (G.1 + 0))), (2, some (.ref (G.1 + q))), (3, some (.ref (G.1 + d))), (4, some (.ref (G.1 + c))), (5, some (.ref (G.1 + w))), (6, some (.ref (G.1 + j))), (7, some (.int tn)), (9, some (.int y)), (13, some (.ref (G.1 + o))), (14, some (.int (nI k)))] [] := by
    intro n
    induction n with
    | zero => intro k M1 hM hb hk hn; exact absurd hn (by omega)
    | succ n ih_1178 =>
      intro k M1 hM hb hk hn
      have r1 : LR M1 q d c w j (N 112) := r.keep (hM q oq.1.symm) (hM d oq.2.1.symm) (hM c oq.2.2.1.symm) (hM w oq.2.2.2.1.symm) (hM j oq.2.2.2.2.symm)
      have q0 : M1 q 0 = N 112 0 := r1.k (k := 0) (by decide) (by decide)
      have hkb := lKey_b (r1.lk Sm.ds) (nI k)
      refine V.iload hC dL_law_1178 rfl ?_
      refine V.aload_n hC dL_law_1180 rfl ?_
      refine V.iconst hC 0 dL_law_1181 (by decide) ?_
      refine V.ialdLN hC (0) hq (rfl) (by omega) dL_law_1182 ?_
      refine V.icmp_ge hC 1220 dL_law_1183 (by decide) (fun c_1 => ?_) (fun c_1 => ?_)
      · have hke : k = ix (N 112 0) := by have h := c_1; rw [q0] at h; have := (dk_gek (k := k) (by omega)).mp h; omega
        subst hke
        have hRv : mVals (mRec N) (ix (mRec N 112 0)) 112 = N 112 := by rw [mVals_ne _ _ (by decide), mRec_st]
        have hL2 : LR (lFail M1 q d c j) q d c w j (mFailM N 112) := LR.fails D (N := mVals (mRec N) (ix (mRec N 112 0))) (by rw [hRv]; exact Sm.ds) (by rw [hRv]; exact r1)
        have hM2 : ∀ a, a ≠ o → a ≠ q → a ≠ d → a ≠ c → a ≠ j → lFail M1 q d c j a = M a := fun a y0 y1 y2 y3 y4 => by rw [lFail_ne _ y1 y2 y3 y4]; exact hM a y0
        have hb2 : ∀ b9, b9 < ix (N 112 0) → lFail M1 q d c j o b9 = mVal N b9 := fun b9 hb9 => by rw [lFail_ne _ oq.1 oq.2.1 oq.2.2.1 oq.2.2.2.2]; exact hb b9 hb9
        refine V.aload_n hC dL_law_1220 rfl ?_
        refine V.aload_n hC dL_law_1221 rfl ?_
        refine V.aload hC dL_law_1222 rfl ?_
        refine V.aload hC dL_law_1224 rfl ?_
        refine V.callS4v hC (c_L_fail hq hd hc hj (r1.sec Sm.ds).2.2.2 d1 d2) mwL_fail mlL_48 ⟨rfl, rfl⟩ dL_law_1226 rfl ?_
        refine V.iconst hC 0 dL_law_1229 (by decide) ?_
        refine V.istore hC dL_law_1230 rfl rfl ?_
        refine V.iconst hC 0 dL_law_1232 (by decide) ?_
        refine V.istore hC dL_law_1233 rfl rfl ?_
        exact V.sub (dk_sc rfl (dk_sc rfl (dk_sc rfl (dk_sc rfl (dk_sc rfl (dk_sc rfl (dk_sc rfl (dk_sc rfl (dk_sc rfl (dk_sc rfl (dk_sc rfl (dk_sc rfl (dk_sn))))))))))))) (loop_1235 (ix (N 112 0) + 1) 0 _ hM2 hL2 hb2 (Nat.zero_le _) (by omega))
      · have hkl : k < ix (N 112 0) := by have h := c_1; rw [q0] at h; have := mt (dk_gek (k := k) (by omega)).mpr h; omega
        have hk20 : k < 20 := r.sn Sm.ds hkl
        refine V.aload hC dL_law_1186 rfl ?_
        refine V.iload hC dL_law_1188 rfl ?_
        refine V.aload hC dL_law_1190 rfl ?_
        refine V.iload hC dL_law_1192 rfl ?_
        refine V.ialdLN hC (k) hc (rfl) (by omega) dL_law_1194 ?_
        refine V.if_ge hC 1208 dL_law_1195 (by decide) (fun c_2 => ?_) (fun c_2 => ?_)
        · refine V.aload hC dL_law_1208 rfl ?_
          refine V.iload hC dL_law_1210 rfl ?_
          refine V.ialdLN hC (k) hc (rfl) (by omega) dL_law_1212 ?_
          refine V.top (x' := .int (mVal N k)) (by rw [← r1.val Sm.ds hkl]; unfold lVal; first | rw [if_pos c_2] | rw [if_neg c_2]) ?_
          refine V.iastLN hC (k) ho (rfl) (by omega) dL_law_1213 ?_
          refine V.iinc hC dL_law_1214 rfl (dk_incN _) rfl ?_
          refine V.goto hC 1178 dL_law_1217 (by decide) ?_
          exact V.sub (dk_sc rfl (dk_sc rfl (dk_sc rfl (dk_sc rfl (dk_sc rfl (dk_sc rfl (dk_sc rfl (dk_sc rfl (dk_sc rfl (dk_sc rfl (dk_sc rfl (dk_sn)))))))))))) (ih_1178 (k + 1) (dk_put M1 o k (mVal N k)) (fun a y1 => by rw [dk_put_ne y1]; exact hM a y1) (fun b9 hb9 => by
    by_cases yb : b9 = k
    · rw [yb, put_same]
    · rw [put_k yb]; exact hb b9 (by omega)) (by omega) (by omega))
        · refine V.iload hC dL_law_1198 rfl ?_
          refine V.aload_n hC dL_law_1200 rfl ?_
          refine V.aload_n hC dL_law_1201 rfl ?_
          refine V.callS3i hC (c_L_plain hq hd hk20 hkb) mwL_plain mlL_37 ⟨rfl, rfl⟩ dL_law_1202 rfl ?_
          refine V.goto hC 1213 dL_law_1205 (by decide) ?_
          refine V.top (x' := .int (mVal N k)) (by rw [← r1.val Sm.ds hkl]; unfold lVal; first | rw [if_pos c_2] | rw [if_neg c_2]) ?_
          refine V.iastLN hC (k) ho (rfl) (by omega) dL_law_1213 ?_
          refine V.iinc hC dL_law_1214 rfl (dk_incN _) rfl ?_
          refine V.goto hC 1178 dL_law_1217 (by decide) ?_
          exact V.sub (dk_sc rfl (dk_sc rfl (dk_sc rfl (dk_sc rfl (dk_sc rfl (dk_sc rfl (dk_sc rfl (dk_sc rfl (dk_sc rfl (dk_sc rfl (dk_sc rfl (dk_sn)))))))))))) (ih_1178 (k + 1) (dk_put M1 o k (mVal N k)) (fun a y1 => by rw [dk_put_ne y1]; exact hM a y1) (fun b9 hb9 => by
    by_cases yb : b9 = k
    · rw [yb, put_same]
    · rw [put_k yb]; exact hb b9 (by omega)) (by omega) (by omega))
  refine V.iconst hC 0 dL_law_1175 (by decide) ?_
  refine V.istore hC dL_law_1176 rfl rfl ?_
  exact V.sub (dk_sc rfl (dk_sc rfl (dk_sc rfl (dk_sc rfl (dk_sc rfl (dk_sc rfl (dk_sc rfl (dk_sc rfl (dk_sc rfl (dk_sc rfl (dk_sc rfl (dk_sn)))))))))))) (loop_1178 (ix (N 112 0) + 1) 0 M (fun _ _ => rfl) (fun _ h => absurd h (Nat.not_lt_zero _)) (Nat.zero_le _) (by omega))
set_option maxHeartbeats 2000000 in
theorem law_fail8 {E : dkE} {G : dkG} {T : dkT} {M N : dkM} {q d c w j b : Nat} {tn x y kd : Int32} {sc : Nat} (hC : dk_Cx E G cL_law 18 RL (some .boolean) 9 322) (hA : dk_Al E G) (hr : dk_rm E 4 76) (hG : dk_cls G) (hq : lA G q 16) (hd : lA G d 20) (hc : lA G c 20) (hw : lA G w 20) (hj : lA G j 20) (D : lD q d c w j) (h111 : 111 ≤ q ∧ 111 ≤ d ∧ 111 ≤ c ∧ 111 ≤ w ∧ 111 ≤ j) (Sm : Sim M N) (r : LR M q d c w j (N 112)) (hsc : sc < ix (N 112 0)) (K : ∀ (M' N' : dkM), Sim M' N' → LR M' q d c w j (N' 112) → V (dk_more E 4 76) G 18 T M' 1387 [(0, some (.ref b)), (1, some (.ref (G.1 + 0))), (2, some (.ref (G.1 + q))), (3, some (.ref (G.1 + d))), (4, some (.ref (G.1 + c))), (5, some (.ref (G.1 + w))), (6, some (.ref (G.1 + j))), (7, some (.int tn)), (9, some (.int y))] []) : V E G 18 T M 1169 [(0, some (.ref b)), (1, some (.ref (G.1 + 0))), (2, some (.ref (G.1 + q))), (3, some (.ref (G.1 + d))), (4, some (.ref (G.1 + c))), (5, some (.ref (G.1 + w))), (6, some (.ref (G.1 + j))), (7, some (.int tn)), (8, some (.int x)), (9, some (.int y)), (10, some (.int kd)), (11, some (.int (nI sc))), (12, some (.int (bI (mOpen N))))] [] := by
  obtain ⟨⟨d1, d2, d3, d4⟩, ⟨d5, d6, d7⟩, ⟨d8, d9⟩, d10⟩ := id D
  have hr1 : dk_rm E 1 20 := hr.mono (by omega) (by omega)
  refine V.bipush hC 20 dL_law_1169 (by decide) ?_
  refine V.newiL hC hG (N := 20) (by decide) (by decide) (by decide) hr1 dL_law_1171 (fun o p1 n1 ho => ?_)
  obtain ⟨hC1, hA1⟩ := dk_Cx.new (N := 20) hC hA n1 hr1
  have nS : ∀ {a n : Nat}, lA G a n → o ≠ a := fun ha z => n1 (by rw [z]; exact ha.2.1)
  have oq : o ≠ q ∧ o ≠ d ∧ o ≠ c ∧ o ≠ w ∧ o ≠ j := ⟨nS hq, nS hd, nS hc, nS hw, nS hj⟩
  have eM : ∀ a, a ≠ o → dk_new M o a = M a := fun a ha => by unfold dk_new; rw [if_neg ha]
  refine V.astore hC1 dL_law_1173 rfl rfl ?_
  refine V.sub ?_ (law_fail_in (x := x) (y := y) (kd := kd) (tn := tn) (b := b) hC1 (fun a ha => Or.inl (hG a ha)) (hq.add n1) (hd.add n1) (hc.add n1) (hw.add n1) (hj.add n1) D h111 (Sm.keep (fun a y1 y2 => eM a (by omega))) (r.keep (eM q oq.1.symm) (eM d oq.2.1.symm) (eM c oq.2.2.1.symm) (eM w oq.2.2.2.1.symm) (eM j oq.2.2.2.2.symm)) hsc ho p1 oq (fun M' N' hS hL => V.back n1 (M := M') (fun _ _ => rfl) (V.more (k := 3) (n := 56) (by rw [dk_more2]; exact K M' N' hS hL))))
  exact dk_sc rfl (dk_sc rfl (dk_sc rfl (dk_sc rfl (dk_sc rfl (dk_sc rfl (dk_sc rfl (dk_sc rfl (dk_sc rfl (dk_sc rfl (dk_sn))))))))))
set_option maxHeartbeats 2000000 in
set_option maxRecDepth 20000 in
theorem law_num {E : dkE} {G : dkG} {T : dkT} {M N : dkM} {q d c w j b : Nat} {tn x y kd : Int32} {sc : Nat} (hC : dk_Cx E G cL_law 18 RL (some .boolean) 9 322) (hA : dk_Al E G) (hr : dk_rm E 4 76) (hG : dk_cls G) (hq : lA G q 16) (hd : lA G d 20) (hc : lA G c 20) (hw : lA G w 20) (hj : lA G j 20) (D : lD q d c w j) (h111 : 111 ≤ q ∧ 111 ≤ d ∧ 111 ≤ c ∧ 111 ≤ w ∧ 111 ≤ j) (Sm : Sim M N) (r : LR M q d c w j (N 112)) (hsc : sc < ix (N 112 0))  (K : ∀ (M' N' : dkM), Sim M' N' → LR M' q d c w j (N' 112) → V (dk_more E 4 76) G 18 T M' 1387 [(0, some (.ref b)), (1, some (.ref (G.1 + 0))), (2, some (.ref (G.1 + q))), (3, some (.ref (G.1 + d))), (4, some (.ref (G.1 + c))), (5, some (.ref (G.1 + w))), (6, some (.ref (G.1 + j))), (7, some (.int tn)), (9, some (.int y))] [])  : V E G 18 T M 1288 [(0, some (.ref b)), (1, some (.ref (G.1 + 0))), (2, some (.ref (G.1 + q))), (3, some (.ref (G.1 + d))), (4, some (.ref (G.1 + c))), (5, some (.ref (G.1 + w))), (6, some (.ref (G.1 + j))), (7, some (.int tn)), (8, some (.int x)), (9, some (.int y)), (10, some (.int kd)), (11, some (.int (nI sc))), (12, some (.int (bI (mOpen N))))] [] := by
  obtain ⟨⟨d1, d2, d3, d4⟩, ⟨d5, d6, d7⟩, ⟨d8, d9⟩, d10⟩ := id D
  obtain ⟨g1, g2, g3, g4, g5⟩ := h111
  have hsec := Sm.ds.sec
  have hsec2 := r.sec Sm.ds
  have Mo : ∀ X : dkM, (∀ a, 111 ≤ a → X a = M a) → LR X q d c w j (N 112) := fun X h => r.keep (h q g1) (h d g2) (h c g3) (h w g4) (h j g5)
  rcases z4 kd N with ⟨h16, ho⟩ | ⟨h16, ho⟩ | ⟨h16, ho⟩ | ⟨h16, ho⟩
  · refine V.iload hC dL_law_1288 rfl ?_
    refine V.bipush hC 16 dL_law_1290 (by decide) ?_
    refine V.icmp_ne_f hC 1300 dL_law_1292 (by decide) (h16) ?_
    refine V.bipush hC 7 dL_law_1295 (by decide) ?_
    refine V.goto hC 1302 dL_law_1297 (by decide) ?_
    refine V.istore hC dL_law_1302 rfl rfl ?_
    refine V.iload hC dL_law_1304 rfl ?_
    refine V.bipush hC 16 dL_law_1306 (by decide) ?_
    refine V.icmp_ne_f hC 1323 dL_law_1308 (by decide) (h16) ?_
    refine V.iconst hC 1 dL_law_1311 (by decide) ?_
    refine V.iload hC dL_law_1312 rfl ?_
    refine V.bipush hC 8 dL_law_1314 (by decide) ?_
    refine V.callS2i hC (c_L_low (show ¬ (8 : Int32) = 0 by decide)) mwL_low mlL_80 ⟨rfl, rfl⟩ dL_law_1316 rfl ?_
    refine V.iadd hC dL_law_1319 ?_
    refine V.goto hC 1329 dL_law_1320 (by decide) ?_
    have hv := low_p (v := y) (n := 8) (p := 1) (a := 8) (c := 1) (by decide) (by decide) (by decide) (by decide) (by decide)
    generalize (1 : Int32) + lLow y 8 = v at *
    replace hv : 1 ≤ v.toInt ∧ v.toInt ≤ 8 := ⟨hv.1, by omega⟩
    refine V.istore hC dL_law_1329 rfl rfl ?_
    refine V.iload hC dL_law_1331 rfl ?_
    refine V.bipush hC 16 dL_law_1333 (by decide) ?_
    refine V.icmp_ne_f hC 1347 dL_law_1335 (by decide) (h16) ?_
    refine V.aload_n hC dL_law_1338 rfl ?_
    refine V.iload hC dL_law_1339 rfl ?_
    refine V.callV1i hC (c_X4_setZone hG Sm.x) mwX4_setZone mlL_141 (hG.at 0 rfl) rfl rfl ⟨rfl, rfl⟩ dL_law_1341 rfl ?_
    refine V.goto hC 1353 dL_law_1344 (by decide) ?_
    obtain ⟨a1, a2, a3⟩ := op_ok Sm (Sm.draft.ds.zone v).to2
    generalize xU (dZone (hDraft M) 1 v) = P at *
    refine V.istore hC dL_law_1353 rfl rfl ?_
    refine V.iload hC dL_law_1355 rfl ?_
    refine V.iload hC dL_law_1357 rfl ?_
    refine V.if_eq_t hC 1367 dL_law_1359 (by decide) (by rw [ho]; rfl) ?_
    refine V.aload_n hC dL_law_1367 rfl ?_
    refine V.iload hC dL_law_1368 rfl ?_
    refine V.ialdLN hC (7) hq (rfl) (by omega) dL_law_1370 ?_
    refine V.icmp_eq_t hC 1376 dL_law_1371 (by decide) (a1.trans (by rw [(a_zone hv).2 ho, a3 q g1]; exact (r.k (k := 7) (by decide) (by decide)).symm)) ?_
    refine V.iload hC dL_law_1376 rfl ?_
    refine V.if_ne_f hC 1387 dL_law_1378 (by decide) (by rw [ho]; rfl) ?_
    refine V.aload_n hC dL_law_1381 rfl ?_
    refine V.iload hC dL_law_1382 rfl ?_
    refine V.iload hC dL_law_1384 rfl ?_
    refine V.iastLN hC (7) hq (rfl) (by omega) dL_law_1386 ?_
    rw [(a_zone hv).2 ho] at a2
    have hS : Sim (dk_put P.2 q 7 v) (dk_put (mRec N) 112 7 v) := a2.keep (fun a y1 y2 => dk_put_ne (by omega))
    have hL : LR (dk_put P.2 q 7 v) q d c w j (dk_put (mRec N) 112 7 v 112) := (Mo P.2 a3).nump D (mRec_st N) (k := 7) (by decide) v ⟨by rw [a3 q g1]; exact (r.shut0 Sm.ds ho).1, (r.shut0 Sm.ds ho).2⟩
    first | exact V.more (k := 4) (n := 76) (V.sub (dk_sc rfl (dk_sc rfl (dk_sc rfl (dk_sc rfl (dk_sc rfl (dk_sc rfl (dk_sc rfl (dk_sc rfl (dk_sc rfl (dk_sn)))))))))) (K _ _ hS hL)) | exact V.sub (dk_sc rfl (dk_sc rfl (dk_sc rfl (dk_sc rfl (dk_sc rfl (dk_sc rfl (dk_sc rfl (dk_sc rfl (dk_sc rfl (dk_sn)))))))))) (K _ _ hS hL)
  · refine V.iload hC dL_law_1288 rfl ?_
    refine V.bipush hC 16 dL_law_1290 (by decide) ?_
    refine V.icmp_ne_f hC 1300 dL_law_1292 (by decide) (h16) ?_
    refine V.bipush hC 7 dL_law_1295 (by decide) ?_
    refine V.goto hC 1302 dL_law_1297 (by decide) ?_
    refine V.istore hC dL_law_1302 rfl rfl ?_
    refine V.iload hC dL_law_1304 rfl ?_
    refine V.bipush hC 16 dL_law_1306 (by decide) ?_
    refine V.icmp_ne_f hC 1323 dL_law_1308 (by decide) (h16) ?_
    refine V.iconst hC 1 dL_law_1311 (by decide) ?_
    refine V.iload hC dL_law_1312 rfl ?_
    refine V.bipush hC 8 dL_law_1314 (by decide) ?_
    refine V.callS2i hC (c_L_low (show ¬ (8 : Int32) = 0 by decide)) mwL_low mlL_80 ⟨rfl, rfl⟩ dL_law_1316 rfl ?_
    refine V.iadd hC dL_law_1319 ?_
    refine V.goto hC 1329 dL_law_1320 (by decide) ?_
    have hv := low_p (v := y) (n := 8) (p := 1) (a := 8) (c := 1) (by decide) (by decide) (by decide) (by decide) (by decide)
    generalize (1 : Int32) + lLow y 8 = v at *
    replace hv : 1 ≤ v.toInt ∧ v.toInt ≤ 8 := ⟨hv.1, by omega⟩
    refine V.istore hC dL_law_1329 rfl rfl ?_
    refine V.iload hC dL_law_1331 rfl ?_
    refine V.bipush hC 16 dL_law_1333 (by decide) ?_
    refine V.icmp_ne_f hC 1347 dL_law_1335 (by decide) (h16) ?_
    refine V.aload_n hC dL_law_1338 rfl ?_
    refine V.iload hC dL_law_1339 rfl ?_
    refine V.callV1i hC (c_X4_setZone hG Sm.x) mwX4_setZone mlL_141 (hG.at 0 rfl) rfl rfl ⟨rfl, rfl⟩ dL_law_1341 rfl ?_
    refine V.goto hC 1353 dL_law_1344 (by decide) ?_
    obtain ⟨a1, a2, a3⟩ := op_ok Sm (Sm.draft.ds.zone v).to2
    generalize xU (dZone (hDraft M) 1 v) = P at *
    refine V.istore hC dL_law_1353 rfl rfl ?_
    refine V.iload hC dL_law_1355 rfl ?_
    refine V.iload hC dL_law_1357 rfl ?_
    refine V.if_eq_f hC 1367 dL_law_1359 (by decide) (by rw [ho]; decide) ?_
    refine V.bipush hC (-3) dL_law_1362 (by decide) ?_
    refine V.goto hC 1371 dL_law_1364 (by decide) ?_
    refine V.icmp_eq_t hC 1376 dL_law_1371 (by decide) (a1.trans (by rw [(a_zone hv).1 ho])) ?_
    refine V.iload hC dL_law_1376 rfl ?_
    refine V.if_ne_t hC 1387 dL_law_1378 (by decide) (by rw [ho]; decide) ?_
    have hS : Sim P.2 N := by have h := a2; rw [(a_zone hv).1 ho] at h; exact h
    have hL : LR P.2 q d c w j (N 112) := Mo P.2 a3
    first | exact V.more (k := 4) (n := 76) (V.sub (dk_sc rfl (dk_sc rfl (dk_sc rfl (dk_sc rfl (dk_sc rfl (dk_sc rfl (dk_sc rfl (dk_sc rfl (dk_sc rfl (dk_sn)))))))))) (K _ _ hS hL)) | exact V.sub (dk_sc rfl (dk_sc rfl (dk_sc rfl (dk_sc rfl (dk_sc rfl (dk_sc rfl (dk_sc rfl (dk_sc rfl (dk_sc rfl (dk_sn)))))))))) (K _ _ hS hL)
  · refine V.iload hC dL_law_1288 rfl ?_
    refine V.bipush hC 16 dL_law_1290 (by decide) ?_
    refine V.icmp_ne_t hC 1300 dL_law_1292 (by decide) (h16) ?_
    refine V.bipush hC 8 dL_law_1300 (by decide) ?_
    refine V.istore hC dL_law_1302 rfl rfl ?_
    refine V.iload hC dL_law_1304 rfl ?_
    refine V.bipush hC 16 dL_law_1306 (by decide) ?_
    refine V.icmp_ne_t hC 1323 dL_law_1308 (by decide) (h16) ?_
    refine V.iload hC dL_law_1323 rfl ?_
    refine V.iconst hC 2 dL_law_1325 (by decide) ?_
    refine V.callS2i hC (c_L_low (show ¬ (2 : Int32) = 0 by decide)) mwL_low mlL_80 ⟨rfl, rfl⟩ dL_law_1326 rfl ?_
    have hv := low_i (v := y) (n := 2) (a := 2) (by decide) (by decide)
    generalize lLow y 2 = v at *
    replace hv : 0 ≤ v.toInt ∧ v.toInt ≤ 1 := ⟨hv.1, by omega⟩
    refine V.istore hC dL_law_1329 rfl rfl ?_
    refine V.iload hC dL_law_1331 rfl ?_
    refine V.bipush hC 16 dL_law_1333 (by decide) ?_
    refine V.icmp_ne_t hC 1347 dL_law_1335 (by decide) (h16) ?_
    refine V.aload_n hC dL_law_1347 rfl ?_
    refine V.iload hC dL_law_1348 rfl ?_
    refine V.callV1i hC (c_X4_setJournal hG Sm.x) mwX4_setJournal mlL_144 (hG.at 0 rfl) rfl rfl ⟨rfl, rfl⟩ dL_law_1350 rfl ?_
    obtain ⟨a1, a2, a3⟩ := op_ok Sm (Sm.draft.ds.jour v).to2
    generalize xU (dJour (hDraft M) 1 v) = P at *
    refine V.istore hC dL_law_1353 rfl rfl ?_
    refine V.iload hC dL_law_1355 rfl ?_
    refine V.iload hC dL_law_1357 rfl ?_
    refine V.if_eq_t hC 1367 dL_law_1359 (by decide) (by rw [ho]; rfl) ?_
    refine V.aload_n hC dL_law_1367 rfl ?_
    refine V.iload hC dL_law_1368 rfl ?_
    refine V.ialdLN hC (8) hq (rfl) (by omega) dL_law_1370 ?_
    refine V.icmp_eq_t hC 1376 dL_law_1371 (by decide) (a1.trans (by rw [(a_jour hv).2 ho, a3 q g1]; exact (r.k (k := 8) (by decide) (by decide)).symm)) ?_
    refine V.iload hC dL_law_1376 rfl ?_
    refine V.if_ne_f hC 1387 dL_law_1378 (by decide) (by rw [ho]; rfl) ?_
    refine V.aload_n hC dL_law_1381 rfl ?_
    refine V.iload hC dL_law_1382 rfl ?_
    refine V.iload hC dL_law_1384 rfl ?_
    refine V.iastLN hC (8) hq (rfl) (by omega) dL_law_1386 ?_
    rw [(a_jour hv).2 ho] at a2
    have hS : Sim (dk_put P.2 q 8 v) (dk_put (mRec N) 112 8 v) := a2.keep (fun a y1 y2 => dk_put_ne (by omega))
    have hL : LR (dk_put P.2 q 8 v) q d c w j (dk_put (mRec N) 112 8 v 112) := (Mo P.2 a3).nump D (mRec_st N) (k := 8) (by decide) v ⟨by rw [a3 q g1]; exact (r.shut0 Sm.ds ho).1, (r.shut0 Sm.ds ho).2⟩
    first | exact V.more (k := 4) (n := 76) (V.sub (dk_sc rfl (dk_sc rfl (dk_sc rfl (dk_sc rfl (dk_sc rfl (dk_sc rfl (dk_sc rfl (dk_sc rfl (dk_sc rfl (dk_sn)))))))))) (K _ _ hS hL)) | exact V.sub (dk_sc rfl (dk_sc rfl (dk_sc rfl (dk_sc rfl (dk_sc rfl (dk_sc rfl (dk_sc rfl (dk_sc rfl (dk_sc rfl (dk_sn)))))))))) (K _ _ hS hL)
  · refine V.iload hC dL_law_1288 rfl ?_
    refine V.bipush hC 16 dL_law_1290 (by decide) ?_
    refine V.icmp_ne_t hC 1300 dL_law_1292 (by decide) (h16) ?_
    refine V.bipush hC 8 dL_law_1300 (by decide) ?_
    refine V.istore hC dL_law_1302 rfl rfl ?_
    refine V.iload hC dL_law_1304 rfl ?_
    refine V.bipush hC 16 dL_law_1306 (by decide) ?_
    refine V.icmp_ne_t hC 1323 dL_law_1308 (by decide) (h16) ?_
    refine V.iload hC dL_law_1323 rfl ?_
    refine V.iconst hC 2 dL_law_1325 (by decide) ?_
    refine V.callS2i hC (c_L_low (show ¬ (2 : Int32) = 0 by decide)) mwL_low mlL_80 ⟨rfl, rfl⟩ dL_law_1326 rfl ?_
    have hv := low_i (v := y) (n := 2) (a := 2) (by decide) (by decide)
    generalize lLow y 2 = v at *
    replace hv : 0 ≤ v.toInt ∧ v.toInt ≤ 1 := ⟨hv.1, by omega⟩
    refine V.istore hC dL_law_1329 rfl rfl ?_
    refine V.iload hC dL_law_1331 rfl ?_
    refine V.bipush hC 16 dL_law_1333 (by decide) ?_
    refine V.icmp_ne_t hC 1347 dL_law_1335 (by decide) (h16) ?_
    refine V.aload_n hC dL_law_1347 rfl ?_
    refine V.iload hC dL_law_1348 rfl ?_
    refine V.callV1i hC (c_X4_setJournal hG Sm.x) mwX4_setJournal mlL_144 (hG.at 0 rfl) rfl rfl ⟨rfl, rfl⟩ dL_law_1350 rfl ?_
    obtain ⟨a1, a2, a3⟩ := op_ok Sm (Sm.draft.ds.jour v).to2
    generalize xU (dJour (hDraft M) 1 v) = P at *
    refine V.istore hC dL_law_1353 rfl rfl ?_
    refine V.iload hC dL_law_1355 rfl ?_
    refine V.iload hC dL_law_1357 rfl ?_
    refine V.if_eq_f hC 1367 dL_law_1359 (by decide) (by rw [ho]; decide) ?_
    refine V.bipush hC (-3) dL_law_1362 (by decide) ?_
    refine V.goto hC 1371 dL_law_1364 (by decide) ?_
    refine V.icmp_eq_t hC 1376 dL_law_1371 (by decide) (a1.trans (by rw [(a_jour hv).1 ho])) ?_
    refine V.iload hC dL_law_1376 rfl ?_
    refine V.if_ne_t hC 1387 dL_law_1378 (by decide) (by rw [ho]; decide) ?_
    have hS : Sim P.2 N := by have h := a2; rw [(a_jour hv).1 ho] at h; exact h
    have hL : LR P.2 q d c w j (N 112) := Mo P.2 a3
    first | exact V.more (k := 4) (n := 76) (V.sub (dk_sc rfl (dk_sc rfl (dk_sc rfl (dk_sc rfl (dk_sc rfl (dk_sc rfl (dk_sc rfl (dk_sc rfl (dk_sc rfl (dk_sn)))))))))) (K _ _ hS hL)) | exact V.sub (dk_sc rfl (dk_sc rfl (dk_sc rfl (dk_sc rfl (dk_sc rfl (dk_sc rfl (dk_sc rfl (dk_sc rfl (dk_sc rfl (dk_sn)))))))))) (K _ _ hS hL)
