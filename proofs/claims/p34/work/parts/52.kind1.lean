/-! the acts, one by one -/
theorem low_i {v n : Int32} {a : Int} (hn : n.toInt = a) (h0 : 0 < a) : 0 ≤ (lLow v n).toInt ∧ (lLow v n).toInt < a := by
  have := lLow_b (v := v) (n := n) (by omega)
  omega
theorem low_p {v n p : Int32} {a c : Int} (hn : n.toInt = a) (h0 : 0 < a) (hp : p.toInt = c) (h1 : 0 ≤ c) (h2 : a + c < 100000) : c ≤ (p + lLow v n).toInt ∧ (p + lLow v n).toInt < c + a := by
  have := low_i (v := v) hn h0
  rw [tI_add (by omega) (by omega)]
  omega
theorem nat5 {x : Int32} (h : 1 ≤ x.toInt ∧ x.toInt < 1 + 5) : ∃ k : Nat, x = nI k ∧ 1 ≤ k ∧ k ≤ 5 := by
  have h2 := ix_toInt (x := x) (by omega)
  exact ⟨ix x, nI_ix (by omega), by omega, by omega⟩
def lIs (M : dkM) (q k : Nat) : Bool := decide (0 ≤ M q (10 + k))
theorem lIs_t {M : dkM} {q k : Nat} (h : lIs M q k = true) : 0 ≤ M q (10 + k) := of_decide_eq_true h
theorem lIs_f {M : dkM} {q k : Nat} (h : lIs M q k = false) : ¬ 0 ≤ M q (10 + k) := of_decide_eq_false h
theorem lIs_1 {M : dkM} {q k : Nat} (h : M q (10 + k) < 0) : lIs M q k = false := decide_eq_false (dk_lt1 h)
theorem lIs_2 {M : dkM} {q k : Nat} (h : ¬ M q (10 + k) < 0) : lIs M q k = true := decide_eq_true (dk_nlt h)
theorem kyn_t {M : dkM} {q i : Nat} (h : 0 ≤ M q (10 + (i + 1))) : lKyN M q (i + 1) = lKyN M q i + 1 := by simp [lKyN, cnt, h]
theorem kyn_f {M : dkM} {q i : Nat} (h : ¬ 0 ≤ M q (10 + (i + 1))) : lKyN M q (i + 1) = lKyN M q i := by simp [lKyN, cnt, h]
theorem m1p (a : Nat) : nI a - 1 + 1 = nI (a + 1) - 1 := by rw [← nI_1]; grind
theorem p0 (x : Int32) : x + 0 = x := Int32.add_zero x
theorem lFmt_1 {M : dkM} {q j : Nat} {n : Int32} (h : q ≠ j) : lFmt M q j n q 1 = M q 1 := by unfold lFmt; rw [lC_q h (by decide) (by decide), put_k (by decide), put_k (by decide), put_k (by decide), put_k (by decide)]
theorem lFmt_ne {M : dkM} {q j a : Nat} {n : Int32} (h1 : a ≠ q) (h2 : a ≠ j) : lFmt M q j n a = M a := by unfold lFmt; rw [lClose_ne _ h1 h2, dk_put_ne h1, dk_put_ne h1, dk_put_ne h1, dk_put_ne h1]
theorem lFo_ne {M : dkM} {q d c w j a : Nat} (D : lD q d c w j) (h1 : a ≠ d) (h2 : a ≠ c) (h3 : a ≠ w) (n : Nat) : lFo M q d c w n a = M a := by
  funext b
  exact (lFo_st D n b).1 a h1 h2 h3
theorem r5 {M N Mx : dkM} {e q d c w j : Nat} (h : DS Mx e (N 112)) (r : LR M q d c w j (N 112)) : 0 ≤ (M q 1).toInt ∧ (M q 1).toInt ≤ 5 := by
  have := r.own h
  rw [r.k (k := 1) (by decide) (by decide)]
  omega
theorem h5k {M N Mx : dkM} {e q d c w j : Nat} (h : DS Mx e (N 112)) (r : LR M q d c w j (N 112)) : lKyN M q 5 = mKeys N 99 := (r.keys h).symm
set_option maxHeartbeats 2000000 in
set_option maxRecDepth 20000 in
theorem law_format {E : dkE} {G : dkG} {T : dkT} {M N : dkM} {q d c w j b : Nat} {tn x y kd : Int32} {sc : Nat} (hC : dk_Cx E G cL_law 18 RL (some .boolean) 9 322) (hA : dk_Al E G) (hr : dk_rm E 4 76) (hG : dk_cls G) (hq : lA G q 16) (hd : lA G d 20) (hc : lA G c 20) (hw : lA G w 20) (hj : lA G j 20) (D : lD q d c w j) (h111 : 111 ≤ q ∧ 111 ≤ d ∧ 111 ≤ c ∧ 111 ≤ w ∧ 111 ≤ j) (Sm : Sim M N) (r : LR M q d c w j (N 112)) (hsc : sc < ix (N 112 0))  (K : ∀ (M' N' : dkM), Sim M' N' → LR M' q d c w j (N' 112) → V (dk_more E 4 76) G 18 T M' 1387 [(0, some (.ref b)), (1, some (.ref (G.1 + 0))), (2, some (.ref (G.1 + q))), (3, some (.ref (G.1 + d))), (4, some (.ref (G.1 + c))), (5, some (.ref (G.1 + w))), (6, some (.ref (G.1 + j))), (7, some (.int tn)), (9, some (.int y))] []) (K2 : V E G 18 T M 1408 [(0, some (.ref b)), (1, some (.ref (G.1 + 0))), (2, some (.ref (G.1 + q))), (3, some (.ref (G.1 + d))), (4, some (.ref (G.1 + c))), (5, some (.ref (G.1 + w))), (6, some (.ref (G.1 + j))), (7, some (.int tn))] []) : V E G 18 T M 242 [(0, some (.ref b)), (1, some (.ref (G.1 + 0))), (2, some (.ref (G.1 + q))), (3, some (.ref (G.1 + d))), (4, some (.ref (G.1 + c))), (5, some (.ref (G.1 + w))), (6, some (.ref (G.1 + j))), (7, some (.int tn)), (8, some (.int x)), (9, some (.int y)), (10, some (.int kd)), (11, some (.int (nI sc))), (12, some (.int (bI (mOpen N))))] [] := by
  obtain ⟨⟨d1, d2, d3, d4⟩, ⟨d5, d6, d7⟩, ⟨d8, d9⟩, d10⟩ := id D
  obtain ⟨g1, g2, g3, g4, g5⟩ := h111
  have hsec := Sm.ds.sec
  have hsec2 := r.sec Sm.ds
  have Mo : ∀ X : dkM, (∀ a, 111 ≤ a → X a = M a) → LR X q d c w j (N 112) := fun X h => r.keep (h q g1) (h d g2) (h c g3) (h w g4) (h j g5)
  have hq5 := r5 Sm.ds r
  have loop_315 : ∀ (n : Nat) (k : Nat) (v : Int32) (P : Int32 × dkM), (4 ≤ v.toInt ∧ v.toInt ≤ 20) → (Sim P.2 (mFormats (mRec N) v)) → (∀ a, 111 ≤ a → P.2 a = M a) → (k ≤ 20) → (20 < k + n) →  V E G 18 T (lFo (lFmt P.2 q j v) q d c w k) 315 [(0, some (.ref b)), (1, some (.ref (G.1 + 0))), (2, some (.ref (G.1 + q))), (3, some (.ref (G.1 + d))), (4, some (.ref (G.1 + c))), (5, some (.ref (G.1 + w))), (6, some (.ref (G.1 + j))), (7, some (.int tn)), (9, some (.int y)), (14, some (.int (nI k)))] [] := by
    intro n
    induction n with
    | zero => intro k v P hv a2 a3 hk hn; exact absurd hn (by omega)
    | succ n ih_315 =>
      intro k v P hv a2 a3 hk hn
      have e1 : lFo (lFmt P.2 q j v) q d c w k q 1 = M q 1 := by rw [(lFo_st D k 1).1 q d1 d2 d3, lFmt_1 d4, a3 q g1]
      have hx : 0 ≤ (lFo (lFmt P.2 q j v) q d c w k q 1).toInt ∧ (lFo (lFmt P.2 q j v) q d c w k q 1).toInt ≤ 5 := by rw [e1]; exact hq5
      refine V.iload hC dL_law_315 rfl ?_
      refine V.bipush hC 20 dL_law_317 (by decide) ?_
      refine V.icmp_ge hC 359 dL_law_319 (by decide) (fun c_1 => ?_) (fun c_1 => ?_)
      · have hke : k = 20 := by have := (dk_gek (k := k) (by omega)).mp c_1; rw [show ix 20 = 20 from by decide] at this; omega
        subst hke
        have hS : Sim (lFo (lFmt P.2 q j v) q d c w 20) (mFormats (mRec N) v) := a2.keep (fun a h1 h2 => by rw [lFo_ne D (by omega) (by omega) (by omega), lFmt_ne (by omega) (by omega)])
        have hL : LR (lFo (lFmt P.2 q j v) q d c w 20) q d c w j (mFormats (mRec N) v 112) := (Mo P.2 a3).formatp D Sm.ds (mRec_st N) hv
        refine V.goto hC 1387 dL_law_359 (by decide) ?_
        first | exact V.more (k := 4) (n := 76) (V.sub (dk_sc rfl (dk_sc rfl (dk_sc rfl (dk_sc rfl (dk_sc rfl (dk_sc rfl (dk_sc rfl (dk_sc rfl (dk_sc rfl (dk_sn)))))))))) (K _ _ hS hL)) | exact V.sub (dk_sc rfl (dk_sc rfl (dk_sc rfl (dk_sc rfl (dk_sc rfl (dk_sc rfl (dk_sc rfl (dk_sc rfl (dk_sc rfl (dk_sn)))))))))) (K _ _ hS hL)
      · have hkl : k < 20 := by have := mt (dk_gek (k := k) (by omega)).mpr c_1; rw [show ix 20 = 20 from by decide] at this; omega
        refine V.aload_n hC dL_law_322 rfl ?_
        refine V.iload hC dL_law_323 rfl ?_
        refine V.iconst hC 0 dL_law_325 (by decide) ?_
        refine V.iload hC dL_law_326 rfl ?_
        refine V.aload_n hC dL_law_328 rfl ?_
        refine V.bipush hC 10 dL_law_329 (by decide) ?_
        refine V.aload_n hC dL_law_331 rfl ?_
        refine V.iconst hC 1 dL_law_332 (by decide) ?_
        refine V.ialdLN hC (1) hq (rfl) (by omega) dL_law_333 ?_
        refine V.iadd hC dL_law_334 ?_
        refine V.ialdLN hC (10 + ix (lFo (lFmt P.2 q j v) q d c w k q 1)) hq (dk_addN rfl (nI_ix hx.1)) (by have := ix_toInt hx.1; omega) dL_law_335 ?_
        refine V.callS3i hC (c_L_mix) mwL_mix mlL_26 ⟨rfl, rfl⟩ dL_law_336 rfl ?_
        refine V.iastLN hC (k) hd (rfl) (by omega) dL_law_339 ?_
        refine V.aload hC dL_law_340 rfl ?_
        refine V.iload hC dL_law_342 rfl ?_
        refine V.bipush hC (-6) dL_law_344 (by decide) ?_
        refine V.iastLN hC (k) hc (rfl) (by omega) dL_law_346 ?_
        refine V.aload hC dL_law_347 rfl ?_
        refine V.iload hC dL_law_349 rfl ?_
        refine V.iconst hC 0 dL_law_351 (by decide) ?_
        refine V.iastLN hC (k) hw (rfl) (by omega) dL_law_352 ?_
        refine V.iinc hC dL_law_353 rfl (dk_incN _) rfl ?_
        refine V.goto hC 315 dL_law_356 (by decide) ?_
        exact V.sub (dk_sc rfl (dk_sc rfl (dk_sc rfl (dk_sc rfl (dk_sc rfl (dk_sc rfl (dk_sc rfl (dk_sc rfl (dk_sc rfl (dk_sc rfl (dk_sn))))))))))) (ih_315 (k + 1) v P hv a2 a3 (by omega) (by omega))
  have loop_259 : ∀ (n : Nat) , (0 < n) →  V E G 18 T (M) 259 [(0, some (.ref b)), (1, some (.ref (G.1 + 0))), (2, some (.ref (G.1 + q))), (3, some (.ref (G.1 + d))), (4, some (.ref (G.1 + c))), (5, some (.ref (G.1 + w))), (6, some (.ref (G.1 + j))), (7, some (.int tn)), (9, some (.int y))] [] := by
    intro n
    induction n with
    | zero => intro  hn; exact absurd hn (by omega)
    | succ n ih_259 =>
      intro  hn
      refine V.iconst hC 4 dL_law_259 (by decide) ?_
      refine V.iload hC dL_law_260 rfl ?_
      refine V.iconst hC 3 dL_law_262 (by decide) ?_
      refine V.ishr hC dL_law_263 ?_
      refine V.bipush hC 17 dL_law_264 (by decide) ?_
      refine V.callS2i hC (c_L_low (show ¬ (17 : Int32) = 0 by decide)) mwL_low mlL_80 ⟨rfl, rfl⟩ dL_law_266 rfl ?_
      refine V.iadd hC dL_law_269 ?_
      have hv0 := low_p (v := y >>> (3 &&& 31)) (n := 17) (p := 4) (a := 17) (c := 4) (by decide) (by decide) (by decide) (by decide) (by decide)
      generalize (4 : Int32) + lLow (y >>> (3 &&& 31)) 17 = v at *
      have hv : 4 ≤ v.toInt ∧ v.toInt ≤ 20 := by omega
      refine V.istore hC dL_law_270 rfl rfl ?_
      refine V.aload_n hC dL_law_272 rfl ?_
      refine V.iload hC dL_law_273 rfl ?_
      refine V.callV1i hC (c_X4_format hG Sm.x) mwX4_format mlL_114 (hG.at 0 rfl) rfl rfl ⟨rfl, rfl⟩ dL_law_275 rfl ?_
      obtain ⟨a1, a2, a3⟩ := op_ok Sm (Sm.draft.ds.format v).to2
      rw [a_format hv] at a1 a2
      generalize xU (dFormat (hDraft M) 1 v) = P at *
      refine V.aload_n hC dL_law_278 rfl ?_
      refine V.iconst hC 0 dL_law_279 (by decide) ?_
      refine V.ialdLN hC (0) hq (rfl) (by omega) dL_law_280 ?_
      refine V.icmp_eq hC 286 dL_law_281 (by decide) (fun c_1 => ?_) (fun c_1 => ?_)
      · refine V.aload_n hC dL_law_286 rfl ?_
        refine V.iconst hC 0 dL_law_287 (by decide) ?_
        refine V.iload hC dL_law_288 rfl ?_
        refine V.iastLN hC (0) hq (rfl) (by omega) dL_law_290 ?_
        refine V.aload_n hC dL_law_291 rfl ?_
        refine V.iconst hC 2 dL_law_292 (by decide) ?_
        refine V.bipush hC (-6) dL_law_293 (by decide) ?_
        refine V.iastLN hC (2) hq (rfl) (by omega) dL_law_295 ?_
        refine V.aload_n hC dL_law_296 rfl ?_
        refine V.iconst hC 3 dL_law_297 (by decide) ?_
        refine V.bipush hC (-6) dL_law_298 (by decide) ?_
        refine V.iastLN hC (3) hq (rfl) (by omega) dL_law_300 ?_
        refine V.aload_n hC dL_law_301 rfl ?_
        refine V.iconst hC 4 dL_law_302 (by decide) ?_
        refine V.bipush hC (-6) dL_law_303 (by decide) ?_
        refine V.iastLN hC (4) hq (rfl) (by omega) dL_law_305 ?_
        refine V.aload_n hC dL_law_306 rfl ?_
        refine V.aload hC dL_law_307 rfl ?_
        refine V.callS2v hC (c_L_close hq hj) mwL_close mlL_30 ⟨rfl, rfl⟩ dL_law_309 rfl ?_
        refine V.eqM (M' := lFmt P.2 q j v) rfl ?_
        refine V.iconst hC 0 dL_law_312 (by decide) ?_
        refine V.istore hC dL_law_313 rfl rfl ?_
        exact V.sub (dk_sc rfl (dk_sc rfl (dk_sc rfl (dk_sc rfl (dk_sc rfl (dk_sc rfl (dk_sc rfl (dk_sc rfl (dk_sc rfl (dk_sc rfl (dk_sn))))))))))) (loop_315 21 0 v P hv a2 a3 (Nat.zero_le _) (by omega))
      · exact absurd (by rw [a3 q g1, r.k (k := 0) (by decide) (by decide)]; exact a1) c_1 --done
  refine V.iload hC dL_law_242 rfl ?_
  refine V.if_le hC 259 dL_law_244 (by decide) (fun c_1 => ?_) (fun c_1 => ?_)
  · exact V.sub (dk_sc rfl (dk_sc rfl (dk_sc rfl (dk_sc rfl (dk_sc rfl (dk_sc rfl (dk_sc rfl (dk_sc rfl (dk_sc rfl (dk_sn)))))))))) (loop_259 1  (by omega))
  · refine V.iload hC dL_law_247 rfl ?_
    refine V.iconst hC 4 dL_law_249 (by decide) ?_
    refine V.callS2i hC (c_L_low (show ¬ (4 : Int32) = 0 by decide)) mwL_low mlL_80 ⟨rfl, rfl⟩ dL_law_250 rfl ?_
    refine V.if_le hC 259 dL_law_253 (by decide) (fun c_2 => ?_) (fun c_2 => ?_)
    · exact V.sub (dk_sc rfl (dk_sc rfl (dk_sc rfl (dk_sc rfl (dk_sc rfl (dk_sc rfl (dk_sc rfl (dk_sc rfl (dk_sc rfl (dk_sn)))))))))) (loop_259 1  (by omega))
    · refine V.goto hC 1408 dL_law_256 (by decide) ?_
      exact V.sub (dk_sc rfl (dk_sc rfl (dk_sc rfl (dk_sc rfl (dk_sc rfl (dk_sc rfl (dk_sc rfl (dk_sc rfl (dk_sn))))))))) K2
set_option maxHeartbeats 2000000 in
set_option maxRecDepth 20000 in
theorem law_add {E : dkE} {G : dkG} {T : dkT} {M N : dkM} {q d c w j b : Nat} {tn x y kd : Int32} {sc : Nat} (hC : dk_Cx E G cL_law 18 RL (some .boolean) 9 322) (hA : dk_Al E G) (hr : dk_rm E 4 76) (hG : dk_cls G) (hq : lA G q 16) (hd : lA G d 20) (hc : lA G c 20) (hw : lA G w 20) (hj : lA G j 20) (D : lD q d c w j) (h111 : 111 ≤ q ∧ 111 ≤ d ∧ 111 ≤ c ∧ 111 ≤ w ∧ 111 ≤ j) (Sm : Sim M N) (r : LR M q d c w j (N 112)) (hsc : sc < ix (N 112 0))  (K : ∀ (M' N' : dkM), Sim M' N' → LR M' q d c w j (N' 112) → V (dk_more E 4 76) G 18 T M' 1387 [(0, some (.ref b)), (1, some (.ref (G.1 + 0))), (2, some (.ref (G.1 + q))), (3, some (.ref (G.1 + d))), (4, some (.ref (G.1 + c))), (5, some (.ref (G.1 + w))), (6, some (.ref (G.1 + j))), (7, some (.int tn)), (9, some (.int y))] [])  : V E G 18 T M 368 [(0, some (.ref b)), (1, some (.ref (G.1 + 0))), (2, some (.ref (G.1 + q))), (3, some (.ref (G.1 + d))), (4, some (.ref (G.1 + c))), (5, some (.ref (G.1 + w))), (6, some (.ref (G.1 + j))), (7, some (.int tn)), (8, some (.int x)), (9, some (.int y)), (10, some (.int kd)), (11, some (.int (nI sc))), (12, some (.int (bI (mOpen N))))] [] := by
  obtain ⟨⟨d1, d2, d3, d4⟩, ⟨d5, d6, d7⟩, ⟨d8, d9⟩, d10⟩ := id D
  obtain ⟨g1, g2, g3, g4, g5⟩ := h111
  have hsec := Sm.ds.sec
  have hsec2 := r.sec Sm.ds
  have Mo : ∀ X : dkM, (∀ a, 111 ≤ a → X a = M a) → LR X q d c w j (N 112) := fun X h => r.keep (h q g1) (h d g2) (h c g3) (h w g4) (h j g5)
  have loop_447 : ∀ (n : Nat) (k : Nat) (v : Int32), (1 ≤ k) → (k ≤ 5) → (0 ≤ v.toInt ∧ v.toInt ≤ 65535) → (0 < n) →  V E G 18 T (M) 447 [(0, some (.ref b)), (1, some (.ref (G.1 + 0))), (2, some (.ref (G.1 + q))), (3, some (.ref (G.1 + d))), (4, some (.ref (G.1 + c))), (5, some (.ref (G.1 + w))), (6, some (.ref (G.1 + j))), (7, some (.int tn)), (9, some (.int y)), (13, some (.int (nI k))), (14, some (.int v)), (15, some (.int (bI (lIs M q k)))), (16, some (.int (nI (lKyN M q 5 + 1))))] [] := by
    intro n
    induction n with
    | zero => intro k v h1 h2 hv hn; exact absurd hn (by omega)
    | succ n ih_447 =>
      intro k v h1 h2 hv hn
      rcases hi : lIs M q k with _ | _
      · refine V.aload_n hC dL_law_447 rfl ?_
        refine V.iload hC dL_law_448 rfl ?_
        refine V.iload hC dL_law_450 rfl ?_
        refine V.callV2i hC (c_X4_addKey hG Sm.x) mwX4_addKey mlL_118 (hG.at 0 rfl) rfl rfl ⟨rfl, rfl⟩ dL_law_452 rfl ?_
        obtain ⟨a1, a2, a3⟩ := op_ok Sm (Sm.draft.ds.add (nI k) v).to2
        generalize xU (dAdd (hDraft M) 1 (nI k) v) = P at *
        refine V.iload hC dL_law_455 rfl ?_
        refine V.if_eq_t hC 465 dL_law_457 (by decide) (rfl) ?_
        refine V.iload hC dL_law_465 rfl ?_
        refine V.icmp_eq_t hC 472 dL_law_467 (by decide) (a1.trans (by rw [(a_add Sm.ds r (h5k Sm.ds r) h1 h2 hv).2 (lIs_f hi)])) ?_
        refine V.aload_n hC dL_law_472 rfl ?_
        refine V.bipush hC 10 dL_law_473 (by decide) ?_
        refine V.iload hC dL_law_475 rfl ?_
        refine V.iadd hC dL_law_477 ?_
        refine V.iload hC dL_law_478 rfl ?_
        refine V.if_eq_t hC 493 dL_law_480 (by decide) (rfl) ?_
        refine V.iload hC dL_law_493 rfl ?_
        refine V.iastLN hC (10 + k) hq (dk_addN (rfl) (rfl)) (by omega) dL_law_495 ?_
        rw [(a_add Sm.ds r (h5k Sm.ds r) h1 h2 hv).2 (lIs_f hi)] at a2
        have hS : Sim (dk_put P.2 q (10 + k) v) (mAddM N (nI k) v) := a2.keep (fun a y1 y2 => dk_put_ne (by omega))
        have hL : LR (dk_put P.2 q (10 + k) v) q d c w j (mAddM N (nI k) v 112) := by
          have h := (Mo P.2 a3).keyp D (mRec_st N) h1 h2 v
          unfold mAddM
          rw [ix_nI (by omega)]
          exact h
        refine V.goto hC 1387 dL_law_496 (by decide) ?_
        first | exact V.more (k := 4) (n := 76) (V.sub (dk_sc rfl (dk_sc rfl (dk_sc rfl (dk_sc rfl (dk_sc rfl (dk_sc rfl (dk_sc rfl (dk_sc rfl (dk_sc rfl (dk_sn)))))))))) (K _ _ hS hL)) | exact V.sub (dk_sc rfl (dk_sc rfl (dk_sc rfl (dk_sc rfl (dk_sc rfl (dk_sc rfl (dk_sc rfl (dk_sc rfl (dk_sc rfl (dk_sn)))))))))) (K _ _ hS hL)
      · refine V.aload_n hC dL_law_447 rfl ?_
        refine V.iload hC dL_law_448 rfl ?_
        refine V.iload hC dL_law_450 rfl ?_
        refine V.callV2i hC (c_X4_addKey hG Sm.x) mwX4_addKey mlL_118 (hG.at 0 rfl) rfl rfl ⟨rfl, rfl⟩ dL_law_452 rfl ?_
        obtain ⟨a1, a2, a3⟩ := op_ok Sm (Sm.draft.ds.add (nI k) v).to2
        generalize xU (dAdd (hDraft M) 1 (nI k) v) = P at *
        refine V.iload hC dL_law_455 rfl ?_
        refine V.if_eq_f hC 465 dL_law_457 (by decide) (by decide) ?_
        refine V.bipush hC (-3) dL_law_460 (by decide) ?_
        refine V.goto hC 467 dL_law_462 (by decide) ?_
        refine V.icmp_eq_t hC 472 dL_law_467 (by decide) (a1.trans (by rw [(a_add Sm.ds r (h5k Sm.ds r) h1 h2 hv).1 (lIs_t hi)])) ?_
        refine V.aload_n hC dL_law_472 rfl ?_
        refine V.bipush hC 10 dL_law_473 (by decide) ?_
        refine V.iload hC dL_law_475 rfl ?_
        refine V.iadd hC dL_law_477 ?_
        refine V.iload hC dL_law_478 rfl ?_
        refine V.if_eq_f hC 493 dL_law_480 (by decide) (by decide) ?_
        refine V.aload_n hC dL_law_483 rfl ?_
        refine V.bipush hC 10 dL_law_484 (by decide) ?_
        refine V.iload hC dL_law_486 rfl ?_
        refine V.iadd hC dL_law_488 ?_
        refine V.ialdLN hC (10 + k) hq (dk_addN (rfl) (rfl)) (by omega) dL_law_489 ?_
        refine V.goto hC 495 dL_law_490 (by decide) ?_
        refine V.iastLN hC (10 + k) hq (dk_addN (rfl) (rfl)) (by omega) dL_law_495 ?_
        rw [dk_put_id]
        have hS : Sim P.2 N := by have h := a2; rw [(a_add Sm.ds r (h5k Sm.ds r) h1 h2 hv).1 (lIs_t hi)] at h; exact h
        have hL : LR P.2 q d c w j (N 112) := Mo P.2 a3
        refine V.goto hC 1387 dL_law_496 (by decide) ?_
        first | exact V.more (k := 4) (n := 76) (V.sub (dk_sc rfl (dk_sc rfl (dk_sc rfl (dk_sc rfl (dk_sc rfl (dk_sc rfl (dk_sc rfl (dk_sc rfl (dk_sc rfl (dk_sn)))))))))) (K _ _ hS hL)) | exact V.sub (dk_sc rfl (dk_sc rfl (dk_sc rfl (dk_sc rfl (dk_sc rfl (dk_sc rfl (dk_sc rfl (dk_sc rfl (dk_sc rfl (dk_sn)))))))))) (K _ _ hS hL)
  have loop_414 : ∀ (n : Nat) (k i : Nat) (v : Int32), (1 ≤ k) → (k ≤ 5) → (0 ≤ v.toInt ∧ v.toInt ≤ 65535) → (i ≤ 5) → (5 < i + n) →  V E G 18 T (M) 414 [(0, some (.ref b)), (1, some (.ref (G.1 + 0))), (2, some (.ref (G.1 + q))), (3, some (.ref (G.1 + d))), (4, some (.ref (G.1 + c))), (5, some (.ref (G.1 + w))), (6, some (.ref (G.1 + j))), (7, some (.int tn)), (9, some (.int y)), (13, some (.int (nI k))), (14, some (.int v)), (15, some (.int (bI (lIs M q k)))), (16, some (.int (nI (lKyN M q i + 1)))), (17, some (.int (nI (i + 1))))] [] := by
    intro n
    induction n with
    | zero => intro k i v h1 h2 hv hi hn; exact absurd hn (by omega)
    | succ n ih_414 =>
      intro k i v h1 h2 hv hi hn
      refine V.iload hC dL_law_414 rfl ?_
      refine V.bipush hC 6 dL_law_416 (by decide) ?_
      refine V.icmp_ge hC 447 dL_law_418 (by decide) (fun c_1 => ?_) (fun c_1 => ?_)
      · have hke : i = 5 := by have := (dk_gek (k := i + 1) (by omega)).mp c_1; rw [show ix 6 = 6 from by decide] at this; omega
        subst hke
        exact V.sub (dk_sc rfl (dk_sc rfl (dk_sc rfl (dk_sc rfl (dk_sc rfl (dk_sc rfl (dk_sc rfl (dk_sc rfl (dk_sc rfl (dk_sc rfl (dk_sc rfl (dk_sc rfl (dk_sc rfl (dk_sn)))))))))))))) (loop_447 1 k v h1 h2 hv (by omega))
      · have hkl : i < 5 := by have := mt (dk_gek (k := i + 1) (by omega)).mpr c_1; rw [show ix 6 = 6 from by decide] at this; omega
        refine V.iload hC dL_law_421 rfl ?_
        refine V.aload_n hC dL_law_423 rfl ?_
        refine V.bipush hC 10 dL_law_424 (by decide) ?_
        refine V.iload hC dL_law_426 rfl ?_
        refine V.iadd hC dL_law_428 ?_
        refine V.ialdLN hC ((10) + (i + 1)) hq (dk_addN (rfl) (rfl)) (by omega) dL_law_429 ?_
        refine V.if_ge hC 437 dL_law_430 (by decide) (fun c_2 => ?_) (fun c_2 => ?_)
        · refine V.iconst hC 1 dL_law_437 (by decide) ?_
          refine V.iadd hC dL_law_438 ?_
          refine V.top (x' := .int (nI (lKyN M q (i + 1) + 1))) (by first | (rw [kyn_t c_2, nI_1]) | (rw [kyn_f c_2, p0])) ?_
          refine V.istore hC dL_law_439 rfl rfl ?_
          refine V.iinc hC dL_law_441 rfl (dk_incN _) rfl ?_
          refine V.goto hC 414 dL_law_444 (by decide) ?_
          exact V.sub (dk_sc rfl (dk_sc rfl (dk_sc rfl (dk_sc rfl (dk_sc rfl (dk_sc rfl (dk_sc rfl (dk_sc rfl (dk_sc rfl (dk_sc rfl (dk_sc rfl (dk_sc rfl (dk_sc rfl (dk_sc rfl (dk_sn))))))))))))))) (ih_414 k (i + 1) v h1 h2 hv (by omega) (by omega))
        · refine V.iconst hC 0 dL_law_433 (by decide) ?_
          refine V.goto hC 438 dL_law_434 (by decide) ?_
          refine V.iadd hC dL_law_438 ?_
          refine V.top (x' := .int (nI (lKyN M q (i + 1) + 1))) (by first | (rw [kyn_t c_2, nI_1]) | (rw [kyn_f c_2, p0])) ?_
          refine V.istore hC dL_law_439 rfl rfl ?_
          refine V.iinc hC dL_law_441 rfl (dk_incN _) rfl ?_
          refine V.goto hC 414 dL_law_444 (by decide) ?_
          exact V.sub (dk_sc rfl (dk_sc rfl (dk_sc rfl (dk_sc rfl (dk_sc rfl (dk_sc rfl (dk_sc rfl (dk_sc rfl (dk_sc rfl (dk_sc rfl (dk_sc rfl (dk_sc rfl (dk_sc rfl (dk_sc rfl (dk_sn))))))))))))))) (ih_414 k (i + 1) v h1 h2 hv (by omega) (by omega))
  have loop_408 : ∀ (n : Nat) (k : Nat) (v : Int32), (1 ≤ k) → (k ≤ 5) → (0 ≤ v.toInt ∧ v.toInt ≤ 65535) → (0 < n) →  V E G 18 T (M) 408 [(0, some (.ref b)), (1, some (.ref (G.1 + 0))), (2, some (.ref (G.1 + q))), (3, some (.ref (G.1 + d))), (4, some (.ref (G.1 + c))), (5, some (.ref (G.1 + w))), (6, some (.ref (G.1 + j))), (7, some (.int tn)), (9, some (.int y)), (13, some (.int (nI k))), (14, some (.int v)), (15, some (.int (bI (lIs M q k))))] [] := by
    intro n
    induction n with
    | zero => intro k v h1 h2 hv hn; exact absurd hn (by omega)
    | succ n ih_408 =>
      intro k v h1 h2 hv hn
      refine V.iconst hC 1 dL_law_408 (by decide) ?_
      refine V.istore hC dL_law_409 rfl rfl ?_
      refine V.iconst hC 1 dL_law_411 (by decide) ?_
      refine V.istore hC dL_law_412 rfl rfl ?_
      exact V.sub (dk_sc rfl (dk_sc rfl (dk_sc rfl (dk_sc rfl (dk_sc rfl (dk_sc rfl (dk_sc rfl (dk_sc rfl (dk_sc rfl (dk_sc rfl (dk_sc rfl (dk_sc rfl (dk_sc rfl (dk_sc rfl (dk_sn))))))))))))))) (loop_414 6 k 0 v h1 h2 hv (Nat.zero_le _) (by omega))
  refine V.iconst hC 1 dL_law_368 (by decide) ?_
  refine V.iload hC dL_law_369 rfl ?_
  refine V.iconst hC 4 dL_law_371 (by decide) ?_
  refine V.ishr hC dL_law_372 ?_
  refine V.iconst hC 5 dL_law_373 (by decide) ?_
  refine V.callS2i hC (c_L_low (show ¬ (5 : Int32) = 0 by decide)) mwL_low mlL_80 ⟨rfl, rfl⟩ dL_law_374 rfl ?_
  refine V.iadd hC dL_law_377 ?_
  have hk := low_p (v := y >>> (4 &&& 31)) (n := 5) (p := 1) (a := 5) (c := 1) (by decide) (by decide) (by decide) (by decide) (by decide)
  generalize (1 : Int32) + lLow (y >>> (4 &&& 31)) 5 = kk at *
  obtain ⟨k, rfl, h1, h2⟩ := nat5 hk
  refine V.istore hC dL_law_378 rfl rfl ?_
  refine V.iload hC dL_law_380 rfl ?_
  refine V.iconst hC 3 dL_law_382 (by decide) ?_
  refine V.ishr hC dL_law_383 ?_
  refine V.ldc hC klL_117 dL_law_384 ?_
  refine V.callS2i hC (c_L_low (show ¬ (65536 : Int32) = 0 by decide)) mwL_low mlL_80 ⟨rfl, rfl⟩ dL_law_386 rfl ?_
  have hv := low_i (v := x >>> (3 &&& 31)) (n := 65536) (a := 65536) (by decide) (by decide)
  generalize lLow (x >>> (3 &&& 31)) 65536 = v at *
  replace hv : 0 ≤ v.toInt ∧ v.toInt ≤ 65535 := by omega
  refine V.istore hC dL_law_389 rfl rfl ?_
  refine V.aload_n hC dL_law_391 rfl ?_
  refine V.bipush hC 10 dL_law_392 (by decide) ?_
  refine V.iload hC dL_law_394 rfl ?_
  refine V.iadd hC dL_law_396 ?_
  refine V.ialdLN hC (10 + k) hq (dk_addN (rfl) (rfl)) (by omega) dL_law_397 ?_
  refine V.if_lt hC 405 dL_law_398 (by decide) (fun c_1 => ?_) (fun c_1 => ?_)
  · refine V.iconst hC 0 dL_law_405 (by decide) ?_
    refine V.top (x' := .int (bI (lIs M q k))) (by first | (rw [lIs_1 c_1]; rfl) | (rw [lIs_2 c_1]; rfl)) ?_
    refine V.istore hC dL_law_406 rfl rfl ?_
    exact V.sub (dk_sc rfl (dk_sc rfl (dk_sc rfl (dk_sc rfl (dk_sc rfl (dk_sc rfl (dk_sc rfl (dk_sc rfl (dk_sc rfl (dk_sc rfl (dk_sc rfl (dk_sc rfl (dk_sn))))))))))))) (loop_408 1 k v h1 h2 hv (by omega))
  · refine V.iconst hC 1 dL_law_401 (by decide) ?_
    refine V.goto hC 406 dL_law_402 (by decide) ?_
    refine V.top (x' := .int (bI (lIs M q k))) (by first | (rw [lIs_1 c_1]; rfl) | (rw [lIs_2 c_1]; rfl)) ?_
    refine V.istore hC dL_law_406 rfl rfl ?_
    exact V.sub (dk_sc rfl (dk_sc rfl (dk_sc rfl (dk_sc rfl (dk_sc rfl (dk_sc rfl (dk_sc rfl (dk_sc rfl (dk_sc rfl (dk_sc rfl (dk_sc rfl (dk_sc rfl (dk_sn))))))))))))) (loop_408 1 k v h1 h2 hv (by omega))
