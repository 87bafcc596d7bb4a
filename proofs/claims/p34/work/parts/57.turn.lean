/-! one turn of the law, its beginning, its loop -/
set_option maxHeartbeats 2000000 in
set_option maxRecDepth 20000 in
theorem law_turn {E : dkE} {G : dkG} {T : dkT} {M N : dkM} {q d c w j b : Nat} {L t : Nat} {xs : Nat → Int32} (hC : dk_Cx E G cL_law 18 RL (some .boolean) 9 322) (hA : dk_Al E G) (hr : dk_rm E 4 76) (hG : dk_cls G) (hq : lA G q 16) (hd : lA G d 20) (hc : lA G c 20) (hw : lA G w 20) (hj : lA G j 20) (D : lD q d c w j) (h111 : 111 ≤ q ∧ 111 ≤ d ∧ 111 ≤ c ∧ 111 ≤ w ∧ 111 ≤ j) (Sm : Sim M N) (r : LR M q d c w j (N 112)) (S : dk_Sc E b L xs) (hL : L < 2 ^ 31) (ht : t < 40) (K : ∀ (y : Int32) (M' N' : dkM), Sim M' N' → LR M' q d c w j (N' 112) → V (dk_more E 4 76) G 18 T M' 1387 [(0, some (.ref b)), (1, some (.ref (G.1 + 0))), (2, some (.ref (G.1 + q))), (3, some (.ref (G.1 + d))), (4, some (.ref (G.1 + c))), (5, some (.ref (G.1 + w))), (6, some (.ref (G.1 + j))), (7, some (.int (nI t))), (9, some (.int y))] []) (K2 : V E G 18 T M 1408 [(0, some (.ref b)), (1, some (.ref (G.1 + 0))), (2, some (.ref (G.1 + q))), (3, some (.ref (G.1 + d))), (4, some (.ref (G.1 + c))), (5, some (.ref (G.1 + w))), (6, some (.ref (G.1 + j))), (7, some (.int (nI t)))] []) : V E G 18 T M 146 [(0, some (.ref b)), (1, some (.ref (G.1 + 0))), (2, some (.ref (G.1 + q))), (3, some (.ref (G.1 + d))), (4, some (.ref (G.1 + c))), (5, some (.ref (G.1 + w))), (6, some (.ref (G.1 + j))), (7, some (.int (nI t)))] [] := by
  have h00 : ¬ M q 0 = 0 := fun z => by
    have e0 := r.k (k := 0) (by decide) (by decide)
    have a1 := Sm.ds.a.1.2
    rw [← e0, z] at a1
    exact absurd a1.1 (by decide)
  have loop_237 : ∀ (n : Nat) (x y kd : Int32) (sc : Nat), (sc < ix (N 112 0)) → (0 < n) →  V E G 18 T (M) 237 [(0, some (.ref b)), (1, some (.ref (G.1 + 0))), (2, some (.ref (G.1 + q))), (3, some (.ref (G.1 + d))), (4, some (.ref (G.1 + c))), (5, some (.ref (G.1 + w))), (6, some (.ref (G.1 + j))), (7, some (.int (nI t))), (8, some (.int x)), (9, some (.int y)), (10, some (.int kd)), (11, some (.int (nI sc))), (12, some (.int (bI (mOpen N))))] [] := by
    intro n
    induction n with
    | zero => intro x y kd sc hsc hn; exact absurd hn (by omega)
    | succ n ih_237 =>
      intro x y kd sc hsc hn
      refine V.iload hC dL_law_237 rfl ?_
      refine V.if_ne hC 362 dL_law_239 (by decide) (fun c_1 => ?_) (fun c_1 => ?_)
      · refine V.iload hC dL_law_362 rfl ?_
        refine V.iconst hC 1 dL_law_364 (by decide) ?_
        refine V.icmp_ne hC 499 dL_law_365 (by decide) (fun c_2 => ?_) (fun c_2 => ?_)
        · refine V.iload hC dL_law_499 rfl ?_
          refine V.iconst hC 2 dL_law_501 (by decide) ?_
          refine V.icmp_ne hC 650 dL_law_502 (by decide) (fun c_3 => ?_) (fun c_3 => ?_)
          · refine V.iload hC dL_law_650 rfl ?_
            refine V.bipush hC 6 dL_law_652 (by decide) ?_
            refine V.icmp_ge hC 745 dL_law_654 (by decide) (fun c_4 => ?_) (fun c_4 => ?_)
            · refine V.iload hC dL_law_745 rfl ?_
              refine V.bipush hC 8 dL_law_747 (by decide) ?_
              refine V.icmp_ge hC 855 dL_law_749 (by decide) (fun c_5 => ?_) (fun c_5 => ?_)
              · refine V.iload hC dL_law_855 rfl ?_
                refine V.bipush hC 10 dL_law_857 (by decide) ?_
                refine V.icmp_ge hC 983 dL_law_859 (by decide) (fun c_6 => ?_) (fun c_6 => ?_)
                · refine V.iload hC dL_law_983 rfl ?_
                  refine V.bipush hC 14 dL_law_985 (by decide) ?_
                  refine V.icmp_ge hC 1081 dL_law_987 (by decide) (fun c_7 => ?_) (fun c_7 => ?_)
                  · refine V.iload hC dL_law_1081 rfl ?_
                    refine V.bipush hC 14 dL_law_1083 (by decide) ?_
                    refine V.icmp_ne hC 1162 dL_law_1085 (by decide) (fun c_8 => ?_) (fun c_8 => ?_)
                    · refine V.iload hC dL_law_1162 rfl ?_
                      refine V.bipush hC 15 dL_law_1164 (by decide) ?_
                      refine V.icmp_ne hC 1288 dL_law_1166 (by decide) (fun c_9 => ?_) (fun c_9 => ?_)
                      · exact V.sub (dk_sc rfl (dk_sc rfl (dk_sc rfl (dk_sc rfl (dk_sc rfl (dk_sc rfl (dk_sc rfl (dk_sc rfl (dk_sc rfl (dk_sc rfl (dk_sc rfl (dk_sc rfl (dk_sc rfl (dk_sn)))))))))))))) (law_num hC hA hr hG hq hd hc hw hj D h111 Sm r hsc (K y))
                      · exact V.sub (dk_sc rfl (dk_sc rfl (dk_sc rfl (dk_sc rfl (dk_sc rfl (dk_sc rfl (dk_sc rfl (dk_sc rfl (dk_sc rfl (dk_sc rfl (dk_sc rfl (dk_sc rfl (dk_sc rfl (dk_sn)))))))))))))) (law_fail8 hC hA hr hG hq hd hc hw hj D h111 Sm r hsc (K y))
                    · exact V.sub (dk_sc rfl (dk_sc rfl (dk_sc rfl (dk_sc rfl (dk_sc rfl (dk_sc rfl (dk_sc rfl (dk_sc rfl (dk_sc rfl (dk_sc rfl (dk_sc rfl (dk_sc rfl (dk_sc rfl (dk_sn)))))))))))))) (law_turn7 hC hA hr hG hq hd hc hw hj D h111 Sm r hsc (K y))
                  · exact V.sub (dk_sc rfl (dk_sc rfl (dk_sc rfl (dk_sc rfl (dk_sc rfl (dk_sc rfl (dk_sc rfl (dk_sc rfl (dk_sc rfl (dk_sc rfl (dk_sc rfl (dk_sc rfl (dk_sc rfl (dk_sn)))))))))))))) (law_steps hC hA hr hG hq hd hc hw hj D h111 Sm r hsc (K y))
                · exact V.sub (dk_sc rfl (dk_sc rfl (dk_sc rfl (dk_sc rfl (dk_sc rfl (dk_sc rfl (dk_sc rfl (dk_sc rfl (dk_sc rfl (dk_sc rfl (dk_sc rfl (dk_sc rfl (dk_sc rfl (dk_sn)))))))))))))) (law_start hC hA hr hG hq hd hc hw hj D h111 Sm r hsc (K y))
              · exact V.sub (dk_sc rfl (dk_sc rfl (dk_sc rfl (dk_sc rfl (dk_sc rfl (dk_sc rfl (dk_sc rfl (dk_sc rfl (dk_sc rfl (dk_sc rfl (dk_sc rfl (dk_sc rfl (dk_sc rfl (dk_sn)))))))))))))) (law_flush hC hA hr hG hq hd hc hw hj D h111 Sm r hsc (K y))
            · exact V.sub (dk_sc rfl (dk_sc rfl (dk_sc rfl (dk_sc rfl (dk_sc rfl (dk_sc rfl (dk_sc rfl (dk_sc rfl (dk_sc rfl (dk_sc rfl (dk_sc rfl (dk_sc rfl (dk_sc rfl (dk_sn)))))))))))))) (law_write hC hA hr hG hq hd hc hw hj D h111 Sm r hsc (K y))
          · exact V.sub (dk_sc rfl (dk_sc rfl (dk_sc rfl (dk_sc rfl (dk_sc rfl (dk_sc rfl (dk_sc rfl (dk_sc rfl (dk_sc rfl (dk_sc rfl (dk_sc rfl (dk_sc rfl (dk_sc rfl (dk_sn)))))))))))))) (law_rem hC hA hr hG hq hd hc hw hj D h111 Sm r hsc (K y))
        · exact V.sub (dk_sc rfl (dk_sc rfl (dk_sc rfl (dk_sc rfl (dk_sc rfl (dk_sc rfl (dk_sc rfl (dk_sc rfl (dk_sc rfl (dk_sc rfl (dk_sc rfl (dk_sc rfl (dk_sc rfl (dk_sn)))))))))))))) (law_add hC hA hr hG hq hd hc hw hj D h111 Sm r hsc (K y))
      · exact V.sub (dk_sc rfl (dk_sc rfl (dk_sc rfl (dk_sc rfl (dk_sc rfl (dk_sc rfl (dk_sc rfl (dk_sc rfl (dk_sc rfl (dk_sc rfl (dk_sc rfl (dk_sc rfl (dk_sc rfl (dk_sn)))))))))))))) (law_format hC hA hr hG hq hd hc hw hj D h111 Sm r hsc (K y) K2)
  have loop_207 : ∀ (n : Nat) (x y kd : Int32), (0 < n) →  V E G 18 T (M) 207 [(0, some (.ref b)), (1, some (.ref (G.1 + 0))), (2, some (.ref (G.1 + q))), (3, some (.ref (G.1 + d))), (4, some (.ref (G.1 + c))), (5, some (.ref (G.1 + w))), (6, some (.ref (G.1 + j))), (7, some (.int (nI t))), (8, some (.int x)), (9, some (.int y)), (10, some (.int kd))] [] := by
    intro n
    induction n with
    | zero => intro x y kd hn; exact absurd hn (by omega)
    | succ n ih_207 =>
      intro x y kd hn
      refine V.iload hC dL_law_207 rfl ?_
      refine V.aload_n hC dL_law_209 rfl ?_
      refine V.iconst hC 0 dL_law_210 (by decide) ?_
      refine V.ialdLN hC (0) hq (rfl) (by omega) dL_law_211 ?_
      refine V.callS2i hC (c_L_low h00) mwL_low mlL_80 ⟨rfl, rfl⟩ dL_law_212 rfl ?_
      obtain ⟨sc, hsc0, hsc⟩ := low_sc Sm.ds r y
      rw [hsc0]
      refine V.istore hC dL_law_215 rfl rfl ?_
      refine V.aload_n hC dL_law_217 rfl ?_
      refine V.iconst hC 5 dL_law_218 (by decide) ?_
      refine V.ialdLN hC (5) hq (rfl) (by omega) dL_law_219 ?_
      refine V.if_gt hC 230 dL_law_220 (by decide) (fun c_1 => ?_) (fun c_1 => ?_)
      · refine V.iconst hC 1 dL_law_230 (by decide) ?_
        refine V.goto hC 235 dL_law_231 (by decide) ?_
        refine V.top (x' := .int (bI (mOpen N))) (by first | (rw [(r.opn Sm.ds).mp (Or.inl c_1)]; rfl) | (rw [(r.opn Sm.ds).mp (Or.inr (dk_nle c_2))]; rfl) | (rw [r.opf Sm.ds c_1 (dk_le1 c_2)]; rfl)) ?_
        refine V.istore hC dL_law_235 rfl rfl ?_
        exact V.sub (dk_sc rfl (dk_sc rfl (dk_sc rfl (dk_sc rfl (dk_sc rfl (dk_sc rfl (dk_sc rfl (dk_sc rfl (dk_sc rfl (dk_sc rfl (dk_sc rfl (dk_sc rfl (dk_sc rfl (dk_sn)))))))))))))) (loop_237 1 x y kd sc hsc (by omega))
      · refine V.aload_n hC dL_law_223 rfl ?_
        refine V.bipush hC 6 dL_law_224 (by decide) ?_
        refine V.ialdLN hC (6) hq (rfl) (by omega) dL_law_226 ?_
        refine V.if_le hC 234 dL_law_227 (by decide) (fun c_2 => ?_) (fun c_2 => ?_)
        · refine V.iconst hC 0 dL_law_234 (by decide) ?_
          refine V.top (x' := .int (bI (mOpen N))) (by first | (rw [(r.opn Sm.ds).mp (Or.inl c_1)]; rfl) | (rw [(r.opn Sm.ds).mp (Or.inr (dk_nle c_2))]; rfl) | (rw [r.opf Sm.ds c_1 (dk_le1 c_2)]; rfl)) ?_
          refine V.istore hC dL_law_235 rfl rfl ?_
          exact V.sub (dk_sc rfl (dk_sc rfl (dk_sc rfl (dk_sc rfl (dk_sc rfl (dk_sc rfl (dk_sc rfl (dk_sc rfl (dk_sc rfl (dk_sc rfl (dk_sc rfl (dk_sc rfl (dk_sc rfl (dk_sn)))))))))))))) (loop_237 1 x y kd sc hsc (by omega))
        · refine V.iconst hC 1 dL_law_230 (by decide) ?_
          refine V.goto hC 235 dL_law_231 (by decide) ?_
          refine V.top (x' := .int (bI (mOpen N))) (by first | (rw [(r.opn Sm.ds).mp (Or.inl c_1)]; rfl) | (rw [(r.opn Sm.ds).mp (Or.inr (dk_nle c_2))]; rfl) | (rw [r.opf Sm.ds c_1 (dk_le1 c_2)]; rfl)) ?_
          refine V.istore hC dL_law_235 rfl rfl ?_
          exact V.sub (dk_sc rfl (dk_sc rfl (dk_sc rfl (dk_sc rfl (dk_sc rfl (dk_sc rfl (dk_sc rfl (dk_sc rfl (dk_sc rfl (dk_sc rfl (dk_sc rfl (dk_sc rfl (dk_sc rfl (dk_sn)))))))))))))) (loop_237 1 x y kd sc hsc (by omega))
  refine V.aload_n hC dL_law_146 rfl ?_
  refine V.iconst hC 2 dL_law_147 (by decide) ?_
  refine V.iload hC dL_law_148 rfl ?_
  refine V.imul hC dL_law_150 ?_
  refine V.cell hC S (k := 2 * t) (by omega) hL mlL_110 ⟨rfl, rfl⟩ dL_law_151 rfl (dk_mulN rfl rfl) (fun x => ?_)
  refine V.istore hC dL_law_154 rfl rfl ?_
  refine V.aload_n hC dL_law_156 rfl ?_
  refine V.iconst hC 2 dL_law_157 (by decide) ?_
  refine V.iload hC dL_law_158 rfl ?_
  refine V.imul hC dL_law_160 ?_
  refine V.iconst hC 1 dL_law_161 (by decide) ?_
  refine V.iadd hC dL_law_162 ?_
  refine V.cell hC S (k := 2 * t + 1) (by omega) hL mlL_110 ⟨rfl, rfl⟩ dL_law_163 rfl (dk_addN (dk_mulN rfl rfl) rfl) (fun y => ?_)
  refine V.istore hC dL_law_166 rfl rfl ?_
  refine V.iload hC dL_law_168 rfl ?_
  refine V.if_ne hC 177 dL_law_170 (by decide) (fun c_1 => ?_) (fun c_1 => ?_)
  · refine V.iload hC dL_law_177 rfl ?_
    refine V.iconst hC 4 dL_law_179 (by decide) ?_
    refine V.icmp_ge hC 187 dL_law_180 (by decide) (fun c_2 => ?_) (fun c_2 => ?_)
    · refine V.iload hC dL_law_187 rfl ?_
      refine V.bipush hC 7 dL_law_189 (by decide) ?_
      refine V.icmp_ge hC 198 dL_law_191 (by decide) (fun c_3 => ?_) (fun c_3 => ?_)
      · refine V.iload hC dL_law_198 rfl ?_
        refine V.bipush hC 18 dL_law_200 (by decide) ?_
        refine V.callS2i hC (c_L_low (show ¬ (18 : Int32) = 0 by decide)) mwL_low mlL_80 ⟨rfl, rfl⟩ dL_law_202 rfl ?_
        refine V.istore hC dL_law_205 rfl rfl ?_
        exact V.sub (dk_sc rfl (dk_sc rfl (dk_sc rfl (dk_sc rfl (dk_sc rfl (dk_sc rfl (dk_sc rfl (dk_sc rfl (dk_sc rfl (dk_sc rfl (dk_sc rfl (dk_sn)))))))))))) (loop_207 1 x y _ (by omega))
      · refine V.iconst hC 3 dL_law_194 (by decide) ?_
        refine V.goto hC 205 dL_law_195 (by decide) ?_
        refine V.istore hC dL_law_205 rfl rfl ?_
        exact V.sub (dk_sc rfl (dk_sc rfl (dk_sc rfl (dk_sc rfl (dk_sc rfl (dk_sc rfl (dk_sc rfl (dk_sc rfl (dk_sc rfl (dk_sc rfl (dk_sc rfl (dk_sn)))))))))))) (loop_207 1 x y _ (by omega))
    · refine V.iconst hC 1 dL_law_183 (by decide) ?_
      refine V.goto hC 205 dL_law_184 (by decide) ?_
      refine V.istore hC dL_law_205 rfl rfl ?_
      exact V.sub (dk_sc rfl (dk_sc rfl (dk_sc rfl (dk_sc rfl (dk_sc rfl (dk_sc rfl (dk_sc rfl (dk_sc rfl (dk_sc rfl (dk_sc rfl (dk_sc rfl (dk_sn)))))))))))) (loop_207 1 x y _ (by omega))
  · refine V.iconst hC 0 dL_law_173 (by decide) ?_
    refine V.goto hC 205 dL_law_174 (by decide) ?_
    refine V.istore hC dL_law_205 rfl rfl ?_
    exact V.sub (dk_sc rfl (dk_sc rfl (dk_sc rfl (dk_sc rfl (dk_sc rfl (dk_sc rfl (dk_sc rfl (dk_sc rfl (dk_sc rfl (dk_sc rfl (dk_sc rfl (dk_sn)))))))))))) (loop_207 1 x y _ (by omega))
set_option maxHeartbeats 2000000 in
set_option maxRecDepth 20000 in
theorem law_init {E : dkE} {G : dkG} {T : dkT} {M : dkM} {q d c w j b : Nat} (hC : dk_Cx E G cL_law 18 RL (some .boolean) 9 322) (hq : lA G q 16) (hd : lA G d 20) (hc : lA G c 20) (hw : lA G w 20) (hj : lA G j 20) (D : lD q d c w j) (h111 : 111 ≤ q ∧ 111 ≤ d ∧ 111 ≤ c ∧ 111 ≤ w ∧ 111 ≤ j) (hx : ∀ a, a < 111 → M a = x0 a) (hz : ∀ a b, a = q ∨ a = w → M a b = 0) (K : ∀ M' : dkM, Sim M' m0 → LR M' q d c w j (m0 112) → V E G 18 T M' 139 [(0, some (.ref b)), (1, some (.ref (G.1 + 0))), (2, some (.ref (G.1 + q))), (3, some (.ref (G.1 + d))), (4, some (.ref (G.1 + c))), (5, some (.ref (G.1 + w))), (6, some (.ref (G.1 + j))), (7, some (.int (nI 0)))] []) : V E G 18 T M 36 [(0, some (.ref b)), (1, some (.ref (G.1 + 0))), (2, some (.ref (G.1 + q))), (3, some (.ref (G.1 + d))), (4, some (.ref (G.1 + c))), (5, some (.ref (G.1 + w))), (6, some (.ref (G.1 + j)))] [] := by
  obtain ⟨g1, g2, g3, g4, g5⟩ := h111
  have loop_98 : ∀ (n : Nat) (k : Nat), (k ≤ 20) → (20 < k + n) →  V E G 18 T (iq2 M q d c j k) 98 [(0, some (.ref b)), (1, some (.ref (G.1 + 0))), (2, some (.ref (G.1 + q))), (3, some (.ref (G.1 + d))), (4, some (.ref (G.1 + c))), (5, some (.ref (G.1 + w))), (6, some (.ref (G.1 + j))), (7, some (.int (nI k)))] [] := by
    intro n
    induction n with
    | zero => intro k hk hn; exact absurd hn (by omega)
    | succ n ih_98 =>
      intro k hk hn
      refine V.iload hC dL_law_98 rfl ?_
      refine V.bipush hC 20 dL_law_100 (by decide) ?_
      refine V.icmp_ge hC 136 dL_law_102 (by decide) (fun c_1 => ?_) (fun c_1 => ?_)
      · have hke : k = 20 := by have := (dk_gek (k := k) (by omega)).mp c_1; rw [show ix 20 = 20 from by decide] at this; omega
        subst hke
        have hL : LR (iq2 M q d c j 20) q d c w j (m0 112) := LR.ini D hz
        have hS : Sim (iq2 M q d c j 20) m0 := sim_0.keep (fun a h1 h2 => by
          have e : iq2 M q d c j 20 a = iq1 M q 4 a := by funext b9; exact (iq2_st D 20 b9).1 a (by omega) (by omega) (by omega)
          rw [e, iq1_ne (by omega)]
          exact hx a h1)
        refine V.iconst hC 0 dL_law_136 (by decide) ?_
        refine V.istore hC dL_law_137 rfl rfl ?_
        exact V.sub (dk_sc rfl (dk_sc rfl (dk_sc rfl (dk_sc rfl (dk_sc rfl (dk_sc rfl (dk_sc rfl (dk_sc rfl (dk_sn))))))))) (K _ hS hL)
      · have hkl : k < 20 := by have := mt (dk_gek (k := k) (by omega)).mpr c_1; rw [show ix 20 = 20 from by decide] at this; omega
        refine V.aload_n hC dL_law_105 rfl ?_
        refine V.iload hC dL_law_106 rfl ?_
        refine V.iconst hC 0 dL_law_108 (by decide) ?_
        refine V.iload hC dL_law_109 rfl ?_
        refine V.iconst hC 0 dL_law_111 (by decide) ?_
        refine V.callS3i hC (c_L_mix) mwL_mix mlL_26 ⟨rfl, rfl⟩ dL_law_112 rfl ?_
        refine V.iastLN hC (k) hd (rfl) (by omega) dL_law_115 ?_
        refine V.aload hC dL_law_116 rfl ?_
        refine V.iload hC dL_law_118 rfl ?_
        refine V.bipush hC (-6) dL_law_120 (by decide) ?_
        refine V.iastLN hC (k) hc (rfl) (by omega) dL_law_122 ?_
        refine V.aload hC dL_law_123 rfl ?_
        refine V.iload hC dL_law_125 rfl ?_
        refine V.bipush hC (-6) dL_law_127 (by decide) ?_
        refine V.iastLN hC (k) hj (rfl) (by omega) dL_law_129 ?_
        refine V.iinc hC dL_law_130 rfl (dk_incN _) rfl ?_
        refine V.goto hC 98 dL_law_133 (by decide) ?_
        refine V.eqM (by show _ = iq2 M q d c j (k + 1); rfl) ?_
        exact V.sub (dk_sc rfl (dk_sc rfl (dk_sc rfl (dk_sc rfl (dk_sc rfl (dk_sc rfl (dk_sc rfl (dk_sc rfl (dk_sn))))))))) (ih_98 (k + 1) (by omega) (by omega))
  have loop_73 : ∀ (n : Nat) (i : Nat), (i ≤ 4) → (4 < i + n) →  V E G 18 T (iq1 M q i) 73 [(0, some (.ref b)), (1, some (.ref (G.1 + 0))), (2, some (.ref (G.1 + q))), (3, some (.ref (G.1 + d))), (4, some (.ref (G.1 + c))), (5, some (.ref (G.1 + w))), (6, some (.ref (G.1 + j))), (7, some (.int (nI (i + 2))))] [] := by
    intro n
    induction n with
    | zero => intro i hi hn; exact absurd hn (by omega)
    | succ n ih_73 =>
      intro i hi hn
      refine V.iload hC dL_law_73 rfl ?_
      refine V.bipush hC 6 dL_law_75 (by decide) ?_
      refine V.icmp_ge hC 95 dL_law_77 (by decide) (fun c_1 => ?_) (fun c_1 => ?_)
      · have hke : i = 4 := by have := (dk_gek (k := i + 2) (by omega)).mp c_1; rw [show ix 6 = 6 from by decide] at this; omega
        subst hke
        refine V.iconst hC 0 dL_law_95 (by decide) ?_
        refine V.istore hC dL_law_96 rfl rfl ?_
        refine V.eqM (by show _ = iq2 M q d c j 0; rfl) ?_
        exact V.sub (dk_sc rfl (dk_sc rfl (dk_sc rfl (dk_sc rfl (dk_sc rfl (dk_sc rfl (dk_sc rfl (dk_sc rfl (dk_sn))))))))) (loop_98 21 0 (Nat.zero_le _) (by omega))
      · have hkl : i < 4 := by have := mt (dk_gek (k := i + 2) (by omega)).mpr c_1; rw [show ix 6 = 6 from by decide] at this; omega
        refine V.aload_n hC dL_law_80 rfl ?_
        refine V.bipush hC 10 dL_law_81 (by decide) ?_
        refine V.iload hC dL_law_83 rfl ?_
        refine V.iadd hC dL_law_85 ?_
        refine V.bipush hC (-6) dL_law_86 (by decide) ?_
        refine V.iastLN hC ((10) + (i + 2)) hq (dk_addN (rfl) (rfl)) (by omega) dL_law_88 ?_
        refine V.iinc hC dL_law_89 rfl (dk_incN _) rfl ?_
        refine V.goto hC 73 dL_law_92 (by decide) ?_
        refine V.eqM (by show _ = iq1 M q (i + 1); rfl) ?_
        exact V.sub (dk_sc rfl (dk_sc rfl (dk_sc rfl (dk_sc rfl (dk_sc rfl (dk_sc rfl (dk_sc rfl (dk_sc rfl (dk_sn))))))))) (ih_73 (i + 1) (by omega) (by omega))
  refine V.aload_n hC dL_law_36 rfl ?_
  refine V.iconst hC 0 dL_law_37 (by decide) ?_
  refine V.bipush hC 16 dL_law_38 (by decide) ?_
  refine V.iastLN hC (0) hq (rfl) (by omega) dL_law_40 ?_
  refine V.aload_n hC dL_law_41 rfl ?_
  refine V.iconst hC 1 dL_law_42 (by decide) ?_
  refine V.iconst hC 1 dL_law_43 (by decide) ?_
  refine V.iastLN hC (1) hq (rfl) (by omega) dL_law_44 ?_
  refine V.aload_n hC dL_law_45 rfl ?_
  refine V.iconst hC 2 dL_law_46 (by decide) ?_
  refine V.bipush hC (-6) dL_law_47 (by decide) ?_
  refine V.iastLN hC (2) hq (rfl) (by omega) dL_law_49 ?_
  refine V.aload_n hC dL_law_50 rfl ?_
  refine V.iconst hC 3 dL_law_51 (by decide) ?_
  refine V.bipush hC (-6) dL_law_52 (by decide) ?_
  refine V.iastLN hC (3) hq (rfl) (by omega) dL_law_54 ?_
  refine V.aload_n hC dL_law_55 rfl ?_
  refine V.iconst hC 4 dL_law_56 (by decide) ?_
  refine V.bipush hC (-6) dL_law_57 (by decide) ?_
  refine V.iastLN hC (4) hq (rfl) (by omega) dL_law_59 ?_
  refine V.aload_n hC dL_law_60 rfl ?_
  refine V.bipush hC 7 dL_law_61 (by decide) ?_
  refine V.iconst hC 4 dL_law_63 (by decide) ?_
  refine V.iastLN hC (7) hq (rfl) (by omega) dL_law_64 ?_
  refine V.aload_n hC dL_law_65 rfl ?_
  refine V.bipush hC 8 dL_law_66 (by decide) ?_
  refine V.iconst hC 1 dL_law_68 (by decide) ?_
  refine V.iastLN hC (8) hq (rfl) (by omega) dL_law_69 ?_
  refine V.iconst hC 2 dL_law_70 (by decide) ?_
  refine V.istore hC dL_law_71 rfl rfl ?_
  refine V.eqM (by show _ = iq1 M q 0; rfl) ?_
  exact V.sub (dk_sc rfl (dk_sc rfl (dk_sc rfl (dk_sc rfl (dk_sc rfl (dk_sc rfl (dk_sc rfl (dk_sc rfl (dk_sn))))))))) (loop_73 5 0 (Nat.zero_le _) (by omega))
theorem law_loop {G : dkG} {T : dkT} {q d c w j b L : Nat} {xs : Nat → Int32} (hT : T.1 = some (.int 1)) (hL : L < 2 ^ 31) (hG : dk_cls G) (hq : lA G q 16) (hd : lA G d 20) (hc : lA G c 20) (hw : lA G w 20) (hj : lA G j 20) (D : lD q d c w j) (h111 : 111 ≤ q ∧ 111 ≤ d ∧ 111 ≤ c ∧ 111 ≤ w ∧ 111 ≤ j) : ∀ (n t : Nat) (E : dkE) (M N : dkM), n + t = 40 → dk_Cx E G cL_law 18 RL (some .boolean) 9 322 → dk_Al E G → dk_rm E (16 * n) (304 * n) → dk_T1 E → dk_Sc E b L xs → Sim M N → LR M q d c w j (N 112) → V E G 18 T M 139 [(0, some (.ref b)), (1, some (.ref (G.1 + 0))), (2, some (.ref (G.1 + q))), (3, some (.ref (G.1 + d))), (4, some (.ref (G.1 + c))), (5, some (.ref (G.1 + w))), (6, some (.ref (G.1 + j))), (7, some (.int (nI t)))] []
  | 0, t, E, M, N, ht, hC, hA, hrm, h1, S, Sm, r => by
    have h40 : t = 40 := by omega
    subst h40
    refine V.iload hC dL_law_139 rfl ?_
    refine V.bipush hC 40 dL_law_141 (by decide) ?_
    refine V.icmp_ge_t hC 1414 dL_law_143 (by decide) (by decide) ?_
    refine V.iconst hC 1 dL_law_1414 (by decide) ?_
    exact V.reT h1 hT (T' := (some (.int 1), M)) (V.zret hC rfl (by decide) dL_law_1415)
  | n + 1, t, E, M, N, ht, hC, hA, hrm, h1, S, Sm, r => by
    have t40 : t < 40 := by omega
    have hr4 : dk_rm E 4 76 := hrm.mono (by omega) (by omega)
    have hr12 : dk_rm (dk_more E 4 76) 12 228 := dk_rm.more (c := 4) (s := 76) (hrm.mono (by omega) (by omega))
    have hr16 : dk_rm (dk_more (dk_more E 4 76) 12 228) (16 * n) (304 * n) := dk_rm.more (c := 12) (s := 228) (dk_rm.more (c := 4) (s := 76) (hrm.mono (by omega) (by omega)))
    obtain ⟨hC1, hA1⟩ := dk_Cx.more hC hA hr4
    obtain ⟨hC2, hA2⟩ := dk_Cx.more hC1 hA1 hr12
    have row : ∀ (X : dkM) (n : Int32) a, 111 ≤ a → (xIfFail X n).2 a = X a := fun X n a ha => ifFail_ne X n (by omega)
    have keepS : ∀ (X N' : dkM) (n : Int32), Sim X N' → Sim (xIfFail X n).2 N' := fun X N' n hX => hX.keep (fun a h1 h2 => ifFail_ne X n h2)
    have keepL : ∀ (X N' : dkM) (n : Int32), LR X q d c w j (N' 112) → LR (xIfFail X n).2 q d c w j (N' 112) := fun X N' n hX => hX.keep (row X n q h111.1) (row X n d h111.2.1) (row X n c h111.2.2.1) (row X n w h111.2.2.2.1) (row X n j h111.2.2.2.2)
    have next : ∀ (M' N' : dkM), Sim M' N' → LR M' q d c w j (N' 112) → V (dk_more (dk_more E 4 76) 12 228) G 18 T M' 1408 [(0, some (.ref b)), (1, some (.ref (G.1 + 0))), (2, some (.ref (G.1 + q))), (3, some (.ref (G.1 + d))), (4, some (.ref (G.1 + c))), (5, some (.ref (G.1 + w))), (6, some (.ref (G.1 + j))), (7, some (.int (nI t)))] [] := fun M' N' hS hLr => by
      refine V.iinc hC2 dL_law_1408 rfl (dk_incN _) rfl ?_
      refine V.goto hC2 139 dL_law_1411 (by decide) ?_
      exact V.sub (dk_sc rfl (dk_sc rfl (dk_sc rfl (dk_sc rfl (dk_sc rfl (dk_sc rfl (dk_sc rfl (dk_sc rfl (dk_sn))))))))) (law_loop hT hL hG hq hd hc hw hj D h111 n (t + 1) _ M' N' (by omega) hC2 hA2 hr16 h1 S hS hLr)
    refine V.iload hC dL_law_139 rfl ?_
    refine V.bipush hC 40 dL_law_141 (by decide) ?_
    refine V.icmp_ge_f hC 1414 dL_law_143 (by decide) (fun z => ?_) ?_
    · have := (dk_gek (k := t) (by omega)).mp z
      rw [show ix 40 = 40 from by decide] at this
      omega
    refine V.sub ?_ (law_turn (b := b) hC hA hr4 hG hq hd hc hw hj D h111 Sm r S hL t40 (fun y M' N' hS hLr => ?_) ?_)
    · exact dk_sc rfl (dk_sc rfl (dk_sc rfl (dk_sc rfl (dk_sc rfl (dk_sc rfl (dk_sc rfl (dk_sc rfl (dk_sn))))))))
    · refine V.aload_n hC1 dL_law_1387 rfl ?_
      refine V.iload hC1 dL_law_1388 rfl ?_
      refine V.iconst hC1 3 dL_law_1390 (by decide) ?_
      refine V.ishr hC1 dL_law_1391 ?_
      refine V.aload_n hC1 dL_law_1392 rfl ?_
      refine V.aload_n hC1 dL_law_1393 rfl ?_
      refine V.aload hC1 dL_law_1394 rfl ?_
      refine V.aload hC1 dL_law_1396 rfl ?_
      refine V.aload hC1 dL_law_1398 rfl ?_
      refine V.callSA hC1 hA1 (c_L_same hG hq hd hc hw hj D h111 hS hLr) mwL_same mlL_147 (by omega) hr12 ⟨rfl, rfl⟩ dL_law_1400 rfl rfl rfl ?_
      refine V.if_ne_t hC2 1408 dL_law_1403 (by decide) (by decide) ?_
      exact V.sub (dk_sc rfl (dk_sc rfl (dk_sc rfl (dk_sc rfl (dk_sc rfl (dk_sc rfl (dk_sc rfl (dk_sc rfl (dk_sn))))))))) (next _ N' (keepS _ N' _ (keepS _ N' _ hS)) (keepL _ N' _ (keepL _ N' _ hLr)))
    · exact V.more (k := 4) (n := 76) (V.more (k := 12) (n := 228) (next M N Sm r))
