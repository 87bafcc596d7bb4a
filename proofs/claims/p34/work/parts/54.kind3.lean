/-! the acts, one by one: starting, steps, turning back -/
def lSt (M : dkM) (q k : Nat) : Bool := decide (0 ≤ M q (10 + k) ∧ ¬ 0 ≤ M q 2 ∧ ¬ nI k = M q 1)
theorem lSt_0 {M : dkM} {q k : Nat} (h : lIs M q k = false) : lSt M q k = false := decide_eq_false (fun z => lIs_f h z.1)
theorem lSt_1 {M : dkM} {q k : Nat} (h : 0 ≤ M q 2) : lSt M q k = false := decide_eq_false (fun z => z.2.1 h)
theorem lSt_2 {M : dkM} {q k : Nat} (h : nI k = M q 1) : lSt M q k = false := decide_eq_false (fun z => z.2.2 h)
theorem lSt_3 {M : dkM} {q k : Nat} (h : lIs M q k = true) (h2 : ¬ 0 ≤ M q 2) (h3 : ¬ nI k = M q 1) : lSt M q k = true := decide_eq_true ⟨lIs_t h, h2, h3⟩
theorem lSt_t {M : dkM} {q k : Nat} (h : lSt M q k = true) : 0 ≤ M q (10 + k) ∧ ¬ 0 ≤ M q 2 ∧ ¬ nI k = M q 1 := of_decide_eq_true h
theorem lSt_f {M : dkM} {q k : Nat} (hi : lIs M q k = true) (h : lSt M q k = false) : 0 ≤ M q 2 ∨ nI k = M q 1 := by
  have h2 := of_decide_eq_false h
  by_cases y : 0 ≤ M q 2
  · exact Or.inl y
  · by_cases z : nI k = M q 1
    · exact Or.inr z
    · exact absurd ⟨lIs_t hi, y, z⟩ h2
theorem st3 {M : dkM} {q k : Nat} : (lIs M q k = false ∧ lSt M q k = false) ∨ (lIs M q k = true ∧ lSt M q k = true) ∨ (lIs M q k = true ∧ lSt M q k = false) := by
  cases h : lIs M q k with
  | false => exact Or.inl ⟨rfl, lSt_0 h⟩
  | true => cases h2 : lSt M q k <;> simp
def lTb (N : dkM) : Bool := mRek N && !mOpen N
theorem st30 (y : Int32) : ∃ st : Int32, (1 : Int32) + lLow y 30 = st ∧ (1 ≤ st.toInt ∧ st.toInt ≤ 30) := ⟨_, rfl, by have := low_p (v := y) (n := 30) (p := 1) (a := 30) (c := 1) (by decide) (by decide) (by decide) (by decide) (by decide); exact ⟨this.1, by omega⟩⟩
theorem st05 (y : Int32) : ∃ st : Int32, (1 : Int32) + lLow y 5 = st ∧ (1 ≤ st.toInt ∧ st.toInt ≤ 30) := ⟨_, rfl, by have := low_p (v := y) (n := 5) (p := 1) (a := 5) (c := 1) (by decide) (by decide) (by decide) (by decide) (by decide); exact ⟨this.1, by omega⟩⟩
theorem rek_pos {M N Mx : dkM} {e q d c w j : Nat} (h : DS Mx e (N 112)) (r : LR M q d c w j (N 112)) : (M q 2 ≤ 0 → mRek N = false) ∧ (¬ M q 2 ≤ 0 → mRek N = true) := by
  rcases r.q2 h with ⟨z, -, -, z2⟩ | ⟨z, -, -, -, z2⟩
  · exact ⟨fun y => absurd y (dk_lt1 z2), fun _ => z⟩
  · exact ⟨fun _ => z, fun y => absurd (dk_nlt z2) y⟩
set_option maxHeartbeats 2000000 in
set_option maxRecDepth 20000 in
theorem law_start {E : dkE} {G : dkG} {T : dkT} {M N : dkM} {q d c w j b : Nat} {tn x y kd : Int32} {sc : Nat} (hC : dk_Cx E G cL_law 18 RL (some .boolean) 9 322) (hA : dk_Al E G) (hr : dk_rm E 4 76) (hG : dk_cls G) (hq : lA G q 16) (hd : lA G d 20) (hc : lA G c 20) (hw : lA G w 20) (hj : lA G j 20) (D : lD q d c w j) (h111 : 111 ≤ q ∧ 111 ≤ d ∧ 111 ≤ c ∧ 111 ≤ w ∧ 111 ≤ j) (Sm : Sim M N) (r : LR M q d c w j (N 112)) (hsc : sc < ix (N 112 0))  (K : ∀ (M' N' : dkM), Sim M' N' → LR M' q d c w j (N' 112) → V (dk_more E 4 76) G 18 T M' 1387 [(0, some (.ref b)), (1, some (.ref (G.1 + 0))), (2, some (.ref (G.1 + q))), (3, some (.ref (G.1 + d))), (4, some (.ref (G.1 + c))), (5, some (.ref (G.1 + w))), (6, some (.ref (G.1 + j))), (7, some (.int tn)), (9, some (.int y))] [])  : V E G 18 T M 862 [(0, some (.ref b)), (1, some (.ref (G.1 + 0))), (2, some (.ref (G.1 + q))), (3, some (.ref (G.1 + d))), (4, some (.ref (G.1 + c))), (5, some (.ref (G.1 + w))), (6, some (.ref (G.1 + j))), (7, some (.int tn)), (8, some (.int x)), (9, some (.int y)), (10, some (.int kd)), (11, some (.int (nI sc))), (12, some (.int (bI (mOpen N))))] [] := by
  obtain ⟨⟨d1, d2, d3, d4⟩, ⟨d5, d6, d7⟩, ⟨d8, d9⟩, d10⟩ := id D
  obtain ⟨g1, g2, g3, g4, g5⟩ := h111
  have hsec := Sm.ds.sec
  have hsec2 := r.sec Sm.ds
  have Mo : ∀ X : dkM, (∀ a, 111 ≤ a → X a = M a) → LR X q d c w j (N 112) := fun X h => r.keep (h q g1) (h d g2) (h c g3) (h w g4) (h j g5)
  have loop_917 : ∀ (n : Nat) (k : Nat), (1 ≤ k) → (k ≤ 5) → (0 < n) →  V E G 18 T (M) 917 [(0, some (.ref b)), (1, some (.ref (G.1 + 0))), (2, some (.ref (G.1 + q))), (3, some (.ref (G.1 + d))), (4, some (.ref (G.1 + c))), (5, some (.ref (G.1 + w))), (6, some (.ref (G.1 + j))), (7, some (.int tn)), (9, some (.int y)), (13, some (.int (nI k))), (14, some (.int (bI (lIs M q k)))), (15, some (.int (bI (lSt M q k))))] [] := by
    intro n
    induction n with
    | zero => intro k h1 h2 hn; exact absurd hn (by omega)
    | succ n ih_917 =>
      intro k h1 h2 hn
      rcases st3 (M := M) (q := q) (k := k) with ⟨hi, hst⟩ | ⟨hi, hst⟩ | ⟨hi, hst⟩
      · refine V.iload hC dL_law_917 rfl ?_
        refine V.if_eq_t hC 935 dL_law_919 (by decide) (by rw [hst]; rfl) ?_
        have Sm1 := Sm
        refine V.aload_n hC dL_law_935 rfl ?_
        refine V.iload hC dL_law_936 rfl ?_
        refine V.callV1i hC (c_X4_start hG Sm1.x) mwX4_start mlL_130 (hG.at 0 rfl) rfl rfl ⟨rfl, rfl⟩ dL_law_938 rfl ?_
        obtain ⟨a1, a2, a3⟩ := op_ok Sm (Sm.draft.ds.begin (nI k)).to2
        generalize xU (dBegin (hDraft M) 1 (nI k)) = P at *
        refine V.iload hC dL_law_941 rfl ?_
        refine V.if_ne_f hC 950 dL_law_943 (by decide) (by rw [hi]; rfl) ?_
        refine V.iconst hC (-1) dL_law_946 (by decide) ?_
        refine V.goto hC 975 dL_law_947 (by decide) ?_
        refine V.icmp_eq_t hC 980 dL_law_975 (by decide) (a1.trans (by rw [(a_start Sm.ds r h1 h2).1 (lIs_f hi)])) ?_
        have hS : Sim P.2 N := by have h := a2; rw [(a_start Sm.ds r h1 h2).1 (lIs_f hi)] at h; exact h
        have hL : LR P.2 q d c w j (N 112) := Mo P.2 a3
        refine V.goto hC 1387 dL_law_980 (by decide) ?_
        first | exact V.more (k := 4) (n := 76) (V.sub (dk_sc rfl (dk_sc rfl (dk_sc rfl (dk_sc rfl (dk_sc rfl (dk_sc rfl (dk_sc rfl (dk_sc rfl (dk_sc rfl (dk_sn)))))))))) (K _ _ hS hL)) | exact V.sub (dk_sc rfl (dk_sc rfl (dk_sc rfl (dk_sc rfl (dk_sc rfl (dk_sc rfl (dk_sc rfl (dk_sc rfl (dk_sc rfl (dk_sn)))))))))) (K _ _ hS hL)
      · refine V.iload hC dL_law_917 rfl ?_
        refine V.if_eq_f hC 935 dL_law_919 (by decide) (by rw [hst]; decide) ?_
        refine V.aload_n hC dL_law_922 rfl ?_
        refine V.iconst hC 2 dL_law_923 (by decide) ?_
        refine V.iload hC dL_law_924 rfl ?_
        refine V.iastLN hC (2) hq (rfl) (by omega) dL_law_926 ?_
        refine V.aload_n hC dL_law_927 rfl ?_
        refine V.iconst hC 3 dL_law_928 (by decide) ?_
        refine V.iconst hC 0 dL_law_929 (by decide) ?_
        refine V.iastLN hC (3) hq (rfl) (by omega) dL_law_930 ?_
        refine V.aload_n hC dL_law_931 rfl ?_
        refine V.iconst hC 4 dL_law_932 (by decide) ?_
        refine V.iconst hC 1 dL_law_933 (by decide) ?_
        refine V.iastLN hC (4) hq (rfl) (by omega) dL_law_934 ?_
        have Sm1 : Sim (dk_put (dk_put (dk_put M q 2 (nI k)) q 3 0) q 4 1) N := Sm.keep (fun a y1 y2 => by rw [dk_put_ne (by omega), dk_put_ne (by omega), dk_put_ne (by omega)])
        refine V.aload_n hC dL_law_935 rfl ?_
        refine V.iload hC dL_law_936 rfl ?_
        refine V.callV1i hC (c_X4_start hG Sm1.x) mwX4_start mlL_130 (hG.at 0 rfl) rfl rfl ⟨rfl, rfl⟩ dL_law_938 rfl ?_
        obtain ⟨a1, a2, a3⟩ := op_ok Sm1 (Sm1.draft.ds.begin (nI k)).to2
        generalize xU (dBegin (hDraft (dk_put (dk_put (dk_put M q 2 (nI k)) q 3 0) q 4 1)) 1 (nI k)) = P at *
        have hS : Sim P.2 (mStartM N (nI k)) := by have h := a2; rw [(a_start Sm.ds r h1 h2).2.2 (lSt_t hst).1 (lSt_t hst).2.1 (lSt_t hst).2.2] at h; exact h
        have hL : LR P.2 q d c w j (mStartM N (nI k) 112) := (r.startp D Sm.ds (nI k) (lSt_t hst).2.1).keep (a3 q g1) (a3 d g2) (a3 c g3) (a3 w g4) (a3 j g5)
        refine V.iload hC dL_law_941 rfl ?_
        refine V.if_ne_t hC 950 dL_law_943 (by decide) (by rw [hi]; decide) ?_
        refine V.iload hC dL_law_950 rfl ?_
        refine V.if_eq_f hC 973 dL_law_952 (by decide) (by rw [hst]; decide) ?_
        refine V.sipush hC 999 dL_law_955 (by decide) ?_
        refine V.iconst hC 0 dL_law_958 (by decide) ?_
        refine V.aload_n hC dL_law_959 rfl ?_
        refine V.aload_n hC dL_law_960 rfl ?_
        refine V.aload hC dL_law_961 rfl ?_
        refine V.aload hC dL_law_963 rfl ?_
        refine V.aload hC dL_law_965 rfl ?_
        refine V.callSA hC hA (c_L_then (b := false) hG hq hd hc hw hj D hS.ds hL) mwL_then mlL_102 (by omega) hr ⟨rfl, rfl⟩ dL_law_967 rfl rfl rfl ?_
        obtain ⟨hC, hA⟩ := dk_Cx.more hC hA hr
        refine V.goto hC 975 dL_law_970 (by decide) ?_
        refine V.icmp_eq_t hC 980 dL_law_975 (by decide) (a1.trans (by rw [(a_start Sm.ds r h1 h2).2.2 (lSt_t hst).1 (lSt_t hst).2.1 (lSt_t hst).2.2]; exact (DS.left_all hS.ds).symm)) ?_
        refine V.goto hC 1387 dL_law_980 (by decide) ?_
        first | exact V.more (k := 4) (n := 76) (V.sub (dk_sc rfl (dk_sc rfl (dk_sc rfl (dk_sc rfl (dk_sc rfl (dk_sc rfl (dk_sc rfl (dk_sc rfl (dk_sc rfl (dk_sn)))))))))) (K _ _ hS hL)) | exact V.sub (dk_sc rfl (dk_sc rfl (dk_sc rfl (dk_sc rfl (dk_sc rfl (dk_sc rfl (dk_sc rfl (dk_sc rfl (dk_sc rfl (dk_sn)))))))))) (K _ _ hS hL)
      · refine V.iload hC dL_law_917 rfl ?_
        refine V.if_eq_t hC 935 dL_law_919 (by decide) (by rw [hst]; rfl) ?_
        have Sm1 := Sm
        refine V.aload_n hC dL_law_935 rfl ?_
        refine V.iload hC dL_law_936 rfl ?_
        refine V.callV1i hC (c_X4_start hG Sm1.x) mwX4_start mlL_130 (hG.at 0 rfl) rfl rfl ⟨rfl, rfl⟩ dL_law_938 rfl ?_
        obtain ⟨a1, a2, a3⟩ := op_ok Sm (Sm.draft.ds.begin (nI k)).to2
        generalize xU (dBegin (hDraft M) 1 (nI k)) = P at *
        refine V.iload hC dL_law_941 rfl ?_
        refine V.if_ne_t hC 950 dL_law_943 (by decide) (by rw [hi]; decide) ?_
        refine V.iload hC dL_law_950 rfl ?_
        refine V.if_eq_t hC 973 dL_law_952 (by decide) (by rw [hst]; rfl) ?_
        refine V.bipush hC (-3) dL_law_973 (by decide) ?_
        refine V.icmp_eq_t hC 980 dL_law_975 (by decide) (a1.trans (by rw [(a_start Sm.ds r h1 h2).2.1 (lIs_t hi) (lSt_f hi hst)])) ?_
        have hS : Sim P.2 N := by have h := a2; rw [(a_start Sm.ds r h1 h2).2.1 (lIs_t hi) (lSt_f hi hst)] at h; exact h
        have hL : LR P.2 q d c w j (N 112) := Mo P.2 a3
        refine V.goto hC 1387 dL_law_980 (by decide) ?_
        first | exact V.more (k := 4) (n := 76) (V.sub (dk_sc rfl (dk_sc rfl (dk_sc rfl (dk_sc rfl (dk_sc rfl (dk_sc rfl (dk_sc rfl (dk_sc rfl (dk_sc rfl (dk_sn)))))))))) (K _ _ hS hL)) | exact V.sub (dk_sc rfl (dk_sc rfl (dk_sc rfl (dk_sc rfl (dk_sc rfl (dk_sc rfl (dk_sc rfl (dk_sc rfl (dk_sc rfl (dk_sn)))))))))) (K _ _ hS hL)
  have loop_891 : ∀ (n : Nat) (k : Nat), (1 ≤ k) → (k ≤ 5) → (0 < n) →  V E G 18 T (M) 891 [(0, some (.ref b)), (1, some (.ref (G.1 + 0))), (2, some (.ref (G.1 + q))), (3, some (.ref (G.1 + d))), (4, some (.ref (G.1 + c))), (5, some (.ref (G.1 + w))), (6, some (.ref (G.1 + j))), (7, some (.int tn)), (9, some (.int y)), (13, some (.int (nI k))), (14, some (.int (bI (lIs M q k))))] [] := by
    intro n
    induction n with
    | zero => intro k h1 h2 hn; exact absurd hn (by omega)
    | succ n ih_891 =>
      intro k h1 h2 hn
      refine V.iload hC dL_law_891 rfl ?_
      refine V.if_eqB hC 914 dL_law_893 (by decide) (fun c_1 => ?_) (fun c_1 => ?_)
      · refine V.iconst hC 0 dL_law_914 (by decide) ?_
        refine V.top (x' := .int (bI (lSt M q k))) (by first | (rw [lSt_0 c_1]; rfl) | (rw [lSt_1 c_2]; rfl) | (rw [lSt_2 c_3]; rfl) | (rw [lSt_3 c_1 c_2 c_3]; rfl)) ?_
        refine V.istore hC dL_law_915 rfl rfl ?_
        exact V.sub (dk_sc rfl (dk_sc rfl (dk_sc rfl (dk_sc rfl (dk_sc rfl (dk_sc rfl (dk_sc rfl (dk_sc rfl (dk_sc rfl (dk_sc rfl (dk_sc rfl (dk_sc rfl (dk_sn))))))))))))) (loop_917 1 k h1 h2 (by omega))
      · refine V.aload_n hC dL_law_896 rfl ?_
        refine V.iconst hC 2 dL_law_897 (by decide) ?_
        refine V.ialdLN hC (2) hq (rfl) (by omega) dL_law_898 ?_
        refine V.if_ge hC 914 dL_law_899 (by decide) (fun c_2 => ?_) (fun c_2 => ?_)
        · refine V.iconst hC 0 dL_law_914 (by decide) ?_
          refine V.top (x' := .int (bI (lSt M q k))) (by first | (rw [lSt_0 c_1]; rfl) | (rw [lSt_1 c_2]; rfl) | (rw [lSt_2 c_3]; rfl) | (rw [lSt_3 c_1 c_2 c_3]; rfl)) ?_
          refine V.istore hC dL_law_915 rfl rfl ?_
          exact V.sub (dk_sc rfl (dk_sc rfl (dk_sc rfl (dk_sc rfl (dk_sc rfl (dk_sc rfl (dk_sc rfl (dk_sc rfl (dk_sc rfl (dk_sc rfl (dk_sc rfl (dk_sc rfl (dk_sn))))))))))))) (loop_917 1 k h1 h2 (by omega))
        · refine V.iload hC dL_law_902 rfl ?_
          refine V.aload_n hC dL_law_904 rfl ?_
          refine V.iconst hC 1 dL_law_905 (by decide) ?_
          refine V.ialdLN hC (1) hq (rfl) (by omega) dL_law_906 ?_
          refine V.icmp_eq hC 914 dL_law_907 (by decide) (fun c_3 => ?_) (fun c_3 => ?_)
          · refine V.iconst hC 0 dL_law_914 (by decide) ?_
            refine V.top (x' := .int (bI (lSt M q k))) (by first | (rw [lSt_0 c_1]; rfl) | (rw [lSt_1 c_2]; rfl) | (rw [lSt_2 c_3]; rfl) | (rw [lSt_3 c_1 c_2 c_3]; rfl)) ?_
            refine V.istore hC dL_law_915 rfl rfl ?_
            exact V.sub (dk_sc rfl (dk_sc rfl (dk_sc rfl (dk_sc rfl (dk_sc rfl (dk_sc rfl (dk_sc rfl (dk_sc rfl (dk_sc rfl (dk_sc rfl (dk_sc rfl (dk_sc rfl (dk_sn))))))))))))) (loop_917 1 k h1 h2 (by omega))
          · refine V.iconst hC 1 dL_law_910 (by decide) ?_
            refine V.goto hC 915 dL_law_911 (by decide) ?_
            refine V.top (x' := .int (bI (lSt M q k))) (by first | (rw [lSt_0 c_1]; rfl) | (rw [lSt_1 c_2]; rfl) | (rw [lSt_2 c_3]; rfl) | (rw [lSt_3 c_1 c_2 c_3]; rfl)) ?_
            refine V.istore hC dL_law_915 rfl rfl ?_
            exact V.sub (dk_sc rfl (dk_sc rfl (dk_sc rfl (dk_sc rfl (dk_sc rfl (dk_sc rfl (dk_sc rfl (dk_sc rfl (dk_sc rfl (dk_sc rfl (dk_sc rfl (dk_sc rfl (dk_sn))))))))))))) (loop_917 1 k h1 h2 (by omega))
  refine V.iconst hC 1 dL_law_862 (by decide) ?_
  refine V.iload hC dL_law_863 rfl ?_
  refine V.iconst hC 4 dL_law_865 (by decide) ?_
  refine V.ishr hC dL_law_866 ?_
  refine V.iconst hC 5 dL_law_867 (by decide) ?_
  refine V.callS2i hC (c_L_low (show ¬ (5 : Int32) = 0 by decide)) mwL_low mlL_80 ⟨rfl, rfl⟩ dL_law_868 rfl ?_
  refine V.iadd hC dL_law_871 ?_
  have hk := low_p (v := y >>> (4 &&& 31)) (n := 5) (p := 1) (a := 5) (c := 1) (by decide) (by decide) (by decide) (by decide) (by decide)
  generalize (1 : Int32) + lLow (y >>> (4 &&& 31)) 5 = kk at *
  obtain ⟨k, rfl, h1, h2⟩ := nat5 hk
  refine V.istore hC dL_law_872 rfl rfl ?_
  refine V.aload_n hC dL_law_874 rfl ?_
  refine V.bipush hC 10 dL_law_875 (by decide) ?_
  refine V.iload hC dL_law_877 rfl ?_
  refine V.iadd hC dL_law_879 ?_
  refine V.ialdLN hC (10 + k) hq (dk_addN (rfl) (rfl)) (by omega) dL_law_880 ?_
  refine V.if_lt hC 888 dL_law_881 (by decide) (fun c_1 => ?_) (fun c_1 => ?_)
  · refine V.iconst hC 0 dL_law_888 (by decide) ?_
    refine V.top (x' := .int (bI (lIs M q k))) (by first | (rw [lIs_1 c_1]; rfl) | (rw [lIs_2 c_1]; rfl)) ?_
    refine V.istore hC dL_law_889 rfl rfl ?_
    exact V.sub (dk_sc rfl (dk_sc rfl (dk_sc rfl (dk_sc rfl (dk_sc rfl (dk_sc rfl (dk_sc rfl (dk_sc rfl (dk_sc rfl (dk_sc rfl (dk_sc rfl (dk_sn)))))))))))) (loop_891 1 k h1 h2 (by omega))
  · refine V.iconst hC 1 dL_law_884 (by decide) ?_
    refine V.goto hC 889 dL_law_885 (by decide) ?_
    refine V.top (x' := .int (bI (lIs M q k))) (by first | (rw [lIs_1 c_1]; rfl) | (rw [lIs_2 c_1]; rfl)) ?_
    refine V.istore hC dL_law_889 rfl rfl ?_
    exact V.sub (dk_sc rfl (dk_sc rfl (dk_sc rfl (dk_sc rfl (dk_sc rfl (dk_sc rfl (dk_sc rfl (dk_sc rfl (dk_sc rfl (dk_sc rfl (dk_sc rfl (dk_sn)))))))))))) (loop_891 1 k h1 h2 (by omega))
set_option maxHeartbeats 2000000 in
set_option maxRecDepth 20000 in
theorem law_steps {E : dkE} {G : dkG} {T : dkT} {M N : dkM} {q d c w j b : Nat} {tn x y kd : Int32} {sc : Nat} (hC : dk_Cx E G cL_law 18 RL (some .boolean) 9 322) (hA : dk_Al E G) (hr : dk_rm E 4 76) (hG : dk_cls G) (hq : lA G q 16) (hd : lA G d 20) (hc : lA G c 20) (hw : lA G w 20) (hj : lA G j 20) (D : lD q d c w j) (h111 : 111 ≤ q ∧ 111 ≤ d ∧ 111 ≤ c ∧ 111 ≤ w ∧ 111 ≤ j) (Sm : Sim M N) (r : LR M q d c w j (N 112)) (hsc : sc < ix (N 112 0))  (K : ∀ (M' N' : dkM), Sim M' N' → LR M' q d c w j (N' 112) → V (dk_more E 4 76) G 18 T M' 1387 [(0, some (.ref b)), (1, some (.ref (G.1 + 0))), (2, some (.ref (G.1 + q))), (3, some (.ref (G.1 + d))), (4, some (.ref (G.1 + c))), (5, some (.ref (G.1 + w))), (6, some (.ref (G.1 + j))), (7, some (.int tn)), (9, some (.int y))] [])  : V E G 18 T M 990 [(0, some (.ref b)), (1, some (.ref (G.1 + 0))), (2, some (.ref (G.1 + q))), (3, some (.ref (G.1 + d))), (4, some (.ref (G.1 + c))), (5, some (.ref (G.1 + w))), (6, some (.ref (G.1 + j))), (7, some (.int tn)), (8, some (.int x)), (9, some (.int y)), (10, some (.int kd)), (11, some (.int (nI sc))), (12, some (.int (bI (mOpen N))))] [] := by
  obtain ⟨⟨d1, d2, d3, d4⟩, ⟨d5, d6, d7⟩, ⟨d8, d9⟩, d10⟩ := id D
  obtain ⟨g1, g2, g3, g4, g5⟩ := h111
  have hsec := Sm.ds.sec
  have hsec2 := r.sec Sm.ds
  have Mo : ∀ X : dkM, (∀ a, 111 ≤ a → X a = M a) → LR X q d c w j (N 112) := fun X h => r.keep (h q g1) (h d g2) (h c g3) (h w g4) (h j g5)
  have loop_1055 : ∀ (n : Nat) (k : Nat) (st : Int32) (M1 N1 X1 : dkM), (1 ≤ st.toInt ∧ st.toInt ≤ 30) → (∀ a, a ≠ q → a ≠ d → a ≠ j → M1 a = M a) → (DS X1 1 (N1 112)) → (LR M1 q d c w j (N1 112)) → ((k, N1) = mStepsL (ix st) (mRec N) 0) → (0 < n) →  V E G 18 T (M1) 1055 [(0, some (.ref b)), (1, some (.ref (G.1 + 0))), (2, some (.ref (G.1 + q))), (3, some (.ref (G.1 + d))), (4, some (.ref (G.1 + c))), (5, some (.ref (G.1 + w))), (6, some (.ref (G.1 + j))), (7, some (.int tn)), (9, some (.int y)), (13, some (.int st)), (14, some (.int (bI (mRek N)))), (15, some (.int (nI k)))] [] := by
    intro n
    induction n with
    | zero => intro k st M1 N1 X1 hst hM h1 r1 hT2 hn; exact absurd hn (by omega)
    | succ n ih_1055 =>
      intro k st M1 N1 X1 hst hM h1 r1 hT2 hn
      rcases hr1 : mRek N with _ | _
      · have Sm1 : Sim M1 N := Sm.keep (fun a y1 y2 => hM a (by omega) (by omega) (by omega))
        have r0 : LR M1 q d c w j (N1 112) := r1
        refine V.aload_n hC dL_law_1055 rfl ?_
        refine V.iload hC dL_law_1056 rfl ?_
        refine V.callV1i hC (c_X4_steps hG Sm1.x) mwX4_steps mlL_133 (hG.at 0 rfl) rfl rfl ⟨rfl, rfl⟩ dL_law_1058 rfl ?_
        obtain ⟨a1, a2, a3⟩ := op_ok Sm1 (Sm1.draft.ds.adv st).to2
        generalize xU (dAdv (hDraft M1) 1 st) = P at *
        refine V.iload hC dL_law_1061 rfl ?_
        refine V.if_eq_t hC 1071 dL_law_1063 (by decide) (rfl) ?_
        refine V.bipush hC (-3) dL_law_1071 (by decide) ?_
        refine V.icmp_eq_t hC 1078 dL_law_1073 (by decide) (a1.trans (by rw [(a_steps ⟨hst.1, by omega⟩).1 hr1])) ?_
        have hN1 : N1 112 = N 112 := by
          have hs : ix st = (ix st - 1) + 1 := by have := ix_toInt (x := st) (by omega); omega
          rw [hs, mStepsL, if_neg (by rw [mRek_congr (M := N) (by rw [mRec_st]), hr1]; decide)] at hT2
          have h9 := congrArg Prod.snd hT2
          have h8 : N1 = mRec N := h9
          rw [h8, mRec_st]
        have hS : Sim P.2 N := by have h := a2; rw [(a_steps ⟨hst.1, by omega⟩).1 hr1] at h; exact h
        have hL : LR P.2 q d c w j (N 112) := by rw [← hN1]; exact r1.keep (a3 q g1) (a3 d g2) (a3 c g3) (a3 w g4) (a3 j g5)
        refine V.goto hC 1387 dL_law_1078 (by decide) ?_
        first | exact V.more (k := 4) (n := 76) (V.sub (dk_sc rfl (dk_sc rfl (dk_sc rfl (dk_sc rfl (dk_sc rfl (dk_sc rfl (dk_sc rfl (dk_sc rfl (dk_sc rfl (dk_sn)))))))))) (K _ _ hS hL)) | exact V.sub (dk_sc rfl (dk_sc rfl (dk_sc rfl (dk_sc rfl (dk_sc rfl (dk_sc rfl (dk_sc rfl (dk_sc rfl (dk_sc rfl (dk_sn)))))))))) (K _ _ hS hL)
      · have Sm1 : Sim M1 N := Sm.keep (fun a y1 y2 => hM a (by omega) (by omega) (by omega))
        have r0 : LR M1 q d c w j (N1 112) := r1
        refine V.aload_n hC dL_law_1055 rfl ?_
        refine V.iload hC dL_law_1056 rfl ?_
        refine V.callV1i hC (c_X4_steps hG Sm1.x) mwX4_steps mlL_133 (hG.at 0 rfl) rfl rfl ⟨rfl, rfl⟩ dL_law_1058 rfl ?_
        obtain ⟨a1, a2, a3⟩ := op_ok Sm1 (Sm1.draft.ds.adv st).to2
        generalize xU (dAdv (hDraft M1) 1 st) = P at *
        refine V.iload hC dL_law_1061 rfl ?_
        refine V.if_eq_f hC 1071 dL_law_1063 (by decide) (by decide) ?_
        refine V.iload hC dL_law_1066 rfl ?_
        refine V.goto hC 1073 dL_law_1068 (by decide) ?_
        refine V.icmp_eq_t hC 1078 dL_law_1073 (by decide) (a1.trans (by rw [(a_steps ⟨hst.1, by omega⟩).2 hr1, ← hT2])) ?_
        have hS : Sim P.2 N1 := by have h := a2; rw [(a_steps ⟨hst.1, by omega⟩).2 hr1, ← hT2] at h; exact h
        have hL : LR P.2 q d c w j (N1 112) := r1.keep (a3 q g1) (a3 d g2) (a3 c g3) (a3 w g4) (a3 j g5)
        refine V.goto hC 1387 dL_law_1078 (by decide) ?_
        first | exact V.more (k := 4) (n := 76) (V.sub (dk_sc rfl (dk_sc rfl (dk_sc rfl (dk_sc rfl (dk_sc rfl (dk_sc rfl (dk_sc rfl (dk_sc rfl (dk_sc rfl (dk_sn)))))))))) (K _ _ hS hL)) | exact V.sub (dk_sc rfl (dk_sc rfl (dk_sc rfl (dk_sc rfl (dk_sc rfl (dk_sc rfl (dk_sc rfl (dk_sc rfl (dk_sc rfl (dk_sn)))))))))) (K _ _ hS hL)
  have loop_1032 : ∀ (n : Nat) (k : Nat) (st : Int32) (M1 N1 X1 : dkM), (1 ≤ st.toInt ∧ st.toInt ≤ 30) → (∀ a, a ≠ q → a ≠ d → a ≠ j → M1 a = M a) → (DS X1 1 (N1 112)) → (LR M1 q d c w j (N1 112)) → (mStepsL (ix st - k) N1 k = mStepsL (ix st) (mRec N) 0) → (k ≤ ix st) → (ix st < k + n) →  V E G 18 T (M1) 1032 [(0, some (.ref b)), (1, some (.ref (G.1 + 0))), (2, some (.ref (G.1 + q))), (3, some (.ref (G.1 + d))), (4, some (.ref (G.1 + c))), (5, some (.ref (G.1 + w))), (6, some (.ref (G.1 + j))), (7, some (.int tn)), (9, some (.int y)), (13, some (.int st)), (14, some (.int (bI (mRek N)))), (15, some (.int (nI k)))] [] := by
    intro n
    induction n with
    | zero => intro k st M1 N1 X1 hst hM h1 r1 hT hk hn; exact absurd hn (by omega)
    | succ n ih_1032 =>
      intro k st M1 N1 X1 hst hM h1 r1 hT hk hn
      have hsz := ix_lt st
      refine V.iload hC dL_law_1032 rfl ?_
      refine V.iload hC dL_law_1034 rfl ?_
      refine V.icmp_ge hC 1055 dL_law_1036 (by decide) (fun c_1 => ?_) (fun c_1 => ?_)
      · have hke : k = ix st := by have := (dk_gek (k := k) (by omega)).mp c_1; omega
        have hT2 : (k, N1) = mStepsL (ix st) (mRec N) 0 := by
          rw [show ix st - k = 0 by omega] at hT
          exact hT
        exact V.sub (dk_sc rfl (dk_sc rfl (dk_sc rfl (dk_sc rfl (dk_sc rfl (dk_sc rfl (dk_sc rfl (dk_sc rfl (dk_sc rfl (dk_sc rfl (dk_sc rfl (dk_sc rfl (dk_sn))))))))))))) (loop_1055 1 k st M1 N1 X1 hst hM h1 r1 hT2 (by omega))
      · have hkl : k < ix st := by have := mt (dk_gek (k := k) (by omega)).mpr c_1; omega
        refine V.aload_n hC dL_law_1039 rfl ?_
        refine V.aload_n hC dL_law_1040 rfl ?_
        refine V.aload hC dL_law_1041 rfl ?_
        refine V.callS3i hC (c_L_stepU hq hd hj (fun z => r1.lb h1 (by rw [← r1.go h1]; unfold lGo; rw [if_pos z])) d1 d4 d7) mwL_step mlL_44 ⟨rfl, rfl⟩ dL_law_1043 rfl ?_
        refine V.if_eqB hC 1055 dL_law_1046 (by decide) (fun c_2 => ?_) (fun c_2 => ?_)
        · have hr1 : mRek N1 = false := by rw [← r1.go h1]; exact c_2
          have hT2 : (k, N1) = mStepsL (ix st) (mRec N) 0 := by
            rw [show ix st - k = ix st - (k + 1) + 1 by omega, mStepsL, if_neg (by rw [hr1]; decide)] at hT
            exact hT
          refine V.eqM (M' := M1) (by unfold lStep; rw [if_neg (lGo_f c_2)]) ?_
          exact V.sub (dk_sc rfl (dk_sc rfl (dk_sc rfl (dk_sc rfl (dk_sc rfl (dk_sc rfl (dk_sc rfl (dk_sc rfl (dk_sc rfl (dk_sc rfl (dk_sc rfl (dk_sc rfl (dk_sn))))))))))))) (loop_1055 1 k st M1 N1 X1 hst hM h1 r1 hT2 (by omega))
        · have hr1 : mRek N1 = true := by rw [← r1.go h1]; exact c_2
          refine V.iinc hC dL_law_1049 rfl (dk_incN _) rfl ?_
          refine V.goto hC 1032 dL_law_1052 (by decide) ?_
          exact V.sub (dk_sc rfl (dk_sc rfl (dk_sc rfl (dk_sc rfl (dk_sc rfl (dk_sc rfl (dk_sc rfl (dk_sc rfl (dk_sc rfl (dk_sc rfl (dk_sc rfl (dk_sc rfl (dk_sn))))))))))))) (ih_1032 (k + 1) st (lStep M1 q d j) (mStep N1) (dStep X1 1) hst (fun a a1 a2 a3 => by rw [lStep_ne _ a1 a2 a3]; exact hM a a1 a2 a3) (h1.step hr1) (r1.step D h1 hr1) (by rw [show ix st - k = ix st - (k + 1) + 1 by omega, mStepsL, if_pos hr1] at hT; exact hT) (by omega) (by omega))
  have loop_1029 : ∀ (n : Nat) (st : Int32), (1 ≤ st.toInt ∧ st.toInt ≤ 30) → (0 < n) →  V E G 18 T (M) 1029 [(0, some (.ref b)), (1, some (.ref (G.1 + 0))), (2, some (.ref (G.1 + q))), (3, some (.ref (G.1 + d))), (4, some (.ref (G.1 + c))), (5, some (.ref (G.1 + w))), (6, some (.ref (G.1 + j))), (7, some (.int tn)), (9, some (.int y)), (13, some (.int st)), (14, some (.int (bI (mRek N))))] [] := by
    intro n
    induction n with
    | zero => intro st hst hn; exact absurd hn (by omega)
    | succ n ih_1029 =>
      intro st hst hn
      refine V.iconst hC 0 dL_law_1029 (by decide) ?_
      refine V.istore hC dL_law_1030 rfl rfl ?_
      exact V.sub (dk_sc rfl (dk_sc rfl (dk_sc rfl (dk_sc rfl (dk_sc rfl (dk_sc rfl (dk_sc rfl (dk_sc rfl (dk_sc rfl (dk_sc rfl (dk_sc rfl (dk_sc rfl (dk_sn))))))))))))) (loop_1032 (ix st + 1) 0 st M (mRec N) M hst (fun _ _ _ _ => rfl) (by rw [mRec_st]; exact Sm.ds) (by rw [mRec_st]; exact r) rfl (Nat.zero_le _) (by omega))
  have loop_1016 : ∀ (n : Nat) (st : Int32), (1 ≤ st.toInt ∧ st.toInt ≤ 30) → (0 < n) →  V E G 18 T (M) 1016 [(0, some (.ref b)), (1, some (.ref (G.1 + 0))), (2, some (.ref (G.1 + q))), (3, some (.ref (G.1 + d))), (4, some (.ref (G.1 + c))), (5, some (.ref (G.1 + w))), (6, some (.ref (G.1 + j))), (7, some (.int tn)), (9, some (.int y)), (13, some (.int st))] [] := by
    intro n
    induction n with
    | zero => intro st hst hn; exact absurd hn (by omega)
    | succ n ih_1016 =>
      intro st hst hn
      refine V.aload_n hC dL_law_1016 rfl ?_
      refine V.iconst hC 2 dL_law_1017 (by decide) ?_
      refine V.ialdLN hC (2) hq (rfl) (by omega) dL_law_1018 ?_
      refine V.if_le hC 1026 dL_law_1019 (by decide) (fun c_1 => ?_) (fun c_1 => ?_)
      · refine V.iconst hC 0 dL_law_1026 (by decide) ?_
        refine V.top (x' := .int (bI (mRek N))) (by first | (rw [(rek_pos Sm.ds r).1 c_1]; rfl) | (rw [(rek_pos Sm.ds r).2 c_1]; rfl)) ?_
        refine V.istore hC dL_law_1027 rfl rfl ?_
        exact V.sub (dk_sc rfl (dk_sc rfl (dk_sc rfl (dk_sc rfl (dk_sc rfl (dk_sc rfl (dk_sc rfl (dk_sc rfl (dk_sc rfl (dk_sc rfl (dk_sc rfl (dk_sn)))))))))))) (loop_1029 1 st hst (by omega))
      · refine V.iconst hC 1 dL_law_1022 (by decide) ?_
        refine V.goto hC 1027 dL_law_1023 (by decide) ?_
        refine V.top (x' := .int (bI (mRek N))) (by first | (rw [(rek_pos Sm.ds r).1 c_1]; rfl) | (rw [(rek_pos Sm.ds r).2 c_1]; rfl)) ?_
        refine V.istore hC dL_law_1027 rfl rfl ?_
        exact V.sub (dk_sc rfl (dk_sc rfl (dk_sc rfl (dk_sc rfl (dk_sc rfl (dk_sc rfl (dk_sc rfl (dk_sc rfl (dk_sc rfl (dk_sc rfl (dk_sc rfl (dk_sn)))))))))))) (loop_1029 1 st hst (by omega))
  refine V.iconst hC 1 dL_law_990 (by decide) ?_
  refine V.iload hC dL_law_991 rfl ?_
  refine V.iload hC dL_law_993 rfl ?_
  refine V.iconst hC 5 dL_law_995 (by decide) ?_
  refine V.ishr hC dL_law_996 ?_
  refine V.iconst hC 4 dL_law_997 (by decide) ?_
  refine V.callS2i hC (c_L_low (show ¬ (4 : Int32) = 0 by decide)) mwL_low mlL_80 ⟨rfl, rfl⟩ dL_law_998 rfl ?_
  refine V.if_ne hC 1009 dL_law_1001 (by decide) (fun c_1 => ?_) (fun c_1 => ?_)
  · refine V.iconst hC 5 dL_law_1009 (by decide) ?_
    refine V.callS2i hC (c_L_low (by decide)) mwL_low mlL_80 ⟨rfl, rfl⟩ dL_law_1010 rfl ?_
    refine V.iadd hC dL_law_1013 ?_
    first | (obtain ⟨st, hst0, hst⟩ := st30 y; rw [hst0]; clear hst0) | (obtain ⟨st, hst0, hst⟩ := st05 y; rw [hst0]; clear hst0)
    refine V.istore hC dL_law_1014 rfl rfl ?_
    exact V.sub (dk_sc rfl (dk_sc rfl (dk_sc rfl (dk_sc rfl (dk_sc rfl (dk_sc rfl (dk_sc rfl (dk_sc rfl (dk_sc rfl (dk_sc rfl (dk_sn))))))))))) (loop_1016 1 st hst (by omega))
  · refine V.bipush hC 30 dL_law_1004 (by decide) ?_
    refine V.goto hC 1010 dL_law_1006 (by decide) ?_
    refine V.callS2i hC (c_L_low (by decide)) mwL_low mlL_80 ⟨rfl, rfl⟩ dL_law_1010 rfl ?_
    refine V.iadd hC dL_law_1013 ?_
    first | (obtain ⟨st, hst0, hst⟩ := st30 y; rw [hst0]; clear hst0) | (obtain ⟨st, hst0, hst⟩ := st05 y; rw [hst0]; clear hst0)
    refine V.istore hC dL_law_1014 rfl rfl ?_
    exact V.sub (dk_sc rfl (dk_sc rfl (dk_sc rfl (dk_sc rfl (dk_sc rfl (dk_sc rfl (dk_sc rfl (dk_sc rfl (dk_sc rfl (dk_sc rfl (dk_sn))))))))))) (loop_1016 1 st hst (by omega))
set_option maxHeartbeats 2000000 in
set_option maxRecDepth 20000 in
theorem law_turn7 {E : dkE} {G : dkG} {T : dkT} {M N : dkM} {q d c w j b : Nat} {tn x y kd : Int32} {sc : Nat} (hC : dk_Cx E G cL_law 18 RL (some .boolean) 9 322) (hA : dk_Al E G) (hr : dk_rm E 4 76) (hG : dk_cls G) (hq : lA G q 16) (hd : lA G d 20) (hc : lA G c 20) (hw : lA G w 20) (hj : lA G j 20) (D : lD q d c w j) (h111 : 111 ≤ q ∧ 111 ≤ d ∧ 111 ≤ c ∧ 111 ≤ w ∧ 111 ≤ j) (Sm : Sim M N) (r : LR M q d c w j (N 112)) (hsc : sc < ix (N 112 0))  (K : ∀ (M' N' : dkM), Sim M' N' → LR M' q d c w j (N' 112) → V (dk_more E 4 76) G 18 T M' 1387 [(0, some (.ref b)), (1, some (.ref (G.1 + 0))), (2, some (.ref (G.1 + q))), (3, some (.ref (G.1 + d))), (4, some (.ref (G.1 + c))), (5, some (.ref (G.1 + w))), (6, some (.ref (G.1 + j))), (7, some (.int tn)), (9, some (.int y))] [])  : V E G 18 T M 1088 [(0, some (.ref b)), (1, some (.ref (G.1 + 0))), (2, some (.ref (G.1 + q))), (3, some (.ref (G.1 + d))), (4, some (.ref (G.1 + c))), (5, some (.ref (G.1 + w))), (6, some (.ref (G.1 + j))), (7, some (.int tn)), (8, some (.int x)), (9, some (.int y)), (10, some (.int kd)), (11, some (.int (nI sc))), (12, some (.int (bI (mOpen N))))] [] := by
  obtain ⟨⟨d1, d2, d3, d4⟩, ⟨d5, d6, d7⟩, ⟨d8, d9⟩, d10⟩ := id D
  obtain ⟨g1, g2, g3, g4, g5⟩ := h111
  have hsec := Sm.ds.sec
  have hsec2 := r.sec Sm.ds
  have Mo : ∀ X : dkM, (∀ a, 111 ≤ a → X a = M a) → LR X q d c w j (N 112) := fun X h => r.keep (h q g1) (h d g2) (h c g3) (h w g4) (h j g5)
  have loop_1106 : ∀ (n : Nat) , (0 < n) →  V E G 18 T (M) 1106 [(0, some (.ref b)), (1, some (.ref (G.1 + 0))), (2, some (.ref (G.1 + q))), (3, some (.ref (G.1 + d))), (4, some (.ref (G.1 + c))), (5, some (.ref (G.1 + w))), (6, some (.ref (G.1 + j))), (7, some (.int tn)), (9, some (.int y)), (13, some (.int (bI (lTb N))))] [] := by
    intro n
    induction n with
    | zero => intro  hn; exact absurd hn (by omega)
    | succ n ih_1106 =>
      intro  hn
      rcases hb2 : lTb N with _ | _
      · refine V.iload hC dL_law_1106 rfl ?_
        refine V.if_eq_t hC 1125 dL_law_1108 (by decide) (rfl) ?_
        have Sm1 := Sm
        have hno : mRek N = false ∨ mOpen N = true := by
          unfold lTb at hb2
          cases h1 : mRek N with
          | false => exact Or.inl rfl
          | true =>
            rw [h1] at hb2
            cases h2 : mOpen N with
            | true => exact Or.inr rfl
            | false => rw [h2] at hb2; cases hb2
        refine V.aload_n hC dL_law_1125 rfl ?_
        refine V.callV0i hC (c_X4_turnBack hG Sm1.x) mwX4_turnBack mlL_136 (hG.at 0 rfl) rfl rfl ⟨rfl, rfl⟩ dL_law_1126 rfl ?_
        obtain ⟨a1, a2, a3⟩ := op_ok Sm (Sm.draft.ds.turn).to2
        generalize xU (dTurn (hDraft M) 1) = P at *
        refine V.iload hC dL_law_1129 rfl ?_
        refine V.if_eq_t hC 1152 dL_law_1131 (by decide) (rfl) ?_
        refine V.bipush hC (-3) dL_law_1152 (by decide) ?_
        refine V.icmp_eq_t hC 1159 dL_law_1154 (by decide) (a1.trans (by rw [a_turn.1 hno])) ?_
        have hS : Sim P.2 N := by have h := a2; rw [a_turn.1 hno] at h; exact h
        have hL : LR P.2 q d c w j (N 112) := Mo P.2 a3
        refine V.goto hC 1387 dL_law_1159 (by decide) ?_
        first | exact V.more (k := 4) (n := 76) (V.sub (dk_sc rfl (dk_sc rfl (dk_sc rfl (dk_sc rfl (dk_sc rfl (dk_sc rfl (dk_sc rfl (dk_sc rfl (dk_sc rfl (dk_sn)))))))))) (K _ _ hS hL)) | exact V.sub (dk_sc rfl (dk_sc rfl (dk_sc rfl (dk_sc rfl (dk_sc rfl (dk_sc rfl (dk_sc rfl (dk_sc rfl (dk_sc rfl (dk_sn)))))))))) (K _ _ hS hL)
      · refine V.iload hC dL_law_1106 rfl ?_
        refine V.if_eq_f hC 1125 dL_law_1108 (by decide) (by decide) ?_
        refine V.aload_n hC dL_law_1111 rfl ?_
        refine V.iconst hC 4 dL_law_1112 (by decide) ?_
        refine V.iconst hC 1 dL_law_1113 (by decide) ?_
        refine V.aload_n hC dL_law_1114 rfl ?_
        refine V.iconst hC 4 dL_law_1115 (by decide) ?_
        refine V.ialdLN hC (4) hq (rfl) (by omega) dL_law_1116 ?_
        refine V.isub hC dL_law_1117 ?_
        refine V.iastLN hC (4) hq (rfl) (by omega) dL_law_1118 ?_
        refine V.aload_n hC dL_law_1119 rfl ?_
        refine V.aload hC dL_law_1120 rfl ?_
        refine V.callS2v hC (c_L_end hq hj) mwL_end mlL_41 ⟨rfl, rfl⟩ dL_law_1122 rfl ?_
        have hb3 : mRek N = true ∧ mOpen N = false := by
          unfold lTb at hb2
          cases h1 : mRek N with
          | false => rw [h1] at hb2; cases hb2
          | true =>
            rw [h1] at hb2
            cases h2 : mOpen N with
            | true => rw [h2] at hb2; cases hb2
            | false => exact ⟨rfl, rfl⟩
        have Sm1 : Sim (lEnd (dk_put M q 4 (1 - M q 4)) q j) N := Sm.keep (fun a y1 y2 => by rw [lEnd_ne _ (by omega) (by omega), dk_put_ne (by omega)])
        refine V.aload_n hC dL_law_1125 rfl ?_
        refine V.callV0i hC (c_X4_turnBack hG Sm1.x) mwX4_turnBack mlL_136 (hG.at 0 rfl) rfl rfl ⟨rfl, rfl⟩ dL_law_1126 rfl ?_
        obtain ⟨a1, a2, a3⟩ := op_ok Sm1 (Sm1.draft.ds.turn).to2
        generalize xU (dTurn (hDraft (lEnd (dk_put M q 4 (1 - M q 4)) q j)) 1) = P at *
        have hS : Sim P.2 (mTurnsM (mRec N)) := by have h := a2; rw [a_turn.2 hb3.1 hb3.2] at h; exact h
        have hL : LR P.2 q d c w j (mTurnsM (mRec N) 112) := (r.turnp D Sm.ds (mRec_st N) hb3.1 hb3.2).keep (a3 q g1) (a3 d g2) (a3 c g3) (a3 w g4) (a3 j g5)
        refine V.iload hC dL_law_1129 rfl ?_
        refine V.if_eq_f hC 1152 dL_law_1131 (by decide) (by decide) ?_
        refine V.sipush hC 999 dL_law_1134 (by decide) ?_
        refine V.iconst hC 0 dL_law_1137 (by decide) ?_
        refine V.aload_n hC dL_law_1138 rfl ?_
        refine V.aload_n hC dL_law_1139 rfl ?_
        refine V.aload hC dL_law_1140 rfl ?_
        refine V.aload hC dL_law_1142 rfl ?_
        refine V.aload hC dL_law_1144 rfl ?_
        refine V.callSA hC hA (c_L_then (b := false) hG hq hd hc hw hj D hS.ds hL) mwL_then mlL_102 (by omega) hr ⟨rfl, rfl⟩ dL_law_1146 rfl rfl rfl ?_
        obtain ⟨hC, hA⟩ := dk_Cx.more hC hA hr
        refine V.goto hC 1154 dL_law_1149 (by decide) ?_
        refine V.icmp_eq_t hC 1159 dL_law_1154 (by decide) (a1.trans (by rw [a_turn.2 hb3.1 hb3.2]; exact (DS.left_all hS.ds).symm)) ?_
        refine V.goto hC 1387 dL_law_1159 (by decide) ?_
        first | exact V.more (k := 4) (n := 76) (V.sub (dk_sc rfl (dk_sc rfl (dk_sc rfl (dk_sc rfl (dk_sc rfl (dk_sc rfl (dk_sc rfl (dk_sc rfl (dk_sc rfl (dk_sn)))))))))) (K _ _ hS hL)) | exact V.sub (dk_sc rfl (dk_sc rfl (dk_sc rfl (dk_sc rfl (dk_sc rfl (dk_sc rfl (dk_sc rfl (dk_sc rfl (dk_sc rfl (dk_sn)))))))))) (K _ _ hS hL)
  refine V.aload_n hC dL_law_1088 rfl ?_
  refine V.iconst hC 2 dL_law_1089 (by decide) ?_
  refine V.ialdLN hC (2) hq (rfl) (by omega) dL_law_1090 ?_
  refine V.if_le hC 1103 dL_law_1091 (by decide) (fun c_1 => ?_) (fun c_1 => ?_)
  · refine V.iconst hC 0 dL_law_1103 (by decide) ?_
    refine V.top (x' := .int (bI (lTb N))) (by unfold lTb; first | (rw [(rek_pos Sm.ds r).1 c_1]; rfl) | (rw [(rek_pos Sm.ds r).2 c_1, c_2]; rfl)) ?_
    refine V.istore hC dL_law_1104 rfl rfl ?_
    exact V.sub (dk_sc rfl (dk_sc rfl (dk_sc rfl (dk_sc rfl (dk_sc rfl (dk_sc rfl (dk_sc rfl (dk_sc rfl (dk_sc rfl (dk_sc rfl (dk_sn))))))))))) (loop_1106 1  (by omega))
  · refine V.iload hC dL_law_1094 rfl ?_
    refine V.if_neB hC 1103 dL_law_1096 (by decide) (fun c_2 => ?_) (fun c_2 => ?_)
    · refine V.iconst hC 0 dL_law_1103 (by decide) ?_
      refine V.top (x' := .int (bI (lTb N))) (by unfold lTb; first | (rw [(rek_pos Sm.ds r).1 c_1]; rfl) | (rw [(rek_pos Sm.ds r).2 c_1, c_2]; rfl)) ?_
      refine V.istore hC dL_law_1104 rfl rfl ?_
      exact V.sub (dk_sc rfl (dk_sc rfl (dk_sc rfl (dk_sc rfl (dk_sc rfl (dk_sc rfl (dk_sc rfl (dk_sc rfl (dk_sc rfl (dk_sc rfl (dk_sn))))))))))) (loop_1106 1  (by omega))
    · refine V.iconst hC 1 dL_law_1099 (by decide) ?_
      refine V.goto hC 1104 dL_law_1100 (by decide) ?_
      refine V.top (x' := .int (bI (lTb N))) (by unfold lTb; first | (rw [(rek_pos Sm.ds r).1 c_1]; rfl) | (rw [(rek_pos Sm.ds r).2 c_1, c_2]; rfl)) ?_
      refine V.istore hC dL_law_1104 rfl rfl ?_
      exact V.sub (dk_sc rfl (dk_sc rfl (dk_sc rfl (dk_sc rfl (dk_sc rfl (dk_sc rfl (dk_sc rfl (dk_sc rfl (dk_sc rfl (dk_sc rfl (dk_sn))))))))))) (loop_1106 1  (by omega))
