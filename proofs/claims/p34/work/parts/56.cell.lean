/-! the script's cells; what holds of the law's own frame -/
theorem c_L_cell {l : Launch} {b L k : Nat} {xs : Nat → Int32} (hk : k < 1000) (hL : L < 2 ^ 31) : Met l yL_cell (.code yL_cell cL_cell 2 (some .int) :: dk_tbl) ({ frames := 0, cells := 0, slots := 0, locals := 0 }) (fun av U => av = ([.ref b, .int (nI k)] : List Value).toArray ∧ va_X b L xs U U.heap) (fun _ st o t => (∃ v : Int32, o = .returned (some (.int v))) ∧ t.heap = st.heap) 0 0 (fun _ => False) := by
  refine Met.ofW (cc := cL_cell) (maxL := 2) (ret := some .int) mwL_cell.1.2.1 rfl ?_
  intro p e s m args below meth c s₁ B hml hv
  obtain ⟨rfl, hX⟩ := hv
  have hts := atoms_spec (ws := Cond.code yL_cell cL_cell 2 (some .int) :: dk_tbl) B.pre
  have hl := lv_entry ([.ref b, .int (nI k)]) (n := 2) (Nat.le_of_ble_eq_true rfl)
  rw [lg_entry_eq]
  have hown : s.vm.findClass RL = some m.cls := mwL_cell.1.1.1 ▸ findClass_of_methodNamed B.named
  have hbl : b < s.heap.size := by
    obtain ⟨scr, h1, -⟩ := hX
    exact (Array.getElem?_eq_some_iff.mp h1).1
  have key : ∀ ls : Array Slot, dk_has ls 2 [(0, some (.ref b)), (1, some (.int (nI k)))] → W p l e ({ frames := 0, cells := 0, slots := 0, locals := 0 } : Room) s m ([.ref b, .int (nI k)] : List Value).toArray below meth c s.heap [] 0 0 (MQ below (fun _ st o t => (∃ v : Int32, o = .returned (some (.int v))) ∧ t.heap = st.heap) ([.ref b, .int (nI k)] : List Value).toArray s 0 0 (fun _ => False)) (F0 m 0 ls []) := by
    intro ls hls
    have fin : ∀ v : Int32, W p l e ({ frames := 0, cells := 0, slots := 0, locals := 0 } : Room) s m ([.ref b, .int (nI k)] : List Value).toArray below meth c s.heap [] 0 0 (MQ below (fun _ st o t => (∃ v : Int32, o = .returned (some (.int v))) ∧ t.heap = st.heap) ([.ref b, .int (nI k)] : List Value).toArray s 0 0 (fun _ => False)) (F0 m 21 ls [.int v]) := fun v => W.iret (v := v) B.exec B.bytes B.returns (fun t ht hW => ⟨⟨v, rfl⟩, ht⟩) (fun q h => by cases h) dL_cell_21 B.notSynchronized
    refine lv_iload_n B.exec B.bytes dL_cell_0 rfl (hls.at (i := 1) rfl) ?_
    refine lv_aload_n B.exec B.bytes dL_cell_1 rfl (hls.at (i := 0) rfl) ?_
    refine va_slen (A := fun _ => False) B.exec B.bytes hX hbl (fun h => h) va_S.rf dL_cell_2 ?_
    refine lv_icmp_ge B.exec B.bytes (tgt := 12) dL_cell_3 (by decide) (fun c_1 => ?_) (fun c_1 => ?_)
    · refine lv_ldc B.exec B.bytes hown (hts _ (List.mem_cons_of_mem _ klL_7)) dL_cell_12 ?_
      refine lv_iload_n B.exec B.bytes dL_cell_14 rfl (hls.at (i := 1) rfl) ?_
      refine lv_iconst (v := 1) B.exec B.bytes dL_cell_15 (by decide) ?_
      refine lv_iadd B.exec B.bytes dL_cell_16 ?_
      refine lv_imul B.exec B.bytes dL_cell_17 ?_
      refine lv_ldc B.exec B.bytes hown (hts _ (List.mem_cons_of_mem _ klL_8)) dL_cell_18 ?_
      refine lv_iadd B.exec B.bytes dL_cell_20 ?_
      exact fin _
    · refine lv_aload_n B.exec B.bytes dL_cell_6 rfl (hls.at (i := 0) rfl) ?_
      refine lv_iload_n B.exec B.bytes dL_cell_7 rfl (hls.at (i := 1) rfl) ?_
      have hlt : k < L := by
        rcases Nat.lt_or_ge k L with z | z
        · exact z
        · exact absurd (nI_le z (by omega)) c_1
      refine va_sld (A := fun _ => False) B.exec B.bytes hX hbl (fun h => h) va_S.rf (vp_in_nI hlt hL) dL_cell_8 ?_
      refine lv_goto (tgt := 21) B.exec B.bytes dL_cell_9 (by decide) ?_
      exact fin _
  exact key _ ⟨hl.1, hl.2.1, fun i v h => by
    obtain ⟨w, h1, h2⟩ := dk_args_lv ([.ref b, .int (nI k)]) 0 _ (dk_get_mem (lv := dk_args 0 [.ref b, .int (nI k)]) h)
    cases h1
    exact hl.2.2 _ h2⟩
/-- the script lies in front of all that the law makes -/
def dk_Sc (E : dkE) (b L : Nat) (xs : Nat → Int32) : Prop := va_X b L xs E.2.2.2.2.1 E.2.2.2.2.1.heap ∧ b < E.2.2.2.2.1.heap.size ∧ ¬ E.2.2.2.2.2.2.2.2.2.2.2.2.1 b
/-- the end looks at the answer alone -/
def dk_T1 (E : dkE) : Prop := ∀ T T' : dkT, T.1 = T'.1 → E.2.2.2.2.2.2.2.2.2.2.2.2.2 T = E.2.2.2.2.2.2.2.2.2.2.2.2.2 T'
section CE
variable {E : dkE} {G : dkG} {cc : ByteArray} {nL : Nat} {ret : Option FieldType} {fr lo : Nat} {T T' : dkT} {M : dkM} {pc : Nat} {lv : dkL} {st : List Value} {b L : Nat} {xs : Nat → Int32}
theorem dk_Sc.more (S : dk_Sc E b L xs) (k n : Nat) : dk_Sc (dk_more E k n) b L xs := S
theorem dk_T1.more (S : dk_T1 E) (k n : Nat) : dk_T1 (dk_more E k n) := S
theorem V.reT (h1 : dk_T1 E) (h : T.1 = T'.1) (k : V E G nL T' M pc lv st) : V E G nL T M pc lv st := by
  obtain ⟨p, l, e, R, s, m, args, below, meth, c, z⟩ := E
  have e9 : z.2.2.2 T = z.2.2.2 T' := h1 T T' h
  intro H locs ls hR hz hS hl
  show W p l e R s m args below meth c H locs z.1 z.2.1 (z.2.2.2 T) _
  rw [e9]
  exact k H locs ls hR hz hS hl
theorem V.cell (C : dk_Cx E G cc nL RL ret fr lo) (S : dk_Sc E b L xs) {k : Nat} (hk : k < 1000) (hL : L < 2 ^ 31) {idx : Nat} (hl : Cond.methodLink RL idx yL_cell ∈ dk_tbl) (hrm : Nat.ble 1 fr = true ∧ Nat.ble 21 lo = true) (d : decode cc pc = .ok (.invokestatic idx, 3)) (hw : Nat.ble (st.map fun v => v.category).sum 8 = true) {i : Int32} (hi : i = nI k) (kk : ∀ v : Int32, V E G nL T M (pc + 3) lv (.int v :: st)) : V E G nL T M pc lv (.int i :: .ref b :: st) := by
  subst hi
  obtain ⟨p, l, e, R, s, m, args, below, meth, c, z⟩ := E
  intro H locs ls hR hz hSt hls
  obtain ⟨hx, hb, hml, hown, hts, hlk, hret, hK, hfr, hlo, hX⟩ := C
  obtain ⟨s1, s2, s3⟩ := S
  have hcw := cwS (R := R) (s := s) (args := args) (own := RL) (index := idx) (y := yL_cell) (bytes := cL_cell) (maxL := 2) (ret := some .int) (ws := .code yL_cell cL_cell 2 (some .int) :: dk_tbl) (rm := { frames := 0, cells := 0, slots := 0, locals := 0 }) (mc := 0) (ms := 0) 2 hts (dk_good3 hl mwL_cell.2 mwL_cell.1.2.2.2 (dk_goodIn mwL_cell.1.2.2.1)) rfl rfl rfl ⟨mwL_cell.1.1.1, mwL_cell.1.1.2.1, mwL_cell.1.1.2.2.1, mwL_cell.1.1.2.2.2⟩ ⟨by rw [hfr]; exact Nat.le_of_ble_eq_true hrm.1, by rw [hlo]; exact Nat.le_of_ble_eq_true hrm.2⟩
  have hrun := va_runS (p := p) (l := l) (e := e) (R := R) (s := s) (m := m) (args := args) (below := below) (meth := meth) (c := c) (H := H) (locs := locs) (cells := z.1) (slots := z.2.1) (As := [.ref b, .int (nI k)]) (rest := st) (g := F0 m pc ls (.int (nI k) :: .ref b :: st)) ⟨hx, hb, hml, hown, hts⟩ (c_L_cell (b := b) (L := L) (xs := xs) hk hL) hcw ⟨fun a U g mk h => ⟨h.1, va_X.moved (u := U) (U := U.calling g mk a) (Vm.Alike.refl U.vm) h.2⟩, fun U hU hW => ⟨rfl, va_X.moved hW.alike (va_X.kept s1 (by rw [hU]; exact hSt.2.1 b s2 s3))⟩⟩ rfl rfl hls.1 rfl (lv_room (dk_wt hw)) d hX.2.1
  intro T' hT' X
  obtain ⟨v, st₀, t, T2, Lc, h0, X', hLc, q1, q2, ⟨⟨v2, hv⟩, hF2⟩, stp⟩ := hrun T' hT' X
  cases hv
  have hH : T2.heap = H := by rw [q1, hF2, h0]
  obtain ⟨t2, a1, b1⟩ := kk v2 T2.heap (locs ++ Lc) ls (by rw [hH]; exact hR) (by rw [hH]; exact hz) ⟨by rw [hH]; exact hSt.1, by rw [hH]; exact hSt.2.1, fun q hq => by
      rcases List.mem_append.mp hq with h | h
      · exact hSt.2.2 q h
      · exact absurd (hLc q h) (fun z => z)⟩ hls T2 rfl X'
  exact ⟨t2, stp t2 a1, b1⟩
end CE
theorem low_sc {M N Mx : dkM} {e q d c w j : Nat} (h : DS Mx e (N 112)) (r : LR M q d c w j (N 112)) (y : Int32) : ∃ sc, lLow y (M q 0) = nI sc ∧ sc < ix (N 112 0) := by
  have e0 := r.k (k := 0) (by decide) (by decide)
  have a1 := h.a.1
  have hs := h.sec
  have h2 := lLow_b (v := y) (n := M q 0) (by rw [e0]; omega)
  rw [e0] at h2 ⊢
  have h3 := ix_toInt h2.1
  exact ⟨ix (lLow y (N 112 0)), nI_ix h2.1, by omega⟩
/-! the law's first numbers -/
def iq0 (M : dkM) (q : Nat) : dkM := dk_put (dk_put (dk_put (dk_put (dk_put (dk_put (dk_put M q 0 16) q 1 1) q 2 (-6)) q 3 (-6)) q 4 (-6)) q 7 4) q 8 1
def iq1 (M : dkM) (q : Nat) : Nat → dkM
  | 0 => iq0 M q
  | i + 1 => dk_put (iq1 M q i) q (10 + (i + 2)) (-6)
def iq2 (M : dkM) (q d c j : Nat) : Nat → dkM
  | 0 => iq1 M q 4
  | k + 1 => dk_put (dk_put (dk_put (iq2 M q d c j k) d k (lMix 0 (nI k) 0)) c k (-6)) j k (-6)
theorem iq1_ne {M : dkM} {q a : Nat} (h : a ≠ q) : ∀ i, iq1 M q i a = M a
  | 0 => by unfold iq1 iq0; rw [dk_put_ne h, dk_put_ne h, dk_put_ne h, dk_put_ne h, dk_put_ne h, dk_put_ne h, dk_put_ne h]
  | i + 1 => by rw [iq1, dk_put_ne h, iq1_ne h i]
theorem iq2_st {M : dkM} {q d c w j : Nat} (D : lD q d c w j) : ∀ (n b : Nat), (∀ a, a ≠ d → a ≠ c → a ≠ j → iq2 M q d c j n a b = iq1 M q 4 a b) ∧ (b < n → iq2 M q d c j n d b = lMix 0 (nI b) 0 ∧ iq2 M q d c j n c b = -6 ∧ iq2 M q d c j n j b = -6)
  | 0, b => ⟨fun _ _ _ _ => rfl, fun h => absurd h (Nat.not_lt_zero _)⟩
  | n + 1, b => by
    obtain ⟨⟨d1, d2, d3, d4⟩, ⟨d5, d6, d7⟩, ⟨d8, d9⟩, d10⟩ := id D
    obtain ⟨i1, i2⟩ := iq2_st D n b
    rw [iq2]
    refine ⟨fun a h1 h2 h3 => by rw [dk_put_ne h3, dk_put_ne h2, dk_put_ne h1]; exact i1 a h1 h2 h3, fun hb => ?_⟩
    by_cases y : b = n
    · refine ⟨?_, ?_, ?_⟩
      · rw [dk_put_ne d7, dk_put_ne d5, y, put_same]
      · rw [dk_put_ne d9, y, put_same]
      · rw [y, put_same]
    · obtain ⟨i3, i4, i5⟩ := i2 (Nat.lt_of_le_of_ne (Nat.le_of_lt_succ hb) y)
      refine ⟨?_, ?_, ?_⟩
      · rw [dk_put_ne d7, dk_put_ne d5, put_k y]; exact i3
      · rw [dk_put_ne d9, put_k y, dk_put_ne d5.symm]; exact i4
      · rw [put_k y, dk_put_ne d9.symm, dk_put_ne d7.symm]; exact i5
theorem iq1_q {M : dkM} {q : Nat} (hz : ∀ b, M q b = 0) : iq1 M q 4 q 0 = 16 ∧ iq1 M q 4 q 1 = 1 ∧ iq1 M q 4 q 2 = -6 ∧ iq1 M q 4 q 3 = -6 ∧ iq1 M q 4 q 4 = -6 ∧ iq1 M q 4 q 5 = 0 ∧ iq1 M q 4 q 6 = 0 ∧ iq1 M q 4 q 7 = 4 ∧ iq1 M q 4 q 8 = 1 ∧ iq1 M q 4 q 9 = 0 ∧ iq1 M q 4 q 10 = 0 ∧ iq1 M q 4 q 11 = 0 ∧ iq1 M q 4 q 12 = -6 ∧ iq1 M q 4 q 13 = -6 ∧ iq1 M q 4 q 14 = -6 ∧ iq1 M q 4 q 15 = -6 := by
  simp [iq1, iq0, dk_put, hz]
theorem m0_st (b : Nat) : m0 112 b = if 111 ≤ b ∧ b < 175 then (if (16 : Int32) ≤ nI (b - 111) then 0 else mScr 0 (nI (b - 111)) 0) else if 175 ≤ b ∧ b < 303 then -6 else if 303 ≤ b ∧ b < 367 then 0 else if b = 5 ∨ b = 6 then 0 else if b = 2 ∨ b = 3 ∨ b = 4 then -6 else if b = 0 then 16 else mRaw 112 b := by
  unfold m0
  have e1 : mRaw 112 1 = 1 := mRaw_1.1
  rw [mFormats_st mRaw 16 (by rw [e1]; decide) (by rw [e1]; decide) b, e1, show 11 + ix 1 = 12 from by decide, mRaw_1.2.1]
theorem LR.ini {M : dkM} {q d c w j : Nat} (D : lD q d c w j) (hz : ∀ a b, a = q ∨ a = w → M a b = 0) : LR (iq2 M q d c j 20) q d c w j (m0 112) := by
  obtain ⟨⟨d1, d2, d3, d4⟩, ⟨d5, d6, d7⟩, ⟨d8, d9⟩, d10⟩ := id D
  have hq : ∀ b, iq2 M q d c j 20 q b = iq1 M q 4 q b := fun b => (iq2_st D 20 b).1 q d1 d2 d4
  have hw : ∀ b, iq2 M q d c j 20 w b = 0 := fun b => by rw [(iq2_st D 20 b).1 w d6.symm d8.symm d10, iq1_ne d3.symm]; exact hz w b (Or.inr rfl)
  obtain ⟨a0, a1, a2, a3, a4, a5, a6, a7, a8, a9, a10, a11, a12, a13, a14, a15⟩ := iq1_q (M := M) (q := q) (fun b => hz q b (Or.inl rfl))
  obtain ⟨e1, e12, e7, e8, e9, e10⟩ := mRaw_1
  have f0 : m0 112 0 = 16 := by rw [m0_st]; simp
  have fk : ∀ k, 13 ≤ k → k ≤ 110 → m0 112 k = -6 := fun k h1 h2 => by
    rw [m0_st, if_neg (by omega), if_neg (by omega), if_neg (by omega), if_neg (by omega), if_neg (by omega), if_neg (by omega), mRaw_k (by omega) (by omega) (by omega) (by omega)]
    unfold mRawF
    rw [if_pos (by omega)]
  refine ⟨fun k hk h6 => ?_, Or.inl ⟨by rw [hq, a6], by rw [m0_st]; simp⟩, ⟨fun k h1 h2 => ?_, fun k h1 h2 => fk (11 + k) (by omega) (by omega)⟩, by rw [f0]; decide, fun s hs => ?_⟩
  · rw [hq]
    rcases (show k = 0 ∨ k = 1 ∨ k = 2 ∨ k = 3 ∨ k = 4 ∨ k = 5 ∨ k = 7 ∨ k = 8 ∨ k = 9 ∨ k = 10 by omega) with rfl | rfl | rfl | rfl | rfl | rfl | rfl | rfl | rfl | rfl
    · rw [a0, f0]
    · rw [a1, m0_st]; simp [e1]
    · rw [a2, m0_st]; simp
    · rw [a3, m0_st]; simp
    · rw [a4, m0_st]; simp
    · rw [a5, m0_st]; simp
    · rw [a7, m0_st]; simp [e7]
    · rw [a8, m0_st]; simp [e8]
    · rw [a9, m0_st]; simp [e9]
    · rw [a10, m0_st]; simp [e10]
  · rw [hq]
    rcases (show k = 1 ∨ k = 2 ∨ k = 3 ∨ k = 4 ∨ k = 5 by omega) with rfl | rfl | rfl | rfl | rfl
    · rw [a11, m0_st]; simp [e12]
    · rw [a12, fk _ (by omega) (by omega)]
    · rw [a13, fk _ (by omega) (by omega)]
    · rw [a14, fk _ (by omega) (by omega)]
    · rw [a15, fk _ (by omega) (by omega)]
  · rw [f0, show ix 16 = 16 from by decide] at hs
    obtain ⟨l1, l2, l3⟩ := (iq2_st (M := M) D 20 s).2 (by omega)
    rw [l1, l2, l3, hw, m0_st, m0_st, m0_st, m0_st, if_pos (by omega), show 111 + s - 111 = s by omega, if_neg (show ¬ (16 : Int32) ≤ nI s by rw [tI_le, nI_toInt (by omega), show (16 : Int32).toInt = 16 from by decide]; omega)]
    refine ⟨⟨lMix_eq (by decide) _ _, ?_⟩, ?_, ?_⟩
    · rw [if_neg (by omega), if_pos (by omega)]
    · rw [if_neg (by omega), if_pos (by omega)]
    · rw [if_neg (by omega), if_neg (by omega), if_pos (by omega)]
