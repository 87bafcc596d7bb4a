/-! what the law compares, answer by answer -/
theorem b31 (x : Int32) : 0 ≤ x.toInt ↔ x.toBitVec.toNat < 2 ^ 31 := by
  have h1 : x.toInt = x.toBitVec.toInt := rfl
  have h2 := x.toBitVec.isLt
  rw [h1, BitVec.toInt_eq_toNat_cond]
  split <;> omega
theorem lLow_b {v n : Int32} (hn : 0 < n.toInt) : 0 ≤ (lLow v n).toInt ∧ (lLow v n).toInt < n.toInt := by
  have ha : 0 ≤ (v &&& 2147483647).toInt := by
    rw [b31]
    have e : (v &&& 2147483647).toBitVec = v.toBitVec &&& (2147483647 : Int32).toBitVec := rfl
    rw [e, BitVec.toNat_and]
    exact Nat.lt_of_le_of_lt Nat.and_le_right (by decide)
  unfold lLow
  generalize v &&& 2147483647 = a at *
  have hlt := Int32.toInt_lt a
  have e1 : (a / n).toInt = a.toInt / n.toInt := by
    rw [Int32.toInt_div_of_ne_right _ _ (by intro w; rw [w] at hn; exact absurd hn (by decide))]
    exact Int.tdiv_eq_ediv_of_nonneg ha
  have h1 := Int.emod_add_mul_ediv a.toInt n.toInt
  have h2 := Int.emod_nonneg a.toInt (show n.toInt ≠ 0 by omega)
  have h3 := Int.emod_lt_of_pos a.toInt hn
  have h4 : 0 ≤ a.toInt / n.toInt := Int.ediv_nonneg ha (by omega)
  have h5 : 0 ≤ a.toInt / n.toInt * n.toInt := Int.mul_nonneg h4 (by omega)
  have h6 : a.toInt / n.toInt * n.toInt = n.toInt * (a.toInt / n.toInt) := Int.mul_comm _ _
  have e2 : (a / n * n).toInt = a.toInt / n.toInt * n.toInt := by
    rw [Int32.toInt_mul, e1, Int.bmod_def]
    omega
  rw [tI_sub (by rw [e2]; omega) (by rw [e2]; omega), e2]
  omega
def lKyN (M : dkM) (q n : Nat) : Nat := cnt (fun i => decide (0 ≤ M q (10 + (i + 1)))) n
section SF
variable {M N : dkM} {q d c w j : Nat} {Mx : dkM} {e : Nat}
theorem Sim.sk (Sm : Sim M N) {k : Nat} (hk : k < ix (N 112 0)) : mSec N (nI k) = true ∧ ix (nI k) = k := ⟨mSec_nI Sm.ds hk, ix_nI (by have := Sm.ds.sec; omega)⟩
theorem f_read (Sm : Sim M N) {k : Nat} (hk : k < ix (N 112 0)) : xRead M (nI k) = mVal N k := by
  obtain ⟨h1, h2⟩ := Sm.sk hk
  rw [(sim_read Sm _).1]; unfold mRead; rw [if_pos h1, h2]
theorem f_stored (Sm : Sim M N) (r : LR M q d c w j (N 112)) {k : Nat} (hk : k < ix (N 112 0)) : xStored M (nI k) = M d k := by
  obtain ⟨h1, h2⟩ := Sm.sk hk
  rw [(sim_stored Sm _).1]; unfold mStored; rw [if_pos h1, h2]; exact (r.2.2.2.2 k hk).1.1.symm
theorem f_keyOf (Sm : Sim M N) (r : LR M q d c w j (N 112)) {k : Nat} (hk : k < ix (N 112 0)) : xKeyOf M (nI k) = lKey M q (nI k) := by
  obtain ⟨h1, h2⟩ := Sm.sk hk
  rw [(sim_keyOf Sm _).1]; unfold mKeyOf; rw [if_pos h1]; exact (r.key Sm.ds _).symm
theorem f_journal (Sm : Sim M N) (r : LR M q d c w j (N 112)) {k : Nat} (hk : k < ix (N 112 0)) : xJournal M (nI k) = M j k := by
  obtain ⟨h1, h2⟩ := Sm.sk hk
  rw [(sim_journal Sm _).1]; unfold mJournal; rw [if_pos h1, h2]; exact (r.2.2.2.2 k hk).2.1.symm
theorem f_cached (Sm : Sim M N) (r : LR M q d c w j (N 112)) {k : Nat} (hk : k < ix (N 112 0)) : xCached M (nI k) = M c k := by
  obtain ⟨h1, h2⟩ := Sm.sk hk
  rw [(sim_cached Sm _).1]; unfold mCachedS; rw [if_pos h1, h2]; exact (r.2.2.2.2 k hk).1.2.symm
theorem f_ifFl (Sm : Sim M N) {k : Nat} (hk : k < ix (N 112 0)) : xIfFl M (nI k) = mForm N k := by
  obtain ⟨h1, h2⟩ := Sm.sk hk
  rw [(sim_ifFlushed Sm _).1]; unfold mIfFl; rw [if_pos h1, h2]
theorem DS.kc {Mx : dkM} {e : Nat} (h : DS Mx e (N 112)) {k : Nat} (h1 : 1 ≤ k) (h2 : k ≤ 99) : N 112 (11 + k) = -6 ∨ (0 ≤ (N 112 (11 + k)).toInt ∧ (N 112 (11 + k)).toInt ≤ 65535) := by
  rcases h.k.2.1 k h1 (by omega) with z | z
  · exact Or.inl z.2
  · right; rw [← z.1]; exact z.2
theorem LR.k6 (h : DS Mx e (N 112)) (r : LR M q d c w j (N 112)) {k : Nat} (h1 : 1 ≤ k) (h2 : k ≤ 5) : (0 ≤ M q (10 + k) ↔ ¬ N 112 (11 + k) = -6) ∧ (M q (10 + k) < 0 ↔ N 112 (11 + k) = -6) := by
  rw [r.2.2.1.1 k h1 h2]
  exact opt6 (h.kc h1 (by omega))
theorem f_secret (Sm : Sim M N) (r : LR M q d c w j (N 112)) {k : Nat} (h1 : 1 ≤ k) (h2 : k ≤ 5) : xSecret M (nI k) = if 0 ≤ M q (10 + k) then M q (10 + k) else -1 := by
  rw [(sim_secretOf Sm _).1]
  unfold mSecretOf
  rw [mIsKey_k h1 (by omega), ix_nI (by omega)]
  have h6 := r.k6 Sm.ds h1 h2
  by_cases z : N 112 (11 + k) = -6
  · rw [if_pos z, if_neg (by decide), if_neg (fun y => h6.1.mp y z)]
  · rw [if_neg z, if_pos rfl, if_pos (h6.1.mpr z), r.2.2.1.1 k h1 h2]
theorem LR.keys (h : DS Mx e (N 112)) (r : LR M q d c w j (N 112)) : mKeys N 99 = lKyN M q 5 := by
  unfold mKeys lKyN
  rw [cnt_ext (n := 5) (m := 99) (by omega) (fun k h1 h2 => by rw [r.2.2.1.2 (k + 1) (by omega) (by omega)]; rfl)]
  refine cnt_congr fun k hk => ?_
  have h6 := (r.k6 h (k := k + 1) (by omega) (by omega)).1
  by_cases z : N 112 (11 + (k + 1)) = -6
  · have y : ¬ 0 ≤ M q (10 + (k + 1)) := fun y => h6.mp y z
    rw [z, decide_eq_false y]; rfl
  · rw [decide_eq_true (h6.mpr z)]
    simpa using z
theorem f_num (Sm : Sim M N) (r : LR M q d c w j (N 112)) {k v : Nat} (hk : k < 13) (hv : v ≤ 10) (h6 : v ≠ 6) (e : mCountOf N (nI k) = N 112 v) : xCount M (nI k) = M q v := by
  rw [xCount_k Sm.ds hk, e]
  exact (r.k hv h6).symm
theorem f_c6 (Sm : Sim M N) (r : LR M q d c w j (N 112)) : xCount M (nI 6) = if M q 6 = 0 then 0 else lBehind M q - lFirst M q := by
  rw [xCount_k Sm.ds (by omega)]
  show N 112 6 = _
  rcases r.2.1 with ⟨z1, z2⟩ | ⟨z1, z2, z3⟩
  · rw [z1, if_pos rfl, z2]
  · rw [z1, if_neg (by decide), r.first Sm.ds, r.behind Sm.ds]
    have hr : mRek N = true := by
      cases hr : mRek N with
      | true => rfl
      | false =>
        obtain ⟨r1, r2, r3, r4, r5, r6⟩ := Sm.ds.off hr
        rw [r6] at z2
        exact absurd z2 (by decide)
    have hF := Sm.ds.fFi hr
    have hT := Sm.ds.fTi hr
    have hb := Sm.ds.zb hr
    have a1 := Sm.ds.a.1
    refine Int32.toInt_inj.mp ?_
    rw [z3, tI_sub (by omega) (by omega)]
    omega
theorem f_c7 (Sm : Sim M N) (r : LR M q d c w j (N 112)) : xCount M (nI 7) = nI (lCaN M c (ix (M q 0))) := by
  rw [xCount_k Sm.ds (by omega), r.ca Sm.ds]; rfl
theorem f_c10 (Sm : Sim M N) (r : LR M q d c w j (N 112)) : xCount M (nI 10) = nI (lKyN M q 5) := by
  rw [xCount_k Sm.ds (by omega), ← r.keys Sm.ds]; rfl
theorem f_dam (Sm : Sim M N) (r : LR M q d c w j (N 112)) : xDam M = nI (lDamN M q d c w (ix (M q 0))) := by
  rw [(sim_damaged Sm).1, r.dam Sm.ds]
theorem f_zone (Sm : Sim M N) (r : LR M q d c w j (N 112)) : xZone M = if 0 ≤ M q 2 then lFirst M q else -3 := by
  rw [(sim_zoneStart Sm).1, r.first Sm.ds]
  unfold mZone
  rcases r.q2 Sm.ds with ⟨z, -, z2, -⟩ | ⟨z, -, -, z2, -⟩
  · rw [if_pos z, if_pos z2]
  · rw [z, if_neg z2]; rfl
theorem f_left (Sm : Sim M N) (r : LR M q d c w j (N 112)) : xLeft M = if 0 ≤ M q 2 then thenA N 999 false else -3 := by
  rw [(sim_stepsLeft Sm).1]
  unfold mStLeft thenA
  rcases r.q2 Sm.ds with ⟨z, -, z2, -⟩ | ⟨z, -, -, z2, -⟩
  · rw [if_pos z, if_pos z2]; exact (DS.left_all Sm.ds).symm
  · rw [z, if_neg z2]; rfl
theorem ifFail_ne (M : dkM) (n : Int32) {a : Nat} (h : ¬ (12 ≤ a ∧ a < 23)) : (xIfFail M n).2 a = M a := by
  unfold xIfFail
  split
  · rfl
  · split
    · rfl
    · dsimp only
      rw [advL_ne 12 (by omega), dCopy_ne (by omega)]
theorem f_ifFail (h : DS M 1 (N 112)) {n : Int32} (hn : 0 ≤ n.toInt ∧ n.toInt ≤ 999) : (xIfFail M n).1 = thenA N n true := by
  unfold xIfFail
  rw [if_neg (show ¬ n < 0 from by rw [tI_lt, e0I]; omega), if_neg (show ¬ 999 < n from by rw [tI_lt, e999I]; omega)]
  have hc : DS (dCopy M 12 1) 12 (N 112) := DS.cop h (by unfold apart; omega)
  obtain ⟨s1, s2⟩ := DS.steps (d := 12) (ix n) 0 hc
  exact congrArg nI s2.damf
theorem Sim.keep {M' : dkM} (Sm : Sim M N) (e : ∀ a, a < 111 → ¬ (12 ≤ a ∧ a < 23) → M' a = M a) : Sim M' N :=
  Sm.oth (fun a ha => e a (by omega) (by omega)) (fun _ _ => rfl) rfl rfl (Sm.ts.cg (e 102 (by omega) (by omega)) (e 104 (by omega) (by omega)) rfl rfl)
theorem LR.keep {M' : dkM} {f : Nat → Int32} (r : LR M q d c w j f) (eq : M' q = M q) (ed : M' d = M d) (ec : M' c = M c) (ew : M' w = M w) (ej : M' j = M j) : LR M' q d c w j f := by
  unfold LR
  rw [eq, ed, ec, ew, ej]
  exact r
/-- the form in which a sector would lie -/
theorem f_form (h : DS Mx e (N 112)) (r : LR M q d c w j (N 112)) {k : Nat} (hk : k < ix (N 112 0)) : mForm N k = if 0 ≤ M c k then (if mOpen N = true then (if mInZ N (nI k) = true then M d k else lMix (M c k) (nI k) (M q (10 + ix (lKey M q (nI k))))) else lMix (M c k) (nI k) (M q (10 + ix (lKey M q (nI k))))) else M d k := by
  have hs := h.sec
  have h6 := opt6 (h.cc (k := k) (by omega))
  obtain ⟨⟨a1, a2⟩, a3, a4⟩ := r.2.2.2.2 k hk
  unfold mForm mCan
  rw [a1, a2]
  have hmix : ¬ N 112 (239 + k) = -6 → lMix (N 112 (239 + k)) (nI k) (M q (10 + ix (lKey M q (nI k)))) = mScr (N 112 (239 + k)) (nI k) (mSecret N (nI k)) := fun z => by
    have hb : 0 ≤ (N 112 (239 + k)).toInt ∧ (N 112 (239 + k)).toInt ≤ 65535 := by
      rcases h.cc (k := k) (by omega) with y | y
      · exact absurd y z
      · exact y
    unfold mSecret
    rw [lMix_eq hb, r.key h, r.ks (r.mk h _)]
  by_cases z : N 112 (239 + k) = -6
  · rw [if_pos z, if_neg (by decide), if_neg (fun y => h6.1.mp y z)]
  · rw [if_neg z, if_pos (h6.1.mpr z), hmix z]
    cases ho : mOpen N with
    | false => rfl
    | true =>
      simp only [if_true]
      cases hi : mInZ N (nI k) with
      | false => rfl
      | true => rfl
theorem f_in (h : DS Mx e (N 112)) (r : LR M q d c w j (N 112)) (s : Int32) : mInZ N s = if M q 2 ≤ 0 then false else if s < lFirst M q then false else if lBehind M q ≤ s then false else true := by
  unfold mInZ
  rw [r.first h, r.behind h]
  rcases r.q2 h with ⟨z, -, -, z2⟩ | ⟨z, -, -, -, z2⟩
  · rw [if_pos z, if_neg (dk_lt1 z2)]
  · rw [z, if_pos (dk_nlt z2)]; rfl
theorem mFoL_s {n k : Nat} (hk : k < n) : mFoL N (n - k) k = if mVal N k = N 112 (303 + k) then mFoL N (n - (k + 1)) (k + 1) else nI k := by
  rw [show n - k = n - (k + 1) + 1 by omega, mFoL]
end SF
