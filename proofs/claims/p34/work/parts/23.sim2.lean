/-! counts -/
theorem cnt_congr {p q : Nat → Bool} : ∀ {n : Nat}, (∀ k, k < n → p k = q k) → cnt p n = cnt q n := by
  intro n
  induction n with
  | zero => intro _; rfl
  | succ n ih =>
    intro h
    unfold cnt
    rw [h n (Nat.lt_succ_self n), ih (fun k hk => h k (Nat.lt_succ_of_lt hk))]
theorem cnt_none {p : Nat → Bool} : ∀ {n : Nat}, (∀ k, k < n → p k = false) → cnt p n = 0 := by
  intro n
  induction n with
  | zero => intro _; rfl
  | succ n ih =>
    intro h
    unfold cnt
    rw [h n (Nat.lt_succ_self n), ih (fun k hk => h k (Nat.lt_succ_of_lt hk))]
    rfl
theorem cnt_0 {p : Nat → Bool} : ∀ {n : Nat}, cnt p n = 0 → ∀ k, k < n → p k = false := by
  intro n
  induction n with
  | zero => intro _ k hk; omega
  | succ n ih =>
    intro h k hk
    unfold cnt at h
    cases hp : p n with
    | true => rw [hp] at h; simp at h
    | false =>
      rw [hp] at h
      simp at h
      rcases Nat.lt_or_ge k n with q | q
      · exact ih h k q
      · rw [show k = n by omega]; exact hp
theorem cnt_ext {p : Nat → Bool} {n : Nat} : ∀ {m : Nat}, n ≤ m → (∀ k, n ≤ k → k < m → p k = false) → cnt p m = cnt p n := by
  intro m
  induction m with
  | zero => intro h _; rw [show n = 0 by omega]
  | succ m ih =>
    intro h hp
    rcases Nat.lt_or_ge m n with q | q
    · rw [show n = m + 1 by omega]
    · rw [show cnt p (m + 1) = if p m = true then cnt p m + 1 else cnt p m from rfl, hp m q (Nat.lt_succ_self m)]
      simp only [Bool.false_eq_true, if_false]
      exact ih q (fun k a b => hp k a (Nat.lt_succ_of_lt b))
theorem cnt_sh (p : Nat → Bool) : ∀ n : Nat, cnt p (n + 1) = cnt (fun k => p (k + 1)) n + (if p 0 = true then 1 else 0) := by
  intro n
  induction n with
  | zero => simp [cnt]
  | succ n ih =>
    rw [cnt, ih]
    conv => rhs; rw [cnt]
    split <;> omega
/-- one more, one less -/
theorem cnt_set {p q : Nat → Bool} {n j : Nat} (hj : j < n) (h : ∀ k, k ≠ j → q k = p k) : cnt q n + (if p j = true then 1 else 0) = cnt p n + (if q j = true then 1 else 0) := by
  induction n with
  | zero => omega
  | succ n ih =>
    by_cases e : j = n
    · subst e
      have : cnt q j = cnt p j := cnt_congr (fun k hk => h k (by omega))
      unfold cnt
      rw [this]
      split <;> split <;> omega
    · have := ih (by omega)
      unfold cnt
      rw [h n (fun z => e z.symm)]
      split <;> omega
theorem oq.bne {x y : Int32} (h : oq x y) : (x != -1) = (y != -6) := by
  have := h.none_iff
  by_cases q : x = -1
  · rw [q, this.mp q]; rfl
  · have q2 : ¬ y = -6 := fun z => q (this.mpr z)
    rw [bne_iff_ne.mpr q, bne_iff_ne.mpr q2]
section DS2
variable {M : dkM} {d : Nat} {Mm : dkM}
theorem DS.nca (h : DS M d (Mm 112)) : rfilled M (d + 5) 64 = mCached Mm := by
  have hs := h.sec
  have hc := h.c.1
  unfold rfilled mCached mCachedN
  rw [cnt_ext (n := ix (Mm 112 0)) hs.1 (fun k a b => by
    cases q : (M (d + 5 + 1) k != -1) with
    | false => rfl
    | true => exact absurd ((hc k b).2 (bne_iff_ne.mp q)) (by omega))]
  exact cnt_congr (fun k hk => (hc k (by omega)).1.bne)
theorem DS.nke (h : DS M d (Mm 112)) : rfilled M (d + 9) 100 = mKeys Mm 99 := by
  have hk := h.k
  unfold rfilled mKeys
  rw [cnt_sh]
  have e0 : ¬ (M (d + 9 + 1) 0 != -1) = true := by rw [hk.1]; decide
  rw [if_neg e0, Nat.add_zero]
  exact cnt_congr (fun k q => (hk.2.1 (k + 1) (by omega) (by omega)).bne)
theorem DS.ncb (h : DS M d (Mm 112)) : mCached Mm ≤ 8 := by rw [← h.nca]; exact h.c.2
theorem DS.nkb (h : DS M d (Mm 112)) : mKeys Mm 99 ≤ 8 := by rw [← h.nke]; exact h.k.2.2.1
theorem nI_8 {n : Nat} (h : n ≤ 8) : nI n = 8 ↔ 8 ≤ nI n := by
  rw [tI_le, nI_toInt (by omega), show (8 : Int32).toInt = 8 from by decide]
  constructor
  · intro z
    have := congrArg Int32.toInt z
    rw [nI_toInt (by omega), show (8 : Int32).toInt = 8 from by decide] at this
    omega
  · intro z
    have : n = 8 := by omega
    rw [this]; rfl
theorem DS.nlo (h : DS M d (Mm 112)) : nI (rfilled M (d + 7) 64) = Mm 112 6 := h.l.1.symm
theorem DS.ju (h : DS M d (Mm 112)) : (if M d 12 = 0 then (0 : Int32) else 1) = Mm 112 8 := by
  have a := h.a.2.2.2.1
  rw [a.1]
  rcases a.2 with q | q <;> rw [q] <;> decide
theorem DS.fw (h : DS M d (Mm 112)) (hr : mRek Mm = true) : (if M d 8 = 0 then (0 : Int32) else 1) = Mm 112 4 := by
  obtain ⟨r1, r2, r3, r4, r5, r6, r7⟩ := h.on hr
  rw [r5]
  rcases r6 with q | q <;> rw [q.1] <;> decide
theorem DS.num (h : DS M d (Mm 112)) {w : Nat} (hw : w < 13) : (if nI w < 2 then dNum M d (nI w) else if 4 < nI w then dNum M d (nI w) else dNumR M d (nI w)) = mCountOf Mm (nI w) := by
  have h1 := h.a.1.1
  have h2 := h.a.2.1.1
  have h3 := h.a.2.2.1.1
  have h5 := h.a.2.2.2.2.1
  have h6 := h.a.2.2.2.2.2.1.1
  have hj := h.ju
  have hrr := h.rek
  rcases (show w = 0 ∨ w = 1 ∨ w = 2 ∨ w = 3 ∨ w = 4 ∨ w = 5 ∨ w = 6 ∨ w = 7 ∨ w = 8 ∨ w = 9 ∨ w = 10 ∨ w = 11 ∨ w = 12 by omega) with rfl | rfl | rfl | rfl | rfl | rfl | rfl | rfl | rfl | rfl | rfl | rfl | rfl
  · exact h1
  · exact h2
  · show dNumR M d 2 = Mm 112 2
    unfold dNumR
    rw [hrr]
    cases hr : mRek Mm with
    | true => rw [if_pos rfl, if_pos rfl]; exact (h.on hr).1
    | false => rw [if_neg (by decide)]; exact (h.off hr).2.1.symm
  · show dNumR M d 3 = Mm 112 3
    unfold dNumR
    rw [hrr]
    cases hr : mRek Mm with
    | true => rw [if_pos rfl, if_neg (by decide), if_pos rfl]; exact (h.on hr).2.2.2.1
    | false => rw [if_neg (by decide)]; exact (h.off hr).2.2.1.symm
  · show dNumR M d 4 = Mm 112 4
    unfold dNumR
    rw [hrr]
    cases hr : mRek Mm with
    | true => rw [if_pos rfl, if_neg (by decide), if_neg (by decide)]; exact h.fw hr
    | false => rw [if_neg (by decide)]; exact (h.off hr).2.2.2.1.symm
  · exact h6
  · exact h.nlo
  · show nI (rfilled M (d + 5) 64) = nI (mCached Mm)
    rw [h.nca]
  · exact h3
  · exact hj
  · show nI (rfilled M (d + 9) 100) = nI (mKeys Mm 99)
    rw [h.nke]
  · exact h5.1
  · exact h5.2
theorem DS.damc (h : DS M d (Mm 112)) : dcN M d (ix (M d 5)) = mDam Mm := by
  unfold dcN mDam mDamN
  rw [h.a.1.1]
  have hs := h.sec
  exact cnt_congr (fun k hk => by rw [h.val hk, rgetk (by omega), ← (h.s.2 k hk)])
theorem orN_nI {k : Nat} (h : k < 64) : orN (nI k) = nI k := by
  unfold orN
  rw [if_neg]
  intro z
  have := congrArg Int32.toInt z
  rw [nI_toInt (by omega), show (-1 : Int32).toInt = -1 from by decide] at this
  omega
theorem DS.fst (h : DS M d (Mm 112)) : ∀ (n k : Nat), k + n ≤ ix (Mm 112 0) → orN (fdL M d n k) = mFoL Mm n k := by
  intro n
  induction n with
  | zero => intro k _; rfl
  | succ n ih =>
    intro k hk
    have hs := h.sec
    unfold fdL mFoL
    rw [h.val (by omega), rgetk (by omega), ← (h.s.2 k (by omega))]
    split
    · exact ih (k + 1) (by omega)
    · exact orN_nI (by omega)
/-! the steps that are left -/
theorem ofI (x : Int32) : x = Int32.ofInt x.toInt := (Int32.ofInt_toInt x).symm
theorem zn {r z : Int32} (h0 : 0 ≤ r.toInt) (h1 : r.toInt ≤ 64) (h2 : 1 ≤ z.toInt) (h3 : z.toInt ≤ 8) : (r + z - 1) / z = Int32.ofInt ((r.toInt + z.toInt - 1) / z.toInt) := by
  have e1 : (r + z).toInt = r.toInt + z.toInt := tI_add (by omega) (by omega)
  have e2 : (r + z - 1).toInt = r.toInt + z.toInt - 1 := by rw [tI_sub (by rw [e1I, e1]; omega) (by rw [e1I, e1]; omega), e1, e1I]
  have e3 : ((r + z - 1) / z).toInt = (r.toInt + z.toInt - 1) / z.toInt := by
    rw [Int32.toInt_div_of_ne_right _ _ (by intro w; rw [w] at h2; exact absurd h2 (by decide)), e2]
    exact Int.tdiv_eq_ediv_of_nonneg (by omega)
  rw [ofI ((r + z - 1) / z), e3]
theorem cd1 {r z : Int} (h : z ≤ r) (hz : 1 ≤ z) : (r + z - 1) / z = (r - z + z - 1) / z + 1 := by
  rw [show r + z - 1 = (r - z + z - 1) + z from by omega, Int.add_ediv_of_dvd_right (Int.dvd_refl z), Int.ediv_self (by omega)]
theorem cd2 {r z : Int} (h : r ≤ z) (h1 : 1 ≤ r) : (r + z - 1) / z = 1 := by
  rw [show r + z - 1 = (r - 1) + z from by omega, Int.add_ediv_of_dvd_right (Int.dvd_refl z), Int.ediv_self (by omega), Int.ediv_eq_zero_of_lt (by omega) (by omega)]
  rfl
theorem cd3 {z : Int} (h1 : 1 ≤ z) : (0 + z - 1) / z = 0 := Int.ediv_eq_zero_of_lt (by omega) (by omega)
theorem DS.nj (h : DS M d (Mm 112)) : needsJ M d = if Mm 112 8 = 0 then false else if mOpen Mm = true then false else true := by
  unfold needsJ
  rw [h.opn, h.a.2.2.2.1.1]
theorem grL1 {nj zE zF f5 r c mR mZ q jz g : Int32} (h1 : zE - zF + r = mR) (h2 : mZ = q + 1) (h3 : nj = 0 ∧ c = 1 ∧ jz = 0 ∧ g = 0 ∨ nj = 1 - g ∧ c = 2 ∧ jz = mZ) : (nj + zE - zF - f5 + 1) + r + q * c = mR + mZ + jz - f5 - g := by
  rcases h3 with ⟨a, b, e, f⟩ | ⟨a, b, e⟩
  · rw [a, b, e, f, h2]; grind
  · rw [a, b, e, h2]; grind
theorem nonpos0 {x : Int32} (h : 0 ≤ x.toInt) : (x ≤ 0 ↔ x = 0) ∧ (0 < x ↔ 0 < x.toInt) := by
  refine ⟨⟨fun z => ?_, fun z => by rw [z]; exact Int32.le_refl _⟩, ?_⟩
  · rw [tI_le, e0I] at z; exact Int32.toInt_inj.mp (by rw [e0I]; omega)
  · rw [tI_lt, e0I]
theorem DS.f6 (h : DS M d (Mm 112)) : 0 ≤ (Mm 112 6).toInt ∧ (Mm 112 6).toInt ≤ 64 := by
  rw [h.l.1]
  have := cnt_le (fun b => M (d + 8) b != -1) 64
  rw [nI_toInt (by omega)]
  omega
/-- what the rest of the steps counts -/
theorem DS.jpart (h : DS M d (Mm 112)) (mZ : Int32) : (if needsJ M d = true then (1 : Int32) else 0) = 0 ∧ (if M d 12 = 0 then (1 : Int32) else 2) = 1 ∧ (if Mm 112 8 = 1 then mZ else 0) = 0 ∧ (if Mm 112 6 ≤ 0 then (0 : Int32) else 1) = 0 ∨ (if needsJ M d = true then (1 : Int32) else 0) = 1 - (if Mm 112 6 ≤ 0 then (0 : Int32) else 1) ∧ (if M d 12 = 0 then (1 : Int32) else 2) = 2 ∧ (if Mm 112 8 = 1 then mZ else 0) = mZ := by
  have h6 := h.f6
  have n6 := nonpos0 h6.1
  have a4 := h.a.2.2.2.1
  have h5 := h.a.2.2.2.2.2.1.2
  have n5 := nonpos0 h5
  rw [h.nj, a4.1]
  rcases a4.2 with q | q
  · left
    have h60 : ¬ 0 < (Mm 112 6).toInt := fun z => by have := h.l.2.1 z; rw [q] at this; exact absurd this (by decide)
    have e6 : Mm 112 6 ≤ 0 := by rw [tI_le, e0I]; omega
    rw [q, if_pos e6]
    exact ⟨rfl, rfl, rfl, rfl⟩
  · right
    rw [q]
    refine ⟨?_, by decide, rfl⟩
    by_cases e6 : Mm 112 6 ≤ 0
    · have e62 := e6
      rw [tI_le, e0I] at e62
      have e5 : ¬ 0 < Mm 112 5 := fun z => by have := h.l.2.2.1 q (n5.2.mp z); omega
      have ho : mOpen Mm = false := by unfold mOpen; rw [if_neg e5, if_pos e6]
      rw [if_pos e6, ho]
      rfl
    · have ho : mOpen Mm = true := by
        unfold mOpen
        rw [if_neg e6]
        split <;> rfl
      rw [if_neg e6, ho]
      rfl
theorem DS.left (h : DS M d (Mm 112)) (hr : mRek Mm = true) : sAhead M d = mLeft Mm := by
  obtain ⟨r1, r2, r3, r4, r5, r6, r7⟩ := h.on hr
  have hb := h.zb hr
  have hF := h.fFi hr
  have hT := h.fTi hr
  have a1 := h.a.1
  have a3 := h.a.2.2.1
  have hz : 0 < Mm 112 7 := by rw [tI_lt, e0I]; omega
  have hj := h.jpart (mZones Mm)
  unfold sAhead mLeft
  rw [h.rek, hr, h.zF hr, h.zE hr, h.a.2.2.2.2.2.1.1, a1.1, a3.1, if_pos hz]
  simp only [if_true]
  rcases r6 with ⟨q, q1, q2⟩ | ⟨q, q1, q2⟩
  · -- forward
    have e8 : ¬ M d 8 = 0 := by rw [r5, q]; decide
    rw [if_neg e8]
    have hFv : fF (Mm 112) = (Mm 112 3).toInt := by unfold fF; rw [if_pos q]
    have hTv : fT (Mm 112) = min (Mm 112 0).toInt ((Mm 112 3).toInt + (Mm 112 7).toInt) := by unfold fT; rw [if_neg (by rw [q]; decide)]
    have eF : mFrom Mm = Mm 112 3 := by unfold mFrom; rw [if_pos q]
    have eR : mRest Mm = Mm 112 0 - Mm 112 3 := by unfold mRest; rw [if_pos q]
    have tR : (mRest Mm).toInt = (Mm 112 0).toInt - (Mm 112 3).toInt := by rw [eR, tI_sub (by omega) (by omega)]
    have t0 : (Mm 112 0 - mTo Mm).toInt = (Mm 112 0).toInt - (mTo Mm).toInt := tI_sub (by omega) (by omega)
    refine grL1 ?_ ?_ hj
    · rw [eR, eF]; grind
    · unfold mZones
      rw [zn (by omega) (by omega) (by omega) (by omega), zn (by omega) (by omega) (by omega) (by omega), tR, t0, hT, hTv]
      rw [show (1 : Int32) = Int32.ofInt 1 from rfl, ← Int32.ofInt_add]
      congr 1
      rcases Int.lt_or_le (Mm 112 0).toInt ((Mm 112 3).toInt + (Mm 112 7).toInt) with w | w
      · rw [Int.min_eq_left (by omega), Int.sub_self, cd3 (by omega), cd2 (by omega) (by omega)]; rfl
      · rw [Int.min_eq_right w, cd1 (by omega) (by omega)]
        rw [show (Mm 112 0).toInt - ((Mm 112 3).toInt + (Mm 112 7).toInt) = (Mm 112 0).toInt - (Mm 112 3).toInt - (Mm 112 7).toInt from by omega]
  · have e8 : M d 8 = 0 := by rw [r5, q]
    rw [if_pos e8]
    have hFv : fF (Mm 112) = max 0 ((Mm 112 3).toInt - (Mm 112 7).toInt) := by unfold fF; rw [if_neg (by rw [q]; decide)]
    have eT : mTo Mm = Mm 112 3 := by unfold mTo; rw [if_pos q]
    have eR : mRest Mm = Mm 112 3 := by unfold mRest; rw [if_neg (by rw [q]; decide)]
    refine grL1 ?_ ?_ hj
    · rw [eR, eT]; grind
    · unfold mZones
      rw [eR, zn (by omega) (by omega) (by omega) (by omega), zn (by omega) (by omega) (by omega) (by omega), hF, hFv]
      rw [show (1 : Int32) = Int32.ofInt 1 from rfl, ← Int32.ofInt_add]
      congr 1
      rcases Int.lt_or_le ((Mm 112 3).toInt - (Mm 112 7).toInt) 0 with w | w
      · rw [Int.max_eq_left (by omega), cd3 (by omega), cd2 (by omega) (by omega)]; rfl
      · rw [Int.max_eq_right w, cd1 (by omega) (by omega)]
theorem DS.off_left (h : DS M d (Mm 112)) : sAhead M d = mLeft Mm := by
  cases hr : mRek Mm with
  | true => exact h.left hr
  | false => unfold sAhead mLeft; rw [h.rek, hr]; rfl
end DS2
