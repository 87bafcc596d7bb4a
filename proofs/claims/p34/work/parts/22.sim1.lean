/-! a Disk and a state of the model: the relation -/
/-- a number that may be missing: -1 in the class, -6 in the model -/
def oq (x y : Int32) : Prop := (x = -1 ∧ y = -6) ∨ (x = y ∧ 0 ≤ x.toInt ∧ x.toInt ≤ 65535)
theorem oq.none_iff {x y : Int32} (h : oq x y) : x = -1 ↔ y = -6 := by
  rcases h with ⟨rfl, rfl⟩ | ⟨rfl, h0, h1⟩
  · exact ⟨fun _ => rfl, fun _ => rfl⟩
  · constructor
    · intro z; rw [z] at h0; exact absurd h0 (by decide)
    · intro z; rw [z] at h0; exact absurd h0 (by decide)
theorem oq.eq {x y : Int32} (h : oq x y) (hn : x ≠ -1) : x = y ∧ 0 ≤ x.toInt ∧ x.toInt ≤ 65535 := by
  rcases h with ⟨z, _⟩ | h
  · exact absurd z hn
  · exact h
theorem oq.orn {x y : Int32} (h : oq x y) : orN x = y := by
  unfold orN
  rcases h with ⟨rfl, rfl⟩ | ⟨rfl, h0, h1⟩
  · rfl
  · rw [if_neg (by intro z; rw [z] at h0; exact absurd h0 (by decide))]
def fF (f : Nat → Int32) : Int := if f 4 = 1 then (f 3).toInt else max 0 ((f 3).toInt - (f 7).toInt)
def fT (f : Nat → Int32) : Int := if f 4 = 0 then (f 3).toInt else min (f 0).toInt ((f 3).toInt + (f 7).toInt)
def DSa (F f : Nat → Int32) : Prop := (F 5 = f 0 ∧ 4 ≤ (f 0).toInt ∧ (f 0).toInt ≤ 64) ∧ (F 6 = f 1 ∧ 1 ≤ (f 1).toInt ∧ (f 1).toInt ≤ 99) ∧ (F 11 = f 7 ∧ 1 ≤ (f 7).toInt ∧ (f 7).toInt ≤ 8) ∧ (F 12 = f 8 ∧ (f 8 = 0 ∨ f 8 = 1)) ∧ (F 13 = f 9 ∧ F 14 = f 10) ∧ (F 10 = f 5 ∧ 0 ≤ (f 5).toInt) ∧ ((F 8 = 0 ∨ F 8 = 1) ∧ 0 ≤ (F 9).toInt ∧ (F 9).toInt ≤ 64)
def DSr (F f : Nat → Int32) : Prop := (F 7 = 0 ∧ f 2 = -6 ∧ f 3 = -6 ∧ f 4 = -6 ∧ f 5 = 0 ∧ f 6 = 0) ∨ (F 7 = f 2 ∧ (1 ≤ (f 2).toInt ∧ (f 2).toInt ≤ 99) ∧ f 2 ≠ f 1 ∧ F 9 = f 3 ∧ F 8 = f 4 ∧ ((f 4 = 1 ∧ 0 ≤ (f 3).toInt ∧ (f 3).toInt < (f 0).toInt) ∨ (f 4 = 0 ∧ 0 < (f 3).toInt ∧ (f 3).toInt ≤ (f 0).toInt)) ∧ (f 5).toInt ≤ fT f - fF f)
def DSl (lo f : Nat → Int32) : Prop := f 6 = nI (cnt (fun b => lo b != -1) 64) ∧ (0 < (f 6).toInt → f 8 = 1) ∧ (f 8 = 1 → 0 < (f 5).toInt → 0 < (f 6).toInt) ∧ (∀ s, s < 64 → oq (lo s) (f (175 + s)) ∧ (lo s ≠ -1 → s < ix (f 0)))
def DSk (se f : Nat → Int32) : Prop := se 0 = -1 ∧ (∀ k, 1 ≤ k → k < 100 → oq (se k) (f (11 + k))) ∧ cnt (fun b => se b != -1) 100 ≤ 8 ∧ f (11 + ix (f 1)) ≠ -6 ∧ (f 2 ≠ -6 → f (11 + ix (f 2)) ≠ -6)
def DSs (sc ex f : Nat → Int32) : Prop := (∀ s, s < ix (f 0) → sc s = f (111 + s) ∧ 0 ≤ (sc s).toInt ∧ (sc s).toInt ≤ 65535) ∧ (∀ s, s < ix (f 0) → ex s = f (303 + s))
def DSc (ca f : Nat → Int32) : Prop := (∀ s, s < 64 → oq (ca s) (f (239 + s)) ∧ (ca s ≠ -1 → s < ix (f 0))) ∧ cnt (fun b => ca b != -1) 64 ≤ 8
def DSf (F sc ex ca lo se f : Nat → Int32) : Prop := DSa F f ∧ DSr F f ∧ DSl lo f ∧ DSk se f ∧ DSs sc ex f ∧ DSc ca f
def DS (M : dkM) (d : Nat) (f : Nat → Int32) : Prop := DSf (M d) (M (d + 2)) (M (d + 4)) (M (d + 6)) (M (d + 8)) (M (d + 10)) f
section DS1
variable {M : dkM} {d : Nat} {Mm : dkM}
theorem DS.a {f : Nat → Int32} (h : DS M d f) : DSa (M d) f := h.1
theorem DS.r {f : Nat → Int32} (h : DS M d f) : DSr (M d) f := h.2.1
theorem DS.l {f : Nat → Int32} (h : DS M d f) : DSl (M (d + 8)) f := h.2.2.1
theorem DS.k {f : Nat → Int32} (h : DS M d f) : DSk (M (d + 10)) f := h.2.2.2.1
theorem DS.s {f : Nat → Int32} (h : DS M d f) : DSs (M (d + 2)) (M (d + 4)) f := h.2.2.2.2.1
theorem DS.c {f : Nat → Int32} (h : DS M d f) : DSc (M (d + 6)) f := h.2.2.2.2.2
theorem DS.sec {f : Nat → Int32} (h : DS M d f) : ix (f 0) ≤ 64 ∧ 4 ≤ ix (f 0) ∧ (ix (f 0) : Int) = (f 0).toInt ∧ f 0 = nI (ix (f 0)) := by
  have h0 := h.a.1
  have h2 := ix_toInt (x := f 0) (by omega)
  exact ⟨by omega, by omega, h2, nI_ix (by omega)⟩
theorem DS.di {f : Nat → Int32} (h : DS M d f) : dI M d := by
  obtain ⟨a1, a2, a3, a4, a5, a6, a7⟩ := h.a
  unfold dI
  rw [a1.1, a3.1]
  exact ⟨a7.2.1, a7.2.2, a3.2.1, a3.2.2, a1.2.1, a1.2.2⟩
theorem DS.dz {f : Nat → Int32} (h : DS M d f) : dZ M d := by
  obtain ⟨a1, a2, a3, a4, a5, a6, a7⟩ := h.a
  exact ⟨a7.1, by rw [a4.1]; exact a4.2⟩
theorem DS.mi (h : DS M d (Mm 112)) : mI Mm := by
  obtain ⟨a1, a2, a3, a4, a5, a6, a7⟩ := h.a
  refine ⟨a1.2, a2.2, ?_, a3.2, a6.2⟩
  rcases h.r with r | r
  · exact Or.inl r.2.1
  · refine Or.inr ⟨r.2.1.1, r.2.1.2, ?_⟩
    rcases r.2.2.2.2.2.1 with q | q
    · exact ⟨q.2.1, Int.le_of_lt q.2.2⟩
    · exact ⟨Int.le_of_lt q.2.1, q.2.2⟩
theorem t_ne6 {x : Int32} (h : 1 ≤ x.toInt) : ¬ x = -6 := by intro z; rw [z] at h; exact absurd h (by decide)
theorem t_ne0 {x : Int32} (h : 1 ≤ x.toInt) : ¬ x = 0 := by intro z; rw [z] at h; exact absurd h (by decide)
theorem DS.rek (h : DS M d (Mm 112)) : isRek M d = mRek Mm := by
  unfold isRek mRek
  rcases h.r with r | r
  · rw [if_pos r.1, if_pos r.2.1]
  · rw [if_neg (by rw [r.1]; exact t_ne0 r.2.1.1), if_neg (t_ne6 r.2.1.1)]
/-- what a rekeying has -/
theorem DS.on (h : DS M d (Mm 112)) (hr : mRek Mm = true) : M d 7 = Mm 112 2 ∧ (1 ≤ (Mm 112 2).toInt ∧ (Mm 112 2).toInt ≤ 99) ∧ Mm 112 2 ≠ Mm 112 1 ∧ M d 9 = Mm 112 3 ∧ M d 8 = Mm 112 4 ∧ ((Mm 112 4 = 1 ∧ 0 ≤ (Mm 112 3).toInt ∧ (Mm 112 3).toInt < (Mm 112 0).toInt) ∨ (Mm 112 4 = 0 ∧ 0 < (Mm 112 3).toInt ∧ (Mm 112 3).toInt ≤ (Mm 112 0).toInt)) ∧ (Mm 112 5).toInt ≤ fT (Mm 112) - fF (Mm 112) := by
  rcases h.r with r | r
  · exact absurd r.2.1 (mRek_t hr)
  · exact r
theorem DS.off (h : DS M d (Mm 112)) (hr : mRek Mm = false) : M d 7 = 0 ∧ Mm 112 2 = -6 ∧ Mm 112 3 = -6 ∧ Mm 112 4 = -6 ∧ Mm 112 5 = 0 ∧ Mm 112 6 = 0 := by
  rcases h.r with r | r
  · exact r
  · unfold mRek at hr
    rw [if_neg (t_ne6 r.2.1.1)] at hr
    cases hr
theorem DS.zF (h : DS M d (Mm 112)) (hr : mRek Mm = true) : zFirst M d = mFrom Mm := by
  obtain ⟨r1, r2, r3, r4, r5, r6, r7⟩ := h.on hr
  have hI := h.mi
  have a := dI_zF h.di
  have b := mFrom_i hI hr
  have a3 := h.a.2.2.1.1
  rw [r5, r4, a3] at a
  refine Int32.toInt_inj.mp ?_
  rw [a, b]
  rcases r6 with q | q
  · rw [q.1, if_neg (by decide), if_pos rfl]
  · rw [q.1, if_pos rfl, if_neg (by decide)]
theorem DS.zE (h : DS M d (Mm 112)) (hr : mRek Mm = true) : zEnd M d = mTo Mm := by
  obtain ⟨r1, r2, r3, r4, r5, r6, r7⟩ := h.on hr
  have hI := h.mi
  have a := dI_zE h.di
  have b := mTo_i hI hr
  rw [r5, r4, h.a.2.2.1.1, h.a.1.1] at a
  exact Int32.toInt_inj.mp (by rw [a, b])
theorem DS.fFi (h : DS M d (Mm 112)) (hr : mRek Mm = true) : (mFrom Mm).toInt = fF (Mm 112) := mFrom_i h.mi hr
theorem DS.fTi (h : DS M d (Mm 112)) (hr : mRek Mm = true) : (mTo Mm).toInt = fT (Mm 112) := mTo_i h.mi hr
/-- the zone's bounds -/
theorem DS.zb (h : DS M d (Mm 112)) (hr : mRek Mm = true) : 0 ≤ fF (Mm 112) ∧ fF (Mm 112) < fT (Mm 112) ∧ fT (Mm 112) ≤ (Mm 112 0).toInt := by
  obtain ⟨r1, r2, r3, r4, r5, r6, r7⟩ := h.on hr
  have a1 := h.a.1
  have a3 := h.a.2.2.1
  unfold fF fT
  rcases r6 with q | q
  · rw [q.1, if_pos rfl, if_neg (by decide)]; omega
  · rw [q.1, if_neg (by decide), if_pos rfl]; omega
theorem nI_le0 {n : Nat} (h : n < 2 ^ 31) : nI n ≤ 0 ↔ n = 0 := by
  rw [tI_le, nI_toInt h, show (0 : Int32).toInt = 0 from by decide]; omega
theorem DS.opn (h : DS M d (Mm 112)) : zOpen M d = mOpen Mm := by
  unfold zOpen mOpen
  rw [h.a.2.2.2.2.2.1.1, h.l.1]
  rfl
theorem DS.opn_rek (h : DS M d (Mm 112)) (ho : mOpen Mm = true) : mRek Mm = true := by
  cases hr : mRek Mm with
  | true => rfl
  | false =>
    obtain ⟨-, -, -, -, r5, r6⟩ := h.off hr
    unfold mOpen at ho
    rw [r5, r6] at ho
    exact absurd ho (by decide)
theorem DS.kb (h : DS M d (Mm 112)) (s : Int32) : kbp M d s = if mRek Mm = true then (if s < Mm 112 3 then Mm 112 2 else Mm 112 1) else Mm 112 1 := by
  unfold kbp
  rw [h.rek, h.a.2.1.1]
  cases hr : mRek Mm with
  | false => simp
  | true =>
    obtain ⟨r1, r2, r3, r4, r5, r6, r7⟩ := h.on hr
    simp only [if_true]
    rw [r1, r4]
theorem DS.ka (h : DS M d (Mm 112)) (s : Int32) : keyAt M d s = mKeyAt Mm s := by
  unfold keyAt mKeyAt
  have hk := h.kb s
  have a6 := h.a.2.2.2.2.2.1
  cases hr : mRek Mm with
  | false =>
    obtain ⟨r1, r2, r3, r4, r5, r6⟩ := h.off hr
    rw [hr] at hk
    simp only [Bool.false_eq_true, if_false] at hk ⊢
    rw [hk, a6.1, r5, Int32_add_0]
    split
    · rfl
    · rfl
  | true =>
    obtain ⟨r1, r2, r3, r4, r5, r6, r7⟩ := h.on hr
    have hb := h.zb hr
    have a1 := h.a.1
    rw [hr] at hk
    simp only [if_true] at hk ⊢
    have hF := h.fFi hr
    have hT := h.fTi hr
    have hadd : (mFrom Mm + Mm 112 5).toInt = (mFrom Mm).toInt + (Mm 112 5).toInt := tI_add (by omega) (by omega)
    have hrw : mRw Mm s = if s < mFrom Mm then false else if s < mFrom Mm + Mm 112 5 then true else false := by
      unfold mRw mInZ
      rw [hr]
      simp only [if_true]
      by_cases q1 : s < mFrom Mm
      · simp [q1]
      · by_cases q2 : s < mFrom Mm + Mm 112 5
        · have q3 : ¬ mTo Mm ≤ s := by rw [tI_le]; rw [tI_lt, hadd] at q2; omega
          have q4 : ¬ mFrom Mm + Mm 112 5 ≤ s := dk_lt1 q2
          simp [q1, q2, q3, q4]
        · have q4 : mFrom Mm + Mm 112 5 ≤ s := dk_nlt q2
          by_cases q3 : mTo Mm ≤ s
          · simp [q1, q2, q3, q4]
          · simp [q1, q2, q3, q4]
    rw [h.zF hr, a6.1, hrw]
    by_cases q1 : s < mFrom Mm
    · rw [if_pos q1, if_pos q1, hk]
      by_cases q5 : s < Mm 112 3
      · rw [if_pos q5, if_neg (dk_lt1 q5)]; rfl
      · rw [if_neg q5, if_pos (dk_nlt q5)]; rfl
    · rw [if_neg q1, if_neg q1]
      by_cases q2 : s < mFrom Mm + Mm 112 5
      · rw [if_pos q2, if_pos q2, hk]
        unfold othK
        rw [h.a.2.1.1, r1]
        by_cases q5 : s < Mm 112 3
        · rw [if_pos q5, if_neg r3, if_neg (dk_lt1 q5)]; rfl
        · rw [if_neg q5, if_pos rfl, if_pos (dk_nlt q5)]; rfl
      · rw [if_neg q2, if_neg q2, hk]
        by_cases q5 : s < Mm 112 3
        · rw [if_pos q5, if_neg (dk_lt1 q5)]; rfl
        · rw [if_neg q5, if_pos (dk_nlt q5)]; rfl
/-- a key's secret -/
theorem DS.sec1 {f : Nat → Int32} (h : DS M d f) {k : Int32} (hk : 1 ≤ k.toInt ∧ k.toInt ≤ 99) (hp : f (11 + ix k) ≠ -6) : rget M (d + 9) 100 k = f (11 + ix k) := by
  have h2 := ix_toInt (x := k) (by omega)
  have hq := h.k.2.1 (ix k) (by omega) (by omega)
  have hn : M (d + 10) (ix k) ≠ -1 := fun z => hp (hq.none_iff.mp z)
  have e : rget M (d + 9) 100 (nI (ix k)) = M (d + 10) (ix k) := rget_nI (by omega) (by decide)
  rw [← nI_ix (x := k) (by omega)] at e
  rw [e]
  exact (hq.eq hn).1
theorem DS.own_p (h : DS M d (Mm 112)) : rget M (d + 9) 100 (Mm 112 1) = Mm 112 (11 + ix (Mm 112 1)) := h.sec1 h.a.2.1.2 h.k.2.2.2.1
theorem DS.tgt_p (h : DS M d (Mm 112)) (hr : mRek Mm = true) : rget M (d + 9) 100 (Mm 112 2) = Mm 112 (11 + ix (Mm 112 2)) := h.sec1 (h.on hr).2.1 (h.k.2.2.2.2 (mRek_t hr))
theorem DS.secret (h : DS M d (Mm 112)) (s : Int32) : rget M (d + 9) 100 (keyAt M d s) = mSecret Mm s := by
  rw [h.ka]
  unfold mSecret mKeyAt
  cases hr : mRek Mm with
  | false => simp only [Bool.false_eq_true, if_false]; exact h.own_p
  | true =>
    simp only [if_true]
    split <;> split
    · exact h.tgt_p hr
    · exact h.own_p
    · exact h.own_p
    · exact h.tgt_p hr
theorem DS.ex (h : DS M d (Mm 112)) (x s : Int32) : exch M d x s (keyAt M d s) = mScr x s (mSecret Mm s) := by
  unfold exch mScr
  rw [h.secret]
theorem rgetk {o k : Nat} (hk : k < 64) : rget M o 64 (nI k) = M (o + 1) k := rget_nI hk (by decide)
theorem DS.val (h : DS M d (Mm 112)) {k : Nat} (hk : k < ix (Mm 112 0)) : valIn M d (nI k) = mVal Mm k := by
  have hs := h.sec
  have hc := h.c.1 k (by omega)
  unfold valIn mVal mPlain
  rw [rgetk (by omega), rgetk (by omega)]
  by_cases q : M (d + 6) k = -1
  · rw [if_pos q, if_pos (hc.1.none_iff.mp q), h.ex, (h.s.1 k hk).1]
  · rw [if_neg q, if_neg (fun z => q (hc.1.none_iff.mpr z)), (hc.1.eq q).1]
theorem DS.hs (h : DS M d (Mm 112)) (s : Int32) : hasSec M d s = mSec Mm s := by
  have hs := h.a.1
  have e : (Mm 112 0 - 1).toInt = (Mm 112 0).toInt - 1 := by rw [tI_sub (by rw [e1I]; omega) (by rw [e1I]; omega), e1I]
  have hb : mSec Mm s = true ↔ 0 ≤ s.toInt ∧ s.toInt ≤ (Mm 112 0).toInt - 1 := by
    unfold mSec; rw [mW_iff, e, e0I]
  unfold hasSec
  rw [hs.1]
  cases hm : mSec Mm s with
  | true =>
    have := hb.mp hm
    rw [if_neg (by rw [tI_lt, e0I]; omega), if_neg (by rw [tI_le]; omega)]
  | false =>
    by_cases q : s < 0
    · rw [if_pos q]
    · rw [if_neg q, if_pos ?_]
      rw [tI_lt, e0I] at q
      rw [tI_le]
      have : ¬ (0 ≤ s.toInt ∧ s.toInt ≤ (Mm 112 0).toInt - 1) := fun z => by rw [hb.mpr z] at hm; cases hm
      omega
theorem DS.sec_k (h : DS M d (Mm 112)) {s : Int32} (hm : mSec Mm s = true) : s = nI (ix s) ∧ ix s < ix (Mm 112 0) := by
  have := mSec_k h.mi hm
  have hs := h.sec
  exact ⟨this.1, by omega⟩
theorem DS.can (h : DS M d (Mm 112)) {k : Nat} (hk : k < ix (Mm 112 0)) : isFl M d (nI k) = mCan Mm k := by
  have hs := h.sec
  have hc := h.c.1 k (by omega)
  unfold isFl mCan
  rw [rgetk (by omega), h.opn]
  by_cases q : M (d + 6) k = -1
  · rw [if_pos q, if_pos (hc.1.none_iff.mp q)]
  · rw [if_neg q, if_neg (fun z => q (hc.1.none_iff.mpr z))]
    cases ho : mOpen Mm with
    | false => rfl
    | true =>
      have hr := h.opn_rek ho
      simp only [if_true]
      rw [h.zF hr, h.zE hr]
      unfold mInZ
      rw [hr]
      simp only [if_true]
      by_cases q1 : nI k < mFrom Mm
      · simp [q1]
      · by_cases q2 : nI k < mTo Mm
        · have q3 : ¬ mTo Mm ≤ nI k := dk_lt1 q2
          simp [q1, q2, q3]
        · have q3 : mTo Mm ≤ nI k := dk_nlt q2
          simp [q1, q2, q3]
theorem DS.form (h : DS M d (Mm 112)) {k : Nat} (hk : k < ix (Mm 112 0)) : saFl M d (nI k) = mForm Mm k := by
  have hs := h.sec
  have hc := h.c.1 k (by omega)
  unfold saFl mForm
  rw [h.can hk, rgetk (by omega), rgetk (by omega)]
  cases hq : mCan Mm k with
  | false => simp only [Bool.false_eq_true, if_false]; exact (h.s.1 k hk).1
  | true =>
    simp only [if_true]
    rw [h.ex]
    have hn : ¬ M (d + 6) k = -1 := by
      intro z
      unfold mCan at hq
      rw [if_pos (hc.1.none_iff.mp z)] at hq
      cases hq
    rw [(hc.1.eq hn).1]
end DS1
