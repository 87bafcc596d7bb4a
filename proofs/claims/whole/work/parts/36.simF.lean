/-! the reader: a command, the whole text -/
section SF
variable {T : Nat} {w : Nat → Int32} {M Mx Mm : dkM}
theorem rnB_iff {M : dkM} : mRnB M = true ↔ (mRn M).1 ≠ 0 := by
  unfold mRnB
  by_cases q : (mRn M).1 = 0
  · rw [if_pos q]; exact ⟨fun y => absurd y (by decide), fun y => absurd q y⟩
  · rw [if_neg q]; exact ⟨fun _ => q, fun _ => rfl⟩
theorem PM.at1 {q : Nat} (h : PM T w M q) (hq : q < T) : PM T w (mAt1 M) (q + 1) := by
  have h1 : PM T w (mLet M) q := h.put _ (by decide) (by decide)
  exact h1.inc hq
/-- after the second number -/
theorem fe20 {q : Nat} (h : PM T w M q) : ∃ q', PM T w (mTwo (mRn M).2) q' ∧ q ≤ q' ∧ ((mRnB M = true ∧ FE T w q 20 = if q' = T then -6 else if chr T w q' = 59 then FE T w (q' + 1) 0 else nI q') ∨ (mRnB M = false ∧ FE T w q 20 = nI q')) := by
  obtain ⟨q', p1, p2, p3, p4, p5⟩ := rn (b := 20) (Or.inr rfl) h
  have hb := rnB_iff (M := M)
  refine ⟨q', p1.put _ (by decide) (by decide), by omega, ?_⟩
  rw [show (20 : Int32) = nI 20 from rfl, p4]
  generalize (mRn M).1 = k at *
  have hc : q' < T → pb (nI (20 + k)) (w q') = if k = 0 then -1 else if w q' = 59 then 0 else -1 := fun hl => pb_20 p2 (by rw [chr_w hl] at p5; exact p5)
  by_cases hk : k = 0
  · right
    refine ⟨?_, ?_⟩
    · cases hr : mRnB M with
      | false => rfl
      | true => exact absurd hk (hb.mp hr)
    · exact FE_bad p1.2.2.1 (fun z => by have := (nI_big (n := 20 + k) (by omega)).mp z; omega) (fun hl => by rw [hc hl, if_pos hk])
  · left
    refine ⟨hb.mpr hk, ?_⟩
    exact FE_fin p1.2.2.1 ((nI_big (n := 20 + k) (by omega)).mpr (by omega)) (fun hl => by rw [hc hl, if_neg hk])
theorem fe10 {q : Nat} (h : PM T w M q) : ∃ q', PM T w (mCmdW M).2 q' ∧ q ≤ q' ∧ (((mCmdW M).1 = true ∧ FE T w q 10 = if q' = T then -6 else if chr T w q' = 59 then FE T w (q' + 1) 0 else nI q') ∨ ((mCmdW M).1 = false ∧ FE T w q 10 = nI q')) := by
  obtain ⟨q1, p1, p2, p3, p4, p5⟩ := rn (b := 10) (Or.inl rfl) h
  have hb := rnB_iff (M := M)
  rw [show (10 : Int32) = nI 10 from rfl, p4]
  have o1 : PM T w (mOne (mRn M).2) q1 := p1.put _ (by decide) (by decide)
  unfold mCmdW
  by_cases hk : (mRn M).1 = 0
  · have hr : ¬ mRnB M = true := fun z => hb.mp z hk
    rw [if_neg hr]
    refine ⟨q1, o1.put _ (by decide) (by decide), by omega, Or.inr ⟨rfl, ?_⟩⟩
    exact FE_bad p1.2.2.1 (fun z => by have := (nI_big (n := 10 + (mRn M).1) (by omega)).mp z; omega) (fun hl => pb_10 p2 (by rw [chr_w hl] at p5; exact p5) (Or.inl hk))
  · have hr : mRnB M = true := hb.mpr hk
    rw [if_pos hr]
    by_cases he : chr T w q1 = 61
    · rw [if_pos ((o1.nextB 61).mpr he)]
      have hl : q1 < T := chr_lt (by rw [he]; decide)
      have o2 := o1.nextT he (by decide)
      obtain ⟨q2, t1, t2, t3⟩ := fe20 o2
      have ef : FE T w q1 (nI (10 + (mRn M).1)) = FE T w (q1 + 1) 20 := by
        rw [FE_lt hl, ← chr_w (w := w) hl, he, pb_10e p2 hk, if_neg (by decide)]
      rw [ef]
      dsimp only
      have q12 : q ≤ q2 := by omega
      refine ⟨q2, ?_, q12, ?_⟩
      · exact t1
      · exact t3
    · rw [if_neg (fun z => he ((o1.nextB 61).mp z))]
      refine ⟨q1, (o1.nextF he).put _ (by decide) (by decide), by omega, Or.inr ⟨rfl, ?_⟩⟩
      exact FE_bad p1.2.2.1 (fun z => by have := (nI_big (n := 10 + (mRn M).1) (by omega)).mp z; omega) (fun hl => pb_10 p2 (by rw [chr_w hl] at p5; exact p5) (Or.inr (by rw [← chr_w (w := w) hl]; exact he)))
theorem pb_0 (c : Int32) : pb 0 c = pbl c := rfl
theorem cmd {q : Nat} (h : PM T w M q) : ∃ q', PM T w (mCmd M).2 q' ∧ (((mCmd M).1 = true ∧ q < q' ∧ FE T w q 0 = if q' = T then -6 else if chr T w q' = 59 then FE T w (q' + 1) 0 else nI q') ∨ ((mCmd M).1 = false ∧ FE T w q 0 = nI q')) := by
  have h9 : mLet M 111 9 = chr T w q := by rw [mLet_9]; exact h.ch
  unfold mCmd
  rw [h9]
  by_cases c1 : chr T w q = 119
  · rw [if_pos c1]
    have hl : q < T := chr_lt (by rw [c1]; decide)
    have ef : FE T w q 0 = FE T w (q + 1) 10 := by
      rw [FE_lt hl, ← chr_w (w := w) hl, c1, show pb 0 119 = 10 from by decide, if_neg (by decide)]
    obtain ⟨q', t1, t2, t3⟩ := fe10 (h.at1 hl)
    rw [ef]
    refine ⟨q', t1, ?_⟩
    rcases t3 with ⟨a, b⟩ | ⟨a, b⟩
    · exact Or.inl ⟨a, by omega, b⟩
    · exact Or.inr ⟨a, b⟩
  · rw [if_neg c1]
    by_cases c2 : chr T w q = 115
    · rw [if_pos c2]
      have hl : q < T := chr_lt (by rw [c2]; decide)
      have ef : FE T w q 0 = FE T w (q + 1) 20 := by
        rw [FE_lt hl, ← chr_w (w := w) hl, c2, show pb 0 115 = 20 from by decide, if_neg (by decide)]
      obtain ⟨q', t1, t2, t3⟩ := fe20 (h.at1 hl)
      rw [ef]
      refine ⟨q', ?_, ?_⟩
      · obtain ⟨a1, a2, a3, a4, a5⟩ := t1
        dsimp only
        refine ⟨?_, ?_, a3, a4, ?_⟩
        · rw [mTwo_6, mOne_6]; rw [mTwo_6] at a1; exact a1
        · rw [mTwo_8, mOne_8]; rw [mTwo_8] at a2; exact a2
        · rw [mTwo, dk_put_ne (by decide), mOne, dk_put_ne (by decide)]; rw [mTwo, dk_put_ne (by decide)] at a5; exact a5
      · rcases t3 with ⟨a, b⟩ | ⟨a, b⟩
        · exact Or.inl ⟨a, by omega, b⟩
        · exact Or.inr ⟨a, b⟩
    · rw [if_neg c2]
      by_cases c3 : chr T w q = 102 ∨ chr T w q = 120 ∨ chr T w q = 98
      · rw [if_pos c3]
        have hl : q < T := chr_lt (by rcases c3 with z | z | z <;> rw [z] <;> decide)
        have ef : FE T w q 0 = FE T w (q + 1) 1 := by
          have : pb 0 (chr T w q) = 1 := by rcases c3 with z | z | z <;> rw [z] <;> decide
          rw [FE_lt hl, ← chr_w (w := w) hl, this, if_neg (by decide)]
        rw [ef]
        have o := h.at1 hl
        exact ⟨q + 1, ((o.put (j := 10) _ (by decide) (by decide)).put (j := 11) _ (by decide) (by decide)), Or.inl ⟨rfl, by omega, FE_fin o.2.2.1 (Or.inl rfl) (fun _ => pb_1 _)⟩⟩
      · rw [if_neg c3]
        refine ⟨q, h.put _ (by decide) (by decide), Or.inr ⟨rfl, ?_⟩⟩
        refine FE_bad h.2.2.1 (fun z => by rcases z with z | z <;> exact absurd z (by decide)) (fun hl => ?_)
        rw [pb_0, ← chr_w (w := w) hl]
        unfold pbl
        rw [if_neg (fun z => c3 (Or.inr (Or.inr z))), if_neg (fun z => c3 (Or.inl z)), if_neg c2, if_neg c1, if_neg (fun z => c3 (Or.inr (Or.inl z)))]
theorem errL : ∀ (n : Nat) (M : dkM) (q : Nat), PM T w M q → T - q < n → (mErrL n M).1 = FE T w q 0 := by
  intro n
  induction n with
  | zero => intro M q _ hn; omega
  | succ n ih =>
    intro M q h hn
    obtain ⟨q', p1, p2⟩ := cmd h
    have hle := p1.2.2.1
    have h80 := p1.2.2.2.1
    unfold mErrL
    rcases p2 with ⟨a, b, c⟩ | ⟨a, c⟩
    · rw [if_pos a, c, p1.1, p1.2.1]
      by_cases z : q' = T
      · rw [if_pos (by rw [z]), if_pos z]
      · rw [if_neg (show ¬ nI q' = nI T from fun y => z ((nI_eq (by omega) (by omega)).mp y)), if_neg z]
        by_cases y : chr T w q' = 59
        · rw [if_pos ((p1.nextB 59).mpr y), if_pos y]
          have hl : q' < T := by omega
          exact ih _ _ (p1.nextT y (by decide)) (by omega)
        · rw [if_neg (fun x => y ((p1.nextB 59).mp x)), if_neg y]
          exact (p1.nextF y).2.1
    · rw [if_neg (by rw [a]; decide), c]
      exact p1.2.1
/-- the class's reader -/
theorem feL_eq (hT : Mx 102 4 = nI T) (h80 : T ≤ 80) (hw : ∀ i, i < T → Mx 104 i = w i) : ∀ (n i : Nat) (p : Int32), i + n = T → feL Mx n i p = feP T w n i p := by
  intro n
  induction n with
  | zero => intro i p _; unfold feL feP; rw [hT]
  | succ n ih =>
    intro i p hi
    have e : rget Mx 103 80 (nI i) = w i := by rw [rget_nI (by omega) (by decide)]; exact hw i (by omega)
    unfold feL feP
    rw [e, ih (i + 1) _ (by omega)]
theorem Sim.pm (h : Sim Mx Mm) : PM (ix (Mm 111 6)) (Mm 116) (dk_put Mm 111 8 0) 0 := by
  have ht := h.t
  have h80 := ht.b
  exact ⟨by rw [put_k (by decide)]; exact ht.n, by rw [put_same]; rfl, Nat.zero_le _, h80, by rw [dk_put_ne (by decide)]⟩
theorem sim_err (h : Sim Mx Mm) : xErr Mx = (mErr Mm).1 := by
  obtain ⟨t1, t2, t3⟩ := h.ts
  have h80 := t2.b
  unfold xErr mErr
  rw [errL 100 _ 0 h.pm (by omega), t1, feL_eq (T := ix (Mm 111 6)) (w := Mm 116) (by rw [t1]; exact t2.n) h80 (fun i hi => (t3 i hi).1) _ 0 0 (by omega)]
  rfl
theorem err_row {a : Nat} (h : a ≠ 111) : (mErr Mm).2 a = Mm a := by
  unfold mErr; rw [mErrL_rows _ _ h, dk_put_ne h]
theorem err_4 : (mErr Mm).2 111 4 = Mm 111 4 := by
  unfold mErr; rw [mErrL_4, put_k (by decide)]
theorem sim_syntaxError (h : Sim Mx Mm) : xErr Mx = (mErr Mm).1 ∧ Sim Mx (mErr Mm).2 := by
  refine ⟨sim_err h, h.oth (fun _ _ => rfl) (fun j _ => by rw [err_row (by decide)]) (err_row (by decide)) err_4 ?_⟩
  exact h.ts.cg rfl rfl (mErr_6 h.t) (err_row (by decide))
end SF
