/-! a step of a rekeying, its turn -/
theorem cnt_iv {p : Nat → Bool} {f k : Nat} (h : ∀ b, p b = true ↔ f ≤ b ∧ b < f + k) {n : Nat} (hn : f + k ≤ n) : cnt p n = k := by
  rw [cnt_ext (n := f + k) hn (fun b hb _ => by
    cases q : p b with
    | false => rfl
    | true => have := (h b).mp q; omega)]
  have hf : cnt p f = 0 := cnt_none (fun b hb => by
    cases q : p b with
    | false => rfl
    | true => have := (h b).mp q; omega)
  have : ∀ i, i ≤ k → cnt p (f + i) = i := by
    intro i
    induction i with
    | zero => intro _; exact hf
    | succ i ih =>
      intro hi
      rw [show cnt p (f + (i + 1)) = if p (f + i) = true then cnt p (f + i) + 1 else cnt p (f + i) from rfl, if_pos ((h (f + i)).mpr (by omega)), ih (by omega)]
  exact this k (Nat.le_refl k)
theorem jrM_lo (M : dkM) (d f : Nat) {k : Nat} (hk : f + k ≤ 64) (b : Nat) : jrM M d f k (d + 8) b = if f ≤ b ∧ b < f + k then M (d + 2) b else M (d + 8) b := by
  induction k with
  | zero => rw [if_neg (by omega)]; rfl
  | succ k ih =>
    rw [jrM, rset_nI (by omega) (by decide), rget_nI (by omega) (by decide), jrM_ne _ _ _ _ (a := d + 1 + 1) (by omega)]
    by_cases q : b = f + k
    · rw [q, put_same, if_pos (by omega)]
    · rw [put_k q, ih (by omega)]
      have e : (f ≤ b ∧ b < f + k) ↔ (f ≤ b ∧ b < f + (k + 1)) := by omega
      simp only [e]
theorem mjL_st (R : dkM) (f : Nat) {k : Nat} (hk : f + k ≤ 64) (j : Nat) : mjL R f k 112 j = if 175 + f ≤ j ∧ j < 175 + f + k then R 112 (j - 64) else R 112 j := by
  induction k with
  | zero => rw [if_neg (by omega)]; rfl
  | succ k ih =>
    rw [mjL, mjL_lo R f k (j := 111 + (f + k)) (by omega)]
    by_cases q : j = 175 + (f + k)
    · rw [q, put_same, if_pos (by omega), show 175 + (f + k) - 64 = 111 + (f + k) by omega]
    · rw [put_k q, ih (by omega)]
      have e : (175 + f ≤ j ∧ j < 175 + f + k) ↔ (175 + f ≤ j ∧ j < 175 + f + (k + 1)) := by omega
      simp only [e]
section DS6
variable {M M' R : dkM} {d : Nat} {Mm : dkM}
theorem DS.shut {f f' : Nat → Int32} (h : DS M d f) (hM : ∀ a, a ≠ d → a ≠ d + 8 → M' a = M a) (hl : ∀ b, b < 64 → M' (d + 8) b = -1) (a : DSa (M' d) f') (r : DSr (M' d) f') (e : ∀ j, j = 0 ∨ (11 ≤ j ∧ j < 175) ∨ 239 ≤ j → f' j = f j) (e175 : ∀ j, 175 ≤ j → j < 239 → f' j = -6) (e5 : f' 5 = 0) (e6 : f' 6 = 0) (k1 : ix (f' 1) ≤ 99 ∧ f (11 + ix (f' 1)) ≠ -6) (k2 : f' 2 ≠ -6 → ix (f' 2) ≤ 99 ∧ f (11 + ix (f' 2)) ≠ -6) : DS M' d f' := by
  refine ⟨a, r, ?_, ?_, ?_, ?_⟩
  · refine ⟨?_, ?_, ?_, fun s hs => ?_⟩
    · rw [e6, cnt_none (fun k hk => by rw [hl k hk]; rfl)]; rfl
    · rw [e6]; intro z; exact absurd z (by decide)
    · rw [e5]; intro _ z; exact absurd z (by decide)
    · rw [hl s hs, e175 _ (by omega) (by omega)]
      exact ⟨Or.inl ⟨rfl, rfl⟩, fun z => absurd rfl z⟩
  · rw [hM (d + 10) (by omega) (by omega)]
    obtain ⟨h1, h2, h3, h4, h5⟩ := h.k
    refine ⟨h1, fun k a b => by rw [e (11 + k) (by omega)]; exact h2 k a b, h3, by rw [e _ (by omega)]; exact k1.2, fun q => ?_⟩
    have := k2 q
    rw [e _ (by omega)]
    exact this.2
  · rw [hM (d + 2) (by omega) (by omega), hM (d + 4) (by omega) (by omega)]
    exact h.s.cg h.sec.1 (fun j hj => e j (by omega))
  · rw [hM (d + 6) (by omega) (by omega)]
    exact h.c.cg (fun j hj => e j (by omega))
theorem mEnds_k (S : dkM) {j : Nat} (h : j = 0 ∨ j = 1 ∨ (7 ≤ j ∧ j < 175) ∨ 239 ≤ j) : mEnds S 112 j = S 112 j := by
  rw [mEnds_st, if_neg (by omega), if_neg (by omega), if_neg (by omega)]
/-- a rekeying has ended -/
theorem DS.stop {f : Nat → Int32} {S : dkM} (h : DS M d f) (hM : ∀ a, a ≠ d → a ≠ d + 8 → M' a = M a) (hl : ∀ b, b < 64 → M' (d + 8) b = -1) (F : ∀ j, j ≠ 6 → j ≠ 7 → j ≠ 8 → j ≠ 9 → j ≠ 10 → j ≠ 13 → M' d j = M d j) (F6 : M' d 6 = S 112 1) (F7 : M' d 7 = 0) (F8 : M' d 8 = 0 ∨ M' d 8 = 1) (F9 : 0 ≤ (M' d 9).toInt ∧ (M' d 9).toInt ≤ 64) (F10 : M' d 10 = 0) (F13 : M' d 13 = S 112 9) (o : (1 ≤ (S 112 1).toInt ∧ (S 112 1).toInt ≤ 99) ∧ f (11 + ix (S 112 1)) ≠ -6) (e : ∀ j, j = 0 ∨ j = 7 ∨ j = 8 ∨ (10 ≤ j ∧ j < 175) ∨ 239 ≤ j → S 112 j = f j) : DS M' d (mEnds S 112) := by
  have a := h.a
  have k24 : ∀ j, j = 2 ∨ j = 3 ∨ j = 4 → mEnds S 112 j = -6 := fun j hj => by rw [mEnds_st, if_neg (by omega), if_neg (by omega), if_pos hj]
  have k56 : ∀ j, j = 5 ∨ j = 6 → mEnds S 112 j = 0 := fun j hj => by rw [mEnds_st, if_neg (by omega), if_pos hj]
  refine h.shut hM hl ?_ ?_ (fun j hj => ?_) (fun j h1 h2 => ?_) (k56 5 (by omega)) (k56 6 (by omega)) ?_ ?_
  · unfold DSa
    rw [mEnds_k S (j := 0) (by omega), mEnds_k S (j := 1) (by omega), mEnds_k S (j := 7) (by omega), mEnds_k S (j := 8) (by omega), mEnds_k S (j := 9) (by omega), mEnds_k S (j := 10) (by omega), k56 5 (by omega), F10, F6, F13, e 0 (by omega), e 7 (by omega), e 8 (by omega), e 10 (by omega), F 5 (by decide) (by decide) (by decide) (by decide) (by decide) (by decide), F 11 (by decide) (by decide) (by decide) (by decide) (by decide) (by decide), F 12 (by decide) (by decide) (by decide) (by decide) (by decide) (by decide), F 14 (by decide) (by decide) (by decide) (by decide) (by decide) (by decide)]
    exact ⟨a.1, ⟨rfl, o.1⟩, a.2.2.1, a.2.2.2.1, ⟨rfl, a.2.2.2.2.1.2⟩, ⟨rfl, by decide⟩, F8, F9⟩
  · exact Or.inl ⟨F7, k24 2 (by omega), k24 3 (by omega), k24 4 (by omega), k56 5 (by omega), k56 6 (by omega)⟩
  · rw [mEnds_k S (by omega)]; exact e j (by omega)
  · rw [mEnds_st, if_pos ⟨h1, h2⟩]
  · rw [mEnds_k S (j := 1) (by omega)]; exact ⟨(ix_99 o.1).2.1, o.2⟩
  · rw [k24 2 (by omega)]; intro z; exact absurd rfl z
/-- the end of a rekeying, where it has come to it -/
theorem DS.ends (h : DS M d (Mm 112)) (hr : mRek Mm = true) (hM : ∀ a, a ≠ d → a ≠ d + 8 → M' a = M a) (hl : ∀ b, b < 64 → M' (d + 8) b = -1) (F : ∀ j, j ≠ 8 → j ≠ 9 → j ≠ 10 → M' d j = M d j) (F8 : M' d 8 = R 112 4) (F9 : M' d 9 = R 112 3) (F10 : M' d 10 = 0) (b4 : R 112 4 = 0 ∨ R 112 4 = 1) (b3 : 0 ≤ (R 112 3).toInt ∧ (R 112 3).toInt ≤ (Mm 112 0).toInt) (e5 : R 112 5 = 0) (e6 : R 112 6 = 0) (e175 : ∀ j, 175 ≤ j → j < 239 → R 112 j = -6) (e : ∀ j, j < 3 ∨ (7 ≤ j ∧ j < 175) ∨ 239 ≤ j → R 112 j = Mm 112 j) : DS (endThru M' d) d (mEnd R 112) := by
  obtain ⟨r1, r2, r3, r4, r5, r6, r7⟩ := h.on hr
  have a := h.a
  have a1 := a.1
  have a3 := a.2.2.1
  have t99 := ix_99 r2
  have o99 := ix_99 a.2.1.2
  have hp2 := h.k.2.2.2.2 (mRek_t hr)
  have hp1 := h.k.2.2.2.1
  have ne2 : Mm 112 2 ≠ -6 := mRek_t hr
  -- what stays when the rekeying goes on
  have goOn : ((R 112 4 = 1 ∧ 0 ≤ (R 112 3).toInt ∧ (R 112 3).toInt < (Mm 112 0).toInt) ∨ (R 112 4 = 0 ∧ 0 < (R 112 3).toInt ∧ (R 112 3).toInt ≤ (Mm 112 0).toInt)) → DS M' d (R 112) := by
    intro q
    refine h.shut hM hl ?_ ?_ (fun j hj => e j (by omega)) e175 e5 e6 ?_ ?_
    · unfold DSa
      rw [e 0 (by omega), e 1 (by omega), e 7 (by omega), e 8 (by omega), e 9 (by omega), e 10 (by omega), e5, F10, F8, F9, F 5 (by decide) (by decide) (by decide), F 6 (by decide) (by decide) (by decide), F 11 (by decide) (by decide) (by decide), F 12 (by decide) (by decide) (by decide), F 13 (by decide) (by decide) (by decide), F 14 (by decide) (by decide) (by decide)]
      exact ⟨a.1, a.2.1, a.2.2.1, a.2.2.2.1, a.2.2.2.2.1, ⟨rfl, by decide⟩, b4, by omega, by omega⟩
    · refine Or.inr ?_
      rw [e 0 (by omega), e 1 (by omega), e 2 (by omega), F 7 (by decide) (by decide) (by decide)]
      refine ⟨r1, r2, r3, F9, F8, q, ?_⟩
      rw [e5, e0I]
      unfold fT fF
      rw [e 0 (by omega), e 7 (by omega)]
      rcases q with q | q
      · rw [q.1, if_neg (by decide), if_pos rfl]; omega
      · rw [q.1, if_pos rfl, if_neg (by decide)]; omega
    · rw [e 1 (by omega)]; exact ⟨o99.2.1, hp1⟩
    · rw [e 2 (by omega)]; intro _; exact ⟨t99.2.1, hp2⟩
  unfold endThru mEnd
  rw [F8, F9, F 5 (by decide) (by decide) (by decide), a1.1, e 0 (by omega)]
  rcases b4 with q | q
  · rw [if_pos q, if_neg (show ¬ (R 112 4 = 1 ∧ R 112 3 = Mm 112 0) from by rw [q]; intro z; exact absurd z.1 (by decide))]
    by_cases q3 : R 112 3 = 0
    · rw [if_pos (show R 112 3 ≤ 0 from by rw [q3]; exact Int32.le_refl _), if_pos (show R 112 4 = 0 ∧ R 112 3 = 0 from ⟨q, q3⟩)]
      refine h.stop (fun b hb hb8 => by rw [dk_put_ne hb]; exact hM b hb hb8) (fun b hb => by rw [dk_put_ne (by omega)]; exact hl b hb) (fun j w6 w7 w8 w9 w10 w13 => by rw [put_k w7]; exact F j w8 w9 w10) ?_ put_same ?_ ?_ ?_ ?_ ?_ (fun j hj => e j (by omega))
      · rw [put_k (by decide), F 6 (by decide) (by decide) (by decide), e 1 (by omega)]; exact a.2.1.1
      · rw [put_k (by decide), F8]; exact Or.inl q
      · rw [put_k (by decide), F9]; omega
      · rw [put_k (by decide)]; exact F10
      · rw [put_k (by decide), F 13 (by decide) (by decide) (by decide), e 9 (by omega)]; exact a.2.2.2.2.1.1
      · rw [e 1 (by omega)]; exact ⟨a.2.1.2, hp1⟩
    · have n3 : 0 < (R 112 3).toInt := by
        rcases Int.lt_or_le 0 (R 112 3).toInt with w | w
        · exact w
        · exact absurd (Int32.toInt_inj.mp (by rw [e0I]; omega)) q3
      rw [if_neg (show ¬ R 112 3 ≤ 0 from by rw [tI_le, e0I]; omega), if_neg (show ¬ (R 112 4 = 0 ∧ R 112 3 = 0) from fun z => q3 z.2)]
      exact goOn (Or.inr ⟨q, n3, b3.2⟩)
  · rw [if_neg (show ¬ R 112 4 = 0 from by rw [q]; decide)]
    by_cases q3 : R 112 3 = Mm 112 0
    · rw [if_pos (show Mm 112 0 ≤ R 112 3 from by rw [q3]; exact Int32.le_refl _), if_pos (show R 112 4 = 1 ∧ R 112 3 = Mm 112 0 from ⟨q, q3⟩)]
      refine h.stop (fun b hb hb8 => by rw [dk_put_ne hb, dk_put_ne hb, dk_put_ne hb]; exact hM b hb hb8) (fun b hb => by rw [dk_put_ne (by omega), dk_put_ne (by omega), dk_put_ne (by omega)]; exact hl b hb) (fun j w6 w7 w8 w9 w10 w13 => by rw [put_k w7, put_k w13, put_k w6]; exact F j w8 w9 w10) ?_ put_same ?_ ?_ ?_ ?_ ?_ (fun j hj => ?_)
      · rw [put_k (by decide), put_k (by decide), put_same, put_k (by decide), put_same, F 7 (by decide) (by decide) (by decide), e 2 (by omega)]; exact r1
      · rw [put_k (by decide), put_k (by decide), put_k (by decide), F8]; exact Or.inr q
      · rw [put_k (by decide), put_k (by decide), put_k (by decide), F9]; omega
      · rw [put_k (by decide), put_k (by decide), put_k (by decide)]; exact F10
      · rw [put_k (by decide), put_same, put_same, F 13 (by decide) (by decide) (by decide), e 9 (by omega), a.2.2.2.2.1.1]
      · rw [put_k (by decide), put_same, e 2 (by omega)]; exact ⟨r2, hp2⟩
      · rw [put_k (by omega), put_k (by omega)]; exact e j (by omega)
    · rw [if_neg (show ¬ Mm 112 0 ≤ R 112 3 from fun z => q3 (Int32.toInt_inj.mp (by rw [tI_le] at z; omega))), if_neg (show ¬ (R 112 4 = 1 ∧ R 112 3 = Mm 112 0) from fun z => q3 z.2), if_neg (show ¬ (R 112 4 = 0 ∧ R 112 3 = 0) from fun z => absurd (q.symm.trans z.1) (by decide))]
      have n3 : (R 112 3).toInt < (Mm 112 0).toInt := by
        rcases Int.lt_or_le (R 112 3).toInt (Mm 112 0).toInt with w | w
        · exact w
        · exact absurd (Int32.toInt_inj.mp (by omega)) q3
      exact goOn (Or.inl ⟨q, b3.1, n3⟩)
/-- a sector is written anew -/
theorem DS.scs {f f' : Nat → Int32} (h : DS M d f) {s : Nat} {v : Int32} (hv : 0 ≤ v.toInt ∧ v.toInt ≤ 65535) (hs : s < ix (f 0)) (e : ∀ j, j ≠ 111 + s → f' j = f j) (ev : f' (111 + s) = v) : DS (dk_put M (d + 2) s v) d f' := by
  have hx := h.sec.1
  have eM : ∀ a, a ≠ d + 2 → dk_put M (d + 2) s v a = M a := fun a ha => dk_put_ne ha
  refine ⟨?_, ?_, ?_, ?_, ?_, ?_⟩
  · rw [eM d (by omega)]; exact h.a.cg (fun j hj => e j (by omega)) (fun _ _ _ => rfl)
  · rw [eM d (by omega)]; exact h.r.cg (fun j hj => e j (by omega)) (fun _ _ _ => rfl)
  · rw [eM (d + 8) (by omega)]; exact h.l.cg (fun j hj => e j (by omega))
  · rw [eM (d + 10) (by omega)]; exact h.k.cg h.own99 h.tgt99 (fun j hj => e j (by omega))
  · rw [eM (d + 4) (by omega)]
    refine ⟨fun k hk => ?_, fun k hk => ?_⟩
    · rw [e 0 (by omega)] at hk
      by_cases q : k = s
      · rw [q, put_same, ev]; exact ⟨rfl, hv⟩
      · rw [put_k q, e _ (by omega)]; exact h.s.1 k hk
    · rw [e 0 (by omega)] at hk
      rw [e _ (by omega)]; exact h.s.2 k hk
  · rw [eM (d + 6) (by omega)]; exact h.c.cg (fun j hj => e j (by omega))
end DS6
