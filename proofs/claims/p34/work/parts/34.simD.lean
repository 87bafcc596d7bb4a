/-! the start -/
theorem upd_s {f : Nat → Int32} {k : Nat} {v : Int32} : upd f k v k = v := by simp [upd]
theorem upd_n {f : Nat → Int32} {k j : Nat} {v : Int32} (h : j ≠ k) : upd f k v j = f j := by simp [upd, h]
theorem mRaw_k {j : Nat} (h1 : j ≠ 1) (h2 : j ≠ 12) (h3 : j ≠ 7) (h4 : j ≠ 8) : mRaw 112 j = mRawF 100 j := by
  show upd (upd (upd (upd (mRawF 100) 1 1) 12 0) 7 4) 8 1 j = _
  rw [upd_n h4, upd_n h3, upd_n h2, upd_n h1]
theorem mRaw_1 : mRaw 112 1 = 1 ∧ mRaw 112 12 = 0 ∧ mRaw 112 7 = 4 ∧ mRaw 112 8 = 1 ∧ mRaw 112 9 = 0 ∧ mRaw 112 10 = 0 := by
  refine ⟨?_, ?_, ?_, ?_, ?_, ?_⟩ <;> rfl
theorem e64I : (64 : Int32).toInt = 64 := by decide
theorem e4I : (4 : Int32).toInt = 4 := by decide
theorem e16I : (16 : Int32).toInt = 16 := by decide
theorem dIni_row {d : Nat} : rset (dRaw d) (d + 9) 100 1 0 = dk_put (dRaw d) (d + 10) 1 0 := by
  rw [rset_in (by rw [e1I]; decide) (by rw [e1I]; decide) (by decide)]
  rfl
theorem dIni_d {d j : Nat} : dIni d d j = dFld j := by
  unfold dIni fillZ
  rw [fzM_d, rclear_ne (by omega), dIni_row, dk_put_ne (by omega)]
  unfold dRaw
  rw [if_pos rfl]
theorem DS.ini {d : Nat} (h8 : dk_al (d + 8) = 64) (h10 : dk_al (d + 10) = 100) : DS (dIni d) d (m0 112) := by
  obtain ⟨r1, r12, r7, r8, r9, r10⟩ := mRaw_1
  have eD : ∀ j, rset (dRaw d) (d + 9) 100 1 0 d j = dFld j := fun j => by
    rw [dIni_row, dk_put_ne (by omega)]; unfold dRaw; rw [if_pos rfl]
  have e10 : ∀ b, rset (dRaw d) (d + 9) 100 1 0 (d + 10) b = if b = 1 then 0 else if b < 100 then -1 else 0 := fun b => by
    rw [dIni_row]
    by_cases q : b = 1
    · rw [q, put_same, if_pos rfl]
    · rw [put_k q, if_neg q]; unfold dRaw rowI; rw [if_neg (by omega), h10]
  refine fill_DS (n := 16) (by rw [e16I]; omega) (eD 5) ?_ (eD 7) (eD 10) ?_ ?_ ?_ ?_ ?_ ?_
  · rw [eD 6, r1]; exact ⟨rfl, by decide, by decide⟩
  · rw [eD 11, r7]; exact ⟨rfl, by decide, by decide⟩
  · rw [eD 12, r8]; exact ⟨rfl, Or.inr rfl⟩
  · rw [eD 13, eD 14, r9, r10]; exact ⟨rfl, rfl⟩
  · rw [eD 8, eD 9]; exact ⟨Or.inr rfl, by decide, by decide⟩
  · intro b hb
    rw [dIni_row, dk_put_ne (by omega)]
    unfold dRaw rowI
    rw [if_neg (by omega), h8, if_pos hb]
  · refine ⟨?_, fun k a b => ?_, ?_, ?_⟩
    · rw [e10]; rfl
    · rw [e10]
      by_cases q : k = 1
      · rw [q, if_pos rfl, show mRaw 112 (11 + 1) = 0 from r12]; exact Or.inr ⟨rfl, by decide, by decide⟩
      · rw [if_neg q, if_pos b, mRaw_k (by omega) (by omega) (by omega) (by omega)]
        unfold mRawF
        rw [if_pos (by omega)]
        exact Or.inl ⟨rfl, rfl⟩
    · have h1 := cnt_set (p := fun _ => false) (q := fun b => rset (dRaw d) (d + 9) 100 1 0 (d + 10) b != -1) (n := 100) (j := 1) (by decide)
      have h0 : cnt (fun _ => false) 100 = 0 := cnt_none (fun _ _ => rfl)
      have hc : cnt (fun b => rset (dRaw d) (d + 9) 100 1 0 (d + 10) b != -1) 100 = cnt (fun b => b == 1) 100 := cnt_congr (fun k hk => by
        rw [e10]
        by_cases q : k = 1
        · rw [q, if_pos rfl]; rfl
        · rw [if_neg q, if_pos hk, beq_eq_false_iff_ne.mpr q]; rfl)
      rw [hc]
      decide
    · rw [r1]
      show mRaw 112 (11 + 1) ≠ -6
      rw [show mRaw 112 (11 + 1) = 0 from r12]; decide
theorem m0_row {a : Nat} (h : a ≠ 112) (b : Nat) : m0 a b = 0 := by
  unfold m0
  rw [mFormats_row _ _ h]
  unfold mRaw
  rw [if_neg h]
theorem sim_0 : Sim x0 m0 := by
  have e1 : ∀ a, 1 ≤ a → a < 12 → x0 a = dIni 1 a := fun a _ h => by unfold x0; rw [if_pos h]
  have e23 : x0 23 = fun _ => 0 := by unfold x0 hAll; rw [if_neg (by decide), if_neg (by decide), if_pos (by decide), if_pos (by decide)]
  have e102 : ∀ b, x0 102 b = 0 := fun b => by unfold x0 sRaw; rw [if_neg (by decide), if_neg (by decide), if_neg (by decide), if_pos rfl]
  have eS : ∀ j, j < 7 → x0 (24 + 1 + 11 * j) = dIni (25 + 11 * j) (25 + 11 * j) := fun j hj => by
    unfold x0 hAll hIni
    rw [if_neg (by omega), if_neg (by omega), if_pos (by omega), if_neg (by omega), show (24 + 1 + 11 * j - 25) / 11 = j by omega]
  have hD : DS x0 1 (m0 112) := DS.row (M := dIni 1) (DS.ini rfl rfl) (fun a h1 h2 => e1 a h1 (by omega))
  refine ⟨⟨?_, fun j hj => ?_, hD.dz, hD.di⟩, hD, ⟨?_, ?_, fun i hi => ?_⟩, ?_, ?_, fun j hj => ?_⟩
  · unfold hI; rw [e23]; decide
  · unfold dZ; rw [eS j hj, dIni_d, dIni_d]; exact ⟨Or.inr rfl, Or.inr rfl⟩
  · rw [e102, m0_row (by decide)]
  · unfold tI; rw [m0_row (by decide)]; decide
  · rw [m0_row (by decide)] at hi; exact absurd hi (by show ¬ i < 0; omega)
  · rw [e23, m0_row (by decide)]
  · unfold rI; rw [m0_row (by decide)]; decide
  · rw [m0_row (by decide)] at hj; exact absurd hj (by show ¬ j < 0; omega)
