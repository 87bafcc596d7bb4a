/-! the law's mixing, bit by bit, is the model's -/
theorem shr32 (v : Int32) : ∀ (k : Nat), k < 16 → (v >>> (nI k &&& 31)).toBitVec = v.toBitVec.sshiftRight k
  | 0, _ => rfl
  | 1, _ => rfl
  | 2, _ => rfl
  | 3, _ => rfl
  | 4, _ => rfl
  | 5, _ => rfl
  | 6, _ => rfl
  | 7, _ => rfl
  | 8, _ => rfl
  | 9, _ => rfl
  | 10, _ => rfl
  | 11, _ => rfl
  | 12, _ => rfl
  | 13, _ => rfl
  | 14, _ => rfl
  | 15, _ => rfl
  | k + 16, h => absurd h (by omega)
theorem shr64 (v : Int64) : ∀ (k : Nat), k < 16 → (v >>> ((nI k).toInt64 &&& 63)).toBitVec = v.toBitVec.sshiftRight k
  | 0, _ => rfl
  | 1, _ => rfl
  | 2, _ => rfl
  | 3, _ => rfl
  | 4, _ => rfl
  | 5, _ => rfl
  | 6, _ => rfl
  | 7, _ => rfl
  | 8, _ => rfl
  | 9, _ => rfl
  | 10, _ => rfl
  | 11, _ => rfl
  | 12, _ => rfl
  | 13, _ => rfl
  | 14, _ => rfl
  | 15, _ => rfl
  | k + 16, h => absurd h (by omega)
theorem shl32 : ∀ (k : Nat), k < 16 → ((1 : Int32) <<< (nI k &&& 31)).toBitVec = BitVec.twoPow 32 k
  | 0, _ => rfl
  | 1, _ => rfl
  | 2, _ => rfl
  | 3, _ => rfl
  | 4, _ => rfl
  | 5, _ => rfl
  | 6, _ => rfl
  | 7, _ => rfl
  | 8, _ => rfl
  | 9, _ => rfl
  | 10, _ => rfl
  | 11, _ => rfl
  | 12, _ => rfl
  | 13, _ => rfl
  | 14, _ => rfl
  | 15, _ => rfl
  | k + 16, h => absurd h (by omega)
theorem bit0_32 (v : Int32) : v &&& 1 = if v.toBitVec.getLsbD 0 = true then 1 else 0 := by
  refine Int32.toBitVec_inj.mp (BitVec.eq_of_getLsbD_eq fun i hi => ?_)
  rw [Int32.toBitVec_and, BitVec.getLsbD_and]
  show (v.toBitVec.getLsbD i && (1#32).getLsbD i) = _
  rw [BitVec.getLsbD_one]
  by_cases h : i = 0
  · subst h
    cases hb : v.toBitVec.getLsbD 0 <;> simp
  · cases hb : v.toBitVec.getLsbD 0 <;> simp [h]
theorem bit0_64 (v : Int64) : (v &&& 1).toInt32 = if v.toBitVec.getLsbD 0 = true then 1 else 0 := by
  have e : v &&& 1 = if v.toBitVec.getLsbD 0 = true then 1 else 0 := by
    refine Int64.toBitVec_inj.mp (BitVec.eq_of_getLsbD_eq fun i hi => ?_)
    rw [Int64.toBitVec_and, BitVec.getLsbD_and]
    show (v.toBitVec.getLsbD i && (1#64).getLsbD i) = _
    rw [BitVec.getLsbD_one]
    by_cases h : i = 0
    · subst h
      cases hb : v.toBitVec.getLsbD 0 <;> simp
    · cases hb : v.toBitVec.getLsbD 0 <;> simp [h]
  rw [e]
  cases hb : v.toBitVec.getLsbD 0 <;> rfl
theorem mix_bit (v : Int32) (w : Int64) : ∀ (k : Nat), k ≤ 16 → ∀ i, i < 32 → (lMixL v w k).toBitVec.getLsbD i = (decide (i < k) && (v.toBitVec.getLsbD i ^^ w.toBitVec.getLsbD i))
  | 0, _, i, hi => by simp [lMixL]
  | k + 1, hk, i, hi => by
    have ih := mix_bit v w k (by omega) i hi
    have e1 : ((v >>> (nI k &&& 31)) &&& 1) = if v.toBitVec.getLsbD k = true then 1 else 0 := by
      rw [bit0_32, shr32 v k (by omega), BitVec.getLsbD_sshiftRight]
      simp [show k < 32 by omega]
    have e2 : ((w >>> ((nI k).toInt64 &&& 63)) &&& 1).toInt32 = if w.toBitVec.getLsbD k = true then 1 else 0 := by
      rw [bit0_64, shr64 w k (by omega), BitVec.getLsbD_sshiftRight]
      simp [show k < 64 by omega]
    have e3 : (if (v >>> (nI k &&& 31)) &&& 1 = ((w >>> ((nI k).toInt64 &&& 63)) &&& 1).toInt32 then (0 : Int32) else (1 : Int32) <<< (nI k &&& 31)).toBitVec.getLsbD i = (decide (i = k) && (v.toBitVec.getLsbD i ^^ w.toBitVec.getLsbD i)) := by
      rw [e1, e2]
      by_cases h : i = k
      · subst h
        cases hv : v.toBitVec.getLsbD i <;> cases hw : w.toBitVec.getLsbD i <;> simp [shl32 i (by omega)] <;> omega
      · cases hv : v.toBitVec.getLsbD k <;> cases hw : w.toBitVec.getLsbD k <;> simp [shl32 k (by omega), h] <;> omega
    rw [lMixL, Int32.toBitVec_or, BitVec.getLsbD_or, ih, e3]
    by_cases h : i = k
    · subst h; simp
    · by_cases h2 : i < k
      · simp [h2, show i < k + 1 by omega]
      · simp [h, h2, show ¬ i < k + 1 by omega]
theorem lMix_eq {v : Int32} (hv : 0 ≤ v.toInt ∧ v.toInt ≤ 65535) (s x : Int32) : lMix v s x = mScr v s x := by
  have hu : (lMixW s x).toInt32 = 40503 * x + 30011 * s + 12345 := by
    unfold lMixW
    rw [Int64.toInt32_add, Int64.toInt32_add, Int64.toInt32_mul, Int64.toInt32_mul, Int32.toInt32_toInt64, Int32.toInt32_toInt64]
    rfl
  have hb := (b16 v).mp hv
  refine Int32.toBitVec_inj.mp (BitVec.eq_of_getLsbD_eq fun i hi => ?_)
  unfold lMix mScr
  rw [mix_bit v _ 16 (Nat.le_refl _) i hi, ← hu, Int32.toBitVec_xor, BitVec.getLsbD_xor, Int32.toBitVec_and, BitVec.getLsbD_and, Int64.toBitVec_toInt32]
  have e1 : ((lMixW s x).toBitVec.signExtend 32).getLsbD i = (lMixW s x).toBitVec.getLsbD i := by
    rw [BitVec.getLsbD_signExtend]
    simp [hi, show i < 64 by omega]
  have e2 : ((65535 : Int32).toBitVec).getLsbD i = decide (i < 16) := by
    show (BitVec.ofNat 32 (2 ^ 16 - 1)).getLsbD i = _
    rw [BitVec.getLsbD_ofNat, Nat.testBit_two_pow_sub_one]
    simp [hi]
  rw [e1, e2]
  by_cases h : i < 16
  · simp [h]
  · have e3 : v.toBitVec.getLsbD i = false := by
      unfold BitVec.getLsbD
      exact Nat.testBit_lt_two_pow (Nat.lt_of_lt_of_le hb (Nat.pow_le_pow_right (by omega) (by omega)))
    simp [h, e3]
