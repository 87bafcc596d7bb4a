/-! the law's own disk, as functions of the memory: the cells q (numbers), d (scrambled), c (cache), w (expected), j (journal) -/
def lLow (v n : Int32) : Int32 := (v &&& 2147483647) - (v &&& 2147483647) / n * n
def lMixW (s x : Int32) : Int64 := 40503 * x.toInt64 + 30011 * s.toInt64 + 12345
def lMixL (v : Int32) (w : Int64) : Nat → Int32
  | 0 => 0
  | k + 1 => lMixL v w k ||| (if (v >>> (nI k &&& 31)) &&& 1 = ((w >>> ((nI k).toInt64 &&& 63)) &&& 1).toInt32 then (0 : Int32) else (1 : Int32) <<< (nI k &&& 31))
def lMix (v s x : Int32) : Int32 := lMixL v (lMixW s x) 16
def lFirst (M : dkM) (q : Nat) : Int32 := if M q 4 = 1 then M q 3 else if M q 3 ≤ M q 7 then 0 else M q 3 - M q 7
def lBehind (M : dkM) (q : Nat) : Int32 := if M q 4 = 0 then M q 3 else if M q 0 ≤ M q 3 + M q 7 then M q 0 else M q 3 + M q 7
def lRw (M : dkM) (q : Nat) (s : Int32) : Bool := if s < lFirst M q then false else if lFirst M q + M q 5 ≤ s then false else true
def lKey (M : dkM) (q : Nat) (s : Int32) : Int32 := if 0 ≤ M q 2 then (if M q 4 = 1 then (if s < M q 3 then M q 2 else if lRw M q s = true then M q 2 else M q 1) else (if M q 3 ≤ s then M q 1 else if lRw M q s = true then M q 1 else M q 2)) else M q 1
def lPlain (M : dkM) (q d k : Nat) : Int32 := lMix (M d k) (nI k) (M q (10 + ix (lKey M q (nI k))))
def lClr (M : dkM) (j n : Nat) : dkM := fun a b => if a = j ∧ b < n then -6 else M a b
theorem lClr_0 (M : dkM) (j : Nat) : lClr M j 0 = M := by funext a b; simp [lClr]
theorem lClr_s (M : dkM) (j k : Nat) : dk_put (lClr M j k) j k (-6) = lClr M j (k + 1) := by
  funext a b
  unfold dk_put lClr
  by_cases h : a = j
  · by_cases h2 : b = k
    · simp [h, h2]
    · simp only [h, if_true, if_neg h2, true_and]
      have : b < k ↔ b < k + 1 := by omega
      simp only [this]
  · simp [h]
def lClose (M : dkM) (q j : Nat) : dkM := lClr (dk_put (dk_put M q 5 0) q 6 0) j 20
def lOff (M : dkM) (q j : Nat) : dkM := lClose (dk_put (dk_put (dk_put M q 2 (-6)) q 3 (-6)) q 4 (-6)) q j
def lDone (M : dkM) (q : Nat) : dkM := dk_put (dk_put M q 1 (M q 2)) q 9 (dk_put M q 1 (M q 2) q 9 + 1)
def lEnd (M : dkM) (q j : Nat) : dkM := if M q 4 = 1 then (if M q 3 = M q 0 then lOff (lDone M q) q j else M) else if M q 3 ≤ 0 then lOff M q j else M
def ljL (M : dkM) (d j f : Nat) : Nat → dkM
  | 0 => M
  | k + 1 => dk_put (ljL M d j f k) j (f + k) (ljL M d j f k d (f + k))
def lS (M : dkM) (q : Nat) : Nat := ix (lFirst M q) + ix (M q 5)
def lOth (M : dkM) (q : Nat) (k : Int32) : Int32 := if k = M q 1 then M q 2 else M q 1
def lRwD (M : dkM) (q d s : Nat) : dkM := dk_put M d s (lMix (lPlain M q d s) (nI s) (M q (10 + ix (lOth M q (lKey M q (nI s))))))
def lRwr (M : dkM) (q d s : Nat) : dkM := dk_put (lRwD M q d s) q 5 (lRwD M q d s q 5 + 1)
def lGo (M : dkM) (q : Nat) : Bool := if 0 ≤ M q 2 then true else false
def lStep (M : dkM) (q d j : Nat) : dkM := if 0 ≤ M q 2 then (if M q 8 = 1 ∧ M q 6 = 0 ∧ M q 5 = 0 then dk_put (ljL M d j (ix (lFirst M q)) (ix (lBehind M q) - ix (lFirst M q))) q 6 1 else if ix (lBehind M q) ≤ lS M q then lEnd (lClose (dk_put M q 3 (if M q 4 = 1 then nI (ix (lBehind M q)) else nI (ix (lFirst M q)))) q j) q j else lRwr M q d (lS M q)) else M
def lFl (M : dkM) (d c j : Nat) : Nat → dkM
  | 0 => M
  | k + 1 => if dk_put (lFl M d c j k) c k (-6) j k < 0 then dk_put (lFl M d c j k) c k (-6) else dk_put (dk_put (lFl M d c j k) c k (-6)) d k (dk_put (lFl M d c j k) c k (-6) j k)
def lFailC (M : dkM) (q d c j : Nat) : dkM := lClose (lFl M d c j (ix (M q 0))) q j
def lFail (M : dkM) (q d c j : Nat) : dkM := dk_put (lFailC M q d c j) q 10 (lFailC M q d c j q 10 + 1)
def lVal (M : dkM) (q d c k : Nat) : Int32 := if 0 ≤ M c k then M c k else lPlain M q d k
def lDamN (M : dkM) (q d c w : Nat) (n : Nat) : Nat := cnt (fun k => lVal M q d c k != M w k) n
def lCaN (M : dkM) (c : Nat) (n : Nat) : Nat := cnt (fun k => decide (0 ≤ M c k)) n
/-- what a walk rests on -/
def lK (M : dkM) (q : Nat) : Prop := (1 ≤ (M q 1).toInt ∧ (M q 1).toInt ≤ 5) ∧ (M q 2 < 0 ∨ (1 ≤ (M q 2).toInt ∧ (M q 2).toInt ≤ 5))
def lNn (M : dkM) (q : Nat) : Prop := 0 ≤ (M q 0).toInt ∧ (M q 0).toInt ≤ 20
def lB (M : dkM) (q : Nat) : Prop := (0 ≤ (lFirst M q).toInt ∧ (lFirst M q).toInt ≤ 20) ∧ (0 ≤ (lBehind M q).toInt ∧ (lBehind M q).toInt ≤ 20) ∧ (0 ≤ (M q 5).toInt ∧ (M q 5).toInt ≤ 20) ∧ lK M q
theorem lKey_b {M : dkM} {q : Nat} (h : lK M q) (s : Int32) : 0 ≤ (lKey M q s).toInt ∧ (lKey M q s).toInt ≤ 5 := by
  obtain ⟨h1, h2⟩ := h
  unfold lKey
  split
  · rename_i h3
    have h4 : 1 ≤ (M q 2).toInt ∧ (M q 2).toInt ≤ 5 := by
      rcases h2 with z | z
      · rw [tI_lt] at z; rw [tI_le] at h3; omega
      · exact z
    repeat' split
    all_goals omega
  · omega
theorem lOth_b {M : dkM} {q : Nat} (h : lK M q) (h3 : 0 ≤ M q 2) (k : Int32) : 0 ≤ (lOth M q k).toInt ∧ (lOth M q k).toInt ≤ 5 := by
  obtain ⟨h1, h2⟩ := h
  have h4 : 1 ≤ (M q 2).toInt ∧ (M q 2).toInt ≤ 5 := by
    rcases h2 with z | z
    · rw [tI_lt] at z; rw [tI_le] at h3; omega
    · exact z
  unfold lOth
  split <;> omega
theorem lFl_ne (M : dkM) (d c j : Nat) {a : Nat} (hc : a ≠ c) (hd : a ≠ d) (k : Nat) : lFl M d c j k a = M a := by
  induction k with
  | zero => rfl
  | succ k ih =>
    rw [lFl]
    split
    · rw [dk_put_ne hc, ih]
    · rw [dk_put_ne hd, dk_put_ne hc, ih]
theorem lGo_t {M : dkM} {q : Nat} (h : lGo M q = true) : 0 ≤ M q 2 := by
  unfold lGo at h
  split at h
  · assumption
  · cases h
