/-! Disk: d is its cell; 5 sectors, 6 ownKey, 7 target, 8 forward, 9 position, 10 rewritten, 11 zoneSize, 12 journalUsed, 13 completed, 14 failures -/
def isRek (M : dkM) (d : Nat) : Bool := if M d 7 = 0 then false else true
def zFirst (M : dkM) (d : Nat) : Int32 := if M d 8 = 0 then dk_max 0 (M d 9 - M d 11) else M d 9
def zEnd (M : dkM) (d : Nat) : Int32 := if M d 8 = 0 then M d 9 else dk_min (M d 5) (M d 9 + M d 11)
def zOpen (M : dkM) (d : Nat) : Bool := if 0 < M d 10 then true else if nI (rfilled M (d + 7) 64) ≤ 0 then false else true
def needsJ (M : dkM) (d : Nat) : Bool := if M d 12 = 0 then false else if zOpen M d = true then false else true
def hasSec (M : dkM) (d : Nat) (s : Int32) : Bool := if s < 0 then false else if M d 5 ≤ s then false else true
def hasKey (M : dkM) (d : Nat) (k : Int32) : Bool := if rget M (d + 9) 100 k = -1 then false else true
def kbp (M : dkM) (d : Nat) (s : Int32) : Int32 := if isRek M d = true then (if s < M d 9 then M d 7 else M d 6) else M d 6
def othK (M : dkM) (d : Nat) (k : Int32) : Int32 := if k = M d 6 then M d 7 else M d 6
def exch (M : dkM) (d : Nat) (x s k : Int32) : Int32 := x ^^^ ((40503 * rget M (d + 9) 100 k + 30011 * s + 12345) &&& 65535)
def keyAt (M : dkM) (d : Nat) (s : Int32) : Int32 := if s < zFirst M d then kbp M d s else if s < zFirst M d + M d 10 then othK M d (kbp M d s) else kbp M d s
def valIn (M : dkM) (d : Nat) (s : Int32) : Int32 := if rget M (d + 5) 64 s = -1 then exch M d (rget M (d + 1) 64 s) s (keyAt M d s) else rget M (d + 5) 64 s
def saF (M : dkM) (d : Nat) (s : Int32) : Int32 := if rget M (d + 7) 64 s = -1 then rget M (d + 1) 64 s else rget M (d + 7) 64 s
def vaF (M : dkM) (d : Nat) (s : Int32) : Int32 := exch M d (saF M d s) s (kbp M d s)
def isFl (M : dkM) (d : Nat) (s : Int32) : Bool := if rget M (d + 5) 64 s = -1 then false else if zOpen M d = true then (if s < zFirst M d then true else if s < zEnd M d then false else true) else true
def saFl (M : dkM) (d : Nat) (s : Int32) : Int32 := if isFl M d s = true then exch M d (rget M (d + 5) 64 s) s (keyAt M d s) else rget M (d + 1) 64 s
def dafN (M : dkM) (d : Nat) (n : Nat) : Nat := cnt (fun k => vaF M d (nI k) != rget M (d + 3) 64 (nI k)) n
def dcN (M : dkM) (d : Nat) (n : Nat) : Nat := cnt (fun k => valIn M d (nI k) != rget M (d + 3) 64 (nI k)) n
/-- the first k from k on, of n many, that is damaged -/
def fdL (M : dkM) (d : Nat) : Nat → Nat → Int32
  | 0, _ => -1
  | n + 1, k => if valIn M d (nI k) = rget M (d + 3) 64 (nI k) then fdL M d n (k + 1) else nI k
def dClose (M : dkM) (d : Nat) : dkM := dk_put (rclear M (d + 7) 64) d 10 0
def fzM (M : dkM) (d : Nat) : Nat → dkM
  | 0 => M
  | k + 1 => rset (rset (fzM M d k) (d + 1) 64 (nI k) (exch (fzM M d k) d 0 (nI k) (fzM M d k d 6))) (d + 3) 64 (nI k) 0
def fillZ (M : dkM) (d : Nat) : dkM := fzM (rclear M (d + 5) 64) d (ix (M d 5))
def endThru (M : dkM) (d : Nat) : dkM := if M d 8 = 0 then (if M d 9 ≤ 0 then dk_put M d 7 0 else M) else if M d 5 ≤ M d 9 then dk_put (dk_put (dk_put M d 6 (M d 7)) d 13 (M d 13 + 1)) d 7 0 else M
def jrM (M : dkM) (d f : Nat) : Nat → dkM
  | 0 => M
  | k + 1 => rset (jrM M d f k) (d + 7) 64 (nI (f + k)) (rget (jrM M d f k) (d + 1) 64 (nI (f + k)))
def rwS (M : dkM) (d : Nat) (s : Int32) : dkM := rset M (d + 1) 64 s (exch M d (exch M d (rget M (d + 1) 64 s) s (kbp M d s)) s (othK M d (kbp M d s)))
def rwNext (M : dkM) (d : Nat) (s : Int32) : dkM := dk_put (rwS M d s) d 10 (rwS M d s d 10 + 1)
def dStep (M : dkM) (d : Nat) : dkM := if needsJ M d = true then jrM M d (ix (zFirst M d)) (ix (zEnd M d) - ix (zFirst M d)) else if zFirst M d + M d 10 < zEnd M d then rwNext M d (zFirst M d + M d 10) else endThru (dClose (dk_put M d 9 (if M d 8 = 0 then zFirst M d else zEnd M d)) d) d
def sAhead (M : dkM) (d : Nat) : Int32 := if isRek M d = true then ((if needsJ M d = true then 1 else 0) + zEnd M d - zFirst M d - M d 10 + 1) + (if M d 8 = 0 then zFirst M d else M d 5 - zEnd M d) + (if 0 < M d 11 then ((if M d 8 = 0 then zFirst M d else M d 5 - zEnd M d) + M d 11 - 1) / M d 11 else 0) * (if M d 12 = 0 then 1 else 2) else 0
def dFormat (M : dkM) (d : Nat) (n : Int32) : Int32 × dkM := if n < 4 then (-2, M) else if 64 < n then (-2, M) else (M d 5, fillZ (dClose (dk_put (dk_put M d 5 n) d 7 0) d) d)
def dAdd (M : dkM) (d : Nat) (k c : Int32) : Int32 × dkM := if k < 1 then (-2, M) else if 99 < k then (-2, M) else if c < 0 then (-2, M) else if 65535 < c then (-2, M) else if hasKey M d k = true then (-3, M) else if 8 ≤ nI (rfilled M (d + 9) 100) then (-4, M) else (nI (rfilled (rset M (d + 9) 100 k c) (d + 9) 100), rset M (d + 9) 100 k c)
def dDrop (M : dkM) (d : Nat) (k : Int32) : Int32 × dkM := if hasKey M d k = true then (if k = M d 6 then (-3, M) else if k = M d 7 then (-3, M) else (nI (rfilled (rset M (d + 9) 100 k (-1)) (d + 9) 100), rset M (d + 9) 100 k (-1))) else (-1, M)
def dZone (M : dkM) (d : Nat) (z : Int32) : Int32 × dkM := if z < 1 then (-2, M) else if 8 < z then (-2, M) else if zOpen M d = true then (-3, M) else (M d 11, dk_put M d 11 z)
def dJour (M : dkM) (d : Nat) (on : Int32) : Int32 × dkM := if on = 0 then (if zOpen M d = true then (-3, M) else (if M d 12 = 0 then 0 else 1, dk_put M d 12 0)) else if on = 1 then (if zOpen M d = true then (-3, M) else (if M d 12 = 0 then 0 else 1, dk_put M d 12 1)) else (-2, M)
def dBegin (M : dkM) (d : Nat) (k : Int32) : Int32 × dkM := if hasKey M d k = true then (if isRek M d = true then (-3, M) else if k = M d 6 then (-3, M) else (sAhead (dk_put (dk_put (dk_put M d 7 k) d 8 1) d 9 0) d, dk_put (dk_put (dk_put M d 7 k) d 8 1) d 9 0)) else (-1, M)
def advL (d : Nat) : Nat → dkM → Nat → Nat × dkM
  | 0, M, k => (k, M)
  | n + 1, M, k => if isRek M d = true then advL d n (dStep M d) (k + 1) else (k, M)
def dAdv (M : dkM) (d : Nat) (n : Int32) : Int32 × dkM := if n < 1 then (-2, M) else if 999 < n then (-2, M) else if isRek M d = true then (nI (advL d (ix n) M 0).1, (advL d (ix n) M 0).2) else (-3, M)
def dTurn (M : dkM) (d : Nat) : Int32 × dkM := if isRek M d = true then (if zOpen M d = true then (-3, M) else (sAhead (endThru (dk_put M d 8 (if M d 8 = 0 then 1 else 0)) d) d, endThru (dk_put M d 8 (if M d 8 = 0 then 1 else 0)) d)) else (-3, M)
def dPut (M : dkM) (d : Nat) (s v : Int32) : Int32 × dkM := if hasSec M d s = true then (if v < 0 then (-2, M) else if 65535 < v then (-2, M) else if rget M (d + 5) 64 s = -1 ∧ 8 ≤ nI (rfilled M (d + 5) 64) then (-4, M) else (nI (rfilled (rset (rset M (d + 5) 64 s v) (d + 3) 64 s v) (d + 5) 64), rset (rset M (d + 5) 64 s v) (d + 3) 64 s v)) else (-1, M)
def flM (M : dkM) (d : Nat) : Nat → dkM
  | 0 => M
  | k + 1 => if isFl (flM M d k) d (nI k) = true then rset (rset (flM M d k) (d + 1) 64 (nI k) (saFl (flM M d k) d (nI k))) (d + 5) 64 (nI k) (-1) else flM M d k
def flN (M : dkM) (d : Nat) : Nat → Nat
  | 0 => 0
  | k + 1 => if isFl (flM M d k) d (nI k) = true then flN M d k + 1 else flN M d k
def lpN (M : dkM) (d : Nat) (n : Nat) : Nat := cnt (fun k => valIn M d (nI k) != vaF M d (nI k)) n
def lpM (M : dkM) (d : Nat) : Nat → dkM
  | 0 => M
  | k + 1 => rset (lpM M d k) (d + 1) 64 (nI k) (saF (lpM M d k) d (nI k))
def dFailM (M : dkM) (d : Nat) : dkM := dClose (rclear (lpM M d (ix (M d 5))) (d + 5) 64) d
def dFail (M : dkM) (d : Nat) : dkM := dk_put (dFailM M d) d 14 (dFailM M d d 14 + 1)
def dObey (M : dkM) (d : Nat) (c s n : Int32) : Int32 × dkM := if c = 119 then dPut M d s n else if c = 102 then (nI (flN M d (ix (M d 5))), flM M d (ix (M d 5))) else if c = 115 then dAdv M d n else if c = 120 then (nI (lpN M d (ix (M d 5))), dFail M d) else if c = 98 then dTurn M d else (-5, M)
def dNumR (M : dkM) (d : Nat) (w : Int32) : Int32 := if isRek M d = true then (if w = 2 then M d 7 else if w = 3 then M d 9 else if M d 8 = 0 then 0 else 1) else -6
def dNum (M : dkM) (d : Nat) (w : Int32) : Int32 := if w = 0 then M d 5 else if w = 1 then M d 6 else if w = 5 then M d 10 else if w = 6 then nI (rfilled M (d + 7) 64) else if w = 7 then nI (rfilled M (d + 5) 64) else if w = 8 then M d 11 else if w = 9 then (if M d 12 = 0 then 0 else 1) else if w = 10 then nI (rfilled M (d + 9) 100) else if w = 11 then M d 13 else if w = 12 then M d 14 else -2
/-- the bounds that the steps rest on -/
def dI (M : dkM) (d : Nat) : Prop := 0 ≤ (M d 9).toInt ∧ (M d 9).toInt ≤ 64 ∧ 1 ≤ (M d 11).toInt ∧ (M d 11).toInt ≤ 8 ∧ 4 ≤ (M d 5).toInt ∧ (M d 5).toInt ≤ 64
theorem tI_add {x y : Int32} (h1 : -2147483648 ≤ x.toInt + y.toInt) (h2 : x.toInt + y.toInt < 2147483648) : (x + y).toInt = x.toInt + y.toInt := by
  rw [Int32.toInt_add, Int.bmod_def]; omega
theorem tI_sub {x y : Int32} (h1 : -2147483648 ≤ x.toInt - y.toInt) (h2 : x.toInt - y.toInt < 2147483648) : (x - y).toInt = x.toInt - y.toInt := by
  rw [Int32.toInt_sub, Int.bmod_def]; omega
theorem tI_le {x y : Int32} : x ≤ y ↔ x.toInt ≤ y.toInt := Int32.le_iff_toInt_le
theorem tI_lt {x y : Int32} : x < y ↔ x.toInt < y.toInt := Int32.lt_iff_toInt_lt
theorem tI_max (x y : Int32) : (dk_max x y).toInt = max x.toInt y.toInt := by
  unfold dk_max; split <;> rename_i h <;> rw [tI_lt] at h <;> omega
theorem tI_min (x y : Int32) : (dk_min x y).toInt = min x.toInt y.toInt := by
  unfold dk_min; split <;> rename_i h <;> rw [tI_lt] at h <;> omega
theorem dI_zF {M : dkM} {d : Nat} (h : dI M d) : (zFirst M d).toInt = (if M d 8 = 0 then max 0 ((M d 9).toInt - (M d 11).toInt) else (M d 9).toInt) := by
  obtain ⟨h1, h2, h3, h4, h5, h6⟩ := h
  unfold zFirst
  split
  · rw [tI_max, tI_sub (by omega) (by omega)]; rfl
  · rfl
theorem dI_zE {M : dkM} {d : Nat} (h : dI M d) : (zEnd M d).toInt = (if M d 8 = 0 then (M d 9).toInt else min (M d 5).toInt ((M d 9).toInt + (M d 11).toInt)) := by
  obtain ⟨h1, h2, h3, h4, h5, h6⟩ := h
  unfold zEnd
  split
  · rfl
  · rw [tI_min, tI_add (by omega) (by omega)]
theorem dI_zFb {M : dkM} {d : Nat} (h : dI M d) : 0 ≤ (zFirst M d).toInt ∧ (zFirst M d).toInt ≤ 64 := by
  rw [dI_zF h]
  obtain ⟨h1, h2, h3, h4, h5, h6⟩ := h
  split <;> omega
theorem dI_zEb {M : dkM} {d : Nat} (h : dI M d) : 0 ≤ (zEnd M d).toInt ∧ (zEnd M d).toInt ≤ 64 := by
  rw [dI_zE h]
  obtain ⟨h1, h2, h3, h4, h5, h6⟩ := h
  split <;> omega
theorem put_same {M : dkM} {o k : Nat} {x : Int32} : dk_put M o k x o k = x := by simp [dk_put]
theorem put_k {M : dkM} {o k j : Nat} {x : Int32} (h : j ≠ k) : dk_put M o k x o j = M o j := by simp [dk_put, h]
theorem fzM_d (M : dkM) (d k : Nat) : fzM M d k d = M d := by
  induction k with
  | zero => rfl
  | succ k ih => rw [fzM, rset_ne (by omega), rset_ne (by omega), ih]
theorem jrM_ne (M : dkM) (d f k : Nat) {a : Nat} (h : a ≠ d + 8) : jrM M d f k a = M a := by
  induction k with
  | zero => rfl
  | succ k ih => rw [jrM, rset_ne (by omega), ih]
theorem flM_d (M : dkM) (d k : Nat) : flM M d k d = M d := by
  induction k with
  | zero => rfl
  | succ k ih => rw [flM]; split; rw [rset_ne (by omega), rset_ne (by omega), ih]; exact ih
theorem lpM_d (M : dkM) (d k : Nat) : lpM M d k d = M d := by
  induction k with
  | zero => rfl
  | succ k ih => rw [lpM, rset_ne (by omega), ih]
theorem dClose_d (M : dkM) (d j : Nat) (h : j ≠ 10) : dClose M d d j = M d j := by rw [dClose, put_k h, rclear_ne (by omega)]
theorem endThru_d (M : dkM) (d j : Nat) (h6 : j ≠ 6) (h13 : j ≠ 13) (h7 : j ≠ 7) : endThru M d d j = M d j := by
  unfold endThru
  split
  · split
    · exact put_k h7
    · rfl
  · split
    · rw [put_k h7, put_k h13, put_k h6]
    · rfl
theorem dI_congr {M M' : dkM} {d : Nat} (h9 : M' d 9 = M d 9) (h11 : M' d 11 = M d 11) (h5 : M' d 5 = M d 5) (h : dI M d) : dI M' d := by unfold dI; rw [h9, h11, h5]; exact h
theorem dI_step {M : dkM} {d : Nat} (h : dI M d) : dI (dStep M d) d := by
  unfold dStep
  split
  · rename_i q; exact dI_congr (by rw [jrM_ne _ _ _ _ (by omega)]) (by rw [jrM_ne _ _ _ _ (by omega)]) (by rw [jrM_ne _ _ _ _ (by omega)]) h
  · split
    · have e : ∀ j, j ≠ 10 → rwNext M d (zFirst M d + M d 10) d j = M d j := fun j hj => by rw [rwNext, put_k hj, rwS, rset_ne (by omega)]
      exact dI_congr (e 9 (by decide)) (e 11 (by decide)) (e 5 (by decide)) h
    · have e : ∀ j, j ≠ 6 → j ≠ 13 → j ≠ 7 → j ≠ 10 → j ≠ 9 → endThru (dClose (dk_put M d 9 (if M d 8 = 0 then zFirst M d else zEnd M d)) d) d d j = M d j := fun j a b c e f => by rw [endThru_d _ _ _ a b c, dClose_d _ _ _ e, put_k f]
      have e9 : endThru (dClose (dk_put M d 9 (if M d 8 = 0 then zFirst M d else zEnd M d)) d) d d 9 = (if M d 8 = 0 then zFirst M d else zEnd M d) := by rw [endThru_d _ _ _ (by decide) (by decide) (by decide), dClose_d _ _ _ (by decide), put_same]
      unfold dI
      rw [e9, e 11 (by decide) (by decide) (by decide) (by decide) (by decide), e 5 (by decide) (by decide) (by decide) (by decide) (by decide)]
      obtain ⟨a1, a2⟩ := dI_zFb h
      obtain ⟨b1, b2⟩ := dI_zEb h
      obtain ⟨h1, h2, h3, h4, h5, h6⟩ := h
      refine ⟨?_, ?_, h3, h4, h5, h6⟩ <;> split <;> assumption
theorem zEnd_congr {M M' : dkM} {d : Nat} (h : M' d = M d) : zEnd M' d = zEnd M d := by unfold zEnd; rw [h]
theorem advL_I {d : Nat} : ∀ (n : Nat) (M : dkM) (k : Nat), dI M d → dI (advL d n M k).2 d := by
  intro n
  induction n with
  | zero => intro M k h; exact h
  | succ n ih => intro M k h; unfold advL; split; exact ih _ _ (dI_step h); exact h
/-- a disk takes another one's state over -/
def dTake (M : dkM) (d e : Nat) : dkM := rtake (rtake (rtake (rtake (rtake M (d + 1) (e + 1) 64) (d + 3) (e + 3) 64) (d + 5) (e + 5) 64) (d + 7) (e + 7) 64) (d + 9) (e + 9) 100
def dCopy (M : dkM) (d e : Nat) : dkM := dk_put (dk_put (dk_put (dk_put (dk_put (dk_put (dk_put (dk_put (dk_put (dk_put (dTake M d e) d 5 (M e 5)) d 6 (M e 6)) d 7 (M e 7)) d 8 (M e 8)) d 9 (M e 9)) d 10 (M e 10)) d 11 (M e 11)) d 12 (M e 12)) d 13 (M e 13)) d 14 (M e 14)
def apart (d e : Nat) : Prop := d + 11 ≤ e ∨ e + 11 ≤ d
def dZ (M : dkM) (d : Nat) : Prop := (M d 8 = 0 ∨ M d 8 = 1) ∧ (M d 12 = 0 ∨ M d 12 = 1)
theorem dTake_ne {M : dkM} {d e a : Nat} (h : apart d e) (ha : e ≤ a ∧ a < e + 11) : dTake M d e a = M a := by
  unfold apart at h
  unfold dTake
  rw [rtake_ne (by omega), rtake_ne (by omega), rtake_ne (by omega), rtake_ne (by omega), rtake_ne (by omega)]
