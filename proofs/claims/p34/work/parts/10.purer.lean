/-! Script (102), History (23), DiskRekeying (0) -/
def isDig (c : Int32) : Bool := if c < 48 then false else if 57 < c then false else true
def pbl (c : Int32) : Int32 := if c = 98 then 1 else if c = 102 then 1 else if c = 115 then 20 else if c = 119 then 10 else if c = 120 then 1 else -1
def pb (p c : Int32) : Int32 := if p = 0 then pbl c else if p = 1 then (if c = 59 then 0 else -1) else if p < 20 then (if isDig c = true then (if p < 10 + 5 then p + 1 else -1) else if p = 10 then -1 else (if c = 61 then 20 else -1)) else (if isDig c = true then (if p < 20 + 5 then p + 1 else -1) else if p = 20 then -1 else (if c = 59 then 0 else -1))
def feL (M : dkM) : Nat → Nat → Int32 → Int32
  | 0, _, p => if p = 1 then -6 else if 20 < p then -6 else M 102 4
  | n + 1, i, p => if pb p (rget M 103 80 (nI i)) = -1 then nI i else feL M n (i + 1) (pb p (rget M 103 80 (nI i)))
def xErr (M : dkM) : Int32 := feL M (ix (M 102 4)) 0 0
def sApp (M : dkM) (c : Int32) : Int32 × dkM := if c < 33 then (-2, M) else if 126 < c then (-2, M) else if 80 ≤ M 102 4 then (-4, M) else (M 102 4 + 1, dk_put (rset M 103 80 (M 102 4) c) 102 4 (M 102 4 + 1))
def spStep (q : Int32 × Int32 × dkM) (c : Int32) : Int32 × Int32 × dkM := if isDig c = true then (q.1, 10 * q.2.1 + c - 48, rset q.2.2 109 40 (q.1 - 1) (10 * q.2.1 + c - 48)) else if c = 61 then (q.1, 0, rset q.2.2 107 40 (q.1 - 1) q.2.1) else if c = 59 then q else (q.1 + 1, 0, rset q.2.2 105 40 q.1 c)
def spL (M : dkM) : Nat → Int32 × Int32 × dkM
  | 0 => (0, 0, M)
  | k + 1 => spStep (spL M k) (rget (spL M k).2.2 103 80 (nI k))
def xSplit (M : dkM) : Int32 × dkM := ((spL M (ix (M 102 4))).1, (spL M (ix (M 102 4))).2.2)
theorem spStep_ne (q : Int32 × Int32 × dkM) (c : Int32) {a : Nat} (h1 : a ≠ 106) (h2 : a ≠ 108) (h3 : a ≠ 110) : (spStep q c).2.2 a = q.2.2 a := by
  unfold spStep
  split
  · exact rset_ne h3
  · split
    · exact rset_ne h2
    · split
      · rfl
      · exact rset_ne h1
theorem spL_ne (M : dkM) (k : Nat) {a : Nat} (h1 : a ≠ 106) (h2 : a ≠ 108) (h3 : a ≠ 110) : (spL M k).2.2 a = M a := by
  induction k with
  | zero => rfl
  | succ k ih => rw [spL, spStep_ne _ _ h1 h2 h3, ih]
def iRem (x y : Int32) : Int32 := x - x / y * y
def hI (M : dkM) : Prop := 0 ≤ (M 23 1).toInt ∧ (M 23 1).toInt < 7
theorem hI.j {M : dkM} (h : hI M) : ix (M 23 1) < 7 := by have := ix_toInt h.1; have := h.2; omega
theorem hI.n {M : dkM} (h : hI M) : M 23 1 = nI (ix (M 23 1)) := nI_ix h.1
theorem hI.l {M : dkM} (h : hI M) : (M 23 1 + 7 - 1) - (M 23 1 + 7 - 1) / 7 * 7 = nI ((ix (M 23 1) + 6) % 7) := by
  have hj := h.j
  rw [h.n]
  generalize ix (M 23 1) = j at hj
  match j, hj with
  | 0, _ => decide
  | 1, _ => decide
  | 2, _ => decide
  | 3, _ => decide
  | 4, _ => decide
  | 5, _ => decide
  | 6, _ => decide
  | k + 7, h => omega
def hSlot (M : dkM) : Nat := 24 + 1 + 11 * ix (M 23 1)
def hDraft (M : dkM) : dkM := dCopy M (hSlot M) 1
def hKeep (M : dkM) (a : Int32) : dkM := if a < 0 then M else dk_put (dk_put M 23 1 (iRem (M 23 1 + 1) 7)) 23 2 (dk_min (M 23 2 + 1) 6)
def hBack (M : dkM) : Int32 × dkM := if M 23 2 = 0 then (-3, M) else (dCopy M 1 (24 + 1 + 11 * ((ix (M 23 1) + 6) % 7)) 23 2 - 1, dk_put (dk_put (dCopy M 1 (24 + 1 + 11 * ((ix (M 23 1) + 6) % 7))) 23 1 (nI ((ix (M 23 1) + 6) % 7))) 23 2 (dCopy M 1 (24 + 1 + 11 * ((ix (M 23 1) + 6) % 7)) 23 2 - 1))
def hZ (M : dkM) : Prop := ∀ j, j < 7 → dZ M (24 + 1 + 11 * j)
theorem dCopy_ne {M : dkM} {d e a : Nat} (h : ¬ (d ≤ a ∧ a < d + 11)) : dCopy M d e a = M a := by
  unfold dCopy dTake
  rw [dk_put_ne (by omega), dk_put_ne (by omega), dk_put_ne (by omega), dk_put_ne (by omega), dk_put_ne (by omega), dk_put_ne (by omega), dk_put_ne (by omega), dk_put_ne (by omega), dk_put_ne (by omega), dk_put_ne (by omega), rtake_ne (by omega), rtake_ne (by omega), rtake_ne (by omega), rtake_ne (by omega), rtake_ne (by omega)]
theorem dCopy_f {M : dkM} {d e j : Nat} (h5 : 5 ≤ j) (h : j < 15) : dCopy M d e d j = M e j := by
  unfold dCopy
  rcases (show j = 5 ∨ j = 6 ∨ j = 7 ∨ j = 8 ∨ j = 9 ∨ j = 10 ∨ j = 11 ∨ j = 12 ∨ j = 13 ∨ j = 14 by omega) with rfl | rfl | rfl | rfl | rfl | rfl | rfl | rfl | rfl | rfl <;> simp [dk_put]
/-- what the class's calls rest on -/
def xI (M : dkM) : Prop := hI M ∧ hZ M ∧ dZ M 1 ∧ dI M 1
theorem hDraft_ne {M : dkM} (h : hI M) {a : Nat} (ha : ¬ (25 ≤ a ∧ a < 102)) : hDraft M a = M a := by
  have := h.j
  exact dCopy_ne (by unfold hSlot; omega)
theorem dI_of {M M' : dkM} {d : Nat} (h : M' d = M d) (hI : dI M d) : dI M' d := dI_congr (by rw [h]) (by rw [h]) (by rw [h]) hI
theorem xI.draft {M : dkM} (h : xI M) : dI (hDraft M) 1 := dI_of (hDraft_ne h.1 (by omega)) h.2.2.2
def xU (r : Int32 × dkM) : Int32 × dkM := (r.1, hKeep r.2 r.1)
def xCount (M : dkM) (w : Int32) : Int32 := if w < 0 then -2 else if 13 ≤ w then -2 else if w < 2 then dNum M 1 w else if 4 < w then dNum M 1 w else dNumR M 1 w
def orN (x : Int32) : Int32 := if x = -1 then -6 else x
def xRead (M : dkM) (s : Int32) : Int32 := if hasSec M 1 s = true then valIn M 1 s else -1
def xStored (M : dkM) (s : Int32) : Int32 := if hasSec M 1 s = true then rget M (1 + 1) 64 s else -1
def xKeyOf (M : dkM) (s : Int32) : Int32 := if hasSec M 1 s = true then keyAt M 1 s else -1
def xJournal (M : dkM) (s : Int32) : Int32 := if hasSec M 1 s = true then orN (rget M (1 + 7) 64 s) else -1
def xCached (M : dkM) (s : Int32) : Int32 := if hasSec M 1 s = true then orN (rget M (1 + 5) 64 s) else -1
def xZone (M : dkM) : Int32 := if isRek M 1 = true then zFirst M 1 else -3
def xDam (M : dkM) : Int32 := nI (dcN M 1 (ix (M 1 5)))
def xFirst (M : dkM) : Int32 := orN (fdL M 1 (ix (M 1 5)) 0)
def xLeft (M : dkM) : Int32 := if isRek M 1 = true then sAhead M 1 else -3
def xIfFl (M : dkM) (s : Int32) : Int32 := if hasSec M 1 s = true then saFl M 1 s else -1
def xSecret (M : dkM) (k : Int32) : Int32 := if hasKey M 1 k = true then rget M (1 + 9) 100 k else -1
def dDaf (M : dkM) : Int32 := nI (dafN M 12 (ix (M 12 5)))
def xIfFail (M : dkM) (n : Int32) : Int32 × dkM := if n < 0 then (-2, M) else if 999 < n then (-2, M) else (dDaf (advL 12 (ix n) (dCopy M 12 1) 0).2, (advL 12 (ix n) (dCopy M 12 1) 0).2)
def wtL : Nat → dkM → Int32 → Int32 → Nat → Int32 × dkM
  | 0, M, w, _, _ => (w, M)
  | n + 1, M, w, most, t => if isRek M 12 = true then (if most < dDaf (dStep M 12) then wtL n (dStep M 12) (nI t) (dDaf (dStep M 12)) (t + 1) else wtL n (dStep M 12) w most (t + 1)) else (w, M)
def xWorst (M : dkM) : Int32 × dkM := wtL 99 (dCopy M 12 1) 0 (dDaf (dCopy M 12 1)) 1
def coR (M : dkM) (k : Nat) : Int32 × dkM := dObey M 1 (rget M 105 40 (nI k)) (rget M 107 40 (nI k)) (rget M 109 40 (nI k))
def coL : Nat → dkM → Nat → Nat × dkM
  | 0, M, k => (k, M)
  | n + 1, M, k => if (coR M k).1 < 0 then (k, (coR M k).2) else coL n (coR M k).2 (k + 1)
def xCo (M : dkM) : Nat × dkM := coL (ix (xSplit (hDraft M)).1) (xSplit (hDraft M)).2 0
def xCarry (M : dkM) : Int32 × dkM := if xErr M = -6 then (nI (xCo M).1, hKeep (dk_put (xCo M).2 102 4 0) (nI (xCo M).1)) else (-5, M)
def dg (h : Int64) (v : Int32) : Int64 := 31 * h + v.toInt64
def dgC (M : dkM) : Nat → Int64
  | 0 => 392
  | k + 1 => dg (dgC M k) (xCount M (nI k))
def dgK (M : dkM) (h : Int64) : Nat → Int64
  | 0 => h
  | k + 1 => if hasKey M 1 (nI (k + 1)) = true then dg (dg (dgK M h k) (nI (k + 1))) (xSecret M (nI (k + 1))) else dgK M h k
def dgS (M : dkM) (h : Int64) : Nat → Int64
  | 0 => h
  | k + 1 => dg (dg (dg (dg (dg (dgS M h k) (xRead M (nI k))) (xStored M (nI k))) (xKeyOf M (nI k))) (xJournal M (nI k))) (xCached M (nI k))
/-- how many sectors the hash takes: until one is none -/
def dgN (M : dkM) : Nat := min 64 (ix (M 1 5))
def xDg1 (M : dkM) : Int64 := dg (dg (dgS M (dgK M (dgC M 13) 99) (dgN M)) (xDam M)) (xFirst M)
def xDigest (M : dkM) : Int64 := if isRek M 1 = true then dg (dg (xDg1 M) (xZone M)) (xLeft M) else xDg1 M
theorem hasSec_nI {M : dkM} {d k : Nat} (hk : k < 2 ^ 31) : hasSec M d (nI k) = decide (k < ix (M d 5)) := by
  unfold hasSec
  rw [if_neg (nI_pos hk)]
  by_cases h : k < ix (M d 5)
  · rw [if_neg (fun z => by have := (dk_gek hk).mp z; omega)]; simp [h]
  · rw [if_pos ((dk_gek hk).mpr (by omega))]; simp [h]
/-- the disk's calls keep the bounds -/
theorem dI_fl {M : dkM} {d : Nat} (h : dI M d) (k : Nat) : dI (flM M d k) d := dI_of (flM_d M d k) h
theorem dI_fail {M : dkM} {d : Nat} (h : dI M d) : dI (dFail M d) d := by
  have e : ∀ j, j ≠ 10 → j ≠ 14 → dFail M d d j = M d j := fun j a b => by
    rw [dFail, put_k b, dFailM, dClose_d _ _ _ a, rclear_ne (by omega), lpM_d]
  exact dI_congr (e 9 (by decide) (by decide)) (e 11 (by decide) (by decide)) (e 5 (by decide) (by decide)) h
theorem dI_put {M : dkM} {d : Nat} (h : dI M d) (s v : Int32) : dI (dPut M d s v).2 d := by
  unfold dPut
  repeat' split
  all_goals first | exact h | exact dI_of (by dsimp only; rw [rset_ne (by omega), rset_ne (by omega)]) h
theorem dI_adv {M : dkM} {d : Nat} (h : dI M d) (n : Int32) : dI (dAdv M d n).2 d := by
  unfold dAdv
  repeat' split
  all_goals first | exact h | exact advL_I _ _ _ h
theorem dI_turn {M : dkM} {d : Nat} (h : dI M d) : dI (dTurn M d).2 d := by
  have e : ∀ x j, j ≠ 6 → j ≠ 13 → j ≠ 7 → j ≠ 8 → endThru (dk_put M d 8 x) d d j = M d j := fun x j a b c f => by rw [endThru_d _ _ _ a b c, put_k f]
  unfold dTurn
  split
  · split
    · exact h
    · exact dI_congr (e _ 9 (by decide) (by decide) (by decide) (by decide)) (e _ 11 (by decide) (by decide) (by decide) (by decide)) (e _ 5 (by decide) (by decide) (by decide) (by decide)) h
  · exact h
theorem dI_obey {M : dkM} {d : Nat} (h : dI M d) (c s n : Int32) : dI (dObey M d c s n).2 d := by
  unfold dObey
  split
  · exact dI_put h _ _
  · split
    · exact dI_fl h _
    · split
      · exact dI_adv h _
      · split
        · exact dI_fail h
        · split
          · exact dI_turn h
          · exact h
theorem xSplit_ne (M : dkM) {a : Nat} (h1 : a ≠ 106) (h2 : a ≠ 108) (h3 : a ≠ 110) : (xSplit M).2 a = M a := spL_ne M _ h1 h2 h3
