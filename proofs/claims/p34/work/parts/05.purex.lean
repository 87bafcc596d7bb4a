/-! what the class's methods answer and do, as functions of the memory -/
def bI (b : Bool) : Int32 := bif b then 1 else 0
theorem bI_01 (b : Bool) : bI b = 0 ∨ bI b = 1 := by cases b <;> simp [bI]
theorem bI_t : bI true = 1 := rfl
theorem bI_f : bI false = 0 := rfl
/-- the number of an index -/
def ix (x : Int32) : Nat := x.toNatClampNeg
theorem ix_nI {n : Nat} (h : n < 2 ^ 31) : ix (nI n) = n := nI_clamp h
theorem nI_ix {x : Int32} (h : 0 ≤ x.toInt) : x = nI (ix x) := by
  obtain ⟨j, hj, rfl⟩ := nI_of (x := x) (by rw [Int32.lt_iff_toInt_lt, Int32.toInt_zero]; omega)
  rw [ix_nI hj]
theorem ix_toInt {x : Int32} (h : 0 ≤ x.toInt) : (ix x : Int) = x.toInt := by
  unfold ix Int32.toNatClampNeg
  omega
theorem dk_addN {x y : Int32} {a b : Nat} (h : x = nI a) (h2 : y = nI b) : x + y = nI (a + b) := by rw [h, h2, nI_add]
theorem dk_mulN {x y : Int32} {a b : Nat} (h : x = nI a) (h2 : y = nI b) : x * y = nI (a * b) := by rw [h, h2, pk_mul]
theorem dk_in {x : Int32} {n : Nat} (h0 : ¬ x < 0) (h1 : ¬ nI n ≤ x) (hn : n < 2 ^ 31) : vp_in x n := by
  obtain ⟨j, hj, rfl⟩ := nI_of h0
  have h2 : j < n := by
    rcases Nat.lt_or_ge j n with z | z
    · exact z
    · exact absurd (nI_le z hj) h1
  exact vp_in_nI h2 hn
/-- a counter against a bound -/
theorem dk_gek {k : Nat} {x : Int32} (hk : k < 2 ^ 31) : x ≤ nI k ↔ ix x ≤ k := by
  rw [Int32.le_iff_toInt_le, nI_toInt hk]
  unfold ix Int32.toNatClampNeg
  omega
theorem dk_ltk {k : Nat} {x : Int32} (hk : k < 2 ^ 31) : nI k < x ↔ k < ix x := by
  rw [Int32.lt_iff_toInt_lt, nI_toInt hk]
  unfold ix Int32.toNatClampNeg
  omega
theorem ix_lt (x : Int32) : ix x < 2 ^ 31 := by
  unfold ix Int32.toNatClampNeg
  have := Int32.toInt_lt x
  omega
def cnt (p : Nat → Bool) : Nat → Nat
  | 0 => 0
  | n + 1 => if p n then cnt p n + 1 else cnt p n
theorem cnt_le (p : Nat → Bool) (n : Nat) : cnt p n ≤ n := by
  induction n with
  | zero => exact Nat.le_refl 0
  | succ n ih => unfold cnt; split <;> omega
section RB
variable {E : dkE} {G : dkG} {cc : ByteArray} {nL : Nat} {own : String} {ret : Option FieldType} {fr lo : Nat} {T : dkT} {M : dkM} {pc : Nat} {lv : dkL} {st : List Value}
theorem V.if_eqB (C : dk_Cx E G cc nL own ret fr lo) {b : Bool} {off : Int} (tgt : Nat) (d : decode cc pc = .ok (.ifCond .eq off, 3)) (ht : (pc : Int) + off = (tgt : Int)) (kt : b = false → V E G nL T M tgt lv st) (kf : b = true → V E G nL T M (pc + 3) lv st) : V E G nL T M pc lv (.int (bI b) :: st) :=
  V.if_eq C tgt d ht (fun h => kt (by cases b; rfl; exact absurd h (by decide))) (fun h => kf (by cases b; exact absurd rfl h; rfl))
theorem V.if_neB (C : dk_Cx E G cc nL own ret fr lo) {b : Bool} {off : Int} (tgt : Nat) (d : decode cc pc = .ok (.ifCond .ne off, 3)) (ht : (pc : Int) + off = (tgt : Int)) (kt : b = true → V E G nL T M tgt lv st) (kf : b = false → V E G nL T M (pc + 3) lv st) : V E G nL T M pc lv (.int (bI b) :: st) :=
  V.if_ne C tgt d ht (fun h => kt (by cases b; exact absurd rfl h; rfl)) (fun h => kf (by cases b; rfl; exact absurd h (by decide)))
theorem V.swi (C : dk_Cx E G cc nL own ret fr lo) {dflt : Int} {ps : Array (Int × Int)} {len : Nat} {x : Int32} (tgt : Nat) (d : decode cc pc = .ok (.lookupswitch dflt ps, len)) (hp : (ps.toList.zip (ps.toList.drop 1)).all (fun (a, next) => a.1 < next.1) = true) (ho : (pc : Int) + Op.lookupswitch.offset ps.toList dflt x.toInt = (tgt : Int)) (kk : V E G nL T M tgt lv st) : V E G nL T M pc lv (.int x :: st) := by
  refine V.of kk ?_
  obtain ⟨p, l, e, R, s, m, args, below, meth, c, z⟩ := E
  exact fun H locs ls Q _ hl w => lv_lookup C.1 C.2.1 d hp rfl ho (w ls hl)
theorem V.swt (C : dk_Cx E G cc nL own ret fr lo) {dflt lo' hi : Int} {offs : Array Int} {len : Nat} {x : Int32} (tgt : Nat) (d : decode cc pc = .ok (.tableswitch dflt lo' hi offs, len)) (ho : ¬ x.toInt < lo' ∧ ¬ hi < x.toInt ∧ offs[(x.toInt - lo').toNat]? = some ((tgt : Int) - pc)) (kk : V E G nL T M tgt lv st) : V E G nL T M pc lv (.int x :: st) := by
  refine V.of kk ?_
  obtain ⟨p, l, e, R, s, m, args, below, meth, c, z⟩ := E
  exact fun H locs ls Q _ hl w => lv_tableIn C.1 C.2.1 d ho.1 ho.2.1 ho.2.2 (by omega) (w ls hl)
theorem V.swd (C : dk_Cx E G cc nL own ret fr lo) {dflt lo' hi : Int} {offs : Array Int} {len : Nat} {x : Int32} (tgt : Nat) (d : decode cc pc = .ok (.tableswitch dflt lo' hi offs, len)) (ht : (pc : Int) + dflt = (tgt : Int)) (ho : ¬ x.toInt < lo' → ¬ hi < x.toInt → offs[(x.toInt - lo').toNat]? = some dflt) (kk : V E G nL T M tgt lv st) : V E G nL T M pc lv (.int x :: st) := by
  refine V.of kk ?_
  obtain ⟨p, l, e, R, s, m, args, below, meth, c, z⟩ := E
  refine fun H locs ls Q _ hl w => ?_
  by_cases h1 : x.toInt < lo'
  · exact lv_tableOut C.1 C.2.1 d (Or.inl h1) ht (w ls hl)
  · by_cases h2 : hi < x.toInt
    · exact lv_tableOut C.1 C.2.1 d (Or.inr h2) ht (w ls hl)
    · exact lv_tableIn C.1 C.2.1 d h1 h2 (ho h1 h2) ht (w ls hl)
end RB
theorem dk_neI {x k : Int32} (h : ¬ x = k) : ¬ x.toInt = k.toInt := fun z => h (Int32.toInt_inj.mp z)
theorem dk_off_ne {x k : Int32} {a o d : Int} {r : List (Int × Int)} (h : ¬ x = k) (hk : k.toInt = a) : Op.lookupswitch.offset ((a, o) :: r) d x.toInt = Op.lookupswitch.offset r d x.toInt := by
  have := dk_neI h
  rw [hk] at this
  exact if_neg (fun z => this z.symm)
/-! Row -/
def rget (M : dkM) (o n : Nat) (i : Int32) : Int32 := if i < 0 then -1 else if nI n ≤ i then -1 else M (o + 1) i.toNatClampNeg
def rset (M : dkM) (o n : Nat) (i v : Int32) : dkM := if i < 0 then M else if nI n ≤ i then M else dk_put M (o + 1) i.toNatClampNeg v
def rclear (M : dkM) (o n : Nat) : dkM := fun a b => if a = o + 1 ∧ b < n then -1 else M a b
def rfilled (M : dkM) (o n : Nat) : Nat := cnt (fun b => M (o + 1) b != -1) n
def rtake (M : dkM) (o o' n : Nat) : dkM := fun a b => if a = o + 1 ∧ b < n then M (o' + 1) b else M a b
theorem rclear_0 (M : dkM) (o : Nat) : rclear M o 0 = M := by funext a b; simp [rclear]
theorem rclear_s (M : dkM) (o k : Nat) : dk_put (rclear M o k) (o + 1) k (-1) = rclear M o (k + 1) := by
  funext a b
  unfold dk_put rclear
  by_cases h : a = o + 1
  · by_cases h2 : b = k
    · simp [h, h2]
    · simp only [h, if_true, if_neg h2, true_and]
      have : b < k ↔ b < k + 1 := by omega
      simp only [this]
  · simp [h]
theorem rtake_0 (M : dkM) (o o' : Nat) : rtake M o o' 0 = M := by funext a b; simp [rtake]
theorem rget_nI {M : dkM} {o n k : Nat} (hk : k < n) (hn : n < 2 ^ 31) : rget M o n (nI k) = M (o + 1) k := by
  unfold rget
  rw [if_neg (nI_pos (by omega)), if_neg (nI_ge hk hn), nI_clamp (by omega)]
theorem rtake_s (M : dkM) (o o' k n : Nat) (hk : k < n) (hn : n < 2 ^ 31) (ho : o' ≠ o) : dk_put (rtake M o o' k) (o + 1) k (rget (rtake M o o' k) o' n (nI k)) = rtake M o o' (k + 1) := by
  rw [rget_nI hk hn]
  funext a b
  unfold dk_put rtake
  by_cases h : a = o + 1
  · by_cases h2 : b = k
    · simp [h, h2, ho]
    · simp only [h, if_true, if_neg h2, true_and]
      have : b < k ↔ b < k + 1 := by omega
      simp only [this]
  · simp [h]
theorem rset_ne {M : dkM} {o n : Nat} {i v : Int32} {a : Nat} (h : a ≠ o + 1) : rset M o n i v a = M a := by
  unfold rset
  split
  · rfl
  · split
    · rfl
    · exact dk_put_ne h
theorem rclear_ne {M : dkM} {o n a : Nat} (h : a ≠ o + 1) : rclear M o n a = M a := by funext b; simp [rclear, h]
theorem rtake_ne {M : dkM} {o o' n a : Nat} (h : a ≠ o + 1) : rtake M o o' n a = M a := by funext b; simp [rtake, h]
theorem dk_neL {x k : Int32} {a : Int} (h : ¬ x = k) (hk : k.toInt = a) : x.toInt ≠ a := by rw [← hk]; exact dk_neI h
