/-! a machine's state in the words of this claim: a memory of numbers (cell, place), a fixed layout, a judgement over them -/
abbrev dkM : Type := Nat → Nat → Int32
/-- the base address, which cells are spoken of, the classes' numbers, the numbers of the two array classes, the lengths of the law's arrays -/
abbrev dkG : Type := Nat × (Nat → Prop) × va_G × ClassId × ClassId × (Nat → Nat)
abbrev dkL : Type := List (Nat × Option Value)
abbrev dkT : Type := Option Value × dkM
abbrev dkE : Type := Program × Launch × Env × Room × State × MethodId × Array Value × List Frame × Method × Code × (Nat × Nat × (Nat → Prop) × (Option Value × (Nat → Nat → Int32) → State → Prop))
def dk_put (M : dkM) (o k : Nat) (v : Int32) : dkM := fun a b => if a = o then (if b = k then v else M a b) else M a b
/-- the kinds of the cells, in the order in which they are made: 0 Disk, 1 History, 2 Row, 3 Script, 4 DiskRekeying, 6 an int array, 7 the array of Disks, 8 an int array of the law -/
def dk_kds : List Nat := [4, 0, 2, 6, 2, 6, 2, 6, 2, 6, 2, 6, 0, 2, 6, 2, 6, 2, 6, 2, 6, 2, 6, 1, 7, 0, 2, 6, 2, 6, 2, 6, 2, 6, 2, 6, 0, 2, 6, 2, 6, 2, 6, 2, 6, 2, 6, 0, 2, 6, 2, 6, 2, 6, 2, 6, 2, 6, 0, 2, 6, 2, 6, 2, 6, 2, 6, 2, 6, 0, 2, 6, 2, 6, 2, 6, 2, 6, 2, 6, 0, 2, 6, 2, 6, 2, 6, 2, 6, 2, 6, 0, 2, 6, 2, 6, 2, 6, 2, 6, 2, 6, 3, 2, 6, 2, 6, 2, 6, 2, 6]
def dk_kd (o : Nat) : Nat := dk_kds.getD o 8
/-- the lengths of the int arrays -/
def dk_als : List Nat := [0, 0, 0, 64, 0, 64, 0, 64, 0, 64, 0, 100, 0, 0, 64, 0, 64, 0, 64, 0, 64, 0, 100, 0, 0, 0, 0, 64, 0, 64, 0, 64, 0, 64, 0, 100, 0, 0, 64, 0, 64, 0, 64, 0, 64, 0, 100, 0, 0, 64, 0, 64, 0, 64, 0, 64, 0, 100, 0, 0, 64, 0, 64, 0, 64, 0, 64, 0, 100, 0, 0, 64, 0, 64, 0, 64, 0, 64, 0, 100, 0, 0, 64, 0, 64, 0, 64, 0, 64, 0, 100, 0, 0, 64, 0, 64, 0, 64, 0, 64, 0, 100, 0, 0, 80, 0, 40, 0, 40, 0, 40]
def dk_al (o : Nat) : Nat := dk_als.getD o 0
/-- what stands in a cell -/
def dk_cell (G : dkG) (M : dkM) (o : Nat) : va_E := match dk_kd o with
  | 0 => .inr (0, [.ref (G.1 + (o + 1)), .ref (G.1 + (o + 3)), .ref (G.1 + (o + 5)), .ref (G.1 + (o + 7)), .ref (G.1 + (o + 9)), .int (M o 5), .int (M o 6), .int (M o 7), .int (M o 8), .int (M o 9), .int (M o 10), .int (M o 11), .int (M o 12), .int (M o 13), .int (M o 14)])
  | 1 => .inr (1, [.ref (G.1 + (o + 1)), .int (M o 1), .int (M o 2)])
  | 2 => .inr (2, [.ref (G.1 + (o + 1))])
  | 3 => .inr (3, [.ref (G.1 + (o + 1)), .ref (G.1 + (o + 3)), .ref (G.1 + (o + 5)), .ref (G.1 + (o + 7)), .int (M o 4)])
  | 4 => .inr (4, [.ref (G.1 + (o + 1)), .ref (G.1 + (o + 12)), .ref (G.1 + (o + 23)), .ref (G.1 + (o + 102))])
  | 8 => .inl (G.2.2.2.1, G.2.2.2.2.2 o, .inl (M o))
  | 6 => .inl (G.2.2.2.1, dk_al o, .inl (M o))
  | _ => .inl (G.2.2.2.2.1, 7, .inr (.inr (.inr (.inr (fun i => if i < 7 then some (G.1 + (o + 1 + 11 * i)) else none)))))
def dk_Rep (G : dkG) (M : dkM) (H : Heap) : Prop := ∀ o, G.2.1 o → va_at G.2.2.1 vwCl (G.1 + o, dk_cell G M o) H
/-- the addresses that may be written -/
def dk_A (G : dkG) : Nat → Prop := fun q => ∃ o, G.2.1 o ∧ q = G.1 + o
abbrev dk_tys (G : dkG) : List (ClassId × FieldType) := [(G.2.2.2.1, .int), (G.2.2.2.2.1, .object RX0)]
def dk_K (G : dkG) (U : State) : Prop := va_K G.2.2.1 vwCl (dk_tys G) U
def dk_P (G : dkG) (as : List Value) (M : dkM) : Array Value → State → Prop := fun av U => av = as.toArray ∧ dk_Rep G M U.heap ∧ dk_K G U
def dk_Q (G : dkG) (T : dkT) : Array Value → State → Outcome → State → Prop := fun _ st o t => o = .returned T.1 ∧ dk_Rep G T.2 t.heap ∧ t.heap.size = st.heap.size ∧ va_F (dk_A G) st t
/-- a method's contract -/
def dk_Con (l : Launch) (y : MethodName) (cc : ByteArray) (nL : Nat) (ret : Option FieldType) (fr lo : Nat) (G : dkG) (as : List Value) (M : dkM) (T : dkT) : Prop :=
  Met l y (.code y cc nL ret :: dk_tbl) ({ frames := fr, cells := 0, slots := 0, locals := lo }) (dk_P G as M) (dk_Q G T) 0 0 (dk_A G)
theorem dk_blind (G : dkG) (as : List Value) (M : dkM) : FrameBlind (dk_P G as M) := fun a U g mk h => ⟨h.1, h.2.1, va_K.moved (u := U) (U := U.calling g mk a) (Vm.Alike.refl U.vm) h.2.2⟩
/-! the locals -/
def dk_get : dkL → Nat → Option Value
  | [], _ => none
  | (j, w) :: t, i => bif Nat.beq j i then w else dk_get t i
def dk_has (ls : Array Slot) (nL : Nat) (lv : dkL) : Prop := ls.size = nL ∧ lv_wf ls ∧ ∀ i v, dk_get lv i = some v → ls[i]? = some (.val v)
theorem dk_get_hd (i : Nat) (w : Option Value) (lv : dkL) : dk_get ((i, w) :: lv) i = w := by simp [dk_get]
theorem dk_get_tl {i j : Nat} (h : j ≠ i) (w : Option Value) (lv : dkL) : dk_get ((j, w) :: lv) i = dk_get lv i := by
  have : Nat.beq j i = false := by
    cases hb : Nat.beq j i with
    | false => rfl
    | true => exact absurd (Nat.eq_of_beq_eq_true hb) h
  simp [dk_get, this]
def dk_chk (lv : dkL) (i : Nat) : Bool := match i with
  | 0 => true
  | j + 1 => match dk_get lv j with
    | some w => Nat.beq w.category 1
    | none => true
def dk_vals (nL : Nat) (lv : dkL) : List (Nat × Value) := (List.range nL).filterMap fun i => (dk_get lv i).map fun v => (i, v)
theorem dk_vals_in {nL : Nat} {lv : dkL} {i : Nat} {v : Value} (hi : i < nL) (h : dk_get lv i = some v) : (i, v) ∈ dk_vals nL lv :=
  List.mem_filterMap.mpr ⟨i, List.mem_range.mpr hi, by rw [h]; rfl⟩
theorem dk_vals_of {nL : Nat} {lv : dkL} {q : Nat × Value} (h : q ∈ dk_vals nL lv) : dk_get lv q.1 = some q.2 := by
  obtain ⟨i, -, h2⟩ := List.mem_filterMap.mp h
  cases hg : dk_get lv i with
  | none => rw [hg] at h2; cases h2
  | some v => rw [hg] at h2; cases h2; exact hg
theorem dk_has.lv {ls : Array Slot} {nL : Nat} {lv : dkL} (h : dk_has ls nL lv) : lv_has ls nL (dk_vals nL lv) :=
  ⟨h.1, h.2.1, fun q hq => h.2.2 _ _ (dk_vals_of hq)⟩
theorem dk_has.at {ls : Array Slot} {nL : Nat} {lv : dkL} (h : dk_has ls nL lv) {i : Nat} {v : Value} (hg : dk_get lv i = some v) : ls[i]? = some (.val v) := h.2.2 i v hg
theorem dk_has.lt {ls : Array Slot} {nL : Nat} {lv : dkL} (h : dk_has ls nL lv) {i : Nat} {v : Value} (hg : dk_get lv i = some v) : i < nL := by
  rw [← h.1]; exact (Array.getElem?_eq_some_iff.mp (h.at hg)).1
theorem dk_has.set1 {ls ls' : Array Slot} {nL i : Nat} {lv : dkL} {v : Value} (h : dk_has ls nL lv) (hc : dk_chk lv i = true)
    (h' : lv_has ls' nL ((i, v) :: (dk_vals nL lv).filter (fun q => !(q.1 == i) && !(q.1 + 1 == i && q.2.category == 2)))) : dk_has ls' nL ((i, some v) :: lv) := by
  refine ⟨h'.1, h'.2.1, fun j w hj => ?_⟩
  by_cases hji : i = j
  · subst hji
    rw [dk_get_hd] at hj
    cases hj
    exact h'.2.2 _ List.mem_cons_self
  · rw [dk_get_tl hji] at hj
    refine h'.2.2 (j, w) (List.mem_cons_of_mem _ (List.mem_filter.mpr ⟨dk_vals_in (h.lt hj) hj, ?_⟩))
    have h1 : (j == i) = false := by simp; exact fun z => hji z.symm
    have h2 : (j + 1 == i && w.category == 2) = false := by
      cases hq : (j + 1 == i) with
      | false => rfl
      | true =>
        have hq : j + 1 = i := by simpa using hq
        subst hq
        simp only [dk_chk, hj] at hc
        rw [Nat.eq_of_beq_eq_true hc]
        rfl
    rw [h1, h2]
    rfl
theorem dk_has.set2 {ls ls' : Array Slot} {nL i : Nat} {lv : dkL} {v : Value} (h : dk_has ls nL lv) (hc : dk_chk lv i = true)
    (h' : lv_has ls' nL ((i, v) :: (dk_vals nL lv).filter (fun q => !(q.1 == i) && (!(q.1 == i + 1) && !(q.1 + 1 == i && q.2.category == 2))))) : dk_has ls' nL ((i, some v) :: (i + 1, none) :: lv) := by
  refine ⟨h'.1, h'.2.1, fun j w hj => ?_⟩
  by_cases hji : i = j
  · subst hji
    rw [dk_get_hd] at hj
    cases hj
    exact h'.2.2 _ List.mem_cons_self
  · rw [dk_get_tl hji] at hj
    by_cases hj1 : i + 1 = j
    · subst hj1
      rw [dk_get_hd] at hj
      cases hj
    rw [dk_get_tl hj1] at hj
    refine h'.2.2 (j, w) (List.mem_cons_of_mem _ (List.mem_filter.mpr ⟨dk_vals_in (h.lt hj) hj, ?_⟩))
    have h1 : (j == i) = false := by simp; exact fun z => hji z.symm
    have h3 : (j == i + 1) = false := by simp; exact fun z => hj1 z.symm
    have h2 : (j + 1 == i && w.category == 2) = false := by
      cases hq : (j + 1 == i) with
      | false => rfl
      | true =>
        have hq : j + 1 = i := by simpa using hq
        subst hq
        simp only [dk_chk, hj] at hc
        rw [Nat.eq_of_beq_eq_true hc]
        rfl
    simp [h1, h2, h3]
def dk_args : Nat → List Value → dkL
  | _, [] => []
  | i, v :: vs => (i, some v) :: dk_args (if v.category = 2 then i + 2 else i + 1) vs
theorem dk_args_lv (vs : List Value) : ∀ i, ∀ q ∈ dk_args i vs, ∃ v, q.2 = some v ∧ (q.1, v) ∈ lv_args i vs := by
  induction vs with
  | nil => intro i q h; cases h
  | cons v vs ih =>
    intro i q h
    rcases List.mem_cons.mp h with rfl | h
    · exact ⟨v, rfl, List.mem_cons_self⟩
    · obtain ⟨w, h1, h2⟩ := ih _ q h
      exact ⟨w, h1, List.mem_cons_of_mem _ h2⟩
theorem dk_get_mem {lv : dkL} {i : Nat} {v : Value} (h : dk_get lv i = some v) : (i, some v) ∈ lv := by
  induction lv with
  | nil => cases h
  | cons q t ih =>
    obtain ⟨j, w⟩ := q
    by_cases hj : j = i
    · subst hj
      rw [dk_get_hd] at h
      rw [h]
      exact List.mem_cons_self
    · rw [dk_get_tl hj] at h
      exact List.mem_cons_of_mem _ (ih h)
/-! the judgement -/
def V (E : dkE) (G : dkG) (nL : Nat) (T : dkT) (M : dkM) (pc : Nat) (lv : dkL) (st : List Value) : Prop := match E with
  | (p, l, e, R, s, m, args, below, meth, c, z) => ∀ (H : Heap) (locs : List Loc) (ls : Array Slot), dk_Rep G M H → (s.heap.size ≤ H.size ∧ (z.1 = 0 → H.size = s.heap.size)) → va_S z.2.2.1 s.heap H locs → dk_has ls nL lv →
    W p l e R s m args below meth c H locs z.1 z.2.1 (z.2.2.2 T) (F0 m pc ls st)
/-- what is new so far is in the room; what may be written may be written; what a return owes -/
def dk_X (R : Room) (s : State) (args : Array Value) (below : List Frame) (z : Nat × Nat × (Nat → Prop) × (dkT → State → Prop)) (G : dkG) : Prop := (∀ q, dk_A G q → z.2.2.1 q) ∧ (z.1 ≤ R.cells ∧ z.2.1 ≤ R.slots) ∧ ∃ Po : dkT → Array Value → State → Outcome → State → Prop, (∀ T, z.2.2.2 T = MQ below (Po T) args s R.cells R.slots z.2.2.1) ∧ ∀ (T : dkT) (H : Heap) (t : State), dk_Rep G T.2 H → (z.1 = 0 → H.size = s.heap.size) → va_S z.2.2.1 s.heap H [] → t.heap = H → Po T args s (.returned T.1) t
/-- what is fixed in a method's walk -/
def dk_Cx (E : dkE) (G : dkG) (cc : ByteArray) (nL : Nat) (own : String) (ret : Option FieldType) (fr lo : Nat) : Prop := match E with
  | (p, _, _, R, s, m, args, below, meth, c, z) => p.tables.exec = Jvm.exec ∧ c.code = cc ∧ c.maxLocals = nL ∧ s.vm.findClass own = some m.cls ∧ (∀ w ∈ dk_tbl, w.before args s = true) ∧ meth.locks = false ∧ meth.sig.returnType = ret ∧ dk_K G s ∧ R.frames = fr ∧ R.locals = lo ∧ dk_X R s args below z G
theorem dk_Con.of {l : Launch} {C : String} {y : MethodName} {cc : ByteArray} {nL n : Nat} {ret : Option FieldType} {fr lo : Nat} {G : dkG} {as : List Value} {M : dkM} {T : dkT} (w : dk_mw C y cc nL ret n) (has : (lg_sl as).length ≤ nL)
    (k : ∀ E : dkE, E.2.1 = l → dk_Cx E G cc nL C ret fr lo → V E G nL T M 0 (dk_args 0 as) []) : dk_Con l y cc nL ret fr lo G as M T := by
  refine Met.ofW (cc := cc) (maxL := nL) (ret := ret) w.2.1 rfl ?_
  intro p e s m args below meth c s₁ B hml hv
  obtain ⟨rfl, hR, hK⟩ := hv
  have hts := atoms_spec (ws := Cond.code y cc nL ret :: dk_tbl) B.pre
  have hl := lv_entry as has
  rw [lg_entry_eq]
  have hC : dk_Cx (p, l, e, ({ frames := fr, cells := 0, slots := 0, locals := lo } : Room), s, m, as.toArray, below, meth, c, (0, 0, dk_A G, fun T => MQ below (dk_Q G T) as.toArray s 0 0 (dk_A G))) G cc nL C ret fr lo := ⟨B.exec, B.bytes, hml, w.1.1 ▸ findClass_of_methodNamed B.named, fun w h => hts w (List.mem_cons_of_mem _ h), B.notSynchronized, B.returns, hK, rfl, rfl, fun q h => h, ⟨Nat.le_refl _, Nat.le_refl _⟩, dk_Q G, fun T => rfl, fun T H t h1 h0 h2 h3 => ⟨rfl, by rw [h3]; exact h1, by rw [h3]; exact h0 rfl, h2.F h3⟩⟩
  exact k _ rfl hC s.heap [] _ hR ⟨Nat.le_refl _, fun _ => rfl⟩ va_S.rf ⟨hl.1, hl.2.1, fun i v h => by
    obtain ⟨w, h1, h2⟩ := dk_args_lv as 0 _ (dk_get_mem h)
    cases h1
    exact hl.2.2 _ h2⟩
section VR
variable {E : dkE} {G : dkG} {cc : ByteArray} {nL : Nat} {own : String} {ret : Option FieldType} {fr lo : Nat} {T : dkT} {M : dkM} {pc : Nat} {lv : dkL} {st : List Value}
theorem V.eqM {M' : dkM} (h : M = M') (k : V E G nL T M' pc lv st) : V E G nL T M pc lv st := h ▸ k
theorem V.eqT {T' : dkT} (h : T' = T) (k : V E G nL T' M pc lv st) : V E G nL T M pc lv st := h ▸ k
theorem V.top {x x' : Value} (h : x = x') (k : V E G nL T M pc lv (x' :: st)) : V E G nL T M pc lv (x :: st) := h ▸ k
/-- fewer locals are known -/
theorem V.sub {lv' : dkL} (h : ∀ q ∈ lv', q.2 = none ∨ dk_get lv q.1 = q.2) (k : V E G nL T M pc lv' st) : V E G nL T M pc lv st := by
  obtain ⟨p, l, e, R, s, m, args, below, meth, c, z⟩ := E
  intro H locs ls hR hz hS hl
  refine k H locs ls hR hz hS ⟨hl.1, hl.2.1, fun i v hg => ?_⟩
  rcases h _ (dk_get_mem hg) with z | z
  · cases z
  · exact hl.2.2 i v z
/-- a row that neither stores nor calls -/
theorem V.of {lv' : dkL} {st' : List Value} {pc' : Nat} (k : V E G nL T M pc' lv' st') (f : match E with
    | (p, l, e, R, s, m, args, below, meth, c, z) => ∀ (H : Heap) (locs : List Loc) (ls : Array Slot) (Q : State → Prop), dk_Rep G M H → dk_has ls nL lv → (∀ ls' : Array Slot, dk_has ls' nL lv' → W p l e R s m args below meth c H locs z.1 z.2.1 Q (F0 m pc' ls' st')) → W p l e R s m args below meth c H locs z.1 z.2.1 Q (F0 m pc ls st)) : V E G nL T M pc lv st := by
  obtain ⟨p, l, e, R, s, m, args, below, meth, c, z⟩ := E
  intro H locs ls hR hz hS hl
  exact f H locs ls _ hR hl (fun ls' hl' => k H locs ls' hR hz hS hl')
theorem V.iload_n (C : dk_Cx E G cc nL own ret fr lo) {k : Fin 4} {x : Int32} (d : decode cc pc = .ok (.iload_n k, 1)) (hg : dk_get lv k = some (.int x)) (kk : V E G nL T M (pc + 1) lv (.int x :: st)) : V E G nL T M pc lv st := by
  refine V.of kk ?_
  obtain ⟨p, l, e, R, s, m, args, below, meth, c, z⟩ := E
  exact fun H locs ls Q _ hl w => lv_iload_n C.1 C.2.1 d rfl (hl.at hg) (w ls hl)
theorem V.iload (C : dk_Cx E G cc nL own ret fr lo) {k : Nat} {x : Int32} (d : decode cc pc = .ok (.iload k, 2)) (hg : dk_get lv k = some (.int x)) (kk : V E G nL T M (pc + 2) lv (.int x :: st)) : V E G nL T M pc lv st := by
  refine V.of kk ?_
  obtain ⟨p, l, e, R, s, m, args, below, meth, c, z⟩ := E
  exact fun H locs ls Q _ hl w => lv_iload C.1 C.2.1 d (hl.at hg) (w ls hl)
theorem V.lload_n (C : dk_Cx E G cc nL own ret fr lo) {k : Fin 4} {x : Int64} (d : decode cc pc = .ok (.lload_n k, 1)) (hg : dk_get lv k = some (.long x)) (kk : V E G nL T M (pc + 1) lv (.long x :: st)) : V E G nL T M pc lv st := by
  refine V.of kk ?_
  obtain ⟨p, l, e, R, s, m, args, below, meth, c, z⟩ := E
  exact fun H locs ls Q _ hl w => lv_lload_n C.1 C.2.1 d rfl (hl.at hg) (w ls hl)
theorem V.aload_n (C : dk_Cx E G cc nL own ret fr lo) {k : Fin 4} {x : Nat} (d : decode cc pc = .ok (.aload_n k, 1)) (hg : dk_get lv k = some (.ref x)) (kk : V E G nL T M (pc + 1) lv (.ref x :: st)) : V E G nL T M pc lv st := by
  refine V.of kk ?_
  obtain ⟨p, l, e, R, s, m, args, below, meth, c, z⟩ := E
  exact fun H locs ls Q _ hl w => lv_aload_n C.1 C.2.1 d rfl (hl.at hg) (w ls hl)
theorem V.istore_n (C : dk_Cx E G cc nL own ret fr lo) {k : Fin 4} {x : Int32} (d : decode cc pc = .ok (.istore_n k, 1)) (hn : Nat.ble (k.val + 1) nL = true) (hc : dk_chk lv k = true) (kk : V E G nL T M (pc + 1) ((k.val, some (.int x)) :: lv) st) : V E G nL T M pc lv (.int x :: st) := by
  refine V.of kk ?_
  obtain ⟨p, l, e, R, s, m, args, below, meth, c, z⟩ := E
  exact fun H locs ls Q _ hl w => lv_istore_n C.1 C.2.1 d rfl hl.lv (Nat.le_of_ble_eq_true hn) rfl (fun ls' h' => w ls' (hl.set1 hc h'))
theorem V.istore (C : dk_Cx E G cc nL own ret fr lo) {k : Nat} {x : Int32} (d : decode cc pc = .ok (.istore k, 2)) (hn : Nat.ble (k + 1) nL = true) (hc : dk_chk lv k = true) (kk : V E G nL T M (pc + 2) ((k, some (.int x)) :: lv) st) : V E G nL T M pc lv (.int x :: st) := by
  refine V.of kk ?_
  obtain ⟨p, l, e, R, s, m, args, below, meth, c, z⟩ := E
  exact fun H locs ls Q _ hl w => lv_istore C.1 C.2.1 d hl.lv (Nat.le_of_ble_eq_true hn) rfl (fun ls' h' => w ls' (hl.set1 hc h'))
theorem V.astore_n (C : dk_Cx E G cc nL own ret fr lo) {k : Fin 4} {x : Nat} (d : decode cc pc = .ok (.astore_n k, 1)) (hn : Nat.ble (k.val + 1) nL = true) (hc : dk_chk lv k = true) (kk : V E G nL T M (pc + 1) ((k.val, some (.ref x)) :: lv) st) : V E G nL T M pc lv (.ref x :: st) := by
  refine V.of kk ?_
  obtain ⟨p, l, e, R, s, m, args, below, meth, c, z⟩ := E
  exact fun H locs ls Q _ hl w => lv_astore_n C.1 C.2.1 d rfl hl.lv (Nat.le_of_ble_eq_true hn) rfl (fun ls' h' => w ls' (hl.set1 hc h'))
theorem V.lstore_n (C : dk_Cx E G cc nL own ret fr lo) {k : Fin 4} {x : Int64} (d : decode cc pc = .ok (.lstore_n k, 1)) (hn : Nat.ble (k.val + 1 + 1) nL = true) (hc : dk_chk lv k = true) (kk : V E G nL T M (pc + 1) ((k.val, some (.long x)) :: (k.val + 1, none) :: lv) st) : V E G nL T M pc lv (.long x :: st) := by
  refine V.of kk ?_
  obtain ⟨p, l, e, R, s, m, args, below, meth, c, z⟩ := E
  exact fun H locs ls Q _ hl w => lv_lstore_n C.1 C.2.1 d rfl hl.lv (Nat.le_of_ble_eq_true hn) rfl (fun ls' h' => w ls' (hl.set2 hc h'))
theorem V.iinc (C : dk_Cx E G cc nL own ret fr lo) {k : Nat} {n : Int} {x v : Int32} (d : decode cc pc = .ok (.iinc k n, 3)) (hg : dk_get lv k = some (.int x)) (hv : x + Int32.ofInt n = v) (hc : dk_chk lv k = true) (kk : V E G nL T M (pc + 3) ((k, some (.int v)) :: lv) st) : V E G nL T M pc lv st := by
  refine V.of kk ?_
  obtain ⟨p, l, e, R, s, m, args, below, meth, c, z⟩ := E
  refine fun H locs ls Q _ hl w => ?_
  obtain ⟨j, hj⟩ := List.getElem?_of_mem (dk_vals_in (hl.lt hg) hg)
  exact lv_iinc C.1 C.2.1 d hl.lv hj hv (hl.lt hg) rfl (fun ls' h' => w ls' (hl.set1 hc h'))
theorem V.iconst (C : dk_Cx E G cc nL own ret fr lo) {n : Int} (v : Int32) (d : decode cc pc = .ok (.iconst n, 1)) (hv : Int32.ofInt n = v) (kk : V E G nL T M (pc + 1) lv (.int v :: st)) : V E G nL T M pc lv st := by
  refine V.of kk ?_
  obtain ⟨p, l, e, R, s, m, args, below, meth, c, z⟩ := E
  exact fun H locs ls Q _ hl w => lv_iconst C.1 C.2.1 d hv (w ls hl)
theorem V.bipush (C : dk_Cx E G cc nL own ret fr lo) {n : Int} (v : Int32) (d : decode cc pc = .ok (.bipush n, 2)) (hv : (Int8.ofInt n).toInt32 = v) (kk : V E G nL T M (pc + 2) lv (.int v :: st)) : V E G nL T M pc lv st := by
  refine V.of kk ?_
  obtain ⟨p, l, e, R, s, m, args, below, meth, c, z⟩ := E
  exact fun H locs ls Q _ hl w => lv_bipush C.1 C.2.1 d hv (w ls hl)
theorem V.sipush (C : dk_Cx E G cc nL own ret fr lo) {n : Int} (v : Int32) (d : decode cc pc = .ok (.sipush n, 3)) (hv : (Int16.ofInt n).toInt32 = v) (kk : V E G nL T M (pc + 3) lv (.int v :: st)) : V E G nL T M pc lv st := by
  refine V.of kk ?_
  obtain ⟨p, l, e, R, s, m, args, below, meth, c, z⟩ := E
  exact fun H locs ls Q _ hl w => lv_sipush C.1 C.2.1 d hv (w ls hl)
theorem V.ldc (C : dk_Cx E G cc nL own ret fr lo) {i : Nat} {v : Int32} (hk : Cond.constant own i v ∈ dk_tbl) (d : decode cc pc = .ok (.ldc i, 2)) (kk : V E G nL T M (pc + 2) lv (.int v :: st)) : V E G nL T M pc lv st := by
  refine V.of kk ?_
  obtain ⟨p, l, e, R, s, m, args, below, meth, c, z⟩ := E
  exact fun H locs ls Q _ hl w => lv_ldc C.1 C.2.1 C.2.2.2.1 (C.2.2.2.2.1 _ hk) d (w ls hl)
theorem V.ldc2 (C : dk_Cx E G cc nL own ret fr lo) {i : Nat} {v : Int64} (hk : Cond.constantLong own i v ∈ dk_tbl) (d : decode cc pc = .ok (.ldc2_w i, 3)) (kk : V E G nL T M (pc + 3) lv (.long v :: st)) : V E G nL T M pc lv st := by
  refine V.of kk ?_
  obtain ⟨p, l, e, R, s, m, args, below, meth, c, z⟩ := E
  exact fun H locs ls Q _ hl w => lv_ldc2 C.1 C.2.1 C.2.2.2.1 (C.2.2.2.2.1 _ hk) d (w ls hl)
theorem V.iadd (C : dk_Cx E G cc nL own ret fr lo) {x y : Int32} (d : decode cc pc = .ok (.iadd, 1)) (kk : V E G nL T M (pc + 1) lv (.int (x + y) :: st)) : V E G nL T M pc lv (.int y :: .int x :: st) := by
  refine V.of kk ?_
  obtain ⟨p, l, e, R, s, m, args, below, meth, c, z⟩ := E
  exact fun H locs ls Q _ hl w => lv_iadd C.1 C.2.1 d (w ls hl)
theorem V.isub (C : dk_Cx E G cc nL own ret fr lo) {x y : Int32} (d : decode cc pc = .ok (.isub, 1)) (kk : V E G nL T M (pc + 1) lv (.int (x - y) :: st)) : V E G nL T M pc lv (.int y :: .int x :: st) := by
  refine V.of kk ?_
  obtain ⟨p, l, e, R, s, m, args, below, meth, c, z⟩ := E
  exact fun H locs ls Q _ hl w => lv_isub C.1 C.2.1 d (w ls hl)
theorem V.imul (C : dk_Cx E G cc nL own ret fr lo) {x y : Int32} (d : decode cc pc = .ok (.imul, 1)) (kk : V E G nL T M (pc + 1) lv (.int (x * y) :: st)) : V E G nL T M pc lv (.int y :: .int x :: st) := by
  refine V.of kk ?_
  obtain ⟨p, l, e, R, s, m, args, below, meth, c, z⟩ := E
  exact fun H locs ls Q _ hl w => lv_imul C.1 C.2.1 d (w ls hl)
theorem V.iand (C : dk_Cx E G cc nL own ret fr lo) {x y : Int32} (d : decode cc pc = .ok (.iand, 1)) (kk : V E G nL T M (pc + 1) lv (.int (x &&& y) :: st)) : V E G nL T M pc lv (.int y :: .int x :: st) := by
  refine V.of kk ?_
  obtain ⟨p, l, e, R, s, m, args, below, meth, c, z⟩ := E
  exact fun H locs ls Q _ hl w => lv_iand C.1 C.2.1 d (w ls hl)
theorem V.ixor (C : dk_Cx E G cc nL own ret fr lo) {x y : Int32} (d : decode cc pc = .ok (.ixor, 1)) (kk : V E G nL T M (pc + 1) lv (.int (x ^^^ y) :: st)) : V E G nL T M pc lv (.int y :: .int x :: st) := by
  refine V.of kk ?_
  obtain ⟨p, l, e, R, s, m, args, below, meth, c, z⟩ := E
  exact fun H locs ls Q _ hl w => lv_ixor C.1 C.2.1 d (w ls hl)
theorem V.idiv (C : dk_Cx E G cc nL own ret fr lo) {x y : Int32} (d : decode cc pc = .ok (.idiv, 1)) (hne : ¬ y = 0) (kk : V E G nL T M (pc + 1) lv (.int (x / y) :: st)) : V E G nL T M pc lv (.int y :: .int x :: st) := by
  refine V.of kk ?_
  obtain ⟨p, l, e, R, s, m, args, below, meth, c, z⟩ := E
  exact fun H locs ls Q _ hl w => lv_idiv C.1 C.2.1 d hne (w ls hl)
theorem V.irem (C : dk_Cx E G cc nL own ret fr lo) {x y : Int32} (d : decode cc pc = .ok (.irem, 1)) (hne : ¬ y = 0) (kk : V E G nL T M (pc + 1) lv (.int (x - x / y * y) :: st)) : V E G nL T M pc lv (.int y :: .int x :: st) := by
  refine V.of kk ?_
  obtain ⟨p, l, e, R, s, m, args, below, meth, c, z⟩ := E
  exact fun H locs ls Q _ hl w => lv_irem C.1 C.2.1 d hne (w ls hl)
theorem V.ladd (C : dk_Cx E G cc nL own ret fr lo) {x y : Int64} (d : decode cc pc = .ok (.ladd, 1)) (kk : V E G nL T M (pc + 1) lv (.long (x + y) :: st)) : V E G nL T M pc lv (.long y :: .long x :: st) := by
  refine V.of kk ?_
  obtain ⟨p, l, e, R, s, m, args, below, meth, c, z⟩ := E
  exact fun H locs ls Q _ hl w => lv_ladd C.1 C.2.1 d (w ls hl)
theorem V.lmul (C : dk_Cx E G cc nL own ret fr lo) {x y : Int64} (d : decode cc pc = .ok (.lmul, 1)) (kk : V E G nL T M (pc + 1) lv (.long (x * y) :: st)) : V E G nL T M pc lv (.long y :: .long x :: st) := by
  refine V.of kk ?_
  obtain ⟨p, l, e, R, s, m, args, below, meth, c, z⟩ := E
  exact fun H locs ls Q _ hl w => lv_lmul C.1 C.2.1 d (w ls hl)
theorem V.lcmp (C : dk_Cx E G cc nL own ret fr lo) {x y : Int64} (d : decode cc pc = .ok (.lcmp, 1)) (kk : V E G nL T M (pc + 1) lv (.int (lg_cmp x y) :: st)) : V E G nL T M pc lv (.long y :: .long x :: st) := by
  refine V.of kk ?_
  obtain ⟨p, l, e, R, s, m, args, below, meth, c, z⟩ := E
  exact fun H locs ls Q _ hl w => W.lcmp C.1 C.2.1 d (w ls hl)
theorem V.i2l (C : dk_Cx E G cc nL own ret fr lo) {x : Int32} (d : decode cc pc = .ok (.i2l, 1)) (kk : V E G nL T M (pc + 1) lv (.long x.toInt64 :: st)) : V E G nL T M pc lv (.int x :: st) := by
  refine V.of kk ?_
  obtain ⟨p, l, e, R, s, m, args, below, meth, c, z⟩ := E
  exact fun H locs ls Q _ hl w => lv_i2l C.1 C.2.1 d rfl (w ls hl)
theorem V.dup (C : dk_Cx E G cc nL own ret fr lo) {v : Value} (d : decode cc pc = .ok (.dup, 1)) (hv : v.category = 1) (kk : V E G nL T M (pc + 1) lv (v :: v :: st)) : V E G nL T M pc lv (v :: st) := by
  refine V.of kk ?_
  obtain ⟨p, l, e, R, s, m, args, below, meth, c, z⟩ := E
  exact fun H locs ls Q _ hl w => lv_dup C.1 C.2.1 d hv (w ls hl)
theorem V.dup2 (C : dk_Cx E G cc nL own ret fr lo) {v u : Value} (d : decode cc pc = .ok (.dup2, 1)) (hv : v.category = 1) (hu : u.category = 1) (kk : V E G nL T M (pc + 1) lv (v :: u :: v :: u :: st)) : V E G nL T M pc lv (v :: u :: st) := by
  refine V.of kk ?_
  obtain ⟨p, l, e, R, s, m, args, below, meth, c, z⟩ := E
  exact fun H locs ls Q _ hl w => lv_dup2_11 C.1 C.2.1 d hv hu (w ls hl)
theorem V.pop (C : dk_Cx E G cc nL own ret fr lo) {v : Value} (d : decode cc pc = .ok (.pop, 1)) (hv : v.category = 1) (kk : V E G nL T M (pc + 1) lv (st)) : V E G nL T M pc lv (v :: st) := by
  refine V.of kk ?_
  obtain ⟨p, l, e, R, s, m, args, below, meth, c, z⟩ := E
  exact fun H locs ls Q _ hl w => lv_pop C.1 C.2.1 d hv (w ls hl)
theorem V.goto (C : dk_Cx E G cc nL own ret fr lo) {off : Int} (tgt : Nat) (d : decode cc pc = .ok (.goto off, 3)) (ht : (pc : Int) + off = (tgt : Int)) (kk : V E G nL T M tgt lv st) : V E G nL T M pc lv st := by
  refine V.of kk ?_
  obtain ⟨p, l, e, R, s, m, args, below, meth, c, z⟩ := E
  exact fun H locs ls Q _ hl w => lv_goto C.1 C.2.1 d ht (w ls hl)
theorem V.icmp_eq (C : dk_Cx E G cc nL own ret fr lo) {x y : Int32} {off : Int} (tgt : Nat) (d : decode cc pc = .ok (.if_icmp .eq off, 3)) (ht : (pc : Int) + off = (tgt : Int)) (kt : x = y → V E G nL T M tgt lv st) (kf : ¬ x = y → V E G nL T M (pc + 3) lv st) : V E G nL T M pc lv (.int y :: .int x :: st) := by
  obtain ⟨p, l, e, R, s, m, args, below, meth, c, z⟩ := E
  intro H locs ls hR hz hS hl
  exact lv_icmp_eq C.1 C.2.1 d ht (fun h => kt h H locs ls hR hz hS hl) (fun h => kf h H locs ls hR hz hS hl)
theorem V.icmp_eq_t (C : dk_Cx E G cc nL own ret fr lo) {x y : Int32} {off : Int} (tgt : Nat) (d : decode cc pc = .ok (.if_icmp .eq off, 3)) (ht : (pc : Int) + off = (tgt : Int)) (hc : x = y) (kt : V E G nL T M tgt lv st) : V E G nL T M pc lv (.int y :: .int x :: st) :=
  V.icmp_eq C tgt d ht (fun _ => kt) (fun h => by first | exact absurd hc h | exact absurd h (by simpa using hc))
theorem V.icmp_eq_f (C : dk_Cx E G cc nL own ret fr lo) {x y : Int32} {off : Int} (tgt : Nat) (d : decode cc pc = .ok (.if_icmp .eq off, 3)) (ht : (pc : Int) + off = (tgt : Int)) (hc : ¬ x = y) (kf : V E G nL T M (pc + 3) lv st) : V E G nL T M pc lv (.int y :: .int x :: st) :=
  V.icmp_eq C tgt d ht (fun h => by first | exact absurd h hc | exact absurd hc (by simpa using h)) (fun _ => kf)
theorem V.if_eq (C : dk_Cx E G cc nL own ret fr lo) {x : Int32} {off : Int} (tgt : Nat) (d : decode cc pc = .ok (.ifCond .eq off, 3)) (ht : (pc : Int) + off = (tgt : Int)) (kt : x = 0 → V E G nL T M tgt lv st) (kf : ¬ x = 0 → V E G nL T M (pc + 3) lv st) : V E G nL T M pc lv (.int x :: st) := by
  obtain ⟨p, l, e, R, s, m, args, below, meth, c, z⟩ := E
  intro H locs ls hR hz hS hl
  exact lv_if_eq C.1 C.2.1 d ht (fun h => kt h H locs ls hR hz hS hl) (fun h => kf h H locs ls hR hz hS hl)
theorem V.if_eq_t (C : dk_Cx E G cc nL own ret fr lo) {x : Int32} {off : Int} (tgt : Nat) (d : decode cc pc = .ok (.ifCond .eq off, 3)) (ht : (pc : Int) + off = (tgt : Int)) (hc : x = 0) (kt : V E G nL T M tgt lv st) : V E G nL T M pc lv (.int x :: st) :=
  V.if_eq C tgt d ht (fun _ => kt) (fun h => by first | exact absurd hc h | exact absurd h (by simpa using hc))
theorem V.if_eq_f (C : dk_Cx E G cc nL own ret fr lo) {x : Int32} {off : Int} (tgt : Nat) (d : decode cc pc = .ok (.ifCond .eq off, 3)) (ht : (pc : Int) + off = (tgt : Int)) (hc : ¬ x = 0) (kf : V E G nL T M (pc + 3) lv st) : V E G nL T M pc lv (.int x :: st) :=
  V.if_eq C tgt d ht (fun h => by first | exact absurd h hc | exact absurd hc (by simpa using h)) (fun _ => kf)
theorem V.icmp_ne (C : dk_Cx E G cc nL own ret fr lo) {x y : Int32} {off : Int} (tgt : Nat) (d : decode cc pc = .ok (.if_icmp .ne off, 3)) (ht : (pc : Int) + off = (tgt : Int)) (kt : ¬ x = y → V E G nL T M tgt lv st) (kf : x = y → V E G nL T M (pc + 3) lv st) : V E G nL T M pc lv (.int y :: .int x :: st) := by
  obtain ⟨p, l, e, R, s, m, args, below, meth, c, z⟩ := E
  intro H locs ls hR hz hS hl
  exact lv_icmp_ne C.1 C.2.1 d ht (fun h => kt h H locs ls hR hz hS hl) (fun h => kf h H locs ls hR hz hS hl)
theorem V.icmp_ne_t (C : dk_Cx E G cc nL own ret fr lo) {x y : Int32} {off : Int} (tgt : Nat) (d : decode cc pc = .ok (.if_icmp .ne off, 3)) (ht : (pc : Int) + off = (tgt : Int)) (hc : ¬ x = y) (kt : V E G nL T M tgt lv st) : V E G nL T M pc lv (.int y :: .int x :: st) :=
  V.icmp_ne C tgt d ht (fun _ => kt) (fun h => by first | exact absurd hc h | exact absurd h (by simpa using hc))
theorem V.icmp_ne_f (C : dk_Cx E G cc nL own ret fr lo) {x y : Int32} {off : Int} (tgt : Nat) (d : decode cc pc = .ok (.if_icmp .ne off, 3)) (ht : (pc : Int) + off = (tgt : Int)) (hc : x = y) (kf : V E G nL T M (pc + 3) lv st) : V E G nL T M pc lv (.int y :: .int x :: st) :=
  V.icmp_ne C tgt d ht (fun h => by first | exact absurd h hc | exact absurd hc (by simpa using h)) (fun _ => kf)
theorem V.if_ne (C : dk_Cx E G cc nL own ret fr lo) {x : Int32} {off : Int} (tgt : Nat) (d : decode cc pc = .ok (.ifCond .ne off, 3)) (ht : (pc : Int) + off = (tgt : Int)) (kt : ¬ x = 0 → V E G nL T M tgt lv st) (kf : x = 0 → V E G nL T M (pc + 3) lv st) : V E G nL T M pc lv (.int x :: st) := by
  obtain ⟨p, l, e, R, s, m, args, below, meth, c, z⟩ := E
  intro H locs ls hR hz hS hl
  exact lv_if_ne C.1 C.2.1 d ht (fun h => kt h H locs ls hR hz hS hl) (fun h => kf h H locs ls hR hz hS hl)
theorem V.if_ne_t (C : dk_Cx E G cc nL own ret fr lo) {x : Int32} {off : Int} (tgt : Nat) (d : decode cc pc = .ok (.ifCond .ne off, 3)) (ht : (pc : Int) + off = (tgt : Int)) (hc : ¬ x = 0) (kt : V E G nL T M tgt lv st) : V E G nL T M pc lv (.int x :: st) :=
  V.if_ne C tgt d ht (fun _ => kt) (fun h => by first | exact absurd hc h | exact absurd h (by simpa using hc))
theorem V.if_ne_f (C : dk_Cx E G cc nL own ret fr lo) {x : Int32} {off : Int} (tgt : Nat) (d : decode cc pc = .ok (.ifCond .ne off, 3)) (ht : (pc : Int) + off = (tgt : Int)) (hc : x = 0) (kf : V E G nL T M (pc + 3) lv st) : V E G nL T M pc lv (.int x :: st) :=
  V.if_ne C tgt d ht (fun h => by first | exact absurd h hc | exact absurd hc (by simpa using h)) (fun _ => kf)
theorem V.icmp_lt (C : dk_Cx E G cc nL own ret fr lo) {x y : Int32} {off : Int} (tgt : Nat) (d : decode cc pc = .ok (.if_icmp .lt off, 3)) (ht : (pc : Int) + off = (tgt : Int)) (kt : x < y → V E G nL T M tgt lv st) (kf : ¬ x < y → V E G nL T M (pc + 3) lv st) : V E G nL T M pc lv (.int y :: .int x :: st) := by
  obtain ⟨p, l, e, R, s, m, args, below, meth, c, z⟩ := E
  intro H locs ls hR hz hS hl
  exact lv_icmp_lt C.1 C.2.1 d ht (fun h => kt h H locs ls hR hz hS hl) (fun h => kf h H locs ls hR hz hS hl)
theorem V.icmp_lt_t (C : dk_Cx E G cc nL own ret fr lo) {x y : Int32} {off : Int} (tgt : Nat) (d : decode cc pc = .ok (.if_icmp .lt off, 3)) (ht : (pc : Int) + off = (tgt : Int)) (hc : x < y) (kt : V E G nL T M tgt lv st) : V E G nL T M pc lv (.int y :: .int x :: st) :=
  V.icmp_lt C tgt d ht (fun _ => kt) (fun h => by first | exact absurd hc h | exact absurd h (by simpa using hc))
theorem V.icmp_lt_f (C : dk_Cx E G cc nL own ret fr lo) {x y : Int32} {off : Int} (tgt : Nat) (d : decode cc pc = .ok (.if_icmp .lt off, 3)) (ht : (pc : Int) + off = (tgt : Int)) (hc : ¬ x < y) (kf : V E G nL T M (pc + 3) lv st) : V E G nL T M pc lv (.int y :: .int x :: st) :=
  V.icmp_lt C tgt d ht (fun h => by first | exact absurd h hc | exact absurd hc (by simpa using h)) (fun _ => kf)
theorem V.if_lt (C : dk_Cx E G cc nL own ret fr lo) {x : Int32} {off : Int} (tgt : Nat) (d : decode cc pc = .ok (.ifCond .lt off, 3)) (ht : (pc : Int) + off = (tgt : Int)) (kt : x < 0 → V E G nL T M tgt lv st) (kf : ¬ x < 0 → V E G nL T M (pc + 3) lv st) : V E G nL T M pc lv (.int x :: st) := by
  obtain ⟨p, l, e, R, s, m, args, below, meth, c, z⟩ := E
  intro H locs ls hR hz hS hl
  exact lv_if_lt C.1 C.2.1 d ht (fun h => kt h H locs ls hR hz hS hl) (fun h => kf h H locs ls hR hz hS hl)
theorem V.if_lt_t (C : dk_Cx E G cc nL own ret fr lo) {x : Int32} {off : Int} (tgt : Nat) (d : decode cc pc = .ok (.ifCond .lt off, 3)) (ht : (pc : Int) + off = (tgt : Int)) (hc : x < 0) (kt : V E G nL T M tgt lv st) : V E G nL T M pc lv (.int x :: st) :=
  V.if_lt C tgt d ht (fun _ => kt) (fun h => by first | exact absurd hc h | exact absurd h (by simpa using hc))
theorem V.if_lt_f (C : dk_Cx E G cc nL own ret fr lo) {x : Int32} {off : Int} (tgt : Nat) (d : decode cc pc = .ok (.ifCond .lt off, 3)) (ht : (pc : Int) + off = (tgt : Int)) (hc : ¬ x < 0) (kf : V E G nL T M (pc + 3) lv st) : V E G nL T M pc lv (.int x :: st) :=
  V.if_lt C tgt d ht (fun h => by first | exact absurd h hc | exact absurd hc (by simpa using h)) (fun _ => kf)
theorem V.icmp_ge (C : dk_Cx E G cc nL own ret fr lo) {x y : Int32} {off : Int} (tgt : Nat) (d : decode cc pc = .ok (.if_icmp .ge off, 3)) (ht : (pc : Int) + off = (tgt : Int)) (kt : y ≤ x → V E G nL T M tgt lv st) (kf : ¬ y ≤ x → V E G nL T M (pc + 3) lv st) : V E G nL T M pc lv (.int y :: .int x :: st) := by
  obtain ⟨p, l, e, R, s, m, args, below, meth, c, z⟩ := E
  intro H locs ls hR hz hS hl
  exact lv_icmp_ge C.1 C.2.1 d ht (fun h => kt h H locs ls hR hz hS hl) (fun h => kf h H locs ls hR hz hS hl)
theorem V.icmp_ge_t (C : dk_Cx E G cc nL own ret fr lo) {x y : Int32} {off : Int} (tgt : Nat) (d : decode cc pc = .ok (.if_icmp .ge off, 3)) (ht : (pc : Int) + off = (tgt : Int)) (hc : y ≤ x) (kt : V E G nL T M tgt lv st) : V E G nL T M pc lv (.int y :: .int x :: st) :=
  V.icmp_ge C tgt d ht (fun _ => kt) (fun h => by first | exact absurd hc h | exact absurd h (by simpa using hc))
theorem V.icmp_ge_f (C : dk_Cx E G cc nL own ret fr lo) {x y : Int32} {off : Int} (tgt : Nat) (d : decode cc pc = .ok (.if_icmp .ge off, 3)) (ht : (pc : Int) + off = (tgt : Int)) (hc : ¬ y ≤ x) (kf : V E G nL T M (pc + 3) lv st) : V E G nL T M pc lv (.int y :: .int x :: st) :=
  V.icmp_ge C tgt d ht (fun h => by first | exact absurd h hc | exact absurd hc (by simpa using h)) (fun _ => kf)
theorem V.if_ge (C : dk_Cx E G cc nL own ret fr lo) {x : Int32} {off : Int} (tgt : Nat) (d : decode cc pc = .ok (.ifCond .ge off, 3)) (ht : (pc : Int) + off = (tgt : Int)) (kt : 0 ≤ x → V E G nL T M tgt lv st) (kf : ¬ 0 ≤ x → V E G nL T M (pc + 3) lv st) : V E G nL T M pc lv (.int x :: st) := by
  obtain ⟨p, l, e, R, s, m, args, below, meth, c, z⟩ := E
  intro H locs ls hR hz hS hl
  exact lv_if_ge C.1 C.2.1 d ht (fun h => kt h H locs ls hR hz hS hl) (fun h => kf h H locs ls hR hz hS hl)
theorem V.if_ge_t (C : dk_Cx E G cc nL own ret fr lo) {x : Int32} {off : Int} (tgt : Nat) (d : decode cc pc = .ok (.ifCond .ge off, 3)) (ht : (pc : Int) + off = (tgt : Int)) (hc : 0 ≤ x) (kt : V E G nL T M tgt lv st) : V E G nL T M pc lv (.int x :: st) :=
  V.if_ge C tgt d ht (fun _ => kt) (fun h => by first | exact absurd hc h | exact absurd h (by simpa using hc))
theorem V.if_ge_f (C : dk_Cx E G cc nL own ret fr lo) {x : Int32} {off : Int} (tgt : Nat) (d : decode cc pc = .ok (.ifCond .ge off, 3)) (ht : (pc : Int) + off = (tgt : Int)) (hc : ¬ 0 ≤ x) (kf : V E G nL T M (pc + 3) lv st) : V E G nL T M pc lv (.int x :: st) :=
  V.if_ge C tgt d ht (fun h => by first | exact absurd h hc | exact absurd hc (by simpa using h)) (fun _ => kf)
theorem V.icmp_gt (C : dk_Cx E G cc nL own ret fr lo) {x y : Int32} {off : Int} (tgt : Nat) (d : decode cc pc = .ok (.if_icmp .gt off, 3)) (ht : (pc : Int) + off = (tgt : Int)) (kt : y < x → V E G nL T M tgt lv st) (kf : ¬ y < x → V E G nL T M (pc + 3) lv st) : V E G nL T M pc lv (.int y :: .int x :: st) := by
  obtain ⟨p, l, e, R, s, m, args, below, meth, c, z⟩ := E
  intro H locs ls hR hz hS hl
  exact lv_icmp_gt C.1 C.2.1 d ht (fun h => kt h H locs ls hR hz hS hl) (fun h => kf h H locs ls hR hz hS hl)
theorem V.icmp_gt_t (C : dk_Cx E G cc nL own ret fr lo) {x y : Int32} {off : Int} (tgt : Nat) (d : decode cc pc = .ok (.if_icmp .gt off, 3)) (ht : (pc : Int) + off = (tgt : Int)) (hc : y < x) (kt : V E G nL T M tgt lv st) : V E G nL T M pc lv (.int y :: .int x :: st) :=
  V.icmp_gt C tgt d ht (fun _ => kt) (fun h => by first | exact absurd hc h | exact absurd h (by simpa using hc))
theorem V.icmp_gt_f (C : dk_Cx E G cc nL own ret fr lo) {x y : Int32} {off : Int} (tgt : Nat) (d : decode cc pc = .ok (.if_icmp .gt off, 3)) (ht : (pc : Int) + off = (tgt : Int)) (hc : ¬ y < x) (kf : V E G nL T M (pc + 3) lv st) : V E G nL T M pc lv (.int y :: .int x :: st) :=
  V.icmp_gt C tgt d ht (fun h => by first | exact absurd h hc | exact absurd hc (by simpa using h)) (fun _ => kf)
theorem V.if_gt (C : dk_Cx E G cc nL own ret fr lo) {x : Int32} {off : Int} (tgt : Nat) (d : decode cc pc = .ok (.ifCond .gt off, 3)) (ht : (pc : Int) + off = (tgt : Int)) (kt : 0 < x → V E G nL T M tgt lv st) (kf : ¬ 0 < x → V E G nL T M (pc + 3) lv st) : V E G nL T M pc lv (.int x :: st) := by
  obtain ⟨p, l, e, R, s, m, args, below, meth, c, z⟩ := E
  intro H locs ls hR hz hS hl
  exact lv_if_gt C.1 C.2.1 d ht (fun h => kt h H locs ls hR hz hS hl) (fun h => kf h H locs ls hR hz hS hl)
theorem V.if_gt_t (C : dk_Cx E G cc nL own ret fr lo) {x : Int32} {off : Int} (tgt : Nat) (d : decode cc pc = .ok (.ifCond .gt off, 3)) (ht : (pc : Int) + off = (tgt : Int)) (hc : 0 < x) (kt : V E G nL T M tgt lv st) : V E G nL T M pc lv (.int x :: st) :=
  V.if_gt C tgt d ht (fun _ => kt) (fun h => by first | exact absurd hc h | exact absurd h (by simpa using hc))
theorem V.if_gt_f (C : dk_Cx E G cc nL own ret fr lo) {x : Int32} {off : Int} (tgt : Nat) (d : decode cc pc = .ok (.ifCond .gt off, 3)) (ht : (pc : Int) + off = (tgt : Int)) (hc : ¬ 0 < x) (kf : V E G nL T M (pc + 3) lv st) : V E G nL T M pc lv (.int x :: st) :=
  V.if_gt C tgt d ht (fun h => by first | exact absurd h hc | exact absurd hc (by simpa using h)) (fun _ => kf)
theorem V.icmp_le (C : dk_Cx E G cc nL own ret fr lo) {x y : Int32} {off : Int} (tgt : Nat) (d : decode cc pc = .ok (.if_icmp .le off, 3)) (ht : (pc : Int) + off = (tgt : Int)) (kt : x ≤ y → V E G nL T M tgt lv st) (kf : ¬ x ≤ y → V E G nL T M (pc + 3) lv st) : V E G nL T M pc lv (.int y :: .int x :: st) := by
  obtain ⟨p, l, e, R, s, m, args, below, meth, c, z⟩ := E
  intro H locs ls hR hz hS hl
  exact lv_icmp_le C.1 C.2.1 d ht (fun h => kt h H locs ls hR hz hS hl) (fun h => kf h H locs ls hR hz hS hl)
theorem V.icmp_le_t (C : dk_Cx E G cc nL own ret fr lo) {x y : Int32} {off : Int} (tgt : Nat) (d : decode cc pc = .ok (.if_icmp .le off, 3)) (ht : (pc : Int) + off = (tgt : Int)) (hc : x ≤ y) (kt : V E G nL T M tgt lv st) : V E G nL T M pc lv (.int y :: .int x :: st) :=
  V.icmp_le C tgt d ht (fun _ => kt) (fun h => by first | exact absurd hc h | exact absurd h (by simpa using hc))
theorem V.icmp_le_f (C : dk_Cx E G cc nL own ret fr lo) {x y : Int32} {off : Int} (tgt : Nat) (d : decode cc pc = .ok (.if_icmp .le off, 3)) (ht : (pc : Int) + off = (tgt : Int)) (hc : ¬ x ≤ y) (kf : V E G nL T M (pc + 3) lv st) : V E G nL T M pc lv (.int y :: .int x :: st) :=
  V.icmp_le C tgt d ht (fun h => by first | exact absurd h hc | exact absurd hc (by simpa using h)) (fun _ => kf)
theorem V.if_le (C : dk_Cx E G cc nL own ret fr lo) {x : Int32} {off : Int} (tgt : Nat) (d : decode cc pc = .ok (.ifCond .le off, 3)) (ht : (pc : Int) + off = (tgt : Int)) (kt : x ≤ 0 → V E G nL T M tgt lv st) (kf : ¬ x ≤ 0 → V E G nL T M (pc + 3) lv st) : V E G nL T M pc lv (.int x :: st) := by
  obtain ⟨p, l, e, R, s, m, args, below, meth, c, z⟩ := E
  intro H locs ls hR hz hS hl
  exact lv_if_le C.1 C.2.1 d ht (fun h => kt h H locs ls hR hz hS hl) (fun h => kf h H locs ls hR hz hS hl)
theorem V.if_le_t (C : dk_Cx E G cc nL own ret fr lo) {x : Int32} {off : Int} (tgt : Nat) (d : decode cc pc = .ok (.ifCond .le off, 3)) (ht : (pc : Int) + off = (tgt : Int)) (hc : x ≤ 0) (kt : V E G nL T M tgt lv st) : V E G nL T M pc lv (.int x :: st) :=
  V.if_le C tgt d ht (fun _ => kt) (fun h => by first | exact absurd hc h | exact absurd h (by simpa using hc))
theorem V.if_le_f (C : dk_Cx E G cc nL own ret fr lo) {x : Int32} {off : Int} (tgt : Nat) (d : decode cc pc = .ok (.ifCond .le off, 3)) (ht : (pc : Int) + off = (tgt : Int)) (hc : ¬ x ≤ 0) (kf : V E G nL T M (pc + 3) lv st) : V E G nL T M pc lv (.int x :: st) :=
  V.if_le C tgt d ht (fun h => by first | exact absurd h hc | exact absurd hc (by simpa using h)) (fun _ => kf)
/-! the memory -/
theorem dk_put_ne {M : dkM} {o k o' : Nat} {x : Int32} (h : o' ≠ o) : dk_put M o k x o' = M o' := by funext b; simp [dk_put, h]
theorem dk_cell_congr {G : dkG} {M M' : dkM} {o : Nat} (h : M' o = M o) : dk_cell G M' o = dk_cell G M o := by unfold dk_cell; simp only [h]
theorem dk_Rep.one {H : Heap} {o : Nat} {q : va_E} (hR : dk_Rep G M H) (hS : G.2.1 o) (h : dk_cell G M o = q) : va_P G.2.2.1 vwCl [(G.1 + o, q)] H := by
  intro k x hx
  cases k with
  | zero => cases hx; rw [← h]; exact hR o hS
  | succ k => simp at hx
theorem dk_Rep.put {H H1 : Heap} {o k : Nat} {x : Int32} (hR : dk_Rep G M H) (h1 : va_at G.2.2.1 vwCl (G.1 + o, dk_cell G (dk_put M o k x) o) H1) (oq : ∀ q : Nat, q ≠ G.1 + o → H1[q]? = H[q]?) : dk_Rep G (dk_put M o k x) H1 := by
  intro o' hS'
  by_cases h : o' = o
  · subst h; exact h1
  · rw [dk_cell_congr (dk_put_ne h)]
    exact (hR o' hS').kept (oq _ (fun z => h (by simpa using z)))
theorem V.getf (C : dk_Cx E G cc nL own ret fr lo) {o ci k N idx : Nat} {Cn : String} {Tn : u_T} {fs : List Value} {v : Value} (hS : G.2.1 o) (hcell : dk_cell G M o = .inr (ci, fs)) (hin : ∀ w ∈ u_ws Cn Tn N, w ∈ dk_tbl) (hc : vwCl[ci]? = some (Cn, Tn, N)) (hk : k < N)
    (hlink : Cond.fieldLink own idx (Tn k).1 (Tn k).2.1 (Tn k).2.2.1 ∈ dk_tbl) (hv : fs[k]? = some v) (d : decode cc pc = .ok (.getfield idx, 3)) (kk : V E G nL T M (pc + 3) lv (v :: st)) : V E G nL T M pc lv (.ref (G.1 + o) :: st) := by
  refine V.of kk ?_
  obtain ⟨p, l, e, R, s, m, args, below, meth, c, z⟩ := E
  exact fun H locs ls Q hR hl w => va_get (D := G.2.2.1) (ci := ci) (v := v) (C := Cn) (T := Tn) (N := N) C.1 C.2.1 C.2.2.2.2.1 hin C.2.2.2.1 C.2.2.2.2.2.2.2.1 (hR.one hS hcell) 0 rfl hc k hk (C.2.2.2.2.1 _ hlink) (fun _ h9 => h9) hv d (w ls hl)
theorem V.putf (C : dk_Cx E G cc nL own ret fr lo) {o ci k N idx : Nat} {Cn : String} {Tn : u_T} {fs : List Value} {x : Int32} {ty : FieldType} (hS : G.2.1 o) (hcell : dk_cell G M o = .inr (ci, fs)) (hcell' : dk_cell G (dk_put M o k x) o = .inr (ci, fs.set k (.int x))) (hin : ∀ w ∈ u_ws Cn Tn N, w ∈ dk_tbl) (hc : vwCl[ci]? = some (Cn, Tn, N))
    (ty0 : Nat → FieldType) (hty : ∀ k, k < N → parseFieldDescriptor (Tn k).2.2.1 = some (ty0 k)) (hnm : ∀ a, a < N → ∀ b, b < N → a ≠ b → (Tn a).2.1 ≠ (Tn b).2.1) (hk : k < N) (hl : k < fs.length)
    (hlink : Cond.fieldLink own idx (Tn k).1 (Tn k).2.1 (Tn k).2.2.1 ∈ dk_tbl) (hfin : (Tn k).2.2.2 = false) (hd : parseFieldDescriptor (Tn k).2.2.1 = some ty) (hn : narrow ty (.int x) = .int x) (hfit : fits ty (.int x) = true) (d : decode cc pc = .ok (.putfield idx, 3)) (kk : V E G nL T (dk_put M o k x) (pc + 3) lv st) : V E G nL T M pc lv (.int x :: .ref (G.1 + o) :: st) := by
  obtain ⟨p, l, e, R, s, m, args, below, meth, c, z⟩ := E
  intro H locs ls hR hz hSt hls
  have hts := C.2.2.2.2.1
  have hown := C.2.2.2.1
  have hK : va_K G.2.2.1 vwCl (dk_tys G) s := C.2.2.2.2.2.2.2.1
  have hap := va_apart (own := own) hts hin ty0 hty hnm hK hc
  have hP := hR.one hS hcell
  obtain ⟨r, h1, cell, q1, q2, q3, q4⟩ := hP 0 _ rfl
  have hr : r = (Cn, Tn, N) := Option.some.inj (h1.symm.trans hc)
  subst hr
  obtain ⟨hSl, hfc, kC, hkC, hkind⟩ := hK.1 ci _ hc
  obtain ⟨cf, kf, fi, f, hi, hsl⟩ := hSl k hk
  have hlay := hts _ (hin _ (u_in_lay hk))
  unfold u_lay at hlay
  rw [if_neg (by rw [hfin]; decide)] at hlay
  have hst := (u_facts hfc hkC (u_lays hts hin hk) hi).1
  have h6 := u_store hfc hkC hkind hlay hi hd hn hfit
  refine W.putK C.1 C.2.1 (f := f) ⟨hown, hts _ hlink, ⟨_, _, _, hi⟩, hst⟩ (by rw [q2]; exact h6) q1 q3 (by rw [hsl]; exact k2_hasslot (q4 k hk)) rfl rfl d fun H' e1 e2 e3 => ?_
  rw [hsl] at e1 ⊢
  refine kk H' _ ls (hR.put ?_ e3) (by rw [e2]; exact hz) (hSt.put e2 e3 (C.2.2.2.2.2.2.2.2.2.2.1 _ ⟨o, hS, rfl⟩)) hls
  rw [hcell']
  exact ⟨_, hc, t_OB.to (V := updV (vp_V fs) k (.int x)) ⟨_, e1, q2, q3, t_set q4 hap hk _⟩ (fun j _ => vp_updV_set hl _ j)⟩
theorem dk_cell6 {o n : Nat} (hk : dk_kd o = 6) (hal : dk_al o = n) : dk_cell G M o = .inl (G.2.2.2.1, n, .inl (M o)) := by simp [dk_cell, hk, hal]
theorem V.iald (C : dk_Cx E G cc nL own ret fr lo) {o n : Nat} {i : Int32} (hS : G.2.1 o) (hk : dk_kd o = 6) (hal : dk_al o = n) (hin : vp_in i n) (d : decode cc pc = .ok (.iaload, 1)) (kk : V E G nL T M (pc + 1) lv (.int (M o i.toNatClampNeg) :: st)) : V E G nL T M pc lv (.int i :: .ref (G.1 + o) :: st) := by
  refine V.of kk ?_
  obtain ⟨p, l, e, R, s, m, args, below, meth, c, z⟩ := E
  exact fun H locs ls Q hR hl w => va_iald (D := G.2.2.1) (tys := dk_tys G) C.1 C.2.1 C.2.2.2.2.2.2.2.1 (hR.one hS (dk_cell6 hk hal)) 0 0 rfl rfl hin d (w ls hl)
theorem V.ialdN (C : dk_Cx E G cc nL own ret fr lo) {o n : Nat} {i : Int32} (j : Nat) (hS : G.2.1 o) (hk : dk_kd o = 6) (hal : dk_al o = n) (hi : i = nI j) (hj : j < n ∧ n < 2 ^ 31) (d : decode cc pc = .ok (.iaload, 1)) (kk : V E G nL T M (pc + 1) lv (.int (M o j) :: st)) : V E G nL T M pc lv (.int i :: .ref (G.1 + o) :: st) := by
  subst hi
  refine V.iald C hS hk hal (vp_in_nI hj.1 hj.2) d ?_
  rw [nI_clamp (Nat.lt_trans hj.1 hj.2)]
  exact kk
theorem V.iast (C : dk_Cx E G cc nL own ret fr lo) {o n : Nat} {i x : Int32} (hS : G.2.1 o) (hk : dk_kd o = 6) (hal : dk_al o = n) (hin : vp_in i n) (d : decode cc pc = .ok (.iastore, 1)) (kk : V E G nL T (dk_put M o i.toNatClampNeg x) (pc + 1) lv st) : V E G nL T M pc lv (.int x :: .int i :: .ref (G.1 + o) :: st) := by
  obtain ⟨p, l, e, R, s, m, args, below, meth, c, z⟩ := E
  intro H locs ls hR hz hSt hls
  have hK : va_K G.2.2.1 vwCl (dk_tys G) s := C.2.2.2.2.2.2.2.1
  have hP := hR.one hS (dk_cell6 hk hal)
  refine W.iast C.1 C.2.1 (hP 0 _ rfl) ((hK.2 0 _ rfl).1 n (fun j => .int (M o j))) (fun q => by cases q) (by show ¬ (i < 0 ∨ (arrV _ _ _).slots.size ≤ _); rw [arrV_size]; exact hin) rfl rfl d fun H1 e1 zz oq => ?_
  refine kk H1 _ ls (hR.put ?_ oq) (by rw [zz]; exact hz) (hSt.put zz oq (C.2.2.2.2.2.2.2.2.2.2.1 _ ⟨o, hS, rfl⟩)) hls
  rw [dk_cell6 hk hal]
  show H1[G.1 + o]? = some (vp_cell _ _)
  rw [e1]
  rw [vp_cell_i, vp_cell_i, arrV_store]
  congr 2
  funext q
  by_cases hq : q = i.toNatClampNeg
  · subst hq
    simp [updV, dk_put]
  · simp [updV, dk_put, hq]
theorem V.iastN (C : dk_Cx E G cc nL own ret fr lo) {o n : Nat} {i x : Int32} (j : Nat) (hS : G.2.1 o) (hk : dk_kd o = 6) (hal : dk_al o = n) (hi : i = nI j) (hj : j < n ∧ n < 2 ^ 31) (d : decode cc pc = .ok (.iastore, 1)) (kk : V E G nL T (dk_put M o j x) (pc + 1) lv st) : V E G nL T M pc lv (.int x :: .int i :: .ref (G.1 + o) :: st) := by
  subst hi
  refine V.iast C hS hk hal (vp_in_nI hj.1 hj.2) d ?_
  rw [nI_clamp (Nat.lt_trans hj.1 hj.2)]
  exact kk
theorem V.alen (C : dk_Cx E G cc nL own ret fr lo) {o n : Nat} (hS : G.2.1 o) (hk : dk_kd o = 6) (hal : dk_al o = n) (d : decode cc pc = .ok (.arraylength, 1)) (kk : V E G nL T M (pc + 1) lv (.int (nI n) :: st)) : V E G nL T M pc lv (.ref (G.1 + o) :: st) := by
  refine V.of kk ?_
  obtain ⟨p, l, e, R, s, m, args, below, meth, c, z⟩ := E
  exact fun H locs ls Q hR hl w => va_alen (D := G.2.2.1) (tys := dk_tys G) C.1 C.2.1 C.2.2.2.2.2.2.2.1 (hR.one hS (dk_cell6 hk hal)) 0 0 rfl rfl rfl d (w ls hl)
theorem dk_cell7 {o : Nat} (hk : dk_kd o = 7) : dk_cell G M o = .inl (G.2.2.2.2.1, 7, .inr (.inr (.inr (.inr (fun i => if i < 7 then some (G.1 + (o + 1 + 11 * i)) else none))))) := by simp [dk_cell, hk]
theorem V.alen7 (C : dk_Cx E G cc nL own ret fr lo) {o : Nat} (hS : G.2.1 o) (hk : dk_kd o = 7) (d : decode cc pc = .ok (.arraylength, 1)) (kk : V E G nL T M (pc + 1) lv (.int (nI 7) :: st)) : V E G nL T M pc lv (.ref (G.1 + o) :: st) := by
  refine V.of kk ?_
  obtain ⟨p, l, e, R, s, m, args, below, meth, c, z⟩ := E
  exact fun H locs ls Q hR hl w => va_alen (D := G.2.2.1) (tys := dk_tys G) C.1 C.2.1 C.2.2.2.2.2.2.2.1 (hR.one hS (dk_cell7 hk)) 0 1 rfl rfl rfl d (w ls hl)
theorem V.aald (C : dk_Cx E G cc nL own ret fr lo) {o j : Nat} (hS : G.2.1 o) (hk : dk_kd o = 7) (hj : j < 7) (d : decode cc pc = .ok (.aaload, 1)) (kk : V E G nL T M (pc + 1) lv (.ref (G.1 + (o + 1 + 11 * j)) :: st)) : V E G nL T M pc lv (.int (nI j) :: .ref (G.1 + o) :: st) := by
  refine V.of kk ?_
  obtain ⟨p, l, e, R, s, m, args, below, meth, c, z⟩ := E
  refine fun H locs ls Q hR hl w => va_aldq (D := G.2.2.1) (tys := dk_tys G) C.1 C.2.1 C.2.2.2.2.2.2.2.1 (hR.one hS (dk_cell7 hk)) 0 1 rfl rfl (vp_in_nI hj (by decide)) d ?_
  rw [nI_clamp (Nat.lt_trans hj (by decide)), if_pos hj]
  exact w ls hl
/-! returns -/
theorem V.iret (C : dk_Cx E G cc nL own (some .int) fr lo) {x : Int32} (h : T = (some (.int x), M)) (d : decode cc pc = .ok (.ireturn, 1)) : V E G nL T M pc lv [.int x] := by
  obtain ⟨p, l, e, R, s, m, args, below, meth, c, z⟩ := E
  intro H locs ls hR hz hSt hls
  obtain ⟨hA, hB, Po, hPo, hq⟩ := C.2.2.2.2.2.2.2.2.2.2
  show W p l e R s m args below meth c H locs z.1 z.2.1 (z.2.2.2 T) _
  rw [hPo T]
  exact W.widen hB.1 hB.2 (W.iret (v := x) C.1 C.2.1 C.2.2.2.2.2.2.1 (fun t ht hW => by have h9 := hq T H t (by rw [h]; exact hR) hz.2 ⟨hSt.1, hSt.2.1, fun _ z => by cases z⟩ ht; rw [h] at h9 ⊢; exact h9) hSt.2.2 d C.2.2.2.2.2.1)
theorem V.zret (C : dk_Cx E G cc nL own (some .boolean) fr lo) {x : Int32} (h : T = (some (.int x), M)) (hx : x = 0 ∨ x = 1) (d : decode cc pc = .ok (.ireturn, 1)) : V E G nL T M pc lv [.int x] := by
  obtain ⟨p, l, e, R, s, m, args, below, meth, c, z⟩ := E
  intro H locs ls hR hz hSt hls
  obtain ⟨hA, hB, Po, hPo, hq⟩ := C.2.2.2.2.2.2.2.2.2.2
  show W p l e R s m args below meth c H locs z.1 z.2.1 (z.2.2.2 T) _
  rw [hPo T]
  exact W.widen hB.1 hB.2 (W.zret (v := x) C.1 C.2.1 C.2.2.2.2.2.2.1 (by rcases hx with rfl | rfl <;> rfl) (fun t ht hW => by have h9 := hq T H t (by rw [h]; exact hR) hz.2 ⟨hSt.1, hSt.2.1, fun _ z => by cases z⟩ ht; rw [h] at h9 ⊢; exact h9) hSt.2.2 d C.2.2.2.2.2.1)
theorem V.lret (C : dk_Cx E G cc nL own (some .long) fr lo) {x : Int64} (h : T = (some (.long x), M)) (d : decode cc pc = .ok (.lreturn, 1)) : V E G nL T M pc lv [.long x] := by
  obtain ⟨p, l, e, R, s, m, args, below, meth, c, z⟩ := E
  intro H locs ls hR hz hSt hls
  obtain ⟨hA, hB, Po, hPo, hq⟩ := C.2.2.2.2.2.2.2.2.2.2
  show W p l e R s m args below meth c H locs z.1 z.2.1 (z.2.2.2 T) _
  rw [hPo T]
  exact W.widen hB.1 hB.2 (W.lret (v := x) C.1 C.2.1 C.2.2.2.2.2.2.1 (fun t ht hW => by have h9 := hq T H t (by rw [h]; exact hR) hz.2 ⟨hSt.1, hSt.2.1, fun _ z => by cases z⟩ ht; rw [h] at h9 ⊢; exact h9) hSt.2.2 d C.2.2.2.2.2.1)
theorem V.aret (C : dk_Cx E G cc nL own (some (.object "DiskRekeying$Disk")) fr lo) {a : Nat} (h : T = (some (.ref a), M)) (d : decode cc pc = .ok (.areturn, 1)) : V E G nL T M pc lv [.ref a] := by
  obtain ⟨p, l, e, R, s, m, args, below, meth, c, z⟩ := E
  intro H locs ls hR hz hSt hls
  obtain ⟨hA, hB, Po, hPo, hq⟩ := C.2.2.2.2.2.2.2.2.2.2
  show W p l e R s m args below meth c H locs z.1 z.2.1 (z.2.2.2 T) _
  rw [hPo T]
  exact W.widen hB.1 hB.2 (W.aret (v := .ref a) C.1 C.2.1 C.2.2.2.2.2.2.1 (Or.inl ⟨_, rfl⟩) (Or.inr ⟨a, rfl⟩) (fun t ht hW => by have h9 := hq T H t (by rw [h]; exact hR) hz.2 ⟨hSt.1, hSt.2.1, fun _ z => by cases z⟩ ht; rw [h] at h9 ⊢; exact h9) hSt.2.2 d C.2.2.2.2.2.1)
theorem V.vret (C : dk_Cx E G cc nL own none fr lo) (h : T = (none, M)) (d : decode cc pc = .ok (.return_, 1)) : V E G nL T M pc lv [] := by
  obtain ⟨p, l, e, R, s, m, args, below, meth, c, z⟩ := E
  intro H locs ls hR hz hSt hls
  obtain ⟨hA, hB, Po, hPo, hq⟩ := C.2.2.2.2.2.2.2.2.2.2
  show W p l e R s m args below meth c H locs z.1 z.2.1 (z.2.2.2 T) _
  rw [hPo T]
  exact W.widen hB.1 hB.2 (W.vret C.1 C.2.1 C.2.2.2.2.2.2.1 (fun t ht hW => by have h9 := hq T H t (by rw [h]; exact hR) hz.2 ⟨hSt.1, hSt.2.1, fun _ z => by cases z⟩ ht; rw [h] at h9 ⊢; exact h9) hSt.2.2 d C.2.2.2.2.2.1)
theorem V.ifnull (C : dk_Cx E G cc nL own ret fr lo) {off : Int} {a : Nat} (d : decode cc pc = .ok (.ifnull off, 3)) (kk : V E G nL T M (pc + 3) lv st) : V E G nL T M pc lv (.ref a :: st) := by
  refine V.of kk ?_
  obtain ⟨p, l, e, R, s, m, args, below, meth, c, z⟩ := E
  exact fun H locs ls Q _ hl w => lv_ifnull C.1 C.2.1 d (w ls hl)
theorem V.ifnonnull (C : dk_Cx E G cc nL own ret fr lo) {off : Int} {a : Nat} (tgt : Nat) (d : decode cc pc = .ok (.ifnonnull off, 3)) (ht : (pc : Int) + off = (tgt : Int)) (kk : V E G nL T M tgt lv st) : V E G nL T M pc lv (.ref a :: st) := by
  refine V.of kk ?_
  obtain ⟨p, l, e, R, s, m, args, below, meth, c, z⟩ := E
  exact fun H locs ls Q _ hl w => lv_ifnonnull C.1 C.2.1 d ht (w ls hl)
/-! calls -/
theorem dk_goodIn {y : MethodName} {cc : ByteArray} {nL : Nat} {ret : Option FieldType} (hc : Cond.code y cc nL ret ∈ dk_tbl) : GoodIn dk_tbl (.code y cc nL ret :: dk_tbl) := by
  have hg := List.all_eq_true.mp dk_good
  intro w hw
  rcases List.mem_cons.mp hw with rfl | hw
  · exact ⟨hc, good_of_word (hg _ hc)⟩
  · exact ⟨hw, good_of_word (hg _ hw)⟩
theorem dk_good4 {own C : String} {idx : Nat} {y : MethodName} {ws : List Cond} (h1 : Cond.methodLink own idx y ∈ dk_tbl) (h2 : Cond.instanceMethod y ∈ dk_tbl) (h3 : Cond.selects C y y ∈ dk_tbl) (h4 : Cond.initialized C ∈ dk_tbl) (h : GoodIn dk_tbl ws) : GoodIn dk_tbl (wsV own idx C y ws) := by
  have hg := List.all_eq_true.mp dk_good
  intro w hw
  rcases List.mem_append.mp hw with hw | hw
  · simp only [List.mem_cons, List.not_mem_nil, or_false] at hw
    rcases hw with rfl | rfl | rfl | rfl
    · exact ⟨h1, good_of_word (hg _ h1)⟩
    · exact ⟨h2, good_of_word (hg _ h2)⟩
    · exact ⟨h3, good_of_word (hg _ h3)⟩
    · exact ⟨h4, good_of_word (hg _ h4)⟩
  · exact h w hw
theorem dk_good3 {own : String} {idx : Nat} {y : MethodName} {ws : List Cond} (h1 : Cond.methodLink own idx y ∈ dk_tbl) (h2 : Cond.static y ∈ dk_tbl) (h4 : Cond.initialized own ∈ dk_tbl) (h : GoodIn dk_tbl ws) : GoodIn dk_tbl (wsS own idx y ws) := by
  have hg := List.all_eq_true.mp dk_good
  intro w hw
  rcases List.mem_append.mp hw with hw | hw
  · simp only [List.mem_cons, List.not_mem_nil, or_false] at hw
    rcases hw with rfl | rfl | rfl
    · exact ⟨h1, good_of_word (hg _ h1)⟩
    · exact ⟨h2, good_of_word (hg _ h2)⟩
    · exact ⟨h4, good_of_word (hg _ h4)⟩
  · exact h w hw
theorem dk_kdC {o ci : Nat} {Cn : String} (hk : dk_kd o = ci) (hc : (vwCl[ci]?).map (fun q => q.1) = some Cn) : ∃ (r : vw_C) (fs : List Value), vwCl[ci]? = some r ∧ r.1 = Cn ∧ dk_cell G M o = .inr (ci, fs) := by
  subst hk
  have h : dk_kd o < 5 := by
    rcases Nat.lt_or_ge (dk_kd o) 5 with h | h
    · exact h
    · rw [List.getElem?_eq_none (by simpa [vwCl] using h)] at hc
      cases hc
  unfold dk_cell
  generalize dk_kd o = q at h hc ⊢
  match q, h with
  | 0, _ => exact ⟨_, _, rfl, by simpa [vwCl] using hc, rfl⟩
  | 1, _ => exact ⟨_, _, rfl, by simpa [vwCl] using hc, rfl⟩
  | 2, _ => exact ⟨_, _, rfl, by simpa [vwCl] using hc, rfl⟩
  | 3, _ => exact ⟨_, _, rfl, by simpa [vwCl] using hc, rfl⟩
  | 4, _ => exact ⟨_, _, rfl, by simpa [vwCl] using hc, rfl⟩
  | k + 5, h => omega
theorem dk_wt {l : List Value} (h : Nat.ble (l.map fun v => v.category).sum 8 = true) : (l.map fun v => v.category).sum ≤ 8 := Nat.le_of_ble_eq_true h
/-- a call of an instance method by its contract -/
theorem V.callV (C : dk_Cx E G cc nL own ret fr lo) {Cn : String} {y : MethodName} {cc' : ByteArray} {nL' n : Nat} {ret' : Option FieldType} {fr' lo' idx o ci : Nat} {As : List Value} {M2 : dkM} {r : Option Value} (hc : dk_Con E.2.1 y cc' nL' ret' fr' lo' G (.ref (G.1 + o) :: As) M (r, M2))
    (w : dk_mv Cn y cc' nL' ret' n) (hl : Cond.methodLink own idx y ∈ dk_tbl) (hS : G.2.1 o) (hk : dk_kd o = ci) (hci : (vwCl[ci]?).map (fun q => q.1) = some Cn) (hrm : Nat.ble (fr' + 1) fr = true ∧ Nat.ble (8 + (nL' + 11) + lo') lo = true) (d : decode cc pc = .ok (.invokevirtual idx, 3)) (hn : As.length = n) (hw : Nat.ble (st.map fun v => v.category).sum 8 = true)
    {stk : List Value} (hs : stk = As.reverse ++ .ref (G.1 + o) :: st) (kk : V E G nL T M2 (pc + 3) lv (r.toList ++ st)) : V E G nL T M pc lv stk := by
  subst hs
  obtain ⟨p, l, e, R, s, m, args, below, meth, c, z⟩ := E
  intro H locs ls hR hz hSt hls
  obtain ⟨hx, hb, hml, hown, hts, hlk, hret, hK, hfr, hlo, hX⟩ := C
  have hcw : CallW R s args own Cn idx y cc' nL' ret' (.code y cc' nL' ret' :: dk_tbl) { frames := fr', cells := 0, slots := 0, locals := lo' } 0 0 n := cwV n hts (dk_good4 hl w.2.1 w.2.2 w.1.2.2.2 (dk_goodIn w.1.2.2.1)) rfl rfl rfl ⟨w.1.1.1, w.1.1.2.1, w.1.1.2.2.1, w.1.1.2.2.2⟩ ⟨by rw [hfr]; exact Nat.le_of_ble_eq_true hrm.1, by rw [hlo]; exact Nat.le_of_ble_eq_true hrm.2⟩
  obtain ⟨rr, fs, e1, e2, e3⟩ := dk_kdC (G := G) (M := M) hk hci
  have hrec := va_recv hK (hR.one hS e3) e1 (q0 := 0) rfl
  rw [e2] at hrec
  have hrun := va_runV (p := p) (l := l) (e := e) (R := R) (s := s) (m := m) (args := args) (below := below) (meth := meth) (c := c) (H := H) (locs := locs) (cells := z.1) (slots := z.2.1) (As := As) (rest := st) (g := F0 m pc ls (As.reverse ++ .ref (G.1 + o) :: st)) ⟨hx, hb, hml, hown, hts⟩ hc hcw ⟨dk_blind _ _ _, hrec, fun U hU hW => ⟨rfl, by rw [hU]; exact hR, va_K.moved hW.alike hK⟩⟩ rfl hn hls.1 rfl (lv_room (dk_wt hw)) d hX.2.1
  intro T' hT' X
  obtain ⟨v, st₀, t, T2, L, h0, X', hL, q1, q2, ⟨hv, hR2, hz2, hF2⟩, stp⟩ := hrun T' hT' X
  cases hv
  obtain ⟨t2, a1, b1⟩ := kk T2.heap (locs ++ L) ls (by rw [q1]; exact hR2) (by rw [q1, hz2, h0]; exact hz) ⟨by rw [q1, hz2, h0]; exact hSt.1, fun q g1 g2 => by rw [q1, hF2.2 q (by rw [h0]; exact Nat.lt_of_lt_of_le g1 hSt.1) (fun z9 => g2 (hX.1 _ z9)), h0]; exact hSt.2.1 q g1 g2, fun q hq => by
      rcases List.mem_append.mp hq with h | h
      · exact hSt.2.2 q h
      · exact hX.1 _ (hL q h)⟩ hls T2 rfl X'
  exact ⟨t2, stp t2 a1, b1⟩
theorem V.callS (C : dk_Cx E G cc nL own ret fr lo) {y : MethodName} {cc' : ByteArray} {nL' n : Nat} {ret' : Option FieldType} {fr' lo' idx : Nat} {As : List Value} {M2 : dkM} {r : Option Value} (hc : dk_Con E.2.1 y cc' nL' ret' fr' lo' G As M (r, M2))
    (w : dk_ms own y cc' nL' ret' n) (hl : Cond.methodLink own idx y ∈ dk_tbl) (hrm : Nat.ble (fr' + 1) fr = true ∧ Nat.ble (8 + (nL' + 11) + lo') lo = true) (d : decode cc pc = .ok (.invokestatic idx, 3)) (hn : As.length = n) (hw : Nat.ble (st.map fun v => v.category).sum 8 = true)
    {stk : List Value} (hs : stk = As.reverse ++ st) (kk : V E G nL T M2 (pc + 3) lv (r.toList ++ st)) : V E G nL T M pc lv stk := by
  subst hs
  obtain ⟨p, l, e, R, s, m, args, below, meth, c, z⟩ := E
  intro H locs ls hR hz hSt hls
  obtain ⟨hx, hb, hml, hown, hts, hlk, hret, hK, hfr, hlo, hX⟩ := C
  have hcw := cwS (R := R) (s := s) (args := args) (own := own) (index := idx) (y := y) (bytes := cc') (maxL := nL') (ret := ret') (ws := .code y cc' nL' ret' :: dk_tbl) (rm := { frames := fr', cells := 0, slots := 0, locals := lo' }) (mc := 0) (ms := 0) n hts (dk_good3 hl w.2 w.1.2.2.2 (dk_goodIn w.1.2.2.1)) rfl rfl rfl ⟨w.1.1.1, w.1.1.2.1, w.1.1.2.2.1, w.1.1.2.2.2⟩ ⟨by rw [hfr]; exact Nat.le_of_ble_eq_true hrm.1, by rw [hlo]; exact Nat.le_of_ble_eq_true hrm.2⟩
  have hrun := va_runS (p := p) (l := l) (e := e) (R := R) (s := s) (m := m) (args := args) (below := below) (meth := meth) (c := c) (H := H) (locs := locs) (cells := z.1) (slots := z.2.1) (As := As) (rest := st) (g := F0 m pc ls (As.reverse ++ st)) ⟨hx, hb, hml, hown, hts⟩ hc hcw ⟨dk_blind _ _ _, fun U hU hW => ⟨rfl, by rw [hU]; exact hR, va_K.moved hW.alike hK⟩⟩ rfl hn hls.1 rfl (lv_room (dk_wt hw)) d hX.2.1
  intro T' hT' X
  obtain ⟨v, st₀, t, T2, L, h0, X', hL, q1, q2, ⟨hv, hR2, hz2, hF2⟩, stp⟩ := hrun T' hT' X
  cases hv
  obtain ⟨t2, a1, b1⟩ := kk T2.heap (locs ++ L) ls (by rw [q1]; exact hR2) (by rw [q1, hz2, h0]; exact hz) ⟨by rw [q1, hz2, h0]; exact hSt.1, fun q g1 g2 => by rw [q1, hF2.2 q (by rw [h0]; exact Nat.lt_of_lt_of_le g1 hSt.1) (fun z9 => g2 (hX.1 _ z9)), h0]; exact hSt.2.1 q g1 g2, fun q hq => by
      rcases List.mem_append.mp hq with h | h
      · exact hSt.2.2 q h
      · exact hX.1 _ (hL q h)⟩ hls T2 rfl X'
  exact ⟨t2, stp t2 a1, b1⟩
end VR
