/-! constructors: a heap that grows by cells in a fixed order; X o is what stands in the cell o, of n -/
abbrev dkX : Type := Nat → va_E
def dk_RX (G : dkG) (X : dkX) (n : Nat) (H : Heap) : Prop := H.size = G.1 + n ∧ ∀ o, o < n → va_at G.2.2.1 vwCl (G.1 + o, X o) H
def dk_up (X : dkX) (o : Nat) (e : va_E) : dkX := fun a => if a = o then e else X a
def dk_N (U : State) : Prop := va_AO RX0 U ∧ va_Nw (.methodLinkNest RX4 28 yX3_init "DiskRekeying") U
def dk_B (G : dkG) : Nat → Prop := fun q => G.1 ≤ q
def dk_PX (G : dkG) (as : List Value) (X : dkX) (n : Nat) : Array Value → State → Prop := fun av U => av = as.toArray ∧ dk_RX G X n U.heap ∧ dk_K G U ∧ dk_N U
def dk_QX (G : dkG) (X' : dkX) (n' : Nat) : Array Value → State → Outcome → State → Prop := fun _ st o t => o = .returned none ∧ dk_RX G X' n' t.heap ∧ va_F (dk_B G) st t
def dk_ConX (l : Launch) (y : MethodName) (cc : ByteArray) (nL fr lo mc ms : Nat) (G : dkG) (as : List Value) (X : dkX) (n : Nat) (X' : dkX) (n' : Nat) : Prop :=
  Met l y (.code y cc nL none :: dk_tbl) ({ frames := fr, cells := mc, slots := ms, locals := lo }) (dk_PX G as X n) (dk_QX G X' n') mc ms (dk_B G)
theorem dk_N.calling {U : State} {g : JFrame} {mk : MethodId} {a : Array Value} (h : dk_N U) : dk_N (U.calling g mk a) := ⟨va_AO.moved (u := U) (Vm.Alike.refl U.vm) h.1, va_Nw.same rfl (u := U) rfl h.2⟩
theorem dk_N.warm {s U : State} (hW : s.WarmedH U.vm) (h : dk_N s) : dk_N U := ⟨va_AO.moved hW.alike h.1, va_Nw.warmM hW h.2⟩
theorem dk_blindX (G : dkG) (as : List Value) (X : dkX) (n : Nat) : FrameBlind (dk_PX G as X n) := fun a U g mk h => ⟨h.1, h.2.1, va_K.moved (u := U) (U := U.calling g mk a) (Vm.Alike.refl U.vm) h.2.2.1, h.2.2.2.calling⟩
def VX (E : dkE) (G : dkG) (nL mc ms : Nat) (X' : dkX) (n' : Nat) (X : dkX) (n c0 s0 pc : Nat) (lv : dkL) (st : List Value) : Prop := match E with
  | (p, l, e, R, s, m, args, below, meth, c, z) => ∀ (H : Heap) (locs : List Loc) (ls : Array Slot), dk_RX G X n H → va_S (dk_B G) s.heap H locs → dk_has ls nL lv →
    W p l e R s m args below meth c H locs c0 s0 (MQ below (dk_QX G X' n') args s mc ms (dk_B G)) (F0 m pc ls st)
def dk_CX (E : dkE) (G : dkG) (cc : ByteArray) (nL : Nat) (own : String) (fr lo mc ms : Nat) : Prop := match E with
  | (p, _, _, R, s, m, args, _, meth, c, z) => p.tables.exec = Jvm.exec ∧ c.code = cc ∧ c.maxLocals = nL ∧ s.vm.findClass own = some m.cls ∧ (∀ w ∈ dk_tbl, w.before args s = true) ∧ meth.locks = false ∧ meth.sig.returnType = none ∧ dk_K G s ∧ R.frames = fr ∧ R.locals = lo ∧ R.cells = mc ∧ R.slots = ms ∧ meth.name = "<init>" ∧ dk_N s ∧ G.1 ≤ s.heap.size
theorem dk_ConX.of {l : Launch} {C : String} {y : MethodName} {cc : ByteArray} {nL np fr lo mc ms : Nat} {G : dkG} {as : List Value} {X X' : dkX} {n n' : Nat} (w : dk_mw C y cc nL none np) (hy : y.name = "<init>") (has : (lg_sl as).length ≤ nL)
    (k : ∀ E : dkE, E.2.1 = l → dk_CX E G cc nL C fr lo mc ms → VX E G nL mc ms X' n' X n 0 0 0 (dk_args 0 as) []) : dk_ConX l y cc nL fr lo mc ms G as X n X' n' := by
  refine Met.ofW (cc := cc) (maxL := nL) (ret := none) w.2.1 rfl ?_
  intro p e s m args below meth c s₁ B hml hv
  obtain ⟨rfl, hR, hK, hN⟩ := hv
  have hts := atoms_spec (ws := Cond.code y cc nL none :: dk_tbl) B.pre
  have hl := lv_entry as has
  rw [lg_entry_eq]
  have hC : dk_CX (p, l, e, ({ frames := fr, cells := mc, slots := ms, locals := lo } : Room), s, m, as.toArray, below, meth, c, (0, 0, dk_A G, fun _ _ => True)) G cc nL C fr lo mc ms := ⟨B.exec, B.bytes, hml, w.1.1 ▸ findClass_of_methodNamed B.named, fun w h => hts w (List.mem_cons_of_mem _ h), B.notSynchronized, B.returns, hK, rfl, rfl, rfl, rfl, (name_of_methodNamed B.named B.method).1.trans hy, hN, by rw [hR.1]; exact Nat.le_add_right _ _⟩
  exact k _ rfl hC s.heap [] _ hR va_S.rf ⟨hl.1, hl.2.1, fun i v h => by
    obtain ⟨w, h1, h2⟩ := dk_args_lv as 0 _ (dk_get_mem h)
    cases h1
    exact hl.2.2 _ h2⟩
section VXR
variable {E : dkE} {G : dkG} {cc : ByteArray} {nL mc ms fr lo n n' c0 s0 pc : Nat} {own : String} {X X' : dkX} {lv : dkL} {st : List Value}
theorem VX.eqX {X2 : dkX} (h : X = X2) (k : VX E G nL mc ms X' n' X2 n c0 s0 pc lv st) : VX E G nL mc ms X' n' X n c0 s0 pc lv st := h ▸ k
theorem VX.eqN {n2 c2 s2 : Nat} (h1 : n = n2) (h2 : c0 = c2) (h3 : s0 = s2) (k : VX E G nL mc ms X' n' X n2 c2 s2 pc lv st) : VX E G nL mc ms X' n' X n c0 s0 pc lv st := by subst h1; subst h2; subst h3; exact k
/-- another picture of the same cells -/
theorem VX.pic {X2 : dkX} (h : ∀ o, o < n → X o = X2 o) (k : VX E G nL mc ms X' n' X2 n c0 s0 pc lv st) : VX E G nL mc ms X' n' X n c0 s0 pc lv st := by
  obtain ⟨p, l, e, R, s, m, args, below, meth, c, z⟩ := E
  intro H locs ls hR hS hl
  exact k H locs ls ⟨hR.1, fun o ho => by rw [← h o ho]; exact hR.2 o ho⟩ hS hl
theorem VX.top {x x' : Value} (h : x = x') (k : VX E G nL mc ms X' n' X n c0 s0 pc lv (x' :: st)) : VX E G nL mc ms X' n' X n c0 s0 pc lv (x :: st) := h ▸ k
theorem VX.sub {lv' : dkL} (h : ∀ q ∈ lv', q.2 = none ∨ dk_get lv q.1 = q.2) (k : VX E G nL mc ms X' n' X n c0 s0 pc lv' st) : VX E G nL mc ms X' n' X n c0 s0 pc lv st := by
  obtain ⟨p, l, e, R, s, m, args, below, meth, c, z⟩ := E
  intro H locs ls hR hS hl
  refine k H locs ls hR hS ⟨hl.1, hl.2.1, fun i v hg => ?_⟩
  rcases h _ (dk_get_mem hg) with z | z
  · cases z
  · exact hl.2.2 i v z
theorem VX.of {lv' : dkL} {st' : List Value} {pc' : Nat} (k : VX E G nL mc ms X' n' X n c0 s0 pc' lv' st') (f : match E with
    | (p, l, e, R, s, m, args, below, meth, c, z) => ∀ (H : Heap) (locs : List Loc) (ls : Array Slot) (Q : State → Prop), dk_RX G X n H → dk_has ls nL lv → (∀ ls' : Array Slot, dk_has ls' nL lv' → W p l e R s m args below meth c H locs c0 s0 Q (F0 m pc' ls' st')) → W p l e R s m args below meth c H locs c0 s0 Q (F0 m pc ls st)) : VX E G nL mc ms X' n' X n c0 s0 pc lv st := by
  obtain ⟨p, l, e, R, s, m, args, below, meth, c, z⟩ := E
  intro H locs ls hR hS hl
  exact f H locs ls _ hR hl (fun ls' hl' => k H locs ls' hR hS hl')
theorem VX.iload_n (C : dk_CX E G cc nL own fr lo mc ms) {k : Fin 4} {x : Int32} (d : decode cc pc = .ok (.iload_n k, 1)) (hg : dk_get lv k = some (.int x)) (kk : VX E G nL mc ms X' n' X n c0 s0 (pc + 1) lv (.int x :: st)) : VX E G nL mc ms X' n' X n c0 s0 pc lv st := by
  refine VX.of kk ?_
  obtain ⟨p, l, e, R, s, m, args, below, meth, c, z⟩ := E
  exact fun H locs ls Q _ hl w => lv_iload_n C.1 C.2.1 d rfl (hl.at hg) (w ls hl)
theorem VX.aload_n (C : dk_CX E G cc nL own fr lo mc ms) {k : Fin 4} {x : Nat} (d : decode cc pc = .ok (.aload_n k, 1)) (hg : dk_get lv k = some (.ref x)) (kk : VX E G nL mc ms X' n' X n c0 s0 (pc + 1) lv (.ref x :: st)) : VX E G nL mc ms X' n' X n c0 s0 pc lv st := by
  refine VX.of kk ?_
  obtain ⟨p, l, e, R, s, m, args, below, meth, c, z⟩ := E
  exact fun H locs ls Q _ hl w => lv_aload_n C.1 C.2.1 d rfl (hl.at hg) (w ls hl)
theorem VX.istore_n (C : dk_CX E G cc nL own fr lo mc ms) {k : Fin 4} {x : Int32} (d : decode cc pc = .ok (.istore_n k, 1)) (hn : Nat.ble (k.val + 1) nL = true) (hc : dk_chk lv k = true) (kk : VX E G nL mc ms X' n' X n c0 s0 (pc + 1) ((k.val, some (.int x)) :: lv) st) : VX E G nL mc ms X' n' X n c0 s0 pc lv (.int x :: st) := by
  refine VX.of kk ?_
  obtain ⟨p, l, e, R, s, m, args, below, meth, c, z⟩ := E
  exact fun H locs ls Q _ hl w => lv_istore_n C.1 C.2.1 d rfl hl.lv (Nat.le_of_ble_eq_true hn) rfl (fun ls' h' => w ls' (hl.set1 hc h'))
theorem VX.iinc (C : dk_CX E G cc nL own fr lo mc ms) {k : Nat} {z : Int} {x v : Int32} (d : decode cc pc = .ok (.iinc k z, 3)) (hg : dk_get lv k = some (.int x)) (hv : x + Int32.ofInt z = v) (hc : dk_chk lv k = true) (kk : VX E G nL mc ms X' n' X n c0 s0 (pc + 3) ((k, some (.int v)) :: lv) st) : VX E G nL mc ms X' n' X n c0 s0 pc lv st := by
  refine VX.of kk ?_
  obtain ⟨p, l, e, R, s, m, args, below, meth, c, z⟩ := E
  refine fun H locs ls Q _ hl w => ?_
  obtain ⟨j, hj⟩ := List.getElem?_of_mem (dk_vals_in (hl.lt hg) hg)
  exact lv_iinc C.1 C.2.1 d hl.lv hj hv (hl.lt hg) rfl (fun ls' h' => w ls' (hl.set1 hc h'))
theorem VX.iconst (C : dk_CX E G cc nL own fr lo mc ms) {z : Int} (v : Int32) (d : decode cc pc = .ok (.iconst z, 1)) (hv : Int32.ofInt z = v) (kk : VX E G nL mc ms X' n' X n c0 s0 (pc + 1) lv (.int v :: st)) : VX E G nL mc ms X' n' X n c0 s0 pc lv st := by
  refine VX.of kk ?_
  obtain ⟨p, l, e, R, s, m, args, below, meth, c, z⟩ := E
  exact fun H locs ls Q _ hl w => lv_iconst C.1 C.2.1 d hv (w ls hl)
theorem VX.bipush (C : dk_CX E G cc nL own fr lo mc ms) {z : Int} (v : Int32) (d : decode cc pc = .ok (.bipush z, 2)) (hv : (Int8.ofInt z).toInt32 = v) (kk : VX E G nL mc ms X' n' X n c0 s0 (pc + 2) lv (.int v :: st)) : VX E G nL mc ms X' n' X n c0 s0 pc lv st := by
  refine VX.of kk ?_
  obtain ⟨p, l, e, R, s, m, args, below, meth, c, z⟩ := E
  exact fun H locs ls Q _ hl w => lv_bipush C.1 C.2.1 d hv (w ls hl)
theorem VX.sipush (C : dk_CX E G cc nL own fr lo mc ms) {z : Int} (v : Int32) (d : decode cc pc = .ok (.sipush z, 3)) (hv : (Int16.ofInt z).toInt32 = v) (kk : VX E G nL mc ms X' n' X n c0 s0 (pc + 3) lv (.int v :: st)) : VX E G nL mc ms X' n' X n c0 s0 pc lv st := by
  refine VX.of kk ?_
  obtain ⟨p, l, e, R, s, m, args, below, meth, c, z⟩ := E
  exact fun H locs ls Q _ hl w => lv_sipush C.1 C.2.1 d hv (w ls hl)
theorem VX.dup (C : dk_CX E G cc nL own fr lo mc ms) {v : Value} (d : decode cc pc = .ok (.dup, 1)) (hv : v.category = 1) (kk : VX E G nL mc ms X' n' X n c0 s0 (pc + 1) lv (v :: v :: st)) : VX E G nL mc ms X' n' X n c0 s0 pc lv (v :: st) := by
  refine VX.of kk ?_
  obtain ⟨p, l, e, R, s, m, args, below, meth, c, z⟩ := E
  exact fun H locs ls Q _ hl w => lv_dup C.1 C.2.1 d hv (w ls hl)
theorem VX.goto (C : dk_CX E G cc nL own fr lo mc ms) {off : Int} (tgt : Nat) (d : decode cc pc = .ok (.goto off, 3)) (ht : (pc : Int) + off = (tgt : Int)) (kk : VX E G nL mc ms X' n' X n c0 s0 tgt lv st) : VX E G nL mc ms X' n' X n c0 s0 pc lv st := by
  refine VX.of kk ?_
  obtain ⟨p, l, e, R, s, m, args, below, meth, c, z⟩ := E
  exact fun H locs ls Q _ hl w => lv_goto C.1 C.2.1 d ht (w ls hl)
theorem VX.icmp_ge (C : dk_CX E G cc nL own fr lo mc ms) {x y : Int32} {off : Int} (tgt : Nat) (d : decode cc pc = .ok (.if_icmp .ge off, 3)) (ht : (pc : Int) + off = (tgt : Int)) (kt : y ≤ x → VX E G nL mc ms X' n' X n c0 s0 tgt lv st) (kf : ¬ y ≤ x → VX E G nL mc ms X' n' X n c0 s0 (pc + 3) lv st) : VX E G nL mc ms X' n' X n c0 s0 pc lv (.int y :: .int x :: st) := by
  obtain ⟨p, l, e, R, s, m, args, below, meth, c, z⟩ := E
  intro H locs ls hR hS hl
  exact lv_icmp_ge C.1 C.2.1 d ht (fun h => kt h H locs ls hR hS hl) (fun h => kf h H locs ls hR hS hl)
theorem VX.iadd (C : dk_CX E G cc nL own fr lo mc ms) {x y : Int32} (d : decode cc pc = .ok (.iadd, 1)) (kk : VX E G nL mc ms X' n' X n c0 s0 (pc + 1) lv (.int (x + y) :: st)) : VX E G nL mc ms X' n' X n c0 s0 pc lv (.int y :: .int x :: st) := by
  refine VX.of kk ?_
  obtain ⟨p, l, e, R, s, m, args, below, meth, c, z⟩ := E
  exact fun H locs ls Q _ hl w => lv_iadd C.1 C.2.1 d (w ls hl)
theorem VX.mmax (C : dk_CX E G cc nL own fr lo mc ms) {idx : Nat} {x y : Int32} (hl : Cond.methodLink own idx Lib.Math.max.name ∈ dk_tbl) (hrm : Nat.ble 1 fr = true ∧ Nat.ble 21 lo = true) (hcs : c0 ≤ mc ∧ s0 ≤ ms) (d : decode cc pc = .ok (.invokestatic idx, 3)) (hw : Nat.ble (st.map fun v => v.category).sum 8 = true) (kk : VX E G nL mc ms X' n' X n c0 s0 (pc + 3) lv (.int (dk_max x y) :: st)) : VX E G nL mc ms X' n' X n c0 s0 pc lv (.int y :: .int x :: st) := by
  obtain ⟨p, l, e, R, s, m, args, below, meth, c, z⟩ := E
  intro H locs ls hR hSt hls
  obtain ⟨hx, hb, hml, hown, hts, hlk, hret, hK, hfr, hlo, hmc, hms, -⟩ := C
  have h1 := dk_wt hw
  have h2 := Nat.le_of_ble_eq_true hrm.1
  have h3 := Nat.le_of_ble_eq_true hrm.2
  exact va_mmax hx hb (hml.trans hls.1.symm) hown (hts _ hl) (hts _ mmmax_s) (hts _ mmath_i) (hts _ mmmax_c) (by rw [hfr]; exact h2) (by rw [hlo]; omega) (by rw [hmc]; exact hcs.1) (by rw [hms]; exact hcs.2) d (kk H locs ls hR hSt hls)
theorem VX.objInit (C : dk_CX E G cc nL own fr lo mc ms) {idx a : Nat} (hl : Cond.methodLink own idx Lib.objectInit ∈ dk_tbl) (hrm : Nat.ble 1 fr = true ∧ Nat.ble 20 lo = true) (d : decode cc pc = .ok (.invokespecial idx, 3)) (hw : Nat.ble (st.map fun v => v.category).sum 8 = true) (kk : VX E G nL mc ms X' n' X n c0 s0 (pc + 3) lv st) : VX E G nL mc ms X' n' X n c0 s0 pc lv (.ref a :: st) := by
  obtain ⟨p, l, e, R, s, m, args, below, meth, c, z⟩ := E
  intro H locs ls hR hS hls
  obtain ⟨hx, hb, hml, hown, hts, hlk, hret, hK, hfr, hlo, -⟩ := C
  have h1 := lv_room (pc := pc) (ls := ls) (m := m) (rest := .ref a :: st) (dk_wt hw)
  have h2 := Nat.le_of_ble_eq_true hrm.1
  have h3 := Nat.le_of_ble_eq_true hrm.2
  exact W.objInit hx hb hown (hts _ hl) (hts _ mobj_m) (hts _ mobj_c) rfl (by rw [hml]; exact hls.1) rfl d (by rw [hfr]; exact h2) (by rw [hlo]; omega) (kk H locs ls hR hS hls)
theorem dk_RX.one {H : Heap} {o : Nat} {q : va_E} (hR : dk_RX G X n H) (ho : o < n) (h : X o = q) : va_P G.2.2.1 vwCl [(G.1 + o, q)] H := by
  intro k x hx
  cases k with
  | zero => cases hx; rw [← h]; exact hR.2 o ho
  | succ k => simp at hx
theorem dk_RX.set {H H1 : Heap} {o : Nat} {q : va_E} (hR : dk_RX G X n H) (h1 : va_at G.2.2.1 vwCl (G.1 + o, q) H1) (z : H1.size = H.size) (oq : ∀ a : Nat, a ≠ G.1 + o → H1[a]? = H[a]?) : dk_RX G (dk_up X o q) n H1 := by
  refine ⟨z.trans hR.1, fun o' ho' => ?_⟩
  unfold dk_up
  split
  · rename_i h; subst h; exact h1
  · rename_i h; exact (hR.2 o' ho').kept (oq _ (fun q => h (by simpa using q)))
theorem dk_RX.push {H H1 : Heap} {q : va_E} (hR : dk_RX G X n H) (h1 : va_at G.2.2.1 vwCl (G.1 + n, q) H1) (z : H1.size = G.1 + n + 1) (oq : ∀ a : Nat, a < G.1 + n → H1[a]? = H[a]?) : dk_RX G (dk_up X n q) (n + 1) H1 := by
  refine ⟨z, fun o' ho' => ?_⟩
  unfold dk_up
  split
  · rename_i h; subst h; exact h1
  · exact (hR.2 o' (by omega)).kept (oq _ (by show G.1 + o' < G.1 + n; omega))
theorem VX.new (C : dk_CX E G cc nL own fr lo mc ms) {Cn : String} {Tn : u_T} {N ci idx : Nat} {fs : List Value} (hin : ∀ w ∈ u_ws Cn Tn N, w ∈ dk_tbl) (ty : Nat → FieldType) (hty : ∀ k, k < N → parseFieldDescriptor (Tn k).2.2.1 = some (ty k)) (hcl : Cond.classLink own idx Cn ∈ dk_tbl) (hins : Cond.instantiable Cn N ∈ dk_tbl) (hini : Cond.initialized Cn ∈ dk_tbl) (hc : vwCl[ci]? = some (Cn, Tn, N)) (hfs : ∀ j, j < N → defaultValue (ty j) = vp_V fs j) (hcs : c0 + 1 ≤ mc ∧ s0 + N ≤ ms) (d : decode cc pc = .ok (.new idx, 3))
    (kk : VX E G nL mc ms X' n' (dk_up X n (.inr (ci, fs))) (n + 1) (c0 + 1) (s0 + N) (pc + 3) lv (.ref (G.1 + n) :: st)) : VX E G nL mc ms X' n' X n c0 s0 pc lv st := by
  obtain ⟨p, l, e, R, s, m, args, below, meth, c, z⟩ := E
  intro H locs ls hR hS hls
  obtain ⟨hx, hb, hml, hown, hts, hlk, hret, hK, hfr, hlo, hmc, hms, -⟩ := C
  have hK' : va_K G.2.2.1 vwCl (dk_tys G) s := hK
  have hKn := hK'.1 ci _ hc
  refine W.newcK hx hb hown (hts _ hcl) (hts _ hins) (hts _ hini) rfl d (by rw [hmc]; exact hcs.1) (by rw [hms]; exact hcs.2) hKn.2.1 hR.1 fun H1 kC hkC e1 z1 o1 => ?_
  exact kk H1 locs ls (hR.push ⟨_, hc, (u_born ty hts hin hKn hkC e1 hty).to hfs⟩ z1 o1) ⟨by rw [z1]; have := hS.1; rw [hR.1] at this; omega, fun q h1 h2 => (o1 q (by have := hS.1; rw [hR.1] at this; omega)).trans (hS.2.1 q h1 h2), hS.2.2⟩ hls
theorem VX.newi (C : dk_CX E G cc nL own fr lo mc ms) {x : Int32} {N : Nat} (hx0 : ¬ x < 0) (hN : x.toNatClampNeg = N) (hb4 : N ≤ 10000) (hcs : c0 + 1 ≤ mc ∧ s0 + N ≤ ms) (d : decode cc pc = .ok (.newarray .int, 2)) (ha : Cond.arrayClass .int ∈ dk_tbl)
    (kk : VX E G nL mc ms X' n' (dk_up X n (.inl (G.2.2.2.1, N, .inl (fun _ => 0)))) (n + 1) (c0 + 1) (s0 + N) (pc + 2) lv (.ref (G.1 + n) :: st)) : VX E G nL mc ms X' n' X n c0 s0 pc lv (.int x :: st) := by
  obtain ⟨p, l, e, R, s, m, args, below, meth, c, z⟩ := E
  intro H locs ls hR hS hls
  obtain ⟨hx, hb, hml, hown, hts, hlk, hret, hK, hfr, hlo, hmc, hms, -⟩ := C
  have hK' : va_K G.2.2.1 vwCl (dk_tys G) s := hK
  have hcI : s.vm.findClass ("[" ++ (FieldType.int).toString) = some G.2.2.2.1 := (hK'.2 0 _ rfl).2
  refine va_newaK (atype := .int) hx hb (hts _ ha) rfl d rfl hx0 hN (by show N * 4 ≤ _; omega) (by rw [hmc]; exact hcs.1) (by rw [hms]; exact hcs.2) hR.1 fun H1 cA e1 z1 o1 hAr hNm => ?_
  have hcA : cA = G.2.2.2.1 := Option.some.inj (hNm.symm.trans hcI)
  subst hcA
  exact kk H1 locs ls (hR.push e1 z1 o1) ⟨by rw [z1]; have := hS.1; rw [hR.1] at this; omega, fun q h1 h2 => (o1 q (by have := hS.1; rw [hR.1] at this; omega)).trans (hS.2.1 q h1 h2), hS.2.2⟩ hls
theorem VX.newq (C : dk_CX E G cc nL own fr lo mc ms) {x : Int32} {N idx : Nat} (hcl : Cond.classLink own idx RX0 ∈ dk_tbl) (hx0 : ¬ x < 0) (hN : x.toNatClampNeg = N) (hb4 : N ≤ 10000) (hcs : c0 + 1 ≤ mc ∧ s0 + N ≤ ms) (d : decode cc pc = .ok (.anewarray idx, 3))
    (kk : VX E G nL mc ms X' n' (dk_up X n (.inl (G.2.2.2.2.1, N, .inr (.inr (.inr (.inr (fun _ => none))))))) (n + 1) (c0 + 1) (s0 + N) (pc + 3) lv (.ref (G.1 + n) :: st)) : VX E G nL mc ms X' n' X n c0 s0 pc lv (.int x :: st) := by
  obtain ⟨p, l, e, R, s, m, args, below, meth, c, z⟩ := E
  intro H locs ls hR hS hls
  obtain ⟨hx, hb, hml, hown, hts, hlk, hret, hK, hfr, hlo, hmc, hms, -, hNs, -⟩ := C
  have hK' : va_K G.2.2.1 vwCl (dk_tys G) s := hK
  obtain ⟨kA0, comp0, k1, k2, k3, k4⟩ := (hK'.2 1 _ rfl).2
  subst hN
  refine W.anew hx hb hown (hts _ hcl) (va_AO.use hNs.1) rfl d rfl hx0 (by omega) (by rw [hmc]; exact hcs.1) (by rw [hms]; exact hcs.2) fun cA kA comp f1 f2 f3 f4 => ?_
  have hcA : cA = G.2.2.2.2.1 := Option.some.inj (f1.symm.trans k4)
  subst hcA
  generalize hH1 : H.push ({ cls := G.2.2.2.2.1, slots := Array.replicate x.toNatClampNeg .null, vm := .none } : Cell) = H1
  have z1 : H1.size = G.1 + n + 1 := by rw [← hH1, Array.size_push, hR.1]
  have e1 : H1[G.1 + n]? = some (arrV G.2.2.2.2.1 x.toNatClampNeg (fun _ => .null)) := by rw [← hH1, ← hR.1, Array.getElem?_push_size, ← arrV_new]
  have o1 : ∀ q : Nat, q < G.1 + n → H1[q]? = H[q]? := fun q hq => by rw [← hH1, Array.getElem?_push, if_neg (by rw [hR.1]; exact Nat.ne_of_lt hq)]
  rw [hR.1]
  exact kk H1 locs ls (hR.push e1 z1 o1) ⟨by rw [z1]; have := hS.1; rw [hR.1] at this; omega, fun q h1 h2 => (o1 q (by have := hS.1; rw [hR.1] at this; omega)).trans (hS.2.1 q h1 h2), hS.2.2⟩ hls
theorem va_S.set {H0 H H1 : Heap} {locs : List Loc} {o i : Nat} (hS : va_S (dk_B G) H0 H locs) (z : H1.size = H.size) (oq : ∀ a : Nat, a ≠ G.1 + o → H1[a]? = H[a]?) : va_S (dk_B G) H0 H1 (locs ++ [⟨G.1 + o, i⟩]) := hS.put z oq (Nat.le_add_right _ _)
theorem VX.getf (C : dk_CX E G cc nL own fr lo mc ms) {o ci k N idx : Nat} {Cn : String} {Tn : u_T} {fs : List Value} {v : Value} (ho : o < n) (hcell : X o = .inr (ci, fs)) (hin : ∀ w ∈ u_ws Cn Tn N, w ∈ dk_tbl) (hc : vwCl[ci]? = some (Cn, Tn, N)) (hk : k < N)
    (hlink : Cond.fieldLink own idx (Tn k).1 (Tn k).2.1 (Tn k).2.2.1 ∈ dk_tbl) (hv : fs[k]? = some v) (d : decode cc pc = .ok (.getfield idx, 3)) (kk : VX E G nL mc ms X' n' X n c0 s0 (pc + 3) lv (v :: st)) : VX E G nL mc ms X' n' X n c0 s0 pc lv (.ref (G.1 + o) :: st) := by
  refine VX.of kk ?_
  obtain ⟨p, l, e, R, s, m, args, below, meth, c, z⟩ := E
  exact fun H locs ls Q hR hl w => va_get (D := G.2.2.1) (ci := ci) (v := v) (C := Cn) (T := Tn) (N := N) C.1 C.2.1 C.2.2.2.2.1 hin C.2.2.2.1 C.2.2.2.2.2.2.2.1 (hR.one ho hcell) 0 rfl hc k hk (C.2.2.2.2.1 _ hlink) (fun _ h9 => h9) hv d (w ls hl)
theorem VX.putI (C : dk_CX E G cc nL own fr lo mc ms) {o ci k N idx : Nat} {Cn : String} {Tn : u_T} {fs : List Value} {x : Int32} {ty : FieldType} (ho : o < n) (hcell : X o = .inr (ci, fs)) (hin : ∀ w ∈ u_ws Cn Tn N, w ∈ dk_tbl) (hc : vwCl[ci]? = some (Cn, Tn, N))
    (ty0 : Nat → FieldType) (hty : ∀ k, k < N → parseFieldDescriptor (Tn k).2.2.1 = some (ty0 k)) (hnm : ∀ a, a < N → ∀ b, b < N → a ≠ b → (Tn a).2.1 ≠ (Tn b).2.1) (hk : k < N) (hl : k < fs.length)
    (hlink : Cond.fieldLink own idx (Tn k).1 (Tn k).2.1 (Tn k).2.2.1 ∈ dk_tbl) (hfin : (Tn k).2.2.2 = false) (hd : parseFieldDescriptor (Tn k).2.2.1 = some ty) (hn : narrow ty (.int x) = .int x) (hfit : fits ty (.int x) = true) (d : decode cc pc = .ok (.putfield idx, 3)) (kk : VX E G nL mc ms X' n' (dk_up X o (.inr (ci, fs.set k (.int x)))) n c0 s0 (pc + 3) lv st) : VX E G nL mc ms X' n' X n c0 s0 pc lv (.int x :: .ref (G.1 + o) :: st) := by
  obtain ⟨p, l, e, R, s, m, args, below, meth, c, z⟩ := E
  intro H locs ls hR hSt hls
  have hts := C.2.2.2.2.1
  have hown := C.2.2.2.1
  have hK : va_K G.2.2.1 vwCl (dk_tys G) s := C.2.2.2.2.2.2.2.1
  have hap := va_apart (own := own) hts hin ty0 hty hnm hK hc
  obtain ⟨r, h1, cell, q1, q2, q3, q4⟩ := hR.one ho hcell 0 _ rfl
  have hr : r = (Cn, Tn, N) := Option.some.inj (h1.symm.trans hc)
  subst hr
  obtain ⟨hSl, hfc, kC, hkC, hkind⟩ := hK.1 ci _ hc
  obtain ⟨cf, kf, fi, f, hi, hsl⟩ := hSl k hk
  have hlay := hts _ (hin _ (u_in_lay hk))
  unfold u_lay at hlay
  rw [if_neg (by rw [hfin]; decide)] at hlay
  have hst := (u_facts hfc hkC (u_lays hts hin hk) hi).1
  have h6 := u_store hfc hkC hkind hlay hi hd hn hfit
  refine W.putK C.1 C.2.1 (f := f) ⟨hown, hts _ hlink, ⟨_, _, _, hi⟩, hst⟩ (by rw [q2]; exact h6) q1 q3 (by rw [hsl]; exact k2_hasslot (q4 k hk)) rfl rfl d fun H' e1 e2 e3 => ?_
  rw [hsl] at e1 ⊢
  exact kk H' _ ls (hR.set ⟨_, hc, t_OB.to (V := updV (vp_V fs) k (.int x)) ⟨_, e1, q2, q3, t_set q4 hap hk _⟩ (fun j _ => vp_updV_set hl _ j)⟩ e2 e3) (hSt.set e2 e3) hls
theorem VX.putR (C : dk_CX E G cc nL own fr lo mc ms) {o ci k N idx a : Nat} {Cn : String} {Tn : u_T} {fs : List Value} {ty : FieldType} (ho : o < n) (hcell : X o = .inr (ci, fs)) (hin : ∀ w ∈ u_ws Cn Tn N, w ∈ dk_tbl) (hc : vwCl[ci]? = some (Cn, Tn, N))
    (ty0 : Nat → FieldType) (hty : ∀ k, k < N → parseFieldDescriptor (Tn k).2.2.1 = some (ty0 k)) (hnm : ∀ a, a < N → ∀ b, b < N → a ≠ b → (Tn a).2.1 ≠ (Tn b).2.1) (hk : k < N) (hl : k < fs.length)
    (hlink : Cond.fieldLink own idx (Tn k).1 (Tn k).2.1 (Tn k).2.2.1 ∈ dk_tbl) (hfin : (Tn k).2.2.2 = true) (hdecl : (Tn k).1 = own) (hd : parseFieldDescriptor (Tn k).2.2.1 = some ty) (hn : narrow ty (.ref a) = .ref a) (hfit : fits ty (.ref a) = true) (d : decode cc pc = .ok (.putfield idx, 3)) (kk : VX E G nL mc ms X' n' (dk_up X o (.inr (ci, fs.set k (.ref a)))) n c0 s0 (pc + 3) lv st) : VX E G nL mc ms X' n' X n c0 s0 pc lv (.ref a :: .ref (G.1 + o) :: st) := by
  obtain ⟨p, l, e, R, s, m, args, below, meth, c, z⟩ := E
  intro H locs ls hR hSt hls
  have hts := C.2.2.2.2.1
  have hown := C.2.2.2.1
  have hK : va_K G.2.2.1 vwCl (dk_tys G) s := C.2.2.2.2.2.2.2.1
  have hin2 : meth.name = "<init>" := C.2.2.2.2.2.2.2.2.2.2.2.2.1
  have hap := va_apart (own := own) hts hin ty0 hty hnm hK hc
  obtain ⟨r, h1, cell, q1, q2, q3, q4⟩ := hR.one ho hcell 0 _ rfl
  have hr : r = (Cn, Tn, N) := Option.some.inj (h1.symm.trans hc)
  subst hr
  obtain ⟨hSl, hfc, kC, hkC, hkind⟩ := hK.1 ci _ hc
  obtain ⟨cf, kf, fi, f, hi, hsl⟩ := hSl k hk
  have hlay := hts _ (hin _ (u_in_lay hk))
  unfold u_lay at hlay
  rw [if_pos hfin] at hlay
  have hst := (u_facts hfc hkC (u_lays hts hin hk) hi).1
  have hcf : m.cls = cf := by
    obtain ⟨_, _, c', _, _, _, -, -, hf', -, -, -, hown2, -⟩ := Cond.laysFinal_spec hlay
    have e1 : c' = cf := by have := hi.symm.trans hf'; simp at this; exact this.1.symm
    rw [hdecl] at hown2
    rw [← e1]; exact Option.some.inj (hown.symm.trans hown2)
  have h6 := u_fits hfc hkC hkind (Or.inr hlay) hi hd hn hfit
  refine W.putFinK C.1 C.2.1 hown (hts _ hlink) hi hst hcf hin2 (by rw [q2]; exact h6) q1 q3 (by rw [hsl]; exact k2_hasslot (q4 k hk)) rfl rfl d fun H' e1 e2 e3 => ?_
  rw [hsl] at e1 ⊢
  exact kk H' _ ls (hR.set ⟨_, hc, t_OB.to (V := updV (vp_V fs) k (.ref a)) ⟨_, e1, q2, q3, t_set q4 hap hk _⟩ (fun j _ => vp_updV_set hl _ j)⟩ e2 e3) (hSt.set e2 e3) hls
theorem VX.alenq (C : dk_CX E G cc nL own fr lo mc ms) {o N : Nat} {f : Nat → Option Nat} (ho : o < n) (hcell : X o = .inl (G.2.2.2.2.1, N, .inr (.inr (.inr (.inr f))))) (d : decode cc pc = .ok (.arraylength, 1)) (kk : VX E G nL mc ms X' n' X n c0 s0 (pc + 1) lv (.int (nI N) :: st)) : VX E G nL mc ms X' n' X n c0 s0 pc lv (.ref (G.1 + o) :: st) := by
  refine VX.of kk ?_
  obtain ⟨p, l, e, R, s, m, args, below, meth, c, z⟩ := E
  exact fun H locs ls Q hR hl w => va_alen (D := G.2.2.1) (tys := dk_tys G) C.1 C.2.1 C.2.2.2.2.2.2.2.1 (hR.one ho hcell) 0 1 rfl rfl rfl d (w ls hl)
theorem VX.aast (C : dk_CX E G cc nL own fr lo mc ms) {o N j v : Nat} {vs : List Value} {f : Nat → Option Nat} (ho : o < n) (hcell : X o = .inl (G.2.2.2.2.1, N, .inr (.inr (.inr (.inr f))))) (hv : v < n) (hcv : X v = .inr (0, vs)) (hj : j < N ∧ N < 2 ^ 31) (d : decode cc pc = .ok (.aastore, 1))
    (kk : VX E G nL mc ms X' n' (dk_up X o (.inl (G.2.2.2.2.1, N, .inr (.inr (.inr (.inr (va_up f j (some (G.1 + v))))))))) n c0 s0 (pc + 1) lv st) : VX E G nL mc ms X' n' X n c0 s0 pc lv (.ref (G.1 + v) :: .int (nI j) :: .ref (G.1 + o) :: st) := by
  obtain ⟨p, l, e, R, s, m, args, below, meth, c, z⟩ := E
  intro H locs ls hR hSt hls
  have hK : va_K G.2.2.1 vwCl (dk_tys G) s := C.2.2.2.2.2.2.2.1
  have hcl : (nI j).toNatClampNeg = j := nI_clamp (Nat.lt_trans hj.1 hj.2)
  obtain ⟨r', hr', cellV, g1, g2, g3, -⟩ := hR.one hv hcv 0 _ rfl
  have hcls := (hK.1 0 _ rfl).2
  obtain ⟨kA, comp, k1, k2, k3, -⟩ := (hK.2 1 _ rfl).2
  have hcomp : comp = G.2.2.1.1 0 := Option.some.inj (k3.symm.trans hcls.1)
  subst hcomp
  obtain ⟨kC, hkC, -⟩ := id hcls.2
  refine W.aast C.1 C.2.1 (hR.one ho hcell 0 _ rfl) (fun q h => by cases h) (fun h => by cases h) k1 k2 rfl hkC ⟨nI_pos (Nat.lt_trans hj.1 hj.2), by show _ < (arrV _ _ _).slots.size; rw [arrV_size, hcl]; exact hj.1⟩ g1 (fun q h => by rw [g3] at h; cases h) (by rw [g2]; exact hkC) (by rw [g2]; exact va_assign hcls) rfl rfl d fun H1 e z oq => ?_
  refine kk H1 _ ls (hR.set ?_ z oq) (hSt.set z oq) hls
  show H1[G.1 + o]? = some (vp_cell _ _)
  rw [e, hcl]
  rw [vp_cell_q, vp_cell_q, arrV_store]
  congr 2
  funext q
  by_cases hq : q = j
  · subst hq
    simp [updV, va_up, va_rf]
  · simp [updV, va_up, hq]
theorem VX.iast (C : dk_CX E G cc nL own fr lo mc ms) {o N j : Nat} {i x : Int32} {f : Nat → Int32} (ho : o < n) (hcell : X o = .inl (G.2.2.2.1, N, .inl f)) (hi : i = nI j) (hj : j < N ∧ N < 2 ^ 31) (d : decode cc pc = .ok (.iastore, 1))
    (kk : VX E G nL mc ms X' n' (dk_up X o (.inl (G.2.2.2.1, N, .inl (upd f j x)))) n c0 s0 (pc + 1) lv st) : VX E G nL mc ms X' n' X n c0 s0 pc lv (.int x :: .int i :: .ref (G.1 + o) :: st) := by
  subst hi
  obtain ⟨p, l, e, R, s, m, args, below, meth, c, z⟩ := E
  intro H locs ls hR hSt hls
  have hK : va_K G.2.2.1 vwCl (dk_tys G) s := C.2.2.2.2.2.2.2.1
  have hcl : (nI j).toNatClampNeg = j := nI_clamp (Nat.lt_trans hj.1 hj.2)
  refine W.iast C.1 C.2.1 (hR.one ho hcell 0 _ rfl) ((hK.2 0 _ rfl).1 N (fun j => .int (f j))) (fun q => by cases q) (by show ¬ (_ < 0 ∨ (arrV _ _ _).slots.size ≤ _); rw [arrV_size]; exact vp_in_nI hj.1 hj.2) rfl rfl d fun H1 e1 z oq => ?_
  refine kk H1 _ ls (hR.set ?_ z oq) (hSt.set z oq) hls
  show H1[G.1 + o]? = some (vp_cell _ _)
  rw [e1, hcl]
  rw [vp_cell_i, vp_cell_i, arrV_store]
  congr 2
  funext q
  by_cases hq : q = j
  · subst hq
    simp [updV, upd]
  · simp [updV, upd, hq]
theorem VX.vret (C : dk_CX E G cc nL own fr lo mc ms) (hX : ∀ o, o < n → X o = X' o) (hn : n = n') (hc : c0 = mc ∧ s0 = ms) (d : decode cc pc = .ok (.return_, 1)) : VX E G nL mc ms X' n' X n c0 s0 pc lv [] := by
  subst hn
  obtain ⟨rfl, rfl⟩ := hc
  obtain ⟨p, l, e, R, s, m, args, below, meth, c, z⟩ := E
  intro H locs ls hR hSt hls
  exact W.vret C.1 C.2.1 C.2.2.2.2.2.2.1 (fun t ht hW => ⟨rfl, by rw [ht]; exact ⟨hR.1, fun o ho => by rw [← hX o ho]; exact hR.2 o ho⟩, hSt.F ht⟩) hSt.2.2 d C.2.2.2.2.2.1
theorem VX.run {fr' lo' mc' ms' : Nat} {X2 : dkX} {n2 : Nat} {rest stk : List Value} {av : Array Value} (kk : VX E G nL mc ms X' n' X2 n2 (c0 + mc') (s0 + ms') (pc + 3) lv rest)
    (hrun : match E with
    | (p, l, e, R, s, m, args, below, meth, c, z) => ∀ (H : Heap) (locs : List Loc) (ls : Array Slot), dk_RX G X n H → dk_has ls nL lv → va_Run p l e R s m args below meth c H locs c0 s0 mc' ms' (F0 m pc ls stk) rest (dk_QX G X2 n2 av) (dk_B G)) : VX E G nL mc ms X' n' X n c0 s0 pc lv stk := by
  obtain ⟨p, l, e, R, s, m, args, below, meth, c, z⟩ := E
  intro H locs ls hR hSt hls
  intro T' hT' Y
  obtain ⟨v, st₀, t, T2, L, h0, Y', hL, q1, q2, ⟨hv, hR2, hF2⟩, stp⟩ := hrun H locs ls hR hls T' hT' Y
  cases hv
  have hz2 : H.size ≤ t.heap.size := by have := hF2.1; rw [h0] at this; exact this
  obtain ⟨t2, a1, b1⟩ := kk T2.heap (locs ++ L) ls (by rw [q1]; exact hR2) ⟨by rw [q1]; exact Nat.le_trans hSt.1 hz2, fun q g1 g2 => by rw [q1, hF2.2 q (by rw [h0]; exact Nat.lt_of_lt_of_le g1 hSt.1) g2, h0]; exact hSt.2.1 q g1 g2, fun q hq => by
      rcases List.mem_append.mp hq with h | h
      · exact hSt.2.2 q h
      · exact hL q h⟩ hls T2 rfl Y'
  exact ⟨t2, stp t2 a1, b1⟩
/-- a constructor's call -/
theorem VX.callX (C : dk_CX E G cc nL own fr lo mc ms) {Cn : String} {y : MethodName} {cc' : ByteArray} {nL' np fr' lo' mc' ms' idx o : Nat} {As : List Value} {X2 : dkX} {n2 : Nat} (hc : dk_ConX E.2.1 y cc' nL' fr' lo' mc' ms' G (.ref (G.1 + o) :: As) X n X2 n2)
    (w : dk_mi Cn y cc' nL' none np) (hy : y.name = "<init>") (hl : Cond.methodLink own idx y ∈ dk_tbl) (hrm : Nat.ble (fr' + 1) fr = true ∧ Nat.ble (8 + (nL' + 11) + lo') lo = true) (hcs : c0 + mc' ≤ mc ∧ s0 + ms' ≤ ms) (d : decode cc pc = .ok (.invokespecial idx, 3)) (hn : As.length = np) (hw : Nat.ble (st.map fun v => v.category).sum 8 = true)
    {stk : List Value} (hs : stk = As.reverse ++ .ref (G.1 + o) :: st) (kk : VX E G nL mc ms X' n' X2 n2 (c0 + mc') (s0 + ms') (pc + 3) lv st) : VX E G nL mc ms X' n' X n c0 s0 pc lv stk := by
  subst hs
  refine VX.run (av := (Value.ref (G.1 + o) :: As).toArray) (fr' := 0) (lo' := 0) kk ?_
  obtain ⟨p, l, e, R, s, m, args, below, meth, c, z⟩ := E
  intro H locs ls hR hls
  obtain ⟨hx, hb, hml, hown, hts, hlk, hret, hK, hfr, hlo, hmc, hms, -, hNs, -⟩ := C
  have hcw := cwI (R := R) (s := s) (args := args) (own := own) (index := idx) (y := y) (bytes := cc') (maxL := nL') (ws := .code y cc' nL' none :: dk_tbl) (rm := { frames := fr', cells := mc', slots := ms', locals := lo' }) (mc := mc') (ms := ms') np hts (dk_goodIn w.1.2.2.1) rfl rfl rfl (w.1.1.1 ▸ hts _ w.1.2.2.2) (hts _ hl) (hts _ w.2) hy ⟨w.1.1.2.1, w.1.1.2.2.1, w.1.1.2.2.2⟩ ⟨by rw [hfr]; exact Nat.le_of_ble_eq_true hrm.1, by rw [hlo]; exact Nat.le_of_ble_eq_true hrm.2⟩
  exact va_runI (p := p) (l := l) (e := e) (R := R) (s := s) (m := m) (args := args) (below := below) (meth := meth) (c := c) (H := H) (locs := locs) (cells := c0) (slots := s0) (As := As) (rest := st) (g := F0 m pc ls (As.reverse ++ .ref (G.1 + o) :: st)) ⟨hx, hb, hml, hown, hts⟩ hc hcw ⟨dk_blindX _ _ _ _, fun U hU hW => ⟨rfl, by rw [hU]; exact hR, va_K.moved hW.alike hK, hNs.warm hW⟩⟩ rfl hn hls.1 rfl (lv_room (dk_wt hw)) d ⟨by rw [hmc]; exact hcs.1, by rw [hms]; exact hcs.2⟩
theorem VX.callXN (C : dk_CX E G cc nL RX4 fr lo mc ms) {nL' fr' lo' mc' ms' o : Nat} {X2 : dkX} {n2 : Nat} (hc : dk_ConX E.2.1 yX3_init cX3_init nL' fr' lo' mc' ms' G [.ref (G.1 + o)] X n X2 n2)
    (w : dk_mi RX3 yX3_init cX3_init nL' none 0) (hrm : Nat.ble (fr' + 1) fr = true ∧ Nat.ble (8 + (nL' + 11) + lo') lo = true) (hcs : c0 + mc' ≤ mc ∧ s0 + ms' ≤ ms) (d : decode cc pc = .ok (.invokespecial 28, 3)) (hw : Nat.ble (st.map fun v => v.category).sum 8 = true)
    (kk : VX E G nL mc ms X' n' X2 n2 (c0 + mc') (s0 + ms') (pc + 3) lv st) : VX E G nL mc ms X' n' X n c0 s0 pc lv (.ref (G.1 + o) :: st) := by
  refine VX.run (av := (Value.ref (G.1 + o) :: []).toArray) (fr' := 0) (lo' := 0) kk ?_
  obtain ⟨p, l, e, R, s, m, args, below, meth, c, z⟩ := E
  intro H locs ls hR hls
  obtain ⟨hx, hb, hml, hown, hts, hlk, hret, hK, hfr, hlo, hmc, hms, -, hNs, -⟩ := C
  have hcw := va_cnB (R := R) (s := s) (args := args) (own := RX4) (host := "DiskRekeying") (index := 28) (y := yX3_init) (bytes := cX3_init) (maxL := nL') (ret := none) (ws := .code yX3_init cX3_init nL' none :: dk_tbl) (rm := { frames := fr', cells := mc', slots := ms', locals := lo' }) (mc := mc') (ms := ms') 0 hts (dk_goodIn w.1.2.2.1) rfl rfl rfl hNs.2 (w.1.1.1 ▸ hts _ w.1.2.2.2) ⟨w.1.1.2.1, w.1.1.2.2.1, w.1.1.2.2.2⟩ ⟨by rw [hfr]; exact Nat.le_of_ble_eq_true hrm.1, by rw [hlo]; exact Nat.le_of_ble_eq_true hrm.2⟩
  exact va_runIN (p := p) (l := l) (e := e) (R := R) (s := s) (m := m) (args := args) (below := below) (meth := meth) (c := c) (H := H) (locs := locs) (cells := c0) (slots := s0) (As := []) (rest := st) (g := F0 m pc ls (.ref (G.1 + o) :: st)) ⟨hx, hb, hml, hown, hts⟩ hc ⟨hcw, rfl, hts _ w.2⟩ ⟨dk_blindX _ _ _ _, fun U hU hW => ⟨rfl, by rw [hU]; exact hR, va_K.moved hW.alike hK, hNs.warm hW⟩⟩ rfl rfl hls.1 rfl (lv_room (dk_wt hw)) d ⟨by rw [hmc]; exact hcs.1, by rw [hms]; exact hcs.2⟩
/-- the cells from a to b as a memory has them -/
def dk_mix (G : dkG) (M : dkM) (X : dkX) (a b : Nat) : dkX := fun o => if a ≤ o ∧ o < b then dk_cell G M o else X o
abbrev dk_at (G : dkG) (a b : Nat) : dkG := (G.1, (fun o => a ≤ o ∧ o < b), G.2.2)
/-- an ordinary method's call inside a constructor: on cells that are whole -/
theorem VX.callV (C : dk_CX E G cc nL own fr lo mc ms) {Cn : String} {y : MethodName} {cc' : ByteArray} {nL' np fr' lo' idx o ci a b : Nat} {As : List Value} {M M2 : dkM} (hc : dk_Con E.2.1 y cc' nL' none fr' lo' (dk_at G a b) (.ref (G.1 + o) :: As) M (none, M2))
    (hcs : c0 ≤ mc ∧ s0 ≤ ms) (hab : b ≤ n) (hM : ∀ o, a ≤ o → o < b → X o = dk_cell G M o) (w : dk_mv Cn y cc' nL' none np) (hl : Cond.methodLink own idx y ∈ dk_tbl) (ho : a ≤ o ∧ o < b) (hk : dk_kd o = ci) (hci : (vwCl[ci]?).map (fun q => q.1) = some Cn) (hrm : Nat.ble (fr' + 1) fr = true ∧ Nat.ble (8 + (nL' + 11) + lo') lo = true) (d : decode cc pc = .ok (.invokevirtual idx, 3)) (hn : As.length = np) (hw : Nat.ble (st.map fun v => v.category).sum 8 = true)
    {stk : List Value} (hs : stk = As.reverse ++ .ref (G.1 + o) :: st) (kk : VX E G nL mc ms X' n' (dk_mix G M2 X a b) n c0 s0 (pc + 3) lv st) : VX E G nL mc ms X' n' X n c0 s0 pc lv stk := by
  subst hs
  obtain ⟨p, l, e, R, s, m, args, below, meth, c, z⟩ := E
  intro H locs ls hR hSt hls
  obtain ⟨hx, hb, hml, hown, hts, hlk, hret, hK, hfr, hlo, hmc, hms, -, hNs, -⟩ := C
  have hcw : CallW R s args own Cn idx y cc' nL' none (.code y cc' nL' none :: dk_tbl) { frames := fr', cells := 0, slots := 0, locals := lo' } 0 0 np := cwV np hts (dk_good4 hl w.2.1 w.2.2 w.1.2.2.2 (dk_goodIn w.1.2.2.1)) rfl rfl rfl ⟨w.1.1.1, w.1.1.2.1, w.1.1.2.2.1, w.1.1.2.2.2⟩ ⟨by rw [hfr]; exact Nat.le_of_ble_eq_true hrm.1, by rw [hlo]; exact Nat.le_of_ble_eq_true hrm.2⟩
  have hcell : ∀ (M : dkM) o, dk_cell (dk_at G a b) M o = dk_cell G M o := fun M o => rfl
  have hRep : dk_Rep (dk_at G a b) M H := fun o ho => by rw [hcell, ← hM o ho.1 ho.2]; exact hR.2 o (Nat.lt_of_lt_of_le ho.2 hab)
  obtain ⟨rr, fs, e1, e2, e3⟩ := dk_kdC (G := dk_at G a b) (M := M) hk hci
  have hK' : dk_K (dk_at G a b) s := hK
  have hrec := va_recv hK' (hRep.one ho e3) e1 (q0 := 0) rfl
  rw [e2] at hrec
  have hrun := va_runV (p := p) (l := l) (e := e) (R := R) (s := s) (m := m) (args := args) (below := below) (meth := meth) (c := c) (H := H) (locs := locs) (cells := c0) (slots := s0) (As := As) (rest := st) (g := F0 m pc ls (As.reverse ++ .ref (G.1 + o) :: st)) ⟨hx, hb, hml, hown, hts⟩ hc hcw ⟨dk_blind _ _ _, hrec, fun U hU hW => ⟨rfl, by rw [hU]; exact hRep, va_K.moved hW.alike hK'⟩⟩ rfl hn hls.1 rfl (lv_room (dk_wt hw)) d
  intro T' hT' Y
  obtain ⟨v, st₀, t, T2, L, h0, Y', hL, q1, q2, ⟨hv, hR2, hz2, hF2⟩, stp⟩ := hrun ⟨by rw [hmc]; exact hcs.1, by rw [hms]; exact hcs.2⟩ T' hT' Y
  cases hv
  rw [h0] at hz2
  obtain ⟨hF1, hF2⟩ := hF2
  rw [h0] at hF2
  obtain ⟨t2, a1, b1⟩ := kk T2.heap (locs ++ L) ls (by
    rw [q1]
    refine ⟨hz2.trans hR.1, fun o2 ho2 => ?_⟩
    unfold dk_mix
    split
    · rename_i h; rw [← hcell]; exact hR2 o2 h
    · rename_i h
      refine (hR.2 o2 ho2).kept (hF2 _ (by show G.1 + o2 < H.size; rw [hR.1]; omega) ?_)
      rintro ⟨o3, ho3, he⟩
      have he' : G.1 + o2 = G.1 + o3 := he
      exact h (by rw [show o2 = o3 by omega]; exact ho3)) ⟨by rw [q1, hz2]; exact hSt.1, fun q g1 g2 => by
      rw [q1, hF2 q (Nat.lt_of_lt_of_le g1 hSt.1) (by rintro ⟨o3, ho3, he⟩; exact g2 (by rw [he]; exact Nat.le_add_right _ _))]; exact hSt.2.1 q g1 g2, fun q hq => by
      rcases List.mem_append.mp hq with h | h
      · exact hSt.2.2 q h
      · obtain ⟨o3, ho3, he⟩ := hL q h
        show G.1 ≤ q.base
        rw [he]; exact Nat.le_add_right _ _⟩ hls T2 rfl Y'
  exact ⟨t2, stp t2 a1, b1⟩
end VXR
