/-! THE CLAIM OUT OF ONE WALK OF THE LAW'S BODY. Your part is whole_start (and what it stands on); all else here is the same for every law, but numbers. -/
def R_law : String := "DiskRekeyingLaw"
def lw_P (b : Addr) (xs : List Int32) (args : Array Value) (s : State) : Prop := args = #[.ref b] ∧ s.IntsAt b xs ∧ xs.length ≤ 1536 ∧ (Jvm.Cond.and given_1 narrow_1).before args s = true
def lw_Q (_ : Array Value) (s : State) (o : Outcome) (t : State) : Prop := o = .returned (some (.int 1)) ∧ Framed s o t [] 600000 7302250
def lw_Z (below : List Frame) (a : Array Value) (s : State) : State → Prop := fun t => ∃ o, t.status = .running ∧ Ended t below o ∧ lw_Q a s o t
/-- the law's own end, with 1 on the stack, nothing written that was there before, its room as the claim has it -/
theorem lw_ret {p : Program} {l : Launch} {e : Env} {s : State} {m : MethodId} {below : List Frame} {meth : Method} {c : Code} {b : Nat} (hx : p.tables.exec = Jvm.exec) (hb : c.code = code) (hr : meth.sig.returnType = ret) (hlocks : meth.locks = false) {pc : Nat} {H : Heap} {ls : Array Slot} (hdg : decode code pc = .ok (.ireturn, 1)) : W p l e room_1 s m #[Value.ref b] below meth c H [] 600000 7302250 (lw_Z below #[Value.ref b] s) (F0 m pc ls [.int 1]) := by
  intro T hT X
  obtain ⟨fs, hret, hrun, hended, hW, hframe⟩ := X.leave (v := some (.int 1)) (hlocks := hlocks) (fun h => by rw [hr] at h; cases h)
  have hmeth' : T.vm.method? m = some meth := X.method'
  refine ⟨T.setFrames fs, ?_, .returned (some (.int 1)), hrun, hended, rfl, ⟨_, rfl⟩, hW, hframe⟩
  jvm_step X.here [X.here.top, hx, hb, hdg, hmeth', hr, ret, narrow_b1]
  (try refine ⟨rfl, ?_⟩); (try refine ⟨rfl, ?_⟩)
  first | (intro acts; rw [hret _ acts rfl rfl rfl]) | rw [hret _ _ rfl rfl rfl]
  exact Steps.refl _
/-- what holds at the law's entry: the machine, the code, the tables' words (any of lw_tbl by 'hts w (by decide +kernel)'), the script of L ints xs at the cell b, what the Statement gives of the start (any of its parts by flat_of_before) -/
def lw_At (p : Program) (s : State) (m : MethodId) (meth : Method) (c : Code) (b L : Nat) (xs : Nat → Int32) : Prop :=
  p.tables.exec = Jvm.exec ∧ c.code = code ∧ meth.sig.returnType = ret ∧ c.maxLocals = 4 ∧ s.vm.findClass R_law = some m.cls ∧ (∀ w ∈ lw_tbl, w.before #[Value.ref b] s = true) ∧ va_X b L xs s s.heap ∧ b < s.heap.size ∧ meth.locks = false ∧ (Jvm.Cond.and given_1 narrow_1).before #[Value.ref b] s = true

abbrev gX (B : Nat) (D : va_G) (cI cD : ClassId) : dkG := (B, (fun o => o < 111), D, cI, cD)
abbrev gM (B : Nat) (D : va_G) (cI cD : ClassId) : dkG := (B, (fun o => 111 ≤ o ∧ o < 118), D, cI, cD)
theorem gX_cls (B : Nat) (D : va_G) (cI cD : ClassId) : dk_cls (gX B D cI cD) := fun _ h => h
theorem gM_mdl (B : Nat) (D : va_G) (cI cD : ClassId) : dk_mdl (gM B D cI cD) := fun _ h1 h2 => ⟨h1, h2⟩
def VL (E : dkE) (D : va_G) (cI cD : ClassId) (b : Nat) (Mx Mm : dkM) (pc : Nat) (lv : dkL) (st : List Value) : Prop := match E with
  | (p, l, e, _, s, m, _, below, meth, c) => ∀ (H : Heap) (locs : List Loc) (ls : Array Slot), dk_Rep (gX s.heap.size D cI cD) Mx H → dk_Rep (gM s.heap.size D cI cD) Mm H → H.size = s.heap.size + 118 → va_S (fun q : Nat => s.heap.size ≤ q) s.heap H locs → dk_has ls 4 lv →
    W p l e room_1 s m #[Value.ref b] below meth c H locs 118 7067 (lw_Z below #[Value.ref b] s) (F0 m pc ls st)
def CL (E : dkE) (D : va_G) (cI cD : ClassId) (b L : Nat) (xs : Nat → Int32) : Prop := match E with
  | (p, _, _, _, s, m, _, _, meth, c) => p.tables.exec = Jvm.exec ∧ c.code = code ∧ meth.sig.returnType = ret ∧ c.maxLocals = 4 ∧ s.vm.findClass R_law = some m.cls ∧ (∀ w ∈ dk_tbl, w.before #[Value.ref b] s = true) ∧ va_X b L xs s s.heap ∧ b < s.heap.size ∧ meth.locks = false ∧ dk_K (gX s.heap.size D cI cD) s
section VLR
variable {E : dkE} {D : va_G} {cI cD : ClassId} {b L : Nat} {xs : Nat → Int32} {Mx Mm : dkM} {pc : Nat} {lv : dkL} {st : List Value}
theorem VL.top {x x' : Value} (h : x = x') (k : VL E D cI cD b Mx Mm pc lv (x' :: st)) : VL E D cI cD b Mx Mm pc lv (x :: st) := h ▸ k
theorem VL.sub {lv' : dkL} (h : ∀ q ∈ lv', q.2 = none ∨ dk_get lv q.1 = q.2) (k : VL E D cI cD b Mx Mm pc lv' st) : VL E D cI cD b Mx Mm pc lv st := by
  obtain ⟨p, l, e, R, s, m, args, below, meth, c⟩ := E
  intro H locs ls hR hR2 hz hS hl
  refine k H locs ls hR hR2 hz hS ⟨hl.1, hl.2.1, fun i v hg => ?_⟩
  rcases h _ (dk_get_mem hg) with z | z
  · cases z
  · exact hl.2.2 i v z
theorem VL.of {lv' : dkL} {st' : List Value} {pc' : Nat} (k : VL E D cI cD b Mx Mm pc' lv' st') (f : match E with
    | (p, l, e, _, s, m, _, below, meth, c) => ∀ (H : Heap) (locs : List Loc) (ls : Array Slot) (Q : State → Prop), va_S (fun q : Nat => s.heap.size ≤ q) s.heap H locs → dk_has ls 4 lv → (∀ ls' : Array Slot, dk_has ls' 4 lv' → W p l e room_1 s m #[Value.ref b] below meth c H locs 118 7067 Q (F0 m pc' ls' st')) → W p l e room_1 s m #[Value.ref b] below meth c H locs 118 7067 Q (F0 m pc ls st)) : VL E D cI cD b Mx Mm pc lv st := by
  obtain ⟨p, l, e, R, s, m, args, below, meth, c⟩ := E
  intro H locs ls hR hR2 hz hS hl
  exact f H locs ls _ hS hl (fun ls' hl' => k H locs ls' hR hR2 hz hS hl')
theorem VL.iload_n (C : CL E D cI cD b L xs) {k : Fin 4} {x : Int32} (d : decode code pc = .ok (.iload_n k, 1)) (hg : dk_get lv k = some (.int x)) (kk : VL E D cI cD b Mx Mm (pc + 1) lv (.int x :: st)) : VL E D cI cD b Mx Mm pc lv st := by
  refine VL.of kk ?_
  obtain ⟨p, l, e, R, s, m, args, below, meth, c⟩ := E
  exact fun H locs ls Q _ hl w => lv_iload_n C.1 C.2.1 d rfl (hl.at hg) (w ls hl)
theorem VL.aload_n (C : CL E D cI cD b L xs) {k : Fin 4} {x : Nat} (d : decode code pc = .ok (.aload_n k, 1)) (hg : dk_get lv k = some (.ref x)) (kk : VL E D cI cD b Mx Mm (pc + 1) lv (.ref x :: st)) : VL E D cI cD b Mx Mm pc lv st := by
  refine VL.of kk ?_
  obtain ⟨p, l, e, R, s, m, args, below, meth, c⟩ := E
  exact fun H locs ls Q _ hl w => lv_aload_n C.1 C.2.1 d rfl (hl.at hg) (w ls hl)
theorem VL.iconst (C : CL E D cI cD b L xs) {z : Int} (v : Int32) (d : decode code pc = .ok (.iconst z, 1)) (hv : Int32.ofInt z = v) (kk : VL E D cI cD b Mx Mm (pc + 1) lv (.int v :: st)) : VL E D cI cD b Mx Mm pc lv st := by
  refine VL.of kk ?_
  obtain ⟨p, l, e, R, s, m, args, below, meth, c⟩ := E
  exact fun H locs ls Q _ hl w => lv_iconst C.1 C.2.1 d hv (w ls hl)
theorem VL.bipush (C : CL E D cI cD b L xs) {z : Int} (v : Int32) (d : decode code pc = .ok (.bipush z, 2)) (hv : (Int8.ofInt z).toInt32 = v) (kk : VL E D cI cD b Mx Mm (pc + 2) lv (.int v :: st)) : VL E D cI cD b Mx Mm pc lv st := by
  refine VL.of kk ?_
  obtain ⟨p, l, e, R, s, m, args, below, meth, c⟩ := E
  exact fun H locs ls Q _ hl w => lv_bipush C.1 C.2.1 d hv (w ls hl)
theorem VL.iadd (C : CL E D cI cD b L xs) {x y : Int32} (d : decode code pc = .ok (.iadd, 1)) (kk : VL E D cI cD b Mx Mm (pc + 1) lv (.int (x + y) :: st)) : VL E D cI cD b Mx Mm pc lv (.int y :: .int x :: st) := by
  refine VL.of kk ?_
  obtain ⟨p, l, e, R, s, m, args, below, meth, c⟩ := E
  exact fun H locs ls Q _ hl w => lv_iadd C.1 C.2.1 d (w ls hl)
theorem VL.isub (C : CL E D cI cD b L xs) {x y : Int32} (d : decode code pc = .ok (.isub, 1)) (kk : VL E D cI cD b Mx Mm (pc + 1) lv (.int (x - y) :: st)) : VL E D cI cD b Mx Mm pc lv (.int y :: .int x :: st) := by
  refine VL.of kk ?_
  obtain ⟨p, l, e, R, s, m, args, below, meth, c⟩ := E
  exact fun H locs ls Q _ hl w => lv_isub C.1 C.2.1 d (w ls hl)
theorem VL.iand (C : CL E D cI cD b L xs) {x y : Int32} (d : decode code pc = .ok (.iand, 1)) (kk : VL E D cI cD b Mx Mm (pc + 1) lv (.int (x &&& y) :: st)) : VL E D cI cD b Mx Mm pc lv (.int y :: .int x :: st) := by
  refine VL.of kk ?_
  obtain ⟨p, l, e, R, s, m, args, below, meth, c⟩ := E
  exact fun H locs ls Q _ hl w => lv_iand C.1 C.2.1 d (w ls hl)
theorem VL.goto (C : CL E D cI cD b L xs) {off : Int} (tgt : Nat) (d : decode code pc = .ok (.goto off, 3)) (ht : (pc : Int) + off = (tgt : Int)) (kk : VL E D cI cD b Mx Mm tgt lv st) : VL E D cI cD b Mx Mm pc lv st := by
  refine VL.of kk ?_
  obtain ⟨p, l, e, R, s, m, args, below, meth, c⟩ := E
  exact fun H locs ls Q _ hl w => lv_goto C.1 C.2.1 d ht (w ls hl)
theorem VL.iinc (C : CL E D cI cD b L xs) {k : Nat} {z : Int} {x v : Int32} (d : decode code pc = .ok (.iinc k z, 3)) (hg : dk_get lv k = some (.int x)) (hv : x + Int32.ofInt z = v) (hc : dk_chk lv k = true) (kk : VL E D cI cD b Mx Mm (pc + 3) ((k, some (.int v)) :: lv) st) : VL E D cI cD b Mx Mm pc lv st := by
  refine VL.of kk ?_
  obtain ⟨p, l, e, R, s, m, args, below, meth, c⟩ := E
  refine fun H locs ls Q _ hl w => ?_
  obtain ⟨j, hj⟩ := List.getElem?_of_mem (dk_vals_in (hl.lt hg) hg)
  exact lv_iinc C.1 C.2.1 d hl.lv hj hv (hl.lt hg) rfl (fun ls' h' => w ls' (hl.set1 hc h'))
theorem VL.lcmp (C : CL E D cI cD b L xs) {x y : Int64} (d : decode code pc = .ok (.lcmp, 1)) (kk : VL E D cI cD b Mx Mm (pc + 1) lv (.int (lg_cmp x y) :: st)) : VL E D cI cD b Mx Mm pc lv (.long y :: .long x :: st) := by
  refine VL.of kk ?_
  obtain ⟨p, l, e, R, s, m, args, below, meth, c⟩ := E
  exact fun H locs ls Q _ hl w => W.lcmp C.1 C.2.1 d (w ls hl)
theorem VL.slen (C : CL E D cI cD b L xs) (d : decode code pc = .ok (.arraylength, 1)) (kk : VL E D cI cD b Mx Mm (pc + 1) lv (.int (nI L) :: st)) : VL E D cI cD b Mx Mm pc lv (.ref b :: st) := by
  refine VL.of kk ?_
  obtain ⟨p, l, e, R, s, m, args, below, meth, c⟩ := E
  exact fun H locs ls Q hS hl w => va_slen C.1 C.2.1 C.2.2.2.2.2.2.1 C.2.2.2.2.2.2.2.1 (Nat.not_le.mpr C.2.2.2.2.2.2.2.1) hS d (w ls hl)
theorem VL.sld (C : CL E D cI cD b L xs) {i : Int32} (j : Nat) (hi : i = nI j) (hj : j < L ∧ L < 2 ^ 31) (d : decode code pc = .ok (.iaload, 1)) (kk : VL E D cI cD b Mx Mm (pc + 1) lv (.int (xs j) :: st)) : VL E D cI cD b Mx Mm pc lv (.int i :: .ref b :: st) := by
  subst hi
  refine VL.of kk ?_
  obtain ⟨p, l, e, R, s, m, args, below, meth, c⟩ := E
  refine fun H locs ls Q hS hl w => va_sld C.1 C.2.1 C.2.2.2.2.2.2.1 C.2.2.2.2.2.2.2.1 (Nat.not_le.mpr C.2.2.2.2.2.2.2.1) hS (vp_in_nI hj.1 hj.2) d ?_
  rw [nI_clamp (Nat.lt_trans hj.1 hj.2)]
  exact w ls hl
theorem VL.icmp_gt (C : CL E D cI cD b L xs) {x y : Int32} {off : Int} (tgt : Nat) (d : decode code pc = .ok (.if_icmp .gt off, 3)) (ht : (pc : Int) + off = (tgt : Int)) (kt : y < x → VL E D cI cD b Mx Mm tgt lv st) (kf : ¬ y < x → VL E D cI cD b Mx Mm (pc + 3) lv st) : VL E D cI cD b Mx Mm pc lv (.int y :: .int x :: st) := by
  obtain ⟨p, l, e, R, s, m, args, below, meth, c⟩ := E
  intro H locs ls hR hR2 hz hS hl
  exact lv_icmp_gt C.1 C.2.1 d ht (fun h => kt h H locs ls hR hR2 hz hS hl) (fun h => kf h H locs ls hR hR2 hz hS hl)
theorem VL.eq (C : CL E D cI cD b L xs) {x y : Int32} {off : Int} (tgt : Nat) (d : decode code pc = .ok (.if_icmp .eq off, 3)) (ht : (pc : Int) + off = (tgt : Int)) (h : x = y) (kt : VL E D cI cD b Mx Mm tgt lv st) : VL E D cI cD b Mx Mm pc lv (.int y :: .int x :: st) := by
  obtain ⟨p, l, e, R, s, m, args, below, meth, c⟩ := E
  intro H locs ls hR hR2 hz hS hl
  exact lv_icmp_eq C.1 C.2.1 d ht (fun _ => kt H locs ls hR hR2 hz hS hl) (fun h2 => absurd h h2)
theorem VL.if0 (C : CL E D cI cD b L xs) {x : Int32} {off : Int} (tgt : Nat) (d : decode code pc = .ok (.ifCond .eq off, 3)) (ht : (pc : Int) + off = (tgt : Int)) (h : x = 0) (kt : VL E D cI cD b Mx Mm tgt lv st) : VL E D cI cD b Mx Mm pc lv (.int x :: st) := by
  obtain ⟨p, l, e, R, s, m, args, below, meth, c⟩ := E
  intro H locs ls hR hR2 hz hS hl
  exact lv_if_eq C.1 C.2.1 d ht (fun _ => kt H locs ls hR hR2 hz hS hl) (fun h2 => absurd h h2)
theorem VL.swt (C : CL E D cI cD b L xs) {dflt lo' hi : Int} {offs : Array Int} {len : Nat} {x : Int32} (tgt : Nat) (d : decode code pc = .ok (.tableswitch dflt lo' hi offs, len)) (ho : ¬ x.toInt < lo' ∧ ¬ hi < x.toInt ∧ offs[(x.toInt - lo').toNat]? = some ((tgt : Int) - pc)) (kk : VL E D cI cD b Mx Mm tgt lv st) : VL E D cI cD b Mx Mm pc lv (.int x :: st) := by
  refine VL.of kk ?_
  obtain ⟨p, l, e, R, s, m, args, below, meth, c⟩ := E
  exact fun H locs ls Q _ hl w => lv_tableIn C.1 C.2.1 d ho.1 ho.2.1 ho.2.2 (by omega) (w ls hl)
theorem VL.swd (C : CL E D cI cD b L xs) {dflt lo' hi : Int} {offs : Array Int} {len : Nat} {x : Int32} (tgt : Nat) (d : decode code pc = .ok (.tableswitch dflt lo' hi offs, len)) (ht : (pc : Int) + dflt = (tgt : Int)) (ho : x.toInt < lo' ∨ hi < x.toInt) (kk : VL E D cI cD b Mx Mm tgt lv st) : VL E D cI cD b Mx Mm pc lv (.int x :: st) := by
  refine VL.of kk ?_
  obtain ⟨p, l, e, R, s, m, args, below, meth, c⟩ := E
  exact fun H locs ls Q _ hl w => lv_tableOut C.1 C.2.1 d ho ht (w ls hl)
theorem VL.callX (C : CL E D cI cD b L xs) {y : MethodName} {cc' : ByteArray} {nL' n : Nat} {ret' : Option FieldType} {fr' lo' idx : Nat} {As : List Value} {M2 : dkM} {r : Option Value} {st' : List Value} (hc : ∀ B, dk_Con E.2.1 y cc' nL' ret' fr' lo' (gX B D cI cD) (.ref (B + 0) :: As) Mx (r, M2))
    (w : dk_mv RX4 y cc' nL' ret' n) (hl : Cond.methodLink R_law idx y ∈ dk_tbl) (hrm : Nat.ble (fr' + 1) 12 = true ∧ Nat.ble (8 + (nL' + 11) + lo') 430 = true) (d : decode code pc = .ok (.invokevirtual idx, 3)) (hn : As.length = n) (hw : Nat.ble (st.map fun v => v.category).sum 8 = true)
    {stk : List Value} (hs : stk = As.reverse ++ .ref (E.2.2.2.2.1.heap.size + 0) :: st) (hr : r.toList ++ st = st') (kk : VL E D cI cD b M2 Mm (pc + 3) lv st') : VL E D cI cD b Mx Mm pc lv stk := by
  subst hs
  subst hr
  obtain ⟨p, l, e, R, s, m, args, below, meth, c⟩ := E
  intro H locs ls hR hR2 hz hSt hls
  obtain ⟨hx, hb, hret, hml, hown, hts, hXs, hbl, hlk, hK⟩ := C
  have hcw : CallW room_1 s #[Value.ref b] R_law RX4 idx y cc' nL' ret' (.code y cc' nL' ret' :: dk_tbl) { frames := fr', cells := 0, slots := 0, locals := lo' } 0 0 n := cwV n hts (dk_good4 hl w.2.1 w.2.2 w.1.2.2.2 (dk_goodIn w.1.2.2.1)) rfl rfl rfl ⟨w.1.1.1, w.1.1.2.1, w.1.1.2.2.1, w.1.1.2.2.2⟩ ⟨Nat.le_of_ble_eq_true hrm.1, Nat.le_of_ble_eq_true hrm.2⟩
  obtain ⟨rr, fs, e1, e2, e3⟩ := dk_kdC (G := gX s.heap.size D cI cD) (M := Mx) (o := 0) (Cn := RX4) rfl rfl
  have hrec := va_recv hK (hR.one (show (0 : Nat) < 111 by decide) e3) e1 (q0 := 0) rfl
  rw [e2] at hrec
  have hrun := va_runV (p := p) (l := l) (e := e) (R := room_1) (s := s) (m := m) (args := #[Value.ref b]) (below := below) (meth := meth) (c := c) (H := H) (locs := locs) (cells := 118) (slots := 7067) (As := As) (rest := st) (g := F0 m pc ls (As.reverse ++ .ref (s.heap.size + 0) :: st)) ⟨hx, hb, hml, hown, hts⟩ (hc s.heap.size) hcw ⟨dk_blind _ _ _, hrec, fun U hU hW => ⟨rfl, by rw [hU]; exact hR, va_K.moved hW.alike hK⟩⟩ rfl hn hls.1 rfl (lv_room (dk_wt hw)) d ⟨by decide, by decide⟩
  intro T' hT' Y
  obtain ⟨v, st₀, t, T2, Lc, h0, Y', hLc, q1, q2, ⟨hv, hR3, hz2, hF1, hF2⟩, stp⟩ := hrun T' hT' Y
  cases hv
  rw [h0] at hz2 hF2
  obtain ⟨t2, a1, b1⟩ := kk T2.heap (locs ++ Lc) ls (by rw [q1]; exact hR3) (fun o ho => by
      rw [q1]
      refine (hR2 o ho).kept (hF2 _ (by show s.heap.size + o < H.size; have := ho.2; omega) ?_)
      rintro ⟨o3, ho3, he⟩
      have he' : s.heap.size + o = s.heap.size + o3 := he
      have h3 : o3 < 111 := ho3
      have h4 := ho.1
      omega) (by rw [q1, hz2]; exact hz) ⟨by rw [q1, hz2]; exact hSt.1, fun q g1 g2 => by
      rw [q1, hF2 q (Nat.lt_of_lt_of_le g1 hSt.1) (by rintro ⟨o3, ho3, he⟩; exact g2 (by rw [he]; exact Nat.le_add_right _ _))]; exact hSt.2.1 q g1 g2, fun q hq => by
      rcases List.mem_append.mp hq with h | h
      · exact hSt.2.2 q h
      · obtain ⟨o3, ho3, he⟩ := hLc q h
        show s.heap.size ≤ q.base
        rw [he]; exact Nat.le_add_right _ _⟩ hls T2 rfl Y'
  exact ⟨t2, stp t2 a1, b1⟩
theorem VL.callM (C : CL E D cI cD b L xs) {y : MethodName} {cc' : ByteArray} {nL' n : Nat} {ret' : Option FieldType} {fr' lo' idx : Nat} {As : List Value} {M2 : dkM} {r : Option Value} {st' : List Value} (hc : ∀ B, dk_Con E.2.1 y cc' nL' ret' fr' lo' (gM B D cI cD) (.ref (B + 111) :: As) Mm (r, M2))
    (w : dk_mv RX5 y cc' nL' ret' n) (hl : Cond.methodLink R_law idx y ∈ dk_tbl) (hrm : Nat.ble (fr' + 1) 12 = true ∧ Nat.ble (8 + (nL' + 11) + lo') 430 = true) (d : decode code pc = .ok (.invokevirtual idx, 3)) (hn : As.length = n) (hw : Nat.ble (st.map fun v => v.category).sum 8 = true)
    {stk : List Value} (hs : stk = As.reverse ++ .ref (E.2.2.2.2.1.heap.size + 111) :: st) (hr : r.toList ++ st = st') (kk : VL E D cI cD b Mx M2 (pc + 3) lv st') : VL E D cI cD b Mx Mm pc lv stk := by
  subst hs
  subst hr
  obtain ⟨p, l, e, R, s, m, args, below, meth, c⟩ := E
  intro H locs ls hR hR2 hz hSt hls
  obtain ⟨hx, hb, hret, hml, hown, hts, hXs, hbl, hlk, hK⟩ := C
  have hcw : CallW room_1 s #[Value.ref b] R_law RX5 idx y cc' nL' ret' (.code y cc' nL' ret' :: dk_tbl) { frames := fr', cells := 0, slots := 0, locals := lo' } 0 0 n := cwV n hts (dk_good4 hl w.2.1 w.2.2 w.1.2.2.2 (dk_goodIn w.1.2.2.1)) rfl rfl rfl ⟨w.1.1.1, w.1.1.2.1, w.1.1.2.2.1, w.1.1.2.2.2⟩ ⟨Nat.le_of_ble_eq_true hrm.1, Nat.le_of_ble_eq_true hrm.2⟩
  obtain ⟨rr, fs, e1, e2, e3⟩ := dk_kdC (G := gM s.heap.size D cI cD) (M := Mm) (o := 111) (Cn := RX5) rfl rfl
  have hrec := va_recv hK (hR2.one ⟨by decide, by decide⟩ e3) e1 (q0 := 0) rfl
  rw [e2] at hrec
  have hrun := va_runV (p := p) (l := l) (e := e) (R := room_1) (s := s) (m := m) (args := #[Value.ref b]) (below := below) (meth := meth) (c := c) (H := H) (locs := locs) (cells := 118) (slots := 7067) (As := As) (rest := st) (g := F0 m pc ls (As.reverse ++ .ref (s.heap.size + 111) :: st)) ⟨hx, hb, hml, hown, hts⟩ (hc s.heap.size) hcw ⟨dk_blind _ _ _, hrec, fun U hU hW => ⟨rfl, by rw [hU]; exact hR2, va_K.moved hW.alike hK⟩⟩ rfl hn hls.1 rfl (lv_room (dk_wt hw)) d ⟨by decide, by decide⟩
  intro T' hT' Y
  obtain ⟨v, st₀, t, T2, Lc, h0, Y', hLc, q1, q2, ⟨hv, hR3, hz2, hF1, hF2⟩, stp⟩ := hrun T' hT' Y
  cases hv
  rw [h0] at hz2 hF2
  obtain ⟨t2, a1, b1⟩ := kk T2.heap (locs ++ Lc) ls (fun o ho => by
      have h4 : o < 111 := ho
      rw [q1]
      refine (hR o ho).kept (hF2 _ (by show s.heap.size + o < H.size; omega) ?_)
      rintro ⟨o3, ho3, he⟩
      have he' : s.heap.size + o = s.heap.size + o3 := he
      have h3 := ho3.1
      omega) (by rw [q1]; exact hR3) (by rw [q1, hz2]; exact hz) ⟨by rw [q1, hz2]; exact hSt.1, fun q g1 g2 => by
      rw [q1, hF2 q (Nat.lt_of_lt_of_le g1 hSt.1) (by rintro ⟨o3, ho3, he⟩; exact g2 (by rw [he]; exact Nat.le_add_right _ _))]; exact hSt.2.1 q g1 g2, fun q hq => by
      rcases List.mem_append.mp hq with h | h
      · exact hSt.2.2 q h
      · obtain ⟨o3, ho3, he⟩ := hLc q h
        show s.heap.size ≤ q.base
        rw [he]; exact Nat.le_add_right _ _⟩ hls T2 rfl Y'
  exact ⟨t2, stp t2 a1, b1⟩
theorem VL.ret (C : CL E D cI cD b L xs) (d : decode code pc = .ok (.ireturn, 1)) : VL E D cI cD b Mx Mm pc lv [.int 1] := by
  obtain ⟨p, l, e, R, s, m, args, below, meth, c⟩ := E
  intro H locs ls hR hR2 hz hSt hls
  obtain ⟨hx, hb, hret, hml, hown, hts, hXs, hbl, hlk, hK⟩ := C
  refine va_forget (fun q hq => hSt.2.2 q hq) ?_
  refine W.widen (k := 600000) (n := 7302250) (Nat.le_of_ble_eq_true rfl) (Nat.le_of_ble_eq_true rfl) ?_
  exact lw_ret hx hb hret hlk d
end VLR
theorem lw_law_dec : cL_law = code := rfl
theorem lg_eq0 {x y : Int64} (h : x = y) : lg_cmp x y = 0 := by subst h; simp [lg_cmp]
theorem R_law_RL : R_law = RL := rfl
set_option maxHeartbeats 1000000 in
set_option maxRecDepth 20000 in
theorem lw_case_format {E : dkE} {D : va_G} {cI cD : ClassId} {b L : Nat} {xs : Nat → Int32} {Mx Mm : dkM} {i : Nat} (hL : L ≤ 1536) (hi : i + 3 ≤ L) (hC : CL E D cI cD b L xs) (hS : Sim Mx Mm) (next : ∀ Mx2 Mm2 : dkM, Sim Mx2 Mm2 → VL E D cI cD b Mx2 Mm2 776 [(0, some (.ref b)), (1, some (.ref (E.2.2.2.2.1.heap.size + 0))), (2, some (.ref (E.2.2.2.2.1.heap.size + 111))), (3, some (.int (nI i)))] []) : VL E D cI cD b Mx Mm 172 [(0, some (.ref b)), (1, some (.ref (E.2.2.2.2.1.heap.size + 0))), (2, some (.ref (E.2.2.2.2.1.heap.size + 111))), (3, some (.int (nI i)))] [] := by
  have hX := hS.x
  have hI := hS.m
  have hR := hS.r
  have ht := hS.t
  have hsim := sim_format hS (xs (i + 1))
  refine VL.aload_n hC dL_law_172 rfl ?_
  refine VL.aload_n hC dL_law_173 rfl ?_
  refine VL.iload_n hC dL_law_174 rfl ?_
  refine VL.iconst hC 1 dL_law_175 (by decide) ?_
  refine VL.iadd hC dL_law_176 ?_
  refine VL.sld hC (i + 1) (dk_addN rfl rfl) (by omega) dL_law_177 ?_
  refine VL.callX hC (As := [.int (xs (i + 1))]) (fun B => c_X4_format (gX_cls B D cI cD) hX) mwX4_format mlL_13 ⟨rfl, rfl⟩ dL_law_178 rfl rfl rfl rfl ?_
  refine VL.aload_n hC dL_law_181 rfl ?_
  refine VL.aload_n hC dL_law_182 rfl ?_
  refine VL.iload_n hC dL_law_183 rfl ?_
  refine VL.iconst hC 1 dL_law_184 (by decide) ?_
  refine VL.iadd hC dL_law_185 ?_
  refine VL.sld hC (i + 1) (dk_addN rfl rfl) (by omega) dL_law_186 ?_
  refine VL.callM hC (As := [.int (xs (i + 1))]) (fun B => c_X5_format (gM_mdl B D cI cD) hI hR) mwX5_format mlL_17 ⟨rfl, rfl⟩ dL_law_187 rfl rfl rfl rfl ?_
  refine VL.eq hC 776 dL_law_190 (by decide) hsim.1 ?_
  exact next _ _ hsim.2
set_option maxHeartbeats 1000000 in
set_option maxRecDepth 20000 in
theorem lw_case_addKey {E : dkE} {D : va_G} {cI cD : ClassId} {b L : Nat} {xs : Nat → Int32} {Mx Mm : dkM} {i : Nat} (hL : L ≤ 1536) (hi : i + 3 ≤ L) (hC : CL E D cI cD b L xs) (hS : Sim Mx Mm) (next : ∀ Mx2 Mm2 : dkM, Sim Mx2 Mm2 → VL E D cI cD b Mx2 Mm2 776 [(0, some (.ref b)), (1, some (.ref (E.2.2.2.2.1.heap.size + 0))), (2, some (.ref (E.2.2.2.2.1.heap.size + 111))), (3, some (.int (nI i)))] []) : VL E D cI cD b Mx Mm 195 [(0, some (.ref b)), (1, some (.ref (E.2.2.2.2.1.heap.size + 0))), (2, some (.ref (E.2.2.2.2.1.heap.size + 111))), (3, some (.int (nI i)))] [] := by
  have hX := hS.x
  have hI := hS.m
  have hR := hS.r
  have ht := hS.t
  have hsim := sim_addKey hS (xs (i + 1)) (xs (i + 2))
  refine VL.aload_n hC dL_law_195 rfl ?_
  refine VL.aload_n hC dL_law_196 rfl ?_
  refine VL.iload_n hC dL_law_197 rfl ?_
  refine VL.iconst hC 1 dL_law_198 (by decide) ?_
  refine VL.iadd hC dL_law_199 ?_
  refine VL.sld hC (i + 1) (dk_addN rfl rfl) (by omega) dL_law_200 ?_
  refine VL.aload_n hC dL_law_201 rfl ?_
  refine VL.iload_n hC dL_law_202 rfl ?_
  refine VL.iconst hC 2 dL_law_203 (by decide) ?_
  refine VL.iadd hC dL_law_204 ?_
  refine VL.sld hC (i + 2) (dk_addN rfl rfl) (by omega) dL_law_205 ?_
  refine VL.callX hC (As := [.int (xs (i + 1)), .int (xs (i + 2))]) (fun B => c_X4_addKey (gX_cls B D cI cD) hX) mwX4_addKey mlL_18 ⟨rfl, rfl⟩ dL_law_206 rfl rfl rfl rfl ?_
  refine VL.aload_n hC dL_law_209 rfl ?_
  refine VL.aload_n hC dL_law_210 rfl ?_
  refine VL.iload_n hC dL_law_211 rfl ?_
  refine VL.iconst hC 1 dL_law_212 (by decide) ?_
  refine VL.iadd hC dL_law_213 ?_
  refine VL.sld hC (i + 1) (dk_addN rfl rfl) (by omega) dL_law_214 ?_
  refine VL.aload_n hC dL_law_215 rfl ?_
  refine VL.iload_n hC dL_law_216 rfl ?_
  refine VL.iconst hC 2 dL_law_217 (by decide) ?_
  refine VL.iadd hC dL_law_218 ?_
  refine VL.sld hC (i + 2) (dk_addN rfl rfl) (by omega) dL_law_219 ?_
  refine VL.callM hC (As := [.int (xs (i + 1)), .int (xs (i + 2))]) (fun B => c_X5_addKey (gM_mdl B D cI cD) hR) mwX5_addKey mlL_22 ⟨rfl, rfl⟩ dL_law_220 rfl rfl rfl rfl ?_
  refine VL.eq hC 776 dL_law_223 (by decide) hsim.1 ?_
  exact next _ _ hsim.2
set_option maxHeartbeats 1000000 in
set_option maxRecDepth 20000 in
theorem lw_case_removeKey {E : dkE} {D : va_G} {cI cD : ClassId} {b L : Nat} {xs : Nat → Int32} {Mx Mm : dkM} {i : Nat} (hL : L ≤ 1536) (hi : i + 3 ≤ L) (hC : CL E D cI cD b L xs) (hS : Sim Mx Mm) (next : ∀ Mx2 Mm2 : dkM, Sim Mx2 Mm2 → VL E D cI cD b Mx2 Mm2 776 [(0, some (.ref b)), (1, some (.ref (E.2.2.2.2.1.heap.size + 0))), (2, some (.ref (E.2.2.2.2.1.heap.size + 111))), (3, some (.int (nI i)))] []) : VL E D cI cD b Mx Mm 228 [(0, some (.ref b)), (1, some (.ref (E.2.2.2.2.1.heap.size + 0))), (2, some (.ref (E.2.2.2.2.1.heap.size + 111))), (3, some (.int (nI i)))] [] := by
  have hX := hS.x
  have hI := hS.m
  have hR := hS.r
  have ht := hS.t
  have hsim := sim_removeKey hS (xs (i + 1))
  refine VL.aload_n hC dL_law_228 rfl ?_
  refine VL.aload_n hC dL_law_229 rfl ?_
  refine VL.iload_n hC dL_law_230 rfl ?_
  refine VL.iconst hC 1 dL_law_231 (by decide) ?_
  refine VL.iadd hC dL_law_232 ?_
  refine VL.sld hC (i + 1) (dk_addN rfl rfl) (by omega) dL_law_233 ?_
  refine VL.callX hC (As := [.int (xs (i + 1))]) (fun B => c_X4_removeKey (gX_cls B D cI cD) hX) mwX4_removeKey mlL_23 ⟨rfl, rfl⟩ dL_law_234 rfl rfl rfl rfl ?_
  refine VL.aload_n hC dL_law_237 rfl ?_
  refine VL.aload_n hC dL_law_238 rfl ?_
  refine VL.iload_n hC dL_law_239 rfl ?_
  refine VL.iconst hC 1 dL_law_240 (by decide) ?_
  refine VL.iadd hC dL_law_241 ?_
  refine VL.sld hC (i + 1) (dk_addN rfl rfl) (by omega) dL_law_242 ?_
  refine VL.callM hC (As := [.int (xs (i + 1))]) (fun B => c_X5_removeKey (gM_mdl B D cI cD) hR) mwX5_removeKey mlL_26 ⟨rfl, rfl⟩ dL_law_243 rfl rfl rfl rfl ?_
  refine VL.eq hC 776 dL_law_246 (by decide) hsim.1 ?_
  exact next _ _ hsim.2
set_option maxHeartbeats 1000000 in
set_option maxRecDepth 20000 in
theorem lw_case_secretOf {E : dkE} {D : va_G} {cI cD : ClassId} {b L : Nat} {xs : Nat → Int32} {Mx Mm : dkM} {i : Nat} (hL : L ≤ 1536) (hi : i + 3 ≤ L) (hC : CL E D cI cD b L xs) (hS : Sim Mx Mm) (next : ∀ Mx2 Mm2 : dkM, Sim Mx2 Mm2 → VL E D cI cD b Mx2 Mm2 776 [(0, some (.ref b)), (1, some (.ref (E.2.2.2.2.1.heap.size + 0))), (2, some (.ref (E.2.2.2.2.1.heap.size + 111))), (3, some (.int (nI i)))] []) : VL E D cI cD b Mx Mm 251 [(0, some (.ref b)), (1, some (.ref (E.2.2.2.2.1.heap.size + 0))), (2, some (.ref (E.2.2.2.2.1.heap.size + 111))), (3, some (.int (nI i)))] [] := by
  have hX := hS.x
  have hI := hS.m
  have hR := hS.r
  have ht := hS.t
  have hsim := sim_secretOf hS (xs (i + 1))
  refine VL.aload_n hC dL_law_251 rfl ?_
  refine VL.aload_n hC dL_law_252 rfl ?_
  refine VL.iload_n hC dL_law_253 rfl ?_
  refine VL.iconst hC 1 dL_law_254 (by decide) ?_
  refine VL.iadd hC dL_law_255 ?_
  refine VL.sld hC (i + 1) (dk_addN rfl rfl) (by omega) dL_law_256 ?_
  refine VL.callX hC (As := [.int (xs (i + 1))]) (fun B => c_X4_secretOf (gX_cls B D cI cD)) mwX4_secretOf mlL_27 ⟨rfl, rfl⟩ dL_law_257 rfl rfl rfl rfl ?_
  refine VL.aload_n hC dL_law_260 rfl ?_
  refine VL.aload_n hC dL_law_261 rfl ?_
  refine VL.iload_n hC dL_law_262 rfl ?_
  refine VL.iconst hC 1 dL_law_263 (by decide) ?_
  refine VL.iadd hC dL_law_264 ?_
  refine VL.sld hC (i + 1) (dk_addN rfl rfl) (by omega) dL_law_265 ?_
  refine VL.callM hC (As := [.int (xs (i + 1))]) (fun B => c_X5_secretOf (gM_mdl B D cI cD)) mwX5_secretOf mlL_30 ⟨rfl, rfl⟩ dL_law_266 rfl rfl rfl rfl ?_
  refine VL.eq hC 776 dL_law_269 (by decide) hsim.1 ?_
  exact next _ _ hsim.2
set_option maxHeartbeats 1000000 in
set_option maxRecDepth 20000 in
theorem lw_case_setZone {E : dkE} {D : va_G} {cI cD : ClassId} {b L : Nat} {xs : Nat → Int32} {Mx Mm : dkM} {i : Nat} (hL : L ≤ 1536) (hi : i + 3 ≤ L) (hC : CL E D cI cD b L xs) (hS : Sim Mx Mm) (next : ∀ Mx2 Mm2 : dkM, Sim Mx2 Mm2 → VL E D cI cD b Mx2 Mm2 776 [(0, some (.ref b)), (1, some (.ref (E.2.2.2.2.1.heap.size + 0))), (2, some (.ref (E.2.2.2.2.1.heap.size + 111))), (3, some (.int (nI i)))] []) : VL E D cI cD b Mx Mm 274 [(0, some (.ref b)), (1, some (.ref (E.2.2.2.2.1.heap.size + 0))), (2, some (.ref (E.2.2.2.2.1.heap.size + 111))), (3, some (.int (nI i)))] [] := by
  have hX := hS.x
  have hI := hS.m
  have hR := hS.r
  have ht := hS.t
  have hsim := sim_setZone hS (xs (i + 1))
  refine VL.aload_n hC dL_law_274 rfl ?_
  refine VL.aload_n hC dL_law_275 rfl ?_
  refine VL.iload_n hC dL_law_276 rfl ?_
  refine VL.iconst hC 1 dL_law_277 (by decide) ?_
  refine VL.iadd hC dL_law_278 ?_
  refine VL.sld hC (i + 1) (dk_addN rfl rfl) (by omega) dL_law_279 ?_
  refine VL.callX hC (As := [.int (xs (i + 1))]) (fun B => c_X4_setZone (gX_cls B D cI cD) hX) mwX4_setZone mlL_31 ⟨rfl, rfl⟩ dL_law_280 rfl rfl rfl rfl ?_
  refine VL.aload_n hC dL_law_283 rfl ?_
  refine VL.aload_n hC dL_law_284 rfl ?_
  refine VL.iload_n hC dL_law_285 rfl ?_
  refine VL.iconst hC 1 dL_law_286 (by decide) ?_
  refine VL.iadd hC dL_law_287 ?_
  refine VL.sld hC (i + 1) (dk_addN rfl rfl) (by omega) dL_law_288 ?_
  refine VL.callM hC (As := [.int (xs (i + 1))]) (fun B => c_X5_setZone (gM_mdl B D cI cD) hR) mwX5_setZone mlL_34 ⟨rfl, rfl⟩ dL_law_289 rfl rfl rfl rfl ?_
  refine VL.eq hC 776 dL_law_292 (by decide) hsim.1 ?_
  exact next _ _ hsim.2
set_option maxHeartbeats 1000000 in
set_option maxRecDepth 20000 in
theorem lw_case_setJournal {E : dkE} {D : va_G} {cI cD : ClassId} {b L : Nat} {xs : Nat → Int32} {Mx Mm : dkM} {i : Nat} (hL : L ≤ 1536) (hi : i + 3 ≤ L) (hC : CL E D cI cD b L xs) (hS : Sim Mx Mm) (next : ∀ Mx2 Mm2 : dkM, Sim Mx2 Mm2 → VL E D cI cD b Mx2 Mm2 776 [(0, some (.ref b)), (1, some (.ref (E.2.2.2.2.1.heap.size + 0))), (2, some (.ref (E.2.2.2.2.1.heap.size + 111))), (3, some (.int (nI i)))] []) : VL E D cI cD b Mx Mm 297 [(0, some (.ref b)), (1, some (.ref (E.2.2.2.2.1.heap.size + 0))), (2, some (.ref (E.2.2.2.2.1.heap.size + 111))), (3, some (.int (nI i)))] [] := by
  have hX := hS.x
  have hI := hS.m
  have hR := hS.r
  have ht := hS.t
  have hsim := sim_setJournal hS (xs (i + 1))
  refine VL.aload_n hC dL_law_297 rfl ?_
  refine VL.aload_n hC dL_law_298 rfl ?_
  refine VL.iload_n hC dL_law_299 rfl ?_
  refine VL.iconst hC 1 dL_law_300 (by decide) ?_
  refine VL.iadd hC dL_law_301 ?_
  refine VL.sld hC (i + 1) (dk_addN rfl rfl) (by omega) dL_law_302 ?_
  refine VL.callX hC (As := [.int (xs (i + 1))]) (fun B => c_X4_setJournal (gX_cls B D cI cD) hX) mwX4_setJournal mlL_35 ⟨rfl, rfl⟩ dL_law_303 rfl rfl rfl rfl ?_
  refine VL.aload_n hC dL_law_306 rfl ?_
  refine VL.aload_n hC dL_law_307 rfl ?_
  refine VL.iload_n hC dL_law_308 rfl ?_
  refine VL.iconst hC 1 dL_law_309 (by decide) ?_
  refine VL.iadd hC dL_law_310 ?_
  refine VL.sld hC (i + 1) (dk_addN rfl rfl) (by omega) dL_law_311 ?_
  refine VL.callM hC (As := [.int (xs (i + 1))]) (fun B => c_X5_setJournal (gM_mdl B D cI cD) hR) mwX5_setJournal mlL_38 ⟨rfl, rfl⟩ dL_law_312 rfl rfl rfl rfl ?_
  refine VL.eq hC 776 dL_law_315 (by decide) hsim.1 ?_
  exact next _ _ hsim.2
set_option maxHeartbeats 1000000 in
set_option maxRecDepth 20000 in
theorem lw_case_start {E : dkE} {D : va_G} {cI cD : ClassId} {b L : Nat} {xs : Nat → Int32} {Mx Mm : dkM} {i : Nat} (hL : L ≤ 1536) (hi : i + 3 ≤ L) (hC : CL E D cI cD b L xs) (hS : Sim Mx Mm) (next : ∀ Mx2 Mm2 : dkM, Sim Mx2 Mm2 → VL E D cI cD b Mx2 Mm2 776 [(0, some (.ref b)), (1, some (.ref (E.2.2.2.2.1.heap.size + 0))), (2, some (.ref (E.2.2.2.2.1.heap.size + 111))), (3, some (.int (nI i)))] []) : VL E D cI cD b Mx Mm 320 [(0, some (.ref b)), (1, some (.ref (E.2.2.2.2.1.heap.size + 0))), (2, some (.ref (E.2.2.2.2.1.heap.size + 111))), (3, some (.int (nI i)))] [] := by
  have hX := hS.x
  have hI := hS.m
  have hR := hS.r
  have ht := hS.t
  have hsim := sim_start hS (xs (i + 1))
  refine VL.aload_n hC dL_law_320 rfl ?_
  refine VL.aload_n hC dL_law_321 rfl ?_
  refine VL.iload_n hC dL_law_322 rfl ?_
  refine VL.iconst hC 1 dL_law_323 (by decide) ?_
  refine VL.iadd hC dL_law_324 ?_
  refine VL.sld hC (i + 1) (dk_addN rfl rfl) (by omega) dL_law_325 ?_
  refine VL.callX hC (As := [.int (xs (i + 1))]) (fun B => c_X4_start (gX_cls B D cI cD) hX) mwX4_start mlL_39 ⟨rfl, rfl⟩ dL_law_326 rfl rfl rfl rfl ?_
  refine VL.aload_n hC dL_law_329 rfl ?_
  refine VL.aload_n hC dL_law_330 rfl ?_
  refine VL.iload_n hC dL_law_331 rfl ?_
  refine VL.iconst hC 1 dL_law_332 (by decide) ?_
  refine VL.iadd hC dL_law_333 ?_
  refine VL.sld hC (i + 1) (dk_addN rfl rfl) (by omega) dL_law_334 ?_
  refine VL.callM hC (As := [.int (xs (i + 1))]) (fun B => c_X5_start (gM_mdl B D cI cD) hI hR) mwX5_start mlL_42 ⟨rfl, rfl⟩ dL_law_335 rfl rfl rfl rfl ?_
  refine VL.eq hC 776 dL_law_338 (by decide) hsim.1 ?_
  exact next _ _ hsim.2
set_option maxHeartbeats 1000000 in
set_option maxRecDepth 20000 in
theorem lw_case_steps {E : dkE} {D : va_G} {cI cD : ClassId} {b L : Nat} {xs : Nat → Int32} {Mx Mm : dkM} {i : Nat} (hL : L ≤ 1536) (hi : i + 3 ≤ L) (hC : CL E D cI cD b L xs) (hS : Sim Mx Mm) (next : ∀ Mx2 Mm2 : dkM, Sim Mx2 Mm2 → VL E D cI cD b Mx2 Mm2 776 [(0, some (.ref b)), (1, some (.ref (E.2.2.2.2.1.heap.size + 0))), (2, some (.ref (E.2.2.2.2.1.heap.size + 111))), (3, some (.int (nI i)))] []) : VL E D cI cD b Mx Mm 343 [(0, some (.ref b)), (1, some (.ref (E.2.2.2.2.1.heap.size + 0))), (2, some (.ref (E.2.2.2.2.1.heap.size + 111))), (3, some (.int (nI i)))] [] := by
  have hX := hS.x
  have hI := hS.m
  have hR := hS.r
  have ht := hS.t
  have hsim := sim_steps hS (xs (i + 1))
  refine VL.aload_n hC dL_law_343 rfl ?_
  refine VL.aload_n hC dL_law_344 rfl ?_
  refine VL.iload_n hC dL_law_345 rfl ?_
  refine VL.iconst hC 1 dL_law_346 (by decide) ?_
  refine VL.iadd hC dL_law_347 ?_
  refine VL.sld hC (i + 1) (dk_addN rfl rfl) (by omega) dL_law_348 ?_
  refine VL.callX hC (As := [.int (xs (i + 1))]) (fun B => c_X4_steps (gX_cls B D cI cD) hX) mwX4_steps mlL_43 ⟨rfl, rfl⟩ dL_law_349 rfl rfl rfl rfl ?_
  refine VL.aload_n hC dL_law_352 rfl ?_
  refine VL.aload_n hC dL_law_353 rfl ?_
  refine VL.iload_n hC dL_law_354 rfl ?_
  refine VL.iconst hC 1 dL_law_355 (by decide) ?_
  refine VL.iadd hC dL_law_356 ?_
  refine VL.sld hC (i + 1) (dk_addN rfl rfl) (by omega) dL_law_357 ?_
  refine VL.callM hC (As := [.int (xs (i + 1))]) (fun B => c_X5_steps (gM_mdl B D cI cD) hI hR) mwX5_steps mlL_46 ⟨rfl, rfl⟩ dL_law_358 rfl rfl rfl rfl ?_
  refine VL.eq hC 776 dL_law_361 (by decide) hsim.1 ?_
  exact next _ _ hsim.2
set_option maxHeartbeats 1000000 in
set_option maxRecDepth 20000 in
theorem lw_case_turnBack {E : dkE} {D : va_G} {cI cD : ClassId} {b L : Nat} {xs : Nat → Int32} {Mx Mm : dkM} {i : Nat} (hL : L ≤ 1536) (hi : i + 3 ≤ L) (hC : CL E D cI cD b L xs) (hS : Sim Mx Mm) (next : ∀ Mx2 Mm2 : dkM, Sim Mx2 Mm2 → VL E D cI cD b Mx2 Mm2 776 [(0, some (.ref b)), (1, some (.ref (E.2.2.2.2.1.heap.size + 0))), (2, some (.ref (E.2.2.2.2.1.heap.size + 111))), (3, some (.int (nI i)))] []) : VL E D cI cD b Mx Mm 366 [(0, some (.ref b)), (1, some (.ref (E.2.2.2.2.1.heap.size + 0))), (2, some (.ref (E.2.2.2.2.1.heap.size + 111))), (3, some (.int (nI i)))] [] := by
  have hX := hS.x
  have hI := hS.m
  have hR := hS.r
  have ht := hS.t
  have hsim := sim_turnBack hS
  refine VL.aload_n hC dL_law_366 rfl ?_
  refine VL.callX hC (As := []) (fun B => c_X4_turnBack (gX_cls B D cI cD) hX) mwX4_turnBack mlL_47 ⟨rfl, rfl⟩ dL_law_367 rfl rfl rfl rfl ?_
  refine VL.aload_n hC dL_law_370 rfl ?_
  refine VL.callM hC (As := []) (fun B => c_X5_turnBack (gM_mdl B D cI cD) hI hR) mwX5_turnBack mlL_51 ⟨rfl, rfl⟩ dL_law_371 rfl rfl rfl rfl ?_
  refine VL.eq hC 776 dL_law_374 (by decide) hsim.1 ?_
  exact next _ _ hsim.2
set_option maxHeartbeats 1000000 in
set_option maxRecDepth 20000 in
theorem lw_case_write {E : dkE} {D : va_G} {cI cD : ClassId} {b L : Nat} {xs : Nat → Int32} {Mx Mm : dkM} {i : Nat} (hL : L ≤ 1536) (hi : i + 3 ≤ L) (hC : CL E D cI cD b L xs) (hS : Sim Mx Mm) (next : ∀ Mx2 Mm2 : dkM, Sim Mx2 Mm2 → VL E D cI cD b Mx2 Mm2 776 [(0, some (.ref b)), (1, some (.ref (E.2.2.2.2.1.heap.size + 0))), (2, some (.ref (E.2.2.2.2.1.heap.size + 111))), (3, some (.int (nI i)))] []) : VL E D cI cD b Mx Mm 379 [(0, some (.ref b)), (1, some (.ref (E.2.2.2.2.1.heap.size + 0))), (2, some (.ref (E.2.2.2.2.1.heap.size + 111))), (3, some (.int (nI i)))] [] := by
  have hX := hS.x
  have hI := hS.m
  have hR := hS.r
  have ht := hS.t
  have hsim := sim_write hS (xs (i + 1)) (xs (i + 2))
  refine VL.aload_n hC dL_law_379 rfl ?_
  refine VL.aload_n hC dL_law_380 rfl ?_
  refine VL.iload_n hC dL_law_381 rfl ?_
  refine VL.iconst hC 1 dL_law_382 (by decide) ?_
  refine VL.iadd hC dL_law_383 ?_
  refine VL.sld hC (i + 1) (dk_addN rfl rfl) (by omega) dL_law_384 ?_
  refine VL.aload_n hC dL_law_385 rfl ?_
  refine VL.iload_n hC dL_law_386 rfl ?_
  refine VL.iconst hC 2 dL_law_387 (by decide) ?_
  refine VL.iadd hC dL_law_388 ?_
  refine VL.sld hC (i + 2) (dk_addN rfl rfl) (by omega) dL_law_389 ?_
  refine VL.callX hC (As := [.int (xs (i + 1)), .int (xs (i + 2))]) (fun B => c_X4_write (gX_cls B D cI cD) hX) mwX4_write mlL_52 ⟨rfl, rfl⟩ dL_law_390 rfl rfl rfl rfl ?_
  refine VL.aload_n hC dL_law_393 rfl ?_
  refine VL.aload_n hC dL_law_394 rfl ?_
  refine VL.iload_n hC dL_law_395 rfl ?_
  refine VL.iconst hC 1 dL_law_396 (by decide) ?_
  refine VL.iadd hC dL_law_397 ?_
  refine VL.sld hC (i + 1) (dk_addN rfl rfl) (by omega) dL_law_398 ?_
  refine VL.aload_n hC dL_law_399 rfl ?_
  refine VL.iload_n hC dL_law_400 rfl ?_
  refine VL.iconst hC 2 dL_law_401 (by decide) ?_
  refine VL.iadd hC dL_law_402 ?_
  refine VL.sld hC (i + 2) (dk_addN rfl rfl) (by omega) dL_law_403 ?_
  refine VL.callM hC (As := [.int (xs (i + 1)), .int (xs (i + 2))]) (fun B => c_X5_write (gM_mdl B D cI cD) hI hR) mwX5_write mlL_55 ⟨rfl, rfl⟩ dL_law_404 rfl rfl rfl rfl ?_
  refine VL.eq hC 776 dL_law_407 (by decide) hsim.1 ?_
  exact next _ _ hsim.2
set_option maxHeartbeats 1000000 in
set_option maxRecDepth 20000 in
theorem lw_case_flush {E : dkE} {D : va_G} {cI cD : ClassId} {b L : Nat} {xs : Nat → Int32} {Mx Mm : dkM} {i : Nat} (hL : L ≤ 1536) (hi : i + 3 ≤ L) (hC : CL E D cI cD b L xs) (hS : Sim Mx Mm) (next : ∀ Mx2 Mm2 : dkM, Sim Mx2 Mm2 → VL E D cI cD b Mx2 Mm2 776 [(0, some (.ref b)), (1, some (.ref (E.2.2.2.2.1.heap.size + 0))), (2, some (.ref (E.2.2.2.2.1.heap.size + 111))), (3, some (.int (nI i)))] []) : VL E D cI cD b Mx Mm 412 [(0, some (.ref b)), (1, some (.ref (E.2.2.2.2.1.heap.size + 0))), (2, some (.ref (E.2.2.2.2.1.heap.size + 111))), (3, some (.int (nI i)))] [] := by
  have hX := hS.x
  have hI := hS.m
  have hR := hS.r
  have ht := hS.t
  have hsim := sim_flush hS
  refine VL.aload_n hC dL_law_412 rfl ?_
  refine VL.callX hC (As := []) (fun B => c_X4_flush (gX_cls B D cI cD) hX) mwX4_flush mlL_56 ⟨rfl, rfl⟩ dL_law_413 rfl rfl rfl rfl ?_
  refine VL.aload_n hC dL_law_416 rfl ?_
  refine VL.callM hC (As := []) (fun B => c_X5_flush (gM_mdl B D cI cD) hI hR) mwX5_flush mlL_59 ⟨rfl, rfl⟩ dL_law_417 rfl rfl rfl rfl ?_
  refine VL.eq hC 776 dL_law_420 (by decide) hsim.1 ?_
  exact next _ _ hsim.2
set_option maxHeartbeats 1000000 in
set_option maxRecDepth 20000 in
theorem lw_case_fail {E : dkE} {D : va_G} {cI cD : ClassId} {b L : Nat} {xs : Nat → Int32} {Mx Mm : dkM} {i : Nat} (hL : L ≤ 1536) (hi : i + 3 ≤ L) (hC : CL E D cI cD b L xs) (hS : Sim Mx Mm) (next : ∀ Mx2 Mm2 : dkM, Sim Mx2 Mm2 → VL E D cI cD b Mx2 Mm2 776 [(0, some (.ref b)), (1, some (.ref (E.2.2.2.2.1.heap.size + 0))), (2, some (.ref (E.2.2.2.2.1.heap.size + 111))), (3, some (.int (nI i)))] []) : VL E D cI cD b Mx Mm 425 [(0, some (.ref b)), (1, some (.ref (E.2.2.2.2.1.heap.size + 0))), (2, some (.ref (E.2.2.2.2.1.heap.size + 111))), (3, some (.int (nI i)))] [] := by
  have hX := hS.x
  have hI := hS.m
  have hR := hS.r
  have ht := hS.t
  have hsim := sim_fail hS
  refine VL.aload_n hC dL_law_425 rfl ?_
  refine VL.callX hC (As := []) (fun B => c_X4_fail (gX_cls B D cI cD) hX) mwX4_fail mlL_60 ⟨rfl, rfl⟩ dL_law_426 rfl rfl rfl rfl ?_
  refine VL.aload_n hC dL_law_429 rfl ?_
  refine VL.callM hC (As := []) (fun B => c_X5_fail (gM_mdl B D cI cD) hI hR) mwX5_fail mlL_63 ⟨rfl, rfl⟩ dL_law_430 rfl rfl rfl rfl ?_
  refine VL.eq hC 776 dL_law_433 (by decide) hsim.1 ?_
  exact next _ _ hsim.2
set_option maxHeartbeats 1000000 in
set_option maxRecDepth 20000 in
theorem lw_case_count {E : dkE} {D : va_G} {cI cD : ClassId} {b L : Nat} {xs : Nat → Int32} {Mx Mm : dkM} {i : Nat} (hL : L ≤ 1536) (hi : i + 3 ≤ L) (hC : CL E D cI cD b L xs) (hS : Sim Mx Mm) (next : ∀ Mx2 Mm2 : dkM, Sim Mx2 Mm2 → VL E D cI cD b Mx2 Mm2 776 [(0, some (.ref b)), (1, some (.ref (E.2.2.2.2.1.heap.size + 0))), (2, some (.ref (E.2.2.2.2.1.heap.size + 111))), (3, some (.int (nI i)))] []) : VL E D cI cD b Mx Mm 438 [(0, some (.ref b)), (1, some (.ref (E.2.2.2.2.1.heap.size + 0))), (2, some (.ref (E.2.2.2.2.1.heap.size + 111))), (3, some (.int (nI i)))] [] := by
  have hX := hS.x
  have hI := hS.m
  have hR := hS.r
  have ht := hS.t
  have hsim := sim_count hS (xs (i + 1))
  refine VL.aload_n hC dL_law_438 rfl ?_
  refine VL.aload_n hC dL_law_439 rfl ?_
  refine VL.iload_n hC dL_law_440 rfl ?_
  refine VL.iconst hC 1 dL_law_441 (by decide) ?_
  refine VL.iadd hC dL_law_442 ?_
  refine VL.sld hC (i + 1) (dk_addN rfl rfl) (by omega) dL_law_443 ?_
  refine VL.callX hC (As := [.int (xs (i + 1))]) (fun B => c_X4_count (gX_cls B D cI cD)) mwX4_count mlL_64 ⟨rfl, rfl⟩ dL_law_444 rfl rfl rfl rfl ?_
  refine VL.aload_n hC dL_law_447 rfl ?_
  refine VL.aload_n hC dL_law_448 rfl ?_
  refine VL.iload_n hC dL_law_449 rfl ?_
  refine VL.iconst hC 1 dL_law_450 (by decide) ?_
  refine VL.iadd hC dL_law_451 ?_
  refine VL.sld hC (i + 1) (dk_addN rfl rfl) (by omega) dL_law_452 ?_
  refine VL.callM hC (As := [.int (xs (i + 1))]) (fun B => c_X5_count (gM_mdl B D cI cD) hI) mwX5_count mlL_67 ⟨rfl, rfl⟩ dL_law_453 rfl rfl rfl rfl ?_
  refine VL.eq hC 776 dL_law_456 (by decide) hsim.1 ?_
  exact next _ _ hsim.2
set_option maxHeartbeats 1000000 in
set_option maxRecDepth 20000 in
theorem lw_case_read {E : dkE} {D : va_G} {cI cD : ClassId} {b L : Nat} {xs : Nat → Int32} {Mx Mm : dkM} {i : Nat} (hL : L ≤ 1536) (hi : i + 3 ≤ L) (hC : CL E D cI cD b L xs) (hS : Sim Mx Mm) (next : ∀ Mx2 Mm2 : dkM, Sim Mx2 Mm2 → VL E D cI cD b Mx2 Mm2 776 [(0, some (.ref b)), (1, some (.ref (E.2.2.2.2.1.heap.size + 0))), (2, some (.ref (E.2.2.2.2.1.heap.size + 111))), (3, some (.int (nI i)))] []) : VL E D cI cD b Mx Mm 461 [(0, some (.ref b)), (1, some (.ref (E.2.2.2.2.1.heap.size + 0))), (2, some (.ref (E.2.2.2.2.1.heap.size + 111))), (3, some (.int (nI i)))] [] := by
  have hX := hS.x
  have hI := hS.m
  have hR := hS.r
  have ht := hS.t
  have hsim := sim_read hS (xs (i + 1))
  refine VL.aload_n hC dL_law_461 rfl ?_
  refine VL.aload_n hC dL_law_462 rfl ?_
  refine VL.iload_n hC dL_law_463 rfl ?_
  refine VL.iconst hC 1 dL_law_464 (by decide) ?_
  refine VL.iadd hC dL_law_465 ?_
  refine VL.sld hC (i + 1) (dk_addN rfl rfl) (by omega) dL_law_466 ?_
  refine VL.callX hC (As := [.int (xs (i + 1))]) (fun B => c_X4_read (gX_cls B D cI cD)) mwX4_read mlL_68 ⟨rfl, rfl⟩ dL_law_467 rfl rfl rfl rfl ?_
  refine VL.aload_n hC dL_law_470 rfl ?_
  refine VL.aload_n hC dL_law_471 rfl ?_
  refine VL.iload_n hC dL_law_472 rfl ?_
  refine VL.iconst hC 1 dL_law_473 (by decide) ?_
  refine VL.iadd hC dL_law_474 ?_
  refine VL.sld hC (i + 1) (dk_addN rfl rfl) (by omega) dL_law_475 ?_
  refine VL.callM hC (As := [.int (xs (i + 1))]) (fun B => c_X5_read (gM_mdl B D cI cD) hI) mwX5_read mlL_71 ⟨rfl, rfl⟩ dL_law_476 rfl rfl rfl rfl ?_
  refine VL.eq hC 776 dL_law_479 (by decide) hsim.1 ?_
  exact next _ _ hsim.2
set_option maxHeartbeats 1000000 in
set_option maxRecDepth 20000 in
theorem lw_case_stored {E : dkE} {D : va_G} {cI cD : ClassId} {b L : Nat} {xs : Nat → Int32} {Mx Mm : dkM} {i : Nat} (hL : L ≤ 1536) (hi : i + 3 ≤ L) (hC : CL E D cI cD b L xs) (hS : Sim Mx Mm) (next : ∀ Mx2 Mm2 : dkM, Sim Mx2 Mm2 → VL E D cI cD b Mx2 Mm2 776 [(0, some (.ref b)), (1, some (.ref (E.2.2.2.2.1.heap.size + 0))), (2, some (.ref (E.2.2.2.2.1.heap.size + 111))), (3, some (.int (nI i)))] []) : VL E D cI cD b Mx Mm 484 [(0, some (.ref b)), (1, some (.ref (E.2.2.2.2.1.heap.size + 0))), (2, some (.ref (E.2.2.2.2.1.heap.size + 111))), (3, some (.int (nI i)))] [] := by
  have hX := hS.x
  have hI := hS.m
  have hR := hS.r
  have ht := hS.t
  have hsim := sim_stored hS (xs (i + 1))
  refine VL.aload_n hC dL_law_484 rfl ?_
  refine VL.aload_n hC dL_law_485 rfl ?_
  refine VL.iload_n hC dL_law_486 rfl ?_
  refine VL.iconst hC 1 dL_law_487 (by decide) ?_
  refine VL.iadd hC dL_law_488 ?_
  refine VL.sld hC (i + 1) (dk_addN rfl rfl) (by omega) dL_law_489 ?_
  refine VL.callX hC (As := [.int (xs (i + 1))]) (fun B => c_X4_stored (gX_cls B D cI cD)) mwX4_stored mlL_72 ⟨rfl, rfl⟩ dL_law_490 rfl rfl rfl rfl ?_
  refine VL.aload_n hC dL_law_493 rfl ?_
  refine VL.aload_n hC dL_law_494 rfl ?_
  refine VL.iload_n hC dL_law_495 rfl ?_
  refine VL.iconst hC 1 dL_law_496 (by decide) ?_
  refine VL.iadd hC dL_law_497 ?_
  refine VL.sld hC (i + 1) (dk_addN rfl rfl) (by omega) dL_law_498 ?_
  refine VL.callM hC (As := [.int (xs (i + 1))]) (fun B => c_X5_stored (gM_mdl B D cI cD) hI) mwX5_stored mlL_75 ⟨rfl, rfl⟩ dL_law_499 rfl rfl rfl rfl ?_
  refine VL.eq hC 776 dL_law_502 (by decide) hsim.1 ?_
  exact next _ _ hsim.2
set_option maxHeartbeats 1000000 in
set_option maxRecDepth 20000 in
theorem lw_case_keyOf {E : dkE} {D : va_G} {cI cD : ClassId} {b L : Nat} {xs : Nat → Int32} {Mx Mm : dkM} {i : Nat} (hL : L ≤ 1536) (hi : i + 3 ≤ L) (hC : CL E D cI cD b L xs) (hS : Sim Mx Mm) (next : ∀ Mx2 Mm2 : dkM, Sim Mx2 Mm2 → VL E D cI cD b Mx2 Mm2 776 [(0, some (.ref b)), (1, some (.ref (E.2.2.2.2.1.heap.size + 0))), (2, some (.ref (E.2.2.2.2.1.heap.size + 111))), (3, some (.int (nI i)))] []) : VL E D cI cD b Mx Mm 507 [(0, some (.ref b)), (1, some (.ref (E.2.2.2.2.1.heap.size + 0))), (2, some (.ref (E.2.2.2.2.1.heap.size + 111))), (3, some (.int (nI i)))] [] := by
  have hX := hS.x
  have hI := hS.m
  have hR := hS.r
  have ht := hS.t
  have hsim := sim_keyOf hS (xs (i + 1))
  refine VL.aload_n hC dL_law_507 rfl ?_
  refine VL.aload_n hC dL_law_508 rfl ?_
  refine VL.iload_n hC dL_law_509 rfl ?_
  refine VL.iconst hC 1 dL_law_510 (by decide) ?_
  refine VL.iadd hC dL_law_511 ?_
  refine VL.sld hC (i + 1) (dk_addN rfl rfl) (by omega) dL_law_512 ?_
  refine VL.callX hC (As := [.int (xs (i + 1))]) (fun B => c_X4_keyOf (gX_cls B D cI cD)) mwX4_keyOf mlL_76 ⟨rfl, rfl⟩ dL_law_513 rfl rfl rfl rfl ?_
  refine VL.aload_n hC dL_law_516 rfl ?_
  refine VL.aload_n hC dL_law_517 rfl ?_
  refine VL.iload_n hC dL_law_518 rfl ?_
  refine VL.iconst hC 1 dL_law_519 (by decide) ?_
  refine VL.iadd hC dL_law_520 ?_
  refine VL.sld hC (i + 1) (dk_addN rfl rfl) (by omega) dL_law_521 ?_
  refine VL.callM hC (As := [.int (xs (i + 1))]) (fun B => c_X5_keyOf (gM_mdl B D cI cD) hI) mwX5_keyOf mlL_79 ⟨rfl, rfl⟩ dL_law_522 rfl rfl rfl rfl ?_
  refine VL.eq hC 776 dL_law_525 (by decide) hsim.1 ?_
  exact next _ _ hsim.2
set_option maxHeartbeats 1000000 in
set_option maxRecDepth 20000 in
theorem lw_case_journal {E : dkE} {D : va_G} {cI cD : ClassId} {b L : Nat} {xs : Nat → Int32} {Mx Mm : dkM} {i : Nat} (hL : L ≤ 1536) (hi : i + 3 ≤ L) (hC : CL E D cI cD b L xs) (hS : Sim Mx Mm) (next : ∀ Mx2 Mm2 : dkM, Sim Mx2 Mm2 → VL E D cI cD b Mx2 Mm2 776 [(0, some (.ref b)), (1, some (.ref (E.2.2.2.2.1.heap.size + 0))), (2, some (.ref (E.2.2.2.2.1.heap.size + 111))), (3, some (.int (nI i)))] []) : VL E D cI cD b Mx Mm 530 [(0, some (.ref b)), (1, some (.ref (E.2.2.2.2.1.heap.size + 0))), (2, some (.ref (E.2.2.2.2.1.heap.size + 111))), (3, some (.int (nI i)))] [] := by
  have hX := hS.x
  have hI := hS.m
  have hR := hS.r
  have ht := hS.t
  have hsim := sim_journal hS (xs (i + 1))
  refine VL.aload_n hC dL_law_530 rfl ?_
  refine VL.aload_n hC dL_law_531 rfl ?_
  refine VL.iload_n hC dL_law_532 rfl ?_
  refine VL.iconst hC 1 dL_law_533 (by decide) ?_
  refine VL.iadd hC dL_law_534 ?_
  refine VL.sld hC (i + 1) (dk_addN rfl rfl) (by omega) dL_law_535 ?_
  refine VL.callX hC (As := [.int (xs (i + 1))]) (fun B => c_X4_journal (gX_cls B D cI cD)) mwX4_journal mlL_80 ⟨rfl, rfl⟩ dL_law_536 rfl rfl rfl rfl ?_
  refine VL.aload_n hC dL_law_539 rfl ?_
  refine VL.aload_n hC dL_law_540 rfl ?_
  refine VL.iload_n hC dL_law_541 rfl ?_
  refine VL.iconst hC 1 dL_law_542 (by decide) ?_
  refine VL.iadd hC dL_law_543 ?_
  refine VL.sld hC (i + 1) (dk_addN rfl rfl) (by omega) dL_law_544 ?_
  refine VL.callM hC (As := [.int (xs (i + 1))]) (fun B => c_X5_journal (gM_mdl B D cI cD) hI) mwX5_journal mlL_83 ⟨rfl, rfl⟩ dL_law_545 rfl rfl rfl rfl ?_
  refine VL.eq hC 776 dL_law_548 (by decide) hsim.1 ?_
  exact next _ _ hsim.2
set_option maxHeartbeats 1000000 in
set_option maxRecDepth 20000 in
theorem lw_case_cached {E : dkE} {D : va_G} {cI cD : ClassId} {b L : Nat} {xs : Nat → Int32} {Mx Mm : dkM} {i : Nat} (hL : L ≤ 1536) (hi : i + 3 ≤ L) (hC : CL E D cI cD b L xs) (hS : Sim Mx Mm) (next : ∀ Mx2 Mm2 : dkM, Sim Mx2 Mm2 → VL E D cI cD b Mx2 Mm2 776 [(0, some (.ref b)), (1, some (.ref (E.2.2.2.2.1.heap.size + 0))), (2, some (.ref (E.2.2.2.2.1.heap.size + 111))), (3, some (.int (nI i)))] []) : VL E D cI cD b Mx Mm 553 [(0, some (.ref b)), (1, some (.ref (E.2.2.2.2.1.heap.size + 0))), (2, some (.ref (E.2.2.2.2.1.heap.size + 111))), (3, some (.int (nI i)))] [] := by
  have hX := hS.x
  have hI := hS.m
  have hR := hS.r
  have ht := hS.t
  have hsim := sim_cached hS (xs (i + 1))
  refine VL.aload_n hC dL_law_553 rfl ?_
  refine VL.aload_n hC dL_law_554 rfl ?_
  refine VL.iload_n hC dL_law_555 rfl ?_
  refine VL.iconst hC 1 dL_law_556 (by decide) ?_
  refine VL.iadd hC dL_law_557 ?_
  refine VL.sld hC (i + 1) (dk_addN rfl rfl) (by omega) dL_law_558 ?_
  refine VL.callX hC (As := [.int (xs (i + 1))]) (fun B => c_X4_cached (gX_cls B D cI cD)) mwX4_cached mlL_84 ⟨rfl, rfl⟩ dL_law_559 rfl rfl rfl rfl ?_
  refine VL.aload_n hC dL_law_562 rfl ?_
  refine VL.aload_n hC dL_law_563 rfl ?_
  refine VL.iload_n hC dL_law_564 rfl ?_
  refine VL.iconst hC 1 dL_law_565 (by decide) ?_
  refine VL.iadd hC dL_law_566 ?_
  refine VL.sld hC (i + 1) (dk_addN rfl rfl) (by omega) dL_law_567 ?_
  refine VL.callM hC (As := [.int (xs (i + 1))]) (fun B => c_X5_cached (gM_mdl B D cI cD) hI) mwX5_cached mlL_87 ⟨rfl, rfl⟩ dL_law_568 rfl rfl rfl rfl ?_
  refine VL.eq hC 776 dL_law_571 (by decide) hsim.1 ?_
  exact next _ _ hsim.2
set_option maxHeartbeats 1000000 in
set_option maxRecDepth 20000 in
theorem lw_case_zoneStart {E : dkE} {D : va_G} {cI cD : ClassId} {b L : Nat} {xs : Nat → Int32} {Mx Mm : dkM} {i : Nat} (hL : L ≤ 1536) (hi : i + 3 ≤ L) (hC : CL E D cI cD b L xs) (hS : Sim Mx Mm) (next : ∀ Mx2 Mm2 : dkM, Sim Mx2 Mm2 → VL E D cI cD b Mx2 Mm2 776 [(0, some (.ref b)), (1, some (.ref (E.2.2.2.2.1.heap.size + 0))), (2, some (.ref (E.2.2.2.2.1.heap.size + 111))), (3, some (.int (nI i)))] []) : VL E D cI cD b Mx Mm 576 [(0, some (.ref b)), (1, some (.ref (E.2.2.2.2.1.heap.size + 0))), (2, some (.ref (E.2.2.2.2.1.heap.size + 111))), (3, some (.int (nI i)))] [] := by
  have hX := hS.x
  have hI := hS.m
  have hR := hS.r
  have ht := hS.t
  have hsim := sim_zoneStart hS
  refine VL.aload_n hC dL_law_576 rfl ?_
  refine VL.callX hC (As := []) (fun B => c_X4_zoneStart (gX_cls B D cI cD)) mwX4_zoneStart mlL_88 ⟨rfl, rfl⟩ dL_law_577 rfl rfl rfl rfl ?_
  refine VL.aload_n hC dL_law_580 rfl ?_
  refine VL.callM hC (As := []) (fun B => c_X5_zoneStart (gM_mdl B D cI cD)) mwX5_zoneStart mlL_91 ⟨rfl, rfl⟩ dL_law_581 rfl rfl rfl rfl ?_
  refine VL.eq hC 776 dL_law_584 (by decide) hsim.1 ?_
  exact next _ _ hsim.2
set_option maxHeartbeats 1000000 in
set_option maxRecDepth 20000 in
theorem lw_case_damaged {E : dkE} {D : va_G} {cI cD : ClassId} {b L : Nat} {xs : Nat → Int32} {Mx Mm : dkM} {i : Nat} (hL : L ≤ 1536) (hi : i + 3 ≤ L) (hC : CL E D cI cD b L xs) (hS : Sim Mx Mm) (next : ∀ Mx2 Mm2 : dkM, Sim Mx2 Mm2 → VL E D cI cD b Mx2 Mm2 776 [(0, some (.ref b)), (1, some (.ref (E.2.2.2.2.1.heap.size + 0))), (2, some (.ref (E.2.2.2.2.1.heap.size + 111))), (3, some (.int (nI i)))] []) : VL E D cI cD b Mx Mm 589 [(0, some (.ref b)), (1, some (.ref (E.2.2.2.2.1.heap.size + 0))), (2, some (.ref (E.2.2.2.2.1.heap.size + 111))), (3, some (.int (nI i)))] [] := by
  have hX := hS.x
  have hI := hS.m
  have hR := hS.r
  have ht := hS.t
  have hsim := sim_damaged hS
  refine VL.aload_n hC dL_law_589 rfl ?_
  refine VL.callX hC (As := []) (fun B => c_X4_damaged (gX_cls B D cI cD)) mwX4_damaged mlL_92 ⟨rfl, rfl⟩ dL_law_590 rfl rfl rfl rfl ?_
  refine VL.aload_n hC dL_law_593 rfl ?_
  refine VL.callM hC (As := []) (fun B => c_X5_damaged (gM_mdl B D cI cD) hI) mwX5_damaged mlL_95 ⟨rfl, rfl⟩ dL_law_594 rfl rfl rfl rfl ?_
  refine VL.eq hC 776 dL_law_597 (by decide) hsim.1 ?_
  exact next _ _ hsim.2
set_option maxHeartbeats 1000000 in
set_option maxRecDepth 20000 in
theorem lw_case_firstDamaged {E : dkE} {D : va_G} {cI cD : ClassId} {b L : Nat} {xs : Nat → Int32} {Mx Mm : dkM} {i : Nat} (hL : L ≤ 1536) (hi : i + 3 ≤ L) (hC : CL E D cI cD b L xs) (hS : Sim Mx Mm) (next : ∀ Mx2 Mm2 : dkM, Sim Mx2 Mm2 → VL E D cI cD b Mx2 Mm2 776 [(0, some (.ref b)), (1, some (.ref (E.2.2.2.2.1.heap.size + 0))), (2, some (.ref (E.2.2.2.2.1.heap.size + 111))), (3, some (.int (nI i)))] []) : VL E D cI cD b Mx Mm 602 [(0, some (.ref b)), (1, some (.ref (E.2.2.2.2.1.heap.size + 0))), (2, some (.ref (E.2.2.2.2.1.heap.size + 111))), (3, some (.int (nI i)))] [] := by
  have hX := hS.x
  have hI := hS.m
  have hR := hS.r
  have ht := hS.t
  have hsim := sim_firstDamaged hS
  refine VL.aload_n hC dL_law_602 rfl ?_
  refine VL.callX hC (As := []) (fun B => c_X4_firstDamaged (gX_cls B D cI cD)) mwX4_firstDamaged mlL_96 ⟨rfl, rfl⟩ dL_law_603 rfl rfl rfl rfl ?_
  refine VL.aload_n hC dL_law_606 rfl ?_
  refine VL.callM hC (As := []) (fun B => c_X5_firstDamaged (gM_mdl B D cI cD) hI) mwX5_firstDamaged mlL_99 ⟨rfl, rfl⟩ dL_law_607 rfl rfl rfl rfl ?_
  refine VL.eq hC 776 dL_law_610 (by decide) hsim.1 ?_
  exact next _ _ hsim.2
set_option maxHeartbeats 1000000 in
set_option maxRecDepth 20000 in
theorem lw_case_stepsLeft {E : dkE} {D : va_G} {cI cD : ClassId} {b L : Nat} {xs : Nat → Int32} {Mx Mm : dkM} {i : Nat} (hL : L ≤ 1536) (hi : i + 3 ≤ L) (hC : CL E D cI cD b L xs) (hS : Sim Mx Mm) (next : ∀ Mx2 Mm2 : dkM, Sim Mx2 Mm2 → VL E D cI cD b Mx2 Mm2 776 [(0, some (.ref b)), (1, some (.ref (E.2.2.2.2.1.heap.size + 0))), (2, some (.ref (E.2.2.2.2.1.heap.size + 111))), (3, some (.int (nI i)))] []) : VL E D cI cD b Mx Mm 615 [(0, some (.ref b)), (1, some (.ref (E.2.2.2.2.1.heap.size + 0))), (2, some (.ref (E.2.2.2.2.1.heap.size + 111))), (3, some (.int (nI i)))] [] := by
  have hX := hS.x
  have hI := hS.m
  have hR := hS.r
  have ht := hS.t
  have hsim := sim_stepsLeft hS
  refine VL.aload_n hC dL_law_615 rfl ?_
  refine VL.callX hC (As := []) (fun B => c_X4_stepsLeft (gX_cls B D cI cD)) mwX4_stepsLeft mlL_100 ⟨rfl, rfl⟩ dL_law_616 rfl rfl rfl rfl ?_
  refine VL.aload_n hC dL_law_619 rfl ?_
  refine VL.callM hC (As := []) (fun B => c_X5_stepsLeft (gM_mdl B D cI cD) hI) mwX5_stepsLeft mlL_103 ⟨rfl, rfl⟩ dL_law_620 rfl rfl rfl rfl ?_
  refine VL.eq hC 776 dL_law_623 (by decide) hsim.1 ?_
  exact next _ _ hsim.2
set_option maxHeartbeats 1000000 in
set_option maxRecDepth 20000 in
theorem lw_case_ifFailed {E : dkE} {D : va_G} {cI cD : ClassId} {b L : Nat} {xs : Nat → Int32} {Mx Mm : dkM} {i : Nat} (hL : L ≤ 1536) (hi : i + 3 ≤ L) (hC : CL E D cI cD b L xs) (hS : Sim Mx Mm) (next : ∀ Mx2 Mm2 : dkM, Sim Mx2 Mm2 → VL E D cI cD b Mx2 Mm2 776 [(0, some (.ref b)), (1, some (.ref (E.2.2.2.2.1.heap.size + 0))), (2, some (.ref (E.2.2.2.2.1.heap.size + 111))), (3, some (.int (nI i)))] []) : VL E D cI cD b Mx Mm 628 [(0, some (.ref b)), (1, some (.ref (E.2.2.2.2.1.heap.size + 0))), (2, some (.ref (E.2.2.2.2.1.heap.size + 111))), (3, some (.int (nI i)))] [] := by
  have hX := hS.x
  have hI := hS.m
  have hR := hS.r
  have ht := hS.t
  have hsim := sim_ifFailed hS (xs (i + 1))
  refine VL.aload_n hC dL_law_628 rfl ?_
  refine VL.aload_n hC dL_law_629 rfl ?_
  refine VL.iload_n hC dL_law_630 rfl ?_
  refine VL.iconst hC 1 dL_law_631 (by decide) ?_
  refine VL.iadd hC dL_law_632 ?_
  refine VL.sld hC (i + 1) (dk_addN rfl rfl) (by omega) dL_law_633 ?_
  refine VL.callX hC (As := [.int (xs (i + 1))]) (fun B => c_X4_ifFailed (gX_cls B D cI cD) hX) mwX4_ifFailed mlL_104 ⟨rfl, rfl⟩ dL_law_634 rfl rfl rfl rfl ?_
  refine VL.aload_n hC dL_law_637 rfl ?_
  refine VL.aload_n hC dL_law_638 rfl ?_
  refine VL.iload_n hC dL_law_639 rfl ?_
  refine VL.iconst hC 1 dL_law_640 (by decide) ?_
  refine VL.iadd hC dL_law_641 ?_
  refine VL.sld hC (i + 1) (dk_addN rfl rfl) (by omega) dL_law_642 ?_
  refine VL.callM hC (As := [.int (xs (i + 1))]) (fun B => c_X5_ifFailed (gM_mdl B D cI cD) hI) mwX5_ifFailed mlL_107 ⟨rfl, rfl⟩ dL_law_643 rfl rfl rfl rfl ?_
  refine VL.eq hC 776 dL_law_646 (by decide) hsim.1 ?_
  exact next _ _ hsim.2
set_option maxHeartbeats 1000000 in
set_option maxRecDepth 20000 in
theorem lw_case_worstTime {E : dkE} {D : va_G} {cI cD : ClassId} {b L : Nat} {xs : Nat → Int32} {Mx Mm : dkM} {i : Nat} (hL : L ≤ 1536) (hi : i + 3 ≤ L) (hC : CL E D cI cD b L xs) (hS : Sim Mx Mm) (next : ∀ Mx2 Mm2 : dkM, Sim Mx2 Mm2 → VL E D cI cD b Mx2 Mm2 776 [(0, some (.ref b)), (1, some (.ref (E.2.2.2.2.1.heap.size + 0))), (2, some (.ref (E.2.2.2.2.1.heap.size + 111))), (3, some (.int (nI i)))] []) : VL E D cI cD b Mx Mm 651 [(0, some (.ref b)), (1, some (.ref (E.2.2.2.2.1.heap.size + 0))), (2, some (.ref (E.2.2.2.2.1.heap.size + 111))), (3, some (.int (nI i)))] [] := by
  have hX := hS.x
  have hI := hS.m
  have hR := hS.r
  have ht := hS.t
  have hsim := sim_worstTime hS
  refine VL.aload_n hC dL_law_651 rfl ?_
  refine VL.callX hC (As := []) (fun B => c_X4_worstTime (gX_cls B D cI cD) hX) mwX4_worstTime mlL_108 ⟨rfl, rfl⟩ dL_law_652 rfl rfl rfl rfl ?_
  refine VL.aload_n hC dL_law_655 rfl ?_
  refine VL.callM hC (As := []) (fun B => c_X5_worstTime (gM_mdl B D cI cD) hI) mwX5_worstTime mlL_111 ⟨rfl, rfl⟩ dL_law_656 rfl rfl rfl rfl ?_
  refine VL.eq hC 776 dL_law_659 (by decide) hsim.1 ?_
  exact next _ _ hsim.2
set_option maxHeartbeats 1000000 in
set_option maxRecDepth 20000 in
theorem lw_case_ifFlushed {E : dkE} {D : va_G} {cI cD : ClassId} {b L : Nat} {xs : Nat → Int32} {Mx Mm : dkM} {i : Nat} (hL : L ≤ 1536) (hi : i + 3 ≤ L) (hC : CL E D cI cD b L xs) (hS : Sim Mx Mm) (next : ∀ Mx2 Mm2 : dkM, Sim Mx2 Mm2 → VL E D cI cD b Mx2 Mm2 776 [(0, some (.ref b)), (1, some (.ref (E.2.2.2.2.1.heap.size + 0))), (2, some (.ref (E.2.2.2.2.1.heap.size + 111))), (3, some (.int (nI i)))] []) : VL E D cI cD b Mx Mm 664 [(0, some (.ref b)), (1, some (.ref (E.2.2.2.2.1.heap.size + 0))), (2, some (.ref (E.2.2.2.2.1.heap.size + 111))), (3, some (.int (nI i)))] [] := by
  have hX := hS.x
  have hI := hS.m
  have hR := hS.r
  have ht := hS.t
  have hsim := sim_ifFlushed hS (xs (i + 1))
  refine VL.aload_n hC dL_law_664 rfl ?_
  refine VL.aload_n hC dL_law_665 rfl ?_
  refine VL.iload_n hC dL_law_666 rfl ?_
  refine VL.iconst hC 1 dL_law_667 (by decide) ?_
  refine VL.iadd hC dL_law_668 ?_
  refine VL.sld hC (i + 1) (dk_addN rfl rfl) (by omega) dL_law_669 ?_
  refine VL.callX hC (As := [.int (xs (i + 1))]) (fun B => c_X4_ifFlushed (gX_cls B D cI cD)) mwX4_ifFlushed mlL_112 ⟨rfl, rfl⟩ dL_law_670 rfl rfl rfl rfl ?_
  refine VL.aload_n hC dL_law_673 rfl ?_
  refine VL.aload_n hC dL_law_674 rfl ?_
  refine VL.iload_n hC dL_law_675 rfl ?_
  refine VL.iconst hC 1 dL_law_676 (by decide) ?_
  refine VL.iadd hC dL_law_677 ?_
  refine VL.sld hC (i + 1) (dk_addN rfl rfl) (by omega) dL_law_678 ?_
  refine VL.callM hC (As := [.int (xs (i + 1))]) (fun B => c_X5_ifFlushed (gM_mdl B D cI cD) hI) mwX5_ifFlushed mlL_115 ⟨rfl, rfl⟩ dL_law_679 rfl rfl rfl rfl ?_
  refine VL.eq hC 776 dL_law_682 (by decide) hsim.1 ?_
  exact next _ _ hsim.2
set_option maxHeartbeats 1000000 in
set_option maxRecDepth 20000 in
theorem lw_case_type {E : dkE} {D : va_G} {cI cD : ClassId} {b L : Nat} {xs : Nat → Int32} {Mx Mm : dkM} {i : Nat} (hL : L ≤ 1536) (hi : i + 3 ≤ L) (hC : CL E D cI cD b L xs) (hS : Sim Mx Mm) (next : ∀ Mx2 Mm2 : dkM, Sim Mx2 Mm2 → VL E D cI cD b Mx2 Mm2 776 [(0, some (.ref b)), (1, some (.ref (E.2.2.2.2.1.heap.size + 0))), (2, some (.ref (E.2.2.2.2.1.heap.size + 111))), (3, some (.int (nI i)))] []) : VL E D cI cD b Mx Mm 687 [(0, some (.ref b)), (1, some (.ref (E.2.2.2.2.1.heap.size + 0))), (2, some (.ref (E.2.2.2.2.1.heap.size + 111))), (3, some (.int (nI i)))] [] := by
  have hX := hS.x
  have hI := hS.m
  have hR := hS.r
  have ht := hS.t
  have hsim := sim_type hS (xs (i + 1))
  refine VL.aload_n hC dL_law_687 rfl ?_
  refine VL.aload_n hC dL_law_688 rfl ?_
  refine VL.iload_n hC dL_law_689 rfl ?_
  refine VL.iconst hC 1 dL_law_690 (by decide) ?_
  refine VL.iadd hC dL_law_691 ?_
  refine VL.sld hC (i + 1) (dk_addN rfl rfl) (by omega) dL_law_692 ?_
  refine VL.callX hC (As := [.int (xs (i + 1))]) (fun B => c_X4_type (gX_cls B D cI cD)) mwX4_type mlL_116 ⟨rfl, rfl⟩ dL_law_693 rfl rfl rfl rfl ?_
  refine VL.aload_n hC dL_law_696 rfl ?_
  refine VL.aload_n hC dL_law_697 rfl ?_
  refine VL.iload_n hC dL_law_698 rfl ?_
  refine VL.iconst hC 1 dL_law_699 (by decide) ?_
  refine VL.iadd hC dL_law_700 ?_
  refine VL.sld hC (i + 1) (dk_addN rfl rfl) (by omega) dL_law_701 ?_
  refine VL.callM hC (As := [.int (xs (i + 1))]) (fun B => c_X5_type (gM_mdl B D cI cD) ht) mwX5_type mlL_119 ⟨rfl, rfl⟩ dL_law_702 rfl rfl rfl rfl ?_
  refine VL.eq hC 776 dL_law_705 (by decide) hsim.1 ?_
  exact next _ _ hsim.2
set_option maxHeartbeats 1000000 in
set_option maxRecDepth 20000 in
theorem lw_case_clearText {E : dkE} {D : va_G} {cI cD : ClassId} {b L : Nat} {xs : Nat → Int32} {Mx Mm : dkM} {i : Nat} (hL : L ≤ 1536) (hi : i + 3 ≤ L) (hC : CL E D cI cD b L xs) (hS : Sim Mx Mm) (next : ∀ Mx2 Mm2 : dkM, Sim Mx2 Mm2 → VL E D cI cD b Mx2 Mm2 776 [(0, some (.ref b)), (1, some (.ref (E.2.2.2.2.1.heap.size + 0))), (2, some (.ref (E.2.2.2.2.1.heap.size + 111))), (3, some (.int (nI i)))] []) : VL E D cI cD b Mx Mm 710 [(0, some (.ref b)), (1, some (.ref (E.2.2.2.2.1.heap.size + 0))), (2, some (.ref (E.2.2.2.2.1.heap.size + 111))), (3, some (.int (nI i)))] [] := by
  have hX := hS.x
  have hI := hS.m
  have hR := hS.r
  have ht := hS.t
  have hsim := sim_clearText hS
  refine VL.aload_n hC dL_law_710 rfl ?_
  refine VL.callX hC (As := []) (fun B => c_X4_clearText (gX_cls B D cI cD)) mwX4_clearText mlL_120 ⟨rfl, rfl⟩ dL_law_711 rfl rfl rfl rfl ?_
  refine VL.aload_n hC dL_law_714 rfl ?_
  refine VL.callM hC (As := []) (fun B => c_X5_clearText (gM_mdl B D cI cD)) mwX5_clearText mlL_123 ⟨rfl, rfl⟩ dL_law_715 rfl rfl rfl rfl ?_
  refine VL.eq hC 776 dL_law_718 (by decide) hsim.1 ?_
  exact next _ _ hsim.2
set_option maxHeartbeats 1000000 in
set_option maxRecDepth 20000 in
theorem lw_case_syntaxError {E : dkE} {D : va_G} {cI cD : ClassId} {b L : Nat} {xs : Nat → Int32} {Mx Mm : dkM} {i : Nat} (hL : L ≤ 1536) (hi : i + 3 ≤ L) (hC : CL E D cI cD b L xs) (hS : Sim Mx Mm) (next : ∀ Mx2 Mm2 : dkM, Sim Mx2 Mm2 → VL E D cI cD b Mx2 Mm2 776 [(0, some (.ref b)), (1, some (.ref (E.2.2.2.2.1.heap.size + 0))), (2, some (.ref (E.2.2.2.2.1.heap.size + 111))), (3, some (.int (nI i)))] []) : VL E D cI cD b Mx Mm 723 [(0, some (.ref b)), (1, some (.ref (E.2.2.2.2.1.heap.size + 0))), (2, some (.ref (E.2.2.2.2.1.heap.size + 111))), (3, some (.int (nI i)))] [] := by
  have hX := hS.x
  have hI := hS.m
  have hR := hS.r
  have ht := hS.t
  have hsim := sim_syntaxError hS
  refine VL.aload_n hC dL_law_723 rfl ?_
  refine VL.callX hC (As := []) (fun B => c_X4_syntaxError (gX_cls B D cI cD)) mwX4_syntaxError mlL_124 ⟨rfl, rfl⟩ dL_law_724 rfl rfl rfl rfl ?_
  refine VL.aload_n hC dL_law_727 rfl ?_
  refine VL.callM hC (As := []) (fun B => c_X5_syntaxError (gM_mdl B D cI cD) ht) mwX5_syntaxError mlL_127 ⟨rfl, rfl⟩ dL_law_728 rfl rfl rfl rfl ?_
  refine VL.eq hC 776 dL_law_731 (by decide) hsim.1 ?_
  exact next _ _ hsim.2
set_option maxHeartbeats 1000000 in
set_option maxRecDepth 20000 in
theorem lw_case_carryOut {E : dkE} {D : va_G} {cI cD : ClassId} {b L : Nat} {xs : Nat → Int32} {Mx Mm : dkM} {i : Nat} (hL : L ≤ 1536) (hi : i + 3 ≤ L) (hC : CL E D cI cD b L xs) (hS : Sim Mx Mm) (next : ∀ Mx2 Mm2 : dkM, Sim Mx2 Mm2 → VL E D cI cD b Mx2 Mm2 776 [(0, some (.ref b)), (1, some (.ref (E.2.2.2.2.1.heap.size + 0))), (2, some (.ref (E.2.2.2.2.1.heap.size + 111))), (3, some (.int (nI i)))] []) : VL E D cI cD b Mx Mm 736 [(0, some (.ref b)), (1, some (.ref (E.2.2.2.2.1.heap.size + 0))), (2, some (.ref (E.2.2.2.2.1.heap.size + 111))), (3, some (.int (nI i)))] [] := by
  have hX := hS.x
  have hI := hS.m
  have hR := hS.r
  have ht := hS.t
  have hsim := sim_carryOut hS
  refine VL.aload_n hC dL_law_736 rfl ?_
  refine VL.callX hC (As := []) (fun B => c_X4_carryOut (gX_cls B D cI cD) hX) mwX4_carryOut mlL_128 ⟨rfl, rfl⟩ dL_law_737 rfl rfl rfl rfl ?_
  refine VL.aload_n hC dL_law_740 rfl ?_
  refine VL.callM hC (As := []) (fun B => c_X5_carryOut (gM_mdl B D cI cD) hI hR ht) mwX5_carryOut mlL_131 ⟨rfl, rfl⟩ dL_law_741 rfl rfl rfl rfl ?_
  refine VL.eq hC 776 dL_law_744 (by decide) hsim.1 ?_
  exact next _ _ hsim.2
set_option maxHeartbeats 1000000 in
set_option maxRecDepth 20000 in
theorem lw_case_undo {E : dkE} {D : va_G} {cI cD : ClassId} {b L : Nat} {xs : Nat → Int32} {Mx Mm : dkM} {i : Nat} (hL : L ≤ 1536) (hi : i + 3 ≤ L) (hC : CL E D cI cD b L xs) (hS : Sim Mx Mm) (next : ∀ Mx2 Mm2 : dkM, Sim Mx2 Mm2 → VL E D cI cD b Mx2 Mm2 776 [(0, some (.ref b)), (1, some (.ref (E.2.2.2.2.1.heap.size + 0))), (2, some (.ref (E.2.2.2.2.1.heap.size + 111))), (3, some (.int (nI i)))] []) : VL E D cI cD b Mx Mm 749 [(0, some (.ref b)), (1, some (.ref (E.2.2.2.2.1.heap.size + 0))), (2, some (.ref (E.2.2.2.2.1.heap.size + 111))), (3, some (.int (nI i)))] [] := by
  have hX := hS.x
  have hI := hS.m
  have hR := hS.r
  have ht := hS.t
  have hsim := sim_undo hS
  refine VL.aload_n hC dL_law_749 rfl ?_
  refine VL.callX hC (As := []) (fun B => c_X4_undo (gX_cls B D cI cD) hX) mwX4_undo mlL_132 ⟨rfl, rfl⟩ dL_law_750 rfl rfl rfl rfl ?_
  refine VL.aload_n hC dL_law_753 rfl ?_
  refine VL.callM hC (As := []) (fun B => c_X5_undo (gM_mdl B D cI cD) hR) mwX5_undo mlL_135 ⟨rfl, rfl⟩ dL_law_754 rfl rfl rfl rfl ?_
  refine VL.eq hC 776 dL_law_757 (by decide) hsim.1 ?_
  exact next _ _ hsim.2
set_option maxHeartbeats 1000000 in
set_option maxRecDepth 20000 in
theorem lw_case_digest {E : dkE} {D : va_G} {cI cD : ClassId} {b L : Nat} {xs : Nat → Int32} {Mx Mm : dkM} {i : Nat} (hL : L ≤ 1536) (hi : i + 3 ≤ L) (hC : CL E D cI cD b L xs) (hS : Sim Mx Mm) (next : ∀ Mx2 Mm2 : dkM, Sim Mx2 Mm2 → VL E D cI cD b Mx2 Mm2 776 [(0, some (.ref b)), (1, some (.ref (E.2.2.2.2.1.heap.size + 0))), (2, some (.ref (E.2.2.2.2.1.heap.size + 111))), (3, some (.int (nI i)))] []) : VL E D cI cD b Mx Mm 762 [(0, some (.ref b)), (1, some (.ref (E.2.2.2.2.1.heap.size + 0))), (2, some (.ref (E.2.2.2.2.1.heap.size + 111))), (3, some (.int (nI i)))] [] := by
  have hX := hS.x
  have hI := hS.m
  have hR := hS.r
  have ht := hS.t
  have hsim := sim_digest hS
  refine VL.aload_n hC dL_law_762 rfl ?_
  refine VL.callX hC (As := []) (fun B => c_X4_digest (gX_cls B D cI cD)) mwX4_digest mlL_136 ⟨rfl, rfl⟩ dL_law_763 rfl rfl rfl rfl ?_
  refine VL.aload_n hC dL_law_766 rfl ?_
  refine VL.callM hC (As := []) (fun B => c_X5_digest (gM_mdl B D cI cD) hI) mwX5_digest mlL_140 ⟨rfl, rfl⟩ dL_law_767 rfl rfl rfl rfl ?_
  refine VL.lcmp hC dL_law_770 ?_
  refine VL.if0 hC 776 dL_law_771 (by decide) (lg_eq0 hsim.1) ?_
  exact next _ _ hsim.2
set_option maxHeartbeats 1000000 in
set_option maxRecDepth 20000 in
theorem lw_loop {E : dkE} {D : va_G} {cI cD : ClassId} {b L : Nat} {xs : Nat → Int32} (hL : L ≤ 1536) (hC : CL E D cI cD b L xs) : ∀ (n i : Nat) (Mx Mm : dkM), i ≤ L + 3 → L < i + n → Sim Mx Mm → VL E D cI cD b Mx Mm 18 [(0, some (.ref b)), (1, some (.ref (E.2.2.2.2.1.heap.size + 0))), (2, some (.ref (E.2.2.2.2.1.heap.size + 111))), (3, some (.int (nI i)))] [] := by
  intro n
  induction n with
  | zero =>
    intro i Mx Mm h1 h2 hS
    refine VL.iload_n hC dL_law_18 rfl ?_
    refine VL.aload_n hC dL_law_19 rfl ?_
    refine VL.slen hC dL_law_20 ?_
    refine VL.iconst hC 3 dL_law_21 (by decide) ?_
    refine VL.isub hC dL_law_22 ?_
    have e3 : (3 : Int32).toInt = 3 := by decide
    have eL : (nI L - 3).toInt = (L : Int) - 3 := by rw [tI_sub (by rw [nI_toInt (by omega), e3]; omega) (by rw [nI_toInt (by omega), e3]; omega), nI_toInt (by omega), e3]
    refine VL.icmp_gt hC 782 dL_law_23 (by decide) (fun _ => ?_) (fun c => ?_)
    · refine VL.iconst hC 1 dL_law_782 (by decide) ?_
      exact VL.ret hC dL_law_783
    · rw [tI_lt, eL, nI_toInt (by omega)] at c
      omega
  | succ n ih =>
    intro i Mx Mm h1 h2 hS
    refine VL.iload_n hC dL_law_18 rfl ?_
    refine VL.aload_n hC dL_law_19 rfl ?_
    refine VL.slen hC dL_law_20 ?_
    refine VL.iconst hC 3 dL_law_21 (by decide) ?_
    refine VL.isub hC dL_law_22 ?_
    have e3 : (3 : Int32).toInt = 3 := by decide
    have eL : (nI L - 3).toInt = (L : Int) - 3 := by rw [tI_sub (by rw [nI_toInt (by omega), e3]; omega) (by rw [nI_toInt (by omega), e3]; omega), nI_toInt (by omega), e3]
    refine VL.icmp_gt hC 782 dL_law_23 (by decide) (fun _ => ?_) (fun c => ?_)
    · refine VL.iconst hC 1 dL_law_782 (by decide) ?_
      exact VL.ret hC dL_law_783
    · rw [tI_lt, eL, nI_toInt (by omega)] at c
      have hi : i + 3 ≤ L := by omega
      have next : ∀ Mx2 Mm2 : dkM, Sim Mx2 Mm2 → VL E D cI cD b Mx2 Mm2 776 [(0, some (.ref b)), (1, some (.ref (E.2.2.2.2.1.heap.size + 0))), (2, some (.ref (E.2.2.2.2.1.heap.size + 111))), (3, some (.int (nI i)))] [] := by
        intro Mx2 Mm2 hS2
        refine VL.iinc hC dL_law_776 rfl (v := nI (i + 3)) (by rw [show Int32.ofInt 3 = nI 3 from by decide, nI_add]) rfl ?_
        refine VL.goto hC 18 dL_law_779 (by decide) ?_
        refine VL.sub ?_ (ih (i + 3) Mx2 Mm2 (by omega) (by omega) hS2)
        exact dk_sc rfl (dk_sc rfl (dk_sc rfl (dk_sc rfl dk_sn)))
      refine VL.aload_n hC dL_law_26 rfl ?_
      refine VL.iload_n hC dL_law_27 rfl ?_
      refine VL.sld hC i rfl (by omega) dL_law_28 ?_
      refine VL.bipush hC 31 dL_law_29 (by decide) ?_
      refine VL.iand hC dL_law_31 ?_
      obtain ⟨j, hj, he⟩ := pk_andE (xs i) (m := 31) 5 (by decide)
      refine VL.top (congrArg Value.int he) ?_
      match j, hj with
      | 0, _ => exact VL.swt hC 172 dL_law_32 (by decide) (lw_case_format hL hi hC hS next)
      | 1, _ => exact VL.swt hC 195 dL_law_32 (by decide) (lw_case_addKey hL hi hC hS next)
      | 2, _ => exact VL.swt hC 228 dL_law_32 (by decide) (lw_case_removeKey hL hi hC hS next)
      | 3, _ => exact VL.swt hC 251 dL_law_32 (by decide) (lw_case_secretOf hL hi hC hS next)
      | 4, _ => exact VL.swt hC 274 dL_law_32 (by decide) (lw_case_setZone hL hi hC hS next)
      | 5, _ => exact VL.swt hC 297 dL_law_32 (by decide) (lw_case_setJournal hL hi hC hS next)
      | 6, _ => exact VL.swt hC 320 dL_law_32 (by decide) (lw_case_start hL hi hC hS next)
      | 7, _ => exact VL.swt hC 343 dL_law_32 (by decide) (lw_case_steps hL hi hC hS next)
      | 8, _ => exact VL.swt hC 366 dL_law_32 (by decide) (lw_case_turnBack hL hi hC hS next)
      | 9, _ => exact VL.swt hC 379 dL_law_32 (by decide) (lw_case_write hL hi hC hS next)
      | 10, _ => exact VL.swt hC 412 dL_law_32 (by decide) (lw_case_flush hL hi hC hS next)
      | 11, _ => exact VL.swt hC 425 dL_law_32 (by decide) (lw_case_fail hL hi hC hS next)
      | 12, _ => exact VL.swt hC 438 dL_law_32 (by decide) (lw_case_count hL hi hC hS next)
      | 13, _ => exact VL.swt hC 461 dL_law_32 (by decide) (lw_case_read hL hi hC hS next)
      | 14, _ => exact VL.swt hC 484 dL_law_32 (by decide) (lw_case_stored hL hi hC hS next)
      | 15, _ => exact VL.swt hC 507 dL_law_32 (by decide) (lw_case_keyOf hL hi hC hS next)
      | 16, _ => exact VL.swt hC 530 dL_law_32 (by decide) (lw_case_journal hL hi hC hS next)
      | 17, _ => exact VL.swt hC 553 dL_law_32 (by decide) (lw_case_cached hL hi hC hS next)
      | 18, _ => exact VL.swt hC 576 dL_law_32 (by decide) (lw_case_zoneStart hL hi hC hS next)
      | 19, _ => exact VL.swt hC 589 dL_law_32 (by decide) (lw_case_damaged hL hi hC hS next)
      | 20, _ => exact VL.swt hC 602 dL_law_32 (by decide) (lw_case_firstDamaged hL hi hC hS next)
      | 21, _ => exact VL.swt hC 615 dL_law_32 (by decide) (lw_case_stepsLeft hL hi hC hS next)
      | 22, _ => exact VL.swt hC 628 dL_law_32 (by decide) (lw_case_ifFailed hL hi hC hS next)
      | 23, _ => exact VL.swt hC 651 dL_law_32 (by decide) (lw_case_worstTime hL hi hC hS next)
      | 24, _ => exact VL.swt hC 664 dL_law_32 (by decide) (lw_case_ifFlushed hL hi hC hS next)
      | 25, _ => exact VL.swt hC 687 dL_law_32 (by decide) (lw_case_type hL hi hC hS next)
      | 26, _ => exact VL.swt hC 710 dL_law_32 (by decide) (lw_case_clearText hL hi hC hS next)
      | 27, _ => exact VL.swt hC 723 dL_law_32 (by decide) (lw_case_syntaxError hL hi hC hS next)
      | 28, _ => exact VL.swt hC 736 dL_law_32 (by decide) (lw_case_carryOut hL hi hC hS next)
      | 29, _ => exact VL.swt hC 749 dL_law_32 (by decide) (lw_case_undo hL hi hC hS next)
      | 30, _ => exact VL.swt hC 762 dL_law_32 (by decide) (lw_case_digest hL hi hC hS next)
      | 31, _ => exact VL.swd hC 776 dL_law_32 (by decide) (by decide) (next _ _ hS)
      | j + 32, h => exact absurd h (by omega)
theorem lw_ao : Cond.arrayOver (.object RX0) ∈ lw_tbl := List.mem_append_right _ (List.mem_of_getElem? (i := 112) (by decide +kernel))
theorem lw_nest : Cond.methodLinkNest RX4 28 yX3_init "DiskRekeying" ∈ lw_tbl := List.mem_append_right _ (List.mem_of_getElem? (i := 126) (by decide +kernel))
theorem clL_7 : Cond.classLink R_law 7 RX4 ∈ dk_tbl := dk_tw 8 (by decide +kernel)
theorem clL_10 : Cond.classLink R_law 10 RX5 ∈ dk_tbl := dk_tw 561 (by decide +kernel)
/-- the law's beginning, over cells in the order in which they are made -/
def VB (E : dkE) (D : va_G) (cI cD : ClassId) (b : Nat) (X : dkX) (n c0 s0 pc : Nat) (lv : dkL) (st : List Value) : Prop := match E with
  | (p, l, e, _, s, m, _, below, meth, c) => ∀ (H : Heap) (locs : List Loc) (ls : Array Slot), (∀ o, o < n → va_at D vwCl (s.heap.size + o, X o) H) → H.size = s.heap.size + n → va_S (fun q : Nat => s.heap.size ≤ q) s.heap H locs → dk_has ls 4 lv →
    W p l e room_1 s m #[Value.ref b] below meth c H locs c0 s0 (lw_Z below #[Value.ref b] s) (F0 m pc ls st)
section VBR
variable {E : dkE} {D : va_G} {cI cD : ClassId} {b L n c0 s0 : Nat} {xs : Nat → Int32} {X : dkX} {pc : Nat} {lv : dkL} {st : List Value}
theorem VB.new (C : CL E D cI cD b L xs) {Cn : String} {Tn : u_T} {N ci idx : Nat} {fs : List Value} (hin : ∀ w ∈ u_ws Cn Tn N, w ∈ dk_tbl) (ty : Nat → FieldType) (hty : ∀ k, k < N → parseFieldDescriptor (Tn k).2.2.1 = some (ty k)) (hcl : Cond.classLink R_law idx Cn ∈ dk_tbl) (hins : Cond.instantiable Cn N ∈ dk_tbl) (hini : Cond.initialized Cn ∈ dk_tbl) (hc : vwCl[ci]? = some (Cn, Tn, N)) (hfs : ∀ j, j < N → defaultValue (ty j) = vp_V fs j) (hcs : c0 + 1 ≤ 600000 ∧ s0 + N ≤ 7302250) (d : decode code pc = .ok (.new idx, 3))
    (kk : VB E D cI cD b (dk_up X n (.inr (ci, fs))) (n + 1) (c0 + 1) (s0 + N) (pc + 3) lv (.ref (E.2.2.2.2.1.heap.size + n) :: st)) : VB E D cI cD b X n c0 s0 pc lv st := by
  obtain ⟨p, l, e, R, s, m, args, below, meth, c⟩ := E
  intro H locs ls hR hz hS hls
  obtain ⟨hx, hb, hret, hml, hown, hts, hXs, hbl, hlk, hK⟩ := C
  have hK' : va_K D vwCl [(cI, .int), (cD, .object RX0)] s := hK
  have hKn := hK'.1 ci _ hc
  refine W.newcK hx hb hown (hts _ hcl) (hts _ hins) (hts _ hini) rfl d hcs.1 hcs.2 hKn.2.1 hz fun H1 kC hkC e1 z1 o1 => ?_
  refine kk H1 locs ls (fun o ho => ?_) z1 ⟨by rw [z1]; have := hS.1; omega, fun q h1 h2 => (o1 q (by have := hS.1; omega)).trans (hS.2.1 q h1 h2), hS.2.2⟩ hls
  unfold dk_up
  split
  · rename_i h; subst h; exact ⟨_, hc, (u_born ty hts hin hKn hkC e1 hty).to hfs⟩
  · exact (hR o (by omega)).kept (o1 _ (by show s.heap.size + o < s.heap.size + n; omega))
theorem VB.dup (C : CL E D cI cD b L xs) {v : Value} (d : decode code pc = .ok (.dup, 1)) (hv : v.category = 1) (kk : VB E D cI cD b X n c0 s0 (pc + 1) lv (v :: v :: st)) : VB E D cI cD b X n c0 s0 pc lv (v :: st) := by
  obtain ⟨p, l, e, R, s, m, args, below, meth, c⟩ := E
  intro H locs ls hR hz hS hls
  exact lv_dup C.1 C.2.1 d hv (kk H locs ls hR hz hS hls)
theorem VB.astore_n (C : CL E D cI cD b L xs) {k : Fin 4} {x : Nat} (d : decode code pc = .ok (.astore_n k, 1)) (hc : dk_chk lv k = true) (kk : VB E D cI cD b X n c0 s0 (pc + 1) ((k.val, some (.ref x)) :: lv) st) : VB E D cI cD b X n c0 s0 pc lv (.ref x :: st) := by
  obtain ⟨p, l, e, R, s, m, args, below, meth, c⟩ := E
  intro H locs ls hR hz hS hls
  exact lv_astore_n C.1 C.2.1 d rfl hls.lv k.isLt rfl (fun ls' h' => kk H locs ls' hR hz hS (hls.set1 hc h'))
theorem VB.istore_n (C : CL E D cI cD b L xs) {k : Fin 4} {x : Int32} (d : decode code pc = .ok (.istore_n k, 1)) (hc : dk_chk lv k = true) (kk : VB E D cI cD b X n c0 s0 (pc + 1) ((k.val, some (.int x)) :: lv) st) : VB E D cI cD b X n c0 s0 pc lv (.int x :: st) := by
  obtain ⟨p, l, e, R, s, m, args, below, meth, c⟩ := E
  intro H locs ls hR hz hS hls
  exact lv_istore_n C.1 C.2.1 d rfl hls.lv k.isLt rfl (fun ls' h' => kk H locs ls' hR hz hS (hls.set1 hc h'))
theorem VB.iconst (C : CL E D cI cD b L xs) {z : Int} (v : Int32) (d : decode code pc = .ok (.iconst z, 1)) (hv : Int32.ofInt z = v) (kk : VB E D cI cD b X n c0 s0 (pc + 1) lv (.int v :: st)) : VB E D cI cD b X n c0 s0 pc lv st := by
  obtain ⟨p, l, e, R, s, m, args, below, meth, c⟩ := E
  intro H locs ls hR hz hS hls
  exact lv_iconst C.1 C.2.1 d hv (kk H locs ls hR hz hS hls)
theorem VB.callX (C : CL E D cI cD b L xs) (hN : match E with | (_, _, _, _, s, _, _, _, _, _) => dk_N s) {Cn : String} {y : MethodName} {cc' : ByteArray} {nL' fr' lo' mc' ms' idx o : Nat} {X2 : dkX} {n2 : Nat} (hc : dk_ConX E.2.1 y cc' nL' fr' lo' mc' ms' (gX E.2.2.2.2.1.heap.size D cI cD) [.ref (E.2.2.2.2.1.heap.size + o)] X n X2 n2)
    (w : dk_mi Cn y cc' nL' none 0) (hy : y.name = "<init>") (hl : Cond.methodLink R_law idx y ∈ dk_tbl) (hrm : Nat.ble (fr' + 1) 12 = true ∧ Nat.ble (8 + (nL' + 11) + lo') 430 = true) (hcs : c0 + mc' ≤ 600000 ∧ s0 + ms' ≤ 7302250) (d : decode code pc = .ok (.invokespecial idx, 3)) (hw : Nat.ble (st.map fun v => v.category).sum 8 = true)
    (kk : VB E D cI cD b X2 n2 (c0 + mc') (s0 + ms') (pc + 3) lv st) : VB E D cI cD b X n c0 s0 pc lv (.ref (E.2.2.2.2.1.heap.size + o) :: st) := by
  obtain ⟨p, l, e, R, s, m, args, below, meth, c⟩ := E
  intro H locs ls hR hz hSt hls
  obtain ⟨hx, hb, hret, hml, hown, hts, hXs, hbl, hlk, hK⟩ := C
  have hRX : dk_RX (gX s.heap.size D cI cD) X n H := ⟨hz, hR⟩
  have hcw := cwI (R := room_1) (s := s) (args := #[Value.ref b]) (own := R_law) (index := idx) (y := y) (bytes := cc') (maxL := nL') (ws := .code y cc' nL' none :: dk_tbl) (rm := { frames := fr', cells := mc', slots := ms', locals := lo' }) (mc := mc') (ms := ms') 0 hts (dk_goodIn w.1.2.2.1) rfl rfl rfl (w.1.1.1 ▸ hts _ w.1.2.2.2) (hts _ hl) (hts _ w.2) hy ⟨w.1.1.2.1, w.1.1.2.2.1, w.1.1.2.2.2⟩ ⟨Nat.le_of_ble_eq_true hrm.1, Nat.le_of_ble_eq_true hrm.2⟩
  have hrun := va_runI (p := p) (l := l) (e := e) (R := room_1) (s := s) (m := m) (args := #[Value.ref b]) (below := below) (meth := meth) (c := c) (H := H) (locs := locs) (cells := c0) (slots := s0) (As := []) (rest := st) (g := F0 m pc ls (.ref (s.heap.size + o) :: st)) ⟨hx, hb, hml, hown, hts⟩ hc hcw ⟨dk_blindX _ _ _ _, fun U hU hW => ⟨rfl, by rw [hU]; exact hRX, va_K.moved hW.alike hK, dk_N.warm hW hN⟩⟩ rfl rfl hls.1 rfl (lv_room (dk_wt hw)) d hcs
  intro T' hT' Y
  obtain ⟨v, st₀, t, T2, Lc, h0, Y', hLc, q1, q2, ⟨hv, hR3, hF1, hF2⟩, stp⟩ := hrun T' hT' Y
  cases hv
  rw [h0] at hF1 hF2
  obtain ⟨t2, a1, b1⟩ := kk T2.heap (locs ++ Lc) ls (by rw [q1]; exact hR3.2) (by rw [q1]; exact hR3.1) ⟨by rw [q1]; exact Nat.le_trans hSt.1 hF1, fun q g1 g2 => by
      rw [q1, hF2 q (Nat.lt_of_lt_of_le g1 hSt.1) (fun z => g2 z)]; exact hSt.2.1 q g1 g2, fun q hq => by
      rcases List.mem_append.mp hq with h | h
      · exact hSt.2.2 q h
      · exact hLc q h⟩ hls T2 rfl Y'
  exact ⟨t2, stp t2 a1, b1⟩
set_option maxHeartbeats 4000000 in
set_option maxRecDepth 100000 in
theorem lw_begin (hL : L ≤ 1536) (C : CL E D cI cD b L xs) (hK : match E with | (_, _, _, _, s, _, _, _, _, _) => dk_K (gX s.heap.size D cI cD) s) (hN : match E with | (_, _, _, _, s, _, _, _, _, _) => dk_N s) {X : dkX} : VB E D cI cD b X 0 0 0 0 [(0, some (.ref b))] [] := by
  refine VB.new C (ci := 4) (Cn := RX4) (Tn := TX4) (N := 4) (fs := [.null, .null, .null, .null]) uwX4 tyX4 tyX4_ok clL_7 insX4 iniX4 rfl (fun j hj => by rcases (show j = 0 ∨ j = 1 ∨ j = 2 ∨ j = 3 by omega) with rfl | rfl | rfl | rfl <;> rfl) ⟨by omega, by omega⟩ dL_law_0 ?_
  refine VB.dup C dL_law_3 rfl ?_
  refine VB.callX C hN (nL' := 1) (fr' := 5) (lo' := 107) (mc' := 110) (ms' := 3603) (o := 0) (n2 := 111) (c_X4_init (G := gX E.2.2.2.2.1.heap.size D cI cD) dk_up_s) mwX4_init rfl mlL_9 ⟨rfl, rfl⟩ ⟨by omega, by omega⟩ dL_law_4 rfl ?_
  refine VB.astore_n C dL_law_7 rfl ?_
  refine VB.new C (ci := 5) (Cn := RX5) (Tn := TX5) (N := 13) (fs := [.null, .null, .null, .null, .int 0, .null, .int 0, .null, .int 0, .int 0, .int 0, .int 0, .int 0]) uwX5 tyX5 tyX5_ok clL_10 insX5 iniX5 rfl (fun j hj => by rcases (show j = 0 ∨ j = 1 ∨ j = 2 ∨ j = 3 ∨ j = 4 ∨ j = 5 ∨ j = 6 ∨ j = 7 ∨ j = 8 ∨ j = 9 ∨ j = 10 ∨ j = 11 ∨ j = 12 by omega) with rfl | rfl | rfl | rfl | rfl | rfl | rfl | rfl | rfl | rfl | rfl | rfl | rfl <;> rfl) ⟨by omega, by omega⟩ dL_law_8 ?_
  refine VB.dup C dL_law_11 rfl ?_
  refine VB.callX C hN (nL' := 2) (fr' := 3) (lo' := 63) (mc' := 6) (ms' := 3447) (o := 111) (n2 := 118) (c_X5_init (G := gX E.2.2.2.2.1.heap.size D cI cD) dk_up_s) mwX5_init rfl mlL_12 ⟨rfl, rfl⟩ ⟨by omega, by omega⟩ dL_law_12 rfl ?_
  refine VB.astore_n C dL_law_15 rfl ?_
  refine VB.iconst C 0 dL_law_16 (by decide) ?_
  refine VB.istore_n C dL_law_17 rfl ?_
  have k := VL.sub (lv := [(3, some (.int 0)), (2, some (.ref (E.2.2.2.2.1.heap.size + 111))), (1, some (.ref (E.2.2.2.2.1.heap.size + 0))), (0, some (.ref b))]) (dk_sc rfl (dk_sc rfl (dk_sc rfl (dk_sc rfl dk_sn)))) (lw_loop hL C (L + 1) 0 x0 m0 (by omega) (by omega) sim_0)
  obtain ⟨p, l, e, R, s, m, args, below, meth, c⟩ := E
  intro H locs ls hR hz hS hls
  refine k H locs ls (fun o ho => ?_) (fun o ho => ?_) hz hS hls
  · have h := hR o (by have : o < 111 := ho; omega)
    unfold dk_mix at h
    have ho' : o < 111 := ho
    rw [if_neg (by omega), dk_up_n (by omega), if_pos ⟨Nat.zero_le _, ho'⟩] at h
    exact h
  · have h := hR o ho.2
    unfold dk_mix at h
    rw [if_pos ho] at h
    exact h
end VBR
theorem dk_links {s : State} {args : Array Value} (hts : ∀ w ∈ lw_tbl, w.before args s = true) (dC : Nat → ClassId) (dI : Nat → Nat → Nat) (hKc : ∀ (k : Nat) (q : vw_C), vwCl[k]? = some q → u_Kn s q.1 q.2.1 q.2.2 (dC k) (dI k)) : ∃ (cI cD : ClassId), va_K (dC, dI) vwCl [(cI, .int), (cD, .object RX0)] s := by
  have h1 : (Cond.arrayClass .int).before args s = true := hts _ (List.mem_filter.mp arrI).1
  have h2 : (Cond.arrayOver (.object RX0)).before args s = true := hts _ lw_ao
  obtain ⟨cI, kI, compI, a1, a2, a3⟩ := Cond.arrayClass_spec h1
  obtain ⟨comp, cD, kD, b1, -, b2, b3, b4⟩ := Cond.arrayOver_spec h2
  refine ⟨cI, cD, hKc, fun k q hq => ?_⟩
  match k, hq with
  | 0, hq => cases hq; exact ⟨fun n z => ⟨fun k h => (by cases h), kI, a2, compI, a3⟩, a1⟩
  | 1, hq => cases hq; exact ⟨fun n z => ⟨fun k h => (by cases h), kD, b2, comp, b3⟩, kD, comp, b2, b3, b1, b4⟩
  | k + 2, hq => simp at hq
/-- THE LAW, from its entry -/
theorem whole_start {p : Program} {e : Env} {s : State} {m : MethodId} {below : List Frame} {meth : Method} {c : Code} (l : Launch) (hflags : l.flags = flags0) {b L : Nat} {xs : Nat → Int32} (hL : L ≤ 1536) (C0 : lw_At p s m meth c b L xs) : W p l e room_1 s m #[Value.ref b] below meth c s.heap [] 0 0 (lw_Z below #[Value.ref b] s) (entryFrame m ([Value.ref b] : List Value).toArray 4) := by
  obtain ⟨hx, hb, hr, hml, hown, hts, hX, hbl, hlocks, hgv⟩ := id C0
  have htd : ∀ w ∈ dk_tbl, w.before #[Value.ref b] s = true := fun w hw => hts w (List.mem_filter.mp hw).1
  obtain ⟨c0, iS0, hKn0⟩ := u_known (C := RX0) (T := TX0) (N := 15) (n := 15) htd uwX0 (htd _ insX0)
  obtain ⟨c1, iS1, hKn1⟩ := u_known (C := RX1) (T := TX1) (N := 3) (n := 3) htd uwX1 (htd _ insX1)
  obtain ⟨c2, iS2, hKn2⟩ := u_known (C := RX2) (T := TX2) (N := 1) (n := 1) htd uwX2 (htd _ insX2)
  obtain ⟨c3, iS3, hKn3⟩ := u_known (C := RX3) (T := TX3) (N := 5) (n := 5) htd uwX3 (htd _ insX3)
  obtain ⟨c4, iS4, hKn4⟩ := u_known (C := RX4) (T := TX4) (N := 4) (n := 4) htd uwX4 (htd _ insX4)
  obtain ⟨c5, iS5, hKn5⟩ := u_known (C := RX5) (T := TX5) (N := 13) (n := 13) htd uwX5 (htd _ insX5)
  obtain ⟨dC, dI, hKc⟩ : ∃ (dC : Nat → ClassId) (dI : Nat → Nat → Nat), ∀ (k : Nat) (q : vw_C), vwCl[k]? = some q → u_Kn s q.1 q.2.1 q.2.2 (dC k) (dI k) := by
    refine ⟨fun k => match k with | 0 => c0 | 1 => c1 | 2 => c2 | 3 => c3 | 4 => c4 | _ => c5, fun k => match k with | 0 => iS0 | 1 => iS1 | 2 => iS2 | 3 => iS3 | 4 => iS4 | _ => iS5, ?_⟩
    intro k q hq
    match k, hq with
    | 0, hq => cases hq; exact hKn0
    | 1, hq => cases hq; exact hKn1
    | 2, hq => cases hq; exact hKn2
    | 3, hq => cases hq; exact hKn3
    | 4, hq => cases hq; exact hKn4
    | 5, hq => cases hq; exact hKn5
    | k + 6, hq => simp [vwCl] at hq
  have hN : dk_N s := ⟨va_AO.of (hts _ lw_ao), va_Nw.of rfl (hts _ lw_nest)⟩
  obtain ⟨cI, cD, hK⟩ := dk_links hts dC dI hKc
  generalize hD : ((dC, dI) : va_G) = D at hK
  have hl := lv_entry ([.ref b]) (n := 4) (Nat.le_of_ble_eq_true rfl)
  rw [lg_entry_eq]
  generalize (lg_sl ([.ref b]) ++ List.replicate (4 - (lg_sl ([.ref b])).length) Slot.unset).toArray = ls at hl ⊢
  have hls : dk_has ls 4 [(0, some (.ref b))] := ⟨hl.1, hl.2.1, fun i v h => by
    have h2 := dk_get_mem h
    rw [List.mem_singleton] at h2
    cases h2
    exact hl.2.2 (0, .ref b) List.mem_cons_self⟩
  have hC : CL (p, l, e, room_1, s, m, #[Value.ref b], below, meth, c) D cI cD b L xs := ⟨hx, hb, hr, hml, hown, htd, hX, hbl, hlocks, hK⟩
  exact lw_begin (X := fun _ => .inr (0, [])) hL hC hK hN s.heap [] ls (fun o ho => absurd ho (Nat.not_lt_zero _)) rfl va_S.rf hls
set_option maxHeartbeats 4000000 in
theorem lw_walk (l : Launch) (hflags : l.flags = flags0) (b : Addr) (xs : List Int32) : MetFree l x (headSpec (Jvm.Cond.code x code maxLocals ret :: tables_1) room_1) (lw_P b xs) (fun _ _ _ _ _ => True) lw_Q := by
  refine MetFree.of_bodyS (code := code) (maxLocals := maxLocals) (ret := ret) (by decide) ?_ ?_
  · intro args s m h hn
    obtain ⟨meth, c, h1, h2, h3, h4, h5, h6, -, -⟩ := Cond.code_spec hn (atoms_spec (ws := Jvm.Cond.code x code maxLocals ret :: tables_1) h _ List.mem_cons_self)
    exact ⟨meth, c, h1, h2, h3, h4, h5, h6⟩
  · intro p e s m args below meth c s₁ B hml0 hP _
    obtain ⟨rfl, hx, hbd, hgv⟩ := hP
    obtain ⟨scr, harrAt, hlist, hof, hsmall⟩ := hx
    obtain ⟨hcb, hkn, -, -⟩ := State.arrayAt?_spec harrAt
    have hown : s.vm.findClass R_law = some m.cls := findClass_of_methodNamed B.named
    have hts0 : ∀ c ∈ (Jvm.Cond.code x code maxLocals ret :: tables_1), c.before #[Value.ref b] s = true := atoms_spec (ws := Jvm.Cond.code x code maxLocals ret :: tables_1) B.pre
    have hts : ∀ w ∈ lw_tbl, w.before #[Value.ref b] s = true := k2_hts_sels lw_privs (fun w hw => hts0 w (List.mem_cons_of_mem _ hw)) lw_privs_ok
    have hml : c.maxLocals = 4 := B.maxLocals_eq (hts0 _ List.mem_cons_self)
    have X₀ : Stand p l e room_1 s m #[Value.ref b] below meth c s₁ [] 0 0 := Stand.of_body B
    have hh0 : s₁.heap = s.heap := by rw [B.state]; rfl
    have hsz : scr.slots.size = xs.length := by rw [← Array.length_toList, hlist, List.length_map]
    have hval : ∀ j : Nat, j < xs.length → scr.slots[j]? = some (.int (xs.getD j 0)) := fun j hj => by
      rw [← Array.getElem?_toList, hlist]
      simp [hj]
    have hbl : b < s.heap.size := (Array.getElem?_eq_some_iff.mp hcb).1
    have hX : va_X b xs.length (fun j => xs.getD j 0) s s.heap := ⟨scr, hcb, hof, hkn, hsz, hval⟩
    have K : W p l e room_1 s m #[Value.ref b] below meth c s₁.heap [] 0 0 (lw_Z below #[Value.ref b] s) (entryFrame m ([Value.ref b] : List Value).toArray 4) := by
      rw [hh0]
      exact whole_start l hflags hbd ⟨B.exec, B.bytes, B.returns, hml, hown, hts, hX, hbl, B.notSynchronized, hgv⟩
    obtain ⟨t, a1, o, b1, b2, b3⟩ := K s₁ rfl X₀
    exact ⟨t, o, a1, b1, b2, b3⟩
theorem lw_pre_spec {args : Array Value} {s : State} (h : (Jvm.Cond.and given_1 narrow_1).before args s = true) (hr : rest_1_c.before args s = true) : ∃ (b : Addr) (xs : List Int32), lw_P b xs args s := by
  have hs := flat_of_before _ h
  have hq := flat_of_before _ hr
  have hc : (Cond.count 1).before args s = true := hs _ (by decide +kernel)
  have harr : (Cond.arrayOf (.arg 0) .int).before args s = true := hs _ (by decide +kernel)
  have hle : (Cond.le (.length (.arg 0)) (.int 1536)).before args s = true := hs _ (by decide +kernel)
  have hlen : (Cond.isInt (.length (.arg 0))).before args s = true := hq _ (by decide +kernel)
  have hall : (Cond.all (.arg 0) (.isInt (.elem (.arg 0) (.index 0)))).before args s = true := hq _ (by decide +kernel)
  obtain ⟨b, xs, hb, hx⟩ := State.ints_of_pre rfl harr hlen hall
  have hsm : xs.length < 2 ^ 31 := hx.choose_spec.2.2.2
  have hev : (Term.length (.arg 0)).eval args s none [] s = some (.int xs.length.toInt32) := hx.length_eval hb
  have hv := Cond.le_ints hev (show (Term.int 1536).eval args s none [] s = some (.int 1536) from rfl)
  have hd : xs.length.toInt32 ≤ 1536 := by
    simpa [Cond.before, Cond.holds, hv] using hle
  have hN : xs.length ≤ 1536 := (Int32.ofNat_le_ofNat hsm (by decide)).mp (show Int32.ofNat xs.length ≤ Int32.ofNat 1536 from hd)
  exact ⟨b, xs, Cond.one_arg hc (show args[0]? = some (.ref b) from hb), hx, hN, h⟩
theorem lw_comes (l : Launch) (hflags : l.flags = flags0) : Comes l x (Jvm.Cond.code x code maxLocals ret :: tables_1) room_1 (fun tb e args s => Calls_1 tb e args s ∧ rest_1 tb e args s ∧ Pre_1 tb e args s)
    (fun _ _ args s o t => lw_Q args s o t) := by
  intro p e ha hc hk s m args below hf hfit hheap happ hpre
  obtain ⟨b, xs, hP⟩ := lw_pre_spec hpre.2.2 hpre.2.1
  obtain ⟨k, o, h1, h2, h3, hQ⟩ := lw_walk l hflags b xs p e ha hc hk s m args below hf ((Spec.applies_iff_loose hf).mp happ).1 hP trivial
  exact ⟨k, o, h1, h2, h3, hQ⟩
theorem lw_frame {s t : State} {o : Outcome} {args : Array Value} (h : Framed s o t [] 600000 7302250) :
    Framed s o t (fieldLocs frame_1_writes args s ++ arrayLocs frame_1_arrays args s ++ staticLocs frame_1_statics s) 600000 7302250 := h
theorem lw_limb (L : Cond) (hL : ∀ (args : Array Value) (s t : State), L.after args s (.returned (some (.int 1))) t = true) :
    ArmFor flags0 classFile x code maxLocals ret World_1 tables_1 room_1 Calls_1 rest_1 Pre_1
      (fun tb e a s o t => postC L tb e a s o t ∧ Framed s o t (fieldLocs frame_1_writes a s ++ arrayLocs frame_1_arrays a s ++ staticLocs frame_1_statics s) 600000 7302250) := by
  intro l hflags _ _ p e ha hc hk s m args below hf hfit hheap happ hpre
  obtain ⟨k, o, h1, h2, h3, rfl, hF⟩ := lw_comes l hflags p e ha hc hk s m args below hf hfit hheap happ hpre
  exact ⟨k, _, h1, h2, h3, hL args s _, lw_frame hF⟩
theorem i_vc : Claimed_1_1 ∧ Claimed_1_2 := ⟨lw_limb limb_1_1 (fun args s t => by simp [limb_1_1, Cond.after, Cond.holds, Cond.value]), lw_limb limb_1_2 (fun args s t => Cond.after_iff.mpr (by
  first | (rw [show limb_1_2 = Cond.eq .result (.int 1) from rfl, Cond.eq_ints (x := 1) (y := 1) rfl rfl]; simp; done) | (simp [limb_1_2, Cond.value, Term.eval]; done)))⟩

