/-! THE CLAIM OUT OF ONE WALK OF THE LAW'S BODY. Your part is whole_start (and what it stands on); all else here is the same for every law, but numbers. -/
def R_law : String := "DiskRekeyingLaw"
def lw_P (b : Addr) (xs : List Int32) (args : Array Value) (s : State) : Prop := args = #[.ref b] ∧ s.IntsAt b xs ∧ xs.length ≤ 260 ∧ (Jvm.Cond.and given_1 narrow_1).before args s = true
def lw_Q (_ : Array Value) (s : State) (o : Outcome) (t : State) : Prop := o = .returned (some (.int 1)) ∧ Framed s o t [] 600000 7302250
def lw_Z (below : List Frame) (a : Array Value) (s : State) : State → Prop := fun t => ∃ o, t.status = .running ∧ Ended t below o ∧ lw_Q a s o t
/-- the law's own end, with 1 on the stack, nothing written that was there before, its room as the claim has it -/
theorem lw_ret {p : Program} {l : Launch} {e : Env} {s : State} {m : MethodId} {below : List Frame} {meth : Method} {c : Code} {b : Nat} (hx : p.tables.exec = Jvm.exec) (hb : c.code = code) (hr : meth.sig.returnType = ret) (hlocks : meth.locks = false) {pc : Nat} {H : Heap} {ls : Array Slot} (hdg : decode code pc = .ok (.ireturn, 1)) : W p l e room_1 s m #[Value.ref b] below meth c H [] 600000 7302250 (lw_Z below #[Value.ref b] s) (F0 m pc ls [.int 1]) := by
  intro T hT X
  obtain ⟨fs, hret, hrun, hended, hW, hframe⟩ := X.leave (v := some (.int 1)) (hlocks := hlocks) (fun h => by rw [hr] at h; cases h)
  have hmeth' : T.vm.method? m = some meth := X.method'
  refine ⟨T.setFrames fs, ?_, .returned (some (.int 1)), hrun, hended, rfl, ⟨_, rfl⟩, hW, hframe⟩
  jvm_step X.here [X.here.top, hx, hb, hdg, hmeth', hr, ret, narrow_b1]
  (try refine ⟨rfl, ?_⟩); (try refine ⟨rfl, ?_⟩)
  first | (intro acts; rw [hret _ acts rfl rfl rfl]) | rw [hret _ _ rfl rfl rfl]
  exact Steps.refl _
/-- what holds at the law's entry: the machine, the code, the tables' words (any of lw_tbl by 'hts w (by decide +kernel)'), the script of L ints xs at the cell b, what the Statement gives of the start (any of its parts by flat_of_before) -/
def lw_At (p : Program) (s : State) (m : MethodId) (meth : Method) (c : Code) (b L : Nat) (xs : Nat → Int32) : Prop :=
  p.tables.exec = Jvm.exec ∧ c.code = code ∧ meth.sig.returnType = ret ∧ c.maxLocals = 18 ∧ s.vm.findClass R_law = some m.cls ∧ (∀ w ∈ lw_tbl, w.before #[Value.ref b] s = true) ∧ va_X b L xs s s.heap ∧ b < s.heap.size ∧ meth.locks = false ∧ (Jvm.Cond.and given_1 narrow_1).before #[Value.ref b] s = true
theorem lw_ao : Cond.arrayOver (.object RX0) ∈ lw_tbl := List.mem_append_right _ (List.mem_of_getElem? (i := 111) (by decide +kernel))
theorem lw_nest : Cond.methodLinkNest RX4 28 yX3_init "DiskRekeying" ∈ lw_tbl := List.mem_append_right _ (List.mem_of_getElem? (i := 125) (by decide +kernel))
theorem clL_57 : Cond.classLink R_law 57 RX4 ∈ dk_tbl := dk_tw 7 (by decide +kernel)
theorem dk_links {s : State} {args : Array Value} (hts : ∀ w ∈ lw_tbl, w.before args s = true) (dC : Nat → ClassId) (dI : Nat → Nat → Nat) (hKc : ∀ (k : Nat) (q : vw_C), vwCl[k]? = some q → u_Kn s q.1 q.2.1 q.2.2 (dC k) (dI k)) : ∃ (cI cD : ClassId), va_K (dC, dI) vwCl [(cI, .int), (cD, .object RX0)] s := by
  have h1 : (Cond.arrayClass .int).before args s = true := hts _ (List.mem_filter.mp arrI).1
  have h2 : (Cond.arrayOver (.object RX0)).before args s = true := hts _ lw_ao
  obtain ⟨cI, kI, compI, a1, a2, a3⟩ := Cond.arrayClass_spec h1
  obtain ⟨comp, cD, kD, b1, -, b2, b3, b4⟩ := Cond.arrayOver_spec h2
  refine ⟨cI, cD, hKc, fun k q hq => ?_⟩
  match k, hq with
  | 0, hq => cases hq; exact ⟨fun n z => ⟨fun k h => (by cases h), kI, a2, compI, a3⟩, a1⟩
  | 1, hq => cases hq; exact ⟨fun n z => ⟨fun k h => (by cases h), kD, b2, comp, b3⟩, kD, comp, b2, b3, b1, b4⟩
  | k + 2, hq => simp at hq
/-- five arrays, the first numbers, the loop -/
theorem law_from8 {E : dkE} {G : dkG} {T : dkT} {b L : Nat} {xs : Nat → Int32} (hT : T.1 = some (.int 1)) (hL : L < 2 ^ 31) (hS1 : ∀ o, G.2.1 o ↔ o < 111) (hC : dk_Cx E G cL_law 18 RL (some .boolean) 9 322) (hA : dk_Al E G) (hrm : dk_rm E 700 13000) (h1 : dk_T1 E) (S : dk_Sc E b L xs) : V E G 18 T x0 8 [(1, some (.ref (G.1 + 0))), (0, some (.ref b))] [] := by
  have hG : dk_cls G := fun o ho => (hS1 o).mpr ho
  have hrm0 : dk_rm E (1 + (1 + (1 + (1 + (1 + 640))))) (16 + (20 + (20 + (20 + (20 + 12160))))) := hrm.mono (by omega) (by omega)
  have m1 : dk_rm E 1 16 := hrm.mono (by omega) (by omega)
  have n1' := dk_rm.more (c := 1) (s := 16) hrm0
  have m2 : dk_rm (dk_more E 1 16) 1 20 := n1'.mono (by omega) (by omega)
  have n2' := dk_rm.more (c := 1) (s := 20) n1'
  have m3 : dk_rm (dk_more (dk_more E 1 16) 1 20) 1 20 := n2'.mono (by omega) (by omega)
  have n3' := dk_rm.more (c := 1) (s := 20) n2'
  have m4 : dk_rm (dk_more (dk_more (dk_more E 1 16) 1 20) 1 20) 1 20 := n3'.mono (by omega) (by omega)
  have n4' := dk_rm.more (c := 1) (s := 20) n3'
  have m5 : dk_rm (dk_more (dk_more (dk_more (dk_more E 1 16) 1 20) 1 20) 1 20) 1 20 := n4'.mono (by omega) (by omega)
  have m6 := dk_rm.more (c := 1) (s := 20) n4'
  refine V.bipush hC 16 dL_law_8 (by decide) ?_
  refine V.newiL hC hG (N := 16) (by decide) (by decide) (by decide) m1 dL_law_10 (fun q p1 n1 l1 => ?_)
  obtain ⟨hC1, hA1⟩ := dk_Cx.new (N := 16) hC hA n1 m1
  have hG1 : dk_cls (dk_add G q 16) := fun o ho => Or.inl (hG o ho)
  refine V.astore_n hC1 dL_law_12 rfl rfl ?_
  refine V.bipush hC1 20 dL_law_13 (by decide) ?_
  refine V.newiL hC1 hG1 (N := 20) (by decide) (by decide) (by decide) m2 dL_law_15 (fun d p2 n2 l2 => ?_)
  obtain ⟨hC2, hA2⟩ := dk_Cx.new (N := 20) hC1 hA1 n2 m2
  have hG2 : dk_cls (dk_add (dk_add G q 16) d 20) := fun o ho => Or.inl (hG1 o ho)
  refine V.astore_n hC2 dL_law_17 rfl rfl ?_
  refine V.bipush hC2 20 dL_law_18 (by decide) ?_
  refine V.newiL hC2 hG2 (N := 20) (by decide) (by decide) (by decide) m3 dL_law_20 (fun c p3 n3 l3 => ?_)
  obtain ⟨hC3, hA3⟩ := dk_Cx.new (N := 20) hC2 hA2 n3 m3
  have hG3 : dk_cls (dk_add (dk_add (dk_add G q 16) d 20) c 20) := fun o ho => Or.inl (hG2 o ho)
  refine V.astore hC3 dL_law_22 rfl rfl ?_
  refine V.bipush hC3 20 dL_law_24 (by decide) ?_
  refine V.newiL hC3 hG3 (N := 20) (by decide) (by decide) (by decide) m4 dL_law_26 (fun w p4 n4 l4 => ?_)
  obtain ⟨hC4, hA4⟩ := dk_Cx.new (N := 20) hC3 hA3 n4 m4
  have hG4 : dk_cls (dk_add (dk_add (dk_add (dk_add G q 16) d 20) c 20) w 20) := fun o ho => Or.inl (hG3 o ho)
  refine V.astore hC4 dL_law_28 rfl rfl ?_
  refine V.bipush hC4 20 dL_law_30 (by decide) ?_
  refine V.newiL hC4 hG4 (N := 20) (by decide) (by decide) (by decide) m5 dL_law_32 (fun j p5 n5 l5 => ?_)
  obtain ⟨hC5, hA5⟩ := dk_Cx.new (N := 20) hC4 hA4 n5 m5
  have hG5 : dk_cls (dk_add (dk_add (dk_add (dk_add (dk_add G q 16) d 20) c 20) w 20) j 20) := fun o ho => Or.inl (hG4 o ho)
  refine V.astore hC5 dL_law_34 rfl rfl ?_
  have qd : q ≠ d := fun z => n2 (Or.inr z.symm)
  have qc : q ≠ c := fun z => n3 (Or.inl (Or.inr z.symm))
  have qw : q ≠ w := fun z => n4 (Or.inl (Or.inl (Or.inr z.symm)))
  have qj : q ≠ j := fun z => n5 (Or.inl (Or.inl (Or.inl (Or.inr z.symm))))
  have dc : d ≠ c := fun z => n3 (Or.inr z.symm)
  have dw : d ≠ w := fun z => n4 (Or.inl (Or.inr z.symm))
  have dj : d ≠ j := fun z => n5 (Or.inl (Or.inl (Or.inr z.symm)))
  have cw : c ≠ w := fun z => n4 (Or.inr z.symm)
  have cj : c ≠ j := fun z => n5 (Or.inl (Or.inr z.symm))
  have wj : w ≠ j := fun z => n5 (Or.inr z.symm)
  have D : lD q d c w j := ⟨⟨qd, qc, qw, qj⟩, ⟨dc, dw, dj⟩, ⟨cw, cj⟩, wj⟩
  have h111 : 111 ≤ q ∧ 111 ≤ d ∧ 111 ≤ c ∧ 111 ≤ w ∧ 111 ≤ j := ⟨p1, p2, p3, p4, p5⟩
  have lq := (((l1.add n2).add n3 (m := 20)).add n4 (m := 20)).add n5 (m := 20)
  have ld := ((l2.add n3 (m := 20)).add n4 (m := 20)).add n5 (m := 20)
  have lc := (l3.add n4 (m := 20)).add n5 (m := 20)
  have lw := l4.add n5 (m := 20)
  refine V.sub ?_ (law_init (b := b) hC5 lq ld lc lw l5 D h111 (fun a ha => ?_) (fun a b9 ha => ?_) (fun M' hS hLr => law_loop hT hL hG5 lq ld lc lw l5 D h111 40 0 _ M' m0 rfl hC5 hA5 m6 h1 S hS hLr))
  · exact dk_sc rfl (dk_sc rfl (dk_sc rfl (dk_sc rfl (dk_sc rfl (dk_sc rfl (dk_sc rfl dk_sn))))))
  · unfold dk_new
    rw [if_neg (by omega), if_neg (by omega), if_neg (by omega), if_neg (by omega), if_neg (by omega)]
  · unfold dk_new
    rcases ha with rfl | rfl
    · rw [if_neg qj, if_neg qw, if_neg qc, if_neg qd, if_pos rfl]
    · rw [if_neg wj, if_pos rfl]
theorem W_mono {p : Program} {l : Launch} {e : Env} {R : Room} {s : State} {m : MethodId} {args : Array Value} {below : List Frame} {meth : Method} {c : Code} {H : Heap} {locs : List Loc} {cells slots : Nat} {Q Q' : State → Prop} {g : JFrame} (hq : ∀ t, Q t → Q' t) (k : W p l e R s m args below meth c H locs cells slots Q g) : W p l e R s m args below meth c H locs cells slots Q' g := fun T hT X => by
  obtain ⟨t, a, b⟩ := k T hT X
  exact ⟨t, a, hq t b⟩
/-- what the law's end is, out of a method's end: nothing that was there before is written -/
theorem lw_fin {below : List Frame} {s t : State} {args : Array Value} (h : MQ below (fun _ _ o _ => o = .returned (some (.int 1))) args s 600000 7302250 (fun q => s.heap.size ≤ q) t) : lw_Z below args s t := by
  obtain ⟨o, h1, h2, h3, L, ⟨h4, h5, h6⟩, h7⟩ := h
  exact ⟨o, h1, h2, h3, h4, h5, h6.weaken (fun y hy hlt => absurd hlt (Nat.not_lt.mpr (h7 y hy))) (Nat.le_refl _) (Nat.le_refl _)⟩
set_option maxHeartbeats 4000000 in
set_option maxRecDepth 100000 in
/-- THE LAW, from its entry -/
theorem whole_start {p : Program} {e : Env} {s : State} {m : MethodId} {below : List Frame} {meth : Method} {c : Code} (l : Launch) (hflags : l.flags = flags0) {b L : Nat} {xs : Nat → Int32} (hL : L ≤ 260) (C0 : lw_At p s m meth c b L xs) : W p l e room_1 s m #[Value.ref b] below meth c s.heap [] 0 0 (lw_Z below #[Value.ref b] s) (entryFrame m ([Value.ref b] : List Value).toArray 18) := by
  obtain ⟨hx, hb, hr, hml, hown, hts, hX, hbl, hlocks, hgv⟩ := id C0
  have htd : ∀ w ∈ dk_tbl, w.before #[Value.ref b] s = true := fun w hw => hts w (List.mem_filter.mp hw).1
  obtain ⟨c0, iS0, hKn0⟩ := u_known (C := RX0) (T := TX0) (N := 15) (n := 15) htd uwX0 (htd _ insX0)
  obtain ⟨c1, iS1, hKn1⟩ := u_known (C := RX1) (T := TX1) (N := 3) (n := 3) htd uwX1 (htd _ insX1)
  obtain ⟨c2, iS2, hKn2⟩ := u_known (C := RX2) (T := TX2) (N := 1) (n := 1) htd uwX2 (htd _ insX2)
  obtain ⟨c3, iS3, hKn3⟩ := u_known (C := RX3) (T := TX3) (N := 5) (n := 5) htd uwX3 (htd _ insX3)
  obtain ⟨c4, iS4, hKn4⟩ := u_known (C := RX4) (T := TX4) (N := 4) (n := 4) htd uwX4 (htd _ insX4)
  obtain ⟨dC, dI, hKc⟩ : ∃ (dC : Nat → ClassId) (dI : Nat → Nat → Nat), ∀ (k : Nat) (q : vw_C), vwCl[k]? = some q → u_Kn s q.1 q.2.1 q.2.2 (dC k) (dI k) := by
    refine ⟨fun k => match k with | 0 => c0 | 1 => c1 | 2 => c2 | 3 => c3 | _ => c4, fun k => match k with | 0 => iS0 | 1 => iS1 | 2 => iS2 | 3 => iS3 | _ => iS4, ?_⟩
    intro k q hq
    match k, hq with
    | 0, hq => cases hq; exact hKn0
    | 1, hq => cases hq; exact hKn1
    | 2, hq => cases hq; exact hKn2
    | 3, hq => cases hq; exact hKn3
    | 4, hq => cases hq; exact hKn4
    | k + 5, hq => simp [vwCl] at hq
  have hN : dk_N s := ⟨va_AO.of (hts _ lw_ao), va_Nw.of rfl (hts _ lw_nest)⟩
  obtain ⟨cI, cD, hK0⟩ := dk_links hts dC dI hKc
  generalize hD : ((dC, dI) : va_G) = D at hK0
  obtain ⟨G, hGdef⟩ : ∃ G : dkG, G = (s.heap.size, (fun o => o < 111), D, cI, cD, fun _ => 0) := ⟨_, rfl⟩
  have hG1 : G.1 = s.heap.size := by rw [hGdef]
  have hGS : ∀ o, G.2.1 o ↔ o < 111 := fun o => by rw [hGdef]
  have hK : dk_K G s := by rw [hGdef]; exact hK0
  have hl := lv_entry ([.ref b]) (n := 18) (Nat.le_of_ble_eq_true rfl)
  rw [lg_entry_eq]
  generalize (lg_sl ([.ref b]) ++ List.replicate (18 - (lg_sl ([.ref b])).length) Slot.unset).toArray = ls at hl ⊢
  have hls : dk_has ls 18 [(0, some (.ref b))] := ⟨hl.1, hl.2.1, fun i v h => by
    have h2 := dk_get_mem h
    rw [List.mem_singleton] at h2
    cases h2
    exact hl.2.2 (0, .ref b) List.mem_cons_self⟩
  refine W_mono (fun t h => lw_fin h) ?_
  have hKn := hK.1 4 _ rfl
  refine W.newcK hx hb hown (htd _ clL_57) (htd _ insX4) (htd _ iniX4) rfl dL_law_0 (by decide) (by decide) hKn.2.1 (show s.heap.size = G.1 + 0 by rw [hG1]; rfl) fun H1 kC hkC e1 z1 o1 => ?_
  refine lv_dup hx hb dL_law_3 rfl ?_
  obtain ⟨X, hXd⟩ : ∃ X : dkX, X = dk_up (fun _ => .inr (0, [])) 0 (.inr (4, [.null, .null, .null, .null])) := ⟨_, rfl⟩
  have hX0 : X 0 = .inr (4, [.null, .null, .null, .null]) := by rw [hXd]; exact dk_up_s
  have hRX : dk_RX G X 1 H1 := ⟨z1, fun o ho => by
    have h0 : o = 0 := by omega
    subst h0
    rw [hX0]
    exact ⟨_, rfl, (u_born tyX4 htd uwX4 hKn hkC e1 tyX4_ok).to (fun j hj => by rcases (show j = 0 ∨ j = 1 ∨ j = 2 ∨ j = 3 by omega) with rfl | rfl | rfl | rfl <;> rfl)⟩⟩
  have hcw := cwI (R := room_1) (s := s) (args := #[Value.ref b]) (own := R_law) (index := 109) (y := yX4_init) (bytes := cX4_init) (maxL := 1) (ws := .code yX4_init cX4_init 1 none :: dk_tbl) (rm := { frames := 5, cells := 110, slots := 3603, locals := 107 }) (mc := 110) (ms := 3603) 0 htd (dk_goodIn mwX4_init.1.2.2.1) rfl rfl rfl (mwX4_init.1.1.1 ▸ htd _ mwX4_init.1.2.2.2) (htd _ mlL_109) (htd _ mwX4_init.2) rfl ⟨mwX4_init.1.1.2.1, mwX4_init.1.1.2.2.1, mwX4_init.1.1.2.2.2⟩ ⟨Nat.le_of_ble_eq_true rfl, Nat.le_of_ble_eq_true rfl⟩
  have hrun := va_runI (p := p) (l := l) (e := e) (R := room_1) (s := s) (m := m) (args := #[Value.ref b]) (below := below) (meth := meth) (c := c) (H := H1) (locs := []) (cells := 1) (slots := 4) (As := []) (rest := [.ref (G.1 + 0)]) (g := F0 m 4 ls [.ref (G.1 + 0), .ref (G.1 + 0)]) ⟨hx, hb, hml, hown, htd⟩ (c_X4_init (G := G) hX0) hcw ⟨dk_blindX _ _ _ _, fun U hU hW => ⟨rfl, by rw [hU]; exact hRX, va_K.moved hW.alike hK, dk_N.warm hW hN⟩⟩ rfl rfl hls.1 rfl (lv_room (dk_wt (l := [.ref (G.1 + 0)]) rfl)) dL_law_4 ⟨by decide, by decide⟩
  intro T' hT' Y
  obtain ⟨v, st₀, t, T2, Lc, h0, Y', hLc, q1, q2, ⟨hv, hR3, hF1, hF2⟩, stp⟩ := hrun T' hT' Y
  cases hv
  rw [h0] at hF1 hF2
  have hR4 : dk_Rep G x0 T2.heap := fun o ho => by
    rw [q1]
    have ho' := (hGS o).mp ho
    have h := hR3.2 o ho'
    unfold dk_mix at h
    rw [if_pos ⟨Nat.zero_le _, ho'⟩] at h
    exact h
  have hsz : s.heap.size ≤ H1.size := by rw [z1, hG1]; omega
  have hS4 : va_S (fun q : Nat => s.heap.size ≤ q) s.heap T2.heap ([] ++ Lc) := ⟨by rw [q1]; exact Nat.le_trans hsz hF1, fun q g1 g2 => by
      rw [q1, hF2 q (Nat.lt_of_lt_of_le g1 hsz) (fun z => g2 (by have z' : G.1 ≤ q := z; rw [hG1] at z'; exact z')), o1 q (by rw [hG1]; exact g1)], fun q hq => by
      have hq' := hLc q hq
      have z' : G.1 ≤ q.base := hq'
      rw [hG1] at z'
      exact z'⟩
  -- the law's frame
  have hret : meth.sig.returnType = some .boolean := hr
  have hE : dk_X room_1 s #[Value.ref b] below (111, 3607, (fun q => s.heap.size ≤ q), fun T => MQ below (fun _ _ o _ => o = .returned T.1) #[Value.ref b] s 600000 7302250 (fun q => s.heap.size ≤ q)) G := ⟨fun q h => by have := dk_A_ge h; rw [hG1] at this; exact this, ⟨(by show (111 : Nat) ≤ 600000; omega), (by show (3607 : Nat) ≤ 7302250; omega)⟩, (fun T _ _ o _ => o = .returned T.1), fun T => rfl, fun T H t _ _ _ _ => rfl⟩
  have hCx : dk_Cx (p, l, e, room_1, s, m, #[Value.ref b], below, meth, c, (111, 3607, (fun q => s.heap.size ≤ q), fun T => MQ below (fun _ _ o _ => o = .returned T.1) #[Value.ref b] s 600000 7302250 (fun q => s.heap.size ≤ q))) G cL_law 18 RL (some .boolean) 9 322 := ⟨hx, hb, hml, hown, htd, hlocks, hret, hK, rfl, rfl, hE⟩
  have hAl : dk_Al (p, l, e, room_1, s, m, #[Value.ref b], below, meth, c, (111, 3607, (fun q => s.heap.size ≤ q), fun T => MQ below (fun _ _ o _ => o = .returned T.1) #[Value.ref b] s 600000 7302250 (fun q => s.heap.size ≤ q))) G := ⟨fun q h => by rw [hG1] at h; exact h, ⟨(by show (111 : Nat) ≤ 600000; omega), (by show (3607 : Nat) ≤ 7302250; omega)⟩, (fun T _ _ o _ => o = .returned T.1), fun T => rfl, fun T H t _ _ _ => rfl⟩
  have kk := law_from8 (T := (some (.int 1), x0)) (b := b) (L := L) (xs := xs) rfl (by omega) hGS hCx hAl ⟨(by show (111 : Nat) + 700 ≤ 600000; omega), (by show (3607 : Nat) + 13000 ≤ 7302250; omega)⟩ (fun T T' h => by show MQ below (fun _ _ o _ => o = .returned T.1) #[Value.ref b] s 600000 7302250 (fun q => s.heap.size ≤ q) = MQ below (fun _ _ o _ => o = .returned T'.1) #[Value.ref b] s 600000 7302250 (fun q => s.heap.size ≤ q); rw [h]) ⟨hX, hbl, Nat.not_le.mpr hbl⟩
  have k2 : W p l e room_1 s m #[Value.ref b] below meth c T2.heap ([] ++ Lc) 111 3607 (MQ below (fun _ _ o _ => o = .returned (some (.int 1))) #[Value.ref b] s 600000 7302250 (fun q => s.heap.size ≤ q)) (F0 m 7 ls [.ref (G.1 + 0)]) :=
    lv_astore_n hx hb dL_law_7 rfl hls.lv (by decide) rfl (fun ls' h' => kk T2.heap _ ls' hR4 ⟨hS4.1, fun z => absurd z (by show ¬ (111 : Nat) = 0; omega)⟩ hS4 (hls.set1 rfl h'))
  obtain ⟨t2, a1, b1⟩ := k2 T2 rfl Y'
  exact ⟨t2, stp t2 a1, b1⟩
set_option maxHeartbeats 4000000 in
theorem lw_walk (l : Launch) (hflags : l.flags = flags0) (b : Addr) (xs : List Int32) : MetFree l x (headSpec (Jvm.Cond.code x code maxLocals ret :: tables_1) room_1) (lw_P b xs) (fun _ _ _ _ _ => True) lw_Q := by
  refine MetFree.of_bodyS (code := code) (maxLocals := maxLocals) (ret := ret) (by decide) ?_ ?_
  · intro args s m h hn
    obtain ⟨meth, c, h1, h2, h3, h4, h5, h6, -, -⟩ := Cond.code_spec hn (atoms_spec (ws := Jvm.Cond.code x code maxLocals ret :: tables_1) h _ List.mem_cons_self)
    exact ⟨meth, c, h1, h2, h3, h4, h5, h6⟩
  · intro p e s m args below meth c s₁ B hml0 hP _
    obtain ⟨rfl, hx, hbd, hgv⟩ := hP
    obtain ⟨scr, harrAt, hlist, hof, hsmall⟩ := hx
    obtain ⟨hcb, hkn, -, -⟩ := State.arrayAt?_spec harrAt
    have hown : s.vm.findClass R_law = some m.cls := findClass_of_methodNamed B.named
    have hts0 : ∀ c ∈ (Jvm.Cond.code x code maxLocals ret :: tables_1), c.before #[Value.ref b] s = true := atoms_spec (ws := Jvm.Cond.code x code maxLocals ret :: tables_1) B.pre
    have hts : ∀ w ∈ lw_tbl, w.before #[Value.ref b] s = true := k2_hts_sels lw_privs (fun w hw => hts0 w (List.mem_cons_of_mem _ hw)) lw_privs_ok
    have hml : c.maxLocals = 18 := B.maxLocals_eq (hts0 _ List.mem_cons_self)
    have X₀ : Stand p l e room_1 s m #[Value.ref b] below meth c s₁ [] 0 0 := Stand.of_body B
    have hh0 : s₁.heap = s.heap := by rw [B.state]; rfl
    have hsz : scr.slots.size = xs.length := by rw [← Array.length_toList, hlist, List.length_map]
    have hval : ∀ j : Nat, j < xs.length → scr.slots[j]? = some (.int (xs.getD j 0)) := fun j hj => by
      rw [← Array.getElem?_toList, hlist]
      simp [hj]
    have hbl : b < s.heap.size := (Array.getElem?_eq_some_iff.mp hcb).1
    have hX : va_X b xs.length (fun j => xs.getD j 0) s s.heap := ⟨scr, hcb, hof, hkn, hsz, hval⟩
    have K : W p l e room_1 s m #[Value.ref b] below meth c s₁.heap [] 0 0 (lw_Z below #[Value.ref b] s) (entryFrame m ([Value.ref b] : List Value).toArray 18) := by
      rw [hh0]
      exact whole_start l hflags hbd ⟨B.exec, B.bytes, B.returns, hml, hown, hts, hX, hbl, B.notSynchronized, hgv⟩
    obtain ⟨t, a1, o, b1, b2, b3⟩ := K s₁ rfl X₀
    exact ⟨t, o, a1, b1, b2, b3⟩
theorem lw_pre_spec {args : Array Value} {s : State} (h : (Jvm.Cond.and given_1 narrow_1).before args s = true) (hr : rest_1_c.before args s = true) : ∃ (b : Addr) (xs : List Int32), lw_P b xs args s := by
  have hs := flat_of_before _ h
  have hq := flat_of_before _ hr
  have hc : (Cond.count 1).before args s = true := hs _ (by decide +kernel)
  have harr : (Cond.arrayOf (.arg 0) .int).before args s = true := hs _ (by decide +kernel)
  have hle : (Cond.le (.length (.arg 0)) (.int 260)).before args s = true := hs _ (by decide +kernel)
  have hlen : (Cond.isInt (.length (.arg 0))).before args s = true := hq _ (by decide +kernel)
  have hall : (Cond.all (.arg 0) (.isInt (.elem (.arg 0) (.index 0)))).before args s = true := hq _ (by decide +kernel)
  obtain ⟨b, xs, hb, hx⟩ := State.ints_of_pre rfl harr hlen hall
  have hsm : xs.length < 2 ^ 31 := hx.choose_spec.2.2.2
  have hev : (Term.length (.arg 0)).eval args s none [] s = some (.int xs.length.toInt32) := hx.length_eval hb
  have hv := Cond.le_ints hev (show (Term.int 260).eval args s none [] s = some (.int 260) from rfl)
  have hd : xs.length.toInt32 ≤ 260 := by
    simpa [Cond.before, Cond.holds, hv] using hle
  have hN : xs.length ≤ 260 := (Int32.ofNat_le_ofNat hsm (by decide)).mp (show Int32.ofNat xs.length ≤ Int32.ofNat 260 from hd)
  exact ⟨b, xs, Cond.one_arg hc (show args[0]? = some (.ref b) from hb), hx, hN, h⟩
theorem lw_comes (l : Launch) (hflags : l.flags = flags0) : Comes l x (Jvm.Cond.code x code maxLocals ret :: tables_1) room_1 (fun tb e args s => Calls_1 tb e args s ∧ rest_1 tb e args s ∧ Pre_1 tb e args s)
    (fun _ _ args s o t => lw_Q args s o t) := by
  intro p e ha hc hk s m args below hf hfit hheap happ hpre
  obtain ⟨b, xs, hP⟩ := lw_pre_spec hpre.2.2 hpre.2.1
  obtain ⟨k, o, h1, h2, h3, hQ⟩ := lw_walk l hflags b xs p e ha hc hk s m args below hf ((Spec.applies_iff_loose hf).mp happ).1 hP trivial
  exact ⟨k, o, h1, h2, h3, hQ⟩
theorem lw_frame {s t : State} {o : Outcome} {args : Array Value} (h : Framed s o t [] 600000 7302250) :
    Framed s o t (fieldLocs frame_1_writes args s ++ arrayLocs frame_1_arrays args s ++ staticLocs frame_1_statics s) 600000 7302250 := h
theorem lw_limb (L : Cond) (hL : ∀ (args : Array Value) (s t : State), L.after args s (.returned (some (.int 1))) t = true) :
    ArmFor flags0 classFile x code maxLocals ret World_1 tables_1 room_1 Calls_1 rest_1 Pre_1
      (fun tb e a s o t => postC L tb e a s o t ∧ Framed s o t (fieldLocs frame_1_writes a s ++ arrayLocs frame_1_arrays a s ++ staticLocs frame_1_statics s) 600000 7302250) := by
  intro l hflags _ _ p e ha hc hk s m args below hf hfit hheap happ hpre
  obtain ⟨k, o, h1, h2, h3, rfl, hF⟩ := lw_comes l hflags p e ha hc hk s m args below hf hfit hheap happ hpre
  exact ⟨k, _, h1, h2, h3, hL args s _, lw_frame hF⟩
theorem i_vc : Claimed_1_1 ∧ Claimed_1_2 := ⟨lw_limb limb_1_1 (fun args s t => by simp [limb_1_1, Cond.after, Cond.holds, Cond.value]), lw_limb limb_1_2 (fun args s t => Cond.after_iff.mpr (by
  first | (rw [show limb_1_2 = Cond.eq .result (.int 1) from rfl, Cond.eq_ints (x := 1) (y := 1) rfl rfl]; simp; done) | (simp [limb_1_2, Cond.value, Term.eval]; done)))⟩
