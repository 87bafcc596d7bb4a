/-! the law's arrays; more instructions; arrays that are made; contracts of methods that make arrays -/
def lA (G : dkG) (o n : Nat) : Prop := dk_kd o = 8 ∧ G.2.1 o ∧ G.2.2.2.2.2 o = n ∧ n < 1024
theorem dk_kd8 {o : Nat} (h : 111 ≤ o) : dk_kd o = 8 := by
  unfold dk_kd
  rw [List.getD_eq_getElem?_getD, List.getElem?_eq_none (by simpa [dk_kds] using h)]
  rfl
section LR0
variable {E : dkE} {G : dkG} {cc : ByteArray} {nL : Nat} {own : String} {ret : Option FieldType} {fr lo : Nat} {T : dkT} {M : dkM} {pc : Nat} {lv : dkL} {st : List Value}
theorem dk_cell8 {o n : Nat} (h : lA G o n) : dk_cell G M o = .inl (G.2.2.2.1, n, .inl (M o)) := by simp [dk_cell, h.1, h.2.2.1]
theorem V.ialdL (C : dk_Cx E G cc nL own ret fr lo) {o n : Nat} {i : Int32} (h : lA G o n) (hin : vp_in i n) (d : decode cc pc = .ok (.iaload, 1)) (kk : V E G nL T M (pc + 1) lv (.int (M o i.toNatClampNeg) :: st)) : V E G nL T M pc lv (.int i :: .ref (G.1 + o) :: st) := by
  refine V.of kk ?_
  obtain ⟨p, l, e, R, s, m, args, below, meth, c, z⟩ := E
  exact fun H locs ls Q hR hl w => va_iald (D := G.2.2.1) (tys := dk_tys G) C.1 C.2.1 C.2.2.2.2.2.2.2.1 (hR.one h.2.1 (dk_cell8 h)) 0 0 rfl rfl hin d (w ls hl)
theorem V.ialdLN (C : dk_Cx E G cc nL own ret fr lo) {o n : Nat} {i : Int32} (j : Nat) (h : lA G o n) (hi : i = nI j) (hj : j < n) (d : decode cc pc = .ok (.iaload, 1)) (kk : V E G nL T M (pc + 1) lv (.int (M o j) :: st)) : V E G nL T M pc lv (.int i :: .ref (G.1 + o) :: st) := by
  subst hi
  have hn := h.2.2.2
  refine V.ialdL C h (vp_in_nI hj (by omega)) d ?_
  rw [nI_clamp (by omega)]
  exact kk
theorem V.iastL (C : dk_Cx E G cc nL own ret fr lo) {o n : Nat} {i x : Int32} (h : lA G o n) (hin : vp_in i n) (d : decode cc pc = .ok (.iastore, 1)) (kk : V E G nL T (dk_put M o i.toNatClampNeg x) (pc + 1) lv st) : V E G nL T M pc lv (.int x :: .int i :: .ref (G.1 + o) :: st) := by
  obtain ⟨p, l, e, R, s, m, args, below, meth, c, z⟩ := E
  intro H locs ls hR hz hSt hls
  have hK : va_K G.2.2.1 vwCl (dk_tys G) s := C.2.2.2.2.2.2.2.1
  have hP := hR.one h.2.1 (dk_cell8 h)
  refine W.iast C.1 C.2.1 (hP 0 _ rfl) ((hK.2 0 _ rfl).1 n (fun j => .int (M o j))) (fun q => by cases q) (by show ¬ (i < 0 ∨ (arrV _ _ _).slots.size ≤ _); rw [arrV_size]; exact hin) rfl rfl d fun H1 e1 zz oq => ?_
  refine kk H1 _ ls (hR.put ?_ oq) (by rw [zz]; exact hz) (hSt.put zz oq (C.2.2.2.2.2.2.2.2.2.2.1 _ ⟨o, h.2.1, rfl⟩)) hls
  rw [dk_cell8 h]
  show H1[G.1 + o]? = some (vp_cell _ _)
  rw [e1]
  rw [vp_cell_i, vp_cell_i, arrV_store]
  congr 2
  funext q
  by_cases hq : q = i.toNatClampNeg
  · subst hq
    simp [updV, dk_put]
  · simp [updV, dk_put, hq]
theorem V.iastLN (C : dk_Cx E G cc nL own ret fr lo) {o n : Nat} {i x : Int32} (j : Nat) (h : lA G o n) (hi : i = nI j) (hj : j < n) (d : decode cc pc = .ok (.iastore, 1)) (kk : V E G nL T (dk_put M o j x) (pc + 1) lv st) : V E G nL T M pc lv (.int x :: .int i :: .ref (G.1 + o) :: st) := by
  subst hi
  have hn := h.2.2.2
  refine V.iastL C h (vp_in_nI hj (by omega)) d ?_
  rw [nI_clamp (by omega)]
  exact kk
theorem V.ior (C : dk_Cx E G cc nL own ret fr lo) {x y : Int32} (d : decode cc pc = .ok (.ior, 1)) (kk : V E G nL T M (pc + 1) lv (.int (x ||| y) :: st)) : V E G nL T M pc lv (.int y :: .int x :: st) := by
  refine V.of kk ?_
  obtain ⟨p, l, e, R, s, m, args, below, meth, c, z⟩ := E
  exact fun H locs ls Q _ hl w => lv_ior C.1 C.2.1 d (w ls hl)
theorem V.ishl (C : dk_Cx E G cc nL own ret fr lo) {x y : Int32} (d : decode cc pc = .ok (.ishl, 1)) (kk : V E G nL T M (pc + 1) lv (.int (x <<< (y &&& 31)) :: st)) : V E G nL T M pc lv (.int y :: .int x :: st) := by
  refine V.of kk ?_
  obtain ⟨p, l, e, R, s, m, args, below, meth, c, z⟩ := E
  exact fun H locs ls Q _ hl w => lv_ishl C.1 C.2.1 d (w ls hl)
theorem V.ishr (C : dk_Cx E G cc nL own ret fr lo) {x y : Int32} (d : decode cc pc = .ok (.ishr, 1)) (kk : V E G nL T M (pc + 1) lv (.int (x >>> (y &&& 31)) :: st)) : V E G nL T M pc lv (.int y :: .int x :: st) := by
  refine V.of kk ?_
  obtain ⟨p, l, e, R, s, m, args, below, meth, c, z⟩ := E
  exact fun H locs ls Q _ hl w => lv_ishr C.1 C.2.1 d (w ls hl)
theorem V.land (C : dk_Cx E G cc nL own ret fr lo) {x y : Int64} (d : decode cc pc = .ok (.land, 1)) (kk : V E G nL T M (pc + 1) lv (.long (x &&& y) :: st)) : V E G nL T M pc lv (.long y :: .long x :: st) := by
  refine V.of kk ?_
  obtain ⟨p, l, e, R, s, m, args, below, meth, c, z⟩ := E
  exact fun H locs ls Q _ hl w => lv_land C.1 C.2.1 d (w ls hl)
theorem V.lshr (C : dk_Cx E G cc nL own ret fr lo) {x : Int64} {y : Int32} (d : decode cc pc = .ok (.lshr, 1)) (kk : V E G nL T M (pc + 1) lv (.long (x >>> (y.toInt64 &&& 63)) :: st)) : V E G nL T M pc lv (.int y :: .long x :: st) := by
  refine V.of kk ?_
  obtain ⟨p, l, e, R, s, m, args, below, meth, c, z⟩ := E
  exact fun H locs ls Q _ hl w => lv_lshr C.1 C.2.1 d rfl (w ls hl)
theorem V.l2i (C : dk_Cx E G cc nL own ret fr lo) {x : Int64} (d : decode cc pc = .ok (.l2i, 1)) (kk : V E G nL T M (pc + 1) lv (.int x.toInt32 :: st)) : V E G nL T M pc lv (.long x :: st) := by
  refine V.of kk ?_
  obtain ⟨p, l, e, R, s, m, args, below, meth, c, z⟩ := E
  exact fun H locs ls Q _ hl w => lv_l2i C.1 C.2.1 d rfl (w ls hl)
theorem V.lconst (C : dk_Cx E G cc nL own ret fr lo) {k : Fin 2} (v : Int64) (d : decode cc pc = .ok (.lconst k, 1)) (hv : Int64.ofNat (k : Nat) = v) (kk : V E G nL T M (pc + 1) lv (.long v :: st)) : V E G nL T M pc lv st := by
  refine V.of kk ?_
  obtain ⟨p, l, e, R, s, m, args, below, meth, c, z⟩ := E
  exact fun H locs ls Q _ hl w => lv_lconst C.1 C.2.1 d hv (w ls hl)
theorem V.aload (C : dk_Cx E G cc nL own ret fr lo) {k : Nat} {x : Nat} (d : decode cc pc = .ok (.aload k, 2)) (hg : dk_get lv k = some (.ref x)) (kk : V E G nL T M (pc + 2) lv (.ref x :: st)) : V E G nL T M pc lv st := by
  refine V.of kk ?_
  obtain ⟨p, l, e, R, s, m, args, below, meth, c, z⟩ := E
  exact fun H locs ls Q _ hl w => lv_aload C.1 C.2.1 d (hl.at hg) (w ls hl)
theorem V.astore (C : dk_Cx E G cc nL own ret fr lo) {k : Nat} {x : Nat} (d : decode cc pc = .ok (.astore k, 2)) (hn : Nat.ble (k + 1) nL = true) (hc : dk_chk lv k = true) (kk : V E G nL T M (pc + 2) ((k, some (.ref x)) :: lv) st) : V E G nL T M pc lv (.ref x :: st) := by
  refine V.of kk ?_
  obtain ⟨p, l, e, R, s, m, args, below, meth, c, z⟩ := E
  exact fun H locs ls Q _ hl w => lv_astore C.1 C.2.1 d hl.lv (Nat.le_of_ble_eq_true hn) rfl (fun ls' h' => w ls' (hl.set1 hc h'))
/-! what is made -/
def dk_add (G : dkG) (o n : Nat) : dkG := (G.1, (fun a => G.2.1 a ∨ a = o), G.2.2.1, G.2.2.2.1, G.2.2.2.2.1, fun a => if a = o then n else G.2.2.2.2.2 a)
def dk_new (M : dkM) (o : Nat) : dkM := fun a => if a = o then (fun _ => 0) else M a
def dk_more (E : dkE) (c s : Nat) : dkE := (E.1, E.2.1, E.2.2.1, E.2.2.2.1, E.2.2.2.2.1, E.2.2.2.2.2.1, E.2.2.2.2.2.2.1, E.2.2.2.2.2.2.2.1, E.2.2.2.2.2.2.2.2.1, E.2.2.2.2.2.2.2.2.2.1, (E.2.2.2.2.2.2.2.2.2.2.1 + c, E.2.2.2.2.2.2.2.2.2.2.2.1 + s, E.2.2.2.2.2.2.2.2.2.2.2.2))
def dk_rm (E : dkE) (c s : Nat) : Prop := E.2.2.2.2.2.2.2.2.2.2.1 + c ≤ E.2.2.2.1.cells ∧ E.2.2.2.2.2.2.2.2.2.2.2.1 + s ≤ E.2.2.2.1.slots
def dk_Al (E : dkE) (G : dkG) : Prop := match E with
  | (p, l, e, R, s, m, args, below, meth, c, z) => (∀ q, G.1 ≤ q → z.2.2.1 q) ∧ (z.1 ≤ R.cells ∧ z.2.1 ≤ R.slots) ∧ ∃ Po : dkT → Array Value → State → Outcome → State → Prop, (∀ T, z.2.2.2 T = MQ below (Po T) args s R.cells R.slots z.2.2.1) ∧ ∀ (T : dkT) (H : Heap) (t : State), dk_Rep G T.2 H → va_S z.2.2.1 s.heap H [] → t.heap = H → Po T args s (.returned T.1) t
theorem dk_rm.mono {c s c' s' : Nat} (h : dk_rm E c s) (h1 : c' ≤ c) (h2 : s' ≤ s) : dk_rm E c' s' := ⟨by have := h.1; omega, by have := h.2; omega⟩
theorem dk_rm.more {c s c' s' : Nat} (h : dk_rm E (c + c') (s + s')) : dk_rm (dk_more E c s) c' s' := ⟨by have := h.1; show E.2.2.2.2.2.2.2.2.2.2.1 + c + c' ≤ E.2.2.2.1.cells; omega, by have := h.2; show E.2.2.2.2.2.2.2.2.2.2.2.1 + s + s' ≤ E.2.2.2.1.slots; omega⟩
theorem dk_A_ge {q : Nat} (h : dk_A G q) : G.1 ≤ q := by
  obtain ⟨o, -, rfl⟩ := h
  exact Nat.le_add_right _ _
theorem dk_Cx.more (C : dk_Cx E G cc nL own ret fr lo) (A : dk_Al E G) {k n : Nat} (hr : dk_rm E k n) : dk_Cx (dk_more E k n) G cc nL own ret fr lo ∧ dk_Al (dk_more E k n) G := by
  obtain ⟨p, l, e, R, s, m, args, below, meth, c, z⟩ := E
  obtain ⟨a1, a2, Po, a3, a4⟩ := A
  obtain ⟨c1, c2, c3, c4, c5, c6, c7, c8, c9, c10, -⟩ := C
  exact ⟨⟨c1, c2, c3, c4, c5, c6, c7, c8, c9, c10, fun q h => a1 q (dk_A_ge h), hr, Po, a3, fun T H t h1 _ h2 h3 => a4 T H t h1 h2 h3⟩, a1, hr, Po, a3, a4⟩
theorem dk_cell_add {o n a : Nat} {M2 : dkM} (h : a ≠ o) : dk_cell (dk_add G o n) M2 a = dk_cell G M2 a := by
  unfold dk_cell dk_add
  simp only [if_neg h]
theorem dk_Rep.drop {o n : Nat} {M2 : dkM} {H : Heap} (ho : ¬ G.2.1 o) (h : dk_Rep (dk_add G o n) M2 H) : dk_Rep G M2 H := fun a ha => by
  have h2 := h a (Or.inl ha)
  have hne : a ≠ o := fun z => ho (by rw [← z]; exact ha)
  rw [dk_cell_add hne] at h2
  exact h2
theorem dk_Cx.new (C : dk_Cx E G cc nL own ret fr lo) (A : dk_Al E G) {o N k n : Nat} (ho : ¬ G.2.1 o) (hr : dk_rm E k n) : dk_Cx (dk_more E k n) (dk_add G o N) cc nL own ret fr lo ∧ dk_Al (dk_more E k n) (dk_add G o N) := by
  obtain ⟨p, l, e, R, s, m, args, below, meth, c, z⟩ := E
  obtain ⟨a1, a2, Po, a3, a4⟩ := A
  obtain ⟨c1, c2, c3, c4, c5, c6, c7, c8, c9, c10, -⟩ := C
  exact ⟨⟨c1, c2, c3, c4, c5, c6, c7, c8, c9, c10, fun q h => a1 q (dk_A_ge (G := dk_add G o N) h), hr, Po, a3, fun T H t h1 _ h2 h3 => a4 T H t (h1.drop ho) h2 h3⟩, a1, hr, Po, a3, fun T H t h1 h2 h3 => a4 T H t (h1.drop ho) h2 h3⟩
theorem V.newiL (C : dk_Cx E G cc nL own ret fr lo) (hG : dk_cls G) {x : Int32} {N : Nat} (hx0 : ¬ x < 0) (hN : x.toNatClampNeg = N) (hb4 : N < 1024) (hr : dk_rm E 1 N) (d : decode cc pc = .ok (.newarray .int, 2))
    (kk : ∀ o, 111 ≤ o → ¬ G.2.1 o → lA (dk_add G o N) o N → V (dk_more E 1 N) (dk_add G o N) nL T (dk_new M o) (pc + 2) lv (.ref (G.1 + o) :: st)) : V E G nL T M pc lv (.int x :: st) := by
  obtain ⟨p, l, e, R, s, m, args, below, meth, c, z⟩ := E
  intro H locs ls hR hz hS hls
  obtain ⟨hx, hb, hml, hown, hts, hlk, hret, hK, hfr, hlo, hX⟩ := C
  have hK' : va_K G.2.2.1 vwCl (dk_tys G) s := hK
  have hcI : s.vm.findClass ("[" ++ (FieldType.int).toString) = some G.2.2.2.1 := (hK'.2 0 _ rfl).2
  have hlt : ∀ a, G.2.1 a → G.1 + a < H.size := fun a ha => (hR a ha).lt
  have h110 := hlt 110 (hG 110 (by omega))
  obtain ⟨o, ho⟩ : ∃ o, H.size = G.1 + o := ⟨H.size - G.1, by omega⟩
  have hno : ¬ G.2.1 o := fun ha => by have := hlt o ha; omega
  refine va_newaK (atype := .int) hx hb (hts _ arrI) rfl d rfl hx0 hN (by show N * 4 ≤ _; omega) hr.1 hr.2 ho fun H1 cA e1 z1 o1 hAr hNm => ?_
  have hcA : cA = G.2.2.2.1 := Option.some.inj (hNm.symm.trans hcI)
  subst hcA
  have h9 : s.heap.size ≤ H1.size ∧ (z.1 + 1 = 0 → H1.size = s.heap.size) := ⟨by rw [z1]; omega, fun z9 => absurd z9 (by omega)⟩
  have h8 : va_S z.2.2.1 s.heap H1 locs := ⟨h9.1, fun q h1 h2 => (o1 q (by have := hS.1; omega)).trans (hS.2.1 q h1 h2), hS.2.2⟩
  refine kk o (by omega) hno ⟨dk_kd8 (by omega), Or.inr rfl, by simp [dk_add], hb4⟩ H1 locs ls (fun a ha => ?_) h9 h8 hls
  by_cases hao : a = o
  · subst hao
    rw [dk_cell8 (n := N) ⟨dk_kd8 (by omega), Or.inr rfl, by simp [dk_add], hb4⟩]
    have hM : dk_new M a a = fun _ => 0 := by unfold dk_new; rw [if_pos rfl]
    rw [hM]
    exact e1
  · rw [dk_cell_add hao, dk_cell_congr (M := M) (by unfold dk_new; rw [if_neg hao])]
    have ha' : G.2.1 a := by
      rcases ha with h | h
      · exact h
      · exact absurd h hao
    exact (hR a ha').kept (o1 _ (by have := hlt a ha'; show G.1 + a < G.1 + o; omega))
/-- back to fewer cells -/
theorem V.back {o n : Nat} {M' : dkM} (ho : ¬ G.2.1 o) (hM : ∀ a, G.2.1 a → M' a = M a) (k : V E G nL T M pc lv st) : V E (dk_add G o n) nL T M' pc lv st := by
  obtain ⟨p, l, e, R, s, m, args, below, meth, c, z⟩ := E
  intro H locs ls hR hz hS hl
  refine k H locs ls (fun a ha => ?_) hz hS hl
  have h2 := hR.drop ho a ha
  rw [dk_cell_congr (M := M) (hM a ha)] at h2
  exact h2
/-- more room is counted -/
theorem V.more {k n : Nat} (kk : V (dk_more E k n) G nL T M pc lv st) : V E G nL T M pc lv st := by
  obtain ⟨p, l, e, R, s, m, args, below, meth, c, z⟩ := E
  intro H locs ls hR hz hS hl
  exact W.widen (Nat.le_add_right _ _) (Nat.le_add_right _ _) (kk H locs ls hR ⟨hz.1, fun z9 => hz.2 (by have : z.1 + k = 0 := z9; omega)⟩ hS hl)
def dk_QA (G : dkG) (T : dkT) : Array Value → State → Outcome → State → Prop := fun _ st o t => o = .returned T.1 ∧ dk_Rep G T.2 t.heap ∧ va_F (dk_B G) st t
/-- the contract of a method that makes arrays, all of which are garbage behind it -/
def dk_ConA (l : Launch) (y : MethodName) (cc : ByteArray) (nL : Nat) (ret : Option FieldType) (fr lo mc ms : Nat) (G : dkG) (as : List Value) (M : dkM) (T : dkT) : Prop :=
  Met l y (.code y cc nL ret :: dk_tbl) ({ frames := fr, cells := mc, slots := ms, locals := lo }) (dk_P G as M) (dk_QA G T) mc ms (dk_B G)
theorem dk_ConA.of {l : Launch} {C : String} {y : MethodName} {n mc ms : Nat} {as : List Value} (w : dk_mw C y cc nL ret n) (has : (lg_sl as).length ≤ nL)
    (k : ∀ E : dkE, E.2.1 = l → dk_Cx E G cc nL C ret fr lo → dk_Al E G → dk_rm E mc ms → V E G nL T M 0 (dk_args 0 as) []) : dk_ConA l y cc nL ret fr lo mc ms G as M T := by
  refine Met.ofW (cc := cc) (maxL := nL) (ret := ret) w.2.1 rfl ?_
  intro p e s m args below meth c s₁ B hml hv
  obtain ⟨rfl, hR, hK⟩ := hv
  have hts := atoms_spec (ws := Cond.code y cc nL ret :: dk_tbl) B.pre
  have hl := lv_entry as has
  rw [lg_entry_eq]
  have hAl : dk_Al (p, l, e, ({ frames := fr, cells := mc, slots := ms, locals := lo } : Room), s, m, as.toArray, below, meth, c, (0, 0, dk_B G, fun T => MQ below (dk_QA G T) as.toArray s mc ms (dk_B G))) G := ⟨fun q h => h, ⟨Nat.zero_le _, Nat.zero_le _⟩, dk_QA G, fun T => rfl, fun T H t h1 h2 h3 => ⟨rfl, by rw [h3]; exact h1, h2.F h3⟩⟩
  have hC : dk_Cx (p, l, e, ({ frames := fr, cells := mc, slots := ms, locals := lo } : Room), s, m, as.toArray, below, meth, c, (0, 0, dk_B G, fun T => MQ below (dk_QA G T) as.toArray s mc ms (dk_B G))) G cc nL C ret fr lo := ⟨B.exec, B.bytes, hml, w.1.1 ▸ findClass_of_methodNamed B.named, fun w h => hts w (List.mem_cons_of_mem _ h), B.notSynchronized, B.returns, hK, rfl, rfl, fun q h => dk_A_ge h, ⟨Nat.zero_le _, Nat.zero_le _⟩, dk_QA G, fun T => rfl, fun T H t h1 h0 h2 h3 => ⟨rfl, by rw [h3]; exact h1, h2.F h3⟩⟩
  exact k _ rfl hC hAl ⟨by show 0 + mc ≤ mc; omega, by show 0 + ms ≤ ms; omega⟩ s.heap [] _ hR ⟨Nat.le_refl _, fun _ => rfl⟩ va_S.rf ⟨hl.1, hl.2.1, fun i v h => by
    obtain ⟨w, h1, h2⟩ := dk_args_lv as 0 _ (dk_get_mem h)
    cases h1
    exact hl.2.2 _ h2⟩
theorem V.callSA (C : dk_Cx E G cc nL own ret fr lo) (A : dk_Al E G) {y : MethodName} {cc' : ByteArray} {nL' n : Nat} {ret' : Option FieldType} {fr' lo' mc' ms' idx : Nat} {As : List Value} {M2 : dkM} {r : Option Value} (hc : dk_ConA E.2.1 y cc' nL' ret' fr' lo' mc' ms' G As M (r, M2))
    (w : dk_ms own y cc' nL' ret' n) (hl : Cond.methodLink own idx y ∈ dk_tbl) (hm : 0 < mc') (hr : dk_rm E mc' ms') (hrm : Nat.ble (fr' + 1) fr = true ∧ Nat.ble (8 + (nL' + 11) + lo') lo = true) (d : decode cc pc = .ok (.invokestatic idx, 3)) (hn : As.length = n) (hw : Nat.ble (st.map fun v => v.category).sum 8 = true)
    {stk : List Value} (hs : stk = As.reverse ++ st) (kk : V (dk_more E mc' ms') G nL T M2 (pc + 3) lv (r.toList ++ st)) : V E G nL T M pc lv stk := by
  subst hs
  obtain ⟨p, l, e, R, s, m, args, below, meth, c, z⟩ := E
  intro H locs ls hR hz hSt hls
  obtain ⟨hx, hb, hml, hown, hts, hlk, hret, hK, hfr, hlo, hX⟩ := C
  have hA1 := A.1
  have hcw := cwS (R := R) (s := s) (args := args) (own := own) (index := idx) (y := y) (bytes := cc') (maxL := nL') (ret := ret') (ws := .code y cc' nL' ret' :: dk_tbl) (rm := { frames := fr', cells := mc', slots := ms', locals := lo' }) (mc := mc') (ms := ms') n hts (dk_good3 hl w.2 w.1.2.2.2 (dk_goodIn w.1.2.2.1)) rfl rfl rfl ⟨w.1.1.1, w.1.1.2.1, w.1.1.2.2.1, w.1.1.2.2.2⟩ ⟨by rw [hfr]; exact Nat.le_of_ble_eq_true hrm.1, by rw [hlo]; exact Nat.le_of_ble_eq_true hrm.2⟩
  have hrun := va_runS (p := p) (l := l) (e := e) (R := R) (s := s) (m := m) (args := args) (below := below) (meth := meth) (c := c) (H := H) (locs := locs) (cells := z.1) (slots := z.2.1) (As := As) (rest := st) (g := F0 m pc ls (As.reverse ++ st)) ⟨hx, hb, hml, hown, hts⟩ hc hcw ⟨dk_blind _ _ _, fun U hU hW => ⟨rfl, by rw [hU]; exact hR, va_K.moved hW.alike hK⟩⟩ rfl hn hls.1 rfl (lv_room (dk_wt hw)) d hr
  intro T' hT' X
  obtain ⟨v, st₀, t, T2, L, h0, X', hL, q1, q2, ⟨hv, hR2, hF2⟩, stp⟩ := hrun T' hT' X
  cases hv
  rw [va_F, h0] at hF2
  obtain ⟨t2, a1, b1⟩ := kk T2.heap (locs ++ L) ls (by rw [q1]; exact hR2) ⟨by rw [q1]; exact Nat.le_trans hz.1 hF2.1, fun z9 => absurd z9 (by show ¬ (z.1 + mc' = 0); omega)⟩ ⟨by rw [q1]; exact Nat.le_trans hSt.1 hF2.1, fun q g1 g2 => by rw [q1, hF2.2 q (Nat.lt_of_lt_of_le g1 hSt.1) (fun z9 => g2 (hA1 _ z9))]; exact hSt.2.1 q g1 g2, fun q hq => by
      rcases List.mem_append.mp hq with h | h
      · exact hSt.2.2 q h
      · exact hA1 _ (hL q h)⟩ hls T2 rfl X'
  exact ⟨t2, stp t2 a1, b1⟩
end LR0
