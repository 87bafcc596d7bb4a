/-! layout: a Row with its array, a Disk with its Rows -/
def dk_row (G : dkG) (o n : Nat) : Prop := dk_kd o = 2 ∧ dk_kd (o + 1) = 6 ∧ dk_al (o + 1) = n ∧ G.2.1 o ∧ G.2.1 (o + 1) ∧ n < 1024
def dk_disk (G : dkG) (d : Nat) : Prop := dk_kd d = 0 ∧ G.2.1 d ∧ dk_row G (d + 1) 64 ∧ dk_row G (d + 3) 64 ∧ dk_row G (d + 5) 64 ∧ dk_row G (d + 7) 64 ∧ dk_row G (d + 9) 100
theorem dk_disk.s {G : dkG} {d : Nat} (h : dk_disk G d) : G.2.1 d := h.2.1
theorem dk_disk.k {G : dkG} {d : Nat} (h : dk_disk G d) : dk_kd d = 0 := h.1
theorem dk_disk.r1 {G : dkG} {d : Nat} (h : dk_disk G d) : dk_row G (d + 1) 64 := h.2.2.1
theorem dk_disk.r3 {G : dkG} {d : Nat} (h : dk_disk G d) : dk_row G (d + 3) 64 := h.2.2.2.1
theorem dk_disk.r5 {G : dkG} {d : Nat} (h : dk_disk G d) : dk_row G (d + 5) 64 := h.2.2.2.2.1
theorem dk_disk.r7 {G : dkG} {d : Nat} (h : dk_disk G d) : dk_row G (d + 7) 64 := h.2.2.2.2.2.1
theorem dk_disk.r9 {G : dkG} {d : Nat} (h : dk_disk G d) : dk_row G (d + 9) 100 := h.2.2.2.2.2.2
theorem dk_row.s {G : dkG} {o n : Nat} (h : dk_row G o n) : G.2.1 o := h.2.2.2.1
theorem dk_row.k {G : dkG} {o n : Nat} (h : dk_row G o n) : dk_kd o = 2 := h.1
theorem dk_row.s1 {G : dkG} {o n : Nat} (h : dk_row G o n) : G.2.1 (o + 1) := h.2.2.2.2.1
theorem dk_row.k1 {G : dkG} {o n : Nat} (h : dk_row G o n) : dk_kd (o + 1) = 6 := h.2.1
theorem dk_row.a {G : dkG} {o n : Nat} (h : dk_row G o n) : dk_al (o + 1) = n := h.2.2.1
theorem dk_row.n {G : dkG} {o n : Nat} (h : dk_row G o n) : n < 1024 := h.2.2.2.2.2
/-- the class's cells; the model's cells -/
def dk_cls (G : dkG) : Prop := ∀ o, o < 111 → G.2.1 o
theorem dk_cls.at {G : dkG} (h : dk_cls G) (o : Nat) (ho : Nat.ble (o + 1) 111 = true) : G.2.1 o := h o (Nat.le_of_ble_eq_true ho)
theorem dk_rowAt {G : dkG} (h : dk_cls G) (o n : Nat) (hk : (Nat.beq (dk_kd o) 2 && (Nat.beq (dk_kd (o + 1)) 6 && (Nat.beq (dk_al (o + 1)) n && (Nat.ble (o + 2) 111 && Nat.ble (n + 1) 1024)))) = true) : dk_row G o n := by
  simp only [Bool.and_eq_true] at hk
  obtain ⟨h1, h2, h3, h4, h5⟩ := hk
  have h4 := Nat.le_of_ble_eq_true h4
  exact ⟨Nat.eq_of_beq_eq_true h1, Nat.eq_of_beq_eq_true h2, Nat.eq_of_beq_eq_true h3, h o (by omega), h (o + 1) (by omega), Nat.le_of_ble_eq_true h5⟩
theorem dk_diskAt {G : dkG} (h : dk_cls G) (d : Nat) (hk : (Nat.beq (dk_kd d) 0 && (Nat.beq (dk_kd (d + 1)) 2 && (Nat.beq (dk_al (d + 10)) 100 && Nat.ble (d + 11) 111))) = true) (hr : ∀ k, k ∈ [1, 3, 5, 7] → (Nat.beq (dk_kd (d + k)) 2 && (Nat.beq (dk_kd (d + k + 1)) 6 && (Nat.beq (dk_al (d + k + 1)) 64 && (Nat.ble (d + k + 2) 111 && Nat.ble (64 + 1) 1024)))) = true) (hr9 : (Nat.beq (dk_kd (d + 9)) 2 && (Nat.beq (dk_kd (d + 9 + 1)) 6 && (Nat.beq (dk_al (d + 9 + 1)) 100 && (Nat.ble (d + 9 + 2) 111 && Nat.ble (100 + 1) 1024)))) = true) : dk_disk G d := by
  simp only [Bool.and_eq_true] at hk
  have h4 := Nat.le_of_ble_eq_true hk.2.2.2
  exact ⟨Nat.eq_of_beq_eq_true hk.1, h d (by omega), dk_rowAt h _ _ (hr 1 (by decide)), dk_rowAt h _ _ (hr 3 (by decide)), dk_rowAt h _ _ (hr 5 (by decide)), dk_rowAt h _ _ (hr 7 (by decide)), dk_rowAt h _ _ hr9⟩
theorem dk_disk1 {G : dkG} (h : dk_cls G) : dk_disk G 1 := dk_diskAt h 1 (by decide) (by decide) (by decide)
theorem dk_disk12 {G : dkG} (h : dk_cls G) : dk_disk G 12 := dk_diskAt h 12 (by decide) (by decide) (by decide)
theorem dk_diskS {G : dkG} (h : dk_cls G) {j : Nat} (hj : j < 7) : dk_disk G (24 + 1 + 11 * j) := by
  match j, hj with
  | 0, _ => exact dk_diskAt h 25 (by decide) (by decide) (by decide)
  | 1, _ => exact dk_diskAt h 36 (by decide) (by decide) (by decide)
  | 2, _ => exact dk_diskAt h 47 (by decide) (by decide) (by decide)
  | 3, _ => exact dk_diskAt h 58 (by decide) (by decide) (by decide)
  | 4, _ => exact dk_diskAt h 69 (by decide) (by decide) (by decide)
  | 5, _ => exact dk_diskAt h 80 (by decide) (by decide) (by decide)
  | 6, _ => exact dk_diskAt h 91 (by decide) (by decide) (by decide)
  | k + 7, h => omega
/-! constants, small facts -/
theorem dk_inc (x : Int32) : x + Int32.ofInt 1 = x + 1 := by rw [show Int32.ofInt 1 = 1 from by decide]
theorem dk_incN (k : Nat) : nI k + Int32.ofInt 1 = nI (k + 1) := by rw [dk_inc]; exact nI_1 k
theorem dk_lt1 {x y : Int32} (h : x < y) : ¬ y ≤ x := Int32.not_le.mpr h
theorem dk_nlt {x y : Int32} (h : ¬ x < y) : y ≤ x := Int32.not_lt.mp h
theorem dk_le1 {x y : Int32} (h : y ≤ x) : ¬ x < y := Int32.not_lt.mpr h
theorem dk_nle {x y : Int32} (h : ¬ y ≤ x) : x < y := Int32.not_le.mp h
theorem dk_sn {lv : dkL} : ∀ q ∈ ([] : dkL), q.2 = none ∨ dk_get lv q.1 = q.2 := fun _ h => by cases h
theorem dk_sc {lv t : dkL} {i : Nat} {w : Option Value} (h : dk_get lv i = w) (ht : ∀ q ∈ t, q.2 = none ∨ dk_get lv q.1 = q.2) : ∀ q ∈ ((i, w) :: t : dkL), q.2 = none ∨ dk_get lv q.1 = q.2 := by
  intro q hq
  rcases List.mem_cons.mp hq with rfl | hq
  · exact Or.inr h
  · exact ht q hq
theorem dk_bool {x : Int32} (h : x = 0 ∨ x = 1) : narrow .boolean (.int x) = .int x ∧ fits .boolean (.int x) = true := by rcases h with rfl | rfl <;> exact ⟨rfl, rfl⟩
section FC
variable {G : dkG} {M : dkM}
theorem dk_cellX0 {o : Nat} (h : dk_kd o = 0) : dk_cell G M o = .inr (0, [.ref (G.1 + (o + 1)), .ref (G.1 + (o + 3)), .ref (G.1 + (o + 5)), .ref (G.1 + (o + 7)), .ref (G.1 + (o + 9)), .int (M o 5), .int (M o 6), .int (M o 7), .int (M o 8), .int (M o 9), .int (M o 10), .int (M o 11), .int (M o 12), .int (M o 13), .int (M o 14)]) := by simp [dk_cell, h]
theorem dk_cellX2 {o : Nat} (h : dk_kd o = 2) : dk_cell G M o = .inr (2, [.ref (G.1 + (o + 1))]) := by simp [dk_cell, h]
theorem dk_cellX1 : dk_cell G M 23 = .inr (1, [.ref (G.1 + 24), .int (M 23 1), .int (M 23 2)]) := rfl
theorem dk_cellX3 : dk_cell G M 102 = .inr (3, [.ref (G.1 + 103), .ref (G.1 + 105), .ref (G.1 + 107), .ref (G.1 + 109), .int (M 102 4)]) := rfl
theorem dk_cellX4 : dk_cell G M 0 = .inr (4, [.ref (G.1 + 1), .ref (G.1 + 12), .ref (G.1 + 23), .ref (G.1 + 102)]) := rfl
end FC
section FR
variable {E : dkE} {G : dkG} {cc : ByteArray} {nL : Nat} {own : String} {ret : Option FieldType} {fr lo : Nat} {T : dkT} {M : dkM} {pc : Nat} {lv : dkL} {st : List Value}
theorem V.callV0i (C : dk_Cx E G cc nL own ret fr lo) {Cn : String} {y : MethodName} {cc' : ByteArray} {nL' : Nat} {ret' : Option FieldType} {fr' lo' idx o ci : Nat} {x : Int32} {M2 : dkM} (hc : dk_Con E.2.1 y cc' nL' ret' fr' lo' G [.ref (G.1 + o)] M (some (.int x), M2)) (w : dk_mv Cn y cc' nL' ret' 0) (hl : Cond.methodLink own idx y ∈ dk_tbl) (hS : G.2.1 o) (hk : dk_kd o = ci) (hci : (vwCl[ci]?).map (fun q => q.1) = some Cn) (hrm : Nat.ble (fr' + 1) fr = true ∧ Nat.ble (8 + (nL' + 11) + lo') lo = true) (d : decode cc pc = .ok (.invokevirtual idx, 3)) (hw : Nat.ble (st.map fun v => v.category).sum 8 = true)
    (kk : V E G nL T M2 (pc + 3) lv (.int x :: st)) : V E G nL T M pc lv (.ref (G.1 + o) :: st) :=
  V.callV C (As := []) (r := some (.int x)) hc w hl hS hk hci hrm d rfl hw rfl kk
theorem V.callV0l (C : dk_Cx E G cc nL own ret fr lo) {Cn : String} {y : MethodName} {cc' : ByteArray} {nL' : Nat} {ret' : Option FieldType} {fr' lo' idx o ci : Nat} {x : Int64} {M2 : dkM} (hc : dk_Con E.2.1 y cc' nL' ret' fr' lo' G [.ref (G.1 + o)] M (some (.long x), M2)) (w : dk_mv Cn y cc' nL' ret' 0) (hl : Cond.methodLink own idx y ∈ dk_tbl) (hS : G.2.1 o) (hk : dk_kd o = ci) (hci : (vwCl[ci]?).map (fun q => q.1) = some Cn) (hrm : Nat.ble (fr' + 1) fr = true ∧ Nat.ble (8 + (nL' + 11) + lo') lo = true) (d : decode cc pc = .ok (.invokevirtual idx, 3)) (hw : Nat.ble (st.map fun v => v.category).sum 8 = true)
    (kk : V E G nL T M2 (pc + 3) lv (.long x :: st)) : V E G nL T M pc lv (.ref (G.1 + o) :: st) :=
  V.callV C (As := []) (r := some (.long x)) hc w hl hS hk hci hrm d rfl hw rfl kk
theorem V.callV0a (C : dk_Cx E G cc nL own ret fr lo) {Cn : String} {y : MethodName} {cc' : ByteArray} {nL' : Nat} {ret' : Option FieldType} {fr' lo' idx o ci : Nat} {x : Nat} {M2 : dkM} (hc : dk_Con E.2.1 y cc' nL' ret' fr' lo' G [.ref (G.1 + o)] M (some (.ref x), M2)) (w : dk_mv Cn y cc' nL' ret' 0) (hl : Cond.methodLink own idx y ∈ dk_tbl) (hS : G.2.1 o) (hk : dk_kd o = ci) (hci : (vwCl[ci]?).map (fun q => q.1) = some Cn) (hrm : Nat.ble (fr' + 1) fr = true ∧ Nat.ble (8 + (nL' + 11) + lo') lo = true) (d : decode cc pc = .ok (.invokevirtual idx, 3)) (hw : Nat.ble (st.map fun v => v.category).sum 8 = true)
    (kk : V E G nL T M2 (pc + 3) lv (.ref x :: st)) : V E G nL T M pc lv (.ref (G.1 + o) :: st) :=
  V.callV C (As := []) (r := some (.ref x)) hc w hl hS hk hci hrm d rfl hw rfl kk
theorem V.callV0v (C : dk_Cx E G cc nL own ret fr lo) {Cn : String} {y : MethodName} {cc' : ByteArray} {nL' : Nat} {ret' : Option FieldType} {fr' lo' idx o ci : Nat} {M2 : dkM} (hc : dk_Con E.2.1 y cc' nL' ret' fr' lo' G [.ref (G.1 + o)] M (none, M2)) (w : dk_mv Cn y cc' nL' ret' 0) (hl : Cond.methodLink own idx y ∈ dk_tbl) (hS : G.2.1 o) (hk : dk_kd o = ci) (hci : (vwCl[ci]?).map (fun q => q.1) = some Cn) (hrm : Nat.ble (fr' + 1) fr = true ∧ Nat.ble (8 + (nL' + 11) + lo') lo = true) (d : decode cc pc = .ok (.invokevirtual idx, 3)) (hw : Nat.ble (st.map fun v => v.category).sum 8 = true)
    (kk : V E G nL T M2 (pc + 3) lv (st)) : V E G nL T M pc lv (.ref (G.1 + o) :: st) :=
  V.callV C (As := []) (r := none) hc w hl hS hk hci hrm d rfl hw rfl kk
theorem V.callV1i (C : dk_Cx E G cc nL own ret fr lo) {Cn : String} {y : MethodName} {cc' : ByteArray} {nL' : Nat} {ret' : Option FieldType} {fr' lo' idx o ci : Nat} {a0 : Value} {x : Int32} {M2 : dkM} (hc : dk_Con E.2.1 y cc' nL' ret' fr' lo' G [.ref (G.1 + o), a0] M (some (.int x), M2)) (w : dk_mv Cn y cc' nL' ret' 1) (hl : Cond.methodLink own idx y ∈ dk_tbl) (hS : G.2.1 o) (hk : dk_kd o = ci) (hci : (vwCl[ci]?).map (fun q => q.1) = some Cn) (hrm : Nat.ble (fr' + 1) fr = true ∧ Nat.ble (8 + (nL' + 11) + lo') lo = true) (d : decode cc pc = .ok (.invokevirtual idx, 3)) (hw : Nat.ble (st.map fun v => v.category).sum 8 = true)
    (kk : V E G nL T M2 (pc + 3) lv (.int x :: st)) : V E G nL T M pc lv (a0 :: .ref (G.1 + o) :: st) :=
  V.callV C (As := [a0]) (r := some (.int x)) hc w hl hS hk hci hrm d rfl hw rfl kk
theorem V.callV1l (C : dk_Cx E G cc nL own ret fr lo) {Cn : String} {y : MethodName} {cc' : ByteArray} {nL' : Nat} {ret' : Option FieldType} {fr' lo' idx o ci : Nat} {a0 : Value} {x : Int64} {M2 : dkM} (hc : dk_Con E.2.1 y cc' nL' ret' fr' lo' G [.ref (G.1 + o), a0] M (some (.long x), M2)) (w : dk_mv Cn y cc' nL' ret' 1) (hl : Cond.methodLink own idx y ∈ dk_tbl) (hS : G.2.1 o) (hk : dk_kd o = ci) (hci : (vwCl[ci]?).map (fun q => q.1) = some Cn) (hrm : Nat.ble (fr' + 1) fr = true ∧ Nat.ble (8 + (nL' + 11) + lo') lo = true) (d : decode cc pc = .ok (.invokevirtual idx, 3)) (hw : Nat.ble (st.map fun v => v.category).sum 8 = true)
    (kk : V E G nL T M2 (pc + 3) lv (.long x :: st)) : V E G nL T M pc lv (a0 :: .ref (G.1 + o) :: st) :=
  V.callV C (As := [a0]) (r := some (.long x)) hc w hl hS hk hci hrm d rfl hw rfl kk
theorem V.callV1a (C : dk_Cx E G cc nL own ret fr lo) {Cn : String} {y : MethodName} {cc' : ByteArray} {nL' : Nat} {ret' : Option FieldType} {fr' lo' idx o ci : Nat} {a0 : Value} {x : Nat} {M2 : dkM} (hc : dk_Con E.2.1 y cc' nL' ret' fr' lo' G [.ref (G.1 + o), a0] M (some (.ref x), M2)) (w : dk_mv Cn y cc' nL' ret' 1) (hl : Cond.methodLink own idx y ∈ dk_tbl) (hS : G.2.1 o) (hk : dk_kd o = ci) (hci : (vwCl[ci]?).map (fun q => q.1) = some Cn) (hrm : Nat.ble (fr' + 1) fr = true ∧ Nat.ble (8 + (nL' + 11) + lo') lo = true) (d : decode cc pc = .ok (.invokevirtual idx, 3)) (hw : Nat.ble (st.map fun v => v.category).sum 8 = true)
    (kk : V E G nL T M2 (pc + 3) lv (.ref x :: st)) : V E G nL T M pc lv (a0 :: .ref (G.1 + o) :: st) :=
  V.callV C (As := [a0]) (r := some (.ref x)) hc w hl hS hk hci hrm d rfl hw rfl kk
theorem V.callV1v (C : dk_Cx E G cc nL own ret fr lo) {Cn : String} {y : MethodName} {cc' : ByteArray} {nL' : Nat} {ret' : Option FieldType} {fr' lo' idx o ci : Nat} {a0 : Value} {M2 : dkM} (hc : dk_Con E.2.1 y cc' nL' ret' fr' lo' G [.ref (G.1 + o), a0] M (none, M2)) (w : dk_mv Cn y cc' nL' ret' 1) (hl : Cond.methodLink own idx y ∈ dk_tbl) (hS : G.2.1 o) (hk : dk_kd o = ci) (hci : (vwCl[ci]?).map (fun q => q.1) = some Cn) (hrm : Nat.ble (fr' + 1) fr = true ∧ Nat.ble (8 + (nL' + 11) + lo') lo = true) (d : decode cc pc = .ok (.invokevirtual idx, 3)) (hw : Nat.ble (st.map fun v => v.category).sum 8 = true)
    (kk : V E G nL T M2 (pc + 3) lv (st)) : V E G nL T M pc lv (a0 :: .ref (G.1 + o) :: st) :=
  V.callV C (As := [a0]) (r := none) hc w hl hS hk hci hrm d rfl hw rfl kk
theorem V.callV2i (C : dk_Cx E G cc nL own ret fr lo) {Cn : String} {y : MethodName} {cc' : ByteArray} {nL' : Nat} {ret' : Option FieldType} {fr' lo' idx o ci : Nat} {a0 a1 : Value} {x : Int32} {M2 : dkM} (hc : dk_Con E.2.1 y cc' nL' ret' fr' lo' G [.ref (G.1 + o), a0, a1] M (some (.int x), M2)) (w : dk_mv Cn y cc' nL' ret' 2) (hl : Cond.methodLink own idx y ∈ dk_tbl) (hS : G.2.1 o) (hk : dk_kd o = ci) (hci : (vwCl[ci]?).map (fun q => q.1) = some Cn) (hrm : Nat.ble (fr' + 1) fr = true ∧ Nat.ble (8 + (nL' + 11) + lo') lo = true) (d : decode cc pc = .ok (.invokevirtual idx, 3)) (hw : Nat.ble (st.map fun v => v.category).sum 8 = true)
    (kk : V E G nL T M2 (pc + 3) lv (.int x :: st)) : V E G nL T M pc lv (a1 :: a0 :: .ref (G.1 + o) :: st) :=
  V.callV C (As := [a0, a1]) (r := some (.int x)) hc w hl hS hk hci hrm d rfl hw rfl kk
theorem V.callV2l (C : dk_Cx E G cc nL own ret fr lo) {Cn : String} {y : MethodName} {cc' : ByteArray} {nL' : Nat} {ret' : Option FieldType} {fr' lo' idx o ci : Nat} {a0 a1 : Value} {x : Int64} {M2 : dkM} (hc : dk_Con E.2.1 y cc' nL' ret' fr' lo' G [.ref (G.1 + o), a0, a1] M (some (.long x), M2)) (w : dk_mv Cn y cc' nL' ret' 2) (hl : Cond.methodLink own idx y ∈ dk_tbl) (hS : G.2.1 o) (hk : dk_kd o = ci) (hci : (vwCl[ci]?).map (fun q => q.1) = some Cn) (hrm : Nat.ble (fr' + 1) fr = true ∧ Nat.ble (8 + (nL' + 11) + lo') lo = true) (d : decode cc pc = .ok (.invokevirtual idx, 3)) (hw : Nat.ble (st.map fun v => v.category).sum 8 = true)
    (kk : V E G nL T M2 (pc + 3) lv (.long x :: st)) : V E G nL T M pc lv (a1 :: a0 :: .ref (G.1 + o) :: st) :=
  V.callV C (As := [a0, a1]) (r := some (.long x)) hc w hl hS hk hci hrm d rfl hw rfl kk
theorem V.callV2a (C : dk_Cx E G cc nL own ret fr lo) {Cn : String} {y : MethodName} {cc' : ByteArray} {nL' : Nat} {ret' : Option FieldType} {fr' lo' idx o ci : Nat} {a0 a1 : Value} {x : Nat} {M2 : dkM} (hc : dk_Con E.2.1 y cc' nL' ret' fr' lo' G [.ref (G.1 + o), a0, a1] M (some (.ref x), M2)) (w : dk_mv Cn y cc' nL' ret' 2) (hl : Cond.methodLink own idx y ∈ dk_tbl) (hS : G.2.1 o) (hk : dk_kd o = ci) (hci : (vwCl[ci]?).map (fun q => q.1) = some Cn) (hrm : Nat.ble (fr' + 1) fr = true ∧ Nat.ble (8 + (nL' + 11) + lo') lo = true) (d : decode cc pc = .ok (.invokevirtual idx, 3)) (hw : Nat.ble (st.map fun v => v.category).sum 8 = true)
    (kk : V E G nL T M2 (pc + 3) lv (.ref x :: st)) : V E G nL T M pc lv (a1 :: a0 :: .ref (G.1 + o) :: st) :=
  V.callV C (As := [a0, a1]) (r := some (.ref x)) hc w hl hS hk hci hrm d rfl hw rfl kk
theorem V.callV2v (C : dk_Cx E G cc nL own ret fr lo) {Cn : String} {y : MethodName} {cc' : ByteArray} {nL' : Nat} {ret' : Option FieldType} {fr' lo' idx o ci : Nat} {a0 a1 : Value} {M2 : dkM} (hc : dk_Con E.2.1 y cc' nL' ret' fr' lo' G [.ref (G.1 + o), a0, a1] M (none, M2)) (w : dk_mv Cn y cc' nL' ret' 2) (hl : Cond.methodLink own idx y ∈ dk_tbl) (hS : G.2.1 o) (hk : dk_kd o = ci) (hci : (vwCl[ci]?).map (fun q => q.1) = some Cn) (hrm : Nat.ble (fr' + 1) fr = true ∧ Nat.ble (8 + (nL' + 11) + lo') lo = true) (d : decode cc pc = .ok (.invokevirtual idx, 3)) (hw : Nat.ble (st.map fun v => v.category).sum 8 = true)
    (kk : V E G nL T M2 (pc + 3) lv (st)) : V E G nL T M pc lv (a1 :: a0 :: .ref (G.1 + o) :: st) :=
  V.callV C (As := [a0, a1]) (r := none) hc w hl hS hk hci hrm d rfl hw rfl kk
theorem V.callV3i (C : dk_Cx E G cc nL own ret fr lo) {Cn : String} {y : MethodName} {cc' : ByteArray} {nL' : Nat} {ret' : Option FieldType} {fr' lo' idx o ci : Nat} {a0 a1 a2 : Value} {x : Int32} {M2 : dkM} (hc : dk_Con E.2.1 y cc' nL' ret' fr' lo' G [.ref (G.1 + o), a0, a1, a2] M (some (.int x), M2)) (w : dk_mv Cn y cc' nL' ret' 3) (hl : Cond.methodLink own idx y ∈ dk_tbl) (hS : G.2.1 o) (hk : dk_kd o = ci) (hci : (vwCl[ci]?).map (fun q => q.1) = some Cn) (hrm : Nat.ble (fr' + 1) fr = true ∧ Nat.ble (8 + (nL' + 11) + lo') lo = true) (d : decode cc pc = .ok (.invokevirtual idx, 3)) (hw : Nat.ble (st.map fun v => v.category).sum 8 = true)
    (kk : V E G nL T M2 (pc + 3) lv (.int x :: st)) : V E G nL T M pc lv (a2 :: a1 :: a0 :: .ref (G.1 + o) :: st) :=
  V.callV C (As := [a0, a1, a2]) (r := some (.int x)) hc w hl hS hk hci hrm d rfl hw rfl kk
theorem V.callV3l (C : dk_Cx E G cc nL own ret fr lo) {Cn : String} {y : MethodName} {cc' : ByteArray} {nL' : Nat} {ret' : Option FieldType} {fr' lo' idx o ci : Nat} {a0 a1 a2 : Value} {x : Int64} {M2 : dkM} (hc : dk_Con E.2.1 y cc' nL' ret' fr' lo' G [.ref (G.1 + o), a0, a1, a2] M (some (.long x), M2)) (w : dk_mv Cn y cc' nL' ret' 3) (hl : Cond.methodLink own idx y ∈ dk_tbl) (hS : G.2.1 o) (hk : dk_kd o = ci) (hci : (vwCl[ci]?).map (fun q => q.1) = some Cn) (hrm : Nat.ble (fr' + 1) fr = true ∧ Nat.ble (8 + (nL' + 11) + lo') lo = true) (d : decode cc pc = .ok (.invokevirtual idx, 3)) (hw : Nat.ble (st.map fun v => v.category).sum 8 = true)
    (kk : V E G nL T M2 (pc + 3) lv (.long x :: st)) : V E G nL T M pc lv (a2 :: a1 :: a0 :: .ref (G.1 + o) :: st) :=
  V.callV C (As := [a0, a1, a2]) (r := some (.long x)) hc w hl hS hk hci hrm d rfl hw rfl kk
theorem V.callV3a (C : dk_Cx E G cc nL own ret fr lo) {Cn : String} {y : MethodName} {cc' : ByteArray} {nL' : Nat} {ret' : Option FieldType} {fr' lo' idx o ci : Nat} {a0 a1 a2 : Value} {x : Nat} {M2 : dkM} (hc : dk_Con E.2.1 y cc' nL' ret' fr' lo' G [.ref (G.1 + o), a0, a1, a2] M (some (.ref x), M2)) (w : dk_mv Cn y cc' nL' ret' 3) (hl : Cond.methodLink own idx y ∈ dk_tbl) (hS : G.2.1 o) (hk : dk_kd o = ci) (hci : (vwCl[ci]?).map (fun q => q.1) = some Cn) (hrm : Nat.ble (fr' + 1) fr = true ∧ Nat.ble (8 + (nL' + 11) + lo') lo = true) (d : decode cc pc = .ok (.invokevirtual idx, 3)) (hw : Nat.ble (st.map fun v => v.category).sum 8 = true)
    (kk : V E G nL T M2 (pc + 3) lv (.ref x :: st)) : V E G nL T M pc lv (a2 :: a1 :: a0 :: .ref (G.1 + o) :: st) :=
  V.callV C (As := [a0, a1, a2]) (r := some (.ref x)) hc w hl hS hk hci hrm d rfl hw rfl kk
theorem V.callV3v (C : dk_Cx E G cc nL own ret fr lo) {Cn : String} {y : MethodName} {cc' : ByteArray} {nL' : Nat} {ret' : Option FieldType} {fr' lo' idx o ci : Nat} {a0 a1 a2 : Value} {M2 : dkM} (hc : dk_Con E.2.1 y cc' nL' ret' fr' lo' G [.ref (G.1 + o), a0, a1, a2] M (none, M2)) (w : dk_mv Cn y cc' nL' ret' 3) (hl : Cond.methodLink own idx y ∈ dk_tbl) (hS : G.2.1 o) (hk : dk_kd o = ci) (hci : (vwCl[ci]?).map (fun q => q.1) = some Cn) (hrm : Nat.ble (fr' + 1) fr = true ∧ Nat.ble (8 + (nL' + 11) + lo') lo = true) (d : decode cc pc = .ok (.invokevirtual idx, 3)) (hw : Nat.ble (st.map fun v => v.category).sum 8 = true)
    (kk : V E G nL T M2 (pc + 3) lv (st)) : V E G nL T M pc lv (a2 :: a1 :: a0 :: .ref (G.1 + o) :: st) :=
  V.callV C (As := [a0, a1, a2]) (r := none) hc w hl hS hk hci hrm d rfl hw rfl kk
theorem V.callS0i (C : dk_Cx E G cc nL own ret fr lo) {y : MethodName} {cc' : ByteArray} {nL' : Nat} {ret' : Option FieldType} {fr' lo' idx : Nat} {x : Int32} {M2 : dkM} (hc : dk_Con E.2.1 y cc' nL' ret' fr' lo' G [] M (some (.int x), M2)) (w : dk_ms own y cc' nL' ret' 0) (hl : Cond.methodLink own idx y ∈ dk_tbl) (hrm : Nat.ble (fr' + 1) fr = true ∧ Nat.ble (8 + (nL' + 11) + lo') lo = true) (d : decode cc pc = .ok (.invokestatic idx, 3)) (hw : Nat.ble (st.map fun v => v.category).sum 8 = true)
    (kk : V E G nL T M2 (pc + 3) lv (.int x :: st)) : V E G nL T M pc lv (st) :=
  V.callS C (As := []) (r := some (.int x)) hc w hl hrm d rfl hw rfl kk
theorem V.callS0l (C : dk_Cx E G cc nL own ret fr lo) {y : MethodName} {cc' : ByteArray} {nL' : Nat} {ret' : Option FieldType} {fr' lo' idx : Nat} {x : Int64} {M2 : dkM} (hc : dk_Con E.2.1 y cc' nL' ret' fr' lo' G [] M (some (.long x), M2)) (w : dk_ms own y cc' nL' ret' 0) (hl : Cond.methodLink own idx y ∈ dk_tbl) (hrm : Nat.ble (fr' + 1) fr = true ∧ Nat.ble (8 + (nL' + 11) + lo') lo = true) (d : decode cc pc = .ok (.invokestatic idx, 3)) (hw : Nat.ble (st.map fun v => v.category).sum 8 = true)
    (kk : V E G nL T M2 (pc + 3) lv (.long x :: st)) : V E G nL T M pc lv (st) :=
  V.callS C (As := []) (r := some (.long x)) hc w hl hrm d rfl hw rfl kk
theorem V.callS0a (C : dk_Cx E G cc nL own ret fr lo) {y : MethodName} {cc' : ByteArray} {nL' : Nat} {ret' : Option FieldType} {fr' lo' idx : Nat} {x : Nat} {M2 : dkM} (hc : dk_Con E.2.1 y cc' nL' ret' fr' lo' G [] M (some (.ref x), M2)) (w : dk_ms own y cc' nL' ret' 0) (hl : Cond.methodLink own idx y ∈ dk_tbl) (hrm : Nat.ble (fr' + 1) fr = true ∧ Nat.ble (8 + (nL' + 11) + lo') lo = true) (d : decode cc pc = .ok (.invokestatic idx, 3)) (hw : Nat.ble (st.map fun v => v.category).sum 8 = true)
    (kk : V E G nL T M2 (pc + 3) lv (.ref x :: st)) : V E G nL T M pc lv (st) :=
  V.callS C (As := []) (r := some (.ref x)) hc w hl hrm d rfl hw rfl kk
theorem V.callS0v (C : dk_Cx E G cc nL own ret fr lo) {y : MethodName} {cc' : ByteArray} {nL' : Nat} {ret' : Option FieldType} {fr' lo' idx : Nat} {M2 : dkM} (hc : dk_Con E.2.1 y cc' nL' ret' fr' lo' G [] M (none, M2)) (w : dk_ms own y cc' nL' ret' 0) (hl : Cond.methodLink own idx y ∈ dk_tbl) (hrm : Nat.ble (fr' + 1) fr = true ∧ Nat.ble (8 + (nL' + 11) + lo') lo = true) (d : decode cc pc = .ok (.invokestatic idx, 3)) (hw : Nat.ble (st.map fun v => v.category).sum 8 = true)
    (kk : V E G nL T M2 (pc + 3) lv (st)) : V E G nL T M pc lv (st) :=
  V.callS C (As := []) (r := none) hc w hl hrm d rfl hw rfl kk
theorem V.callS1i (C : dk_Cx E G cc nL own ret fr lo) {y : MethodName} {cc' : ByteArray} {nL' : Nat} {ret' : Option FieldType} {fr' lo' idx : Nat} {a0 : Value} {x : Int32} {M2 : dkM} (hc : dk_Con E.2.1 y cc' nL' ret' fr' lo' G [a0] M (some (.int x), M2)) (w : dk_ms own y cc' nL' ret' 1) (hl : Cond.methodLink own idx y ∈ dk_tbl) (hrm : Nat.ble (fr' + 1) fr = true ∧ Nat.ble (8 + (nL' + 11) + lo') lo = true) (d : decode cc pc = .ok (.invokestatic idx, 3)) (hw : Nat.ble (st.map fun v => v.category).sum 8 = true)
    (kk : V E G nL T M2 (pc + 3) lv (.int x :: st)) : V E G nL T M pc lv (a0 :: st) :=
  V.callS C (As := [a0]) (r := some (.int x)) hc w hl hrm d rfl hw rfl kk
theorem V.callS1l (C : dk_Cx E G cc nL own ret fr lo) {y : MethodName} {cc' : ByteArray} {nL' : Nat} {ret' : Option FieldType} {fr' lo' idx : Nat} {a0 : Value} {x : Int64} {M2 : dkM} (hc : dk_Con E.2.1 y cc' nL' ret' fr' lo' G [a0] M (some (.long x), M2)) (w : dk_ms own y cc' nL' ret' 1) (hl : Cond.methodLink own idx y ∈ dk_tbl) (hrm : Nat.ble (fr' + 1) fr = true ∧ Nat.ble (8 + (nL' + 11) + lo') lo = true) (d : decode cc pc = .ok (.invokestatic idx, 3)) (hw : Nat.ble (st.map fun v => v.category).sum 8 = true)
    (kk : V E G nL T M2 (pc + 3) lv (.long x :: st)) : V E G nL T M pc lv (a0 :: st) :=
  V.callS C (As := [a0]) (r := some (.long x)) hc w hl hrm d rfl hw rfl kk
theorem V.callS1a (C : dk_Cx E G cc nL own ret fr lo) {y : MethodName} {cc' : ByteArray} {nL' : Nat} {ret' : Option FieldType} {fr' lo' idx : Nat} {a0 : Value} {x : Nat} {M2 : dkM} (hc : dk_Con E.2.1 y cc' nL' ret' fr' lo' G [a0] M (some (.ref x), M2)) (w : dk_ms own y cc' nL' ret' 1) (hl : Cond.methodLink own idx y ∈ dk_tbl) (hrm : Nat.ble (fr' + 1) fr = true ∧ Nat.ble (8 + (nL' + 11) + lo') lo = true) (d : decode cc pc = .ok (.invokestatic idx, 3)) (hw : Nat.ble (st.map fun v => v.category).sum 8 = true)
    (kk : V E G nL T M2 (pc + 3) lv (.ref x :: st)) : V E G nL T M pc lv (a0 :: st) :=
  V.callS C (As := [a0]) (r := some (.ref x)) hc w hl hrm d rfl hw rfl kk
theorem V.callS1v (C : dk_Cx E G cc nL own ret fr lo) {y : MethodName} {cc' : ByteArray} {nL' : Nat} {ret' : Option FieldType} {fr' lo' idx : Nat} {a0 : Value} {M2 : dkM} (hc : dk_Con E.2.1 y cc' nL' ret' fr' lo' G [a0] M (none, M2)) (w : dk_ms own y cc' nL' ret' 1) (hl : Cond.methodLink own idx y ∈ dk_tbl) (hrm : Nat.ble (fr' + 1) fr = true ∧ Nat.ble (8 + (nL' + 11) + lo') lo = true) (d : decode cc pc = .ok (.invokestatic idx, 3)) (hw : Nat.ble (st.map fun v => v.category).sum 8 = true)
    (kk : V E G nL T M2 (pc + 3) lv (st)) : V E G nL T M pc lv (a0 :: st) :=
  V.callS C (As := [a0]) (r := none) hc w hl hrm d rfl hw rfl kk
theorem V.callS2i (C : dk_Cx E G cc nL own ret fr lo) {y : MethodName} {cc' : ByteArray} {nL' : Nat} {ret' : Option FieldType} {fr' lo' idx : Nat} {a0 a1 : Value} {x : Int32} {M2 : dkM} (hc : dk_Con E.2.1 y cc' nL' ret' fr' lo' G [a0, a1] M (some (.int x), M2)) (w : dk_ms own y cc' nL' ret' 2) (hl : Cond.methodLink own idx y ∈ dk_tbl) (hrm : Nat.ble (fr' + 1) fr = true ∧ Nat.ble (8 + (nL' + 11) + lo') lo = true) (d : decode cc pc = .ok (.invokestatic idx, 3)) (hw : Nat.ble (st.map fun v => v.category).sum 8 = true)
    (kk : V E G nL T M2 (pc + 3) lv (.int x :: st)) : V E G nL T M pc lv (a1 :: a0 :: st) :=
  V.callS C (As := [a0, a1]) (r := some (.int x)) hc w hl hrm d rfl hw rfl kk
theorem V.callS2l (C : dk_Cx E G cc nL own ret fr lo) {y : MethodName} {cc' : ByteArray} {nL' : Nat} {ret' : Option FieldType} {fr' lo' idx : Nat} {a0 a1 : Value} {x : Int64} {M2 : dkM} (hc : dk_Con E.2.1 y cc' nL' ret' fr' lo' G [a0, a1] M (some (.long x), M2)) (w : dk_ms own y cc' nL' ret' 2) (hl : Cond.methodLink own idx y ∈ dk_tbl) (hrm : Nat.ble (fr' + 1) fr = true ∧ Nat.ble (8 + (nL' + 11) + lo') lo = true) (d : decode cc pc = .ok (.invokestatic idx, 3)) (hw : Nat.ble (st.map fun v => v.category).sum 8 = true)
    (kk : V E G nL T M2 (pc + 3) lv (.long x :: st)) : V E G nL T M pc lv (a1 :: a0 :: st) :=
  V.callS C (As := [a0, a1]) (r := some (.long x)) hc w hl hrm d rfl hw rfl kk
theorem V.callS2a (C : dk_Cx E G cc nL own ret fr lo) {y : MethodName} {cc' : ByteArray} {nL' : Nat} {ret' : Option FieldType} {fr' lo' idx : Nat} {a0 a1 : Value} {x : Nat} {M2 : dkM} (hc : dk_Con E.2.1 y cc' nL' ret' fr' lo' G [a0, a1] M (some (.ref x), M2)) (w : dk_ms own y cc' nL' ret' 2) (hl : Cond.methodLink own idx y ∈ dk_tbl) (hrm : Nat.ble (fr' + 1) fr = true ∧ Nat.ble (8 + (nL' + 11) + lo') lo = true) (d : decode cc pc = .ok (.invokestatic idx, 3)) (hw : Nat.ble (st.map fun v => v.category).sum 8 = true)
    (kk : V E G nL T M2 (pc + 3) lv (.ref x :: st)) : V E G nL T M pc lv (a1 :: a0 :: st) :=
  V.callS C (As := [a0, a1]) (r := some (.ref x)) hc w hl hrm d rfl hw rfl kk
theorem V.callS2v (C : dk_Cx E G cc nL own ret fr lo) {y : MethodName} {cc' : ByteArray} {nL' : Nat} {ret' : Option FieldType} {fr' lo' idx : Nat} {a0 a1 : Value} {M2 : dkM} (hc : dk_Con E.2.1 y cc' nL' ret' fr' lo' G [a0, a1] M (none, M2)) (w : dk_ms own y cc' nL' ret' 2) (hl : Cond.methodLink own idx y ∈ dk_tbl) (hrm : Nat.ble (fr' + 1) fr = true ∧ Nat.ble (8 + (nL' + 11) + lo') lo = true) (d : decode cc pc = .ok (.invokestatic idx, 3)) (hw : Nat.ble (st.map fun v => v.category).sum 8 = true)
    (kk : V E G nL T M2 (pc + 3) lv (st)) : V E G nL T M pc lv (a1 :: a0 :: st) :=
  V.callS C (As := [a0, a1]) (r := none) hc w hl hrm d rfl hw rfl kk
theorem V.callS3i (C : dk_Cx E G cc nL own ret fr lo) {y : MethodName} {cc' : ByteArray} {nL' : Nat} {ret' : Option FieldType} {fr' lo' idx : Nat} {a0 a1 a2 : Value} {x : Int32} {M2 : dkM} (hc : dk_Con E.2.1 y cc' nL' ret' fr' lo' G [a0, a1, a2] M (some (.int x), M2)) (w : dk_ms own y cc' nL' ret' 3) (hl : Cond.methodLink own idx y ∈ dk_tbl) (hrm : Nat.ble (fr' + 1) fr = true ∧ Nat.ble (8 + (nL' + 11) + lo') lo = true) (d : decode cc pc = .ok (.invokestatic idx, 3)) (hw : Nat.ble (st.map fun v => v.category).sum 8 = true)
    (kk : V E G nL T M2 (pc + 3) lv (.int x :: st)) : V E G nL T M pc lv (a2 :: a1 :: a0 :: st) :=
  V.callS C (As := [a0, a1, a2]) (r := some (.int x)) hc w hl hrm d rfl hw rfl kk
theorem V.callS3l (C : dk_Cx E G cc nL own ret fr lo) {y : MethodName} {cc' : ByteArray} {nL' : Nat} {ret' : Option FieldType} {fr' lo' idx : Nat} {a0 a1 a2 : Value} {x : Int64} {M2 : dkM} (hc : dk_Con E.2.1 y cc' nL' ret' fr' lo' G [a0, a1, a2] M (some (.long x), M2)) (w : dk_ms own y cc' nL' ret' 3) (hl : Cond.methodLink own idx y ∈ dk_tbl) (hrm : Nat.ble (fr' + 1) fr = true ∧ Nat.ble (8 + (nL' + 11) + lo') lo = true) (d : decode cc pc = .ok (.invokestatic idx, 3)) (hw : Nat.ble (st.map fun v => v.category).sum 8 = true)
    (kk : V E G nL T M2 (pc + 3) lv (.long x :: st)) : V E G nL T M pc lv (a2 :: a1 :: a0 :: st) :=
  V.callS C (As := [a0, a1, a2]) (r := some (.long x)) hc w hl hrm d rfl hw rfl kk
theorem V.callS3a (C : dk_Cx E G cc nL own ret fr lo) {y : MethodName} {cc' : ByteArray} {nL' : Nat} {ret' : Option FieldType} {fr' lo' idx : Nat} {a0 a1 a2 : Value} {x : Nat} {M2 : dkM} (hc : dk_Con E.2.1 y cc' nL' ret' fr' lo' G [a0, a1, a2] M (some (.ref x), M2)) (w : dk_ms own y cc' nL' ret' 3) (hl : Cond.methodLink own idx y ∈ dk_tbl) (hrm : Nat.ble (fr' + 1) fr = true ∧ Nat.ble (8 + (nL' + 11) + lo') lo = true) (d : decode cc pc = .ok (.invokestatic idx, 3)) (hw : Nat.ble (st.map fun v => v.category).sum 8 = true)
    (kk : V E G nL T M2 (pc + 3) lv (.ref x :: st)) : V E G nL T M pc lv (a2 :: a1 :: a0 :: st) :=
  V.callS C (As := [a0, a1, a2]) (r := some (.ref x)) hc w hl hrm d rfl hw rfl kk
theorem V.callS3v (C : dk_Cx E G cc nL own ret fr lo) {y : MethodName} {cc' : ByteArray} {nL' : Nat} {ret' : Option FieldType} {fr' lo' idx : Nat} {a0 a1 a2 : Value} {M2 : dkM} (hc : dk_Con E.2.1 y cc' nL' ret' fr' lo' G [a0, a1, a2] M (none, M2)) (w : dk_ms own y cc' nL' ret' 3) (hl : Cond.methodLink own idx y ∈ dk_tbl) (hrm : Nat.ble (fr' + 1) fr = true ∧ Nat.ble (8 + (nL' + 11) + lo') lo = true) (d : decode cc pc = .ok (.invokestatic idx, 3)) (hw : Nat.ble (st.map fun v => v.category).sum 8 = true)
    (kk : V E G nL T M2 (pc + 3) lv (st)) : V E G nL T M pc lv (a2 :: a1 :: a0 :: st) :=
  V.callS C (As := [a0, a1, a2]) (r := none) hc w hl hrm d rfl hw rfl kk
theorem V.callS4i (C : dk_Cx E G cc nL own ret fr lo) {y : MethodName} {cc' : ByteArray} {nL' : Nat} {ret' : Option FieldType} {fr' lo' idx : Nat} {a0 a1 a2 a3 : Value} {x : Int32} {M2 : dkM} (hc : dk_Con E.2.1 y cc' nL' ret' fr' lo' G [a0, a1, a2, a3] M (some (.int x), M2)) (w : dk_ms own y cc' nL' ret' 4) (hl : Cond.methodLink own idx y ∈ dk_tbl) (hrm : Nat.ble (fr' + 1) fr = true ∧ Nat.ble (8 + (nL' + 11) + lo') lo = true) (d : decode cc pc = .ok (.invokestatic idx, 3)) (hw : Nat.ble (st.map fun v => v.category).sum 8 = true)
    (kk : V E G nL T M2 (pc + 3) lv (.int x :: st)) : V E G nL T M pc lv (a3 :: a2 :: a1 :: a0 :: st) :=
  V.callS C (As := [a0, a1, a2, a3]) (r := some (.int x)) hc w hl hrm d rfl hw rfl kk
theorem V.callS4l (C : dk_Cx E G cc nL own ret fr lo) {y : MethodName} {cc' : ByteArray} {nL' : Nat} {ret' : Option FieldType} {fr' lo' idx : Nat} {a0 a1 a2 a3 : Value} {x : Int64} {M2 : dkM} (hc : dk_Con E.2.1 y cc' nL' ret' fr' lo' G [a0, a1, a2, a3] M (some (.long x), M2)) (w : dk_ms own y cc' nL' ret' 4) (hl : Cond.methodLink own idx y ∈ dk_tbl) (hrm : Nat.ble (fr' + 1) fr = true ∧ Nat.ble (8 + (nL' + 11) + lo') lo = true) (d : decode cc pc = .ok (.invokestatic idx, 3)) (hw : Nat.ble (st.map fun v => v.category).sum 8 = true)
    (kk : V E G nL T M2 (pc + 3) lv (.long x :: st)) : V E G nL T M pc lv (a3 :: a2 :: a1 :: a0 :: st) :=
  V.callS C (As := [a0, a1, a2, a3]) (r := some (.long x)) hc w hl hrm d rfl hw rfl kk
theorem V.callS4a (C : dk_Cx E G cc nL own ret fr lo) {y : MethodName} {cc' : ByteArray} {nL' : Nat} {ret' : Option FieldType} {fr' lo' idx : Nat} {a0 a1 a2 a3 : Value} {x : Nat} {M2 : dkM} (hc : dk_Con E.2.1 y cc' nL' ret' fr' lo' G [a0, a1, a2, a3] M (some (.ref x), M2)) (w : dk_ms own y cc' nL' ret' 4) (hl : Cond.methodLink own idx y ∈ dk_tbl) (hrm : Nat.ble (fr' + 1) fr = true ∧ Nat.ble (8 + (nL' + 11) + lo') lo = true) (d : decode cc pc = .ok (.invokestatic idx, 3)) (hw : Nat.ble (st.map fun v => v.category).sum 8 = true)
    (kk : V E G nL T M2 (pc + 3) lv (.ref x :: st)) : V E G nL T M pc lv (a3 :: a2 :: a1 :: a0 :: st) :=
  V.callS C (As := [a0, a1, a2, a3]) (r := some (.ref x)) hc w hl hrm d rfl hw rfl kk
theorem V.callS4v (C : dk_Cx E G cc nL own ret fr lo) {y : MethodName} {cc' : ByteArray} {nL' : Nat} {ret' : Option FieldType} {fr' lo' idx : Nat} {a0 a1 a2 a3 : Value} {M2 : dkM} (hc : dk_Con E.2.1 y cc' nL' ret' fr' lo' G [a0, a1, a2, a3] M (none, M2)) (w : dk_ms own y cc' nL' ret' 4) (hl : Cond.methodLink own idx y ∈ dk_tbl) (hrm : Nat.ble (fr' + 1) fr = true ∧ Nat.ble (8 + (nL' + 11) + lo') lo = true) (d : decode cc pc = .ok (.invokestatic idx, 3)) (hw : Nat.ble (st.map fun v => v.category).sum 8 = true)
    (kk : V E G nL T M2 (pc + 3) lv (st)) : V E G nL T M pc lv (a3 :: a2 :: a1 :: a0 :: st) :=
  V.callS C (As := [a0, a1, a2, a3]) (r := none) hc w hl hrm d rfl hw rfl kk
def dk_max (x y : Int32) : Int32 := if x < y then y else x
def dk_min (x y : Int32) : Int32 := if y < x then y else x
theorem V.mmax (C : dk_Cx E G cc nL own ret fr lo) {idx : Nat} {x y : Int32} (hl : Cond.methodLink own idx Lib.Math.max.name ∈ dk_tbl) (hrm : Nat.ble 1 fr = true ∧ Nat.ble 21 lo = true) (d : decode cc pc = .ok (.invokestatic idx, 3)) (hw : Nat.ble (st.map fun v => v.category).sum 8 = true) (kk : V E G nL T M (pc + 3) lv (.int (dk_max x y) :: st)) : V E G nL T M pc lv (.int y :: .int x :: st) := by
  obtain ⟨p, l, e, R, s, m, args, below, meth, c, z⟩ := E
  intro H locs ls hR hz hSt hls
  obtain ⟨hx, hb, hml, hown, hts, hlk, hret, hK, hfr, hlo, hX⟩ := C
  have h1 := dk_wt hw
  have h2 := Nat.le_of_ble_eq_true hrm.1
  have h3 := Nat.le_of_ble_eq_true hrm.2
  exact va_mmax hx hb (hml.trans hls.1.symm) hown (hts _ hl) (hts _ mmmax_s) (hts _ mmath_i) (hts _ mmmax_c) (by rw [hfr]; exact h2) (by rw [hlo]; omega) hX.2.1.1 hX.2.1.2 d (kk H locs ls hR hz hSt hls)
theorem V.mmin (C : dk_Cx E G cc nL own ret fr lo) {idx : Nat} {x y : Int32} (hl : Cond.methodLink own idx Lib.Math.min.name ∈ dk_tbl) (hrm : Nat.ble 1 fr = true ∧ Nat.ble 21 lo = true) (d : decode cc pc = .ok (.invokestatic idx, 3)) (hw : Nat.ble (st.map fun v => v.category).sum 8 = true) (kk : V E G nL T M (pc + 3) lv (.int (dk_min x y) :: st)) : V E G nL T M pc lv (.int y :: .int x :: st) := by
  obtain ⟨p, l, e, R, s, m, args, below, meth, c, z⟩ := E
  intro H locs ls hR hz hSt hls
  obtain ⟨hx, hb, hml, hown, hts, hlk, hret, hK, hfr, hlo, hX⟩ := C
  have h1 := dk_wt hw
  have h2 := Nat.le_of_ble_eq_true hrm.1
  have h3 := Nat.le_of_ble_eq_true hrm.2
  exact va_mmin hx hb (hml.trans hls.1.symm) hown (hts _ hl) (hts _ mmmin_s) (hts _ mmath_i) (hts _ mmmin_c) (by rw [hfr]; exact h2) (by rw [hlo]; omega) hX.2.1.1 hX.2.1.2 d (kk H locs ls hR hz hSt hls)
theorem gfX2_15 {o n : Nat} (h : dk_row G o n) (C : dk_Cx E G cc nL RX2 ret fr lo) (dg : decode cc pc = .ok (.getfield 15, 3)) (kk : V E G nL T M (pc + 3) lv (.ref (G.1 + (o + 1)) :: st)) : V E G nL T M pc lv (.ref (G.1 + o) :: st) :=
  V.getf C h.s (dk_cellX2 h.k) uwX2 (ci := 2) (Cn := RX2) (Tn := TX2) (N := 1) (k := 0) rfl (by decide) flX2_15 rfl dg kk
theorem gfX0_14 {d : Nat} (hd : dk_disk G d) (C : dk_Cx E G cc nL RX0 ret fr lo) (dg : decode cc pc = .ok (.getfield 14, 3)) (kk : V E G nL T M (pc + 3) lv (.ref (G.1 + (d + 1)) :: st)) : V E G nL T M pc lv (.ref (G.1 + d) :: st) :=
  V.getf C hd.s (dk_cellX0 hd.k) uwX0 (ci := 0) (Cn := RX0) (Tn := TX0) (N := 15) (k := 0) rfl (by decide) flX0_14 rfl dg kk
theorem gfX0_20 {d : Nat} (hd : dk_disk G d) (C : dk_Cx E G cc nL RX0 ret fr lo) (dg : decode cc pc = .ok (.getfield 20, 3)) (kk : V E G nL T M (pc + 3) lv (.ref (G.1 + (d + 3)) :: st)) : V E G nL T M pc lv (.ref (G.1 + d) :: st) :=
  V.getf C hd.s (dk_cellX0 hd.k) uwX0 (ci := 0) (Cn := RX0) (Tn := TX0) (N := 15) (k := 1) rfl (by decide) flX0_20 rfl dg kk
theorem gfX0_23 {d : Nat} (hd : dk_disk G d) (C : dk_Cx E G cc nL RX0 ret fr lo) (dg : decode cc pc = .ok (.getfield 23, 3)) (kk : V E G nL T M (pc + 3) lv (.ref (G.1 + (d + 5)) :: st)) : V E G nL T M pc lv (.ref (G.1 + d) :: st) :=
  V.getf C hd.s (dk_cellX0 hd.k) uwX0 (ci := 0) (Cn := RX0) (Tn := TX0) (N := 15) (k := 2) rfl (by decide) flX0_23 rfl dg kk
theorem gfX0_26 {d : Nat} (hd : dk_disk G d) (C : dk_Cx E G cc nL RX0 ret fr lo) (dg : decode cc pc = .ok (.getfield 26, 3)) (kk : V E G nL T M (pc + 3) lv (.ref (G.1 + (d + 7)) :: st)) : V E G nL T M pc lv (.ref (G.1 + d) :: st) :=
  V.getf C hd.s (dk_cellX0 hd.k) uwX0 (ci := 0) (Cn := RX0) (Tn := TX0) (N := 15) (k := 3) rfl (by decide) flX0_26 rfl dg kk
theorem gfX0_29 {d : Nat} (hd : dk_disk G d) (C : dk_Cx E G cc nL RX0 ret fr lo) (dg : decode cc pc = .ok (.getfield 29, 3)) (kk : V E G nL T M (pc + 3) lv (.ref (G.1 + (d + 9)) :: st)) : V E G nL T M pc lv (.ref (G.1 + d) :: st) :=
  V.getf C hd.s (dk_cellX0 hd.k) uwX0 (ci := 0) (Cn := RX0) (Tn := TX0) (N := 15) (k := 4) rfl (by decide) flX0_29 rfl dg kk
theorem gfX0_32 {d : Nat} (hd : dk_disk G d) (C : dk_Cx E G cc nL RX0 ret fr lo) (dg : decode cc pc = .ok (.getfield 32, 3)) (kk : V E G nL T M (pc + 3) lv (.int (M d 5) :: st)) : V E G nL T M pc lv (.ref (G.1 + d) :: st) :=
  V.getf C hd.s (dk_cellX0 hd.k) uwX0 (ci := 0) (Cn := RX0) (Tn := TX0) (N := 15) (k := 5) rfl (by decide) flX0_32 rfl dg kk
theorem pfX0_32 {d : Nat} (hd : dk_disk G d) (C : dk_Cx E G cc nL RX0 ret fr lo) {x : Int32} (dg : decode cc pc = .ok (.putfield 32, 3)) (kk : V E G nL T (dk_put M d 5 x) (pc + 3) lv st) : V E G nL T M pc lv (.int x :: .ref (G.1 + d) :: st) :=
  V.putf C hd.s (dk_cellX0 hd.k) ((dk_cellX0 hd.k).trans (by simp [dk_put])) uwX0 (ci := 0) (Cn := RX0) (Tn := TX0) (N := 15) (k := 5) (ty := .int) rfl tyX0 tyX0_ok nmX0 (by decide) (Nat.le_of_ble_eq_true rfl) flX0_32 rfl (tyX0_ok 5 (by decide)) rfl rfl dg kk
theorem gfX0_36 {d : Nat} (hd : dk_disk G d) (C : dk_Cx E G cc nL RX0 ret fr lo) (dg : decode cc pc = .ok (.getfield 36, 3)) (kk : V E G nL T M (pc + 3) lv (.int (M d 6) :: st)) : V E G nL T M pc lv (.ref (G.1 + d) :: st) :=
  V.getf C hd.s (dk_cellX0 hd.k) uwX0 (ci := 0) (Cn := RX0) (Tn := TX0) (N := 15) (k := 6) rfl (by decide) flX0_36 rfl dg kk
theorem pfX0_36 {d : Nat} (hd : dk_disk G d) (C : dk_Cx E G cc nL RX0 ret fr lo) {x : Int32} (dg : decode cc pc = .ok (.putfield 36, 3)) (kk : V E G nL T (dk_put M d 6 x) (pc + 3) lv st) : V E G nL T M pc lv (.int x :: .ref (G.1 + d) :: st) :=
  V.putf C hd.s (dk_cellX0 hd.k) ((dk_cellX0 hd.k).trans (by simp [dk_put])) uwX0 (ci := 0) (Cn := RX0) (Tn := TX0) (N := 15) (k := 6) (ty := .int) rfl tyX0 tyX0_ok nmX0 (by decide) (Nat.le_of_ble_eq_true rfl) flX0_36 rfl (tyX0_ok 6 (by decide)) rfl rfl dg kk
theorem gfX0_39 {d : Nat} (hd : dk_disk G d) (C : dk_Cx E G cc nL RX0 ret fr lo) (dg : decode cc pc = .ok (.getfield 39, 3)) (kk : V E G nL T M (pc + 3) lv (.int (M d 7) :: st)) : V E G nL T M pc lv (.ref (G.1 + d) :: st) :=
  V.getf C hd.s (dk_cellX0 hd.k) uwX0 (ci := 0) (Cn := RX0) (Tn := TX0) (N := 15) (k := 7) rfl (by decide) flX0_39 rfl dg kk
theorem pfX0_39 {d : Nat} (hd : dk_disk G d) (C : dk_Cx E G cc nL RX0 ret fr lo) {x : Int32} (dg : decode cc pc = .ok (.putfield 39, 3)) (kk : V E G nL T (dk_put M d 7 x) (pc + 3) lv st) : V E G nL T M pc lv (.int x :: .ref (G.1 + d) :: st) :=
  V.putf C hd.s (dk_cellX0 hd.k) ((dk_cellX0 hd.k).trans (by simp [dk_put])) uwX0 (ci := 0) (Cn := RX0) (Tn := TX0) (N := 15) (k := 7) (ty := .int) rfl tyX0 tyX0_ok nmX0 (by decide) (Nat.le_of_ble_eq_true rfl) flX0_39 rfl (tyX0_ok 7 (by decide)) rfl rfl dg kk
theorem gfX0_42 {d : Nat} (hd : dk_disk G d) (C : dk_Cx E G cc nL RX0 ret fr lo) (dg : decode cc pc = .ok (.getfield 42, 3)) (kk : V E G nL T M (pc + 3) lv (.int (M d 8) :: st)) : V E G nL T M pc lv (.ref (G.1 + d) :: st) :=
  V.getf C hd.s (dk_cellX0 hd.k) uwX0 (ci := 0) (Cn := RX0) (Tn := TX0) (N := 15) (k := 8) rfl (by decide) flX0_42 rfl dg kk
theorem pfX0_42 {d : Nat} (hd : dk_disk G d) (C : dk_Cx E G cc nL RX0 ret fr lo) {x : Int32} (hx : x = 0 ∨ x = 1) (dg : decode cc pc = .ok (.putfield 42, 3)) (kk : V E G nL T (dk_put M d 8 x) (pc + 3) lv st) : V E G nL T M pc lv (.int x :: .ref (G.1 + d) :: st) :=
  V.putf C hd.s (dk_cellX0 hd.k) ((dk_cellX0 hd.k).trans (by simp [dk_put])) uwX0 (ci := 0) (Cn := RX0) (Tn := TX0) (N := 15) (k := 8) (ty := .boolean) rfl tyX0 tyX0_ok nmX0 (by decide) (Nat.le_of_ble_eq_true rfl) flX0_42 rfl (tyX0_ok 8 (by decide)) (dk_bool hx).1 (dk_bool hx).2 dg kk
theorem gfX0_46 {d : Nat} (hd : dk_disk G d) (C : dk_Cx E G cc nL RX0 ret fr lo) (dg : decode cc pc = .ok (.getfield 46, 3)) (kk : V E G nL T M (pc + 3) lv (.int (M d 9) :: st)) : V E G nL T M pc lv (.ref (G.1 + d) :: st) :=
  V.getf C hd.s (dk_cellX0 hd.k) uwX0 (ci := 0) (Cn := RX0) (Tn := TX0) (N := 15) (k := 9) rfl (by decide) flX0_46 rfl dg kk
theorem pfX0_46 {d : Nat} (hd : dk_disk G d) (C : dk_Cx E G cc nL RX0 ret fr lo) {x : Int32} (dg : decode cc pc = .ok (.putfield 46, 3)) (kk : V E G nL T (dk_put M d 9 x) (pc + 3) lv st) : V E G nL T M pc lv (.int x :: .ref (G.1 + d) :: st) :=
  V.putf C hd.s (dk_cellX0 hd.k) ((dk_cellX0 hd.k).trans (by simp [dk_put])) uwX0 (ci := 0) (Cn := RX0) (Tn := TX0) (N := 15) (k := 9) (ty := .int) rfl tyX0 tyX0_ok nmX0 (by decide) (Nat.le_of_ble_eq_true rfl) flX0_46 rfl (tyX0_ok 9 (by decide)) rfl rfl dg kk
theorem gfX0_49 {d : Nat} (hd : dk_disk G d) (C : dk_Cx E G cc nL RX0 ret fr lo) (dg : decode cc pc = .ok (.getfield 49, 3)) (kk : V E G nL T M (pc + 3) lv (.int (M d 10) :: st)) : V E G nL T M pc lv (.ref (G.1 + d) :: st) :=
  V.getf C hd.s (dk_cellX0 hd.k) uwX0 (ci := 0) (Cn := RX0) (Tn := TX0) (N := 15) (k := 10) rfl (by decide) flX0_49 rfl dg kk
theorem pfX0_49 {d : Nat} (hd : dk_disk G d) (C : dk_Cx E G cc nL RX0 ret fr lo) {x : Int32} (dg : decode cc pc = .ok (.putfield 49, 3)) (kk : V E G nL T (dk_put M d 10 x) (pc + 3) lv st) : V E G nL T M pc lv (.int x :: .ref (G.1 + d) :: st) :=
  V.putf C hd.s (dk_cellX0 hd.k) ((dk_cellX0 hd.k).trans (by simp [dk_put])) uwX0 (ci := 0) (Cn := RX0) (Tn := TX0) (N := 15) (k := 10) (ty := .int) rfl tyX0 tyX0_ok nmX0 (by decide) (Nat.le_of_ble_eq_true rfl) flX0_49 rfl (tyX0_ok 10 (by decide)) rfl rfl dg kk
theorem gfX0_52 {d : Nat} (hd : dk_disk G d) (C : dk_Cx E G cc nL RX0 ret fr lo) (dg : decode cc pc = .ok (.getfield 52, 3)) (kk : V E G nL T M (pc + 3) lv (.int (M d 11) :: st)) : V E G nL T M pc lv (.ref (G.1 + d) :: st) :=
  V.getf C hd.s (dk_cellX0 hd.k) uwX0 (ci := 0) (Cn := RX0) (Tn := TX0) (N := 15) (k := 11) rfl (by decide) flX0_52 rfl dg kk
theorem pfX0_52 {d : Nat} (hd : dk_disk G d) (C : dk_Cx E G cc nL RX0 ret fr lo) {x : Int32} (dg : decode cc pc = .ok (.putfield 52, 3)) (kk : V E G nL T (dk_put M d 11 x) (pc + 3) lv st) : V E G nL T M pc lv (.int x :: .ref (G.1 + d) :: st) :=
  V.putf C hd.s (dk_cellX0 hd.k) ((dk_cellX0 hd.k).trans (by simp [dk_put])) uwX0 (ci := 0) (Cn := RX0) (Tn := TX0) (N := 15) (k := 11) (ty := .int) rfl tyX0 tyX0_ok nmX0 (by decide) (Nat.le_of_ble_eq_true rfl) flX0_52 rfl (tyX0_ok 11 (by decide)) rfl rfl dg kk
theorem gfX0_55 {d : Nat} (hd : dk_disk G d) (C : dk_Cx E G cc nL RX0 ret fr lo) (dg : decode cc pc = .ok (.getfield 55, 3)) (kk : V E G nL T M (pc + 3) lv (.int (M d 12) :: st)) : V E G nL T M pc lv (.ref (G.1 + d) :: st) :=
  V.getf C hd.s (dk_cellX0 hd.k) uwX0 (ci := 0) (Cn := RX0) (Tn := TX0) (N := 15) (k := 12) rfl (by decide) flX0_55 rfl dg kk
theorem pfX0_55 {d : Nat} (hd : dk_disk G d) (C : dk_Cx E G cc nL RX0 ret fr lo) {x : Int32} (hx : x = 0 ∨ x = 1) (dg : decode cc pc = .ok (.putfield 55, 3)) (kk : V E G nL T (dk_put M d 12 x) (pc + 3) lv st) : V E G nL T M pc lv (.int x :: .ref (G.1 + d) :: st) :=
  V.putf C hd.s (dk_cellX0 hd.k) ((dk_cellX0 hd.k).trans (by simp [dk_put])) uwX0 (ci := 0) (Cn := RX0) (Tn := TX0) (N := 15) (k := 12) (ty := .boolean) rfl tyX0 tyX0_ok nmX0 (by decide) (Nat.le_of_ble_eq_true rfl) flX0_55 rfl (tyX0_ok 12 (by decide)) (dk_bool hx).1 (dk_bool hx).2 dg kk
theorem gfX0_58 {d : Nat} (hd : dk_disk G d) (C : dk_Cx E G cc nL RX0 ret fr lo) (dg : decode cc pc = .ok (.getfield 58, 3)) (kk : V E G nL T M (pc + 3) lv (.int (M d 13) :: st)) : V E G nL T M pc lv (.ref (G.1 + d) :: st) :=
  V.getf C hd.s (dk_cellX0 hd.k) uwX0 (ci := 0) (Cn := RX0) (Tn := TX0) (N := 15) (k := 13) rfl (by decide) flX0_58 rfl dg kk
theorem pfX0_58 {d : Nat} (hd : dk_disk G d) (C : dk_Cx E G cc nL RX0 ret fr lo) {x : Int32} (dg : decode cc pc = .ok (.putfield 58, 3)) (kk : V E G nL T (dk_put M d 13 x) (pc + 3) lv st) : V E G nL T M pc lv (.int x :: .ref (G.1 + d) :: st) :=
  V.putf C hd.s (dk_cellX0 hd.k) ((dk_cellX0 hd.k).trans (by simp [dk_put])) uwX0 (ci := 0) (Cn := RX0) (Tn := TX0) (N := 15) (k := 13) (ty := .int) rfl tyX0 tyX0_ok nmX0 (by decide) (Nat.le_of_ble_eq_true rfl) flX0_58 rfl (tyX0_ok 13 (by decide)) rfl rfl dg kk
theorem gfX0_61 {d : Nat} (hd : dk_disk G d) (C : dk_Cx E G cc nL RX0 ret fr lo) (dg : decode cc pc = .ok (.getfield 61, 3)) (kk : V E G nL T M (pc + 3) lv (.int (M d 14) :: st)) : V E G nL T M pc lv (.ref (G.1 + d) :: st) :=
  V.getf C hd.s (dk_cellX0 hd.k) uwX0 (ci := 0) (Cn := RX0) (Tn := TX0) (N := 15) (k := 14) rfl (by decide) flX0_61 rfl dg kk
theorem pfX0_61 {d : Nat} (hd : dk_disk G d) (C : dk_Cx E G cc nL RX0 ret fr lo) {x : Int32} (dg : decode cc pc = .ok (.putfield 61, 3)) (kk : V E G nL T (dk_put M d 14 x) (pc + 3) lv st) : V E G nL T M pc lv (.int x :: .ref (G.1 + d) :: st) :=
  V.putf C hd.s (dk_cellX0 hd.k) ((dk_cellX0 hd.k).trans (by simp [dk_put])) uwX0 (ci := 0) (Cn := RX0) (Tn := TX0) (N := 15) (k := 14) (ty := .int) rfl tyX0 tyX0_ok nmX0 (by decide) (Nat.le_of_ble_eq_true rfl) flX0_61 rfl (tyX0_ok 14 (by decide)) rfl rfl dg kk
theorem gfX1_13 (hG : dk_cls G) (C : dk_Cx E G cc nL RX1 ret fr lo) (dg : decode cc pc = .ok (.getfield 13, 3)) (kk : V E G nL T M (pc + 3) lv (.ref (G.1 + 24) :: st)) : V E G nL T M pc lv (.ref (G.1 + 23) :: st) :=
  V.getf C (hG.at 23 rfl) (dk_cellX1 ) uwX1 (ci := 1) (Cn := RX1) (Tn := TX1) (N := 3) (k := 0) rfl (by decide) flX1_13 rfl dg kk
theorem gfX1_17 (hG : dk_cls G) (C : dk_Cx E G cc nL RX1 ret fr lo) (dg : decode cc pc = .ok (.getfield 17, 3)) (kk : V E G nL T M (pc + 3) lv (.int (M 23 1) :: st)) : V E G nL T M pc lv (.ref (G.1 + 23) :: st) :=
  V.getf C (hG.at 23 rfl) (dk_cellX1 ) uwX1 (ci := 1) (Cn := RX1) (Tn := TX1) (N := 3) (k := 1) rfl (by decide) flX1_17 rfl dg kk
theorem pfX1_17 (hG : dk_cls G) (C : dk_Cx E G cc nL RX1 ret fr lo) {x : Int32} (dg : decode cc pc = .ok (.putfield 17, 3)) (kk : V E G nL T (dk_put M 23 1 x) (pc + 3) lv st) : V E G nL T M pc lv (.int x :: .ref (G.1 + 23) :: st) :=
  V.putf C (hG.at 23 rfl) (dk_cellX1 ) ((dk_cellX1 ).trans (by simp [dk_put])) uwX1 (ci := 1) (Cn := RX1) (Tn := TX1) (N := 3) (k := 1) (ty := .int) rfl tyX1 tyX1_ok nmX1 (by decide) (Nat.le_of_ble_eq_true rfl) flX1_17 rfl (tyX1_ok 1 (by decide)) rfl rfl dg kk
theorem gfX1_21 (hG : dk_cls G) (C : dk_Cx E G cc nL RX1 ret fr lo) (dg : decode cc pc = .ok (.getfield 21, 3)) (kk : V E G nL T M (pc + 3) lv (.int (M 23 2) :: st)) : V E G nL T M pc lv (.ref (G.1 + 23) :: st) :=
  V.getf C (hG.at 23 rfl) (dk_cellX1 ) uwX1 (ci := 1) (Cn := RX1) (Tn := TX1) (N := 3) (k := 2) rfl (by decide) flX1_21 rfl dg kk
theorem pfX1_21 (hG : dk_cls G) (C : dk_Cx E G cc nL RX1 ret fr lo) {x : Int32} (dg : decode cc pc = .ok (.putfield 21, 3)) (kk : V E G nL T (dk_put M 23 2 x) (pc + 3) lv st) : V E G nL T M pc lv (.int x :: .ref (G.1 + 23) :: st) :=
  V.putf C (hG.at 23 rfl) (dk_cellX1 ) ((dk_cellX1 ).trans (by simp [dk_put])) uwX1 (ci := 1) (Cn := RX1) (Tn := TX1) (N := 3) (k := 2) (ty := .int) rfl tyX1 tyX1_ok nmX1 (by decide) (Nat.le_of_ble_eq_true rfl) flX1_21 rfl (tyX1_ok 2 (by decide)) rfl rfl dg kk
theorem gfX3_14 (hG : dk_cls G) (C : dk_Cx E G cc nL RX3 ret fr lo) (dg : decode cc pc = .ok (.getfield 14, 3)) (kk : V E G nL T M (pc + 3) lv (.ref (G.1 + 103) :: st)) : V E G nL T M pc lv (.ref (G.1 + 102) :: st) :=
  V.getf C (hG.at 102 rfl) (dk_cellX3 ) uwX3 (ci := 3) (Cn := RX3) (Tn := TX3) (N := 5) (k := 0) rfl (by decide) flX3_14 rfl dg kk
theorem gfX3_20 (hG : dk_cls G) (C : dk_Cx E G cc nL RX3 ret fr lo) (dg : decode cc pc = .ok (.getfield 20, 3)) (kk : V E G nL T M (pc + 3) lv (.ref (G.1 + 105) :: st)) : V E G nL T M pc lv (.ref (G.1 + 102) :: st) :=
  V.getf C (hG.at 102 rfl) (dk_cellX3 ) uwX3 (ci := 3) (Cn := RX3) (Tn := TX3) (N := 5) (k := 1) rfl (by decide) flX3_20 rfl dg kk
theorem gfX3_23 (hG : dk_cls G) (C : dk_Cx E G cc nL RX3 ret fr lo) (dg : decode cc pc = .ok (.getfield 23, 3)) (kk : V E G nL T M (pc + 3) lv (.ref (G.1 + 107) :: st)) : V E G nL T M pc lv (.ref (G.1 + 102) :: st) :=
  V.getf C (hG.at 102 rfl) (dk_cellX3 ) uwX3 (ci := 3) (Cn := RX3) (Tn := TX3) (N := 5) (k := 2) rfl (by decide) flX3_23 rfl dg kk
theorem gfX3_26 (hG : dk_cls G) (C : dk_Cx E G cc nL RX3 ret fr lo) (dg : decode cc pc = .ok (.getfield 26, 3)) (kk : V E G nL T M (pc + 3) lv (.ref (G.1 + 109) :: st)) : V E G nL T M pc lv (.ref (G.1 + 102) :: st) :=
  V.getf C (hG.at 102 rfl) (dk_cellX3 ) uwX3 (ci := 3) (Cn := RX3) (Tn := TX3) (N := 5) (k := 3) rfl (by decide) flX3_26 rfl dg kk
theorem gfX3_29 (hG : dk_cls G) (C : dk_Cx E G cc nL RX3 ret fr lo) (dg : decode cc pc = .ok (.getfield 29, 3)) (kk : V E G nL T M (pc + 3) lv (.int (M 102 4) :: st)) : V E G nL T M pc lv (.ref (G.1 + 102) :: st) :=
  V.getf C (hG.at 102 rfl) (dk_cellX3 ) uwX3 (ci := 3) (Cn := RX3) (Tn := TX3) (N := 5) (k := 4) rfl (by decide) flX3_29 rfl dg kk
theorem pfX3_29 (hG : dk_cls G) (C : dk_Cx E G cc nL RX3 ret fr lo) {x : Int32} (dg : decode cc pc = .ok (.putfield 29, 3)) (kk : V E G nL T (dk_put M 102 4 x) (pc + 3) lv st) : V E G nL T M pc lv (.int x :: .ref (G.1 + 102) :: st) :=
  V.putf C (hG.at 102 rfl) (dk_cellX3 ) ((dk_cellX3 ).trans (by simp [dk_put])) uwX3 (ci := 3) (Cn := RX3) (Tn := TX3) (N := 5) (k := 4) (ty := .int) rfl tyX3 tyX3_ok nmX3 (by decide) (Nat.le_of_ble_eq_true rfl) flX3_29 rfl (tyX3_ok 4 (by decide)) rfl rfl dg kk
theorem gfX4_12 (hG : dk_cls G) (C : dk_Cx E G cc nL RX4 ret fr lo) (dg : decode cc pc = .ok (.getfield 12, 3)) (kk : V E G nL T M (pc + 3) lv (.ref (G.1 + 1) :: st)) : V E G nL T M pc lv (.ref (G.1 + 0) :: st) :=
  V.getf C (hG.at 0 rfl) (dk_cellX4 ) uwX4 (ci := 4) (Cn := RX4) (Tn := TX4) (N := 4) (k := 0) rfl (by decide) flX4_12 rfl dg kk
theorem gfX4_16 (hG : dk_cls G) (C : dk_Cx E G cc nL RX4 ret fr lo) (dg : decode cc pc = .ok (.getfield 16, 3)) (kk : V E G nL T M (pc + 3) lv (.ref (G.1 + 12) :: st)) : V E G nL T M pc lv (.ref (G.1 + 0) :: st) :=
  V.getf C (hG.at 0 rfl) (dk_cellX4 ) uwX4 (ci := 4) (Cn := RX4) (Tn := TX4) (N := 4) (k := 1) rfl (by decide) flX4_16 rfl dg kk
theorem gfX4_22 (hG : dk_cls G) (C : dk_Cx E G cc nL RX4 ret fr lo) (dg : decode cc pc = .ok (.getfield 22, 3)) (kk : V E G nL T M (pc + 3) lv (.ref (G.1 + 23) :: st)) : V E G nL T M pc lv (.ref (G.1 + 0) :: st) :=
  V.getf C (hG.at 0 rfl) (dk_cellX4 ) uwX4 (ci := 4) (Cn := RX4) (Tn := TX4) (N := 4) (k := 2) rfl (by decide) flX4_22 rfl dg kk
theorem gfX4_29 (hG : dk_cls G) (C : dk_Cx E G cc nL RX4 ret fr lo) (dg : decode cc pc = .ok (.getfield 29, 3)) (kk : V E G nL T M (pc + 3) lv (.ref (G.1 + 102) :: st)) : V E G nL T M pc lv (.ref (G.1 + 0) :: st) :=
  V.getf C (hG.at 0 rfl) (dk_cellX4 ) uwX4 (ci := 4) (Cn := RX4) (Tn := TX4) (N := 4) (k := 3) rfl (by decide) flX4_29 rfl dg kk
end FR
