theorem insX0 : Cond.instantiable RX0 15 ∈ dk_tbl := dk_tw 16 (by decide +kernel)
theorem iniX0 : Cond.initialized RX0 ∈ dk_tbl := dk_tw 2 (by decide +kernel)
theorem insX1 : Cond.instantiable RX1 3 ∈ dk_tbl := dk_tw 105 (by decide +kernel)
theorem iniX1 : Cond.initialized RX1 ∈ dk_tbl := dk_tw 5 (by decide +kernel)
theorem insX2 : Cond.instantiable RX2 1 ∈ dk_tbl := dk_tw 22 (by decide +kernel)
theorem iniX2 : Cond.initialized RX2 ∈ dk_tbl := dk_tw 3 (by decide +kernel)
theorem insX3 : Cond.instantiable RX3 5 ∈ dk_tbl := dk_tw 124 (by decide +kernel)
theorem iniX3 : Cond.initialized RX3 ∈ dk_tbl := dk_tw 6 (by decide +kernel)
theorem insX4 : Cond.instantiable RX4 4 ∈ dk_tbl := dk_tw 8 (by decide +kernel)
theorem iniX4 : Cond.initialized RX4 ∈ dk_tbl := dk_tw 1 (by decide +kernel)
theorem clX4_9 : Cond.classLink RX4 9 RX0 ∈ dk_tbl := dk_tw 15 (by decide +kernel)
theorem clX0_9 : Cond.classLink RX0 9 RX2 ∈ dk_tbl := dk_tw 21 (by decide +kernel)
theorem clX4_19 : Cond.classLink RX4 19 RX1 ∈ dk_tbl := dk_tw 104 (by decide +kernel)
theorem clX1_11 : Cond.classLink RX1 11 RX0 ∈ dk_tbl := dk_tw 110 (by decide +kernel)
theorem clX4_26 : Cond.classLink RX4 26 RX3 ∈ dk_tbl := dk_tw 123 (by decide +kernel)
theorem clX3_9 : Cond.classLink RX3 9 RX2 ∈ dk_tbl := dk_tw 129 (by decide +kernel)
theorem arrI : Cond.arrayClass .int ∈ dk_tbl := dk_tw 38 (by decide +kernel)
theorem dk_up_s {X : dkX} {o : Nat} {q : va_E} : dk_up X o q o = q := by simp [dk_up]
theorem dk_up_n {X : dkX} {o a : Nat} {q : va_E} (h : a ≠ o) : dk_up X o q a = X a := by simp [dk_up, h]
theorem dk_max0 {N : Nat} (h : N < 2 ^ 31) : dk_max (nI N) 0 = nI N := by
  unfold dk_max; rw [if_neg (nI_pos h)]
/-- a row as its constructor leaves it -/
def rowI (N : Nat) : Nat → Int32 := fun b => if b < N then -1 else 0
def rowX (G : dkG) (X : dkX) (o N : Nat) : dkX := dk_up (dk_up X o (.inr (2, [.ref (G.1 + (o + 1))]))) (o + 1) (.inl (G.2.2.2.1, N, .inl (rowI N)))
set_option maxHeartbeats 4000000 in
set_option maxRecDepth 20000 in
theorem c_X2_init {l : Launch} {G : dkG} {X : dkX} {o N : Nat} (ho : dk_kd o = 2) (hk1 : dk_kd (o + 1) = 6) (hal : dk_al (o + 1) = N) (hN : N < 1024) (hX : X o = .inr (2, [.null])) : dk_ConX l yX2_init cX2_init 2 1 21 1 N G [.ref (G.1 + o), .int (nI N)] X (o + 1) (rowX G X o N) (o + 2) := by
  refine dk_ConX.of mwX2_init.1 rfl (Nat.le_of_ble_eq_true rfl) (fun E hE hC => ?_)
  subst hE
  refine VX.aload_n hC dX2_init_0 rfl ?_
  refine VX.objInit hC mlX2_3 ⟨rfl, rfl⟩ dX2_init_1 rfl ?_
  refine VX.aload_n hC dX2_init_4 rfl ?_
  refine VX.iload_n hC dX2_init_5 rfl ?_
  refine VX.iconst hC 0 dX2_init_6 (by decide) ?_
  refine VX.mmax hC mlX2_9 ⟨rfl, rfl⟩ ⟨by omega, by omega⟩ dX2_init_7 rfl ?_
  refine VX.top (congrArg Value.int (dk_max0 (by omega))) ?_
  refine VX.newi hC (nI_pos (by omega)) (nI_clamp (by omega)) (by omega) ⟨by omega, by omega⟩ dX2_init_10 arrI ?_
  refine VX.putR hC (o := o) (fs := [.null]) (by omega) (by simp [dk_up, hX]) (ci := 2) (Cn := RX2) (Tn := TX2) (N := 1) (k := 0) (ty := tyX2 0) uwX2 rfl tyX2 tyX2_ok nmX2 (by decide) (Nat.le_of_ble_eq_true rfl) flX2_15 rfl rfl (tyX2_ok 0 (by decide)) rfl rfl dX2_init_12 ?_
  refine VX.aload_n hC dX2_init_15 rfl ?_
  refine VX.callV hC (As := []) (a := o) (b := o + 2) (M := fun _ _ => 0) (c_X2_clear (G := dk_at G o (o + 2)) (o := o) (nn := N) ⟨ho, hk1, hal, ⟨Nat.le_refl _, by omega⟩, ⟨by omega, by omega⟩, hN⟩) ⟨by omega, by omega⟩ (by omega) (fun a h1 h2 => ?_) mwX2_clear mlX2_21 ⟨Nat.le_refl _, by omega⟩ ho rfl ⟨rfl, rfl⟩ dX2_init_16 rfl rfl rfl ?_
  · rcases (show a = o ∨ a = o + 1 by omega) with rfl | rfl
    · simp [dk_up, dk_cell, ho]
    · simp [dk_up, dk_cell, hk1, hal]
  refine VX.vret hC (fun a ha => ?_) rfl ⟨rfl, by omega⟩ dX2_init_19
  unfold dk_mix rowX
  by_cases h1 : o ≤ a ∧ a < o + 2
  · rw [if_pos h1]
    rcases (show a = o ∨ a = o + 1 by omega) with rfl | rfl
    · simp [dk_up, dk_cell, ho]
    · have e : rclear (fun _ _ => 0) o N (o + 1) = rowI N := by funext b; simp [rclear, rowI]
      rw [dk_up_s]
      simp only [dk_cell, hk1, hal, e]
  · rw [if_neg h1]
    simp [dk_up, show a ≠ o by omega, show a ≠ o + 1 by omega]
/-- what the layout says of a Disk -/
def dk_dst (d : Nat) : Prop := dk_kd d = 0 ∧ (dk_kd (d + 1) = 2 ∧ dk_kd (d + 1 + 1) = 6 ∧ dk_al (d + 1 + 1) = 64) ∧ (dk_kd (d + 3) = 2 ∧ dk_kd (d + 3 + 1) = 6 ∧ dk_al (d + 3 + 1) = 64) ∧ (dk_kd (d + 5) = 2 ∧ dk_kd (d + 5 + 1) = 6 ∧ dk_al (d + 5 + 1) = 64) ∧ (dk_kd (d + 7) = 2 ∧ dk_kd (d + 7 + 1) = 6 ∧ dk_al (d + 7 + 1) = 64) ∧ (dk_kd (d + 9) = 2 ∧ dk_kd (d + 9 + 1) = 6 ∧ dk_al (d + 9 + 1) = 100)
def dFld (k : Nat) : Int32 := match k with
  | 5 => 16
  | 6 => 1
  | 8 => 1
  | 11 => 4
  | 12 => 1
  | _ => 0
def dRaw (d : Nat) : dkM := fun a b => if a = d then dFld b else rowI (dk_al a) b
theorem dRaw_cell {G : dkG} {d o N : Nat} (hk : dk_kd o = 6) (hal : dk_al o = N) (ho : o ≠ d) : dk_cell G (dRaw d) o = .inl (G.2.2.2.1, N, .inl (rowI N)) := by
  have e : dRaw d o = rowI N := by funext b; unfold dRaw; rw [if_neg ho, hal]
  simp only [dk_cell, hk, hal, e]
def dIni (d : Nat) : dkM := fillZ (rset (dRaw d) (d + 9) 100 1 0) d
theorem dk_dst.disk {G : dkG} {d : Nat} (h : dk_dst d) : dk_disk (dk_at G d (d + 11)) d := by
  obtain ⟨h0, ⟨a1, a2, a3⟩, ⟨b1, b2, b3⟩, ⟨c1, c2, c3⟩, ⟨d1, d2, d3⟩, ⟨e1, e2, e3⟩⟩ := h
  have hS : ∀ k, k < 11 → (dk_at G d (d + 11)).2.1 (d + k) := fun k hk => ⟨Nat.le_add_right _ _, by omega⟩
  exact ⟨h0, hS 0 (by decide), ⟨a1, a2, a3, hS 1 (by decide), hS 2 (by decide), by decide⟩, ⟨b1, b2, b3, hS 3 (by decide), hS 4 (by decide), by decide⟩, ⟨c1, c2, c3, hS 5 (by decide), hS 6 (by decide), by decide⟩, ⟨d1, d2, d3, hS 7 (by decide), hS 8 (by decide), by decide⟩, ⟨e1, e2, e3, hS 9 (by decide), hS 10 (by decide), by decide⟩⟩
set_option maxHeartbeats 4000000 in
set_option maxRecDepth 20000 in
theorem c_X0_init {l : Launch} {G : dkG} {X : dkX} {d : Nat} (h : dk_dst d) (hX : X d = .inr (0, [.null, .null, .null, .null, .null, .int 0, .int 0, .int 0, .int 0, .int 0, .int 0, .int 0, .int 0, .int 0, .int 0])) : dk_ConX l yX0_init cX0_init 1 3 66 10 361 G [.ref (G.1 + d)] X (d + 1) (dk_mix G (dIni d) X d (d + 11)) (d + 11) := by
  refine dk_ConX.of mwX0_init.1 rfl (Nat.le_of_ble_eq_true rfl) (fun E hE hC => ?_)
  subst hE
  obtain ⟨h0, ⟨a1, a2, a3⟩, ⟨b1, b2, b3⟩, ⟨f1, f2, f3⟩, ⟨d1, d2, d3⟩, ⟨e1, e2, e3⟩⟩ := id h
  refine VX.aload_n hC dX0_init_0 rfl ?_
  refine VX.objInit hC mlX0_3 ⟨rfl, rfl⟩ dX0_init_1 rfl ?_
  refine VX.aload_n hC dX0_init_4 rfl ?_
  refine VX.new hC (ci := 2) (Cn := RX2) (Tn := TX2) (N := 1) (fs := [.null]) uwX2 tyX2 tyX2_ok clX0_9 insX2 iniX2 rfl (fun j hj => by rcases (show j = 0 by omega) with rfl <;> rfl) ⟨by omega, by omega⟩ dX0_init_5 ?_
  refine VX.dup hC dX0_init_8 rfl ?_
  refine VX.bipush hC (64) dX0_init_9 (by decide) ?_
  refine VX.callX hC (As := [.int (nI 64)]) (o := d + 1) (c_X2_init (o := d + 1) (N := 64) a1 a2 a3 (by decide) (by simp [dk_up])) mwX2_init rfl mlX0_11 ⟨rfl, rfl⟩ ⟨by omega, by omega⟩ dX0_init_11 rfl rfl rfl ?_
  refine VX.putR hC (o := d) (fs := [.null, .null, .null, .null, .null, .int 0, .int 0, .int 0, .int 0, .int 0, .int 0, .int 0, .int 0, .int 0, .int 0]) (by omega) (by simp [dk_up, rowX, hX, Nat.add_assoc]) (ci := 0) (Cn := RX0) (Tn := TX0) (N := 15) (k := 0) (ty := tyX0 0) uwX0 rfl tyX0 tyX0_ok nmX0 (by decide) (Nat.le_of_ble_eq_true rfl) flX0_14 rfl rfl (tyX0_ok 0 (by decide)) rfl rfl dX0_init_14 ?_
  refine VX.aload_n hC dX0_init_17 rfl ?_
  refine VX.new hC (ci := 2) (Cn := RX2) (Tn := TX2) (N := 1) (fs := [.null]) uwX2 tyX2 tyX2_ok clX0_9 insX2 iniX2 rfl (fun j hj => by rcases (show j = 0 by omega) with rfl <;> rfl) ⟨by omega, by omega⟩ dX0_init_18 ?_
  refine VX.dup hC dX0_init_21 rfl ?_
  refine VX.bipush hC (64) dX0_init_22 (by decide) ?_
  refine VX.callX hC (As := [.int (nI 64)]) (o := d + 3) (c_X2_init (o := d + 3) (N := 64) b1 b2 b3 (by decide) (by simp [dk_up])) mwX2_init rfl mlX0_11 ⟨rfl, rfl⟩ ⟨by omega, by omega⟩ dX0_init_24 rfl rfl rfl ?_
  refine VX.putR hC (o := d) (fs := [.ref (G.1 + (d + 1)), .null, .null, .null, .null, .int 0, .int 0, .int 0, .int 0, .int 0, .int 0, .int 0, .int 0, .int 0, .int 0]) (by omega) (by simp [dk_up, rowX, hX, Nat.add_assoc]) (ci := 0) (Cn := RX0) (Tn := TX0) (N := 15) (k := 1) (ty := tyX0 1) uwX0 rfl tyX0 tyX0_ok nmX0 (by decide) (Nat.le_of_ble_eq_true rfl) flX0_20 rfl rfl (tyX0_ok 1 (by decide)) rfl rfl dX0_init_27 ?_
  refine VX.aload_n hC dX0_init_30 rfl ?_
  refine VX.new hC (ci := 2) (Cn := RX2) (Tn := TX2) (N := 1) (fs := [.null]) uwX2 tyX2 tyX2_ok clX0_9 insX2 iniX2 rfl (fun j hj => by rcases (show j = 0 by omega) with rfl <;> rfl) ⟨by omega, by omega⟩ dX0_init_31 ?_
  refine VX.dup hC dX0_init_34 rfl ?_
  refine VX.bipush hC (64) dX0_init_35 (by decide) ?_
  refine VX.callX hC (As := [.int (nI 64)]) (o := d + 5) (c_X2_init (o := d + 5) (N := 64) f1 f2 f3 (by decide) (by simp [dk_up])) mwX2_init rfl mlX0_11 ⟨rfl, rfl⟩ ⟨by omega, by omega⟩ dX0_init_37 rfl rfl rfl ?_
  refine VX.putR hC (o := d) (fs := [.ref (G.1 + (d + 1)), .ref (G.1 + (d + 3)), .null, .null, .null, .int 0, .int 0, .int 0, .int 0, .int 0, .int 0, .int 0, .int 0, .int 0, .int 0]) (by omega) (by simp [dk_up, rowX, hX, Nat.add_assoc]) (ci := 0) (Cn := RX0) (Tn := TX0) (N := 15) (k := 2) (ty := tyX0 2) uwX0 rfl tyX0 tyX0_ok nmX0 (by decide) (Nat.le_of_ble_eq_true rfl) flX0_23 rfl rfl (tyX0_ok 2 (by decide)) rfl rfl dX0_init_40 ?_
  refine VX.aload_n hC dX0_init_43 rfl ?_
  refine VX.new hC (ci := 2) (Cn := RX2) (Tn := TX2) (N := 1) (fs := [.null]) uwX2 tyX2 tyX2_ok clX0_9 insX2 iniX2 rfl (fun j hj => by rcases (show j = 0 by omega) with rfl <;> rfl) ⟨by omega, by omega⟩ dX0_init_44 ?_
  refine VX.dup hC dX0_init_47 rfl ?_
  refine VX.bipush hC (64) dX0_init_48 (by decide) ?_
  refine VX.callX hC (As := [.int (nI 64)]) (o := d + 7) (c_X2_init (o := d + 7) (N := 64) d1 d2 d3 (by decide) (by simp [dk_up])) mwX2_init rfl mlX0_11 ⟨rfl, rfl⟩ ⟨by omega, by omega⟩ dX0_init_50 rfl rfl rfl ?_
  refine VX.putR hC (o := d) (fs := [.ref (G.1 + (d + 1)), .ref (G.1 + (d + 3)), .ref (G.1 + (d + 5)), .null, .null, .int 0, .int 0, .int 0, .int 0, .int 0, .int 0, .int 0, .int 0, .int 0, .int 0]) (by omega) (by simp [dk_up, rowX, hX, Nat.add_assoc]) (ci := 0) (Cn := RX0) (Tn := TX0) (N := 15) (k := 3) (ty := tyX0 3) uwX0 rfl tyX0 tyX0_ok nmX0 (by decide) (Nat.le_of_ble_eq_true rfl) flX0_26 rfl rfl (tyX0_ok 3 (by decide)) rfl rfl dX0_init_53 ?_
  refine VX.aload_n hC dX0_init_56 rfl ?_
  refine VX.new hC (ci := 2) (Cn := RX2) (Tn := TX2) (N := 1) (fs := [.null]) uwX2 tyX2 tyX2_ok clX0_9 insX2 iniX2 rfl (fun j hj => by rcases (show j = 0 by omega) with rfl <;> rfl) ⟨by omega, by omega⟩ dX0_init_57 ?_
  refine VX.dup hC dX0_init_60 rfl ?_
  refine VX.bipush hC (100) dX0_init_61 (by decide) ?_
  refine VX.callX hC (As := [.int (nI 100)]) (o := d + 9) (c_X2_init (o := d + 9) (N := 100) e1 e2 e3 (by decide) (by simp [dk_up])) mwX2_init rfl mlX0_11 ⟨rfl, rfl⟩ ⟨by omega, by omega⟩ dX0_init_63 rfl rfl rfl ?_
  refine VX.putR hC (o := d) (fs := [.ref (G.1 + (d + 1)), .ref (G.1 + (d + 3)), .ref (G.1 + (d + 5)), .ref (G.1 + (d + 7)), .null, .int 0, .int 0, .int 0, .int 0, .int 0, .int 0, .int 0, .int 0, .int 0, .int 0]) (by omega) (by simp [dk_up, rowX, hX, Nat.add_assoc]) (ci := 0) (Cn := RX0) (Tn := TX0) (N := 15) (k := 4) (ty := tyX0 4) uwX0 rfl tyX0 tyX0_ok nmX0 (by decide) (Nat.le_of_ble_eq_true rfl) flX0_29 rfl rfl (tyX0_ok 4 (by decide)) rfl rfl dX0_init_66 ?_
  refine VX.aload_n hC dX0_init_69 rfl ?_
  refine VX.bipush hC (16) dX0_init_70 (by decide) ?_
  refine VX.putI hC (o := d) (by omega) dk_up_s (ci := 0) (Cn := RX0) (Tn := TX0) (N := 15) (k := 5) (ty := tyX0 5) uwX0 rfl tyX0 tyX0_ok nmX0 (by decide) (Nat.le_of_ble_eq_true rfl) flX0_32 rfl (tyX0_ok 5 (by decide)) rfl rfl dX0_init_72 ?_
  refine VX.aload_n hC dX0_init_75 rfl ?_
  refine VX.iconst hC (1) dX0_init_76 (by decide) ?_
  refine VX.putI hC (o := d) (by omega) dk_up_s (ci := 0) (Cn := RX0) (Tn := TX0) (N := 15) (k := 6) (ty := tyX0 6) uwX0 rfl tyX0 tyX0_ok nmX0 (by decide) (Nat.le_of_ble_eq_true rfl) flX0_36 rfl (tyX0_ok 6 (by decide)) rfl rfl dX0_init_77 ?_
  refine VX.aload_n hC dX0_init_80 rfl ?_
  refine VX.iconst hC (0) dX0_init_81 (by decide) ?_
  refine VX.putI hC (o := d) (by omega) dk_up_s (ci := 0) (Cn := RX0) (Tn := TX0) (N := 15) (k := 7) (ty := tyX0 7) uwX0 rfl tyX0 tyX0_ok nmX0 (by decide) (Nat.le_of_ble_eq_true rfl) flX0_39 rfl (tyX0_ok 7 (by decide)) rfl rfl dX0_init_82 ?_
  refine VX.aload_n hC dX0_init_85 rfl ?_
  refine VX.iconst hC (1) dX0_init_86 (by decide) ?_
  refine VX.putI hC (o := d) (by omega) dk_up_s (ci := 0) (Cn := RX0) (Tn := TX0) (N := 15) (k := 8) (ty := tyX0 8) uwX0 rfl tyX0 tyX0_ok nmX0 (by decide) (Nat.le_of_ble_eq_true rfl) flX0_42 rfl (tyX0_ok 8 (by decide)) rfl rfl dX0_init_87 ?_
  refine VX.aload_n hC dX0_init_90 rfl ?_
  refine VX.iconst hC (0) dX0_init_91 (by decide) ?_
  refine VX.putI hC (o := d) (by omega) dk_up_s (ci := 0) (Cn := RX0) (Tn := TX0) (N := 15) (k := 9) (ty := tyX0 9) uwX0 rfl tyX0 tyX0_ok nmX0 (by decide) (Nat.le_of_ble_eq_true rfl) flX0_46 rfl (tyX0_ok 9 (by decide)) rfl rfl dX0_init_92 ?_
  refine VX.aload_n hC dX0_init_95 rfl ?_
  refine VX.iconst hC (0) dX0_init_96 (by decide) ?_
  refine VX.putI hC (o := d) (by omega) dk_up_s (ci := 0) (Cn := RX0) (Tn := TX0) (N := 15) (k := 10) (ty := tyX0 10) uwX0 rfl tyX0 tyX0_ok nmX0 (by decide) (Nat.le_of_ble_eq_true rfl) flX0_49 rfl (tyX0_ok 10 (by decide)) rfl rfl dX0_init_97 ?_
  refine VX.aload_n hC dX0_init_100 rfl ?_
  refine VX.iconst hC (4) dX0_init_101 (by decide) ?_
  refine VX.putI hC (o := d) (by omega) dk_up_s (ci := 0) (Cn := RX0) (Tn := TX0) (N := 15) (k := 11) (ty := tyX0 11) uwX0 rfl tyX0 tyX0_ok nmX0 (by decide) (Nat.le_of_ble_eq_true rfl) flX0_52 rfl (tyX0_ok 11 (by decide)) rfl rfl dX0_init_102 ?_
  refine VX.aload_n hC dX0_init_105 rfl ?_
  refine VX.iconst hC (1) dX0_init_106 (by decide) ?_
  refine VX.putI hC (o := d) (by omega) dk_up_s (ci := 0) (Cn := RX0) (Tn := TX0) (N := 15) (k := 12) (ty := tyX0 12) uwX0 rfl tyX0 tyX0_ok nmX0 (by decide) (Nat.le_of_ble_eq_true rfl) flX0_55 rfl (tyX0_ok 12 (by decide)) rfl rfl dX0_init_107 ?_
  refine VX.aload_n hC dX0_init_110 rfl ?_
  refine VX.iconst hC (0) dX0_init_111 (by decide) ?_
  refine VX.putI hC (o := d) (by omega) dk_up_s (ci := 0) (Cn := RX0) (Tn := TX0) (N := 15) (k := 13) (ty := tyX0 13) uwX0 rfl tyX0 tyX0_ok nmX0 (by decide) (Nat.le_of_ble_eq_true rfl) flX0_58 rfl (tyX0_ok 13 (by decide)) rfl rfl dX0_init_112 ?_
  refine VX.aload_n hC dX0_init_115 rfl ?_
  refine VX.iconst hC (0) dX0_init_116 (by decide) ?_
  refine VX.putI hC (o := d) (by omega) dk_up_s (ci := 0) (Cn := RX0) (Tn := TX0) (N := 15) (k := 14) (ty := tyX0 14) uwX0 rfl tyX0 tyX0_ok nmX0 (by decide) (Nat.le_of_ble_eq_true rfl) flX0_61 rfl (tyX0_ok 14 (by decide)) rfl rfl dX0_init_117 ?_
  refine VX.aload_n hC dX0_init_120 rfl ?_
  refine VX.getf hC (o := d) (by omega) dk_up_s uwX0 (ci := 0) (Cn := RX0) (Tn := TX0) (N := 15) (k := 4) rfl (by decide) flX0_29 rfl dX0_init_121 ?_
  refine VX.aload_n hC dX0_init_124 rfl ?_
  refine VX.getf hC (o := d) (by omega) dk_up_s uwX0 (ci := 0) (Cn := RX0) (Tn := TX0) (N := 15) (k := 6) rfl (by decide) flX0_36 rfl dX0_init_125 ?_
  refine VX.iconst hC 0 dX0_init_128 (by decide) ?_
  refine VX.callV hC (As := [.int 1, .int 0]) (o := d + 9) (a := d) (b := d + 11) (M := dRaw d) (c_X2_set (G := dk_at G d (d + 11)) h.disk.r9) ⟨by omega, by omega⟩ (by omega) (fun a q1 q2 => ?_) mwX2_set mlX0_64 ⟨by omega, by omega⟩ e1 rfl ⟨rfl, rfl⟩ dX0_init_129 rfl rfl rfl ?_
  · rcases (show a = d ∨ a = d + 1 ∨ a = d + 2 ∨ a = d + 3 ∨ a = d + 4 ∨ a = d + 5 ∨ a = d + 6 ∨ a = d + 7 ∨ a = d + 8 ∨ a = d + 9 ∨ a = d + 10 by omega) with rfl | rfl | rfl | rfl | rfl | rfl | rfl | rfl | rfl | rfl | rfl
    · rw [dk_up_s]; simp only [dk_cell, h0, dRaw, if_true]; rfl
    · simp [dk_up, rowX, dk_cell, a1, Nat.add_assoc]
    · rw [dRaw_cell (N := 64) a2 a3 (by omega)]; simp [dk_up, rowX, Nat.add_assoc]
    · simp [dk_up, rowX, dk_cell, b1, Nat.add_assoc]
    · rw [dRaw_cell (N := 64) b2 b3 (by omega)]; simp [dk_up, rowX, Nat.add_assoc]
    · simp [dk_up, rowX, dk_cell, f1, Nat.add_assoc]
    · rw [dRaw_cell (N := 64) f2 f3 (by omega)]; simp [dk_up, rowX, Nat.add_assoc]
    · simp [dk_up, rowX, dk_cell, d1, Nat.add_assoc]
    · rw [dRaw_cell (N := 64) d2 d3 (by omega)]; simp [dk_up, rowX, Nat.add_assoc]
    · simp [dk_up, rowX, dk_cell, e1, Nat.add_assoc]
    · rw [dRaw_cell (N := 100) e2 e3 (by omega)]; simp [dk_up, rowX, Nat.add_assoc]
  refine VX.aload_n hC dX0_init_132 rfl ?_
  refine VX.callV hC (As := []) (o := d) (a := d) (b := d + 11) (M := rset (dRaw d) (d + 9) 100 1 0) (c_X0_fillWithZeros (G := dk_at G d (d + 11)) h.disk) ⟨by omega, by omega⟩ (by omega) (fun a q1 q2 => by unfold dk_mix; rw [if_pos ⟨q1, q2⟩]) mwX0_fillWithZeros mlX0_68 ⟨by omega, by omega⟩ h0 rfl ⟨rfl, rfl⟩ dX0_init_133 rfl rfl rfl ?_
  refine VX.vret hC (fun a ha => ?_) rfl ⟨rfl, rfl⟩ dX0_init_136
  unfold dk_mix
  by_cases q : d ≤ a ∧ a < d + 11
  · rw [if_pos q, if_pos q]; rfl
  · rw [if_neg q, if_neg q, if_neg q]
    have q2 : ∀ k, k < 11 → a ≠ d + k := fun k hk => by omega
    have q0 : a ≠ d := by omega
    simp [dk_up, rowX, q0, q2 1 (by decide), q2 2 (by decide), q2 3 (by decide), q2 4 (by decide), q2 5 (by decide), q2 6 (by decide), q2 7 (by decide), q2 8 (by decide), q2 9 (by decide), q2 10 (by decide)]
