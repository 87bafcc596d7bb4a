def sRaw : dkM := fun a b => if a = 102 then 0 else rowI (dk_al a) b
theorem sRaw_cell {G : dkG} {o N : Nat} (hk : dk_kd o = 6) (hal : dk_al o = N) (ho : o ≠ 102) : dk_cell G sRaw o = .inl (G.2.2.2.1, N, .inl (rowI N)) := by
  have e : sRaw o = rowI N := by funext b; unfold sRaw; rw [if_neg ho, hal]
  simp only [dk_cell, hk, hal, e]
set_option maxHeartbeats 4000000 in
set_option maxRecDepth 20000 in
theorem c_X3_init {l : Launch} {G : dkG} {X : dkX} (hX : X 102 = .inr (3, [.null, .null, .null, .null, .int 0])) : dk_ConX l yX3_init cX3_init 1 2 42 8 204 G [.ref (G.1 + 102)] X 103 (dk_mix G sRaw X 102 111) 111 := by
  refine dk_ConX.of mwX3_init.1 rfl (Nat.le_of_ble_eq_true rfl) (fun E hE hC => ?_)
  subst hE
  refine VX.aload_n hC dX3_init_0 rfl ?_
  refine VX.objInit hC mlX3_3 ⟨rfl, rfl⟩ dX3_init_1 rfl ?_
  refine VX.aload_n hC dX3_init_4 rfl ?_
  refine VX.new hC (ci := 2) (Cn := RX2) (Tn := TX2) (N := 1) (fs := [.null]) uwX2 tyX2 tyX2_ok clX3_9 insX2 iniX2 rfl (fun j hj => by rcases (show j = 0 by omega) with rfl <;> rfl) ⟨by omega, by omega⟩ dX3_init_5 ?_
  refine VX.dup hC dX3_init_8 rfl ?_
  refine VX.bipush hC (80) dX3_init_9 (by decide) ?_
  refine VX.callX hC (As := [.int (nI 80)]) (o := 103) (c_X2_init (o := 103) (N := 80) rfl rfl rfl (by decide) (by simp [dk_up])) mwX2_init rfl mlX3_11 ⟨rfl, rfl⟩ ⟨by omega, by omega⟩ dX3_init_11 rfl rfl rfl ?_
  refine VX.putR hC (o := 102) (fs := [.null, .null, .null, .null, .int 0]) (by omega) (by simp [dk_up, rowX, hX]) (ci := 3) (Cn := RX3) (Tn := TX3) (N := 5) (k := 0) (ty := tyX3 0) uwX3 rfl tyX3 tyX3_ok nmX3 (by decide) (Nat.le_of_ble_eq_true rfl) flX3_14 rfl rfl (tyX3_ok 0 (by decide)) rfl rfl dX3_init_14 ?_
  refine VX.aload_n hC dX3_init_17 rfl ?_
  refine VX.new hC (ci := 2) (Cn := RX2) (Tn := TX2) (N := 1) (fs := [.null]) uwX2 tyX2 tyX2_ok clX3_9 insX2 iniX2 rfl (fun j hj => by rcases (show j = 0 by omega) with rfl <;> rfl) ⟨by omega, by omega⟩ dX3_init_18 ?_
  refine VX.dup hC dX3_init_21 rfl ?_
  refine VX.bipush hC (40) dX3_init_22 (by decide) ?_
  refine VX.callX hC (As := [.int (nI 40)]) (o := 105) (c_X2_init (o := 105) (N := 40) rfl rfl rfl (by decide) (by simp [dk_up])) mwX2_init rfl mlX3_11 ⟨rfl, rfl⟩ ⟨by omega, by omega⟩ dX3_init_24 rfl rfl rfl ?_
  refine VX.putR hC (o := 102) (fs := [.ref (G.1 + 103), .null, .null, .null, .int 0]) (by omega) (by simp [dk_up, rowX, hX]) (ci := 3) (Cn := RX3) (Tn := TX3) (N := 5) (k := 1) (ty := tyX3 1) uwX3 rfl tyX3 tyX3_ok nmX3 (by decide) (Nat.le_of_ble_eq_true rfl) flX3_20 rfl rfl (tyX3_ok 1 (by decide)) rfl rfl dX3_init_27 ?_
  refine VX.aload_n hC dX3_init_30 rfl ?_
  refine VX.new hC (ci := 2) (Cn := RX2) (Tn := TX2) (N := 1) (fs := [.null]) uwX2 tyX2 tyX2_ok clX3_9 insX2 iniX2 rfl (fun j hj => by rcases (show j = 0 by omega) with rfl <;> rfl) ⟨by omega, by omega⟩ dX3_init_31 ?_
  refine VX.dup hC dX3_init_34 rfl ?_
  refine VX.bipush hC (40) dX3_init_35 (by decide) ?_
  refine VX.callX hC (As := [.int (nI 40)]) (o := 107) (c_X2_init (o := 107) (N := 40) rfl rfl rfl (by decide) (by simp [dk_up])) mwX2_init rfl mlX3_11 ⟨rfl, rfl⟩ ⟨by omega, by omega⟩ dX3_init_37 rfl rfl rfl ?_
  refine VX.putR hC (o := 102) (fs := [.ref (G.1 + 103), .ref (G.1 + 105), .null, .null, .int 0]) (by omega) (by simp [dk_up, rowX, hX]) (ci := 3) (Cn := RX3) (Tn := TX3) (N := 5) (k := 2) (ty := tyX3 2) uwX3 rfl tyX3 tyX3_ok nmX3 (by decide) (Nat.le_of_ble_eq_true rfl) flX3_23 rfl rfl (tyX3_ok 2 (by decide)) rfl rfl dX3_init_40 ?_
  refine VX.aload_n hC dX3_init_43 rfl ?_
  refine VX.new hC (ci := 2) (Cn := RX2) (Tn := TX2) (N := 1) (fs := [.null]) uwX2 tyX2 tyX2_ok clX3_9 insX2 iniX2 rfl (fun j hj => by rcases (show j = 0 by omega) with rfl <;> rfl) ⟨by omega, by omega⟩ dX3_init_44 ?_
  refine VX.dup hC dX3_init_47 rfl ?_
  refine VX.bipush hC (40) dX3_init_48 (by decide) ?_
  refine VX.callX hC (As := [.int (nI 40)]) (o := 109) (c_X2_init (o := 109) (N := 40) rfl rfl rfl (by decide) (by simp [dk_up])) mwX2_init rfl mlX3_11 ⟨rfl, rfl⟩ ⟨by omega, by omega⟩ dX3_init_50 rfl rfl rfl ?_
  refine VX.putR hC (o := 102) (fs := [.ref (G.1 + 103), .ref (G.1 + 105), .ref (G.1 + 107), .null, .int 0]) (by omega) (by simp [dk_up, rowX, hX]) (ci := 3) (Cn := RX3) (Tn := TX3) (N := 5) (k := 3) (ty := tyX3 3) uwX3 rfl tyX3 tyX3_ok nmX3 (by decide) (Nat.le_of_ble_eq_true rfl) flX3_26 rfl rfl (tyX3_ok 3 (by decide)) rfl rfl dX3_init_53 ?_
  refine VX.aload_n hC dX3_init_56 rfl ?_
  refine VX.iconst hC 0 dX3_init_57 (by decide) ?_
  refine VX.putI hC (o := 102) (by omega) dk_up_s (ci := 3) (Cn := RX3) (Tn := TX3) (N := 5) (k := 4) (ty := tyX3 4) uwX3 rfl tyX3 tyX3_ok nmX3 (by decide) (Nat.le_of_ble_eq_true rfl) flX3_29 rfl (tyX3_ok 4 (by decide)) rfl rfl dX3_init_58 ?_
  refine VX.vret hC (fun a ha => ?_) rfl ⟨rfl, rfl⟩ dX3_init_61
  unfold dk_mix
  by_cases q : 102 ≤ a ∧ a < 111
  · rw [if_pos q]
    rcases (show a = 102 ∨ a = 103 ∨ a = 104 ∨ a = 105 ∨ a = 106 ∨ a = 107 ∨ a = 108 ∨ a = 109 ∨ a = 110 by omega) with rfl | rfl | rfl | rfl | rfl | rfl | rfl | rfl | rfl
    · rw [dk_up_s]; rfl
    · simp [dk_up, rowX]; rfl
    · rw [sRaw_cell (N := 80) rfl rfl (by decide)]; simp [dk_up, rowX]
    · simp [dk_up, rowX]; rfl
    · rw [sRaw_cell (N := 40) rfl rfl (by decide)]; simp [dk_up, rowX]
    · simp [dk_up, rowX]; rfl
    · rw [sRaw_cell (N := 40) rfl rfl (by decide)]; simp [dk_up, rowX]
    · simp [dk_up, rowX]; rfl
    · rw [sRaw_cell (N := 40) rfl rfl (by decide)]; simp [dk_up, rowX]
  · rw [if_neg q]
    simp [dk_up, rowX, show a ≠ 102 by omega, show a ≠ 103 by omega, show a ≠ 104 by omega, show a ≠ 105 by omega, show a ≠ 106 by omega, show a ≠ 107 by omega, show a ≠ 108 by omega, show a ≠ 109 by omega, show a ≠ 110 by omega]
theorem dk_dst1 : dk_dst 1 := by unfold dk_dst; decide
theorem dk_dst12 : dk_dst 12 := by unfold dk_dst; decide
theorem dk_dstS {k : Nat} (h : k < 7) : dk_dst (25 + 11 * k) := by
  match k, h with
  | 0, _ => unfold dk_dst; decide
  | 1, _ => unfold dk_dst; decide
  | 2, _ => unfold dk_dst; decide
  | 3, _ => unfold dk_dst; decide
  | 4, _ => unfold dk_dst; decide
  | 5, _ => unfold dk_dst; decide
  | 6, _ => unfold dk_dst; decide
  | k + 7, h => omega
def hIni : dkM := fun a => dIni (25 + 11 * ((a - 25) / 11)) a
def hAll : dkM := fun a => if a < 25 then (fun _ => 0) else hIni a
theorem hIni_cell {G : dkG} {k o : Nat} (h1 : 25 + 11 * k ≤ o) (h2 : o < 25 + 11 * k + 11) : dk_cell G (dIni (25 + 11 * k)) o = dk_cell G hIni o := by
  refine dk_cell_congr ?_
  show dIni (25 + 11 * k) o = dIni (25 + 11 * ((o - 25) / 11)) o
  rw [show (o - 25) / 11 = k by omega]
def hRef (G : dkG) (k : Nat) : Nat → Option Nat := fun i => if i < k then some (G.1 + (24 + 1 + 11 * i)) else none
def hX (G : dkG) (X : dkX) (k : Nat) : dkX := fun o => if o = 23 then .inr (1, [.ref (G.1 + 24), .int 0, .int 0]) else if o = 24 then .inl (G.2.2.2.2.1, 7, .inr (.inr (.inr (.inr (hRef G k))))) else if 25 ≤ o ∧ o < 25 + 11 * k then dk_cell G hIni o else X o
set_option maxHeartbeats 4000000 in
set_option maxRecDepth 20000 in
theorem c_X1_init {l : Launch} {G : dkG} {X : dkX} (hX0 : X 23 = .inr (1, [.null, .int 0, .int 0])) : dk_ConX l yX1_init cX1_init 2 4 86 78 2639 G [.ref (G.1 + 23)] X 24 (dk_mix G hAll X 23 102) 102 := by
  refine dk_ConX.of mwX1_init.1 rfl (Nat.le_of_ble_eq_true rfl) (fun E hE hC => ?_)
  subst hE
  have loop : ∀ (n k : Nat), k ≤ 7 → 7 < k + n → VX E G 2 78 2639 (dk_mix G hAll X 23 102) 102 (hX G X k) (25 + 11 * k) (1 + 11 * k) (7 + 376 * k) 25 [(0, some (.ref (G.1 + 23))), (1, some (.int (nI k)))] [] := by
    intro n
    induction n with
    | zero => intro k hk hn; exact absurd hn (by omega)
    | succ n ih =>
      intro k hk hn
      refine VX.iload_n hC dX1_init_25 rfl ?_
      refine VX.aload_n hC dX1_init_26 rfl ?_
      refine VX.getf hC (o := 23) (fs := [.ref (G.1 + 24), .int 0, .int 0]) (by omega) (by simp [hX]) uwX1 (ci := 1) (Cn := RX1) (Tn := TX1) (N := 3) (k := 0) rfl (by decide) flX1_13 rfl dX1_init_27 ?_
      refine VX.alenq hC (o := 24) (N := 7) (f := hRef G k) (by omega) (by simp [hX]) dX1_init_30 ?_
      refine VX.icmp_ge hC 53 dX1_init_31 (by decide) (fun c_1 => ?_) (fun c_1 => ?_)
      · have hke : k = 7 := by have := (dk_gek (k := k) (x := nI 7) (by omega)).mp c_1; rw [ix_nI (by omega)] at this; omega
        subst hke
        refine VX.vret hC (fun a ha => ?_) rfl ⟨rfl, rfl⟩ dX1_init_53
        unfold dk_mix hX
        by_cases q : 23 ≤ a ∧ a < 102
        · rw [if_pos q]
          by_cases q1 : a = 23
          · subst q1; rfl
          · rw [if_neg q1]
            by_cases q2 : a = 24
            · subst q2; rfl
            · rw [if_neg q2, if_pos (by omega)]
              refine dk_cell_congr ?_
              unfold hAll
              rw [if_neg (by omega)]
        · rw [if_neg q, if_neg (by omega), if_neg (by omega), if_neg (by omega)]
      · have hkl : k < 7 := by have := mt (dk_gek (k := k) (x := nI 7) (by omega)).mpr c_1; rw [ix_nI (by omega)] at this; omega
        refine VX.aload_n hC dX1_init_34 rfl ?_
        refine VX.getf hC (o := 23) (fs := [.ref (G.1 + 24), .int 0, .int 0]) (by omega) (by simp [hX]) uwX1 (ci := 1) (Cn := RX1) (Tn := TX1) (N := 3) (k := 0) rfl (by decide) flX1_13 rfl dX1_init_35 ?_
        refine VX.iload_n hC dX1_init_38 rfl ?_
        refine VX.new hC (ci := 0) (Cn := RX0) (Tn := TX0) (N := 15) (fs := [.null, .null, .null, .null, .null, .int 0, .int 0, .int 0, .int 0, .int 0, .int 0, .int 0, .int 0, .int 0, .int 0]) uwX0 tyX0 tyX0_ok clX1_11 insX0 iniX0 rfl (fun j hj => by rcases (show j = 0 ∨ j = 1 ∨ j = 2 ∨ j = 3 ∨ j = 4 ∨ j = 5 ∨ j = 6 ∨ j = 7 ∨ j = 8 ∨ j = 9 ∨ j = 10 ∨ j = 11 ∨ j = 12 ∨ j = 13 ∨ j = 14 by omega) with rfl | rfl | rfl | rfl | rfl | rfl | rfl | rfl | rfl | rfl | rfl | rfl | rfl | rfl | rfl <;> rfl) ⟨by omega, by omega⟩ dX1_init_39 ?_
        refine VX.dup hC dX1_init_42 rfl ?_
        refine VX.callX hC (As := []) (o := 25 + 11 * k) (c_X0_init (d := 25 + 11 * k) (dk_dstS hkl) dk_up_s) mwX0_init rfl mlX1_24 ⟨rfl, rfl⟩ ⟨by omega, by omega⟩ dX1_init_43 rfl rfl rfl ?_
        refine VX.aast hC (o := 24) (N := 7) (j := k) (v := 25 + 11 * k) (f := hRef G k) (by omega) (by unfold dk_mix; rw [if_neg (by omega), dk_up_n (by omega)]; simp [hX]) (by omega) (by unfold dk_mix; rw [if_pos (by omega)]; exact dk_cellX0 (dk_dstS hkl).1) ⟨hkl, by decide⟩ dX1_init_46 ?_
        refine VX.iinc hC dX1_init_47 rfl (dk_incN _) rfl ?_
        refine VX.goto hC 25 dX1_init_50 (by decide) ?_
        refine VX.pic (X2 := hX G X (k + 1)) (fun a ha => ?_) ?_
        · by_cases q2 : a = 24
          · subst q2
            rw [dk_up_s]
            simp only [hX, if_neg (show ¬ (24 : Nat) = 23 by decide), if_true]
            have e : va_up (hRef G k) k (some (G.1 + (25 + 11 * k))) = hRef G (k + 1) := by
              funext i
              unfold va_up hRef
              by_cases qi : i = k
              · rw [if_pos qi, if_pos (by omega), qi]
              · rw [if_neg qi]
                have : (i < k) ↔ (i < k + 1) := by omega
                simp only [this]
            rw [e]
          · rw [dk_up_n q2]
            unfold dk_mix
            by_cases q3 : 25 + 11 * k ≤ a ∧ a < 25 + 11 * k + 11
            · rw [if_pos q3, hIni_cell q3.1 q3.2]
              unfold hX
              rw [if_neg (by omega), if_neg q2, if_pos (by omega)]
            · rw [if_neg q3, dk_up_n (by omega)]
              unfold hX
              have : (25 ≤ a ∧ a < 25 + 11 * k) ↔ (25 ≤ a ∧ a < 25 + 11 * (k + 1)) := by omega
              simp only [this, if_neg q2]
        · refine VX.sub ?_ (VX.eqN (by omega) (by omega) (by omega) (ih (k + 1) (by omega) (by omega)))
          exact dk_sc rfl (dk_sc rfl dk_sn)
  refine VX.aload_n hC dX1_init_0 rfl ?_
  refine VX.objInit hC mlX1_3 ⟨rfl, rfl⟩ dX1_init_1 rfl ?_
  refine VX.aload_n hC dX1_init_4 rfl ?_
  refine VX.bipush hC 7 dX1_init_5 (by decide) ?_
  refine VX.newq hC (N := 7) clX1_11 (by decide) (by decide) (by decide) ⟨by omega, by omega⟩ dX1_init_7 ?_
  refine VX.putR hC (o := 23) (fs := [.null, .int 0, .int 0]) (by omega) (by simp [dk_up, hX0]) (ci := 1) (Cn := RX1) (Tn := TX1) (N := 3) (k := 0) (ty := tyX1 0) uwX1 rfl tyX1 tyX1_ok nmX1 (by decide) (Nat.le_of_ble_eq_true rfl) flX1_13 rfl rfl (tyX1_ok 0 (by decide)) rfl rfl dX1_init_10 ?_
  refine VX.aload_n hC dX1_init_13 rfl ?_
  refine VX.iconst hC 0 dX1_init_14 (by decide) ?_
  refine VX.putI hC (o := 23) (by omega) dk_up_s (ci := 1) (Cn := RX1) (Tn := TX1) (N := 3) (k := 1) (ty := tyX1 1) uwX1 rfl tyX1 tyX1_ok nmX1 (by decide) (Nat.le_of_ble_eq_true rfl) flX1_17 rfl (tyX1_ok 1 (by decide)) rfl rfl dX1_init_15 ?_
  refine VX.aload_n hC dX1_init_18 rfl ?_
  refine VX.iconst hC 0 dX1_init_19 (by decide) ?_
  refine VX.putI hC (o := 23) (by omega) dk_up_s (ci := 1) (Cn := RX1) (Tn := TX1) (N := 3) (k := 2) (ty := tyX1 2) uwX1 rfl tyX1 tyX1_ok nmX1 (by decide) (Nat.le_of_ble_eq_true rfl) flX1_21 rfl (tyX1_ok 2 (by decide)) rfl rfl dX1_init_20 ?_
  refine VX.iconst hC 0 dX1_init_23 (by decide) ?_
  refine VX.istore_n hC dX1_init_24 rfl rfl ?_
  refine VX.pic (X2 := hX G X 0) (fun a ha => ?_) ?_
  · unfold hX
    by_cases q1 : a = 23
    · subst q1; rw [if_pos rfl, dk_up_s]; rfl
    · rw [if_neg q1]
      by_cases q2 : a = 24
      · subst q2; simp [dk_up]; funext i; unfold hRef; rw [if_neg (by omega)]
      · rw [if_neg q2, if_neg (by omega)]; simp [dk_up, q1, q2]
  · refine VX.sub ?_ (loop 8 0 (by decide) (by decide))
    exact dk_sc rfl (dk_sc rfl dk_sn)
def x0 : dkM := fun a => if a < 12 then dIni 1 a else if a < 23 then dIni 12 a else if a < 102 then hAll a else sRaw a
set_option maxHeartbeats 4000000 in
set_option maxRecDepth 20000 in
theorem c_X4_init {l : Launch} {G : dkG} {X : dkX} (hX : X 0 = .inr (4, [.null, .null, .null, .null])) : dk_ConX l yX4_init cX4_init 1 5 107 110 3603 G [.ref (G.1 + 0)] X 1 (dk_mix G x0 X 0 111) 111 := by
  refine dk_ConX.of mwX4_init.1 rfl (Nat.le_of_ble_eq_true rfl) (fun E hE hC => ?_)
  subst hE
  refine VX.aload_n hC dX4_init_0 rfl ?_
  refine VX.objInit hC mlX4_3 ⟨rfl, rfl⟩ dX4_init_1 rfl ?_
  refine VX.aload_n hC dX4_init_4 rfl ?_
  refine VX.new hC (ci := 0) (Cn := RX0) (Tn := TX0) (N := 15) (fs := [.null, .null, .null, .null, .null, .int 0, .int 0, .int 0, .int 0, .int 0, .int 0, .int 0, .int 0, .int 0, .int 0]) uwX0 tyX0 tyX0_ok clX4_9 insX0 iniX0 rfl (fun j hj => by rcases (show j = 0 ∨ j = 1 ∨ j = 2 ∨ j = 3 ∨ j = 4 ∨ j = 5 ∨ j = 6 ∨ j = 7 ∨ j = 8 ∨ j = 9 ∨ j = 10 ∨ j = 11 ∨ j = 12 ∨ j = 13 ∨ j = 14 by omega) with rfl | rfl | rfl | rfl | rfl | rfl | rfl | rfl | rfl | rfl | rfl | rfl | rfl | rfl | rfl <;> rfl) ⟨by omega, by omega⟩ dX4_init_5 ?_
  refine VX.dup hC dX4_init_8 rfl ?_
  refine VX.callX hC (As := []) (o := 1) (c_X0_init (d := 1) dk_dst1 (by simp [dk_up])) mwX0_init rfl mlX4_11 ⟨rfl, rfl⟩ ⟨by omega, by omega⟩ dX4_init_9 rfl rfl rfl ?_
  refine VX.putR hC (o := 0) (fs := [.null, .null, .null, .null]) (by omega) (by simp [dk_up, dk_mix, hX]) (ci := 4) (Cn := RX4) (Tn := TX4) (N := 4) (k := 0) (ty := tyX4 0) uwX4 rfl tyX4 tyX4_ok nmX4 (by decide) (Nat.le_of_ble_eq_true rfl) flX4_12 rfl rfl (tyX4_ok 0 (by decide)) rfl rfl dX4_init_12 ?_
  refine VX.aload_n hC dX4_init_15 rfl ?_
  refine VX.new hC (ci := 0) (Cn := RX0) (Tn := TX0) (N := 15) (fs := [.null, .null, .null, .null, .null, .int 0, .int 0, .int 0, .int 0, .int 0, .int 0, .int 0, .int 0, .int 0, .int 0]) uwX0 tyX0 tyX0_ok clX4_9 insX0 iniX0 rfl (fun j hj => by rcases (show j = 0 ∨ j = 1 ∨ j = 2 ∨ j = 3 ∨ j = 4 ∨ j = 5 ∨ j = 6 ∨ j = 7 ∨ j = 8 ∨ j = 9 ∨ j = 10 ∨ j = 11 ∨ j = 12 ∨ j = 13 ∨ j = 14 by omega) with rfl | rfl | rfl | rfl | rfl | rfl | rfl | rfl | rfl | rfl | rfl | rfl | rfl | rfl | rfl <;> rfl) ⟨by omega, by omega⟩ dX4_init_16 ?_
  refine VX.dup hC dX4_init_19 rfl ?_
  refine VX.callX hC (As := []) (o := 12) (c_X0_init (d := 12) dk_dst12 (by simp [dk_up])) mwX0_init rfl mlX4_11 ⟨rfl, rfl⟩ ⟨by omega, by omega⟩ dX4_init_20 rfl rfl rfl ?_
  refine VX.putR hC (o := 0) (fs := [.ref (G.1 + 1), .null, .null, .null]) (by omega) (by simp [dk_up, dk_mix, hX]) (ci := 4) (Cn := RX4) (Tn := TX4) (N := 4) (k := 1) (ty := tyX4 1) uwX4 rfl tyX4 tyX4_ok nmX4 (by decide) (Nat.le_of_ble_eq_true rfl) flX4_16 rfl rfl (tyX4_ok 1 (by decide)) rfl rfl dX4_init_23 ?_
  refine VX.aload_n hC dX4_init_26 rfl ?_
  refine VX.new hC (ci := 1) (Cn := RX1) (Tn := TX1) (N := 3) (fs := [.null, .int 0, .int 0]) uwX1 tyX1 tyX1_ok clX4_19 insX1 iniX1 rfl (fun j hj => by rcases (show j = 0 ∨ j = 1 ∨ j = 2 by omega) with rfl | rfl | rfl <;> rfl) ⟨by omega, by omega⟩ dX4_init_27 ?_
  refine VX.dup hC dX4_init_30 rfl ?_
  refine VX.callX hC (As := []) (o := 23) (c_X1_init (by simp [dk_up])) mwX1_init rfl mlX4_21 ⟨rfl, rfl⟩ ⟨by omega, by omega⟩ dX4_init_31 rfl rfl rfl ?_
  refine VX.putR hC (o := 0) (fs := [.ref (G.1 + 1), .ref (G.1 + 12), .null, .null]) (by omega) (by simp [dk_up, dk_mix, hX]) (ci := 4) (Cn := RX4) (Tn := TX4) (N := 4) (k := 2) (ty := tyX4 2) uwX4 rfl tyX4 tyX4_ok nmX4 (by decide) (Nat.le_of_ble_eq_true rfl) flX4_22 rfl rfl (tyX4_ok 2 (by decide)) rfl rfl dX4_init_34 ?_
  refine VX.aload_n hC dX4_init_37 rfl ?_
  refine VX.new hC (ci := 3) (Cn := RX3) (Tn := TX3) (N := 5) (fs := [.null, .null, .null, .null, .int 0]) uwX3 tyX3 tyX3_ok clX4_26 insX3 iniX3 rfl (fun j hj => by rcases (show j = 0 ∨ j = 1 ∨ j = 2 ∨ j = 3 ∨ j = 4 by omega) with rfl | rfl | rfl | rfl | rfl <;> rfl) ⟨by omega, by omega⟩ dX4_init_38 ?_
  refine VX.dup hC dX4_init_41 rfl ?_
  refine VX.callXN hC (o := 102) (c_X3_init (by simp [dk_up])) mwX3_init ⟨rfl, rfl⟩ ⟨by omega, by omega⟩ dX4_init_42 rfl ?_
  refine VX.putR hC (o := 0) (fs := [.ref (G.1 + 1), .ref (G.1 + 12), .ref (G.1 + 23), .null]) (by omega) (by simp [dk_up, dk_mix, hX]) (ci := 4) (Cn := RX4) (Tn := TX4) (N := 4) (k := 3) (ty := tyX4 3) uwX4 rfl tyX4 tyX4_ok nmX4 (by decide) (Nat.le_of_ble_eq_true rfl) flX4_29 rfl rfl (tyX4_ok 3 (by decide)) rfl rfl dX4_init_45 ?_
  refine VX.vret hC (fun a ha => ?_) rfl ⟨rfl, rfl⟩ dX4_init_48
  unfold dk_mix
  rw [if_pos (by omega)]
  by_cases q0 : a = 0
  · subst q0; rw [dk_up_s]; rfl
  · have e : ∀ (M : dkM), x0 a = M a → dk_cell G x0 a = dk_cell G M a := fun M h => dk_cell_congr h
    simp only [dk_up, if_neg q0]
    by_cases q1 : a < 12
    · rw [if_neg (by omega), if_neg (by omega), if_neg (by omega), if_neg (by omega), if_neg (by omega), if_neg (by omega), if_pos (by omega)]
      exact (e (dIni 1) (by unfold x0; rw [if_pos q1])).symm
    · by_cases q2 : a < 23
      · rw [if_neg (by omega), if_neg (by omega), if_neg (by omega), if_neg (by omega), if_pos (by omega)]
        exact (e (dIni 12) (by unfold x0; rw [if_neg q1, if_pos q2])).symm
      · by_cases q3 : a < 102
        · rw [if_neg (by omega), if_neg (by omega), if_pos (by omega)]
          exact (e hAll (by unfold x0; rw [if_neg q1, if_neg q2, if_pos q3])).symm
        · rw [if_pos (by omega)]
          exact (e sRaw (by unfold x0; rw [if_neg q1, if_neg q2, if_neg q3])).symm
def mRawF (k : Nat) : Nat → Int32 := fun b => if 11 ≤ b ∧ b < 11 + k then -6 else 0
def mRaw : dkM := fun a => if a = 112 then upd (upd (upd (upd (mRawF 100) 1 1) 12 0) 7 4) 8 1 else fun _ => 0
def m0 : dkM := mFormats mRaw 16
theorem mRawF_s (k : Nat) : upd (mRawF k) (11 + k) (-6) = mRawF (k + 1) := by
  funext b
  unfold upd mRawF
  by_cases h : b = 11 + k
  · rw [if_pos h, if_pos (by omega)]
  · rw [if_neg h]
    have : (11 ≤ b ∧ b < 11 + k) ↔ (11 ≤ b ∧ b < 11 + (k + 1)) := by omega
    simp only [this]
