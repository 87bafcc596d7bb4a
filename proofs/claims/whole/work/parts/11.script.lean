set_option maxHeartbeats 2000000 in
set_option maxRecDepth 20000 in
theorem c_X3_isDigit {l : Launch} {G : dkG}  {M : dkM} {c : Int32}  : dk_Con l yX3_isDigit cX3_isDigit 1 (some .boolean) 0 0 G [.int c] M (some (.int (bI (isDig c))), M) := by
  refine dk_Con.of mwX3_isDigit.1 (Nat.le_of_ble_eq_true rfl) (fun E hE hC => ?_)
  subst hE
  refine V.iload_n hC dX3_isDigit_0 rfl ?_
  refine V.bipush hC 48 dX3_isDigit_1 (by decide) ?_
  refine V.icmp_lt hC 16 dX3_isDigit_3 (by decide) (fun c_1 => ?_) (fun c_1 => ?_)
  · refine V.iconst hC 0 dX3_isDigit_16 (by decide) ?_
    exact V.zret hC (by first | (simp [isDig, bI, c_1, dk_lt1 c_1]; done) | (simp_all [isDig, bI]; done)) (by decide) dX3_isDigit_17
  · refine V.iload_n hC dX3_isDigit_6 rfl ?_
    refine V.bipush hC 57 dX3_isDigit_7 (by decide) ?_
    refine V.icmp_gt hC 16 dX3_isDigit_9 (by decide) (fun c_2 => ?_) (fun c_2 => ?_)
    · refine V.iconst hC 0 dX3_isDigit_16 (by decide) ?_
      exact V.zret hC (by first | (simp [isDig, bI, c_1, dk_nlt c_1, c_2, dk_lt1 c_2]; done) | (simp_all [isDig, bI]; done)) (by decide) dX3_isDigit_17
    · refine V.iconst hC 1 dX3_isDigit_12 (by decide) ?_
      refine V.goto hC 17 dX3_isDigit_13 (by decide) ?_
      exact V.zret hC (by first | (simp [isDig, bI, c_1, dk_nlt c_1, c_2, dk_nlt c_2]; done) | (simp_all [isDig, bI]; done)) (by decide) dX3_isDigit_17
set_option maxHeartbeats 2000000 in
set_option maxRecDepth 20000 in
theorem c_X3_placeBehindLetter {l : Launch} {G : dkG}  {M : dkM} {c : Int32}  : dk_Con l yX3_placeBehindLetter cX3_placeBehindLetter 1 (some .int) 0 0 G [.int c] M (some (.int (pbl c)), M) := by
  refine dk_Con.of mwX3_placeBehindLetter.1 (Nat.le_of_ble_eq_true rfl) (fun E hE hC => ?_)
  subst hE
  refine V.iload_n hC dX3_placeBehindLetter_0 rfl ?_
  by_cases c_1_0 : c = 98
  · refine V.swi hC 58 dX3_placeBehindLetter_1 (by decide) (by rw [c_1_0]; decide) ?_
    refine V.iconst hC 1 dX3_placeBehindLetter_58 (by decide) ?_
    exact V.iret hC (by first | (simp [pbl, c_1_0]; done) | (simp_all [pbl]; done)) dX3_placeBehindLetter_59
  by_cases c_1_1 : c = 102
  · refine V.swi hC 58 dX3_placeBehindLetter_1 (by decide) (by rw [c_1_1]; decide) ?_
    refine V.iconst hC 1 dX3_placeBehindLetter_58 (by decide) ?_
    exact V.iret hC (by first | (simp [pbl, c_1_0, c_1_1]; done) | (simp_all [pbl]; done)) dX3_placeBehindLetter_59
  by_cases c_1_2 : c = 115
  · refine V.swi hC 55 dX3_placeBehindLetter_1 (by decide) (by rw [c_1_2]; decide) ?_
    refine V.bipush hC 20 dX3_placeBehindLetter_55 (by decide) ?_
    exact V.iret hC (by first | (simp [pbl, c_1_0, c_1_1, c_1_2]; done) | (simp_all [pbl]; done)) dX3_placeBehindLetter_57
  by_cases c_1_3 : c = 119
  · refine V.swi hC 52 dX3_placeBehindLetter_1 (by decide) (by rw [c_1_3]; decide) ?_
    refine V.bipush hC 10 dX3_placeBehindLetter_52 (by decide) ?_
    exact V.iret hC (by first | (simp [pbl, c_1_0, c_1_1, c_1_2, c_1_3]; done) | (simp_all [pbl]; done)) dX3_placeBehindLetter_54
  by_cases c_1_4 : c = 120
  · refine V.swi hC 58 dX3_placeBehindLetter_1 (by decide) (by rw [c_1_4]; decide) ?_
    refine V.iconst hC 1 dX3_placeBehindLetter_58 (by decide) ?_
    exact V.iret hC (by first | (simp [pbl, c_1_0, c_1_1, c_1_2, c_1_3, c_1_4]; done) | (simp_all [pbl]; done)) dX3_placeBehindLetter_59
  refine V.swi hC 60 dX3_placeBehindLetter_1 (by decide) (by rw [(dk_off_ne c_1_0 (by decide)).trans ((dk_off_ne c_1_1 (by decide)).trans ((dk_off_ne c_1_2 (by decide)).trans ((dk_off_ne c_1_3 (by decide)).trans ((dk_off_ne c_1_4 (by decide)).trans (rfl)))))]; rfl) ?_
  refine V.iconst hC (-1) dX3_placeBehindLetter_60 (by decide) ?_
  exact V.iret hC (by first | (simp [pbl, c_1_0, c_1_1, c_1_2, c_1_3, c_1_4]; done) | (simp_all [pbl]; done)) dX3_placeBehindLetter_61
set_option maxHeartbeats 2000000 in
set_option maxRecDepth 20000 in
theorem c_X3_placeBehind {l : Launch} {G : dkG}  {M : dkM} {p : Int32} {c : Int32}  : dk_Con l yX3_placeBehind cX3_placeBehind 3 (some .int) 1 20 G [.int p, .int c] M (some (.int (pb p c)), M) := by
  refine dk_Con.of mwX3_placeBehind.1 (Nat.le_of_ble_eq_true rfl) (fun E hE hC => ?_)
  subst hE
  refine V.iload_n hC dX3_placeBehind_0 rfl ?_
  refine V.if_ne hC 9 dX3_placeBehind_1 (by decide) (fun c_1 => ?_) (fun c_1 => ?_)
  · refine V.iload_n hC dX3_placeBehind_9 rfl ?_
    refine V.iconst hC 1 dX3_placeBehind_10 (by decide) ?_
    refine V.icmp_ne hC 26 dX3_placeBehind_11 (by decide) (fun c_2 => ?_) (fun c_2 => ?_)
    · refine V.iload_n hC dX3_placeBehind_26 rfl ?_
      refine V.bipush hC 20 dX3_placeBehind_27 (by decide) ?_
      refine V.icmp_ge hC 37 dX3_placeBehind_29 (by decide) (fun c_3 => ?_) (fun c_3 => ?_)
      · refine V.bipush hC 20 dX3_placeBehind_37 (by decide) ?_
        refine V.istore_n hC dX3_placeBehind_39 rfl rfl ?_
        refine V.iload_n hC dX3_placeBehind_40 rfl ?_
        refine V.callS1i hC (c_X3_isDigit) mwX3_isDigit mlX3_48 ⟨rfl, rfl⟩ dX3_placeBehind_41 rfl ?_
        refine V.if_eqB hC 62 dX3_placeBehind_44 (by decide) (fun c_4 => ?_) (fun c_4 => ?_)
        · refine V.iload_n hC dX3_placeBehind_62 rfl ?_
          refine V.iload_n hC dX3_placeBehind_63 rfl ?_
          refine V.icmp_ne hC 69 dX3_placeBehind_64 (by decide) (fun c_5 => ?_) (fun c_5 => ?_)
          · refine V.iload_n hC dX3_placeBehind_69 rfl ?_
            refine V.bipush hC 10 dX3_placeBehind_70 (by decide) ?_
            refine V.icmp_ne_t hC 88 dX3_placeBehind_72 (by decide) (by decide) ?_
            refine V.iload_n hC dX3_placeBehind_88 rfl ?_
            refine V.bipush hC 59 dX3_placeBehind_89 (by decide) ?_
            refine V.icmp_ne hC 98 dX3_placeBehind_91 (by decide) (fun c_6 => ?_) (fun c_6 => ?_)
            · refine V.iconst hC (-1) dX3_placeBehind_98 (by decide) ?_
              exact V.iret hC (by first | (simp [pb, c_1, c_2, c_3, dk_le1 c_3, c_4, c_5, c_6]; done) | (simp only [show (10 : Int32) + 5 = 15 from by decide, show (20 : Int32) + 5 = 25 from by decide] at c_5; simp [pb, c_1, c_2, c_3, dk_le1 c_3, c_4, c_5, c_6]; done) | (simp_all [pb]; done)) dX3_placeBehind_99
            · refine V.iconst hC 0 dX3_placeBehind_94 (by decide) ?_
              refine V.goto hC 99 dX3_placeBehind_95 (by decide) ?_
              exact V.iret hC (by first | (simp [pb, c_1, c_2, c_3, dk_le1 c_3, c_4, c_5, c_6]; done) | (simp only [show (10 : Int32) + 5 = 15 from by decide, show (20 : Int32) + 5 = 25 from by decide] at c_5; simp [pb, c_1, c_2, c_3, dk_le1 c_3, c_4, c_5, c_6]; done) | (simp_all [pb]; done)) dX3_placeBehind_99
          · refine V.iconst hC (-1) dX3_placeBehind_67 (by decide) ?_
            exact V.iret hC (by first | (simp [pb, c_1, c_2, c_3, dk_le1 c_3, c_4, c_5]; done) | (simp only [show (10 : Int32) + 5 = 15 from by decide, show (20 : Int32) + 5 = 25 from by decide] at c_5; simp [pb, c_1, c_2, c_3, dk_le1 c_3, c_4, c_5]; done) | (simp_all [pb]; done)) dX3_placeBehind_68
        · refine V.iload_n hC dX3_placeBehind_47 rfl ?_
          refine V.iload_n hC dX3_placeBehind_48 rfl ?_
          refine V.iconst hC 5 dX3_placeBehind_49 (by decide) ?_
          refine V.iadd hC dX3_placeBehind_50 ?_
          refine V.icmp_ge hC 60 dX3_placeBehind_51 (by decide) (fun c_5 => ?_) (fun c_5 => ?_)
          · refine V.iconst hC (-1) dX3_placeBehind_60 (by decide) ?_
            exact V.iret hC (by first | (simp [pb, c_1, c_2, c_3, dk_le1 c_3, c_4, c_5, dk_le1 c_5]; done) | (simp only [show (10 : Int32) + 5 = 15 from by decide, show (20 : Int32) + 5 = 25 from by decide] at c_5; simp [pb, c_1, c_2, c_3, dk_le1 c_3, c_4, c_5, dk_le1 c_5]; done) | (simp_all [pb]; done)) dX3_placeBehind_61
          · refine V.iload_n hC dX3_placeBehind_54 rfl ?_
            refine V.iconst hC 1 dX3_placeBehind_55 (by decide) ?_
            refine V.iadd hC dX3_placeBehind_56 ?_
            refine V.goto hC 61 dX3_placeBehind_57 (by decide) ?_
            exact V.iret hC (by first | (simp [pb, c_1, c_2, c_3, dk_le1 c_3, c_4, c_5, dk_nle c_5]; done) | (simp only [show (10 : Int32) + 5 = 15 from by decide, show (20 : Int32) + 5 = 25 from by decide] at c_5; simp [pb, c_1, c_2, c_3, dk_le1 c_3, c_4, c_5, dk_nle c_5]; done) | (simp_all [pb]; done)) dX3_placeBehind_61
      · refine V.bipush hC 10 dX3_placeBehind_32 (by decide) ?_
        refine V.goto hC 39 dX3_placeBehind_34 (by decide) ?_
        refine V.istore_n hC dX3_placeBehind_39 rfl rfl ?_
        refine V.iload_n hC dX3_placeBehind_40 rfl ?_
        refine V.callS1i hC (c_X3_isDigit) mwX3_isDigit mlX3_48 ⟨rfl, rfl⟩ dX3_placeBehind_41 rfl ?_
        refine V.if_eqB hC 62 dX3_placeBehind_44 (by decide) (fun c_4 => ?_) (fun c_4 => ?_)
        · refine V.iload_n hC dX3_placeBehind_62 rfl ?_
          refine V.iload_n hC dX3_placeBehind_63 rfl ?_
          refine V.icmp_ne hC 69 dX3_placeBehind_64 (by decide) (fun c_5 => ?_) (fun c_5 => ?_)
          · refine V.iload_n hC dX3_placeBehind_69 rfl ?_
            refine V.bipush hC 10 dX3_placeBehind_70 (by decide) ?_
            refine V.icmp_ne_f hC 88 dX3_placeBehind_72 (by decide) (by decide) ?_
            refine V.iload_n hC dX3_placeBehind_75 rfl ?_
            refine V.bipush hC 61 dX3_placeBehind_76 (by decide) ?_
            refine V.icmp_ne hC 86 dX3_placeBehind_78 (by decide) (fun c_6 => ?_) (fun c_6 => ?_)
            · refine V.iconst hC (-1) dX3_placeBehind_86 (by decide) ?_
              exact V.iret hC (by first | (simp [pb, c_1, c_2, c_3, dk_nle c_3, c_4, c_5, c_6]; done) | (simp only [show (10 : Int32) + 5 = 15 from by decide, show (20 : Int32) + 5 = 25 from by decide] at c_5; simp [pb, c_1, c_2, c_3, dk_nle c_3, c_4, c_5, c_6]; done) | (simp_all [pb]; done)) dX3_placeBehind_87
            · refine V.bipush hC 20 dX3_placeBehind_81 (by decide) ?_
              refine V.goto hC 87 dX3_placeBehind_83 (by decide) ?_
              exact V.iret hC (by first | (simp [pb, c_1, c_2, c_3, dk_nle c_3, c_4, c_5, c_6]; done) | (simp only [show (10 : Int32) + 5 = 15 from by decide, show (20 : Int32) + 5 = 25 from by decide] at c_5; simp [pb, c_1, c_2, c_3, dk_nle c_3, c_4, c_5, c_6]; done) | (simp_all [pb]; done)) dX3_placeBehind_87
          · refine V.iconst hC (-1) dX3_placeBehind_67 (by decide) ?_
            exact V.iret hC (by first | (simp [pb, c_1, c_2, c_3, dk_nle c_3, c_4, c_5]; done) | (simp only [show (10 : Int32) + 5 = 15 from by decide, show (20 : Int32) + 5 = 25 from by decide] at c_5; simp [pb, c_1, c_2, c_3, dk_nle c_3, c_4, c_5]; done) | (simp_all [pb]; done)) dX3_placeBehind_68
        · refine V.iload_n hC dX3_placeBehind_47 rfl ?_
          refine V.iload_n hC dX3_placeBehind_48 rfl ?_
          refine V.iconst hC 5 dX3_placeBehind_49 (by decide) ?_
          refine V.iadd hC dX3_placeBehind_50 ?_
          refine V.icmp_ge hC 60 dX3_placeBehind_51 (by decide) (fun c_5 => ?_) (fun c_5 => ?_)
          · refine V.iconst hC (-1) dX3_placeBehind_60 (by decide) ?_
            exact V.iret hC (by first | (simp [pb, c_1, c_2, c_3, dk_nle c_3, c_4, c_5, dk_le1 c_5]; done) | (simp only [show (10 : Int32) + 5 = 15 from by decide, show (20 : Int32) + 5 = 25 from by decide] at c_5; simp [pb, c_1, c_2, c_3, dk_nle c_3, c_4, c_5, dk_le1 c_5]; done) | (simp_all [pb]; done)) dX3_placeBehind_61
          · refine V.iload_n hC dX3_placeBehind_54 rfl ?_
            refine V.iconst hC 1 dX3_placeBehind_55 (by decide) ?_
            refine V.iadd hC dX3_placeBehind_56 ?_
            refine V.goto hC 61 dX3_placeBehind_57 (by decide) ?_
            exact V.iret hC (by first | (simp [pb, c_1, c_2, c_3, dk_nle c_3, c_4, c_5, dk_nle c_5]; done) | (simp only [show (10 : Int32) + 5 = 15 from by decide, show (20 : Int32) + 5 = 25 from by decide] at c_5; simp [pb, c_1, c_2, c_3, dk_nle c_3, c_4, c_5, dk_nle c_5]; done) | (simp_all [pb]; done)) dX3_placeBehind_61
    · refine V.iload_n hC dX3_placeBehind_14 rfl ?_
      refine V.bipush hC 59 dX3_placeBehind_15 (by decide) ?_
      refine V.icmp_ne hC 24 dX3_placeBehind_17 (by decide) (fun c_3 => ?_) (fun c_3 => ?_)
      · refine V.iconst hC (-1) dX3_placeBehind_24 (by decide) ?_
        exact V.iret hC (by first | (simp [pb, c_1, c_2, c_3]; done) | (simp only [show (10 : Int32) + 5 = 15 from by decide, show (20 : Int32) + 5 = 25 from by decide] at c_5; simp [pb, c_1, c_2, c_3]; done) | (simp_all [pb]; done)) dX3_placeBehind_25
      · refine V.iconst hC 0 dX3_placeBehind_20 (by decide) ?_
        refine V.goto hC 25 dX3_placeBehind_21 (by decide) ?_
        exact V.iret hC (by first | (simp [pb, c_1, c_2, c_3]; done) | (simp only [show (10 : Int32) + 5 = 15 from by decide, show (20 : Int32) + 5 = 25 from by decide] at c_5; simp [pb, c_1, c_2, c_3]; done) | (simp_all [pb]; done)) dX3_placeBehind_25
  · refine V.iload_n hC dX3_placeBehind_4 rfl ?_
    refine V.callS1i hC (c_X3_placeBehindLetter) mwX3_placeBehindLetter mlX3_45 ⟨rfl, rfl⟩ dX3_placeBehind_5 rfl ?_
    exact V.iret hC (by first | (simp [pb, c_1]; done) | (simp only [show (10 : Int32) + 5 = 15 from by decide, show (20 : Int32) + 5 = 25 from by decide] at c_5; simp [pb, c_1]; done) | (simp_all [pb]; done)) dX3_placeBehind_8
set_option maxHeartbeats 2000000 in
set_option maxRecDepth 20000 in
theorem c_X3_append {l : Launch} {G : dkG}  {M : dkM} (hG : dk_cls G) {c : Int32}  : dk_Con l yX3_append cX3_append 2 (some .int) 1 22 G [.ref (G.1 + 102), .int c] M (some (.int (sApp M c).1), (sApp M c).2) := by
  refine dk_Con.of mwX3_append.1 (Nat.le_of_ble_eq_true rfl) (fun E hE hC => ?_)
  subst hE
  refine V.iload_n hC dX3_append_0 rfl ?_
  refine V.bipush hC 33 dX3_append_1 (by decide) ?_
  refine V.icmp_lt hC 12 dX3_append_3 (by decide) (fun c_1 => ?_) (fun c_1 => ?_)
  · refine V.bipush hC (-2) dX3_append_12 (by decide) ?_
    exact V.iret hC (by first | (simp [sApp, c_1, dk_lt1 c_1]; done) | (simp [sApp, rset_ne, dk_put, c_1, dk_lt1 c_1]; done)) dX3_append_14
  · refine V.iload_n hC dX3_append_6 rfl ?_
    refine V.bipush hC 126 dX3_append_7 (by decide) ?_
    refine V.icmp_le hC 15 dX3_append_9 (by decide) (fun c_2 => ?_) (fun c_2 => ?_)
    · refine V.aload_n hC dX3_append_15 rfl ?_
      refine gfX3_29 hG hC dX3_append_16 ?_
      refine V.bipush hC 80 dX3_append_19 (by decide) ?_
      refine V.icmp_lt hC 27 dX3_append_21 (by decide) (fun c_3 => ?_) (fun c_3 => ?_)
      · refine V.aload_n hC dX3_append_27 rfl ?_
        refine gfX3_14 hG hC dX3_append_28 ?_
        refine V.aload_n hC dX3_append_31 rfl ?_
        refine gfX3_29 hG hC dX3_append_32 ?_
        refine V.iload_n hC dX3_append_35 rfl ?_
        refine V.callV2v hC (c_X2_set (dk_rowAt hG 103 80 rfl)) mwX2_set mlX3_33 (dk_rowAt hG 103 80 rfl).s (dk_rowAt hG 103 80 rfl).k rfl ⟨rfl, rfl⟩ dX3_append_36 rfl ?_
        refine V.aload_n hC dX3_append_39 rfl ?_
        refine V.dup hC dX3_append_40 rfl ?_
        refine gfX3_29 hG hC dX3_append_41 ?_
        refine V.iconst hC 1 dX3_append_44 (by decide) ?_
        refine V.iadd hC dX3_append_45 ?_
        refine pfX3_29 hG hC dX3_append_46 ?_
        refine V.aload_n hC dX3_append_49 rfl ?_
        refine gfX3_29 hG hC dX3_append_50 ?_
        exact V.iret hC (by first | (simp [sApp, c_1, dk_nlt c_1, c_2, dk_le1 c_2, c_3, dk_lt1 c_3]; done) | (simp [sApp, rset_ne, dk_put, c_1, dk_nlt c_1, c_2, dk_le1 c_2, c_3, dk_lt1 c_3]; done)) dX3_append_53
      · refine V.bipush hC (-4) dX3_append_24 (by decide) ?_
        exact V.iret hC (by first | (simp [sApp, c_1, dk_nlt c_1, c_2, dk_le1 c_2, c_3, dk_nlt c_3]; done) | (simp [sApp, rset_ne, dk_put, c_1, dk_nlt c_1, c_2, dk_le1 c_2, c_3, dk_nlt c_3]; done)) dX3_append_26
    · refine V.bipush hC (-2) dX3_append_12 (by decide) ?_
      exact V.iret hC (by first | (simp [sApp, c_1, dk_nlt c_1, c_2, dk_nle c_2]; done) | (simp [sApp, rset_ne, dk_put, c_1, dk_nlt c_1, c_2, dk_nle c_2]; done)) dX3_append_14
set_option maxHeartbeats 2000000 in
set_option maxRecDepth 20000 in
theorem c_X3_empty {l : Launch} {G : dkG}  {M : dkM} (hG : dk_cls G)  : dk_Con l yX3_empty cX3_empty 2 (some .int) 0 0 G [.ref (G.1 + 102)] M (some (.int (M 102 4)), dk_put M 102 4 0) := by
  refine dk_Con.of mwX3_empty.1 (Nat.le_of_ble_eq_true rfl) (fun E hE hC => ?_)
  subst hE
  refine V.aload_n hC dX3_empty_0 rfl ?_
  refine gfX3_29 hG hC dX3_empty_1 ?_
  refine V.istore_n hC dX3_empty_4 rfl rfl ?_
  refine V.aload_n hC dX3_empty_5 rfl ?_
  refine V.iconst hC 0 dX3_empty_6 (by decide) ?_
  refine pfX3_29 hG hC dX3_empty_7 ?_
  refine V.iload_n hC dX3_empty_10 rfl ?_
  exact V.iret hC (rfl) dX3_empty_11
set_option maxHeartbeats 2000000 in
set_option maxRecDepth 20000 in
theorem c_X3_firstError {l : Launch} {G : dkG}  {M : dkM} (hG : dk_cls G)  : dk_Con l yX3_firstError cX3_firstError 3 (some .int) 2 42 G [.ref (G.1 + 102)] M (some (.int (xErr M)), M) := by
  refine dk_Con.of mwX3_firstError.1 (Nat.le_of_ble_eq_true rfl) (fun E hE hC => ?_)
  subst hE
  obtain ⟨N, hN⟩ : ∃ N, ix (M 102 4) = N := ⟨_, rfl⟩
  have hsz : N < 2 ^ 31 := hN ▸ ix_lt _
  have loop_4 : ∀ (n : Nat) (k : Nat) (p : Int32), (k ≤ N) → (N < k + n) → (feL M (N - k) k p = feL M N 0 0) →  V E G 3 (some (.int (xErr M)), M) (M) 4 [(0, some (.ref (G.1 + 102))), (1, some (.int p)), (2, some (.int (nI k)))] [] := by
    intro n
    induction n with
    | zero => intro k p hk hn hT; exact absurd hn (by omega)
    | succ n ih_4 =>
      intro k p hk hn hT
      refine V.iload_n hC dX3_firstError_4 rfl ?_
      refine V.aload_n hC dX3_firstError_5 rfl ?_
      refine gfX3_29 hG hC dX3_firstError_6 ?_
      refine V.icmp_ge hC 38 dX3_firstError_9 (by decide) (fun c_1 => ?_) (fun c_1 => ?_)
      · have hke : k = N := by have := (dk_gek (k := k) (by omega)).mp c_1; omega
        subst hke
        refine V.iload_n hC dX3_firstError_38 rfl ?_
        refine V.iconst hC 1 dX3_firstError_39 (by decide) ?_
        refine V.icmp_eq hC 49 dX3_firstError_40 (by decide) (fun c_2 => ?_) (fun c_2 => ?_)
        · refine V.iconst hC 1 dX3_firstError_49 (by decide) ?_
          refine V.goto hC 54 dX3_firstError_50 (by decide) ?_
          refine V.istore_n hC dX3_firstError_54 rfl rfl ?_
          refine V.iload_n hC dX3_firstError_55 rfl ?_
          refine V.if_eq_f hC 64 dX3_firstError_56 (by decide) (by decide) ?_
          refine V.bipush hC (-6) dX3_firstError_59 (by decide) ?_
          refine V.goto hC 68 dX3_firstError_61 (by decide) ?_
          exact V.iret hC (by first | (simp [xErr, hN, ← hT, feL, c_2]; done) | (simp [xErr, hN, ← hT, feL, c_2, c_3, dk_nle c_3]; done) | (simp [xErr, hN, ← hT, feL, c_2, c_3, dk_le1 c_3]; done)) dX3_firstError_68
        · refine V.iload_n hC dX3_firstError_43 rfl ?_
          refine V.bipush hC 20 dX3_firstError_44 (by decide) ?_
          refine V.icmp_le hC 53 dX3_firstError_46 (by decide) (fun c_3 => ?_) (fun c_3 => ?_)
          · refine V.iconst hC 0 dX3_firstError_53 (by decide) ?_
            refine V.istore_n hC dX3_firstError_54 rfl rfl ?_
            refine V.iload_n hC dX3_firstError_55 rfl ?_
            refine V.if_eq_t hC 64 dX3_firstError_56 (by decide) (by decide) ?_
            refine V.aload_n hC dX3_firstError_64 rfl ?_
            refine gfX3_29 hG hC dX3_firstError_65 ?_
            exact V.iret hC (by first | (simp [xErr, hN, ← hT, feL, c_2]; done) | (simp [xErr, hN, ← hT, feL, c_2, c_3, dk_nle c_3]; done) | (simp [xErr, hN, ← hT, feL, c_2, c_3, dk_le1 c_3]; done)) dX3_firstError_68
          · refine V.iconst hC 1 dX3_firstError_49 (by decide) ?_
            refine V.goto hC 54 dX3_firstError_50 (by decide) ?_
            refine V.istore_n hC dX3_firstError_54 rfl rfl ?_
            refine V.iload_n hC dX3_firstError_55 rfl ?_
            refine V.if_eq_f hC 64 dX3_firstError_56 (by decide) (by decide) ?_
            refine V.bipush hC (-6) dX3_firstError_59 (by decide) ?_
            refine V.goto hC 68 dX3_firstError_61 (by decide) ?_
            exact V.iret hC (by first | (simp [xErr, hN, ← hT, feL, c_2]; done) | (simp [xErr, hN, ← hT, feL, c_2, c_3, dk_nle c_3]; done) | (simp [xErr, hN, ← hT, feL, c_2, c_3, dk_le1 c_3]; done)) dX3_firstError_68
      · have hkl : k < N := by have := mt (dk_gek (k := k) (by omega)).mpr c_1; omega
        refine V.iload_n hC dX3_firstError_12 rfl ?_
        refine V.aload_n hC dX3_firstError_13 rfl ?_
        refine gfX3_14 hG hC dX3_firstError_14 ?_
        refine V.iload_n hC dX3_firstError_17 rfl ?_
        refine V.callV1i hC (c_X2_get (dk_rowAt hG 103 80 rfl)) mwX2_get mlX3_37 (dk_rowAt hG 103 80 rfl).s (dk_rowAt hG 103 80 rfl).k rfl ⟨rfl, rfl⟩ dX3_firstError_18 rfl ?_
        refine V.callS2i hC (c_X3_placeBehind) mwX3_placeBehind mlX3_41 ⟨rfl, rfl⟩ dX3_firstError_21 rfl ?_
        refine V.istore_n hC dX3_firstError_24 rfl rfl ?_
        refine V.iload_n hC dX3_firstError_25 rfl ?_
        refine V.iconst hC (-1) dX3_firstError_26 (by decide) ?_
        refine V.icmp_ne hC 32 dX3_firstError_27 (by decide) (fun c_2 => ?_) (fun c_2 => ?_)
        · refine V.iinc hC dX3_firstError_32 rfl (dk_incN _) rfl ?_
          refine V.goto hC 4 dX3_firstError_35 (by decide) ?_
          exact V.sub (dk_sc rfl (dk_sc rfl (dk_sc rfl (dk_sn)))) (ih_4 (k + 1) _ (by omega) (by omega) (by rw [show N - k = N - (k + 1) + 1 by omega, feL, if_neg c_2] at hT; exact hT))
        · refine V.iload_n hC dX3_firstError_30 rfl ?_
          exact V.iret hC (by unfold xErr; rw [hN, ← hT, show N - k = N - (k + 1) + 1 by omega, feL, if_pos c_2]) dX3_firstError_31
  refine V.iconst hC 0 dX3_firstError_0 (by decide) ?_
  refine V.istore_n hC dX3_firstError_1 rfl rfl ?_
  refine V.iconst hC 0 dX3_firstError_2 (by decide) ?_
  refine V.istore_n hC dX3_firstError_3 rfl rfl ?_
  exact V.sub (dk_sc rfl (dk_sc rfl (dk_sc rfl (dk_sn)))) (loop_4 (N + 1) 0 0 (Nat.zero_le _) (by omega) rfl)
set_option maxHeartbeats 2000000 in
set_option maxRecDepth 20000 in
theorem c_X3_split {l : Launch} {G : dkG}  {M : dkM} (hG : dk_cls G)  : dk_Con l yX3_split cX3_split 5 (some .int) 1 22 G [.ref (G.1 + 102)] M (some (.int (xSplit M).1), (xSplit M).2) := by
  refine dk_Con.of mwX3_split.1 (Nat.le_of_ble_eq_true rfl) (fun E hE hC => ?_)
  subst hE
  obtain ⟨N, hN⟩ : ∃ N, ix (M 102 4) = N := ⟨_, rfl⟩
  have hsz : N < 2 ^ 31 := hN ▸ ix_lt _
  have loop_6 : ∀ (n : Nat) (k : Nat), (k ≤ N) → (N < k + n) →  V E G 5 (some (.int (xSplit M).1), (xSplit M).2) ((spL M k).2.2) 6 [(0, some (.ref (G.1 + 102))), (1, some (.int (spL M k).1)), (2, some (.int (spL M k).2.1)), (3, some (.int (nI k)))] [] := by
    intro n
    induction n with
    | zero => intro k hk hn; exact absurd hn (by omega)
    | succ n ih_6 =>
      intro k hk hn
      refine V.iload_n hC dX3_split_6 rfl ?_
      refine V.aload_n hC dX3_split_7 rfl ?_
      refine gfX3_29 hG hC dX3_split_8 ?_
      refine V.icmp_ge hC 108 dX3_split_11 (by decide) (fun c_1 => ?_) (fun c_1 => ?_)
      · have hke : k = N := by have hc := c_1; rw [spL_ne _ _ (by decide) (by decide) (by decide)] at hc; have := (dk_gek (k := k) (by omega)).mp hc; omega
        subst hke
        refine V.iload_n hC dX3_split_108 rfl ?_
        exact V.iret hC (by unfold xSplit; rw [hN]) dX3_split_109
      · have hkl : k < N := by have hc := c_1; rw [spL_ne _ _ (by decide) (by decide) (by decide)] at hc; have := mt (dk_gek (k := k) (by omega)).mpr hc; omega
        refine V.aload_n hC dX3_split_14 rfl ?_
        refine gfX3_14 hG hC dX3_split_15 ?_
        refine V.iload_n hC dX3_split_18 rfl ?_
        refine V.callV1i hC (c_X2_get (dk_rowAt hG 103 80 rfl)) mwX2_get mlX3_37 (dk_rowAt hG 103 80 rfl).s (dk_rowAt hG 103 80 rfl).k rfl ⟨rfl, rfl⟩ dX3_split_19 rfl ?_
        refine V.istore hC dX3_split_22 rfl rfl ?_
        refine V.iload hC dX3_split_24 rfl ?_
        refine V.callS1i hC (c_X3_isDigit) mwX3_isDigit mlX3_48 ⟨rfl, rfl⟩ dX3_split_26 rfl ?_
        refine V.if_eqB hC 57 dX3_split_29 (by decide) (fun c_2 => ?_) (fun c_2 => ?_)
        · refine V.iload hC dX3_split_57 rfl ?_
          refine V.bipush hC 61 dX3_split_59 (by decide) ?_
          refine V.icmp_ne hC 80 dX3_split_61 (by decide) (fun c_3 => ?_) (fun c_3 => ?_)
          · refine V.iload hC dX3_split_80 rfl ?_
            refine V.bipush hC 59 dX3_split_82 (by decide) ?_
            refine V.icmp_eq hC 102 dX3_split_84 (by decide) (fun c_4 => ?_) (fun c_4 => ?_)
            · refine V.iinc hC dX3_split_102 rfl (dk_incN _) rfl ?_
              refine V.goto hC 6 dX3_split_105 (by decide) ?_
              have ih2 := ih_6 (k + 1) (by omega) (by omega)
              first | simp only [spL, spStep, c_2, c_3, c_4, if_true, if_false, Bool.false_eq_true] at ih2 | simp only [spL, spStep, c_2, c_3, if_true, if_false, Bool.false_eq_true] at ih2 | simp only [spL, spStep, c_2, if_true, if_false, Bool.false_eq_true] at ih2
              exact V.sub (dk_sc rfl (dk_sc rfl (dk_sc rfl (dk_sc rfl (dk_sn))))) ih2
            · refine V.aload_n hC dX3_split_87 rfl ?_
              refine gfX3_20 hG hC dX3_split_88 ?_
              refine V.iload_n hC dX3_split_91 rfl ?_
              refine V.iload hC dX3_split_92 rfl ?_
              refine V.callV2v hC (c_X2_set (dk_rowAt hG 105 40 rfl)) mwX2_set mlX3_33 (dk_rowAt hG 105 40 rfl).s (dk_rowAt hG 105 40 rfl).k rfl ⟨rfl, rfl⟩ dX3_split_94 rfl ?_
              refine V.iinc hC dX3_split_97 rfl (dk_inc _) rfl ?_
              refine V.iconst hC 0 dX3_split_100 (by decide) ?_
              refine V.istore_n hC dX3_split_101 rfl rfl ?_
              refine V.iinc hC dX3_split_102 rfl (dk_incN _) rfl ?_
              refine V.goto hC 6 dX3_split_105 (by decide) ?_
              have ih2 := ih_6 (k + 1) (by omega) (by omega)
              first | simp only [spL, spStep, c_2, c_3, c_4, if_true, if_false, Bool.false_eq_true] at ih2 | simp only [spL, spStep, c_2, c_3, if_true, if_false, Bool.false_eq_true] at ih2 | simp only [spL, spStep, c_2, if_true, if_false, Bool.false_eq_true] at ih2
              exact V.sub (dk_sc rfl (dk_sc rfl (dk_sc rfl (dk_sc rfl (dk_sn))))) ih2
          · refine V.aload_n hC dX3_split_64 rfl ?_
            refine gfX3_23 hG hC dX3_split_65 ?_
            refine V.iload_n hC dX3_split_68 rfl ?_
            refine V.iconst hC 1 dX3_split_69 (by decide) ?_
            refine V.isub hC dX3_split_70 ?_
            refine V.iload_n hC dX3_split_71 rfl ?_
            refine V.callV2v hC (c_X2_set (dk_rowAt hG 107 40 rfl)) mwX2_set mlX3_33 (dk_rowAt hG 107 40 rfl).s (dk_rowAt hG 107 40 rfl).k rfl ⟨rfl, rfl⟩ dX3_split_72 rfl ?_
            refine V.iconst hC 0 dX3_split_75 (by decide) ?_
            refine V.istore_n hC dX3_split_76 rfl rfl ?_
            refine V.goto hC 102 dX3_split_77 (by decide) ?_
            refine V.iinc hC dX3_split_102 rfl (dk_incN _) rfl ?_
            refine V.goto hC 6 dX3_split_105 (by decide) ?_
            have ih2 := ih_6 (k + 1) (by omega) (by omega)
            first | simp only [spL, spStep, c_2, c_3, c_4, if_true, if_false, Bool.false_eq_true] at ih2 | simp only [spL, spStep, c_2, c_3, if_true, if_false, Bool.false_eq_true] at ih2 | simp only [spL, spStep, c_2, if_true, if_false, Bool.false_eq_true] at ih2
            exact V.sub (dk_sc rfl (dk_sc rfl (dk_sc rfl (dk_sc rfl (dk_sn))))) ih2
        · refine V.bipush hC 10 dX3_split_32 (by decide) ?_
          refine V.iload_n hC dX3_split_34 rfl ?_
          refine V.imul hC dX3_split_35 ?_
          refine V.iload hC dX3_split_36 rfl ?_
          refine V.iadd hC dX3_split_38 ?_
          refine V.bipush hC 48 dX3_split_39 (by decide) ?_
          refine V.isub hC dX3_split_41 ?_
          refine V.istore_n hC dX3_split_42 rfl rfl ?_
          refine V.aload_n hC dX3_split_43 rfl ?_
          refine gfX3_26 hG hC dX3_split_44 ?_
          refine V.iload_n hC dX3_split_47 rfl ?_
          refine V.iconst hC 1 dX3_split_48 (by decide) ?_
          refine V.isub hC dX3_split_49 ?_
          refine V.iload_n hC dX3_split_50 rfl ?_
          refine V.callV2v hC (c_X2_set (dk_rowAt hG 109 40 rfl)) mwX2_set mlX3_33 (dk_rowAt hG 109 40 rfl).s (dk_rowAt hG 109 40 rfl).k rfl ⟨rfl, rfl⟩ dX3_split_51 rfl ?_
          refine V.goto hC 102 dX3_split_54 (by decide) ?_
          refine V.iinc hC dX3_split_102 rfl (dk_incN _) rfl ?_
          refine V.goto hC 6 dX3_split_105 (by decide) ?_
          have ih2 := ih_6 (k + 1) (by omega) (by omega)
          first | simp only [spL, spStep, c_2, c_3, c_4, if_true, if_false, Bool.false_eq_true] at ih2 | simp only [spL, spStep, c_2, c_3, if_true, if_false, Bool.false_eq_true] at ih2 | simp only [spL, spStep, c_2, if_true, if_false, Bool.false_eq_true] at ih2
          exact V.sub (dk_sc rfl (dk_sc rfl (dk_sc rfl (dk_sc rfl (dk_sn))))) ih2
  refine V.iconst hC 0 dX3_split_0 (by decide) ?_
  refine V.istore_n hC dX3_split_1 rfl rfl ?_
  refine V.iconst hC 0 dX3_split_2 (by decide) ?_
  refine V.istore_n hC dX3_split_3 rfl rfl ?_
  refine V.iconst hC 0 dX3_split_4 (by decide) ?_
  refine V.istore_n hC dX3_split_5 rfl rfl ?_
  exact V.sub (dk_sc rfl (dk_sc rfl (dk_sc rfl (dk_sc rfl (dk_sn))))) (loop_6 (N + 1) 0 (Nat.zero_le _) (by omega))
set_option maxHeartbeats 2000000 in
set_option maxRecDepth 20000 in
theorem c_X3_letter {l : Launch} {G : dkG}  {M : dkM} (hG : dk_cls G) {s : Int32}  : dk_Con l yX3_letter cX3_letter 2 (some .int) 1 21 G [.ref (G.1 + 102), .int s] M (some (.int (rget M 105 40 s)), M) := by
  refine dk_Con.of mwX3_letter.1 (Nat.le_of_ble_eq_true rfl) (fun E hE hC => ?_)
  subst hE
  refine V.aload_n hC dX3_letter_0 rfl ?_
  refine gfX3_20 hG hC dX3_letter_1 ?_
  refine V.iload_n hC dX3_letter_4 rfl ?_
  refine V.callV1i hC (c_X2_get (dk_rowAt hG 105 40 rfl)) mwX2_get mlX3_37 (dk_rowAt hG 105 40 rfl).s (dk_rowAt hG 105 40 rfl).k rfl ⟨rfl, rfl⟩ dX3_letter_5 rfl ?_
  exact V.iret hC (rfl) dX3_letter_8
set_option maxHeartbeats 2000000 in
set_option maxRecDepth 20000 in
theorem c_X3_sector {l : Launch} {G : dkG}  {M : dkM} (hG : dk_cls G) {s : Int32}  : dk_Con l yX3_sector cX3_sector 2 (some .int) 1 21 G [.ref (G.1 + 102), .int s] M (some (.int (rget M 107 40 s)), M) := by
  refine dk_Con.of mwX3_sector.1 (Nat.le_of_ble_eq_true rfl) (fun E hE hC => ?_)
  subst hE
  refine V.aload_n hC dX3_sector_0 rfl ?_
  refine gfX3_23 hG hC dX3_sector_1 ?_
  refine V.iload_n hC dX3_sector_4 rfl ?_
  refine V.callV1i hC (c_X2_get (dk_rowAt hG 107 40 rfl)) mwX2_get mlX3_37 (dk_rowAt hG 107 40 rfl).s (dk_rowAt hG 107 40 rfl).k rfl ⟨rfl, rfl⟩ dX3_sector_5 rfl ?_
  exact V.iret hC (rfl) dX3_sector_8
set_option maxHeartbeats 2000000 in
set_option maxRecDepth 20000 in
theorem c_X3_number {l : Launch} {G : dkG}  {M : dkM} (hG : dk_cls G) {s : Int32}  : dk_Con l yX3_number cX3_number 2 (some .int) 1 21 G [.ref (G.1 + 102), .int s] M (some (.int (rget M 109 40 s)), M) := by
  refine dk_Con.of mwX3_number.1 (Nat.le_of_ble_eq_true rfl) (fun E hE hC => ?_)
  subst hE
  refine V.aload_n hC dX3_number_0 rfl ?_
  refine gfX3_26 hG hC dX3_number_1 ?_
  refine V.iload_n hC dX3_number_4 rfl ?_
  refine V.callV1i hC (c_X2_get (dk_rowAt hG 109 40 rfl)) mwX2_get mlX3_37 (dk_rowAt hG 109 40 rfl).s (dk_rowAt hG 109 40 rfl).k rfl ⟨rfl, rfl⟩ dX3_number_5 rfl ?_
  exact V.iret hC (rfl) dX3_number_8
set_option maxHeartbeats 2000000 in
set_option maxRecDepth 20000 in
theorem c_X1_slot {l : Launch} {G : dkG}  {M : dkM} (hG : dk_cls G) {j : Nat} (hj : j < 7) : dk_Con l yX1_slot cX1_slot 2 (some (.object "DiskRekeying$Disk")) 0 0 G [.ref (G.1 + 23), .int (nI j)] M (some (.ref (G.1 + (24 + 1 + 11 * j))), M) := by
  refine dk_Con.of mwX1_slot.1 (Nat.le_of_ble_eq_true rfl) (fun E hE hC => ?_)
  subst hE
  refine V.iload_n hC dX1_slot_0 rfl ?_
  refine V.if_lt hC 22 dX1_slot_1 (by decide) (fun c_1 => ?_) (fun c_1 => ?_)
  · exact absurd c_1 (nI_pos (by omega)) --done
  · refine V.iload_n hC dX1_slot_4 rfl ?_
    refine V.aload_n hC dX1_slot_5 rfl ?_
    refine gfX1_13 hG hC dX1_slot_6 ?_
    refine V.alen7 hC (hG.at 24 rfl) rfl dX1_slot_9 ?_
    refine V.icmp_ge hC 22 dX1_slot_10 (by decide) (fun c_2 => ?_) (fun c_2 => ?_)
    · exact absurd c_2 (nI_ge hj (by decide)) --done
    · refine V.aload_n hC dX1_slot_13 rfl ?_
      refine gfX1_13 hG hC dX1_slot_14 ?_
      refine V.iload_n hC dX1_slot_17 rfl ?_
      refine V.aald hC (hG.at 24 rfl) rfl (hj) dX1_slot_18 ?_
      refine V.goto hC 23 dX1_slot_19 (by decide) ?_
      exact V.aret hC (rfl) dX1_slot_23
set_option maxHeartbeats 2000000 in
set_option maxRecDepth 20000 in
theorem c_X1_draft {l : Launch} {G : dkG}  {M : dkM} (hG : dk_cls G) (hh : hI M) (hz : dZ M 1) : dk_Con l yX1_draft cX1_draft 3 none 3 64 G [.ref (G.1 + 23), .ref (G.1 + 1)] M (none, hDraft M) := by
  refine dk_Con.of mwX1_draft.1 (Nat.le_of_ble_eq_true rfl) (fun E hE hC => ?_)
  subst hE
  refine V.aload_n hC dX1_draft_0 rfl ?_
  refine V.aload_n hC dX1_draft_1 rfl ?_
  refine gfX1_17 hG hC dX1_draft_2 ?_
  refine V.top (congrArg Value.int hh.n) ?_
  refine V.callV1a hC (c_X1_slot hG hh.j) mwX1_slot mlX1_25 (hG.at 23 rfl) rfl rfl ⟨rfl, rfl⟩ dX1_draft_5 rfl ?_
  refine V.astore_n hC dX1_draft_8 rfl rfl ?_
  refine V.aload_n hC dX1_draft_9 rfl ?_
  refine V.ifnull hC dX1_draft_10 ?_
  refine V.aload_n hC dX1_draft_13 rfl ?_
  refine V.aload_n hC dX1_draft_14 rfl ?_
  refine V.callV1v hC (c_X0_takeOver (dk_diskS hG hh.j) (dk_disk1 hG) (by unfold apart; omega) hz) mwX0_takeOver mlX1_29 (dk_diskS hG hh.j).s (dk_diskS hG hh.j).k rfl ⟨rfl, rfl⟩ dX1_draft_15 rfl ?_
  exact V.vret hC (rfl) dX1_draft_18
set_option maxHeartbeats 2000000 in
set_option maxRecDepth 20000 in
theorem c_X1_keep {l : Launch} {G : dkG}  {M : dkM} (hG : dk_cls G) {a : Int32}  : dk_Con l yX1_keep cX1_keep 2 (some .int) 1 21 G [.ref (G.1 + 23), .int a] M (some (.int a), hKeep M a) := by
  refine dk_Con.of mwX1_keep.1 (Nat.le_of_ble_eq_true rfl) (fun E hE hC => ?_)
  subst hE
  refine V.iload_n hC dX1_keep_0 rfl ?_
  refine V.if_lt hC 32 dX1_keep_1 (by decide) (fun c_1 => ?_) (fun c_1 => ?_)
  · refine V.iload_n hC dX1_keep_32 rfl ?_
    exact V.iret hC (by first | (simp [hKeep, iRem, c_1, dk_lt1 c_1]; done) | (simp [hKeep, iRem, dk_put, c_1, dk_lt1 c_1]; done)) dX1_keep_33
  · refine V.aload_n hC dX1_keep_4 rfl ?_
    refine V.aload_n hC dX1_keep_5 rfl ?_
    refine gfX1_17 hG hC dX1_keep_6 ?_
    refine V.iconst hC 1 dX1_keep_9 (by decide) ?_
    refine V.iadd hC dX1_keep_10 ?_
    refine V.bipush hC 7 dX1_keep_11 (by decide) ?_
    refine V.irem hC dX1_keep_13 (by decide) ?_
    refine pfX1_17 hG hC dX1_keep_14 ?_
    refine V.aload_n hC dX1_keep_17 rfl ?_
    refine V.aload_n hC dX1_keep_18 rfl ?_
    refine gfX1_21 hG hC dX1_keep_19 ?_
    refine V.iconst hC 1 dX1_keep_22 (by decide) ?_
    refine V.iadd hC dX1_keep_23 ?_
    refine V.bipush hC 6 dX1_keep_24 (by decide) ?_
    refine V.mmin hC mlX1_33 ⟨rfl, rfl⟩ dX1_keep_26 rfl ?_
    refine pfX1_21 hG hC dX1_keep_29 ?_
    refine V.iload_n hC dX1_keep_32 rfl ?_
    exact V.iret hC (by first | (simp [hKeep, iRem, c_1, dk_nlt c_1]; done) | (simp [hKeep, iRem, dk_put, c_1, dk_nlt c_1]; done)) dX1_keep_33
set_option maxHeartbeats 2000000 in
set_option maxRecDepth 20000 in
theorem c_X1_bringBack {l : Launch} {G : dkG}  {M : dkM} (hG : dk_cls G) (hh : hI M) (hz : hZ M) : dk_Con l yX1_bringBack cX1_bringBack 4 (some .int) 3 64 G [.ref (G.1 + 23), .ref (G.1 + 1)] M (some (.int (hBack M).1), (hBack M).2) := by
  refine dk_Con.of mwX1_bringBack.1 (Nat.le_of_ble_eq_true rfl) (fun E hE hC => ?_)
  subst hE
  have hj2 : (ix (M 23 1) + 6) % 7 < 7 := Nat.mod_lt _ (by decide)
  refine V.aload_n hC dX1_bringBack_0 rfl ?_
  refine gfX1_17 hG hC dX1_bringBack_1 ?_
  refine V.bipush hC 7 dX1_bringBack_4 (by decide) ?_
  refine V.iadd hC dX1_bringBack_6 ?_
  refine V.iconst hC 1 dX1_bringBack_7 (by decide) ?_
  refine V.isub hC dX1_bringBack_8 ?_
  refine V.bipush hC 7 dX1_bringBack_9 (by decide) ?_
  refine V.irem hC dX1_bringBack_11 (by decide) ?_
  refine V.top (congrArg Value.int hh.l) ?_
  refine V.istore_n hC dX1_bringBack_12 rfl rfl ?_
  refine V.aload_n hC dX1_bringBack_13 rfl ?_
  refine V.iload_n hC dX1_bringBack_14 rfl ?_
  refine V.callV1a hC (c_X1_slot hG hj2) mwX1_slot mlX1_25 (hG.at 23 rfl) rfl rfl ⟨rfl, rfl⟩ dX1_bringBack_15 rfl ?_
  refine V.astore_n hC dX1_bringBack_18 rfl rfl ?_
  refine V.aload_n hC dX1_bringBack_19 rfl ?_
  refine gfX1_21 hG hC dX1_bringBack_20 ?_
  refine V.if_eq hC 30 dX1_bringBack_23 (by decide) (fun c_1 => ?_) (fun c_1 => ?_)
  · refine V.bipush hC (-3) dX1_bringBack_30 (by decide) ?_
    exact V.iret hC (by first | (simp [hBack, c_1]; done) | (simp [hBack, dk_put, c_1]; done)) dX1_bringBack_32
  · refine V.aload_n hC dX1_bringBack_26 rfl ?_
    refine V.ifnonnull hC 33 dX1_bringBack_27 (by decide) ?_
    refine V.aload_n hC dX1_bringBack_33 rfl ?_
    refine V.aload_n hC dX1_bringBack_34 rfl ?_
    refine V.callV1v hC (c_X0_takeOver (dk_disk1 hG) (dk_diskS hG hj2) (by unfold apart; omega) (hz _ hj2)) mwX0_takeOver mlX1_29 (dk_disk1 hG).s (dk_disk1 hG).k rfl ⟨rfl, rfl⟩ dX1_bringBack_35 rfl ?_
    refine V.aload_n hC dX1_bringBack_38 rfl ?_
    refine V.iload_n hC dX1_bringBack_39 rfl ?_
    refine pfX1_17 hG hC dX1_bringBack_40 ?_
    refine V.aload_n hC dX1_bringBack_43 rfl ?_
    refine V.dup hC dX1_bringBack_44 rfl ?_
    refine gfX1_21 hG hC dX1_bringBack_45 ?_
    refine V.iconst hC 1 dX1_bringBack_48 (by decide) ?_
    refine V.isub hC dX1_bringBack_49 ?_
    refine pfX1_21 hG hC dX1_bringBack_50 ?_
    refine V.aload_n hC dX1_bringBack_53 rfl ?_
    refine gfX1_21 hG hC dX1_bringBack_54 ?_
    exact V.iret hC (by first | (simp [hBack, c_1]; done) | (simp [hBack, dk_put, c_1]; done)) dX1_bringBack_57
