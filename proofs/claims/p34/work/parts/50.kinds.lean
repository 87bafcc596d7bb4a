/-! what each kind of act does to the law's disk and to the model's state -/
theorem op_ok {M N : dkM} {r m : Int32 × dkM} (Sm : Sim M N) (u : OK2 1 (hDraft M) N r m) : (xU r).1 = m.1 ∧ Sim (xU r).2 m.2 ∧ ∀ a, 111 ≤ a → (xU r).2 a = M a := by
  refine ⟨(sim_U Sm u).1, (sim_U Sm u).2, fun a ha => ?_⟩
  have hk : (xU r).2 a = r.2 a := by
    show hKeep r.2 r.1 a = r.2 a
    unfold hKeep
    split
    · rfl
    · rw [dk_put_ne (by omega), dk_put_ne (by omega)]
  rw [hk]
  rcases u with ⟨e, -, h, -⟩ | ⟨-, -, h, -⟩
  · rw [h]; exact hDraft_ne Sm.x.1 (by omega)
  · rw [h a (by omega)]; exact hDraft_ne Sm.x.1 (by omega)
theorem dk_put_id (M : dkM) (o k : Nat) : dk_put M o k (M o k) = M := by
  funext a b
  unfold dk_put
  by_cases h : a = o
  · by_cases h2 : b = k
    · rw [if_pos h, if_pos h2, h, h2]
    · rw [if_pos h, if_neg h2]
  · rw [if_neg h]
section KD
variable {M N R Mx : dkM} {e q d c w j : Nat}
/-- a key comes or goes -/
theorem LR.keyp (D : lD q d c w j) (r : LR M q d c w j (N 112)) (hR : R 112 = N 112) {k : Nat} (h1 : 1 ≤ k) (h2 : k ≤ 5) (v : Int32) : LR (dk_put M q (10 + k) v) q d c w j (dk_put R 112 (11 + k) v 112) := by
  obtain ⟨⟨d1, d2, d3, d4⟩, -⟩ := D
  have hn : ∀ b, b ≠ 11 + k → dk_put R 112 (11 + k) v 112 b = N 112 b := fun b y => by rw [put_k y, hR]
  have hm : ∀ b, b ≠ 10 + k → dk_put M q (10 + k) v q b = M q b := fun b y => put_k y
  have e1 : fT (dk_put R 112 (11 + k) v 112) = fT (N 112) := by unfold fT; rw [hn 4 (by omega), hn 3 (by omega), hn 0 (by omega), hn 7 (by omega)]
  have e2 : fF (dk_put R 112 (11 + k) v 112) = fF (N 112) := by unfold fF; rw [hn 4 (by omega), hn 3 (by omega), hn 7 (by omega)]
  refine ⟨fun b hb h6 => by rw [hm b (by omega), hn b (by omega)]; exact r.1 b hb h6, by rw [hm 6 (by omega), hn 6 (by omega), e1, e2]; exact r.2.1, ⟨fun b y1 y2 => ?_, fun b y1 y2 => by rw [hn _ (by omega)]; exact r.2.2.1.2 b y1 y2⟩, by rw [hn 0 (by omega)]; exact r.2.2.2.1, fun s hs => ?_⟩
  · by_cases y : b = k
    · rw [y, put_same, put_same]
    · rw [hm _ (by omega), hn _ (by omega)]; exact r.2.2.1.1 b y1 y2
  · rw [hn 0 (by omega)] at hs
    rw [dk_put_ne d1.symm, dk_put_ne d2.symm, dk_put_ne d3.symm, dk_put_ne d4.symm, hn _ (by omega), hn _ (by omega), hn _ (by omega), hn _ (by omega)]
    exact r.2.2.2.2 s hs
theorem LR.writep (D : lD q d c w j) (h : DS Mx e (N 112)) (r : LR M q d c w j (N 112)) (hR : R 112 = N 112) {s : Nat} (hs : s < ix (N 112 0)) (v : Int32) : LR (dk_put (dk_put M c s v) w s v) q d c w j (mWritesM R (nI s) v 112) := by
  obtain ⟨⟨d1, d2, d3, d4⟩, ⟨d5, d6, d7⟩, ⟨d8, d9⟩, d10⟩ := D
  have hsec := h.sec
  have hN : ∀ b, mWritesM R (nI s) v 112 b = if b = 303 + s then v else if b = 239 + s then v else N 112 b := fun b => by
    unfold mWritesM
    rw [ix_nI (by omega), put_st, put_st, hR]
  have hlo : ∀ b, b < 239 → mWritesM R (nI s) v 112 b = N 112 b := fun b y => by rw [hN, if_neg (by omega), if_neg (by omega)]
  have hq : ∀ b, dk_put (dk_put M c s v) w s v q b = M q b := fun b => by rw [dk_put_ne d3, dk_put_ne d2]
  have e1 : fT (mWritesM R (nI s) v 112) = fT (N 112) := by unfold fT; rw [hlo 4 (by omega), hlo 3 (by omega), hlo 0 (by omega), hlo 7 (by omega)]
  have e2 : fF (mWritesM R (nI s) v 112) = fF (N 112) := by unfold fF; rw [hlo 4 (by omega), hlo 3 (by omega), hlo 7 (by omega)]
  refine r.upd (hlo 0 (by omega)) (fun b hb h6 => by rw [hq, hlo b (by omega)]; exact r.1 b hb h6) (by rw [hq, hlo 6 (by omega), e1, e2]; exact r.2.1) (fun b _ => hq b) (fun b _ hb => hlo b (by omega)) (fun t ht => ?_)
  obtain ⟨⟨a1, a2⟩, a3, a4⟩ := r.2.2.2.2 t ht
  have h20 := r.sn h ht
  have h20s := r.sn h hs
  refine ⟨⟨?_, ?_⟩, ?_, ?_⟩
  · rw [dk_put_ne d6, dk_put_ne d5, hlo _ (by omega)]; exact a1
  · rw [dk_put_ne d8, hN]
    by_cases y : t = s
    · rw [y, put_same, if_neg (by omega), if_pos rfl]
    · rw [put_k y, if_neg (by omega), if_neg (by omega)]; exact a2
  · rw [dk_put_ne d10.symm, dk_put_ne d9.symm, hlo _ (by omega)]; exact a3
  · rw [hN]
    by_cases y : t = s
    · rw [y, put_same, if_pos rfl]
    · rw [put_k y, dk_put_ne d8.symm, if_neg (by omega), if_neg (by omega)]; exact a4
/-- a sector is taken out of the cache -/
theorem LR.flushp (D : lD q d c w j) (h : DS Mx e (N 112)) (r : LR M q d c w j (N 112)) {s : Nat} (hs : s < ix (N 112 0)) (v : Int32) : LR (dk_put (dk_put M d s v) c s (-6)) q d c w j (dk_put (dk_put N 112 (111 + s) v) 112 (239 + s) (-6) 112) := by
  obtain ⟨⟨d1, d2, d3, d4⟩, ⟨d5, d6, d7⟩, ⟨d8, d9⟩, d10⟩ := D
  have hsec := h.sec
  have hN : ∀ b, dk_put (dk_put N 112 (111 + s) v) 112 (239 + s) (-6) 112 b = if b = 239 + s then -6 else if b = 111 + s then v else N 112 b := fun b => by rw [put_st, put_st]
  have hlo : ∀ b, b < 111 → dk_put (dk_put N 112 (111 + s) v) 112 (239 + s) (-6) 112 b = N 112 b := fun b y => by rw [hN, if_neg (by omega), if_neg (by omega)]
  have hq : ∀ b, dk_put (dk_put M d s v) c s (-6) q b = M q b := fun b => by rw [dk_put_ne d2, dk_put_ne d1]
  have e1 : fT (dk_put (dk_put N 112 (111 + s) v) 112 (239 + s) (-6) 112) = fT (N 112) := by unfold fT; rw [hlo 4 (by omega), hlo 3 (by omega), hlo 0 (by omega), hlo 7 (by omega)]
  have e2 : fF (dk_put (dk_put N 112 (111 + s) v) 112 (239 + s) (-6) 112) = fF (N 112) := by unfold fF; rw [hlo 4 (by omega), hlo 3 (by omega), hlo 7 (by omega)]
  refine r.upd (hlo 0 (by omega)) (fun b hb h6 => by rw [hq, hlo b (by omega)]; exact r.1 b hb h6) (by rw [hq, hlo 6 (by omega), e1, e2]; exact r.2.1) (fun b _ => hq b) (fun b _ hb => hlo b (by omega)) (fun t ht => ?_)
  obtain ⟨⟨a1, a2⟩, a3, a4⟩ := r.2.2.2.2 t ht
  have h20 := r.sn h ht
  have h20s := r.sn h hs
  refine ⟨⟨?_, ?_⟩, ?_, ?_⟩
  · rw [dk_put_ne d5, hN]
    by_cases y : t = s
    · rw [y, put_same, if_neg (by omega), if_pos rfl]
    · rw [put_k y, if_neg (by omega), if_neg (by omega)]; exact a1
  · rw [hN]
    by_cases y : t = s
    · rw [y, put_same, if_pos rfl]
    · rw [put_k y, dk_put_ne d5.symm, if_neg (by omega), if_neg (by omega)]; exact a2
  · rw [dk_put_ne d9.symm, dk_put_ne d7.symm, hN, if_neg (by omega), if_neg (by omega)]; exact a3
  · rw [dk_put_ne d8.symm, dk_put_ne d6.symm, hN, if_neg (by omega), if_neg (by omega)]; exact a4
/-- a number that is no bound of the zone, or a zone that is not begun -/
theorem LR.nump (D : lD q d c w j) (r : LR M q d c w j (N 112)) (hR : R 112 = N 112) {k : Nat} (hk : 0 < k ∧ k ≤ 10 ∧ k ≠ 6) (v : Int32) (ho : M q 6 = 0 ∧ N 112 6 = 0) : LR (dk_put M q k v) q d c w j (dk_put R 112 k v 112) := by
  obtain ⟨⟨d1, d2, d3, d4⟩, -⟩ := D
  have hn : ∀ b, b ≠ k → dk_put R 112 k v 112 b = N 112 b := fun b y => by rw [put_k y, hR]
  have hm : ∀ b, b ≠ k → dk_put M q k v q b = M q b := fun b y => put_k y
  refine r.upd (hn 0 (by omega)) (fun b hb h6 => ?_) (Or.inl ⟨by rw [hm 6 (by omega)]; exact ho.1, by rw [hn 6 (by omega)]; exact ho.2⟩) (fun b hb => hm b (by omega)) (fun b y1 y2 => hn b (by omega)) (fun s hs => ?_)
  · by_cases y : b = k
    · rw [y, put_same, put_same]
    · rw [hm b y, hn b y]; exact r.1 b hb h6
  · rw [dk_put_ne d1.symm, dk_put_ne d2.symm, dk_put_ne d3.symm, dk_put_ne d4.symm, hn _ (by omega), hn _ (by omega), hn _ (by omega), hn _ (by omega)]
    exact r.2.2.2.2 s hs
theorem LR.shut0 (h : DS Mx e (N 112)) (r : LR M q d c w j (N 112)) (ho : mOpen N = false) : M q 6 = 0 ∧ N 112 6 = 0 := by
  have h6 := (opn_f h ho).2.2
  rcases r.2.1 with y | y
  · exact y
  · rw [h6] at y; exact absurd y.2.1 (by decide)
def lFo (M : dkM) (q d c w : Nat) : Nat → dkM
  | 0 => M
  | k + 1 => dk_put (dk_put (dk_put (lFo M q d c w k) d k (lMix 0 (nI k) (lFo M q d c w k q (10 + ix (lFo M q d c w k q 1))))) c k (-6)) w k 0
theorem lFo_st (D : lD q d c w j) : ∀ (n b : Nat), (∀ a, a ≠ d → a ≠ c → a ≠ w → lFo M q d c w n a b = M a b) ∧ (b < n → lFo M q d c w n d b = lMix 0 (nI b) (M q (10 + ix (M q 1))) ∧ lFo M q d c w n c b = -6 ∧ lFo M q d c w n w b = 0)
  | 0, b => ⟨fun _ _ _ _ => rfl, fun h => absurd h (Nat.not_lt_zero _)⟩
  | n + 1, b => by
    obtain ⟨⟨d1, d2, d3, d4⟩, ⟨d5, d6, d7⟩, ⟨d8, d9⟩, d10⟩ := id D
    obtain ⟨i1, i2⟩ := lFo_st D n b
    have iq : ∀ b, lFo M q d c w n q b = M q b := fun b => (lFo_st D n b).1 q d1 d2 d3
    rw [lFo, iq, iq]
    refine ⟨fun a h1 h2 h3 => by rw [dk_put_ne h3, dk_put_ne h2, dk_put_ne h1]; exact i1 a h1 h2 h3, fun hb => ?_⟩
    by_cases y : b = n
    · refine ⟨?_, ?_, ?_⟩
      · rw [dk_put_ne d6, dk_put_ne d5, y, put_same]
      · rw [dk_put_ne d8, y, put_same]
      · rw [y, put_same]
    · obtain ⟨i3, i4, i5⟩ := i2 (Nat.lt_of_le_of_ne (Nat.le_of_lt_succ hb) y)
      refine ⟨?_, ?_, ?_⟩
      · rw [dk_put_ne d6, dk_put_ne d5, put_k y]; exact i3
      · rw [dk_put_ne d8, put_k y, dk_put_ne d5.symm]; exact i4
      · rw [put_k y, dk_put_ne d8.symm, dk_put_ne d6.symm]; exact i5
def lFmt (M : dkM) (q j : Nat) (n : Int32) : dkM := lClose (dk_put (dk_put (dk_put (dk_put M q 0 n) q 2 (-6)) q 3 (-6)) q 4 (-6)) q j
theorem LR.formatp (D : lD q d c w j) (h : DS Mx e (N 112)) (r : LR M q d c w j (N 112)) (hR : R 112 = N 112) {n : Int32} (hn : 4 ≤ n.toInt ∧ n.toInt ≤ 20) : LR (lFo (lFmt M q j n) q d c w 20) q d c w j (mFormats R n 112) := by
  obtain ⟨⟨d1, d2, d3, d4⟩, ⟨d5, d6, d7⟩, ⟨d8, d9⟩, d10⟩ := id D
  have ho := ix_99 h.a.2.1.2
  have hown := r.own h
  have hst := fun b => mFormats_st R n (by rw [hR]; exact ho.2.1) (by rw [hR]; exact ho.1) b
  have hF : ∀ a b, lFmt M q j n a b = if a = j ∧ b < 20 then -6 else if a = q ∧ (b = 5 ∨ b = 6) then 0 else if a = q ∧ (b = 2 ∨ b = 3 ∨ b = 4) then -6 else if a = q ∧ b = 0 then n else M a b := fun a b => by
    unfold lFmt
    rw [show lClose (dk_put (dk_put (dk_put (dk_put M q 0 n) q 2 (-6)) q 3 (-6)) q 4 (-6)) q j = lOff (dk_put M q 0 n) q j from rfl, lOff_st d4]
    unfold dk_put
    by_cases y : a = q
    · by_cases y0 : b = 0
      · simp [y, y0]
      · simp [y, y0]
    · simp [y]
  have hFq : ∀ b, b = 1 ∨ 6 < b → lFmt M q j n q b = M q b := fun b y => by rw [hF, if_neg (fun z => d4 z.1), if_neg (by omega), if_neg (by omega), if_neg (by omega)]
  have hLq : ∀ b, lFo (lFmt M q j n) q d c w 20 q b = lFmt M q j n q b := fun b => (lFo_st D 20 b).1 q d1 d2 d3
  have hLj : ∀ b, lFo (lFmt M q j n) q d c w 20 j b = lFmt M q j n j b := fun b => (lFo_st D 20 b).1 j d7.symm d9.symm d10.symm
  have hlo : ∀ b, 6 < b → b < 111 → mFormats R n 112 b = N 112 b := fun b y1 y2 => by
    rw [hst, if_neg (by omega), if_neg (by omega), if_neg (by omega), if_neg (by omega), if_neg (by omega), if_neg (by omega), hR]
  have hlo1 : mFormats R n 112 1 = N 112 1 := by rw [hst, if_neg (by omega), if_neg (by omega), if_neg (by omega), if_neg (by omega), if_neg (by omega), if_neg (by omega), hR]
  have h0 : mFormats R n 112 0 = n := by rw [hst, if_neg (by omega), if_neg (by omega), if_neg (by omega), if_neg (by omega), if_neg (by omega), if_pos rfl]
  have h56 : ∀ b, b = 5 ∨ b = 6 → mFormats R n 112 b = 0 := fun b y => by rw [hst, if_neg (by omega), if_neg (by omega), if_neg (by omega), if_pos y]
  have h234 : ∀ b, b = 2 ∨ b = 3 ∨ b = 4 → mFormats R n 112 b = -6 := fun b y => by rw [hst, if_neg (by omega), if_neg (by omega), if_neg (by omega), if_neg (by omega), if_pos y]
  refine ⟨fun k hk h6 => ?_, Or.inl ⟨?_, h56 6 (Or.inr rfl)⟩, ⟨fun k y1 y2 => ?_, fun k y1 y2 => ?_⟩, by rw [h0]; exact hn.2, fun s hs => ?_⟩
  · rw [hLq]
    by_cases y0 : k = 0
    · rw [y0, h0, hF, if_neg (fun z => d4 z.1), if_neg (by omega), if_neg (by omega), if_pos ⟨rfl, rfl⟩]
    · by_cases y5 : k = 5
      · rw [h56 k (Or.inl y5), hF, if_neg (fun z => d4 z.1), if_pos ⟨rfl, Or.inl y5⟩]
      · by_cases y2 : k = 2 ∨ k = 3 ∨ k = 4
        · rw [h234 k y2, hF, if_neg (fun z => d4 z.1), if_neg (by omega), if_pos ⟨rfl, y2⟩]
        · rw [hFq k (by omega)]
          by_cases y1 : k = 1
          · rw [y1, hlo1]; exact r.1 1 (by omega) (by omega)
          · rw [hlo k (by omega) (by omega)]; exact r.1 k hk h6
  · rw [hLq, hF, if_neg (fun z => d4 z.1), if_pos ⟨rfl, Or.inr rfl⟩]
  · rw [hLq, hFq _ (by omega), hlo _ (by omega) (by omega)]; exact r.2.2.1.1 k y1 y2
  · rw [hlo _ (by omega) (by omega)]; exact r.2.2.1.2 k y1 y2
  · rw [h0] at hs
    have hin := ix_toInt (x := n) (by omega)
    have h20 : s < 20 := by omega
    obtain ⟨l1, l2, l3⟩ := (lFo_st D (M := lFmt M q j n) 20 s).2 h20
    rw [l1, l2, l3, hLj, hFq 1 (Or.inl rfl), hFq _ (by omega), hst, hst, hst, hst]
    have e1 : M q (10 + ix (M q 1)) = N 112 (11 + ix (N 112 1)) := by
      rw [r.k (k := 1) (by decide) (by decide)]
      exact r.ks hown
    rw [e1, hR, if_pos (by omega), if_neg (show ¬ n ≤ nI (111 + s - 111) by rw [tI_le, nI_toInt (by omega)]; omega), show 111 + s - 111 = s by omega]
    refine ⟨⟨lMix_eq (by decide) _ _, ?_⟩, ?_, ?_⟩
    · rw [if_neg (by omega), if_pos (by omega)]
    · rw [if_neg (by omega), if_pos (by omega), hF, if_pos ⟨rfl, h20⟩]
    · rw [if_neg (by omega), if_neg (by omega), if_pos (by omega)]
end KD
