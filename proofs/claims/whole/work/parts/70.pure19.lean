/-! ===== count, perform, the beginning ===== -/
theorem lit_of {x : Int32} {k : Int} {c : Int32} (h : x.toInt = k) (hc : c.toInt = k) : x = c := ieq (h.trans hc.symm)
theorem op_count {so g gS sh q0 q1 q2 q3 t u : Nat → Nat → Int32} (h : J so g gS sh q0 q1 q2 q3 t u) (x : Int32) : rX6_count g sh t x = rX7_count u x ∧ J so g gS sh q0 q1 q2 q3 t (sX7_count u) := by
  refine ⟨?_, h.thd⟩
  have hs := h.s
  obtain ⟨hG, ⟨b5, b6, b7, b8, b9, b10, bb⟩, c1, c2, c3, c4, c5, c6, c7, -⟩ := hs.1
  have h17 : thr u 1 17 = g 0 12 := by have q := hs.2.1.1; rw [Int32.add_zero] at q; exact q
  have h4 : thr u 0 4 = sh 0 2 := h.thd.2.2.2.2.2.1.2.1
  have h8 : thr u 0 8 = t 0 1 := h.thd.2.2.2.2.2.2.1.2.1
  have ld := load_sim (u := thr u) hs.1.1 hs.1.2.1
  have al := all_sim (u := thr u) hs.1.1 hs.1.2.1
  by_cases a0 : x = 0
  · subst a0
    exact b5.symm
  by_cases a1 : x = 1
  · subst a1
    exact al.1.symm
  by_cases a2 : x = 2
  · subst a2
    exact b6.symm
  by_cases a3 : x = 3
  · subst a3
    exact b7.symm
  by_cases a4 : x = 4
  · subst a4
    exact b8.symm
  by_cases a5 : x = 5
  · subst a5
    exact b9.symm
  by_cases a6 : x = 6
  · subst a6
    exact b10.symm
  by_cases a7 : x = 7
  · subst a7
    exact ld.1.symm
  by_cases a8 : x = 8
  · subst a8
    exact c2.symm
  by_cases a9 : x = 9
  · subst a9
    exact c3.symm
  by_cases a10 : x = 10
  · subst a10
    exact c4.symm
  by_cases a11 : x = 11
  · subst a11
    show (if g 0 6 = 0 then (0 : Int32) else 1) = thr u 1 14
    rw [c5]; rcases hG.2.1.1 with e | e <;> rw [e] <;> decide
  by_cases a12 : x = 12
  · subst a12
    show (if g 0 7 = 0 then (0 : Int32) else 1) = thr u 1 15
    rw [c6]; rcases hG.2.1.2 with e | e <;> rw [e] <;> decide
  by_cases a13 : x = 13
  · subst a13
    show g 0 11 = (if thr u 1 16 = 0 then (-105) else thr u 1 16 - 1)
    rcases c7 with ⟨e1, e2⟩ | ⟨e1, e2⟩ | ⟨e1, e2⟩ | ⟨e1, e2⟩ <;> rw [e1, e2] <;> decide
  by_cases a14 : x = 14
  · subst a14
    exact h17.symm
  by_cases a15 : x = 15
  · subst a15
    exact h4.symm
  by_cases a16 : x = 16
  · subst a16
    exact h8.symm
  have i1 : rX7_in x 2 6 = 0 := by
    by_cases d : rX7_in x 2 6 = 0
    · exact d
    · have q := in_iff.mp d
      rw [show (2 : Int32).toInt = 2 by decide, show (6 : Int32).toInt = 6 by decide] at q
      exfalso
      rcases (show x.toInt = 2 ∨ x.toInt = 3 ∨ x.toInt = 4 ∨ x.toInt = 5 ∨ x.toInt = 6 by omega) with e | e | e | e | e
      · exact a2 (lit_of e (by decide))
      · exact a3 (lit_of e (by decide))
      · exact a4 (lit_of e (by decide))
      · exact a5 (lit_of e (by decide))
      · exact a6 (lit_of e (by decide))
  have i2 : rX7_in x 8 12 = 0 := by
    by_cases d : rX7_in x 8 12 = 0
    · exact d
    · have q := in_iff.mp d
      rw [show (8 : Int32).toInt = 8 by decide, show (12 : Int32).toInt = 12 by decide] at q
      exfalso
      rcases (show x.toInt = 8 ∨ x.toInt = 9 ∨ x.toInt = 10 ∨ x.toInt = 11 ∨ x.toInt = 12 by omega) with e | e | e | e | e
      · exact a8 (lit_of e (by decide))
      · exact a9 (lit_of e (by decide))
      · exact a10 (lit_of e (by decide))
      · exact a11 (lit_of e (by decide))
      · exact a12 (lit_of e (by decide))
  unfold rX6_count rX7_count
  have ei : rX7_in x 20 24 = rX6_isWithin x 20 24 := rfl
  rw [ei]
  simp only [a0, a1, a2, a3, a4, a5, a6, a7, a8, a9, a10, a11, a12, a13, a14, a15, a16, i1, i2, reduceIte]
  by_cases c : rX6_isWithin x 20 24 = 0
  · rw [if_pos c, if_pos c]
  · rw [if_neg c, if_neg c]
    have hx := in20 c
    exact (c1 _ (by omega)).symm
theorem swp (n : Nat) (u : Nat → Nat → Int32) (j : Nat) : iterN (fun k h => up2 (up2 h 1 k (h 2 k)) 2 k (h 1 k)) n u 1 j = (if j < n then u 2 j else u 1 j) ∧ iterN (fun k h => up2 (up2 h 1 k (h 2 k)) 2 k (h 1 k)) n u 2 j = (if j < n then u 1 j else u 2 j) := by
  induction n generalizing j with
  | zero => rw [if_neg (by omega), if_neg (by omega)]; exact ⟨rfl, rfl⟩
  | succ n ih =>
    rw [iterN_succ]
    have i := ih j
    have i2 := ih n
    rw [if_neg (by omega), if_neg (by omega)] at i2
    rw [up2_d (by decide), up2_c, up2_c, up2_d (by decide)]
    by_cases e : j = n
    · rw [if_pos e, if_pos e, if_pos (by omega), if_pos (by omega), i2.1, i2.2, e]; exact ⟨rfl, rfl⟩
    · rw [if_neg e, if_neg e, i.1, i.2]
      by_cases c : j < n
      · rw [if_pos c, if_pos c, if_pos (by omega), if_pos (by omega)]; exact ⟨rfl, rfl⟩
      · rw [if_neg c, if_neg c, if_neg (by omega), if_neg (by omega)]; exact ⟨rfl, rfl⟩
theorem swap_f (u : Nat → Nat → Int32) : (∀ k, k < 56 → sX7_swapsAside u 1 k = u 2 k) ∧ (∀ k, k < 56 → sX7_swapsAside u 2 k = u 1 k) ∧ ∀ a, a ≠ 1 → a ≠ 2 → sX7_swapsAside u a = u a := by
  unfold sX7_swapsAside
  exact ⟨fun k hk => by rw [(swp 56 u k).1, if_pos hk], fun k hk => by rw [(swp 56 u k).2, if_pos hk], fun a h1 h2 => swap_c u 56 h1 h2⟩
theorem mpS_c (n : Nat) : ∀ (i : Nat) (u : Nat → Nat → Int32) {a : Nat}, a ≠ 1 → mpS n i u a = u a := by
  induction n with
  | zero => exact fun i u a h => rfl
  | succ n ih =>
    intro i u a h
    rw [mpS]
    split
    · rw [ih _ _ h, does_c _ _ _ h]
    split
    · rw [ih _ _ h, does_c _ _ _ h]
    · exact does_c _ _ _ h
/-- reading leaves the class's text -/
theorem read_txt (t : Nat → Nat → Int32) : sX4_read t 1 = t 1 ∧ sX4_read t 0 1 = t 0 1 := by
  have hC : ∀ h : Nat → Nat → Int32, sX4_readCommand h 1 = h 1 := fun h => by
    unfold sX4_readCommand
    split
    · rfl
    split
    · rfl
    · rw [up2_ne (by decide), (rdV_Kt _ _).1 1 (by decide) (by decide)]
      unfold rcA
      rw [up2_ne (by decide), up2_ne (by decide), up2_ne (by decide)]
  have hS : ∀ (n : Nat) (h : Nat → Nat → Int32) (z : Int32), trS n h z 1 = h 1 ∧ trS n h z 0 1 = h 0 1 := by
    intro n
    induction n with
    | zero => exact fun h z => ⟨rfl, rfl⟩
    | succ n ih =>
      intro h z
      have k1 : sX4_readComma h 1 = h 1 := (rdK_Kt h).1 1 (by decide) (by decide)
      have k2 : sX4_readComma h 0 1 = h 0 1 := (rdK_Kt h).2 1 (by decide)
      rw [trS]
      split
      · exact ⟨rfl, rfl⟩
      split
      · exact ⟨rfl, rfl⟩
      split
      · exact ⟨(ih _ _).1.trans k1, (ih _ _).2.trans k2⟩
      split
      · exact ⟨(ih _ _).1.trans ((hC _).trans k1), (ih _ _).2.trans ((rdC_01 _).trans k2)⟩
      · exact ⟨(ih _ _).1.trans ((hC _).trans k1), (ih _ _).2.trans ((rdC_01 _).trans k2)⟩
  unfold sX4_read
  have s := hS 60 (sX4_readCommand (trE t)) (rX4_readCommand (trE t))
  refine ⟨s.1.trans ((hC _).trans ?_), s.2.trans ((rdC_01 _).trans ?_)⟩
  · unfold trE; rw [up2_ne (by decide), up2_ne (by decide)]
  · unfold trE; rw [up2_k (by decide), up2_k (by decide)]
theorem op_perform {so g gS sh q0 q1 q2 q3 t u : Nat → Nat → Int32} (h : J so g gS sh q0 q1 q2 q3 t u) : rX6_perform g t = rX7_perform u ∧ J (sX6_perform so g t) (sX6_perform2 g t) gS (sX6_perform4 g sh t) (sX6_perform5 g sh q0 t) (sX6_perform6 g sh q1 t) (sX6_perform7 g sh q2 t) (sX6_perform8 g sh q3 t) (sX4_read t) (sX7_perform u) := by
  have hT := h.thd
  have kp := reads_Kp (thr u)
  have rt := read_txt t
  have eL : tL (sX4_read t) = tL t := by unfold tL; rw [rt.2]
  have W : J so g gS sh q0 q1 q2 q3 (sX4_read t) (sX7_reads (thr u)) := by
    obtain ⟨a, b, c, d, e, f, x, y, z, w⟩ := hT
    refine ⟨by rw [kp.1 1 (by decide) (by decide)]; exact a, b, c, (kp.2 6 (by decide) (by decide) (by decide)).trans d, by rw [kp.1 4 (by decide) (by decide)]; exact e, f.of (kp.2 4 (by decide) (by decide) (by decide)) (kp.1 3 (by decide) (by decide)), ⟨TLen.of rt.2 x.1, by rw [kp.2 8 (by decide) (by decide) (by decide), rt.2]; exact x.2.1, by rw [eL, rt.1, kp.1 5 (by decide) (by decide)]; exact x.2.2⟩, (read_TC y).2, (kp.2 9 (by decide) (by decide) (by decide)).trans z, (kp.2 10 (by decide) (by decide) (by decide)).trans w⟩
  unfold rX6_perform rX7_perform sX6_perform sX6_perform2 sX6_perform4 sX6_perform5 sX6_perform6 sX6_perform7 sX6_perform8 sX7_perform
  rcases read_sim hT.2.2.2.2.2.2.1 with ⟨r1, r2, rC, rI⟩ | ⟨r1, r2, r3⟩
  · have e4 : sX4_read t 0 4 = nI (mK (sX7_reads (thr u))) := rC.1.trans rI.2.2.1
    have k30 := rI.k
    have eN : mpN u = tK (sX4_read t) := by
      unfold mpN tK
      rw [e4]; exact (nI_clamp (by omega)).symm
    have asd := aside_2 (sX7_reads (thr u))
    have C := all_cmds rC rI.2.2.1 k30 (tK (sX4_read t)) 0 g (mp0 u) (by unfold mp0; rw [asd.1 1 (by decide)]; exact W.1) (by unfold mp0; exact asd.1 6 (by decide)) (by rw [← eN, Nat.zero_add]; rfl)
    have mc := fun {a : Nat} (ha : a ≠ 1) => mpS_c (tK (sX4_read t)) 0 (mp0 u) ha
    have m0 : ∀ a, a ≠ 2 → mp0 u a = sX7_reads (thr u) a := fun a ha => by unfold mp0; exact asd.1 a ha
    have m2 : ∀ k, k < 56 → mp0 u 2 k = sX7_reads (thr u) 1 k := fun k hk => by unfold mp0; exact asd.2 k hk
    rw [if_pos r1, if_pos r1, if_pos r1, if_pos r1, if_pos r1, if_pos r1, if_pos r1, if_pos r1, if_pos r2, if_pos r2, eN]
    rcases C with ⟨g0, p0, R⟩ | ⟨g0, p0, pk⟩
    · have g0' : gP g t = 0 := g0
      rw [if_pos g0', if_pos g0', if_pos g0', if_pos g0', if_pos g0', if_pos g0', if_pos g0', if_pos g0', if_pos p0, if_pos p0]
      have good : Good (sX4_read t 0 4) := by
        refine good_rg (p := 0) (q := 60) ?_ (by decide)
        rw [e4, Rg, nI_toInt (by omega)]; omega
      obtain ⟨e1, e2, e3, e5, e6⟩ := recd_good (sh := sh) (q0 := q0) (q1 := q1) (q2 := q2) (q3 := q3) (g := sX3_become g) good
      rw [e1, e2, e3, e5, e6]
      have R' : RA (gPS g t) (mpS (tK (sX4_read t)) 0 (mp0 u) 1) := R
      generalize mpS (tK (sX4_read t)) 0 (mp0 u) = S at mc R' ⊢
      have s1 := swap_f S
      have W1 : J so g gS sh q0 q1 q2 q3 (sX4_read t) (sX7_swapsAside S) := by
        refine W.of (W.1.cg (fun k hk => ?_)) (fun j _ => ?_) ?_ ?_ ?_
        · rw [s1.1 k hk, mc (by decide), m2 k hk]
        · rw [s1.2.2 0 (by decide) (by decide), mc (by decide), m0 0 (by decide)]
        · rw [s1.2.2 3 (by decide) (by decide), mc (by decide), m0 3 (by decide)]
        · rw [s1.2.2 4 (by decide) (by decide), mc (by decide), m0 4 (by decide)]
        · rw [s1.2.2 5 (by decide) (by decide), mc (by decide), m0 5 (by decide)]
      have W2 := W1.recd
      have rc := rec_c (sX7_swapsAside S)
      have s2 := swap_f (sX7_records (sX7_swapsAside S))
      refine ⟨?_, W2.of (R'.cg (fun k hk => ?_)) (fun j _ => ?_) ?_ ?_ ?_⟩
      · unfold rX6_recorded
        rw [s2.2.2 0 (by decide) (by decide), rc.2 14 (by decide), s1.2.2 0 (by decide) (by decide), mc (by decide), m0 0 (by decide)]
        exact rC.1
      · rw [s2.1 k hk, rc.1 2 (by decide) (by decide), s1.2.1 k hk]
      · rw [s2.2.2 0 (by decide) (by decide)]
      · rw [s2.2.2 3 (by decide) (by decide)]
      · rw [s2.2.2 4 (by decide) (by decide)]
      · rw [s2.2.2 5 (by decide) (by decide)]
    · have g0' : ¬ gP g t = 0 := g0
      have p1 : ¬ mpR (tK (sX4_read t)) 0 (mp0 u) = 0 := by rw [p0]; exact g0
      have pR : mpR (tK (sX4_read t)) 0 (mp0 u) = gP g t := p0
      have pK : mpK (tK (sX4_read t)) 0 (mp0 u) = gPK g t := pk
      rw [if_neg g0', if_neg g0', if_neg g0', if_neg g0', if_neg g0', if_neg g0', if_neg g0', if_neg g0', if_neg p1, if_neg p1, pR, pK]
      generalize mpS (tK (sX4_read t)) 0 (mp0 u) = S at mc ⊢
      have bk1 := back_1 S
      have o : ∀ a, a ≠ 0 → a ≠ 1 → a ≠ 2 → up2 (up2 (sX7_takeBack S) 0 9 (nI (gPK g t))) 0 10 (gP g t) a = sX7_reads (thr u) a := fun a h0 h1 h2 => by
        rw [up2_ne h0, up2_ne h0, bk1.1 a h1, mc h1, m0 a h2]
      have o0 : ∀ j, j ≠ 9 → j ≠ 10 → up2 (up2 (sX7_takeBack S) 0 9 (nI (gPK g t))) 0 10 (gP g t) 0 j = sX7_reads (thr u) 0 j := fun j h9 h10 => by
        rw [up2_k h10, up2_k h9, bk1.1 0 (by decide), mc (by decide), m0 0 (by decide)]
      obtain ⟨a, b, c, d, e, f, x, y, z, w⟩ := W
      have so5 : up2 (up2 so 0 7 (nI (gPK g t))) 0 8 (gP g t) 0 5 = so 0 5 := (up2_k (by decide)).trans (up2_k (by decide))
      refine ⟨rfl, ?_, b, by rw [so5]; exact c, by rw [so5, o0 6 (by decide) (by decide)]; exact d, by rw [so5, o 4 (by decide) (by decide) (by decide)]; exact e, f.of (o0 4 (by decide) (by decide)) (o 3 (by decide) (by decide) (by decide)), x.of (o0 8 (by decide) (by decide)) (o 5 (by decide) (by decide) (by decide)), y, ?_, ?_⟩
      · show RA g _
        refine a.cg (fun k hk => ?_)
        rw [up2_d (by decide), up2_d (by decide), bk1.2 k hk, mc (by decide), m2 k hk]
      · rw [up2_k (by decide), up2_s, up2_k (by decide), up2_s]
      · rw [up2_s, up2_s]
  · rw [if_neg r1, if_neg r1, if_neg r1, if_neg r1, if_neg r1, if_neg r1, if_neg r1, if_neg r1, if_neg r2, if_neg r2, r3]
    exact ⟨rfl, W⟩
/-- the beginning -/
theorem J_begin : J sysI legI legI zeroI legI legI legI legI zeroI modI := by
  have m1 : ∀ j, 3 < j → modI 1 j = 0 := fun j hj => (pk_un (by omega)).trans ((pk_un (by omega)).trans ((pk_un (by omega)).trans (pk_un (by omega))))
  have R0 : Rg (0 : Int32) 0 0 := ⟨by decide, by decide⟩
  have hLG : LG legI := ⟨⟨0, by decide, rfl⟩, ⟨Or.inl rfl, Or.inl rfl⟩, ⟨by decide, by decide⟩, ⟨by decide, by decide⟩, ⟨by decide, by decide⟩, ⟨by decide, by decide⟩, ⟨by decide, by decide⟩, fun i hi => R0.mono (by decide), ⟨0, by decide, rfl⟩⟩
  have hRA : RA legI (modI 1) := by
    refine ⟨⟨hLG, ⟨m1 5 (by decide), m1 6 (by decide), m1 7 (by decide), m1 8 (by decide), m1 9 (by decide), m1 10 (by decide), fun i hi => m1 _ (by omega)⟩, fun i hi => ?_, m1 11 (by decide), m1 12 (by decide), m1 13 (by decide), m1 14 (by decide), m1 15 (by decide), Or.inl ⟨m1 16 (by decide), rfl⟩, fun i hi => m1 _ (by omega), fun i hi => m1 _ (by omega), m1 36 (by decide), fun i hi => m1 _ (by omega), fun i hi => m1 _ (by omega)⟩, ⟨by rw [m1 17 (by decide)]; rfl, fun i hi => m1 _ (by omega)⟩, ⟨by decide, by decide⟩, ⟨by decide, by decide⟩⟩
    rcases (show i = 0 ∨ i = 1 ∨ i = 2 ∨ i = 3 ∨ i = 4 by omega) with e | e | e | e | e <;> subst e <;> decide
  refine ⟨hRA, hLG.2.1, Or.inl rfl, rfl, fun q => absurd rfl q, ⟨⟨rfl, by decide, rfl, by decide⟩, rfl, fun i hi => ?_, fun j hj => absurd hj (Nat.not_lt_zero j)⟩, ⟨⟨0, by decide, rfl⟩, rfl, fun i hi => absurd hi (Nat.not_lt_zero i)⟩, fun i hi => rfl, rfl, rfl⟩
  rcases (show i = 0 ∨ i = 1 ∨ i = 2 ∨ i = 3 by omega) with e | e | e | e <;> subst e <;> exact hLG.2.1
