/-! ===== the calls that only tell ===== -/
theorem J.s {so g gS sh q0 q1 q2 q3 t u : Nat → Nat → Int32} (h : J so g gS sh q0 q1 q2 q3 t u) : RA g (thr u 1) := h.thd.1
theorem op_bucket {so g gS sh q0 q1 q2 q3 t u : Nat → Nat → Int32} (h : J so g gS sh q0 q1 q2 q3 t u) (x : Int32) : rX6_bucket g x = rX7_bucket u x ∧ J so g gS sh q0 q1 q2 q3 t (sX7_bucket u) := by
  refine ⟨?_, h.thd⟩
  unfold rX6_bucket rX0_at rX7_bucket
  have ei : rX7_in x 0 11 = rX6_isWithin x 0 11 := rfl
  rw [ei]
  by_cases c : rX6_isWithin x 0 11 = 0
  · rw [if_pos c, if_pos c]
  · rw [if_neg c, if_neg c]
    have hx := iw_c (n := 11) rfl (by decide) c
    exact (h.s.1.2.1.2.2.2.2.2.2 _ (by omega)).symm
theorem op_sensor {so g gS sh q0 q1 q2 q3 t u : Nat → Nat → Int32} (h : J so g gS sh q0 q1 q2 q3 t u) (x y : Int32) : rX6_sensor g x y = rX7_sensor u x y ∧ J so g gS sh q0 q1 q2 q3 t (sX7_sensor u) := by
  refine ⟨?_, h.thd⟩
  have hs := h.s.1
  unfold rX6_sensor rX7_sensor rX3_seenBy
  have ei : rX7_in x 0 2 = rX6_isWithin x 0 2 := rfl
  rw [ei]
  by_cases c : rX6_isWithin x 0 2 = 0
  · rw [if_pos c, if_pos c]
  · rw [if_neg c, if_neg c]
    have hx := iw_c (n := 2) rfl (by decide) c
    have w := waits_eq (i := x.toNatClampNeg) (by omega)
    rw [← hx.1] at w
    rw [hs.2.2.2.1, hs.2.1.1, hs.2.2.2.2.2.1, hs.2.2.2.2.2.2.2.2.2.1 _ (by omega), hs.2.2.2.2.2.2.2.2.2.2.1 _ (by omega), w]
theorem op_trip {so g gS sh q0 q1 q2 q3 t u : Nat → Nat → Int32} (h : J so g gS sh q0 q1 q2 q3 t u) (x y : Int32) : rX6_trip g x y = rX7_trip u x y ∧ J so g gS sh q0 q1 q2 q3 t (sX7_trip u) := by
  refine ⟨?_, h.thd⟩
  have hs := h.s
  obtain ⟨n, hn, en⟩ := hs.1.1.2.2.2.2.2.2.2.2
  obtain ⟨-, -, -, -, -, -, -, -, -, c10, hT7, hT8⟩ := hs.1.2.2
  have e36 : thr u 1 36 = nI n := c10.trans en
  have hT6 := hs.2.1.2
  unfold rX6_trip rX7_trip rX5_tickOf rX5_sensorOf rX5_loadOf rX5_told6 rX5_told7 rX5_told8
  rw [en, e36]
  by_cases c : 0 ≤ x
  · have c' : ¬ x < 0 := by rw [ilt]; rw [ile] at c; omega
    rw [if_pos c, if_neg c']
    have hx : x = nI x.toNatClampNeg := by
      have e : x.toNatClampNeg = x.toInt.toNat := rfl
      rw [ile, t0] at c
      refine ieq ?_
      have := x.toInt_lt
      rw [nI_toInt (by omega)]
      omega
    have e1 : (nI n - 1).toInt = (n : Int) - 1 := by rw [tsub (by rw [nI_toInt (by omega), t1]; omega) (by rw [nI_toInt (by omega), t1]; omega), nI_toInt (by omega), t1]
    have ec : rX6_isWithin x 0 (nI n - 1) = 0 ↔ nI n ≤ x := by
      rw [ile, t0] at c
      constructor
      · intro q
        rw [ile, nI_toInt (by omega)]
        by_cases d : x.toInt ≤ (n : Int) - 1
        · exact absurd q (iw_iff.mpr (by rw [t0, e1]; omega))
        · omega
      · intro q
        rw [ile, nI_toInt (by omega)] at q
        by_cases d : rX6_isWithin x 0 (nI n - 1) = 0
        · exact d
        · have := iw_iff.mp d
          rw [t0, e1] at this
          omega
    by_cases c2 : nI n ≤ x
    · have c3 := ec.mpr c2
      rw [if_pos c2]
      simp only [c3, reduceIte]
      by_cases y0 : y = 0
      · subst y0; simp only [reduceIte]; rw [if_neg (by decide)]
      by_cases y1 : y = 1
      · subst y1; simp only [y0, reduceIte]; rw [if_neg (by decide)]
      by_cases y2 : y = 2
      · subst y2; simp only [y0, y1, reduceIte]; rw [if_neg (by decide)]
      simp only [y0, y1, y2, reduceIte]
      have ci : rX7_in y 0 2 = 0 := by
        by_cases d : rX7_in y 0 2 = 0
        · exact d
        · have q := in_iff.mp d
          rw [t0, t2] at q
          exfalso
          rcases (show y.toInt = 0 ∨ y.toInt = 1 ∨ y.toInt = 2 by omega) with e | e | e
          · exact y0 (ieq (by rw [e, t0]))
          · exact y1 (ieq (by rw [e, t1]))
          · exact y2 (ieq (by rw [e, t2]))
      rw [if_pos ci]
    · have c3 : ¬ rX6_isWithin x 0 (nI n - 1) = 0 := fun q => c2 (ec.mp q)
      rw [if_neg c2]
      simp only [c3, reduceIte]
      have hk : x.toNatClampNeg < 6 := by
        rw [hx, ile, nI_toInt (by omega)] at c2
        have e : x.toNatClampNeg = x.toInt.toNat := rfl
        have := x.toInt_lt
        rw [nI_toInt (by omega)] at c2
        omega
      by_cases y0 : y = 0
      · subst y0; simp only [reduceIte]; rw [if_neg (by decide)]
        exact (hT6 _ hk).symm
      by_cases y1 : y = 1
      · subst y1; simp only [y0, reduceIte]; rw [if_neg (by decide)]
        refine (hT7 _ hk).symm.trans (congrArg (thr u 1) ?_)
        show _ = 37 + 3 * x.toNatClampNeg + 1
        omega
      by_cases y2 : y = 2
      · subst y2; simp only [y0, y1, reduceIte]; rw [if_neg (by decide)]
        refine (hT8 _ hk).symm.trans (congrArg (thr u 1) ?_)
        show _ = 37 + 3 * x.toNatClampNeg + 2
        omega
      simp only [y0, y1, y2, reduceIte]
      have ci : rX7_in y 0 2 = 0 := by
        by_cases d : rX7_in y 0 2 = 0
        · exact d
        · have q := in_iff.mp d
          rw [t0, t2] at q
          exfalso
          rcases (show y.toInt = 0 ∨ y.toInt = 1 ∨ y.toInt = 2 by omega) with e | e | e
          · exact y0 (ieq (by rw [e, t0]))
          · exact y1 (ieq (by rw [e, t1]))
          · exact y2 (ieq (by rw [e, t2]))
      rw [if_pos ci]
  · have c' : x < 0 := by rw [ilt]; rw [ile] at c; omega
    rw [if_neg c, if_pos c']
/-- a look ahead leaves the model as it was -/
theorem aside_2 (v : Nat → Nat → Int32) : (∀ a, a ≠ 2 → sX7_putAside v a = v a) ∧ ∀ k, k < 56 → sX7_putAside v 2 k = v 1 k := by
  unfold sX7_putAside
  exact ⟨fun a h => cp0_c (c := 2) (d := 1) 56 v h, fun k hk => cp0_in (c := 2) (d := 1) (by decide) 56 v hk⟩
theorem back_1 (m : Nat → Nat → Int32) : (∀ a, a ≠ 1 → sX7_takeBack m a = m a) ∧ ∀ k, k < 56 → sX7_takeBack m 1 k = m 2 k := by
  unfold sX7_takeBack
  exact ⟨fun a h => cp0_c (c := 1) (d := 2) 56 m h, fun k hk => cp0_in (c := 1) (d := 2) (by decide) 56 m hk⟩
theorem look_back {v m : Nat → Nat → Int32} (hm : ∀ a, a ≠ 1 → m a = sX7_putAside v a) : SE (v 1) (sX7_takeBack m 1) ∧ ∀ a, a ≠ 1 → a ≠ 2 → sX7_takeBack m a = v a := by
  have b := back_1 m
  have s := aside_2 v
  refine ⟨fun k hk => ?_, fun a h1 h2 => ?_⟩
  · rw [b.2 k hk, hm 2 (by decide), s.2 k hk]
  · rw [b.1 a h1, hm a h1, s.1 a h2]
theorem muG_c (n : Nat) : ∀ (u : Nat → Nat → Int32) {a : Nat}, a ≠ 1 → muG n u a = u a := by
  induction n with
  | zero => exact fun u a h => rfl
  | succ n ih =>
    intro u a h
    rw [muG]
    split
    · rw [ih _ h, mtick_c _ h]
    · rfl
theorem J.look {so g gS sh q0 q1 q2 q3 t u m : Nat → Nat → Int32} (h : J so g gS sh q0 q1 q2 q3 t u) (hm : ∀ a, a ≠ 1 → m a = sX7_putAside (thr u) a) : J so g gS sh q0 q1 q2 q3 t (sX7_takeBack m) := by
  have l := look_back hm
  exact h.thd.of (h.s.cg l.1) (fun j _ => congrFun (l.2 0 (by decide) (by decide)) j) (l.2 3 (by decide) (by decide)) (l.2 4 (by decide) (by decide)) (l.2 5 (by decide) (by decide))
theorem until_eq {g w : Nat → Nat → Int32} (h : RR g (w 1)) (hr : g 0 6 = 1) (x : Int32) : tuR x.toNatClampNeg 1 g = rX7_untilTrip w x := by
  have e := until_sim x.toNatClampNeg 0 g w h hr
  rw [Nat.zero_add, Nat.zero_add] at e
  exact e
theorem op_tripsIn {so g gS sh q0 q1 q2 q3 t u : Nat → Nat → Int32} (h : J so g gS sh q0 q1 q2 q3 t u) : rX6_tripsIn g = rX7_tripsIn u ∧ J so g gS sh q0 q1 q2 q3 t (sX7_tripsIn u) := by
  have e14 : thr u 1 14 = g 0 6 := h.s.1.2.2.2.2.2.2.1
  unfold rX6_tripsIn rX7_tripsIn sX7_tripsIn sX3_become
  rw [e14]
  by_cases c : g 0 6 = 0
  · rw [if_pos c, if_pos c, if_pos c]; exact ⟨rfl, h.thd⟩
  · rw [if_neg c, if_neg c, if_neg c]
    have hr : g 0 6 = 1 := h.s.1.1.2.1.1.resolve_left c
    refine ⟨until_eq (by rw [(aside_2 (thr u)).1 1 (by decide)]; exact h.s.1) hr 300, h.look (fun a ha => ?_)⟩
    unfold sX7_untilTrip
    exact muG_c _ _ ha
theorem RR.t12 {g : Nat → Nat → Int32} {s : Nat → Int32} (h : RR g s) (z : Int32) : RR (up2 g 0 12 z) s := by
  have e0 : ∀ k, k ≠ 12 → up2 g 0 12 z 0 k = g 0 k := fun k hk => up2_k hk
  have en : ∀ {a : Nat}, a ≠ 0 → up2 g 0 12 z a = g a := fun ha => up2_ne ha
  obtain ⟨⟨hok, hz, g1, g2, g3, g4, gb, gk, gs⟩, hB, hC⟩ := h
  refine ⟨⟨hok.of (en (by decide)), ?_, ?_, ?_, ?_, ?_, ?_, ?_, ?_⟩, ?_, ?_⟩
  · unfold LZ; rw [e0 6 (by decide), e0 7 (by decide)]; exact hz
  · rw [en (by decide)]; exact g1
  · rw [en (by decide)]; exact g2
  · rw [en (by decide)]; exact g3
  · rw [en (by decide)]; exact g4
  · rw [en (by decide)]; exact gb
  · intro i hi; rw [bk_of (g := g) (en (by decide)) (en (by decide))]; exact gk i hi
  · unfold SizeOK; rw [en (by decide)]; exact gs
  · unfold RB; rw [en (by decide)]
    exact ⟨hB.1, hB.2.1, hB.2.2.1, hB.2.2.2.1, hB.2.2.2.2.1, hB.2.2.2.2.2.1, fun i hi => by rw [bk_of (g := g) (en (by decide)) (en (by decide))]; exact hB.2.2.2.2.2.2 i hi⟩
  · unfold RC
    rw [e0 8 (by decide), e0 9 (by decide), e0 10 (by decide), e0 6 (by decide), e0 7 (by decide), e0 11 (by decide), en (by decide), en (by decide), en (by decide), en (by decide), en (by decide), en (by decide)]
    exact hC
theorem t200 : (200 : Int32).toInt = 200 := by decide
theorem op_ifTension {so g gS sh q0 q1 q2 q3 t u : Nat → Nat → Int32} (h : J so g gS sh q0 q1 q2 q3 t u) (x y : Int32) : rX6_ifTension g x y = rX7_ifTension u x y ∧ J so g gS sh q0 q1 q2 q3 t (sX7_ifTension u x y) := by
  unfold rX6_ifTension rX7_ifTension sX7_ifTension rX3_passTicks sX3_become
  have ei : rX7_in x 0 200 = rX6_isWithin x 0 200 := rfl
  have ej : rX7_in y 1 200 = rX6_isWithin y 1 200 := rfl
  rw [ei, ej]
  by_cases c : rX6_isWithin x 0 200 = 0
  · rw [if_pos c, if_pos c, if_pos c]; exact ⟨rfl, h.thd⟩
  rw [if_neg c, if_neg c, if_neg c]
  by_cases c2 : rX6_isWithin y 1 200 = 0
  · rw [if_pos c2, if_pos c2, if_pos c2]; exact ⟨rfl, h.thd⟩
  rw [if_neg c2, if_neg c2, if_neg c2, if_neg c2]
  have rx := iw_iff.mp c
  rw [t0, t200] at rx
  have ry := iw_iff.mp c2
  rw [t1, t200] at ry
  have e99 : (99999 : Int32).toInt = 99999 := by decide
  have c3 : up2 (up2 g 1 1 x) 0 12 0 0 12 + y ≤ 99999 := by rw [up2_s, Int32.zero_add, ile, e99]; omega
  rw [if_pos c3]
  have r1 : RR g (sX7_putAside (thr u) 1) := by rw [(aside_2 (thr u)).1 1 (by decide)]; exact h.s.1
  have r2 : RR (up2 g 1 1 x) (up2 (sX7_putAside (thr u)) 1 1 x 1) := r1.set (by decide) ⟨fun _ => rx, fun e => absurd e (by decide), fun e => absurd e (by decide), fun e => absurd e (by decide)⟩
  have r3 := r2.t12 0
  have T := (iterT_sim (P := False) r3 (fun f => f.elim) y.toNatClampNeg).1
  refine ⟨?_, h.look (fun a ha => ?_)⟩
  · unfold rX7_ticks
    rw [T.2.1.2.1, r3.2.1.2.1]
  · rw [mticks_c _ _ ha, up2_ne ha]
theorem ml_done (x : Int32) (n i : Nat) (h : Nat → Nat → Int32) {z : Int32} (hz : ¬ z = -105) : mlR x n i h z = z ∧ mlS x n i h z = h := by
  cases n with
  | zero => exact ⟨rfl, rfl⟩
  | succ n => rw [mlR, mlS, if_neg hz, if_neg hz]; exact ⟨rfl, rfl⟩
theorem ml_sim {g v : Nat → Nat → Int32} (hg : RR g (v 1)) (hr : g 0 6 = 1) (x : Int32) : ∀ (n i : Nat) (h : Nat → Nat → Int32), SE (v 1) (h 1) → (∀ k, k < 56 → h 2 k = v 1 k) → i + n = 201 →
    mlR x n i h (-105) = glR g x n i ∧ SE (v 1) (mlS x n i h (-105) 1) ∧ ∀ a, a ≠ 1 → mlS x n i h (-105) a = h a := by
  intro n
  induction n with
  | zero => exact fun i h h1 h2 hn => ⟨rfl, h1, fun a _ => rfl⟩
  | succ n ih =>
    intro i h h1 h2 hn
    rw [mlR, mlS, glR, if_pos rfl, if_pos rfl]
    have r1 : RR (up2 g 1 1 (nI i)) (up2 h 1 1 (nI i) 1) := (hg.cg h1).set (by decide) ⟨fun _ => by rw [Rg, nI_toInt (by omega)]; omega, fun e => absurd e (by decide), fun e => absurd e (by decide), fun e => absurd e (by decide)⟩
    have r6 : up2 g 1 1 (nI i) 0 6 = 1 := (up2_d (by decide)).trans hr
    have U := until_eq r1 r6 x
    have b := back_1 (sX7_untilTrip (up2 h 1 1 (nI i)) x)
    have uc : ∀ a, a ≠ 1 → sX7_untilTrip (up2 h 1 1 (nI i)) x a = h a := fun a ha => by unfold sX7_untilTrip; rw [muG_c _ _ ha, up2_ne ha]
    have k1 : SE (v 1) (sX7_takeBack (sX7_untilTrip (up2 h 1 1 (nI i)) x) 1) := fun k hk => by rw [b.2 k hk, uc 2 (by decide), h2 k hk]
    have k2 : ∀ k, k < 56 → sX7_takeBack (sX7_untilTrip (up2 h 1 1 (nI i)) x) 2 k = v 1 k := fun k hk => by rw [b.1 2 (by decide), uc 2 (by decide), h2 k hk]
    have k3 : ∀ a, a ≠ 1 → sX7_takeBack (sX7_untilTrip (up2 h 1 1 (nI i)) x) a = h a := fun a ha => by rw [b.1 a ha, uc a ha]
    show mlR x n (i + 1) (sX7_takeBack (sX7_untilTrip (up2 h 1 1 (nI i)) x)) (if rX7_untilTrip (up2 h 1 1 (nI i)) x = (-105) then nI i else (-105)) = (if tuR x.toNatClampNeg 1 (up2 g 1 1 (nI i)) = (-105) then nI i else glR g x n (i + 1)) ∧ _
    rw [U]
    by_cases c : rX7_untilTrip (up2 h 1 1 (nI i)) x = (-105)
    · rw [if_pos c, if_pos c]
      have ni : ¬ nI i = -105 := fun q => by
        have := congrArg Int32.toInt q
        rw [nI_toInt (by omega), show (-105 : Int32).toInt = -105 by decide] at this
        omega
      have d := ml_done x n (i + 1) (sX7_takeBack (sX7_untilTrip (up2 h 1 1 (nI i)) x)) ni
      rw [d.1, d.2]
      exact ⟨rfl, k1, k3⟩
    · rw [if_neg c, if_neg c]
      have I := ih (i + 1) _ k1 k2 (by omega)
      exact ⟨I.1, I.2.1, fun a ha => (I.2.2 a ha).trans (k3 a ha)⟩
theorem op_least {so g gS sh q0 q1 q2 q3 t u : Nat → Nat → Int32} (h : J so g gS sh q0 q1 q2 q3 t u) (x : Int32) : rX6_leastTension g x = rX7_leastTension u x ∧ J so g gS sh q0 q1 q2 q3 t (sX7_leastTension u x) := by
  have e14 : thr u 1 14 = g 0 6 := h.s.1.2.2.2.2.2.2.1
  unfold rX6_leastTension rX7_leastTension sX7_leastTension
  have ei : rX7_in x 1 100 = rX6_isWithin x 1 100 := rfl
  rw [ei, e14]
  by_cases c : rX6_isWithin x 1 100 = 0
  · rw [if_pos c, if_pos c, if_pos c]; exact ⟨rfl, h.thd⟩
  rw [if_neg c, if_neg c, if_neg c]
  by_cases c2 : g 0 6 = 0
  · rw [if_pos c2, if_pos c2, if_pos c2]; exact ⟨rfl, h.thd⟩
  rw [if_neg c2, if_neg c2, if_neg c2]
  have hr : g 0 6 = 1 := h.s.1.1.2.1.1.resolve_left c2
  have a := aside_2 (thr u)
  have M := ml_sim h.s.1 hr x 201 0 (sX7_putAside (thr u)) (fun k _ => by rw [a.1 1 (by decide)]) a.2 rfl
  refine ⟨M.1.symm, h.thd.of (h.s.cg M.2.1) (fun j _ => ?_) ?_ ?_ ?_⟩
  · rw [M.2.2 0 (by decide), a.1 0 (by decide)]
  · rw [M.2.2 3 (by decide), a.1 3 (by decide)]
  · rw [M.2.2 4 (by decide), a.1 4 (by decide)]
  · rw [M.2.2 5 (by decide), a.1 5 (by decide)]
