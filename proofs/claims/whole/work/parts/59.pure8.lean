/-! ===== many ticks; what is given out; the look ahead ===== -/
theorem iterT_sim {P : Prop} {g u : Nat → Nat → Int32} (h : RR g (u 1)) (hT : P → RT 0 g (u 1)) (n : Nat) : RR (iterN (fun _ => sX3_tick) n g) (iterN (fun _ => sX7_tick) n u 1) ∧ (P → RT 0 (iterN (fun _ => sX3_tick) n g) (iterN (fun _ => sX7_tick) n u 1)) := by
  induction n with
  | zero => exact ⟨h, hT⟩
  | succ n ih =>
    rw [iterN_succ, iterN_succ]
    exact tick_sim ih.1 ih.2
/-- the watch leaves the numbers, the belt and the grain, and of the leg's own all but the trip's -/
theorem tripBy_c (g : Nat → Nat → Int32) (x : Int32) {a : Nat} (h : a ≠ 0 ∧ a ≠ 5 ∧ a ≠ 6 ∧ a ≠ 7 ∧ a ≠ 8) : sX3_tripBy g x a = g a := by
  unfold sX3_tripBy
  rw [note_c _ _ _ _ h.2.1 h.2.2.1 h.2.2.2.1 h.2.2.2.2, up2_ne h.1, up2_ne h.1, up2_ne h.1]
theorem watch1_c (g : Nat → Nat → Int32) (i : Nat) {a : Nat} (h : 0 < a ∧ a < 5) : jX3_watch_74 g i a = g a := by
  unfold jX3_watch_74
  generalize (if (rX3_seenBy g (nI i)) < (tToo i) then 0 else (g 9 i) + 1) = z
  split
  · exact up2_ne (by omega)
  split
  · exact up2_ne (by omega)
  · rw [tripBy_c _ _ (by omega), up2_ne (by omega), up2_ne (by omega)]
theorem watch1_12 (g : Nat → Nat → Int32) (i : Nat) : jX3_watch_74 g i 0 12 = g 0 12 := by
  unfold jX3_watch_74
  generalize (if (rX3_seenBy g (nI i)) < (tToo i) then 0 else (g 9 i) + 1) = z
  split
  · exact up2_d (by decide)
  split
  · exact up2_d (by decide)
  · unfold sX3_tripBy
    rw [note_c _ _ _ _ (by decide) (by decide) (by decide) (by decide)]
    exact (up2_k (by decide)).trans ((up2_k (by decide)).trans ((up2_k (by decide)).trans ((up2_d (by decide)).trans (up2_d (by decide)))))
theorem watchA_c (g : Nat → Nat → Int32) {a : Nat} (h : 0 < a ∧ a < 5) : sX3_watch g a = g a := iter_at (F := fun i h => jX3_watch_74 h i) a (fun k x => watch1_c x k h) 3 g
theorem watchA_12 (g : Nat → Nat → Int32) : sX3_watch g 0 12 = g 0 12 := iter_at2 (F := fun i h => jX3_watch_74 h i) 0 12 (fun k x => watch1_12 x k) 3 g
theorem feedA_c (g : Nat → Nat → Int32) {a : Nat} (h : a ≠ 4) : jX3_tick_30 g a = g a := by
  unfold jX3_tick_30
  split
  · rfl
  · exact feed_c _ _ h
theorem tickA_c (g : Nat → Nat → Int32) {a : Nat} (h0 : a ≠ 0) (h4 : a ≠ 4) : tickA g a = g a := by
  unfold tickA
  rw [up2_ne h0, up2_ne h0, feedA_c _ h4, up2_ne h0]
theorem tick_1 (g : Nat → Nat → Int32) : sX3_tick g 1 = g 1 := by
  unfold sX3_tick
  rw [watchA_c _ (by decide)]
  unfold sX3_rub
  rw [up2_ne (by decide), iter_at 1 (fun _ h => mc_c h (by decide) (by decide) (by decide)), tickA_c _ (by decide) (by decide)]
theorem tick_12 (g : Nat → Nat → Int32) : sX3_tick g 0 12 = g 0 12 + 1 := by
  unfold sX3_tick
  rw [watchA_12]
  unfold sX3_rub
  rw [up2_k (by decide), iter_0]
  unfold tickA
  rw [up2_k (by decide), up2_k (by decide), feedA_c _ (by decide), up2_s]
theorem ticks_12 (g : Nat → Nat → Int32) (n : Nat) : iterN (fun _ => sX3_tick) n g 0 12 = g 0 12 + nI n := by
  induction n with
  | zero => exact (Int32.add_zero _).symm
  | succ n ih => rw [iterN_succ, tick_12, ih, Int32.add_assoc, nI_1]
theorem ticks_1 (g : Nat → Nat → Int32) (n : Nat) : iterN (fun _ => sX3_tick) n g 1 = g 1 := iter_at 1 (fun _ h => tick_1 h) n g
/-- the drive's range; what is given out in a step -/
def LD (g : Nat → Nat → Int32) : Prop := Rg (g 1 0) 0 6
def OD (n : Int) (g h : Nat → Nat → Int32) : Prop := ∃ d : Int32, Rg d 0 n ∧ h 4 1 = g 4 1 + d
theorem OD.rf (g : Nat → Nat → Int32) : OD 0 g g := ⟨0, ⟨by decide, by decide⟩, (Int32.add_zero _).symm⟩
theorem OD.eq {g h : Nat → Nat → Int32} (e : h 4 1 = g 4 1) : OD 0 g h := ⟨0, ⟨by decide, by decide⟩, e.trans (Int32.add_zero _).symm⟩
theorem OD.tr {m n : Int} {g h k : Nat → Nat → Int32} (a : OD m g h) (b : OD n h k) (hm : 0 ≤ m ∧ 0 ≤ n ∧ m + n ≤ 1000000) : OD (m + n) g k := by
  obtain ⟨d, a1, a2⟩ := a
  obtain ⟨f, b1, b2⟩ := b
  have r := a1.add b1 (by omega)
  exact ⟨d + f, r.mono (by omega), by rw [b2, a2, Int32.add_assoc]⟩
theorem half_le {b : Int32} (h : Rg b 0 20) (x : Int32) : Rg (b - (if x < 2 then b / 2 else 0)) 0 20 := by
  obtain ⟨h1, h2⟩ := h
  by_cases c : x < 2
  · rw [if_pos c]
    have e := thalf (a := b) h1
    have e2 := tsub (a := b) (b := b / 2) (by omega) (by omega)
    rw [Rg, e2, e]; omega
  · rw [if_neg c, Int32.sub_zero]; exact ⟨h1, h2⟩
theorem move_OD {g : Nat → Nat → Int32} (h : LG g) : OD 20 g (sX3_moveOneCell g) := by
  refine ⟨bk g 5 - moveF g, ?_, ?_⟩
  · rw [moveF_eq]; exact half_le (h.2.2.2.2.2.2.2.1 5 (by decide)) _
  · rw [(mc4 g).2 1 (by decide), (mB4 g).2.1]
theorem moves_OD {g u : Nat → Nat → Int32} (h : RR g (u 1)) (n : Nat) (hn : n ≤ 6) : OD (20 * n) g (iterN (fun _ => sX3_moveOneCell) n g) := by
  induction n with
  | zero => exact OD.rf g
  | succ n ih =>
    rw [iterN_succ]
    have r := (iterM_sim (P := False) (d := 0) h (fun f => f.elim) n).1
    have t := (ih (by omega)).tr (move_OD r.1) (by omega)
    have e : (20 * (n : Int) + 20) = 20 * ((n + 1 : Nat) : Int) := by omega
    rw [← e]; exact t
theorem slip_rg {h v : Nat → Nat → Int32} (H : RR h (v 1)) : Rg (slipNow h) 0 100 := by
  have hl := (load_sim H.1 H.2.1).2
  unfold slipNow rX3_slipOf
  split
  · exact ⟨by decide, by decide⟩
  · have b := H.1.2.2.1
    obtain ⟨a1, a2⟩ := hl
    obtain ⟨b1, b2⟩ := b
    have e := tsub (a := rX3_load h) (b := h 1 1) (by omega) (by omega)
    rw [slip_eq (d := rX3_load h - h 1 1) (by rw [Rg, e]; omega)]
    generalize rX3_load h - h 1 1 = d at e
    split
    · next c =>
      split
      · next c2 =>
        rw [ilt, t0] at c
        rw [ile, t50] at c2
        have e2 := tdbl (a := d) (by omega) (by omega)
        rw [Rg, e2]; omega
      · exact ⟨by decide, by decide⟩
    · exact ⟨by decide, by decide⟩
theorem cells_rg {h v : Nat → Nat → Int32} (H : RR h (v 1)) (hd : LD h) : Rg (cellsNow h) 0 6 := by
  unfold cellsNow
  split
  · exact ⟨by decide, by decide⟩
  · have s := slip_rg H
    obtain ⟨s1, s2⟩ := s
    obtain ⟨d1, d2⟩ := hd
    generalize slipNow h = y at s1 s2
    generalize h 1 0 = d at d1 d2
    have e1 := tsub (a := 100) (b := y) (by rw [t100]; omega) (by rw [t100]; omega)
    rw [t100] at e1
    have hm : (d * (100 - y)).toInt = d.toInt * (100 - y.toInt) := by
      rw [Int32.toInt_mul, e1]
      have q : 0 ≤ d.toInt * (100 - y.toInt) := Int.mul_nonneg d1 (by omega)
      have q2 : d.toInt * (100 - y.toInt) ≤ 6 * 100 := Int.mul_le_mul d2 (by omega) (by omega) (by omega)
      exact Int.bmod_eq_of_le (by omega) (by omega)
    have q : 0 ≤ d.toInt * (100 - y.toInt) := Int.mul_nonneg d1 (by omega)
    have q2 : d.toInt * (100 - y.toInt) ≤ 6 * 100 := Int.mul_le_mul d2 (by omega) (by omega) (by omega)
    have e3 : (d * (100 - y) / 100).toInt = d.toInt * (100 - y.toInt) / 100 := by
      rw [Int32.toInt_div_of_ne_right _ _ (by decide), hm, t100, Int.tdiv_eq_ediv_of_nonneg q]
    rw [Rg, e3]; omega
theorem feed_41 (g : Nat → Nat → Int32) : jX3_tick_30 g 4 1 = g 4 1 := by
  unfold jX3_tick_30
  split
  · rfl
  · unfold sX1_feedIn sX1_pourIntoBoot
    rw [up2_k (by decide), up2_k (by decide), up2_k (by decide)]
theorem tick_OD {g u : Nat → Nat → Int32} (h : RR g (u 1)) (hd : LD g) : OD 120 g (sX3_tick g) := by
  have a := tickA_sim (P := False) h (fun f => f.elim)
  have f := feed_sim (P := False) h (fun f => f.elim)
  have hc : Rg (tickA g 0 9) 0 6 := by
    unfold tickA
    rw [up2_s]
    refine cells_rg f.1 ?_
    unfold LD
    rw [feedA_c _ (by decide), up2_ne (by decide)]
    exact hd
  have hn : (tickA g 0 9).toNatClampNeg ≤ 6 := by
    obtain ⟨c1, c2⟩ := hc
    have : (tickA g 0 9).toNatClampNeg = (tickA g 0 9).toInt.toNat := rfl
    omega
  have m := moves_OD a.1 _ hn
  have e1 : OD 0 g (tickA g) := OD.eq (by
    unfold tickA
    rw [up2_ne (by decide), up2_ne (by decide), feed_41, up2_ne (by decide)])
  have e2 : OD 0 (iterN (fun _ => sX3_moveOneCell) ((tickA g 0 9).toNatClampNeg) (tickA g)) (sX3_tick g) := OD.eq (by
    unfold sX3_tick
    rw [watchA_c _ (by decide)]
    unfold sX3_rub
    rw [up2_ne (by decide)])
  have t := (e1.tr m (by omega)).tr e2 (by omega)
  obtain ⟨d, r, e⟩ := t
  exact ⟨d, r.mono (by omega), e⟩
theorem ticks_OD {g u : Nat → Nat → Int32} (h : RR g (u 1)) (hd : LD g) (n : Nat) (hn : n ≤ 300) : OD (120 * n) g (iterN (fun _ => sX3_tick) n g) := by
  induction n with
  | zero => exact OD.rf g
  | succ n ih =>
    rw [iterN_succ]
    have r := (iterT_sim (P := False) h (fun f => f.elim) n).1
    have hd2 : LD (iterN (fun _ => sX3_tick) n g) := by unfold LD; rw [ticks_1]; exact hd
    have t := (ih (by omega)).tr (tick_OD r hd2) (by omega)
    have e : (120 * (n : Int) + 120) = 120 * ((n + 1 : Nat) : Int) := by omega
    rw [← e]; exact t
/-- the ticks until the trip -/
theorem mu_stop {u : Nat → Nat → Int32} (h : ¬ u 1 14 = 1) (n : Nat) : muG n u = u ∧ muC n u = 0 := by
  cases n with
  | zero => exact ⟨rfl, rfl⟩
  | succ n => rw [muG, muC, if_neg h, if_neg h]; exact ⟨rfl, rfl⟩
theorem until_sim (n : Nat) : ∀ (i : Nat) (g u : Nat → Nat → Int32), RR g (u 1) → g 0 6 = 1 → tuR n (i + 1) g = if (muG n u) 1 14 = 1 then (-105) else nI (i + muC n u) := by
  induction n with
  | zero =>
    intro i g u h hr
    rw [tuR, muG, if_pos (h.2.2.2.2.2.2.1.trans hr)]
  | succ n ih =>
    intro i g u h hr
    have e14 : u 1 14 = 1 := h.2.2.2.2.2.2.1.trans hr
    have t := (tick_sim (P := False) h (fun f => f.elim)).1
    have t14 := t.2.2.2.2.2.2.1
    rw [tuR, muG, muC, if_pos e14, if_pos e14]
    by_cases c : sX3_tick g 0 6 = 0
    · rw [if_pos c]
      have s := mu_stop (u := sX7_tick u) (by rw [t14, c]; decide) n
      rw [s.1, s.2, t14, c, if_neg (by decide)]
    · rw [if_neg c]
      rw [ih (i + 1) _ _ t (t.1.2.1.1.resolve_left c)]
      have e : i + 1 + muC n (sX7_tick u) = i + (muC n (sX7_tick u) + 1) := by omega
      rw [e]
