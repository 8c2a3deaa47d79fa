/-! ===== the pure layer: a leg of the class and the model's row of numbers ===== -/
/-- why it tripped, in both tongues -/
def RS (m c : Int32) : Prop := (m = 0 ∧ c = -105) ∨ (m = 1 ∧ c = 0) ∨ (m = 2 ∧ c = 1) ∨ (m = 3 ∧ c = 2)
/-- the ranges of a leg's numbers -/
def LG (g : Nat → Nat → Int32) : Prop := LegOK g ∧ LZ g ∧ Rg (g 1 1) 0 200 ∧ Rg (g 1 2) 0 40 ∧ Rg (g 1 3) 1 20 ∧ Rg (g 1 4) (-9) 9 ∧ Rg (g 4 0) 0 300 ∧ (∀ i, i < 12 → Rg (bk g i) 0 20) ∧ SizeOK g
/-- what a cell's move touches: the belt, the grain -/
def RB (g : Nat → Nat → Int32) (s : Nat → Int32) : Prop := s 5 = g 4 0 ∧ s 6 = g 4 1 ∧ s 7 = g 4 2 ∧ s 8 = g 4 3 ∧ s 9 = g 4 4 ∧ s 10 = g 4 5 ∧ ∀ i, i < 12 → s (18 + i) = bk g i
/-- the rest but the ticks -/
def RC (g : Nat → Nat → Int32) (s : Nat → Int32) : Prop := (∀ i, i < 5 → s i = g 1 i) ∧ s 11 = g 0 8 ∧ s 12 = g 0 9 ∧ s 13 = g 0 10 ∧ s 14 = g 0 6 ∧ s 15 = g 0 7 ∧ RS (s 16) (g 0 11) ∧ (∀ i, i < 3 → s (30 + i) = g 9 i) ∧ (∀ i, i < 3 → s (33 + i) = g 10 i) ∧ s 36 = g 5 3 ∧ (∀ i, i < 6 → s (38 + 3 * i) = g 7 i) ∧ ∀ i, i < 6 → s (39 + 3 * i) = g 8 i
def RR (g : Nat → Nat → Int32) (s : Nat → Int32) : Prop := LG g ∧ RB g s ∧ RC g s
theorem RC.of {g g' : Nat → Nat → Int32} {s s' : Nat → Int32} (h : RC g s) (e0 : g' 0 = g 0) (e1 : g' 1 = g 1) (e5 : g' 5 = g 5) (e7 : g' 7 = g 7) (e8 : g' 8 = g 8) (e9 : g' 9 = g 9) (e10 : g' 10 = g 10) (hs : ∀ j, (j < 5 ∨ (10 < j ∧ j < 18 ∧ j ≠ 17) ∨ 29 < j) → s' j = s j) : RC g' s' := by
  obtain ⟨h1, h2, h3, h4, h5, h6, h7, h8, h9, h10, h11, h12⟩ := h
  refine ⟨fun i hi => ?_, ?_, ?_, ?_, ?_, ?_, ?_, fun i hi => ?_, fun i hi => ?_, ?_, fun i hi => ?_, fun i hi => ?_⟩
  · rw [hs i (by omega), e1, h1 i hi]
  · rw [hs 11 (by omega), e0, h2]
  · rw [hs 12 (by omega), e0, h3]
  · rw [hs 13 (by omega), e0, h4]
  · rw [hs 14 (by omega), e0, h5]
  · rw [hs 15 (by omega), e0, h6]
  · rw [hs 16 (by omega), e0]; exact h7
  · rw [hs _ (by omega), e9, h8 i hi]
  · rw [hs _ (by omega), e10, h9 i hi]
  · rw [hs 36 (by omega), e5, h10]
  · rw [hs _ (by omega), e7, h11 i hi]
  · rw [hs _ (by omega), e8, h12 i hi]
theorem moves_sim {g u : Nat → Nat → Int32} (h : RR g (u 1)) : RR (sX3_moveOneCell g) (sX7_moves u 1) ∧ sX7_moves u 1 17 = u 1 17 := by
  obtain ⟨⟨hok, hz, g1, g2, g3, g4, gb, gk, gs⟩, ⟨b5, b6, b7, b8, b9, b10, bb⟩, hC⟩ := h
  have hn3 : u 1 3 = g 1 3 := hC.1 3 (by decide)
  have h12 : u 1 12 = g 0 9 := hC.2.2.1
  have e23 : u 1 23 = bk g 5 := bb 5 (by decide)
  have e29 : u 1 29 = bk g 11 := bb 11 (by decide)
  have eF : movesF u = moveF g := by rw [moveF_eq, movesF, h12, e23]
  have hF : Rg (moveF g) 0 40 := by rw [moveF_eq]; exact half_rg (gk 5 (by decide)) _
  have m4 := mB4 g
  have c4 := mc4 g
  have eB5 : movesB u 1 5 = moveB g 4 0 := by rw [mvB_5, m4.1, eF, b5, (comes_min (moveF g) (300 - g 4 0)).1]
  have rB5 : Rg (moveB g 4 0) 0 300 := by rw [m4.1]; exact pour_rg gb hF
  have tk := takes_eq rB5 g3 (gk 11 (by decide))
  have eT : mTake u = gTake g := by rw [gTake_eq, mTake, eB5, hn3, e29, tk.1]
  rw [← gTake_eq] at tk
  have ec : ∀ {a : Nat}, a ≠ 2 → a ≠ 3 → a ≠ 4 → sX3_moveOneCell g a = g a := fun a b c => mc_c g a b c
  refine ⟨⟨⟨LegOK.moved g, ?_, ?_, ?_, ?_, ?_, ?_, ?_, ?_⟩, ⟨?_, ?_, ?_, ?_, ?_, ?_, ?_⟩, ?_⟩, mv_17 u⟩
  · unfold LZ; rw [ec (by decide) (by decide) (by decide)]; exact hz
  · rw [ec (by decide) (by decide) (by decide)]; exact g1
  · rw [ec (by decide) (by decide) (by decide)]; exact g2
  · rw [ec (by decide) (by decide) (by decide)]; exact g3
  · rw [ec (by decide) (by decide) (by decide)]; exact g4
  · rw [c4.1]; exact tk.2.1
  · intro i hi
    rw [bk_M g hi]
    by_cases c0 : i = 0
    · rw [if_pos c0]; exact tk.2.2
    · rw [if_neg c0]
      by_cases c6 : i = 6
      · rw [if_pos c6]; exact ⟨by decide, by decide⟩
      · rw [if_neg c6]; exact gk (i - 1) (by omega)
  · unfold SizeOK; rw [ec (by decide) (by decide) (by decide)]; exact gs
  · rw [mv_5, c4.1, eB5, eT]
  · rw [mv_6, c4.2 1 (by decide), m4.2.1, b6, e23, eF]
  · rw [mv_7, c4.2 2 (by decide), m4.2.2.1, b7, b5, eF, (comes_min (moveF g) (300 - g 4 0)).2]
  · rw [mv_8, c4.2 3 (by decide), m4.2.2.2.1, b8]
  · rw [mv_9, c4.2 4 (by decide), m4.2.2.2.2.1, b9]
  · rw [mv_10, c4.2 5 (by decide), m4.2.2.2.2.2, b10, eF]
  · intro i hi
    rw [bk_M g hi]
    have key : ∀ k, k < 12 → u 1 (18 + k) = bk g k := bb
    rcases (show i = 0 ∨ i = 1 ∨ i = 2 ∨ i = 3 ∨ i = 4 ∨ i = 5 ∨ i = 6 ∨ i = 7 ∨ i = 8 ∨ i = 9 ∨ i = 10 ∨ i = 11 by omega) with r | r | r | r | r | r | r | r | r | r | r | r <;> subst r
    · rw [if_pos rfl]; exact (mv_18 u).trans (by rw [e29, eT])
    · exact (mv_19 u).trans (key 0 (by decide))
    · exact (mv_20 u).trans (key 1 (by decide))
    · exact (mv_21 u).trans (key 2 (by decide))
    · exact (mv_22 u).trans (key 3 (by decide))
    · exact (mv_23 u).trans (key 4 (by decide))
    · exact mv_24 u
    · exact (mv_25 u).trans (key 6 (by decide))
    · exact (mv_26 u).trans (key 7 (by decide))
    · exact (mv_27 u).trans (key 8 (by decide))
    · exact (mv_28 u).trans (key 9 (by decide))
    · exact (mv_29 u).trans (key 10 (by decide))
  · refine hC.of (ec (by decide) (by decide) (by decide)) (ec (by decide) (by decide) (by decide)) (ec (by decide) (by decide) (by decide)) (ec (by decide) (by decide) (by decide)) (ec (by decide) (by decide) (by decide)) (ec (by decide) (by decide) (by decide)) (ec (by decide) (by decide) (by decide)) (fun j hj => ?_)
    by_cases c : 29 < j
    · exact mv_hi u c
    · rcases (show j = 0 ∨ j = 1 ∨ j = 2 ∨ j = 3 ∨ j = 4 ∨ j = 11 ∨ j = 12 ∨ j = 13 ∨ j = 14 ∨ j = 15 ∨ j = 16 by omega) with r | r | r | r | r | r | r | r | r | r | r <;> subst r
      · exact mv_0 u
      · exact mv_1 u
      · exact mv_2 u
      · exact mv_3 u
      · exact mv_4 u
      · exact mv_11 u
      · exact mv_12 u
      · exact mv_13 u
      · exact mv_14 u
      · exact mv_15 u
      · exact mv_16 u
