/-- the ticks and their log; d: how far the model's count is behind -/
def RT (d : Int32) (g : Nat → Nat → Int32) (s : Nat → Int32) : Prop := s 17 + d = g 0 12 ∧ ∀ i, i < 6 → s (37 + 3 * i) = g 6 i
theorem RT.of {d : Int32} {g g' : Nat → Nat → Int32} {s s' : Nat → Int32} (h : RT d g s) (e12 : g' 0 12 = g 0 12) (e6 : g' 6 = g 6) (e17 : s' 17 = s 17) (el : ∀ i, i < 6 → s' (37 + 3 * i) = s (37 + 3 * i)) : RT d g' s' :=
  ⟨by rw [e17, e12]; exact h.1, fun i hi => by rw [el i hi, e6]; exact h.2 i hi⟩
theorem add6 (X a b c d e f : Int32) : ((((((0 + a) + b) + c) + d) + e) + f) + X = (((((X + a) + b) + c) + d) + e) + f := by
  rw [Int32.zero_add, Int32.add_comm _ X, ← Int32.add_assoc, ← Int32.add_assoc, ← Int32.add_assoc, ← Int32.add_assoc, ← Int32.add_assoc]
theorem load_sim {g u : Nat → Nat → Int32} (hg : LG g) (hB : RB g (u 1)) : rX7_load u = rX3_load g ∧ Rg (rX3_load g) 0 220 := by
  obtain ⟨-, -, -, -, -, -, gb, gk, -⟩ := hg
  obtain ⟨b5, -, -, -, -, -, bb⟩ := hB
  have hh := boot_half gb
  have e1 : u 1 19 = bk g 1 := bb 1 (by decide)
  have e2 : u 1 20 = bk g 2 := bb 2 (by decide)
  have e3 : u 1 21 = bk g 3 := bb 3 (by decide)
  have e4 : u 1 22 = bk g 4 := bb 4 (by decide)
  have e5 : u 1 23 = bk g 5 := bb 5 (by decide)
  have e6 : u 1 24 = bk g 6 := bb 6 (by decide)
  have eL : rX3_load g = ((((((0 + bk g 1) + bk g 2) + bk g 3) + bk g 4) + bk g 5) + bk g 6) + imax 0 (g 4 0 - 100) / 2 := rfl
  rw [eL, rX7_load, e1, e2, e3, e4, e5, e6, b5, hh.1]
  refine ⟨(add6 _ _ _ _ _ _ _).symm, ?_⟩
  rw [← hh.1]
  have z : Rg (0 : Int32) 0 0 := ⟨by decide, by decide⟩
  have r := ((((((z.add (gk 1 (by decide)) (by decide)).add (gk 2 (by decide)) (by decide)).add (gk 3 (by decide)) (by decide)).add (gk 4 (by decide)) (by decide)).add (gk 5 (by decide)) (by decide)).add (gk 6 (by decide)) (by decide)).add hh.2 (by decide)
  exact r.mono (by decide)
theorem feed_sim {P : Prop} {g u : Nat → Nat → Int32} (h : RR g (u 1)) (hT : P → RT 0 g (u 1)) : RR (jX3_tick_30 (up2 g 0 12 (g 0 12 + 1))) (jX7_tick_37 u 1) ∧ (P → RT 1 (jX3_tick_30 (up2 g 0 12 (g 0 12 + 1))) (jX7_tick_37 u 1)) := by
  have e0 : ∀ k, k ≠ 12 → up2 g 0 12 (g 0 12 + 1) 0 k = g 0 k := fun k hk => up2_k hk
  have en : ∀ {a : Nat}, a ≠ 0 → up2 g 0 12 (g 0 12 + 1) a = g a := fun ha => up2_ne ha
  have hT1 : P → RT 1 (up2 g 0 12 (g 0 12 + 1)) (u 1) := fun p => ⟨by rw [up2_s, ← (hT p).1, Int32.add_zero], fun i hi => by rw [en (by decide)]; exact (hT p).2 i hi⟩
  have h0 : RR (up2 g 0 12 (g 0 12 + 1)) (u 1) := by
    obtain ⟨⟨hok, hz, g1, g2, g3, g4, gb, gk, gs⟩, hB, hC⟩ := h
    refine ⟨⟨hok.of (en (by decide)), ?_, ?_, ?_, ?_, ?_, ?_, ?_, ?_⟩, ?_, ?_⟩
    · unfold LZ; rw [e0 6 (by decide), e0 7 (by decide)]; exact hz
    · rw [en (by decide)]; exact g1
    · rw [en (by decide)]; exact g2
    · rw [en (by decide)]; exact g3
    · rw [en (by decide)]; exact g4
    · rw [en (by decide)]; exact gb
    · intro i hi; rw [bk_of (g := g) (en (by decide)) (en (by decide))]; exact gk i hi
    · unfold SizeOK; rw [en (by decide)]; exact gs
    · unfold RB; rw [en (by decide)]
      exact ⟨hB.1, hB.2.1, hB.2.2.1, hB.2.2.2.1, hB.2.2.2.2.1, hB.2.2.2.2.2.1, fun i hi => by rw [bk_of (g := g) (en (by decide)) (en (by decide))]; exact hB.2.2.2.2.2.2 i hi⟩
    · unfold RC
      rw [e0 8 (by decide), e0 9 (by decide), e0 10 (by decide), e0 6 (by decide), e0 7 (by decide), e0 11 (by decide), en (by decide), en (by decide), en (by decide), en (by decide), en (by decide), en (by decide)]
      exact hC
  generalize up2 g 0 12 (g 0 12 + 1) = k at h0 hT1
  obtain ⟨⟨hok, hz, g1, g2, g3, g4, gb, gk, gs⟩, hB, hC⟩ := h0
  have h15 : u 1 15 = k 0 7 := hC.2.2.2.2.2.1
  have h2 : u 1 2 = k 1 2 := hC.1 2 (by decide)
  unfold jX3_tick_30 jX7_tick_37
  rw [h15, h2]
  by_cases c : k 0 7 = 0
  · rw [if_pos c, if_neg (by rw [c]; decide)]
    exact ⟨⟨⟨hok, hz, g1, g2, g3, g4, gb, gk, gs⟩, hB, hC⟩, hT1⟩
  · have c1 : k 0 7 = 1 := hz.2.resolve_left c
    rw [if_neg c, if_pos c1]
    have fc : ∀ {a : Nat}, a ≠ 4 → sX1_feedIn k (k 1 2) a = k a := fun ha => feed_c k _ ha
    have s8 : ∀ {j : Nat}, j ≠ 8 → up2 u 1 8 (u 1 8 + k 1 2) 1 j = u 1 j := fun hj => up2_k hj
    have sc : ∀ {j : Nat}, j ≠ 5 → j ≠ 7 → j ≠ 8 → sX7_comes (up2 u 1 8 (u 1 8 + k 1 2)) (k 1 2) 1 j = u 1 j := fun h5 h7 h8 => (comes_s _ _ h5 h7).trans (s8 h8)
    have m := comes_min (k 1 2) (300 - k 4 0)
    have b5 := hB.1
    have f0 : sX1_feedIn k (k 1 2) 4 0 = k 4 0 + imin (k 1 2) (300 - k 4 0) := by
      unfold sX1_feedIn sX1_pourIntoBoot
      rw [up2_k (by decide), up2_s, up2_k (by decide)]
    have f2 : sX1_feedIn k (k 1 2) 4 2 = k 4 2 + (k 1 2 - imin (k 1 2) (300 - k 4 0)) := by
      unfold sX1_feedIn sX1_pourIntoBoot
      rw [up2_s, up2_k (by decide), up2_k (by decide)]
    have f3 : sX1_feedIn k (k 1 2) 4 3 = k 4 3 + k 1 2 := by
      unfold sX1_feedIn sX1_pourIntoBoot
      rw [up2_k (by decide), up2_k (by decide), up2_s]
    have fo : ∀ j, j ≠ 0 → j ≠ 2 → j ≠ 3 → sX1_feedIn k (k 1 2) 4 j = k 4 j := fun j a b c => by
      unfold sX1_feedIn sX1_pourIntoBoot
      rw [up2_k b, up2_k a, up2_k c]
    refine ⟨⟨⟨hok.of (fc (by decide)), ?_, ?_, ?_, ?_, ?_, ?_, ?_, ?_⟩, ⟨?_, ?_, ?_, ?_, ?_, ?_, ?_⟩, ?_⟩, ?_⟩
    · unfold LZ; rw [fc (by decide)]; exact hz
    · rw [fc (by decide)]; exact g1
    · rw [fc (by decide)]; exact g2
    · rw [fc (by decide)]; exact g3
    · rw [fc (by decide)]; exact g4
    · rw [f0]; exact pour_rg gb g2
    · intro i hi; rw [bk_of (g := k) (fc (by decide)) (fc (by decide))]; exact gk i hi
    · unfold SizeOK; rw [fc (by decide)]; exact gs
    · rw [com_5, s8 (by decide), b5, f0, m.1]
    · rw [sc (by decide) (by decide) (by decide), fo 1 (by decide) (by decide) (by decide)]; exact hB.2.1
    · rw [com_7, s8 (by decide), s8 (by decide), b5, f2, m.2, hB.2.2.1]
    · rw [comes_s _ _ (by decide) (by decide), up2_s, f3, hB.2.2.2.1]
    · rw [sc (by decide) (by decide) (by decide), fo 4 (by decide) (by decide) (by decide)]; exact hB.2.2.2.2.1
    · rw [sc (by decide) (by decide) (by decide), fo 5 (by decide) (by decide) (by decide)]; exact hB.2.2.2.2.2.1
    · intro i hi; rw [sc (by omega) (by omega) (by omega), bk_of (g := k) (fc (by decide)) (fc (by decide))]; exact hB.2.2.2.2.2.2 i hi
    · exact hC.of (fc (by decide)) (fc (by decide)) (fc (by decide)) (fc (by decide)) (fc (by decide)) (fc (by decide)) (fc (by decide)) (fun j hj => sc (by omega) (by omega) (by omega))
    · exact fun p => (hT1 p).of (congrFun (fc (by decide)) 12) (fc (by decide)) (sc (by decide) (by decide) (by decide)) (fun i hi => sc (by omega) (by omega) (by omega))
/-- a write of one of the leg's own numbers, and of the model's slot for it -/
theorem RR.num {g u : Nat → Nat → Int32} {k j : Nat} {z : Int32} (h : RR g (u 1)) (hkj : (k = 8 ∧ j = 11) ∨ (k = 9 ∧ j = 12) ∨ (k = 10 ∧ j = 13)) : RR (up2 g 0 k z) (up2 u 1 j z 1) := by
  obtain ⟨⟨hok, hz, g1, g2, g3, g4, gb, gk, gs⟩, hB, hC⟩ := h
  have en : ∀ {a : Nat}, a ≠ 0 → up2 g 0 k z a = g a := fun ha => up2_ne ha
  have e0 : ∀ i, i ≠ k → up2 g 0 k z 0 i = g 0 i := fun i hi => up2_k hi
  have s0 : ∀ {i : Nat}, i ≠ j → up2 u 1 j z 1 i = u 1 i := fun hi => up2_k hi
  refine ⟨⟨hok.of (en (by decide)), ?_, ?_, ?_, ?_, ?_, ?_, ?_, ?_⟩, ?_, ?_⟩
  · unfold LZ; rw [e0 6 (by omega), e0 7 (by omega)]; exact hz
  · rw [en (by decide)]; exact g1
  · rw [en (by decide)]; exact g2
  · rw [en (by decide)]; exact g3
  · rw [en (by decide)]; exact g4
  · rw [en (by decide)]; exact gb
  · intro i hi; rw [bk_of (g := g) (en (by decide)) (en (by decide))]; exact gk i hi
  · unfold SizeOK; rw [en (by decide)]; exact gs
  · unfold RB; rw [en (by decide), s0 (by omega), s0 (by omega), s0 (by omega), s0 (by omega), s0 (by omega), s0 (by omega)]
    exact ⟨hB.1, hB.2.1, hB.2.2.1, hB.2.2.2.1, hB.2.2.2.2.1, hB.2.2.2.2.2.1, fun i hi => by rw [s0 (by omega), bk_of (g := g) (en (by decide)) (en (by decide))]; exact hB.2.2.2.2.2.2 i hi⟩
  · obtain ⟨h1, h2, h3, h4, h5, h6, h7, h8, h9, h10, h11, h12⟩ := hC
    refine ⟨fun i hi => by rw [s0 (by omega), en (by decide)]; exact h1 i hi, ?_, ?_, ?_, ?_, ?_, ?_, fun i hi => by rw [s0 (by omega), en (by decide)]; exact h8 i hi, fun i hi => by rw [s0 (by omega), en (by decide)]; exact h9 i hi, by rw [s0 (by omega), en (by decide)]; exact h10, fun i hi => by rw [s0 (by omega), en (by decide)]; exact h11 i hi, fun i hi => by rw [s0 (by omega), en (by decide)]; exact h12 i hi⟩
    · rcases hkj with ⟨rfl, rfl⟩ | ⟨rfl, rfl⟩ | ⟨rfl, rfl⟩ <;> first | (rw [up2_s, up2_s]; done) | (rw [up2_k (by decide), up2_k (by decide)]; assumption)
    · rcases hkj with ⟨rfl, rfl⟩ | ⟨rfl, rfl⟩ | ⟨rfl, rfl⟩ <;> first | (rw [up2_s, up2_s]; done) | (rw [up2_k (by decide), up2_k (by decide)]; assumption)
    · rcases hkj with ⟨rfl, rfl⟩ | ⟨rfl, rfl⟩ | ⟨rfl, rfl⟩ <;> first | (rw [up2_s, up2_s]; done) | (rw [up2_k (by decide), up2_k (by decide)]; assumption)
    · rw [s0 (by omega), e0 _ (by omega)]; exact h5
    · rw [s0 (by omega), e0 _ (by omega)]; exact h6
    · rw [s0 (by omega), e0 _ (by omega)]; exact h7
theorem RT.num {d : Int32} {g u : Nat → Nat → Int32} {k j : Nat} {z z' : Int32} (h : RT d g (u 1)) (hk : k ≠ 12) (hj : j < 17) : RT d (up2 g 0 k z) (up2 u 1 j z' 1) :=
  h.of (up2_k (fun e => hk e.symm)) (up2_ne (by decide)) (up2_k (by omega)) (fun i hi => up2_k (by omega))
theorem slip_sim {h v : Nat → Nat → Int32} (H : RR h (v 1)) : mSlip v (rX7_load v - v 1 1) = slipNow h := by
  have hl := load_sim H.1 H.2.1
  have e14 : v 1 14 = h 0 6 := H.2.2.2.2.2.2.1
  have e1 : v 1 1 = h 1 1 := H.2.2.1 1 (by decide)
  unfold mSlip slipNow rX3_slipOf
  rw [hl.1, e14, e1]
  by_cases c : h 0 6 = 0
  · rw [if_pos c, if_pos c]
  · rw [if_neg c, if_neg c]
    have r : Rg (rX3_load h - h 1 1) (-1000) 1000 := by
      have a := hl.2
      have b := H.1.2.2.1
      obtain ⟨a1, a2⟩ := a
      obtain ⟨b1, b2⟩ := b
      have e := tsub (a := rX3_load h) (b := h 1 1) (by omega) (by omega)
      rw [Rg, e]; omega
    exact (slip_eq r).symm
theorem tickA_sim {P : Prop} {g u : Nat → Nat → Int32} (h : RR g (u 1)) (hT : P → RT 0 g (u 1)) : RR (tickA g) (mtickB u 1) ∧ (P → RT 1 (tickA g) (mtickB u 1)) ∧ mtickB u 1 12 = tickA g 0 9 := by
  have H := feed_sim h hT
  unfold tickA mtickB mtickA
  generalize jX3_tick_30 (up2 g 0 12 (g 0 12 + 1)) = k at H
  generalize jX7_tick_37 u = v at H
  rw [slip_sim H.1]
  have h1 := H.1.num (k := 8) (j := 11) (z := slipNow k) (Or.inl ⟨rfl, rfl⟩)
  have eC : mCells (up2 v 1 11 (slipNow k)) = cellsNow k := by
    unfold mCells cellsNow
    rw [up2_k (by decide), up2_k (by decide), up2_s, H.1.2.2.2.2.2.2.1, H.1.2.2.1 0 (by decide)]
  rw [eC]
  exact ⟨h1.num (Or.inr (Or.inl ⟨rfl, rfl⟩)), fun p => ((H.2 p).num (by decide) (by decide)).num (by decide) (by decide), by rw [up2_s, up2_s]⟩
theorem iterM_sim {P : Prop} {g u : Nat → Nat → Int32} {d : Int32} (h : RR g (u 1)) (hT : P → RT d g (u 1)) (n : Nat) : RR (iterN (fun _ => sX3_moveOneCell) n g) (iterN (fun _ => sX7_moves) n u 1) ∧ (P → RT d (iterN (fun _ => sX3_moveOneCell) n g) (iterN (fun _ => sX7_moves) n u 1)) := by
  induction n with
  | zero => exact ⟨h, hT⟩
  | succ n ih =>
    rw [iterN_succ, iterN_succ]
    have m := moves_sim ih.1
    exact ⟨m.1, fun p => (ih.2 p).of (congrFun (mc_c _ (by decide) (by decide) (by decide)) 12) (mc_c _ (by decide) (by decide) (by decide)) m.2 (fun i hi => mv_hi _ (by omega))⟩
theorem rub_sim {P : Prop} {g u : Nat → Nat → Int32} {d : Int32} (h : RR g (u 1)) (hT : P → RT d g (u 1)) : RR (sX3_rub g) (up2 u 1 13 (mWarm ((u 1 13 + u 1 12 * rX7_beyond u) - 2)) 1) ∧ (P → RT d (sX3_rub g) (up2 u 1 13 (mWarm ((u 1 13 + u 1 12 * rX7_beyond u) - 2)) 1)) := by
  have e : mWarm ((u 1 13 + u 1 12 * rX7_beyond u) - 2) = imax 0 (((g 0 10) + ((g 0 9) * (imax 0 ((iabs (g 1 4)) - 3)))) - 2) := by
    rw [warm_eq, steps_eq h.1.2.2.2.2.2.1, ← h.2.2.1 4 (by decide), ← h.2.2.2.2.1, ← h.2.2.2.2.2.1]
    rfl
  rw [e]
  unfold sX3_rub
  exact ⟨h.num (Or.inr (Or.inr ⟨rfl, rfl⟩)), fun p => (hT p).num (by decide) (by decide)⟩
