/-! ===== the whole relation of a leg; its own numbers written ===== -/
def SE (s s' : Nat → Int32) : Prop := ∀ j, j < 56 → s' j = s j
theorem RR.cg {g : Nat → Nat → Int32} {s s' : Nat → Int32} (h : RR g s) (e : SE s s') : RR g s' := by
  obtain ⟨hg, ⟨b5, b6, b7, b8, b9, b10, bb⟩, c1, c2, c3, c4, c5, c6, c7, c8, c9, c10, c11, c12⟩ := h
  refine ⟨hg, ⟨?_, ?_, ?_, ?_, ?_, ?_, fun i hi => ?_⟩, ⟨fun i hi => ?_, ?_, ?_, ?_, ?_, ?_, ?_, fun i hi => ?_, fun i hi => ?_, ?_, fun i hi => ?_, fun i hi => ?_⟩⟩ <;> rw [e _ (by omega)]
  · exact b5
  · exact b6
  · exact b7
  · exact b8
  · exact b9
  · exact b10
  · exact bb i hi
  · exact c1 i hi
  · exact c2
  · exact c3
  · exact c4
  · exact c5
  · exact c6
  · exact c7
  · exact c8 i hi
  · exact c9 i hi
  · exact c10
  · exact c11 i hi
  · exact c12 i hi
theorem RT.cg {d : Int32} {g : Nat → Nat → Int32} {s s' : Nat → Int32} (h : RT d g s) (e : SE s s') : RT d g s' := ⟨by rw [e 17 (by decide)]; exact h.1, fun i hi => by rw [e _ (by omega)]; exact h.2 i hi⟩
/-- a leg of the class, and the model's row for it -/
def RA (g : Nat → Nat → Int32) (s : Nat → Int32) : Prop := RR g s ∧ RT 0 g s ∧ LD g ∧ Rg (g 0 12) 0 99999
theorem RA.cg {g : Nat → Nat → Int32} {s s' : Nat → Int32} (h : RA g s) (e : SE s s') : RA g s' := ⟨h.1.cg e, h.2.1.cg e, h.2.2.1, h.2.2.2⟩
/-- a flag or the reason is written on both sides -/
theorem RR.own {g u : Nat → Nat → Int32} {k j : Nat} {z z' : Int32} (h : RR g (u 1)) (hkj : (k = 6 ∧ j = 14 ∧ z' = z ∧ (z = 0 ∨ z = 1)) ∨ (k = 7 ∧ j = 15 ∧ z' = z ∧ (z = 0 ∨ z = 1)) ∨ (k = 11 ∧ j = 16 ∧ RS z' z)) : RR (up2 g 0 k z) (up2 u 1 j z' 1) := by
  obtain ⟨⟨hok, hz, g1, g2, g3, g4, gb, gk, gs⟩, hB, hC⟩ := h
  have en : ∀ {a : Nat}, a ≠ 0 → up2 g 0 k z a = g a := fun ha => up2_ne ha
  have e0 : ∀ i, i ≠ k → up2 g 0 k z 0 i = g 0 i := fun i hi => up2_k hi
  have s0 : ∀ {i : Nat}, i ≠ j → up2 u 1 j z' 1 i = u 1 i := fun hi => up2_k hi
  refine ⟨⟨hok.of (en (by decide)), ?_, ?_, ?_, ?_, ?_, ?_, ?_, ?_⟩, ?_, ?_⟩
  · rcases hkj with ⟨rfl, rfl, rfl, q⟩ | ⟨rfl, rfl, rfl, q⟩ | ⟨rfl, rfl, q⟩
    · exact ⟨by rw [up2_s]; exact q, by rw [e0 7 (by decide)]; exact hz.2⟩
    · exact ⟨by rw [e0 6 (by decide)]; exact hz.1, by rw [up2_s]; exact q⟩
    · exact ⟨by rw [e0 6 (by decide)]; exact hz.1, by rw [e0 7 (by decide)]; exact hz.2⟩
  · rw [en (by decide)]; exact g1
  · rw [en (by decide)]; exact g2
  · rw [en (by decide)]; exact g3
  · rw [en (by decide)]; exact g4
  · rw [en (by decide)]; exact gb
  · intro i hi; rw [bk_of (g := g) (en (by decide)) (en (by decide))]; exact gk i hi
  · unfold SizeOK; rw [en (by decide)]; exact gs
  · unfold RB; rw [en (by decide), s0 (by omega), s0 (by omega), s0 (by omega), s0 (by omega), s0 (by omega), s0 (by omega)]
    exact ⟨hB.1, hB.2.1, hB.2.2.1, hB.2.2.2.1, hB.2.2.2.2.1, hB.2.2.2.2.2.1, fun i hi => by rw [s0 (by omega), bk_of (g := g) (en (by decide)) (en (by decide))]; exact hB.2.2.2.2.2.2 i hi⟩
  · obtain ⟨h1, h2, h3, h4, h5, h6, h7, h8, h9, h10, h11, h12⟩ := hC
    refine ⟨fun i hi => by rw [s0 (by omega), en (by decide)]; exact h1 i hi, ?_, ?_, ?_, ?_, ?_, ?_, fun i hi => by rw [s0 (by omega), en (by decide)]; exact h8 i hi, fun i hi => by rw [s0 (by omega), en (by decide)]; exact h9 i hi, by rw [s0 (by omega), en (by decide)]; exact h10, fun i hi => by rw [s0 (by omega), en (by decide)]; exact h11 i hi, fun i hi => by rw [s0 (by omega), en (by decide)]; exact h12 i hi⟩
    · rw [s0 (by omega), e0 _ (by omega)]; exact h2
    · rw [s0 (by omega), e0 _ (by omega)]; exact h3
    · rw [s0 (by omega), e0 _ (by omega)]; exact h4
    · rcases hkj with ⟨rfl, rfl, rfl, q⟩ | ⟨rfl, rfl, rfl, q⟩ | ⟨rfl, rfl, q⟩ <;> first | (rw [up2_s, up2_s]; done) | (rw [up2_k (by decide), up2_k (by decide)]; assumption)
    · rcases hkj with ⟨rfl, rfl, rfl, q⟩ | ⟨rfl, rfl, rfl, q⟩ | ⟨rfl, rfl, q⟩ <;> first | (rw [up2_s, up2_s]; done) | (rw [up2_k (by decide), up2_k (by decide)]; assumption)
    · rcases hkj with ⟨rfl, rfl, rfl, q⟩ | ⟨rfl, rfl, rfl, q⟩ | ⟨rfl, rfl, q⟩ <;> first | (rw [up2_s, up2_s]; assumption) | (rw [up2_k (by decide), up2_k (by decide)]; assumption)
theorem RA.own {g u : Nat → Nat → Int32} {k j : Nat} {z z' : Int32} (h : RA g (u 1)) (hkj : (k = 6 ∧ j = 14 ∧ z' = z ∧ (z = 0 ∨ z = 1)) ∨ (k = 7 ∧ j = 15 ∧ z' = z ∧ (z = 0 ∨ z = 1)) ∨ (k = 11 ∧ j = 16 ∧ RS z' z)) : RA (up2 g 0 k z) (up2 u 1 j z' 1) := by
  refine ⟨h.1.own hkj, h.2.1.num (by omega) (by omega), ?_, ?_⟩
  · unfold LD; rw [up2_ne (by decide)]; exact h.2.2.1
  · rw [up2_k (by omega)]; exact h.2.2.2
/-- a number is set on both sides -/
theorem RR.set {g u : Nat → Nat → Int32} {k : Nat} {y : Int32} (h : RR g (u 1)) (hk : k < 5) (hy : (k = 1 → Rg y 0 200) ∧ (k = 2 → Rg y 0 40) ∧ (k = 3 → Rg y 1 20) ∧ (k = 4 → Rg y (-9) 9)) : RR (up2 g 1 k y) (up2 u 1 k y 1) := by
  obtain ⟨⟨hok, hz, g1, g2, g3, g4, gb, gk, gs⟩, hB, hC⟩ := h
  have en : ∀ {a : Nat}, a ≠ 1 → up2 g 1 k y a = g a := fun ha => up2_ne ha
  have s0 : ∀ {i : Nat}, 4 < i → up2 u 1 k y 1 i = u 1 i := fun hi => up2_k (by omega)
  refine ⟨⟨hok.of (en (by decide)), ?_, ?_, ?_, ?_, ?_, ?_, ?_, ?_⟩, ?_, ?_⟩
  · unfold LZ; rw [en (by decide)]; exact hz
  · rw [up2_c]; split
    · next c => exact hy.1 c.symm
    · exact g1
  · rw [up2_c]; split
    · next c => exact hy.2.1 c.symm
    · exact g2
  · rw [up2_c]; split
    · next c => exact hy.2.2.1 c.symm
    · exact g3
  · rw [up2_c]; split
    · next c => exact hy.2.2.2 c.symm
    · exact g4
  · rw [en (by decide)]; exact gb
  · intro i hi; rw [bk_of (g := g) (en (by decide)) (en (by decide))]; exact gk i hi
  · unfold SizeOK; rw [en (by decide)]; exact gs
  · unfold RB; rw [en (by decide), s0 (by omega), s0 (by omega), s0 (by omega), s0 (by omega), s0 (by omega), s0 (by omega)]
    exact ⟨hB.1, hB.2.1, hB.2.2.1, hB.2.2.2.1, hB.2.2.2.2.1, hB.2.2.2.2.2.1, fun i hi => by rw [s0 (by omega), bk_of (g := g) (en (by decide)) (en (by decide))]; exact hB.2.2.2.2.2.2 i hi⟩
  · obtain ⟨h1, h2, h3, h4, h5, h6, h7, h8, h9, h10, h11, h12⟩ := hC
    refine ⟨fun i hi => ?_, ?_, ?_, ?_, ?_, ?_, ?_, fun i hi => by rw [s0 (by omega), en (by decide)]; exact h8 i hi, fun i hi => by rw [s0 (by omega), en (by decide)]; exact h9 i hi, by rw [s0 (by omega), en (by decide)]; exact h10, fun i hi => by rw [s0 (by omega), en (by decide)]; exact h11 i hi, fun i hi => by rw [s0 (by omega), en (by decide)]; exact h12 i hi⟩
    · rw [up2_c, up2_c]; split
      · rfl
      · exact h1 i hi
    · rw [s0 (by omega), en (by decide)]; exact h2
    · rw [s0 (by omega), en (by decide)]; exact h3
    · rw [s0 (by omega), en (by decide)]; exact h4
    · rw [s0 (by omega), en (by decide)]; exact h5
    · rw [s0 (by omega), en (by decide)]; exact h6
    · rw [s0 (by omega), en (by decide)]; exact h7
theorem RA.set {g u : Nat → Nat → Int32} {k : Nat} {y : Int32} (h : RA g (u 1)) (hk : k < 5) (hy : (k = 0 → Rg y 0 6) ∧ (k = 1 → Rg y 0 200) ∧ (k = 2 → Rg y 0 40) ∧ (k = 3 → Rg y 1 20) ∧ (k = 4 → Rg y (-9) 9)) : RA (up2 g 1 k y) (up2 u 1 k y 1) := by
  refine ⟨h.1.set hk hy.2, ?_, ?_, ?_⟩
  · exact h.2.1.of (up2_d (by decide)) (up2_ne (by decide)) (up2_k (by omega)) (fun i hi => up2_k (by omega))
  · unfold LD; rw [up2_c]; split
    · next c => exact hy.1 c.symm
    · exact h.2.2.1
  · rw [up2_ne (by decide)]; exact h.2.2.2
/-- the sum of all buckets: the class adds its row, the model the places -/
theorem all_sim {g u : Nat → Nat → Int32} (hg : LG g) (hB : RB g (u 1)) : rX7_inBuckets u = rX0_onAll g ∧ Rg (rX0_onAll g) 0 240 := by
  obtain ⟨hok, -, -, -, -, -, -, gk, -⟩ := hg
  have bb := hB.2.2.2.2.2.2
  have hj := hok.eq.2
  have eU : rX7_inBuckets u = (((((((((((0 + bk g 0) + bk g 1) + bk g 2) + bk g 3) + bk g 4) + bk g 5) + bk g 6) + bk g 7) + bk g 8) + bk g 9) + bk g 10) + bk g 11 := by
    rw [← bb 0 (by decide), ← bb 1 (by decide), ← bb 2 (by decide), ← bb 3 (by decide), ← bb 4 (by decide), ← bb 5 (by decide), ← bb 6 (by decide), ← bb 7 (by decide), ← bb 8 (by decide), ← bb 9 (by decide), ← bb 10 (by decide), ← bb 11 (by decide)]
    rfl
  have z : Rg (0 : Int32) 0 0 := ⟨by decide, by decide⟩
  have r := (((((((((((z.add (gk 0 (by decide)) (by decide)).add (gk 1 (by decide)) (by decide)).add (gk 2 (by decide)) (by decide)).add (gk 3 (by decide)) (by decide)).add (gk 4 (by decide)) (by decide)).add (gk 5 (by decide)) (by decide)).add (gk 6 (by decide)) (by decide)).add (gk 7 (by decide)) (by decide)).add (gk 8 (by decide)) (by decide)).add (gk 9 (by decide)) (by decide)).add (gk 10 (by decide)) (by decide)).add (gk 11 (by decide)) (by decide)
  have eA : rX7_inBuckets u = rX0_onAll g := by
    rw [eU]
    unfold bk rX0_onAll
    generalize jB g = j at hj
    generalize g 3 = f
    rcases (show j = 0 ∨ j = 1 ∨ j = 2 ∨ j = 3 ∨ j = 4 ∨ j = 5 ∨ j = 6 ∨ j = 7 ∨ j = 8 ∨ j = 9 ∨ j = 10 ∨ j = 11 by omega) with e | e | e | e | e | e | e | e | e | e | e | e <;> subst e
    · show ((((((((((((0 + f 0) + f 1) + f 2) + f 3) + f 4) + f 5) + f 6) + f 7) + f 8) + f 9) + f 10) + f 11) = _
      ac_rfl
    · show ((((((((((((0 + f 1) + f 2) + f 3) + f 4) + f 5) + f 6) + f 7) + f 8) + f 9) + f 10) + f 11) + f 0) = _
      ac_rfl
    · show ((((((((((((0 + f 2) + f 3) + f 4) + f 5) + f 6) + f 7) + f 8) + f 9) + f 10) + f 11) + f 0) + f 1) = _
      ac_rfl
    · show ((((((((((((0 + f 3) + f 4) + f 5) + f 6) + f 7) + f 8) + f 9) + f 10) + f 11) + f 0) + f 1) + f 2) = _
      ac_rfl
    · show ((((((((((((0 + f 4) + f 5) + f 6) + f 7) + f 8) + f 9) + f 10) + f 11) + f 0) + f 1) + f 2) + f 3) = _
      ac_rfl
    · show ((((((((((((0 + f 5) + f 6) + f 7) + f 8) + f 9) + f 10) + f 11) + f 0) + f 1) + f 2) + f 3) + f 4) = _
      ac_rfl
    · show ((((((((((((0 + f 6) + f 7) + f 8) + f 9) + f 10) + f 11) + f 0) + f 1) + f 2) + f 3) + f 4) + f 5) = _
      ac_rfl
    · show ((((((((((((0 + f 7) + f 8) + f 9) + f 10) + f 11) + f 0) + f 1) + f 2) + f 3) + f 4) + f 5) + f 6) = _
      ac_rfl
    · show ((((((((((((0 + f 8) + f 9) + f 10) + f 11) + f 0) + f 1) + f 2) + f 3) + f 4) + f 5) + f 6) + f 7) = _
      ac_rfl
    · show ((((((((((((0 + f 9) + f 10) + f 11) + f 0) + f 1) + f 2) + f 3) + f 4) + f 5) + f 6) + f 7) + f 8) = _
      ac_rfl
    · show ((((((((((((0 + f 10) + f 11) + f 0) + f 1) + f 2) + f 3) + f 4) + f 5) + f 6) + f 7) + f 8) + f 9) = _
      ac_rfl
    · show ((((((((((((0 + f 11) + f 0) + f 1) + f 2) + f 3) + f 4) + f 5) + f 6) + f 7) + f 8) + f 9) + f 10) = _
      ac_rfl
  exact ⟨eA, by rw [← eA, eU]; exact r.mono (by decide)⟩
