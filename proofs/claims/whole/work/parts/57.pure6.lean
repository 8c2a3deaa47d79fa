theorem size_up {g : Nat → Nat → Int32} (h : SizeOK g) : imin 6 (g 5 3 + 1) = g 5 3 + (if 6 ≤ g 5 3 then 0 else 1) ∧ ∃ n : Nat, n ≤ 6 ∧ imin 6 (g 5 3 + 1) = nI n := by
  obtain ⟨n, hn, e⟩ := h
  rw [e]
  have key : ∀ n : Nat, n < 7 → imin 6 (nI n + 1) = nI n + (if 6 ≤ nI n then 0 else 1) ∧ imin 6 (nI n + 1) = nI (if n = 6 then 6 else n + 1) := by decide +kernel
  have k := key n (by omega)
  exact ⟨k.1, _, by split <;> omega, k.2⟩
/-- the trip by a sensor: the class adds to the sensor's trips first -/
theorem trip_sim {P : Prop} {h v : Nat → Nat → Int32} {i : Nat} (hi : i < 3) (H : RR h (v 1)) (hT : P → RT 1 h (v 1)) : RR (sX3_tripBy (up2 h 10 i (h 10 i + 1)) (nI i)) (sX7_trips v (nI i) 1) ∧ (P → RT 1 (sX3_tripBy (up2 h 10 i (h 10 i + 1)) (nI i)) (sX7_trips v (nI i) 1)) := by
  have hc : (nI i).toNatClampNeg = i := nI_clamp (by omega)
  have hk : (nI i).toNatClampNeg ≤ 2 := by omega
  have ld := load_sim H.1 H.2.1
  obtain ⟨⟨hok, hz, g1, g2, g3, g4, gb, gk, gs⟩, ⟨b5, b6, b7, b8, b9, b10, bb⟩, hC⟩ := H
  obtain ⟨c1, c2, c3, c4, c5, c6, c7, c8, c9, c10, c11, c12⟩ := hC
  unfold sX3_tripBy
  have eL : rX3_load (up2 (up2 (up2 (up2 h 10 i (h 10 i + 1)) 0 6 0) 0 7 0) 0 11 (nI i)) = rX3_load h := rfl
  have e12 : up2 h 10 i (h 10 i + 1) 0 12 = h 0 12 := up2_d (by decide)
  rw [eL, e12]
  have en : ∀ {a : Nat}, a ≠ 0 → a ≠ 10 → a ≠ 5 → a ≠ 6 → a ≠ 7 → a ≠ 8 → sX5_note (up2 (up2 (up2 (up2 h 10 i (h 10 i + 1)) 0 6 0) 0 7 0) 0 11 (nI i)) (h 0 12) (nI i) (rX3_load h) a = h a := fun q0 q10 q5 q6 q7 q8 => by
    rw [note_c _ _ _ _ q5 q6 q7 q8, up2_ne q0, up2_ne q0, up2_ne q0, up2_ne q10]
  have e0 : ∀ {k : Nat}, sX5_note (up2 (up2 (up2 (up2 h 10 i (h 10 i + 1)) 0 6 0) 0 7 0) 0 11 (nI i)) (h 0 12) (nI i) (rX3_load h) 0 k = if k = 11 then nI i else if k = 7 then 0 else if k = 6 then 0 else h 0 k := by
    intro k
    rw [note_c _ _ _ _ (by decide) (by decide) (by decide) (by decide), up2_c, up2_c, up2_c, up2_ne (by decide)]
  have e10 : ∀ {k : Nat}, sX5_note (up2 (up2 (up2 (up2 h 10 i (h 10 i + 1)) 0 6 0) 0 7 0) 0 11 (nI i)) (h 0 12) (nI i) (rX3_load h) 10 k = if k = i then h 10 i + 1 else h 10 k := by
    intro k
    rw [note_c _ _ _ _ (by decide) (by decide) (by decide) (by decide), up2_ne (by decide), up2_ne (by decide), up2_ne (by decide), up2_c]
  have o : ∀ {a : Nat}, a ≠ 0 → a ≠ 10 → ∀ j, (up2 (up2 (up2 (up2 h 10 i (h 10 i + 1)) 0 6 0) 0 7 0) 0 11 (nI i)) a j = h a j := fun q0 q10 j => by
    rw [up2_ne q0, up2_ne q0, up2_ne q0, up2_ne q10]
  have sz := size_up gs
  have n53 := note_5_3 (up2 (up2 (up2 (up2 h 10 i (h 10 i + 1)) 0 6 0) 0 7 0) 0 11 (nI i)) (h 0 12) (nI i) (rX3_load h)
  rw [o (by decide) (by decide)] at n53
  refine ⟨⟨⟨hok.of (en (by decide) (by decide) (by decide) (by decide) (by decide) (by decide)), ?_, ?_, ?_, ?_, ?_, ?_, ?_, ?_⟩, ⟨?_, ?_, ?_, ?_, ?_, ?_, ?_⟩, ⟨?_, ?_, ?_, ?_, ?_, ?_, ?_, ?_, ?_, ?_, ?_, ?_⟩⟩, fun P0 => ⟨?_, ?_⟩⟩
  · unfold LZ; rw [e0, e0]; exact ⟨Or.inl rfl, Or.inl rfl⟩
  · rw [en (by decide) (by decide) (by decide) (by decide) (by decide) (by decide)]; exact g1
  · rw [en (by decide) (by decide) (by decide) (by decide) (by decide) (by decide)]; exact g2
  · rw [en (by decide) (by decide) (by decide) (by decide) (by decide) (by decide)]; exact g3
  · rw [en (by decide) (by decide) (by decide) (by decide) (by decide) (by decide)]; exact g4
  · rw [en (by decide) (by decide) (by decide) (by decide) (by decide) (by decide)]; exact gb
  · intro k hk2; rw [bk_of (g := h) (en (by decide) (by decide) (by decide) (by decide) (by decide) (by decide)) (en (by decide) (by decide) (by decide) (by decide) (by decide) (by decide))]; exact gk k hk2
  · obtain ⟨n, q1, q2⟩ := sz.2; exact ⟨n, q1, n53.trans q2⟩
  · rw [tS_5 hk, en (by decide) (by decide) (by decide) (by decide) (by decide) (by decide)]; exact b5
  · rw [tS_6 hk, en (by decide) (by decide) (by decide) (by decide) (by decide) (by decide)]; exact b6
  · rw [tS_7 hk, en (by decide) (by decide) (by decide) (by decide) (by decide) (by decide)]; exact b7
  · rw [tS_8 hk, en (by decide) (by decide) (by decide) (by decide) (by decide) (by decide)]; exact b8
  · rw [tS_9 hk, en (by decide) (by decide) (by decide) (by decide) (by decide) (by decide)]; exact b9
  · rw [tS_10 hk, en (by decide) (by decide) (by decide) (by decide) (by decide) (by decide)]; exact b10
  · intro k hk2; rw [tS_lo hk (by omega) (by omega) (by omega) (by omega), bk_of (g := h) (en (by decide) (by decide) (by decide) (by decide) (by decide) (by decide)) (en (by decide) (by decide) (by decide) (by decide) (by decide) (by decide))]; exact bb k hk2
  · intro k hk2; rw [tS_lo hk (by omega) (by omega) (by omega) (by omega), en (by decide) (by decide) (by decide) (by decide) (by decide) (by decide)]; exact c1 k hk2
  · rw [tS_11 hk, e0]; exact c2
  · rw [tS_12 hk, e0]; exact c3
  · rw [tS_13 hk, e0]; exact c4
  · rw [tS_14 hk, e0]; rfl
  · rw [tS_15 hk, e0]; rfl
  · rw [tS_16 hk, e0, if_pos rfl]
    rcases (show i = 0 ∨ i = 1 ∨ i = 2 by omega) with r | r | r <;> subst r
    · exact Or.inr (Or.inl ⟨by decide, by decide⟩)
    · exact Or.inr (Or.inr (Or.inl ⟨by decide, by decide⟩))
    · exact Or.inr (Or.inr (Or.inr ⟨by decide, by decide⟩))
  · intro k hk2; rw [tS_lo hk (by omega) (by omega) (by omega) (by omega), en (by decide) (by decide) (by decide) (by decide) (by decide) (by decide)]; exact c8 k hk2
  · intro k hk2
    rw [tS_n hk2, hc, e10]
    by_cases c : k = i
    · rw [if_pos c, if_pos c, c9 k hk2, c]
    · rw [if_neg c, if_neg c]; exact c9 k hk2
  · rw [tS_36 hk, n53, sz.1, c10]
  · intro k hk2
    rcases (show k = 0 ∨ k = 1 ∨ k = 2 ∨ k = 3 ∨ k = 4 ∨ k = 5 by omega) with r | r | r | r | r | r <;> subst r
    · rw [note_7_0]; exact tS_38
    · rw [note_7_1, o (by decide) (by decide)]; exact (tS_41 hk).trans (c11 0 (by decide))
    · rw [note_7_2, o (by decide) (by decide)]; exact (tS_44 hk).trans (c11 1 (by decide))
    · rw [note_7_3, o (by decide) (by decide)]; exact (tS_47 hk).trans (c11 2 (by decide))
    · rw [note_7_4, o (by decide) (by decide)]; exact (tS_50 hk).trans (c11 3 (by decide))
    · rw [note_7_5, o (by decide) (by decide)]; exact (tS_53 hk).trans (c11 4 (by decide))
  · intro k hk2
    rcases (show k = 0 ∨ k = 1 ∨ k = 2 ∨ k = 3 ∨ k = 4 ∨ k = 5 by omega) with r | r | r | r | r | r <;> subst r
    · rw [note_8_0]; exact (tS_39 hk).trans ld.1
    · rw [note_8_1, o (by decide) (by decide)]; exact (tS_42 hk).trans (c12 0 (by decide))
    · rw [note_8_2, o (by decide) (by decide)]; exact (tS_45 hk).trans (c12 1 (by decide))
    · rw [note_8_3, o (by decide) (by decide)]; exact (tS_48 hk).trans (c12 2 (by decide))
    · rw [note_8_4, o (by decide) (by decide)]; exact (tS_51 hk).trans (c12 3 (by decide))
    · rw [note_8_5, o (by decide) (by decide)]; exact (tS_54 hk).trans (c12 4 (by decide))
  · rw [tS_17 hk, e0]; exact (hT P0).1
  · intro k hk2
    rcases (show k = 0 ∨ k = 1 ∨ k = 2 ∨ k = 3 ∨ k = 4 ∨ k = 5 by omega) with r | r | r | r | r | r <;> subst r
    · rw [note_6_0]; exact (tS_37 hk).trans (hT P0).1
    · rw [note_6_1, o (by decide) (by decide)]; exact (tS_40 hk).trans ((hT P0).2 0 (by decide))
    · rw [note_6_2, o (by decide) (by decide)]; exact (tS_43 hk).trans ((hT P0).2 1 (by decide))
    · rw [note_6_3, o (by decide) (by decide)]; exact (tS_46 hk).trans ((hT P0).2 2 (by decide))
    · rw [note_6_4, o (by decide) (by decide)]; exact (tS_49 hk).trans ((hT P0).2 3 (by decide))
    · rw [note_6_5, o (by decide) (by decide)]; exact (tS_52 hk).trans ((hT P0).2 4 (by decide))
