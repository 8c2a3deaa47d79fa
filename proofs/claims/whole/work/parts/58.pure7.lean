theorem cnt_sim {h v : Nat → Nat → Int32} {i : Nat} (hi : i < 3) (H : RR h (v 1)) : (if (rX7_seesTooMuch v (nI i)) = 0 then 0 else (v 1 (30 + i)) + 1) = (if (rX3_seenBy h (nI i)) < (tToo i) then 0 else (h 9 i) + 1) := by
  obtain ⟨-, ⟨b5, -⟩, ⟨-, c2, -, c4, -, -, -, c8, -⟩⟩ := H
  rw [c8 i hi]
  have s20 : ∀ y : Int32, y ≤ 20 ↔ y < 21 := fun y => by rw [ile, ilt, t20, t21]; omega
  rcases (show i = 0 ∨ i = 1 ∨ i = 2 by omega) with r | r | r <;> subst r
  · have e1 : rX7_seesTooMuch v (nI 0) = (if (v 1 11) ≤ 20 then 0 else 1) := rfl
    have e2 : rX3_seenBy h (nI 0) = h 0 8 := rfl
    have e3 : tToo 0 = 21 := rfl
    rw [e1, e2, e3, c2]
    by_cases c : h 0 8 < 21
    · rw [if_pos c, if_pos ((s20 _).mpr c), if_pos rfl]
    · rw [if_neg c, if_neg (fun q => c ((s20 _).mp q)), if_neg (by decide)]
  · have e1 : rX7_seesTooMuch v (nI 1) = (if (v 1 5) < 250 then 0 else 1) := rfl
    have e2 : rX3_seenBy h (nI 1) = h 4 0 := rfl
    have e3 : tToo 1 = 250 := rfl
    rw [e1, e2, e3, b5]
    by_cases c : h 4 0 < 250
    · rw [if_pos c, if_pos c, if_pos rfl]
    · rw [if_neg c, if_neg c, if_neg (by decide)]
  · have e1 : rX7_seesTooMuch v (nI 2) = (if (v 1 13) < 100 then 0 else 1) := rfl
    have e2 : rX3_seenBy h (nI 2) = h 0 10 := rfl
    have e3 : tToo 2 = 100 := rfl
    rw [e1, e2, e3, c4]
    by_cases c : h 0 10 < 100
    · rw [if_pos c, if_pos c, if_pos rfl]
    · rw [if_neg c, if_neg c, if_neg (by decide)]
/-- a sensor's count -/
theorem RR.cnt {P : Prop} {h v : Nat → Nat → Int32} {i : Nat} {z : Int32} {d : Int32} (hi : i < 3) (H : RR h (v 1)) (hT : P → RT d h (v 1)) : RR (up2 h 9 i z) (up2 v 1 (30 + i) z 1) ∧ (P → RT d (up2 h 9 i z) (up2 v 1 (30 + i) z 1)) := by
  obtain ⟨⟨hok, hz, g1, g2, g3, g4, gb, gk, gs⟩, ⟨b5, b6, b7, b8, b9, b10, bb⟩, c1, c2, c3, c4, c5, c6, c7, c8, c9, c10, c11, c12⟩ := H
  have en : ∀ {a : Nat}, a ≠ 9 → up2 h 9 i z a = h a := fun ha => up2_ne ha
  have s0 : ∀ {j : Nat}, (j < 30 ∨ 32 < j) → up2 v 1 (30 + i) z 1 j = v 1 j := fun hj => up2_k (by omega)
  refine ⟨⟨⟨hok.of (en (by decide)), ?_, ?_, ?_, ?_, ?_, ?_, ?_, ?_⟩, ⟨?_, ?_, ?_, ?_, ?_, ?_, ?_⟩, ⟨?_, ?_, ?_, ?_, ?_, ?_, ?_, ?_, ?_, ?_, ?_, ?_⟩⟩, fun p => (hT p).of (congrFun (en (by decide)) 12) (en (by decide)) (s0 (by omega)) (fun k hk => s0 (by omega))⟩
  · unfold LZ; rw [en (by decide)]; exact hz
  · rw [en (by decide)]; exact g1
  · rw [en (by decide)]; exact g2
  · rw [en (by decide)]; exact g3
  · rw [en (by decide)]; exact g4
  · rw [en (by decide)]; exact gb
  · intro k hk; rw [bk_of (g := h) (en (by decide)) (en (by decide))]; exact gk k hk
  · unfold SizeOK; rw [en (by decide)]; exact gs
  · rw [s0 (by omega), en (by decide)]; exact b5
  · rw [s0 (by omega), en (by decide)]; exact b6
  · rw [s0 (by omega), en (by decide)]; exact b7
  · rw [s0 (by omega), en (by decide)]; exact b8
  · rw [s0 (by omega), en (by decide)]; exact b9
  · rw [s0 (by omega), en (by decide)]; exact b10
  · intro k hk; rw [s0 (by omega), bk_of (g := h) (en (by decide)) (en (by decide))]; exact bb k hk
  · intro k hk; rw [s0 (by omega), en (by decide)]; exact c1 k hk
  · rw [s0 (by omega), en (by decide)]; exact c2
  · rw [s0 (by omega), en (by decide)]; exact c3
  · rw [s0 (by omega), en (by decide)]; exact c4
  · rw [s0 (by omega), en (by decide)]; exact c5
  · rw [s0 (by omega), en (by decide)]; exact c6
  · rw [s0 (by omega), en (by decide)]; exact c7
  · intro k hk
    rw [up2_c, up2_c, c8 k hk]
    by_cases c : k = i
    · rw [if_pos (by omega), if_pos c]
    · rw [if_neg (by omega), if_neg c]
  · intro k hk; rw [s0 (by omega), en (by decide)]; exact c9 k hk
  · rw [s0 (by omega), en (by decide)]; exact c10
  · intro k hk; rw [s0 (by omega), en (by decide)]; exact c11 k hk
  · intro k hk; rw [s0 (by omega), en (by decide)]; exact c12 k hk
theorem waits_eq {i : Nat} (hi : i < 3) : tWaits i = 3 - nI i := by
  rcases (show i = 0 ∨ i = 1 ∨ i = 2 by omega) with r | r | r <;> subst r <;> decide
theorem watch1_sim {P : Prop} {h v : Nat → Nat → Int32} {i : Nat} (hi : i < 3) (H : RR h (v 1)) (hT : P → RT 1 h (v 1)) : RR (jX3_watch_74 h i) (jX7_watches_70 v i 1) ∧ (P → RT 1 (jX3_watch_74 h i) (jX7_watches_70 v i 1)) := by
  unfold jX3_watch_74 jX7_watches_70
  rw [cnt_sim hi H, ← waits_eq hi]
  generalize (if (rX3_seenBy h (nI i)) < (tToo i) then 0 else (h 9 i) + 1) = z
  have K := RR.cnt (z := z) hi H hT
  have e14 : up2 v 1 (30 + i) z 1 14 = h 0 6 := (up2_k (by omega)).trans H.2.2.2.2.2.2.1
  rw [e14]
  by_cases c : h 0 6 = 0
  · rw [if_pos c]
    by_cases c2 : z < tWaits i
    · rw [if_pos c2]; exact K
    · rw [if_neg c2, if_neg (by rw [c]; decide)]; exact K
  · rw [if_neg c]
    have c1 : h 0 6 = 1 := H.1.2.1.1.resolve_left c
    by_cases c2 : z < tWaits i
    · rw [if_pos c2, if_pos c2]; exact K
    · rw [if_neg c2, if_neg c2, if_pos c1]
      have t := trip_sim hi K.1 K.2
      have e : up2 h 9 i z 10 i = h 10 i := up2_d (by decide)
      rw [e] at t
      exact t
theorem watch_sim {P : Prop} {h v : Nat → Nat → Int32} (H : RR h (v 1)) (hT : P → RT 1 h (v 1)) : RR (sX3_watch h) (sX7_watches v 1) ∧ (P → RT 1 (sX3_watch h) (sX7_watches v 1)) := by
  unfold sX3_watch sX7_watches
  have key : ∀ n, n ≤ 3 → RR (iterN (fun i h => jX3_watch_74 h i) n h) (iterN (fun i h => jX7_watches_70 h i) n v 1) ∧ (P → RT 1 (iterN (fun i h => jX3_watch_74 h i) n h) (iterN (fun i h => jX7_watches_70 h i) n v 1)) := by
    intro n
    induction n with
    | zero => exact fun _ => ⟨H, hT⟩
    | succ n ih =>
      intro hn
      rw [iterN_succ, iterN_succ]
      have r := ih (by omega)
      exact watch1_sim (by omega) r.1 r.2
  exact key 3 (Nat.le_refl _)
theorem RR.tk {h v : Nat → Nat → Int32} {z : Int32} (H : RR h (v 1)) : RR h (up2 v 1 17 z 1) := by
  have s0 : ∀ {j : Nat}, j ≠ 17 → up2 v 1 17 z 1 j = v 1 j := fun hj => up2_k hj
  refine ⟨H.1, ⟨?_, ?_, ?_, ?_, ?_, ?_, ?_⟩, H.2.2.of rfl rfl rfl rfl rfl rfl rfl (fun j hj => s0 (by omega))⟩
  · rw [s0 (by decide)]; exact H.2.1.1
  · rw [s0 (by decide)]; exact H.2.1.2.1
  · rw [s0 (by decide)]; exact H.2.1.2.2.1
  · rw [s0 (by decide)]; exact H.2.1.2.2.2.1
  · rw [s0 (by decide)]; exact H.2.1.2.2.2.2.1
  · rw [s0 (by decide)]; exact H.2.1.2.2.2.2.2.1
  · intro i hi; rw [s0 (by omega)]; exact H.2.1.2.2.2.2.2.2 i hi
/-- a tick, on both sides -/
theorem tick_sim {P : Prop} {g u : Nat → Nat → Int32} (h : RR g (u 1)) (hT : P → RT 0 g (u 1)) : RR (sX3_tick g) (sX7_tick u 1) ∧ (P → RT 0 (sX3_tick g) (sX7_tick u 1)) := by
  have a := tickA_sim h hT
  have b := iterM_sim (u := mtickB u) a.1 a.2.1 ((tickA g 0 9).toNatClampNeg)
  have c : RR (sX3_rub (iterN (fun _ => sX3_moveOneCell) ((tickA g 0 9).toNatClampNeg) (tickA g))) (mtickD u 1) ∧ (P → RT 1 (sX3_rub (iterN (fun _ => sX3_moveOneCell) ((tickA g 0 9).toNatClampNeg) (tickA g))) (mtickD u 1)) := by
    unfold mtickD mtickC
    rw [a.2.2]
    exact rub_sim b.1 b.2
  have w := watch_sim c.1 c.2
  unfold sX3_tick sX7_tick
  refine ⟨w.1.tk, fun p => ⟨?_, fun i hi => ?_⟩⟩
  · rw [up2_s, Int32.add_zero]; exact (w.2 p).1
  · rw [up2_k (by omega)]; exact (w.2 p).2 i hi
