/-! ===== the other calls keep the whole relation ===== -/
theorem cpo_in {c d o : Nat} (hcd : d ≠ c) (n : Nat) (u : Nat → Nat → Int32) {k : Nat} (hk : k < n) : iterN (fun k h => up2 h c k (h d (o + k))) n u c k = u d (o + k) := by
  induction n with
  | zero => omega
  | succ n ih =>
    rw [iterN_succ, up2_c]
    by_cases e : k = n
    · rw [if_pos e, e]
      exact congrFun (iter_at (F := fun k h => up2 h c k (h d (o + k))) d (fun _ _ => up2_ne hcd) n u) (o + n)
    · rw [if_neg e]; exact ih (by omega)
theorem cpo_c {c d o : Nat} (n : Nat) (u : Nat → Nat → Int32) {a : Nat} (ha : a ≠ c) : iterN (fun k h => up2 h c k (h d (o + k))) n u a = u a := iter_at (F := fun k h => up2 h c k (h d (o + k))) a (fun _ _ => up2_ne ha) n u
theorem cp0_in {c d : Nat} (hcd : d ≠ c) (n : Nat) (u : Nat → Nat → Int32) {k : Nat} (hk : k < n) : iterN (fun k h => up2 h c k (h d k)) n u c k = u d k := by
  have e := cpl_in (c := c) (d := d) (b := 0) hcd n u hk
  simp only [Nat.zero_add] at e
  exact e
theorem cp0_c {c d : Nat} (n : Nat) (u : Nat → Nat → Int32) {a : Nat} (ha : a ≠ c) : iterN (fun k h => up2 h c k (h d k)) n u a = u a := iter_at (F := fun k h => up2 h c k (h d k)) a (fun _ _ => up2_ne ha) n u
theorem op_type {so g gS sh q0 q1 q2 q3 t u : Nat → Nat → Int32} (h : J so g gS sh q0 q1 q2 q3 t u) (x : Int32) : rX6_type t = rX7_type u ∧ J so g gS sh q0 q1 q2 q3 (sX6_type2 t x) (sX7_type u x) := by
  have hT := h.thd
  obtain ⟨a, b, c, d, e, f, ⟨x1, x2, x3⟩, y, z, w⟩ := hT
  have el := x1.eq
  have e8 : thr u 0 8 = nI (tL t) := x2.trans el.1
  have em : mL u = tL t := by
    have q : u 0 8 = nI (tL t) := by rw [← (thr_c u).2 8 (by decide)]; exact e8
    unfold mL; rw [q]; exact nI_clamp (by omega)
  have e59 : (59 : Int32).toInt = 59 := by decide
  unfold rX6_type rX4_append rX7_type sX6_type2 sX4_append sX7_type
  rw [e8, el.1, em]
  by_cases cl : tL t = 60
  · have c1 : rX6_isWithin (nI (tL t)) 0 59 = 0 := by
      by_cases q : rX6_isWithin (nI (tL t)) 0 59 = 0
      · exact q
      · have := iw_iff.mp q
        rw [nI_toInt (by omega), e59] at this
        omega
    have c2 : nI (tL t) = 60 := by rw [cl]; rfl
    rw [if_pos c1, if_pos c1, if_pos c2, if_pos c2]
    exact ⟨rfl, a, b, c, d, e, f, ⟨x1, x2, x3⟩, y, z, w⟩
  · have c1 : ¬ rX6_isWithin (nI (tL t)) 0 59 = 0 := iw_iff.mpr (by rw [nI_toInt (by omega), e59, t0]; omega)
    have c2 : ¬ nI (tL t) = 60 := fun q => by
      have := (nI_eq (a := tL t) (b := 60) (by omega) (by decide)).mp q
      omega
    rw [if_neg c1, if_neg c1, if_neg c2, if_neg c2, nI_clamp (by omega), nI_1]
    have o : ∀ j, j ≠ 8 → up2 (up2 (thr u) 5 (tL t) x) 0 8 (nI (tL t + 1)) 0 j = thr u 0 j := fun j hj => (up2_k hj).trans (up2_d (by decide))
    have oc : ∀ a, a ≠ 0 → a ≠ 5 → up2 (up2 (thr u) 5 (tL t) x) 0 8 (nI (tL t + 1)) a = thr u a := fun a h0 h5 => (up2_ne h0).trans (up2_ne h5)
    have l1 : up2 (up2 t 1 (tL t) x) 0 1 (nI (tL t + 1)) 0 1 = nI (tL t + 1) := up2_s
    have lL : tL (up2 (up2 t 1 (tL t) x) 0 1 (nI (tL t + 1))) = tL t + 1 := by unfold tL; rw [up2_s]; exact nI_clamp (by unfold tL at el; omega)
    refine ⟨rfl, by rw [oc 1 (by decide) (by decide)]; exact a, b, c, (o 6 (by decide)).trans d, by rw [oc 4 (by decide) (by decide)]; exact e, f.of (o 4 (by decide)) (oc 3 (by decide) (by decide)), ⟨⟨tL t + 1, by omega, l1⟩, by rw [l1]; exact up2_s, fun i hi => ?_⟩, fun i hi => by rw [up2_ne (by decide), up2_ne (by decide)]; exact y i hi, (o 9 (by decide)).trans z, (o 10 (by decide)).trans w⟩
    rw [lL] at hi
    have hl5 : up2 (up2 (thr u) 5 (tL t) x) 0 8 (nI (tL t + 1)) 5 i = if i = tL t then x else thr u 5 i := (up2_d (by decide)).trans (up2_c _ _ _ _ _)
    have hr1 : up2 (up2 t 1 (tL t) x) 0 1 (nI (tL t + 1)) 1 i = if i = tL t then x else t 1 i := (up2_d (by decide)).trans (up2_c _ _ _ _ _)
    rw [hl5, hr1]
    by_cases ci : i = tL t
    · rw [if_pos ci, if_pos ci]
    · rw [if_neg ci, if_neg ci]; exact x3 i (by omega)
theorem op_clear {so g gS sh q0 q1 q2 q3 t u : Nat → Nat → Int32} (h : J so g gS sh q0 q1 q2 q3 t u) : rX6_clearText t = rX7_clearText u ∧ J so g gS sh q0 q1 q2 q3 (sX6_clearText2 t) (sX7_clearText u) := by
  have hT := h.thd
  obtain ⟨a, b, c, d, e, f, ⟨x1, x2, x3⟩, y, z, w⟩ := hT
  unfold rX6_clearText rX4_empty rX7_clearText sX6_clearText2 sX4_empty sX7_clearText
  have o : ∀ j, j ≠ 8 → up2 (thr u) 0 8 0 0 j = thr u 0 j := fun j hj => up2_k hj
  have oc : ∀ a, a ≠ 0 → up2 (thr u) 0 8 0 a = thr u a := fun a h0 => up2_ne h0
  have lL : tL (up2 t 0 1 0) = 0 := by unfold tL; rw [up2_s]; rfl
  exact ⟨x2.symm, by rw [oc 1 (by decide)]; exact a, b, c, (o 6 (by decide)).trans d, by rw [oc 4 (by decide)]; exact e, f.of (o 4 (by decide)) (oc 3 (by decide)), ⟨⟨0, by decide, up2_s⟩, by rw [up2_s, up2_s], fun i hi => by rw [lL] at hi; omega⟩, fun i hi => by rw [up2_ne (by decide)]; exact y i hi, (o 9 (by decide)).trans z, (o 10 (by decide)).trans w⟩
theorem op_stopped {so g gS sh q0 q1 q2 q3 t u : Nat → Nat → Int32} (h : J so g gS sh q0 q1 q2 q3 t u) (x : Int32) : rX6_stopped so x = rX7_stopped u x ∧ J so g gS sh q0 q1 q2 q3 t (sX7_stopped u) := by
  have hT := h.thd
  refine ⟨?_, hT⟩
  unfold rX6_stopped rX7_stopped
  rw [hT.2.2.2.2.2.2.2.2.1, hT.2.2.2.2.2.2.2.2.2]
theorem tb_all (sh q0 q1 q2 q3 g : Nat → Nat → Int32) : rX2_takeBack sh = (if (sh 0 2) = 0 then 0 else 1) ∧ sX2_takeBack sh = (if (sh 0 2) = 0 then sh else up2 sh 0 2 ((sh 0 2) - 1)) ∧ sX2_takeBack6 sh q0 q1 q2 q3 g = (if (sh 0 2) = 0 then g else qs q0 q1 q2 q3 (hT sh)) := by
  have hj : hT sh < 4 := by unfold hT; omega
  unfold rX2_takeBack sX2_takeBack sX2_takeBack6 qs sX3_become
  generalize hT sh = j at hj
  rcases (show j = 0 ∨ j = 1 ∨ j = 2 ∨ j = 3 by omega) with e | e | e | e <;> subst e <;> exact ⟨rfl, rfl, rfl⟩
theorem op_undo {so g gS sh q0 q1 q2 q3 t u : Nat → Nat → Int32} (h : J so g gS sh q0 q1 q2 q3 t u) : rX6_undo sh = rX7_undo u ∧ J so (sX6_undo2 g sh q0 q1 q2 q3) gS (sX6_undo3 sh) q0 q1 q2 q3 t (sX7_undo u) := by
  have hT := h.thd
  obtain ⟨a, b, c, d, e, ⟨⟨ho, ho4, hs, hs4⟩, h04, hZ, hR⟩, x, y, z, w⟩ := hT
  have tb := tb_all sh q0 q1 q2 q3 g
  unfold rX6_undo rX7_undo sX6_undo2 sX6_undo3 sX7_undo
  rw [tb.1, tb.2.1, tb.2.2, h04]
  by_cases c0 : sh 0 2 = 0
  · simp only [c0, reduceIte]
    exact ⟨trivial, a, b, c, d, e, ⟨⟨ho, ho4, hs, hs4⟩, h04, hZ, hR⟩, x, y, z, w⟩
  · have h1 : ¬ (1 : Int32) = 0 := by decide
    simp only [c0, h1, reduceIte]
    have hp : 0 < hS sh := by
      apply Nat.pos_of_ne_zero
      intro q
      rw [hs, q] at c0
      exact c0 rfl
    have em : mS u = hS sh := by
      have q : u 0 4 = nI (hS sh) := by rw [← (thr_c u).2 4 (by decide), h04]; exact hs
      exact mS_of q (by omega)
    have n1 : sh 0 2 - 1 = nI (hS sh - 1) := by rw [hs]; exact pk_sub (a := hS sh) (b := 1) (by omega)
    rw [em, n1, up2_s]
    have o : ∀ j, j ≠ 4 → iterN (fun k h => up2 h 1 k (h 3 (56 * (hS sh - 1) + k))) 56 (up2 (thr u) 0 4 (nI (hS sh - 1))) 0 j = thr u 0 j := fun j hj => (congrFun (cpo_c (c := 1) (d := 3) (o := 56 * (hS sh - 1)) 56 (up2 (thr u) 0 4 (nI (hS sh - 1))) (by decide)) j).trans (up2_k hj)
    have o4 : iterN (fun k h => up2 h 1 k (h 3 (56 * (hS sh - 1) + k))) 56 (up2 (thr u) 0 4 (nI (hS sh - 1))) 0 4 = nI (hS sh - 1) := (congrFun (cpo_c (c := 1) (d := 3) (o := 56 * (hS sh - 1)) 56 (up2 (thr u) 0 4 (nI (hS sh - 1))) (by decide)) 4).trans up2_s
    have oc : ∀ a, a ≠ 0 → a ≠ 1 → iterN (fun k h => up2 h 1 k (h 3 (56 * (hS sh - 1) + k))) 56 (up2 (thr u) 0 4 (nI (hS sh - 1))) a = thr u a := fun a h0 h1 => (cpo_c (c := 1) (d := 3) (o := 56 * (hS sh - 1)) 56 (up2 (thr u) 0 4 (nI (hS sh - 1))) h1).trans (up2_ne h0)
    have s1 : up2 sh 0 2 (nI (hS sh - 1)) 0 1 = nI (hO sh) := (up2_k (by decide)).trans ho
    have s2 : up2 sh 0 2 (nI (hS sh - 1)) 0 2 = nI (hS sh - 1) := up2_s
    have eO := hO_of s1 (by omega)
    have eS := hS_of s2 (by omega)
    refine ⟨rfl, ?_, b, c, (o 6 (by decide)).trans d, by rw [oc 4 (by decide) (by decide)]; exact e, ⟨⟨by rw [eO]; exact s1, by rw [eO]; exact ho4, by rw [eS]; exact s2, by rw [eS]; omega⟩, o4.trans s2.symm, hZ, fun j hj => ?_⟩, x.of (o 8 (by decide)) (oc 5 (by decide) (by decide)), y, (o 9 (by decide)).trans z, (o 10 (by decide)).trans w⟩
    · have q := hR (hS sh - 1) (by omega)
      have eT : hT sh = (hO sh + (hS sh - 1)) % 4 := by unfold hT; omega
      rw [eT]
      refine q.cg (fun k hk => ?_)
      refine (cpo_in (c := 1) (d := 3) (o := 56 * (hS sh - 1)) (by decide) 56 (up2 (thr u) 0 4 (nI (hS sh - 1))) hk).trans ?_
      exact up2_d (by decide)
    · rw [eS] at hj
      rw [eO, oc 3 (by decide) (by decide)]
      exact hR j (by omega)
theorem op_keep {so g gS sh q0 q1 q2 q3 t u : Nat → Nat → Int32} (h : J so g gS sh q0 q1 q2 q3 t u) : rX6_keep g = rX7_keep u ∧ J (sX6_keep so) g (sX6_keep3 g) sh q0 q1 q2 q3 t (sX7_keep u) := by
  have hT := h.thd
  obtain ⟨a, b, c, d, e, f, x, y, z, w⟩ := hT
  unfold rX6_keep rX7_keep sX6_keep sX6_keep3 sX3_become sX7_keep
  have oc : ∀ a, a ≠ 4 → iterN (fun k h => up2 h 4 k (h 1 k)) 56 (thr u) a = thr u a := fun a h4 => cp0_c (c := 4) (d := 1) 56 (thr u) h4
  have o : ∀ j, j ≠ 6 → up2 (iterN (fun k h => up2 h 4 k (h 1 k)) 56 (thr u)) 0 6 1 0 j = thr u 0 j := fun j hj => (up2_k hj).trans (congrFun (oc 0 (by decide)) j)
  have oc2 : ∀ a, a ≠ 0 → a ≠ 4 → up2 (iterN (fun k h => up2 h 4 k (h 1 k)) 56 (thr u)) 0 6 1 a = thr u a := fun a h0 h4 => (up2_ne h0).trans (oc a h4)
  have sk : ∀ j, j ≠ 5 → up2 so 0 5 1 0 j = so 0 j := fun j hj => up2_k hj
  refine ⟨?_, by rw [oc2 1 (by decide) (by decide)]; exact a, a.1.1.2.1, Or.inr up2_s, by rw [up2_s, up2_s], fun _ => ?_, f.of (o 4 (by decide)) (oc2 3 (by decide) (by decide)), x.of (o 8 (by decide)) (oc2 5 (by decide) (by decide)), y, ?_, ?_⟩
  · rw [oc 1 (by decide), ← a.2.1.1, Int32.add_zero]
  · refine a.cg (fun k hk => ?_)
    rw [up2_ne (by decide)]
    exact cp0_in (c := 4) (d := 1) (by decide) 56 (thr u) hk
  · rw [sk 7 (by decide)]; exact (o 9 (by decide)).trans z
  · rw [sk 8 (by decide)]; exact (o 10 (by decide)).trans w
theorem op_restore {so g gS sh q0 q1 q2 q3 t u : Nat → Nat → Int32} (h : J so g gS sh q0 q1 q2 q3 t u) : rX6_restore so gS = rX7_restore u ∧ J so (sX6_restore2 so g gS) gS (sX6_restore5 so gS sh) (sX6_restore6 so g gS sh q0) (sX6_restore7 so g gS sh q1) (sX6_restore8 so g gS sh q2) (sX6_restore9 so g gS sh q3) t (sX7_restore u) := by
  have hT := h.thd
  unfold rX6_restore rX7_restore sX6_restore2 sX6_restore5 sX6_restore6 sX6_restore7 sX6_restore8 sX6_restore9 sX7_restore
  rw [hT.2.2.2.1]
  by_cases c0 : so 0 5 = 0
  · simp only [c0, reduceIte]
    exact ⟨trivial, hT⟩
  · simp only [c0, reduceIte]
    have hS := hT.2.2.2.2.1 c0
    have good : Good ((sX3_become gS) 0 12) := good_rg hS.2.2.2 (by decide)
    obtain ⟨e1, e2, e3, e4, e5⟩ := recd_good (sh := sh) (q0 := q0) (q1 := q1) (q2 := q2) (q3 := q3) (g := sX3_become g) good
    rw [e1, e2, e3, e4, e5]
    have R := hT.recd
    have oc : ∀ a, a ≠ 1 → iterN (fun k h => up2 h 1 k (h 4 k)) 56 (sX7_records (thr u)) a = sX7_records (thr u) a := fun a h1 => cp0_c (c := 1) (d := 4) 56 _ h1
    have s1 : ∀ k, k < 56 → iterN (fun k h => up2 h 1 k (h 4 k)) 56 (sX7_records (thr u)) 1 k = (thr u) 4 k := fun k hk => (cp0_in (c := 1) (d := 4) (by decide) 56 _ hk).trans (congrFun ((rec_c (thr u)).1 4 (by decide) (by decide)) k)
    have K : RA gS (iterN (fun k h => up2 h 1 k (h 4 k)) 56 (sX7_records (thr u)) 1) := hS.cg (fun k hk => s1 k hk)
    refine ⟨?_, R.of K (fun j _ => by rw [oc 0 (by decide)]) (oc 3 (by decide)) (oc 4 (by decide)) (oc 5 (by decide))⟩
    have q := K.2.1.1
    rw [Int32.add_zero] at q
    exact q.symm
