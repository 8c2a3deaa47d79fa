/-! ===== the whole system and the model: what holds between two calls ===== -/
def J (so g gS sh q0 q1 q2 q3 t u : Nat → Nat → Int32) : Prop :=
  RA g (u 1) ∧ LZ gS ∧ (so 0 5 = 0 ∨ so 0 5 = 1) ∧ u 0 6 = so 0 5 ∧ (¬ so 0 5 = 0 → RA gS (u 4)) ∧ HR sh q0 q1 q2 q3 u ∧ TX t u ∧ (∀ i, i < 60 → narrow .char (.int (t 2 i)) = .int (t 2 i)) ∧ u 0 9 = so 0 7 ∧ u 0 10 = so 0 8
theorem HR.of {sh q0 q1 q2 q3 u v : Nat → Nat → Int32} (h : HR sh q0 q1 q2 q3 u) (e4 : v 0 4 = u 0 4) (e3 : v 3 = u 3) : HR sh q0 q1 q2 q3 v := by
  obtain ⟨a, b, c, d⟩ := h
  exact ⟨a, e4.trans b, c, by rw [e3]; exact d⟩
theorem TX.of {t u v : Nat → Nat → Int32} (h : TX t u) (e8 : v 0 8 = u 0 8) (e5 : v 5 = u 5) : TX t v := ⟨h.1, e8.trans h.2.1, by rw [e5]; exact h.2.2⟩
/-- the model changed in its row, and perhaps in its history and texts' places, alone -/
theorem J.of {so g gS sh q0 q1 q2 q3 t u g' v : Nat → Nat → Int32} (h : J so g gS sh q0 q1 q2 q3 t u) (hg : RA g' (v 1)) (e0 : ∀ j, j = 4 ∨ j = 6 ∨ j = 8 ∨ j = 9 ∨ j = 10 → v 0 j = u 0 j) (e3 : v 3 = u 3) (e4 : v 4 = u 4) (e5 : v 5 = u 5) : J so g' gS sh q0 q1 q2 q3 t v := by
  obtain ⟨a, b, c, d, e, f, x, y, z, w⟩ := h
  exact ⟨hg, b, c, (e0 6 (by omega)).trans d, by rw [e4]; exact e, f.of (e0 4 (by omega)) e3, x.of (e0 8 (by omega)) e5, y, (e0 9 (by omega)).trans z, (e0 10 (by omega)).trans w⟩
theorem thr_c (u : Nat → Nat → Int32) : (∀ a, a ≠ 0 → thr u a = u a) ∧ ∀ j, j ≠ 0 → thr u 0 j = u 0 j := ⟨fun a h => up2_ne h, fun j h => up2_k h⟩
theorem J.thd {so g gS sh q0 q1 q2 q3 t u : Nat → Nat → Int32} (h : J so g gS sh q0 q1 q2 q3 t u) : J so g gS sh q0 q1 q2 q3 t (thr u) := by
  have e := thr_c u
  exact h.of (by rw [e.1 1 (by decide)]; exact h.1) (fun j hj => e.2 j (by omega)) (e.1 3 (by decide)) (e.1 4 (by decide)) (e.1 5 (by decide))
theorem recd_bad {sh q0 q1 q2 q3 g : Nat → Nat → Int32} {r : Int32} (h : Bad r) : sX6_recorded2 sh r = sh ∧ sX6_recorded3 sh q0 g r = q0 ∧ sX6_recorded4 sh q1 g r = q1 ∧ sX6_recorded5 sh q2 g r = q2 ∧ sX6_recorded6 sh q3 g r = q3 := by
  unfold sX6_recorded2 sX6_recorded3 sX6_recorded4 sX6_recorded5 sX6_recorded6
  rcases h with e | e
  · simp only [e, reduceIte, and_self]
  · simp only [e, reduceIte, ite_self, and_self]
theorem recd_good {sh q0 q1 q2 q3 g : Nat → Nat → Int32} {r : Int32} (h : Good r) : sX6_recorded2 sh r = sX2_remember sh ∧ sX6_recorded3 sh q0 g r = sX2_remember2 sh q0 g ∧ sX6_recorded4 sh q1 g r = sX2_remember3 sh q1 g ∧ sX6_recorded5 sh q2 g r = sX2_remember4 sh q2 g ∧ sX6_recorded6 sh q3 g r = sX2_remember5 sh q3 g := by
  unfold sX6_recorded2 sX6_recorded3 sX6_recorded4 sX6_recorded5 sX6_recorded6
  simp only [h.1, h.2, reduceIte, and_self]
/-- the state before is recorded, then the leg changes -/
theorem J.recd {so g gS sh q0 q1 q2 q3 t u : Nat → Nat → Int32} (h : J so g gS sh q0 q1 q2 q3 t u) : J so g gS (sX2_remember sh) (sX2_remember2 sh q0 g) (sX2_remember3 sh q1 g) (sX2_remember4 sh q2 g) (sX2_remember5 sh q3 g) t (sX7_records u) := by
  obtain ⟨a, b, c, d, e, f, x, y, z, w⟩ := h
  have r := rec_c u
  exact ⟨by rw [r.1 1 (by decide) (by decide)]; exact a, b, c, (r.2 6 (by decide)).trans d, by rw [r.1 4 (by decide) (by decide)]; exact e, f.rec a, x.of (r.2 8 (by decide)) (r.1 5 (by decide) (by decide)), y, (r.2 9 (by decide)).trans z, (r.2 10 (by decide)).trans w⟩
theorem J.act {so g gS sh q0 q1 q2 q3 t u g' : Nat → Nat → Int32} {r ref : Int32} {res : (Nat → Nat → Int32) → Int32} {app : (Nat → Nat → Int32) → Nat → Nat → Int32} (h : J so g gS sh q0 q1 q2 q3 t u) (a : Act (thr u) g r ref g' res app) (ha : ∀ v c, c ≠ 1 → app v c = v c) :
    rX6_recorded r = (if ref = 0 then res (sX7_records (thr u)) else ref) ∧ J so g' gS (sX6_recorded2 sh r) (sX6_recorded3 sh q0 (sX3_become g) r) (sX6_recorded4 sh q1 (sX3_become g) r) (sX6_recorded5 sh q2 (sX3_become g) r) (sX6_recorded6 sh q3 (sX3_become g) r) t (if ref = 0 then app (sX7_records (thr u)) else thr u) := by
  have hT := h.thd
  rcases a with ⟨a1, a2, a3, a4⟩ | ⟨a1, a2, a3⟩
  · obtain ⟨e1, e2, e3, e4, e5⟩ := recd_bad (sh := sh) (q0 := q0) (q1 := q1) (q2 := q2) (q3 := q3) (g := sX3_become g) a3
    rw [if_neg a1, if_neg a1, e1, e2, e3, e4, e5, a4]
    exact ⟨a2, hT⟩
  · obtain ⟨e1, e2, e3, e4, e5⟩ := recd_good (sh := sh) (q0 := q0) (q1 := q1) (q2 := q2) (q3 := q3) (g := sX3_become g) a2
    rw [if_pos a1, if_pos a1, e1, e2, e3, e4, e5]
    have r1 : sX7_records (thr u) 1 = (thr u) 1 := (rec_c (thr u)).1 1 (by decide) (by decide)
    have R := a3 _ r1
    refine ⟨R.1, hT.recd.of R.2 (fun j _ => by rw [ha _ 0 (by decide)]) (ha _ 3 (by decide)) (ha _ 4 (by decide)) (ha _ 5 (by decide))⟩
theorem op_set {so g gS sh q0 q1 q2 q3 t u : Nat → Nat → Int32} (h : J so g gS sh q0 q1 q2 q3 t u) (x y : Int32) : rX6_set g x y = rX7_set u x y ∧ J so (sX6_set2 g x y) gS (sX6_set4 g sh x y) (sX6_set5 g sh q0 x y) (sX6_set6 g sh q1 x y) (sX6_set7 g sh q2 x y) (sX6_set8 g sh q3 x y) t (sX7_set u x y) :=
  h.act (set_act (u := thr u) h.thd.1 x y) (fun v c hc => up2_ne hc)
theorem op_gate {so g gS sh q0 q1 q2 q3 t u : Nat → Nat → Int32} (h : J so g gS sh q0 q1 q2 q3 t u) (x : Int32) (hx : x = 0 ∨ x = 1) : rX6_gate g x = rX7_gate u x ∧ J so (sX6_gate2 g x) gS (sX6_gate4 g sh x) (sX6_gate5 g sh q0 x) (sX6_gate6 g sh q1 x) (sX6_gate7 g sh q2 x) (sX6_gate8 g sh q3 x) t (sX7_gate u x) :=
  h.act (gate_act (u := thr u) h.thd.1 x hx) (fun v c hc => up2_ne hc)
theorem op_start {so g gS sh q0 q1 q2 q3 t u : Nat → Nat → Int32} (h : J so g gS sh q0 q1 q2 q3 t u) : rX6_start g = rX7_start u ∧ J so (sX6_start2 g) gS (sX6_start4 g sh) (sX6_start5 g sh q0) (sX6_start6 g sh q1) (sX6_start7 g sh q2) (sX6_start8 g sh q3) t (sX7_start u) :=
  h.act (start_act (u := thr u) h.thd.1) (fun v c hc => up2_ne hc)
theorem op_stop {so g gS sh q0 q1 q2 q3 t u : Nat → Nat → Int32} (h : J so g gS sh q0 q1 q2 q3 t u) : rX6_stop g = rX7_stop u ∧ J so (sX6_stop2 g) gS (sX6_stop4 g sh) (sX6_stop5 g sh q0) (sX6_stop6 g sh q1) (sX6_stop7 g sh q2) (sX6_stop8 g sh q3) t (sX7_stop u) := by
  have k := h.act (stop_act (u := thr u) h.thd.1) (fun v c hc => up2_ne hc)
  have e1 : rX7_stop u = (if (if thr u 1 14 = 0 then (-105 : Int32) else 0) = 0 then rX7_inBuckets (up2 (sX7_records (thr u)) 1 14 0) else (if thr u 1 14 = 0 then (-105) else 0)) := by
    unfold rX7_stop
    by_cases c : thr u 1 14 = 0
    · simp only [c, reduceIte]; rw [if_neg (by decide)]
    · simp only [c, reduceIte]
  have e2 : sX7_stop u = (if (if thr u 1 14 = 0 then (-105 : Int32) else 0) = 0 then up2 (sX7_records (thr u)) 1 14 0 else thr u) := by
    unfold sX7_stop
    by_cases c : thr u 1 14 = 0
    · simp only [c, reduceIte]; rw [if_neg (by decide)]
    · simp only [c, reduceIte]
  rw [e1, e2]
  exact k
theorem op_reset {so g gS sh q0 q1 q2 q3 t u : Nat → Nat → Int32} (h : J so g gS sh q0 q1 q2 q3 t u) : rX6_reset g = rX7_reset u ∧ J so (sX6_reset2 g) gS (sX6_reset4 g sh) (sX6_reset5 g sh q0) (sX6_reset6 g sh q1) (sX6_reset7 g sh q2) (sX6_reset8 g sh q3) t (sX7_reset u) :=
  h.act (reset_act (u := thr u) h.thd.1) (fun v c hc => up2_ne hc)
theorem op_clean {so g gS sh q0 q1 q2 q3 t u : Nat → Nat → Int32} (h : J so g gS sh q0 q1 q2 q3 t u) (x : Int32) : rX6_clean g x = rX7_clean u x ∧ J so (sX6_clean2 g x) gS (sX6_clean4 g sh x) (sX6_clean5 g sh q0 x) (sX6_clean6 g sh q1 x) (sX6_clean7 g sh q2 x) (sX6_clean8 g sh q3 x) t (sX7_clean u x) := by
  have k := h.act (clean_act (u := thr u) h.thd.1 x) (fun v c hc => (up2_ne hc).trans (up2_ne hc))
  have e : rX7_clean u x = (if (if rX7_in x 1 300 = 0 then (-102 : Int32) else if thr u 1 14 = 1 then (-104) else if x ≤ thr u 1 5 then 0 else (-104)) = 0 then (sX7_records (thr u)) 1 5 - x else (if rX7_in x 1 300 = 0 then (-102) else if thr u 1 14 = 1 then (-104) else if x ≤ thr u 1 5 then 0 else (-104))) ∧ sX7_clean u x = (if (if rX7_in x 1 300 = 0 then (-102 : Int32) else if thr u 1 14 = 1 then (-104) else if x ≤ thr u 1 5 then 0 else (-104)) = 0 then up2 (up2 (sX7_records (thr u)) 1 5 ((sX7_records (thr u)) 1 5 - x)) 1 9 ((sX7_records (thr u)) 1 9 + x) else thr u) := by
    have n2 : ¬ (-102 : Int32) = 0 := by decide
    have n4 : ¬ (-104 : Int32) = 0 := by decide
    unfold rX7_clean sX7_clean
    by_cases c : rX7_in x 1 300 = 0
    · simp only [c, n2, reduceIte, and_self]
    by_cases c2 : thr u 1 14 = 1
    · simp only [c, c2, n4, reduceIte, and_self]
    by_cases c3 : x ≤ thr u 1 5
    · simp only [c, c2, c3, reduceIte, and_self]
    · simp only [c, c2, c3, n4, reduceIte, and_self]
  rw [e.1, e.2]
  exact k
theorem op_run {so g gS sh q0 q1 q2 q3 t u : Nat → Nat → Int32} (h : J so g gS sh q0 q1 q2 q3 t u) (x : Int32) : rX6_run g x = rX7_run u x ∧ J so (sX6_run2 g x) gS (sX6_run4 g sh x) (sX6_run5 g sh q0 x) (sX6_run6 g sh q1 x) (sX6_run7 g sh q2 x) (sX6_run8 g sh q3 x) t (sX7_run u x) :=
  h.act (run_act (u := thr u) h.thd.1 x) (fun v c hc => mticks_c v x hc)
