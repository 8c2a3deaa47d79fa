/-! ===== the history ===== -/
def qs (q0 q1 q2 q3 : Nat → Nat → Int32) (i : Nat) : Nat → Nat → Int32 := if i = 0 then q0 else if i = 1 then q1 else if i = 2 then q2 else q3
def HR (sh q0 q1 q2 q3 u : Nat → Nat → Int32) : Prop := HOK sh ∧ u 0 4 = sh 0 2 ∧ (∀ i, i < 4 → LZ (qs q0 q1 q2 q3 i)) ∧ ∀ j, j < hS sh → RA (qs q0 q1 q2 q3 ((hO sh + j) % 4)) (fun k => u 3 (56 * j + k))
theorem cpl_in {c d b : Nat} (hcd : d ≠ c) (n : Nat) (u : Nat → Nat → Int32) {k : Nat} (hk : k < n) : iterN (fun k h => up2 h c (b + k) (h d k)) n u c (b + k) = u d k := by
  induction n with
  | zero => omega
  | succ n ih =>
    rw [iterN_succ, up2_c]
    by_cases e : k = n
    · rw [if_pos (by omega), e]
      exact congrFun (iter_at (F := fun k h => up2 h c (b + k) (h d k)) d (fun _ _ => up2_ne hcd) n u) n
    · rw [if_neg (by omega)]; exact ih (by omega)
theorem cpl_out {c d b : Nat} (n : Nat) (u : Nat → Nat → Int32) {j : Nat} (hj : j < b ∨ b + n ≤ j) : iterN (fun k h => up2 h c (b + k) (h d k)) n u c j = u c j := by
  induction n with
  | zero => rfl
  | succ n ih =>
    rw [iterN_succ, up2_c, if_neg (by omega)]; exact ih (by omega)
theorem cpl_c {c d b : Nat} (n : Nat) (u : Nat → Nat → Int32) {a : Nat} (ha : a ≠ c) : iterN (fun k h => up2 h c (b + k) (h d k)) n u a = u a := iter_at (F := fun k h => up2 h c (b + k) (h d k)) a (fun _ _ => up2_ne ha) n u
theorem shf (n : Nat) (u : Nat → Nat → Int32) (j : Nat) : iterN (fun k h => up2 h 3 k (h 3 (k + 56))) n u 3 j = if j < n then u 3 (j + 56) else u 3 j := by
  induction n generalizing j with
  | zero => rw [if_neg (by omega)]; rfl
  | succ n ih =>
    rw [iterN_succ, up2_c]
    by_cases e : j = n
    · rw [if_pos e, if_pos (by omega), ih, if_neg (by omega), e]
    · rw [if_neg e, ih]
      by_cases c : j < n
      · rw [if_pos c, if_pos (by omega)]
      · rw [if_neg c, if_neg (by omega)]
theorem shf_c (n : Nat) (u : Nat → Nat → Int32) {a : Nat} (ha : a ≠ 3) : iterN (fun k h => up2 h 3 k (h 3 (k + 56))) n u a = u a := iter_at (F := fun k h => up2 h 3 k (h 3 (k + 56))) a (fun _ _ => up2_ne ha) n u
theorem rec_c (u : Nat → Nat → Int32) : (∀ a, a ≠ 0 → a ≠ 3 → sX7_records u a = u a) ∧ ∀ j, j ≠ 4 → sX7_records u 0 j = u 0 j := by
  have e48 : ∀ a, a ≠ 0 → a ≠ 3 → jX7_records_48 u a = u a := fun a h0 h3 => by
    unfold jX7_records_48
    split
    · rw [up2_ne h0, shf_c _ _ h3]
    · rfl
  have e480 : ∀ j, j ≠ 4 → jX7_records_48 u 0 j = u 0 j := fun j hj => by
    unfold jX7_records_48
    split
    · rw [up2_k hj, shf_c _ _ (by decide)]
    · rfl
  unfold sX7_records
  refine ⟨fun a h0 h3 => ?_, fun j hj => ?_⟩
  · rw [up2_ne h0]
    exact (cpl_c (c := 3) (d := 1) (b := 56 * mN u) 56 (jX7_records_48 u) h3).trans (e48 a h0 h3)
  · rw [up2_k hj]
    exact (congrFun (cpl_c (c := 3) (d := 1) (b := 56 * mN u) 56 (jX7_records_48 u) (by decide)) j).trans (e480 j hj)
theorem rem_q (sh q0 q1 q2 q3 g : Nat → Nat → Int32) (i : Nat) (hi : i < 4) : qs (sX2_remember2 sh q0 g) (sX2_remember3 sh q1 g) (sX2_remember4 sh q2 g) (sX2_remember5 sh q3 g) i = if hJ sh = i then g else qs q0 q1 q2 q3 i := by
  have hj : hJ sh < 4 := by unfold hJ; omega
  unfold qs sX2_remember2 sX2_remember3 sX2_remember4 sX2_remember5 sX3_become
  generalize hJ sh = j at hj
  rcases (show i = 0 ∨ i = 1 ∨ i = 2 ∨ i = 3 by omega) with e | e | e | e <;> subst e <;>
    rcases (show j = 0 ∨ j = 1 ∨ j = 2 ∨ j = 3 by omega) with e | e | e | e <;> subst e <;> rfl
theorem rem_sh (sh : Nat → Nat → Int32) : sX2_remember sh = if 4 ≤ (sh 0 2) then up2 sh 0 1 (nI ((hO sh + 1) % 4)) else up2 sh 0 2 ((sh 0 2) + 1) := by
  unfold sX2_remember
  by_cases c : 4 ≤ (sh 0 2)
  · simp only [c, reduceIte, ite_self]
  · simp only [c, reduceIte, ite_self]
theorem hO_of {sh : Nat → Nat → Int32} {n : Nat} (h : sh 0 1 = nI n) (hn : n < 1000) : hO sh = n := by unfold hO; rw [h]; exact nI_clamp (by omega)
theorem hS_of {sh : Nat → Nat → Int32} {n : Nat} (h : sh 0 2 = nI n) (hn : n < 1000) : hS sh = n := by unfold hS; rw [h]; exact nI_clamp (by omega)
theorem mS_of {u : Nat → Nat → Int32} {n : Nat} (h : u 0 4 = nI n) (hn : n < 1000) : mS u = n := by unfold mS; rw [h]; exact nI_clamp (by omega)
/-- one more state is recorded, on both sides -/
theorem HR.rec {sh q0 q1 q2 q3 u g : Nat → Nat → Int32} (h : HR sh q0 q1 q2 q3 u) (hg : RA g (u 1)) : HR (sX2_remember sh) (sX2_remember2 sh q0 g) (sX2_remember3 sh q1 g) (sX2_remember4 sh q2 g) (sX2_remember5 sh q3 g) (sX7_records u) := by
  obtain ⟨⟨ho, ho4, hs, hs4⟩, h04, hZ, hR⟩ := h
  have hq := rem_q sh q0 q1 q2 q3 g
  have hS4 : sX7_records u 0 4 = nI (mN u + 1) := by unfold sX7_records; exact up2_s
  have hm : mS u = hS sh := mS_of (h04.trans hs) (by omega)
  have cell3 : ∀ b, mN u = b → ∀ j, (j < 56 * b ∨ 56 * b + 56 ≤ j → sX7_records u 3 j = jX7_records_48 u 3 j) ∧ (∀ k, k < 56 → j = 56 * b + k → sX7_records u 3 j = u 1 k) := fun b hb j => by
    subst hb
    unfold sX7_records
    rw [up2_ne (by decide)]
    refine ⟨fun hj => cpl_out (c := 3) (d := 1) (b := 56 * mN u) 56 (jX7_records_48 u) hj, fun k hk e => ?_⟩
    subst e
    refine (cpl_in (c := 3) (d := 1) (b := 56 * mN u) (by decide) 56 (jX7_records_48 u) hk).trans ?_
    unfold jX7_records_48
    split
    · rw [up2_ne (by decide), shf_c _ _ (by decide)]
    · rfl
  have hZ' : ∀ i, i < 4 → LZ (qs (sX2_remember2 sh q0 g) (sX2_remember3 sh q1 g) (sX2_remember4 sh q2 g) (sX2_remember5 sh q3 g) i) := fun i hi => by
    rw [hq i hi]
    split
    · exact hg.1.1.2.1
    · exact hZ i hi
  by_cases c : hS sh = 4
  · have e4 : sh 0 2 = 4 := by rw [hs, c]; rfl
    have u4 : u 0 4 = 4 := h04.trans e4
    have hn : mN u = 3 := by unfold mN; rw [if_pos u4]
    have eJ : hJ sh = hO sh := by unfold hJ; omega
    have esh : sX2_remember sh = up2 sh 0 1 (nI ((hO sh + 1) % 4)) := by rw [rem_sh, if_pos (by rw [e4]; decide)]
    have o1 : sX2_remember sh 0 1 = nI ((hO sh + 1) % 4) := by rw [esh]; exact up2_s
    have o2 : sX2_remember sh 0 2 = nI 4 := by rw [esh, up2_k (by decide)]; exact e4
    have eO := hO_of o1 (by omega)
    have eS := hS_of o2 (by omega)
    refine ⟨⟨by rw [eO]; exact o1, by rw [eO]; omega, by rw [eS]; exact o2, by omega⟩, by rw [hS4, o2, hn], hZ', fun j hj => ?_⟩
    rw [eS] at hj
    rw [eO, hq _ (by omega), eJ]
    by_cases cj : j = 3
    · rw [if_pos (by omega)]
      refine hg.cg (fun k hk => ?_)
      exact (cell3 3 hn (56 * j + k)).2 k hk (by omega)
    · rw [if_neg (by omega)]
      have e : ((hO sh + 1) % 4 + j) % 4 = (hO sh + (j + 1)) % 4 := by omega
      rw [e]
      refine (hR (j + 1) (by omega)).cg (fun k hk => ?_)
      refine ((cell3 3 hn (56 * j + k)).1 (by omega)).trans ?_
      unfold jX7_records_48
      rw [if_pos u4, up2_ne (by decide), shf, if_pos (by omega)]
      exact congrArg (u 3) (by omega)
  · have hlt : hS sh < 4 := by omega
    have hn4 : ¬ (4 : Int32) ≤ sh 0 2 := by rw [hs]; exact nI_ge (b := 4) hlt (by decide)
    have u4 : ¬ u 0 4 = 4 := by
      rw [h04, hs]
      intro q
      have := (nI_eq (a := hS sh) (b := 4) (by omega) (by decide)).mp q
      omega
    have hn : mN u = hS sh := by unfold mN; rw [if_neg u4, hm]
    have esh : sX2_remember sh = up2 sh 0 2 ((sh 0 2) + 1) := by rw [rem_sh, if_neg hn4]
    have o1 : sX2_remember sh 0 1 = nI (hO sh) := by rw [esh, up2_k (by decide)]; exact ho
    have o2 : sX2_remember sh 0 2 = nI (hS sh + 1) := by rw [esh, up2_s, hs]; rw [← hs, hs]; exact nI_1 _
    have eO := hO_of o1 (by omega)
    have eS := hS_of o2 (by omega)
    refine ⟨⟨by rw [eO]; exact o1, by rw [eO]; omega, by rw [eS]; exact o2, by omega⟩, by rw [hS4, o2, hn], hZ', fun j hj => ?_⟩
    rw [eS] at hj
    rw [eO, hq _ (by omega)]
    by_cases cj : j = hS sh
    · rw [if_pos (by unfold hJ; omega)]
      refine hg.cg (fun k hk => ?_)
      exact (cell3 _ hn (56 * j + k)).2 k hk (by omega)
    · rw [if_neg (by unfold hJ; omega)]
      refine (hR j (by omega)).cg (fun k hk => ?_)
      refine ((cell3 _ hn (56 * j + k)).1 (by omega)).trans ?_
      unfold jX7_records_48
      rw [if_neg u4]
