theorem mA_of {h k : Nat → Nat → Int32} (e : k 0 11 = h 0 11) : mA k = mA h := by unfold mA; rw [e]
theorem nmA_e (u : Nat → Nat → Int32) (x y : Int32) : (nmA u x y) 0 8 = u 0 8 ∧ (nmA u x y) 0 11 = u 0 11 ∧ (nmA u x y) 0 12 = nmW u x y ∧ (nmA u x y) 0 14 = u 0 14 := by
  unfold nmA
  exact ⟨up2_k (by decide), up2_k (by decide), up2_s, up2_k (by decide)⟩
theorem nmB_e (u : Nat → Nat → Int32) (x y : Int32) : (nmB u x y) 0 8 = u 0 8 ∧ (nmB u x y) 0 14 = u 0 14 := by
  unfold nmB
  exact ⟨(up2_k (by decide)).trans (nmA_e u x y).1, (up2_k (by decide)).trans (nmA_e u x y).2.2.2⟩
theorem nmB_ge {u : Nat → Nat → Int32} {x : Int32} (y : Int32) (hxo : x = 0 ∨ x = 1) (ha : MAt u) (hl : MLen u) : mA u ≤ mA (nmB u x y) := by
  have e11 := (nmA_e u x y).2.1
  unfold nmB
  by_cases c : ((nmA u x y) 0 12) = 0
  · rw [if_pos c]
    refine Nat.le_of_eq (mA_of (h := u) ?_).symm
    rw [up2_s, e11]
    exact Int32.add_zero _
  · rw [if_neg c]
    have hup := MAt.up (nmA_at x y ha) (nmA_len x y hl) (z := ((nmA u x y) 0 11) + 1) ?_ rfl
    · rw [hup.2, mA_of e11]
      exact Nat.le_succ _
    · intro d
      rw [(nmA_e u x y).1, e11] at d
      rw [(nmA_e u x y).2.2.1] at c
      apply c
      unfold nmW
      by_cases c1 : (u 0 12) = 0
      · rw [if_pos c1]
      · rw [if_neg c1, sign_ge d]
        refine if_pos ?_
        rcases hxo with r | r
        · rw [r, rX7_in, if_pos (by decide)]
        · rw [r, rX7_in, if_pos (by decide)]
/-- number keeps the reading place a natural, moves it on only, and leaves the length and the commands' count -/
theorem num_keep {u : Nat → Nat → Int32} {x : Int32} (y : Int32) (hxo : x = 0 ∨ x = 1) (ha : MAt u) (hl : MLen u) : MAt (sX7_number u x y) ∧ mA u ≤ mA (sX7_number u x y) ∧ (sX7_number u x y) 0 8 = u 0 8 ∧ (sX7_number u x y) 0 14 = u 0 14 := by
  have r := nmS_at y 60 (nmB u x y) ((rX7_sign (nmA u x y)) - 48) (nmB_at y hxo ha hl) (nmB_len x y hl)
  have q := nmS_8 y 60 (nmB u x y) ((rX7_sign (nmA u x y)) - 48)
  have b := nmB_e u x y
  rw [sX7_number]
  exact ⟨r.1, Nat.le_trans (nmB_ge y hxo ha hl) r.2, q.1.trans b.1, q.2.trans b.2⟩
