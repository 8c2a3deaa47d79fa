theorem nmS_at (y : Int32) : ∀ (n : Nat) (h : Nat → Nat → Int32) (z : Int32), MAt h → MLen h → MAt (nmS y n h z) ∧ mA h ≤ mA (nmS y n h z) := by
  intro n
  induction n with
  | zero => exact fun h z a b => ⟨a, Nat.le_refl _⟩
  | succ n ih =>
    intro h z ha hl
    rw [nmS]
    by_cases c1 : (h 0 12) = 0
    · rw [if_pos c1]; exact ⟨ha, Nat.le_refl _⟩
    rw [if_neg c1]
    by_cases c2 : z ≤ 0
    · rw [if_pos c2]; exact ⟨ha, Nat.le_refl _⟩
    rw [if_neg c2]
    by_cases c3 : (rX7_in (rX7_sign h) 48 57) = 0
    · rw [if_pos c3]; exact ⟨ha, Nat.le_refl _⟩
    rw [if_neg c3]
    by_cases c4 : y < (((10 * z) + (rX7_sign h)) - 48)
    · rw [if_pos c4]; exact ⟨ha, Nat.le_refl _⟩
    rw [if_neg c4]
    have hup := MAt.up ha hl (in_d c3) (z := (h 0 11) + 1) rfl
    have hl2 : MLen (up2 h 0 11 ((h 0 11) + 1)) := MLen.of (h := h) (up2_k (by decide)) hl
    have r := ih _ (((10 * z) + (rX7_sign h)) - 48) hup.1 hl2
    exact ⟨r.1, by have := hup.2; have := r.2; omega⟩
theorem nmS_8 (y : Int32) : ∀ (n : Nat) (h : Nat → Nat → Int32) (z : Int32), (nmS y n h z) 0 8 = h 0 8 ∧ (nmS y n h z) 0 14 = h 0 14 := by
  intro n
  induction n with
  | zero => exact fun h z => ⟨rfl, rfl⟩
  | succ n ih =>
    intro h z
    rw [nmS]
    by_cases c1 : (h 0 12) = 0
    · rw [if_pos c1]; exact ⟨rfl, rfl⟩
    rw [if_neg c1]
    by_cases c2 : z ≤ 0
    · rw [if_pos c2]; exact ⟨rfl, rfl⟩
    rw [if_neg c2]
    by_cases c3 : (rX7_in (rX7_sign h) 48 57) = 0
    · rw [if_pos c3]; exact ⟨rfl, rfl⟩
    rw [if_neg c3]
    by_cases c4 : y < (((10 * z) + (rX7_sign h)) - 48)
    · rw [if_pos c4]; exact ⟨rfl, rfl⟩
    rw [if_neg c4]
    have r := ih (up2 h 0 11 ((h 0 11) + 1)) (((10 * z) + (rX7_sign h)) - 48)
    exact ⟨r.1.trans (up2_k (by decide)), r.2.trans (up2_k (by decide))⟩
