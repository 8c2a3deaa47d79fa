theorem mAl_ge {u : Nat → Nat → Int32} (ha : MAt u) (hl : MLen u) : mA u ≤ mA (mAl u) := by
  unfold mAl b01
  by_cases c : mLess u = 0
  · rw [if_pos c]
    refine Nat.le_of_eq (mA_of (h := u) ?_).symm
    rw [up2_s]
    exact Int32.add_zero _
  · rw [if_neg c]
    have hup := MAt.up ha hl (z := (u 0 11) + 1) ?_ rfl
    · rw [hup.2]
      exact Nat.le_succ _
    · intro d
      apply c
      unfold mLess
      by_cases c1 : (u 0 12) = 0
      · rw [if_pos c1]
      · rw [if_neg c1, sign_ge d, if_neg (by decide)]
theorem al_keep {u : Nat → Nat → Int32} (ha : MAt u) (hl : MLen u) : MAt (sX7_alignment u) ∧ mA u ≤ mA (sX7_alignment u) ∧ (sX7_alignment u) 0 8 = u 0 8 ∧ (sX7_alignment u) 0 14 = u 0 14 := by
  have r := num_keep 9 (b01_01 (mLess u)) (mAl_at ha hl) (mAl_len hl)
  have e : (mAl u) 0 8 = u 0 8 ∧ (mAl u) 0 14 = u 0 14 := by
    unfold mAl
    exact ⟨up2_k (by decide), up2_k (by decide)⟩
  rw [sX7_alignment]
  exact ⟨r.1, Nat.le_trans (mAl_ge ha hl) r.2.1, r.2.2.1.trans e.1, r.2.2.2.trans e.2⟩
theorem val_keep {u : Nat → Nat → Int32} (x : Int32) (ha : MAt u) (hl : MLen u) : MAt (sX7_valueOf u x) ∧ mA u ≤ mA (sX7_valueOf u x) ∧ (sX7_valueOf u x) 0 8 = u 0 8 ∧ (sX7_valueOf u x) 0 14 = u 0 14 := by
  unfold sX7_valueOf
  by_cases a97 : x = 97
  · rw [if_pos a97]; exact al_keep ha hl
  rw [if_neg a97]
  by_cases a99 : x = 99
  · rw [if_pos a99]; exact num_keep _ (Or.inr rfl) ha hl
  rw [if_neg a99]
  by_cases a100 : x = 100
  · rw [if_pos a100]; exact num_keep _ (Or.inl rfl) ha hl
  rw [if_neg a100]
  by_cases a102 : x = 102
  · rw [if_pos a102]; exact num_keep _ (Or.inl rfl) ha hl
  rw [if_neg a102]
  by_cases a116 : x = 116
  · rw [if_pos a116]; exact num_keep _ (Or.inl rfl) ha hl
  rw [if_neg a116]
  by_cases a119 : x = 119
  · rw [if_pos a119]; exact num_keep _ (Or.inr rfl) ha hl
  rw [if_neg a119]
  exact ⟨ha, Nat.le_refl _, rfl, rfl⟩
