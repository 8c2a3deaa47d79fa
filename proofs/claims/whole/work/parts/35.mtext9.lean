theorem rdC_ge {u : Nat → Nat → Int32} (ha : MAt u) (hl : MLen u) : mA u ≤ mA (rdC u) ∧ (¬ (rdC u) 0 12 = 0 → mA u + 1 ≤ mA (rdC u)) := by
  have e11 : (up2 u 0 12 (rX7_isLetter (rX7_sign u))) 0 11 = u 0 11 := up2_k (by decide)
  have e8 : (up2 u 0 12 (rX7_isLetter (rX7_sign u))) 0 8 = u 0 8 := up2_k (by decide)
  have eB : (rdC u) 0 11 = (rdB u) 0 11 := by unfold rdC; exact up2_d (by decide)
  have e12 : (rdC u) 0 12 = rX7_isLetter (rX7_sign u) := by
    unfold rdC rdB
    exact (up2_d (by decide)).trans ((up2_k (by decide)).trans up2_s)
  rw [mA_of eB, e12]
  unfold rdB b01
  by_cases c : rX7_isLetter (rX7_sign u) = 0
  · rw [if_pos c]
    refine ⟨Nat.le_of_eq (mA_of (h := u) ?_).symm, fun d => absurd c d⟩
    rw [up2_s]
    exact Int32.add_zero _
  · rw [if_neg c]
    have hup := MAt.up (h := up2 u 0 12 (rX7_isLetter (rX7_sign u))) (z := (u 0 11) + 1) (MAt.of e11 ha) (MLen.of e8 hl) ?_ (by rw [e11])
    · rw [hup.2, mA_of e11]
      exact ⟨Nat.le_succ _, fun _ => Nat.le_refl _⟩
    · rw [e8, e11]
      intro d
      apply c
      rw [sign_ge d]
      rfl
/-- readsCommand: the reading place, the length, the commands' count -/
theorem rdc_keep {u : Nat → Nat → Int32} (ha : MAt u) (hl : MLen u) (hk : mK u < 32 ∧ u 0 14 = nI (mK u)) : MAt (sX7_readsCommand u) ∧ (sX7_readsCommand u) 0 8 = u 0 8 ∧ ∃ j : Nat, j ≤ 1 ∧ (sX7_readsCommand u) 0 14 = nI (mK u + j) ∧ mA u + j ≤ mA (sX7_readsCommand u) := by
  have hC := rdC_ge ha hl
  have aC := rdC_at ha hl
  have lC := rdC_len hl
  have v := val_keep (rX7_sign u) aC lC
  have e8 : (rdC u) 0 8 = u 0 8 := by
    unfold rdC rdB
    exact (up2_d (by decide)).trans ((up2_k (by decide)).trans (up2_k (by decide)))
  unfold sX7_readsCommand
  by_cases c : ((rdC u) 0 12) = 0
  · rw [if_pos c]
    have e11 : ∀ z w, (up2 (up2 (rdC u) 6 (2 * mK u + 1) z) 0 14 w) 0 11 = (rdC u) 0 11 := fun z w => (up2_k (by decide)).trans (up2_d (by decide))
    refine ⟨MAt.of (e11 _ _) aC, ((up2_k (by decide)).trans (up2_d (by decide))).trans e8, 0, Nat.zero_le _, ?_, ?_⟩
    · rw [up2_s, rdC_14 hk]
      exact Int32.add_zero _
    · rw [mA_of (e11 _ _)]
      exact hC.1
  · rw [if_neg c]
    have e11 : ∀ z w, (up2 (up2 (sX7_valueOf (rdC u) (rX7_sign u)) 6 (2 * mK u + 1) z) 0 14 w) 0 11 = (sX7_valueOf (rdC u) (rX7_sign u)) 0 11 := fun z w => (up2_k (by decide)).trans (up2_d (by decide))
    have hg := hC.2 c
    refine ⟨MAt.of (e11 _ _) v.1, ((up2_k (by decide)).trans (up2_d (by decide))).trans (v.2.2.1.trans e8), ?_⟩
    by_cases c2 : ((sX7_valueOf (rdC u) (rX7_sign u)) 0 12) = 0
    · rw [if_pos c2]
      refine ⟨0, Nat.zero_le _, ?_, ?_⟩
      · rw [up2_s, v.2.2.2, rdC_14 hk]
        exact Int32.add_zero _
      · rw [mA_of (e11 _ _)]
        exact Nat.le_trans hC.1 v.2.1
    · rw [if_neg c2]
      refine ⟨1, Nat.le_refl _, ?_, ?_⟩
      · rw [up2_s, v.2.2.2, rdC_14 hk]
        exact nI_1 _
      · rw [mA_of (e11 _ _)]
        exact Nat.le_trans hg v.2.1
