/-! ===== the pure layer: what a cell's move does, slot by slot ===== -/
theorem com_5 (u : Nat → Nat → Int32) (x : Int32) : sX7_comes u x 1 5 = (u 1 5) + (if (300 - (u 1 5)) ≤ x then 300 - (u 1 5) else x) := by
  unfold sX7_comes
  exact (up2_k (by decide)).trans up2_s
theorem com_7 (u : Nat → Nat → Int32) (x : Int32) : sX7_comes u x 1 7 = (u 1 7) + (if (300 - (u 1 5)) ≤ x then x - (300 - (u 1 5)) else 0) := by
  unfold sX7_comes
  exact up2_s
theorem mvA_0 (u : Nat → Nat → Int32) : movesA u 1 0 = (u 1 0) := by
  unfold movesA
  exact ((up2_k (by decide)).trans ((up2_k (by decide)).trans ((up2_k (by decide)).trans ((up2_k (by decide)).trans ((up2_k (by decide)).trans ((up2_k (by decide)).trans ((up2_k (by decide)).trans ((up2_k (by decide)).trans ((up2_k (by decide)).trans ((up2_k (by decide)).trans ((up2_k (by decide)).trans ((up2_k (by decide)).trans ((up2_k (by decide)).trans ((up2_k (by decide)).trans (up2_k (by decide))))))))))))))))
theorem mvA_1 (u : Nat → Nat → Int32) : movesA u 1 1 = (u 1 1) := by
  unfold movesA
  exact ((up2_k (by decide)).trans ((up2_k (by decide)).trans ((up2_k (by decide)).trans ((up2_k (by decide)).trans ((up2_k (by decide)).trans ((up2_k (by decide)).trans ((up2_k (by decide)).trans ((up2_k (by decide)).trans ((up2_k (by decide)).trans ((up2_k (by decide)).trans ((up2_k (by decide)).trans ((up2_k (by decide)).trans ((up2_k (by decide)).trans ((up2_k (by decide)).trans (up2_k (by decide))))))))))))))))
theorem mvA_2 (u : Nat → Nat → Int32) : movesA u 1 2 = (u 1 2) := by
  unfold movesA
  exact ((up2_k (by decide)).trans ((up2_k (by decide)).trans ((up2_k (by decide)).trans ((up2_k (by decide)).trans ((up2_k (by decide)).trans ((up2_k (by decide)).trans ((up2_k (by decide)).trans ((up2_k (by decide)).trans ((up2_k (by decide)).trans ((up2_k (by decide)).trans ((up2_k (by decide)).trans ((up2_k (by decide)).trans ((up2_k (by decide)).trans ((up2_k (by decide)).trans (up2_k (by decide))))))))))))))))
theorem mvA_3 (u : Nat → Nat → Int32) : movesA u 1 3 = (u 1 3) := by
  unfold movesA
  exact ((up2_k (by decide)).trans ((up2_k (by decide)).trans ((up2_k (by decide)).trans ((up2_k (by decide)).trans ((up2_k (by decide)).trans ((up2_k (by decide)).trans ((up2_k (by decide)).trans ((up2_k (by decide)).trans ((up2_k (by decide)).trans ((up2_k (by decide)).trans ((up2_k (by decide)).trans ((up2_k (by decide)).trans ((up2_k (by decide)).trans ((up2_k (by decide)).trans (up2_k (by decide))))))))))))))))
theorem mvA_4 (u : Nat → Nat → Int32) : movesA u 1 4 = (u 1 4) := by
  unfold movesA
  exact ((up2_k (by decide)).trans ((up2_k (by decide)).trans ((up2_k (by decide)).trans ((up2_k (by decide)).trans ((up2_k (by decide)).trans ((up2_k (by decide)).trans ((up2_k (by decide)).trans ((up2_k (by decide)).trans ((up2_k (by decide)).trans ((up2_k (by decide)).trans ((up2_k (by decide)).trans ((up2_k (by decide)).trans ((up2_k (by decide)).trans ((up2_k (by decide)).trans (up2_k (by decide))))))))))))))))
theorem mvA_5 (u : Nat → Nat → Int32) : movesA u 1 5 = (u 1 5) := by
  unfold movesA
  exact ((up2_k (by decide)).trans ((up2_k (by decide)).trans ((up2_k (by decide)).trans ((up2_k (by decide)).trans ((up2_k (by decide)).trans ((up2_k (by decide)).trans ((up2_k (by decide)).trans ((up2_k (by decide)).trans ((up2_k (by decide)).trans ((up2_k (by decide)).trans ((up2_k (by decide)).trans ((up2_k (by decide)).trans ((up2_k (by decide)).trans ((up2_k (by decide)).trans (up2_k (by decide))))))))))))))))
theorem mvA_6 (u : Nat → Nat → Int32) : movesA u 1 6 = ((u 1 6) + ((u 1 23) - (movesF u))) := by
  unfold movesA
  exact ((up2_k (by decide)).trans up2_s)
theorem mvA_7 (u : Nat → Nat → Int32) : movesA u 1 7 = (u 1 7) := by
  unfold movesA
  exact ((up2_k (by decide)).trans ((up2_k (by decide)).trans ((up2_k (by decide)).trans ((up2_k (by decide)).trans ((up2_k (by decide)).trans ((up2_k (by decide)).trans ((up2_k (by decide)).trans ((up2_k (by decide)).trans ((up2_k (by decide)).trans ((up2_k (by decide)).trans ((up2_k (by decide)).trans ((up2_k (by decide)).trans ((up2_k (by decide)).trans ((up2_k (by decide)).trans (up2_k (by decide))))))))))))))))
theorem mvA_8 (u : Nat → Nat → Int32) : movesA u 1 8 = (u 1 8) := by
  unfold movesA
  exact ((up2_k (by decide)).trans ((up2_k (by decide)).trans ((up2_k (by decide)).trans ((up2_k (by decide)).trans ((up2_k (by decide)).trans ((up2_k (by decide)).trans ((up2_k (by decide)).trans ((up2_k (by decide)).trans ((up2_k (by decide)).trans ((up2_k (by decide)).trans ((up2_k (by decide)).trans ((up2_k (by decide)).trans ((up2_k (by decide)).trans ((up2_k (by decide)).trans (up2_k (by decide))))))))))))))))
theorem mvA_9 (u : Nat → Nat → Int32) : movesA u 1 9 = (u 1 9) := by
  unfold movesA
  exact ((up2_k (by decide)).trans ((up2_k (by decide)).trans ((up2_k (by decide)).trans ((up2_k (by decide)).trans ((up2_k (by decide)).trans ((up2_k (by decide)).trans ((up2_k (by decide)).trans ((up2_k (by decide)).trans ((up2_k (by decide)).trans ((up2_k (by decide)).trans ((up2_k (by decide)).trans ((up2_k (by decide)).trans ((up2_k (by decide)).trans ((up2_k (by decide)).trans (up2_k (by decide))))))))))))))))
theorem mvA_10 (u : Nat → Nat → Int32) : movesA u 1 10 = ((u 1 10) + (movesF u)) := by
  unfold movesA
  exact up2_s
theorem mvA_11 (u : Nat → Nat → Int32) : movesA u 1 11 = (u 1 11) := by
  unfold movesA
  exact ((up2_k (by decide)).trans ((up2_k (by decide)).trans ((up2_k (by decide)).trans ((up2_k (by decide)).trans ((up2_k (by decide)).trans ((up2_k (by decide)).trans ((up2_k (by decide)).trans ((up2_k (by decide)).trans ((up2_k (by decide)).trans ((up2_k (by decide)).trans ((up2_k (by decide)).trans ((up2_k (by decide)).trans ((up2_k (by decide)).trans ((up2_k (by decide)).trans (up2_k (by decide))))))))))))))))
theorem mvA_12 (u : Nat → Nat → Int32) : movesA u 1 12 = (u 1 12) := by
  unfold movesA
  exact ((up2_k (by decide)).trans ((up2_k (by decide)).trans ((up2_k (by decide)).trans ((up2_k (by decide)).trans ((up2_k (by decide)).trans ((up2_k (by decide)).trans ((up2_k (by decide)).trans ((up2_k (by decide)).trans ((up2_k (by decide)).trans ((up2_k (by decide)).trans ((up2_k (by decide)).trans ((up2_k (by decide)).trans ((up2_k (by decide)).trans ((up2_k (by decide)).trans (up2_k (by decide))))))))))))))))
theorem mvA_13 (u : Nat → Nat → Int32) : movesA u 1 13 = (u 1 13) := by
  unfold movesA
  exact ((up2_k (by decide)).trans ((up2_k (by decide)).trans ((up2_k (by decide)).trans ((up2_k (by decide)).trans ((up2_k (by decide)).trans ((up2_k (by decide)).trans ((up2_k (by decide)).trans ((up2_k (by decide)).trans ((up2_k (by decide)).trans ((up2_k (by decide)).trans ((up2_k (by decide)).trans ((up2_k (by decide)).trans ((up2_k (by decide)).trans ((up2_k (by decide)).trans (up2_k (by decide))))))))))))))))
theorem mvA_14 (u : Nat → Nat → Int32) : movesA u 1 14 = (u 1 14) := by
  unfold movesA
  exact ((up2_k (by decide)).trans ((up2_k (by decide)).trans ((up2_k (by decide)).trans ((up2_k (by decide)).trans ((up2_k (by decide)).trans ((up2_k (by decide)).trans ((up2_k (by decide)).trans ((up2_k (by decide)).trans ((up2_k (by decide)).trans ((up2_k (by decide)).trans ((up2_k (by decide)).trans ((up2_k (by decide)).trans ((up2_k (by decide)).trans ((up2_k (by decide)).trans (up2_k (by decide))))))))))))))))
theorem mvA_15 (u : Nat → Nat → Int32) : movesA u 1 15 = (u 1 15) := by
  unfold movesA
  exact ((up2_k (by decide)).trans ((up2_k (by decide)).trans ((up2_k (by decide)).trans ((up2_k (by decide)).trans ((up2_k (by decide)).trans ((up2_k (by decide)).trans ((up2_k (by decide)).trans ((up2_k (by decide)).trans ((up2_k (by decide)).trans ((up2_k (by decide)).trans ((up2_k (by decide)).trans ((up2_k (by decide)).trans ((up2_k (by decide)).trans ((up2_k (by decide)).trans (up2_k (by decide))))))))))))))))
theorem mvA_16 (u : Nat → Nat → Int32) : movesA u 1 16 = (u 1 16) := by
  unfold movesA
  exact ((up2_k (by decide)).trans ((up2_k (by decide)).trans ((up2_k (by decide)).trans ((up2_k (by decide)).trans ((up2_k (by decide)).trans ((up2_k (by decide)).trans ((up2_k (by decide)).trans ((up2_k (by decide)).trans ((up2_k (by decide)).trans ((up2_k (by decide)).trans ((up2_k (by decide)).trans ((up2_k (by decide)).trans ((up2_k (by decide)).trans ((up2_k (by decide)).trans (up2_k (by decide))))))))))))))))
theorem mvA_17 (u : Nat → Nat → Int32) : movesA u 1 17 = (u 1 17) := by
  unfold movesA
  exact ((up2_k (by decide)).trans ((up2_k (by decide)).trans ((up2_k (by decide)).trans ((up2_k (by decide)).trans ((up2_k (by decide)).trans ((up2_k (by decide)).trans ((up2_k (by decide)).trans ((up2_k (by decide)).trans ((up2_k (by decide)).trans ((up2_k (by decide)).trans ((up2_k (by decide)).trans ((up2_k (by decide)).trans ((up2_k (by decide)).trans ((up2_k (by decide)).trans (up2_k (by decide))))))))))))))))
theorem mvA_18 (u : Nat → Nat → Int32) : movesA u 1 18 = (u 1 29) := by
  unfold movesA
  exact ((up2_k (by decide)).trans ((up2_k (by decide)).trans ((up2_k (by decide)).trans up2_s)))
theorem mvA_19 (u : Nat → Nat → Int32) : movesA u 1 19 = (u 1 18) := by
  unfold movesA
  exact ((up2_k (by decide)).trans ((up2_k (by decide)).trans ((up2_k (by decide)).trans ((up2_k (by decide)).trans up2_s))))
theorem mvA_20 (u : Nat → Nat → Int32) : movesA u 1 20 = (u 1 19) := by
  unfold movesA
  exact ((up2_k (by decide)).trans ((up2_k (by decide)).trans ((up2_k (by decide)).trans ((up2_k (by decide)).trans ((up2_k (by decide)).trans up2_s)))))
theorem mvA_21 (u : Nat → Nat → Int32) : movesA u 1 21 = (u 1 20) := by
  unfold movesA
  exact ((up2_k (by decide)).trans ((up2_k (by decide)).trans ((up2_k (by decide)).trans ((up2_k (by decide)).trans ((up2_k (by decide)).trans ((up2_k (by decide)).trans up2_s))))))
theorem mvA_22 (u : Nat → Nat → Int32) : movesA u 1 22 = (u 1 21) := by
  unfold movesA
  exact ((up2_k (by decide)).trans ((up2_k (by decide)).trans ((up2_k (by decide)).trans ((up2_k (by decide)).trans ((up2_k (by decide)).trans ((up2_k (by decide)).trans ((up2_k (by decide)).trans up2_s)))))))
theorem mvA_23 (u : Nat → Nat → Int32) : movesA u 1 23 = (u 1 22) := by
  unfold movesA
  exact ((up2_k (by decide)).trans ((up2_k (by decide)).trans ((up2_k (by decide)).trans ((up2_k (by decide)).trans ((up2_k (by decide)).trans ((up2_k (by decide)).trans ((up2_k (by decide)).trans ((up2_k (by decide)).trans up2_s))))))))
theorem mvA_24 (u : Nat → Nat → Int32) : movesA u 1 24 = 0 := by
  unfold movesA
  exact ((up2_k (by decide)).trans ((up2_k (by decide)).trans up2_s))
theorem mvA_25 (u : Nat → Nat → Int32) : movesA u 1 25 = (u 1 24) := by
  unfold movesA
  exact ((up2_k (by decide)).trans ((up2_k (by decide)).trans ((up2_k (by decide)).trans ((up2_k (by decide)).trans ((up2_k (by decide)).trans ((up2_k (by decide)).trans ((up2_k (by decide)).trans ((up2_k (by decide)).trans ((up2_k (by decide)).trans ((up2_k (by decide)).trans up2_s))))))))))
theorem mvA_26 (u : Nat → Nat → Int32) : movesA u 1 26 = (u 1 25) := by
  unfold movesA
  exact ((up2_k (by decide)).trans ((up2_k (by decide)).trans ((up2_k (by decide)).trans ((up2_k (by decide)).trans ((up2_k (by decide)).trans ((up2_k (by decide)).trans ((up2_k (by decide)).trans ((up2_k (by decide)).trans ((up2_k (by decide)).trans ((up2_k (by decide)).trans ((up2_k (by decide)).trans up2_s)))))))))))
theorem mvA_27 (u : Nat → Nat → Int32) : movesA u 1 27 = (u 1 26) := by
  unfold movesA
  exact ((up2_k (by decide)).trans ((up2_k (by decide)).trans ((up2_k (by decide)).trans ((up2_k (by decide)).trans ((up2_k (by decide)).trans ((up2_k (by decide)).trans ((up2_k (by decide)).trans ((up2_k (by decide)).trans ((up2_k (by decide)).trans ((up2_k (by decide)).trans ((up2_k (by decide)).trans ((up2_k (by decide)).trans up2_s))))))))))))
theorem mvA_28 (u : Nat → Nat → Int32) : movesA u 1 28 = (u 1 27) := by
  unfold movesA
  exact ((up2_k (by decide)).trans ((up2_k (by decide)).trans ((up2_k (by decide)).trans ((up2_k (by decide)).trans ((up2_k (by decide)).trans ((up2_k (by decide)).trans ((up2_k (by decide)).trans ((up2_k (by decide)).trans ((up2_k (by decide)).trans ((up2_k (by decide)).trans ((up2_k (by decide)).trans ((up2_k (by decide)).trans ((up2_k (by decide)).trans up2_s)))))))))))))
theorem mvA_29 (u : Nat → Nat → Int32) : movesA u 1 29 = (u 1 28) := by
  unfold movesA
  exact ((up2_k (by decide)).trans ((up2_k (by decide)).trans ((up2_k (by decide)).trans ((up2_k (by decide)).trans ((up2_k (by decide)).trans ((up2_k (by decide)).trans ((up2_k (by decide)).trans ((up2_k (by decide)).trans ((up2_k (by decide)).trans ((up2_k (by decide)).trans ((up2_k (by decide)).trans ((up2_k (by decide)).trans ((up2_k (by decide)).trans ((up2_k (by decide)).trans up2_s))))))))))))))
theorem mvA_hi (u : Nat → Nat → Int32) {j : Nat} (h : 29 < j) : movesA u 1 j = u 1 j := by
  unfold movesA
  repeat rw [up2_k (by omega)]
theorem mvB_0 (u : Nat → Nat → Int32) : movesB u 1 0 = (u 1 0) := by
  unfold movesB
  exact (comes_s _ _ (by decide) (by decide)).trans (mvA_0 u)
theorem mvB_1 (u : Nat → Nat → Int32) : movesB u 1 1 = (u 1 1) := by
  unfold movesB
  exact (comes_s _ _ (by decide) (by decide)).trans (mvA_1 u)
theorem mvB_2 (u : Nat → Nat → Int32) : movesB u 1 2 = (u 1 2) := by
  unfold movesB
  exact (comes_s _ _ (by decide) (by decide)).trans (mvA_2 u)
theorem mvB_3 (u : Nat → Nat → Int32) : movesB u 1 3 = (u 1 3) := by
  unfold movesB
  exact (comes_s _ _ (by decide) (by decide)).trans (mvA_3 u)
theorem mvB_4 (u : Nat → Nat → Int32) : movesB u 1 4 = (u 1 4) := by
  unfold movesB
  exact (comes_s _ _ (by decide) (by decide)).trans (mvA_4 u)
theorem mvB_6 (u : Nat → Nat → Int32) : movesB u 1 6 = ((u 1 6) + ((u 1 23) - (movesF u))) := by
  unfold movesB
  exact (comes_s _ _ (by decide) (by decide)).trans (mvA_6 u)
theorem mvB_8 (u : Nat → Nat → Int32) : movesB u 1 8 = (u 1 8) := by
  unfold movesB
  exact (comes_s _ _ (by decide) (by decide)).trans (mvA_8 u)
theorem mvB_9 (u : Nat → Nat → Int32) : movesB u 1 9 = (u 1 9) := by
  unfold movesB
  exact (comes_s _ _ (by decide) (by decide)).trans (mvA_9 u)
theorem mvB_10 (u : Nat → Nat → Int32) : movesB u 1 10 = ((u 1 10) + (movesF u)) := by
  unfold movesB
  exact (comes_s _ _ (by decide) (by decide)).trans (mvA_10 u)
theorem mvB_11 (u : Nat → Nat → Int32) : movesB u 1 11 = (u 1 11) := by
  unfold movesB
  exact (comes_s _ _ (by decide) (by decide)).trans (mvA_11 u)
theorem mvB_12 (u : Nat → Nat → Int32) : movesB u 1 12 = (u 1 12) := by
  unfold movesB
  exact (comes_s _ _ (by decide) (by decide)).trans (mvA_12 u)
theorem mvB_13 (u : Nat → Nat → Int32) : movesB u 1 13 = (u 1 13) := by
  unfold movesB
  exact (comes_s _ _ (by decide) (by decide)).trans (mvA_13 u)
theorem mvB_14 (u : Nat → Nat → Int32) : movesB u 1 14 = (u 1 14) := by
  unfold movesB
  exact (comes_s _ _ (by decide) (by decide)).trans (mvA_14 u)
theorem mvB_15 (u : Nat → Nat → Int32) : movesB u 1 15 = (u 1 15) := by
  unfold movesB
  exact (comes_s _ _ (by decide) (by decide)).trans (mvA_15 u)
theorem mvB_16 (u : Nat → Nat → Int32) : movesB u 1 16 = (u 1 16) := by
  unfold movesB
  exact (comes_s _ _ (by decide) (by decide)).trans (mvA_16 u)
theorem mvB_17 (u : Nat → Nat → Int32) : movesB u 1 17 = (u 1 17) := by
  unfold movesB
  exact (comes_s _ _ (by decide) (by decide)).trans (mvA_17 u)
theorem mvB_18 (u : Nat → Nat → Int32) : movesB u 1 18 = (u 1 29) := by
  unfold movesB
  exact (comes_s _ _ (by decide) (by decide)).trans (mvA_18 u)
theorem mvB_19 (u : Nat → Nat → Int32) : movesB u 1 19 = (u 1 18) := by
  unfold movesB
  exact (comes_s _ _ (by decide) (by decide)).trans (mvA_19 u)
theorem mvB_20 (u : Nat → Nat → Int32) : movesB u 1 20 = (u 1 19) := by
  unfold movesB
  exact (comes_s _ _ (by decide) (by decide)).trans (mvA_20 u)
theorem mvB_21 (u : Nat → Nat → Int32) : movesB u 1 21 = (u 1 20) := by
  unfold movesB
  exact (comes_s _ _ (by decide) (by decide)).trans (mvA_21 u)
theorem mvB_22 (u : Nat → Nat → Int32) : movesB u 1 22 = (u 1 21) := by
  unfold movesB
  exact (comes_s _ _ (by decide) (by decide)).trans (mvA_22 u)
theorem mvB_23 (u : Nat → Nat → Int32) : movesB u 1 23 = (u 1 22) := by
  unfold movesB
  exact (comes_s _ _ (by decide) (by decide)).trans (mvA_23 u)
theorem mvB_24 (u : Nat → Nat → Int32) : movesB u 1 24 = 0 := by
  unfold movesB
  exact (comes_s _ _ (by decide) (by decide)).trans (mvA_24 u)
theorem mvB_25 (u : Nat → Nat → Int32) : movesB u 1 25 = (u 1 24) := by
  unfold movesB
  exact (comes_s _ _ (by decide) (by decide)).trans (mvA_25 u)
theorem mvB_26 (u : Nat → Nat → Int32) : movesB u 1 26 = (u 1 25) := by
  unfold movesB
  exact (comes_s _ _ (by decide) (by decide)).trans (mvA_26 u)
theorem mvB_27 (u : Nat → Nat → Int32) : movesB u 1 27 = (u 1 26) := by
  unfold movesB
  exact (comes_s _ _ (by decide) (by decide)).trans (mvA_27 u)
theorem mvB_28 (u : Nat → Nat → Int32) : movesB u 1 28 = (u 1 27) := by
  unfold movesB
  exact (comes_s _ _ (by decide) (by decide)).trans (mvA_28 u)
theorem mvB_29 (u : Nat → Nat → Int32) : movesB u 1 29 = (u 1 28) := by
  unfold movesB
  exact (comes_s _ _ (by decide) (by decide)).trans (mvA_29 u)
theorem mvB_hi (u : Nat → Nat → Int32) {j : Nat} (h : 29 < j) : movesB u 1 j = u 1 j := by
  unfold movesB
  exact (comes_s _ _ (by omega) (by omega)).trans (mvA_hi u h)
theorem mvB_5 (u : Nat → Nat → Int32) : movesB u 1 5 = (u 1 5) + (if (300 - (u 1 5)) ≤ movesF u then 300 - (u 1 5) else movesF u) := by
  unfold movesB
  rw [com_5, mvA_5]
theorem mvB_7 (u : Nat → Nat → Int32) : movesB u 1 7 = (u 1 7) + (if (300 - (u 1 5)) ≤ movesF u then movesF u - (300 - (u 1 5)) else 0) := by
  unfold movesB
  rw [com_7, mvA_5, mvA_7]
def mTake (u : Nat → Nat → Int32) : Int32 := if 0 ≤ ((u 1 3) - (u 1 29)) then (if (movesB u 1 5) ≤ ((u 1 3) - (u 1 29)) then movesB u 1 5 else (u 1 3) - (u 1 29)) else 0
theorem mv_5 (u : Nat → Nat → Int32) : sX7_moves u 1 5 = movesB u 1 5 - mTake u := by
  unfold sX7_moves
  rw [up2_s, mvB_3, mvB_18]
  rfl
theorem mv_18 (u : Nat → Nat → Int32) : sX7_moves u 1 18 = u 1 29 + mTake u := by
  unfold sX7_moves
  rw [up2_k (by decide), up2_s, mvB_3, mvB_18]
  rfl
theorem mv_0 (u : Nat → Nat → Int32) : sX7_moves u 1 0 = (u 1 0) := by
  unfold sX7_moves
  exact (up2_k (by decide)).trans ((up2_k (by decide)).trans (mvB_0 u))
theorem mv_1 (u : Nat → Nat → Int32) : sX7_moves u 1 1 = (u 1 1) := by
  unfold sX7_moves
  exact (up2_k (by decide)).trans ((up2_k (by decide)).trans (mvB_1 u))
theorem mv_2 (u : Nat → Nat → Int32) : sX7_moves u 1 2 = (u 1 2) := by
  unfold sX7_moves
  exact (up2_k (by decide)).trans ((up2_k (by decide)).trans (mvB_2 u))
theorem mv_3 (u : Nat → Nat → Int32) : sX7_moves u 1 3 = (u 1 3) := by
  unfold sX7_moves
  exact (up2_k (by decide)).trans ((up2_k (by decide)).trans (mvB_3 u))
theorem mv_4 (u : Nat → Nat → Int32) : sX7_moves u 1 4 = (u 1 4) := by
  unfold sX7_moves
  exact (up2_k (by decide)).trans ((up2_k (by decide)).trans (mvB_4 u))
theorem mv_6 (u : Nat → Nat → Int32) : sX7_moves u 1 6 = ((u 1 6) + ((u 1 23) - (movesF u))) := by
  unfold sX7_moves
  exact (up2_k (by decide)).trans ((up2_k (by decide)).trans (mvB_6 u))
theorem mv_7 (u : Nat → Nat → Int32) : sX7_moves u 1 7 = (u 1 7) + (if (300 - (u 1 5)) ≤ movesF u then movesF u - (300 - (u 1 5)) else 0) := by
  unfold sX7_moves
  exact (up2_k (by decide)).trans ((up2_k (by decide)).trans (mvB_7 u))
theorem mv_8 (u : Nat → Nat → Int32) : sX7_moves u 1 8 = (u 1 8) := by
  unfold sX7_moves
  exact (up2_k (by decide)).trans ((up2_k (by decide)).trans (mvB_8 u))
theorem mv_9 (u : Nat → Nat → Int32) : sX7_moves u 1 9 = (u 1 9) := by
  unfold sX7_moves
  exact (up2_k (by decide)).trans ((up2_k (by decide)).trans (mvB_9 u))
theorem mv_10 (u : Nat → Nat → Int32) : sX7_moves u 1 10 = ((u 1 10) + (movesF u)) := by
  unfold sX7_moves
  exact (up2_k (by decide)).trans ((up2_k (by decide)).trans (mvB_10 u))
theorem mv_11 (u : Nat → Nat → Int32) : sX7_moves u 1 11 = (u 1 11) := by
  unfold sX7_moves
  exact (up2_k (by decide)).trans ((up2_k (by decide)).trans (mvB_11 u))
theorem mv_12 (u : Nat → Nat → Int32) : sX7_moves u 1 12 = (u 1 12) := by
  unfold sX7_moves
  exact (up2_k (by decide)).trans ((up2_k (by decide)).trans (mvB_12 u))
theorem mv_13 (u : Nat → Nat → Int32) : sX7_moves u 1 13 = (u 1 13) := by
  unfold sX7_moves
  exact (up2_k (by decide)).trans ((up2_k (by decide)).trans (mvB_13 u))
theorem mv_14 (u : Nat → Nat → Int32) : sX7_moves u 1 14 = (u 1 14) := by
  unfold sX7_moves
  exact (up2_k (by decide)).trans ((up2_k (by decide)).trans (mvB_14 u))
theorem mv_15 (u : Nat → Nat → Int32) : sX7_moves u 1 15 = (u 1 15) := by
  unfold sX7_moves
  exact (up2_k (by decide)).trans ((up2_k (by decide)).trans (mvB_15 u))
theorem mv_16 (u : Nat → Nat → Int32) : sX7_moves u 1 16 = (u 1 16) := by
  unfold sX7_moves
  exact (up2_k (by decide)).trans ((up2_k (by decide)).trans (mvB_16 u))
theorem mv_17 (u : Nat → Nat → Int32) : sX7_moves u 1 17 = (u 1 17) := by
  unfold sX7_moves
  exact (up2_k (by decide)).trans ((up2_k (by decide)).trans (mvB_17 u))
theorem mv_19 (u : Nat → Nat → Int32) : sX7_moves u 1 19 = (u 1 18) := by
  unfold sX7_moves
  exact (up2_k (by decide)).trans ((up2_k (by decide)).trans (mvB_19 u))
theorem mv_20 (u : Nat → Nat → Int32) : sX7_moves u 1 20 = (u 1 19) := by
  unfold sX7_moves
  exact (up2_k (by decide)).trans ((up2_k (by decide)).trans (mvB_20 u))
theorem mv_21 (u : Nat → Nat → Int32) : sX7_moves u 1 21 = (u 1 20) := by
  unfold sX7_moves
  exact (up2_k (by decide)).trans ((up2_k (by decide)).trans (mvB_21 u))
theorem mv_22 (u : Nat → Nat → Int32) : sX7_moves u 1 22 = (u 1 21) := by
  unfold sX7_moves
  exact (up2_k (by decide)).trans ((up2_k (by decide)).trans (mvB_22 u))
theorem mv_23 (u : Nat → Nat → Int32) : sX7_moves u 1 23 = (u 1 22) := by
  unfold sX7_moves
  exact (up2_k (by decide)).trans ((up2_k (by decide)).trans (mvB_23 u))
theorem mv_24 (u : Nat → Nat → Int32) : sX7_moves u 1 24 = 0 := by
  unfold sX7_moves
  exact (up2_k (by decide)).trans ((up2_k (by decide)).trans (mvB_24 u))
theorem mv_25 (u : Nat → Nat → Int32) : sX7_moves u 1 25 = (u 1 24) := by
  unfold sX7_moves
  exact (up2_k (by decide)).trans ((up2_k (by decide)).trans (mvB_25 u))
theorem mv_26 (u : Nat → Nat → Int32) : sX7_moves u 1 26 = (u 1 25) := by
  unfold sX7_moves
  exact (up2_k (by decide)).trans ((up2_k (by decide)).trans (mvB_26 u))
theorem mv_27 (u : Nat → Nat → Int32) : sX7_moves u 1 27 = (u 1 26) := by
  unfold sX7_moves
  exact (up2_k (by decide)).trans ((up2_k (by decide)).trans (mvB_27 u))
theorem mv_28 (u : Nat → Nat → Int32) : sX7_moves u 1 28 = (u 1 27) := by
  unfold sX7_moves
  exact (up2_k (by decide)).trans ((up2_k (by decide)).trans (mvB_28 u))
theorem mv_29 (u : Nat → Nat → Int32) : sX7_moves u 1 29 = (u 1 28) := by
  unfold sX7_moves
  exact (up2_k (by decide)).trans ((up2_k (by decide)).trans (mvB_29 u))
theorem mv_hi (u : Nat → Nat → Int32) {j : Nat} (h : 29 < j) : sX7_moves u 1 j = u 1 j := by
  unfold sX7_moves
  rw [up2_k (by omega), up2_k (by omega), mvB_hi u h]
/-- the bucket at a place -/
def bk (g : Nat → Nat → Int32) (i : Nat) : Int32 := g 3 ((jB g + i) % 12)
theorem jB_of {g h : Nat → Nat → Int32} (e : h 2 = g 2) : jB h = jB g := by unfold jB; rw [e]
theorem bk_of {g h : Nat → Nat → Int32} (e2 : h 2 = g 2) (e3 : h 3 = g 3) (i : Nat) : bk h i = bk g i := by unfold bk; rw [jB_of e2, e3]
theorem jB_on (g : Nat → Nat → Int32) : jB (sX0_moveOn g) = (jB g + 11) % 12 := by
  unfold jB sX0_moveOn
  rw [up2_s]
  exact nI_clamp (by omega)
theorem bk_on (g : Nat → Nat → Int32) (i : Nat) : bk (sX0_moveOn g) i = bk g ((i + 11) % 12) := by
  unfold bk
  rw [jB_on, show sX0_moveOn g 3 = g 3 from up2_ne (by decide)]
  exact congrArg (g 3) (by omega)
theorem bk_empty (g : Nat → Nat → Int32) {i : Nat} (hi : i < 12) : bk (sX0_emptyAtHead g) i = if i = 6 then 0 else bk g i := by
  unfold bk
  rw [jB_of (empty_2 g)]
  unfold sX0_emptyAtHead
  rw [up2_eq]
  by_cases c : i = 6
  · rw [if_pos c, c]; exact pk_us
  · rw [if_neg c]; exact pk_un (by omega)
/-- the leg behind the belt's move, the head's emptying, the falling back -/
theorem moveA_2 (g : Nat → Nat → Int32) : moveB g 2 = sX0_moveOn g 2 := by unfold moveB moveA; rw [fall_2, up2_ne (by decide), empty_2]
theorem moveA_c (g : Nat → Nat → Int32) {a : Nat} (h2 : a ≠ 2) (h3 : a ≠ 3) (h4 : a ≠ 4) : moveB g a = g a := by
  unfold moveB moveA
  rw [fall_c _ _ h4, up2_ne h4]
  unfold sX0_emptyAtHead sX0_moveOn
  rw [up2_ne h3, up2_ne h2]
theorem bk_B (g : Nat → Nat → Int32) {i : Nat} (hi : i < 12) : bk (moveB g) i = if i = 6 then 0 else bk g ((i + 11) % 12) := by
  have e2 : moveB g 2 = sX0_emptyAtHead (sX0_moveOn g) 2 := by unfold moveB moveA; rw [fall_2, up2_ne (by decide)]
  have e3 : moveB g 3 = sX0_emptyAtHead (sX0_moveOn g) 3 := by unfold moveB moveA; rw [fall_c _ _ (by decide), up2_ne (by decide)]
  rw [bk_of e2 e3, bk_empty _ hi, bk_on]
theorem jB_lt {g : Nat → Nat → Int32} (h : LegOK g) : jB g < 12 := h.eq.2
theorem okB (g : Nat → Nat → Int32) : LegOK (moveB g) := LegOK.of (g := sX0_moveOn g) ⟨(jB g + 11) % 12, Nat.mod_lt _ (by decide), up2_s⟩ (moveA_2 g)
def gTake (g : Nat → Nat → Int32) : Int32 := rX0_fillInBoot (moveB g) (moveB g 4 0) (moveB g 1 3)
theorem gTake_eq (g : Nat → Nat → Int32) : gTake g = imin (moveB g 4 0) (imax 0 (g 1 3 - bk g 11)) := by
  have hj := jB_lt (okB g)
  have e := bk_B g (i := 0) (by decide)
  rw [if_neg (by decide)] at e
  have e0 : moveB g 3 (jB (moveB g)) = bk g 11 := by rw [← e, bk, Nat.add_zero, Nat.mod_eq_of_lt hj]
  unfold gTake rX0_fillInBoot
  rw [e0, show moveB g 1 = g 1 from moveA_c g (by decide) (by decide) (by decide)]
theorem bk_M (g : Nat → Nat → Int32) {i : Nat} (hi : i < 12) : bk (sX3_moveOneCell g) i = if i = 0 then bk g 11 + gTake g else if i = 6 then 0 else bk g (i - 1) := by
  have hj := jB_lt (okB g)
  have e := bk_B g (i := 0) (by decide)
  rw [if_neg (by decide)] at e
  have e0 : moveB g 3 (jB (moveB g)) = bk g 11 := by rw [← e, bk, Nat.add_zero, Nat.mod_eq_of_lt hj]
  have e2 : sX3_moveOneCell g 2 = moveB g 2 := by unfold sX3_moveOneCell; rw [up2_ne (by decide), fill_2]
  have e3 : sX3_moveOneCell g 3 = upd (moveB g 3) (jB (moveB g)) (bk g 11 + gTake g) := by
    unfold sX3_moveOneCell
    rw [up2_ne (by decide)]
    unfold sX0_fillInBoot
    rw [up2_eq, e0]
    rw [gTake, rX0_fillInBoot, e0]
  unfold bk
  rw [jB_of e2, e3]
  by_cases c : i = 0
  · rw [if_pos c, c, Nat.add_zero, Nat.mod_eq_of_lt hj]
    exact pk_us
  · rw [if_neg c]
    refine (pk_un (by omega)).trans ?_
    have eB := bk_B g hi
    unfold bk at eB
    rw [eB]
    by_cases c6 : i = 6
    · rw [if_pos c6, if_pos c6]
    · rw [if_neg c6, if_neg c6]
      exact congrArg (g 3) (by omega)
theorem lifted (g : Nat → Nat → Int32) : rX0_emptyAtHead (sX0_moveOn g) = bk g 5 := bk_on g 6
theorem moveF_eq (g : Nat → Nat → Int32) : moveF g = if g 0 9 < 2 then bk g 5 / 2 else 0 := by
  unfold moveF
  rw [lifted, empty_0, moveOn_0]
/-- the leg's other cells behind a cell's move -/
theorem mc_c (g : Nat → Nat → Int32) {a : Nat} (h2 : a ≠ 2) (h3 : a ≠ 3) (h4 : a ≠ 4) : sX3_moveOneCell g a = g a := by
  unfold sX3_moveOneCell
  rw [up2_ne h4]
  unfold sX0_fillInBoot
  rw [up2_ne h3, moveA_c g h2 h3 h4]
theorem mB4 (g : Nat → Nat → Int32) : moveB g 4 0 = g 4 0 + imin (moveF g) (300 - g 4 0) ∧ moveB g 4 1 = g 4 1 + (bk g 5 - moveF g) ∧ moveB g 4 2 = g 4 2 + (moveF g - imin (moveF g) (300 - g 4 0)) ∧ moveB g 4 3 = g 4 3 ∧ moveB g 4 4 = g 4 4 ∧ moveB g 4 5 = g 4 5 + moveF g := by
  have e4 : sX0_emptyAtHead (sX0_moveOn g) 4 = g 4 := by unfold sX0_emptyAtHead sX0_moveOn; rw [up2_ne (by decide), up2_ne (by decide)]
  unfold moveB sX1_fallBack sX1_pourIntoBoot moveA
  rw [lifted, e4]
  refine ⟨?_, ?_, ?_, ?_, ?_, ?_⟩ <;> simp only [up2_c, e4] <;> rfl
theorem mc4 (g : Nat → Nat → Int32) : sX3_moveOneCell g 4 0 = moveB g 4 0 - gTake g ∧ ∀ j, j ≠ 0 → sX3_moveOneCell g 4 j = moveB g 4 j := by
  unfold sX3_moveOneCell
  refine ⟨up2_s, fun j hj => ?_⟩
  rw [up2_k hj]
  unfold sX0_fillInBoot
  exact up2_d (by decide)
