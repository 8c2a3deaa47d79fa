/-! ===== a trip, on both sides ===== -/
theorem rload_of {u v : Nat → Nat → Int32} (h : ∀ j, j = 5 ∨ (18 < j ∧ j < 25) → v 1 j = u 1 j) : rX7_load v = rX7_load u := by
  unfold rX7_load
  rw [h 5 (by omega), h 19 (by omega), h 20 (by omega), h 21 (by omega), h 22 (by omega), h 23 (by omega), h 24 (by omega)]
section TRP
variable {u : Nat → Nat → Int32} {x : Int32} (hk : x.toNatClampNeg ≤ 2)
theorem tA_0 (hk : x.toNatClampNeg ≤ 2) : tripsA u x 1 0 = u 1 0 := by
  unfold tripsA
  exact ((up2_k (by omega)).trans ((up2_k (by decide)).trans ((up2_k (by decide)).trans (up2_k (by decide)))))
theorem tA_1 (hk : x.toNatClampNeg ≤ 2) : tripsA u x 1 1 = u 1 1 := by
  unfold tripsA
  exact ((up2_k (by omega)).trans ((up2_k (by decide)).trans ((up2_k (by decide)).trans (up2_k (by decide)))))
theorem tA_2 (hk : x.toNatClampNeg ≤ 2) : tripsA u x 1 2 = u 1 2 := by
  unfold tripsA
  exact ((up2_k (by omega)).trans ((up2_k (by decide)).trans ((up2_k (by decide)).trans (up2_k (by decide)))))
theorem tA_3 (hk : x.toNatClampNeg ≤ 2) : tripsA u x 1 3 = u 1 3 := by
  unfold tripsA
  exact ((up2_k (by omega)).trans ((up2_k (by decide)).trans ((up2_k (by decide)).trans (up2_k (by decide)))))
theorem tA_4 (hk : x.toNatClampNeg ≤ 2) : tripsA u x 1 4 = u 1 4 := by
  unfold tripsA
  exact ((up2_k (by omega)).trans ((up2_k (by decide)).trans ((up2_k (by decide)).trans (up2_k (by decide)))))
theorem tA_5 (hk : x.toNatClampNeg ≤ 2) : tripsA u x 1 5 = u 1 5 := by
  unfold tripsA
  exact ((up2_k (by omega)).trans ((up2_k (by decide)).trans ((up2_k (by decide)).trans (up2_k (by decide)))))
theorem tA_6 (hk : x.toNatClampNeg ≤ 2) : tripsA u x 1 6 = u 1 6 := by
  unfold tripsA
  exact ((up2_k (by omega)).trans ((up2_k (by decide)).trans ((up2_k (by decide)).trans (up2_k (by decide)))))
theorem tA_7 (hk : x.toNatClampNeg ≤ 2) : tripsA u x 1 7 = u 1 7 := by
  unfold tripsA
  exact ((up2_k (by omega)).trans ((up2_k (by decide)).trans ((up2_k (by decide)).trans (up2_k (by decide)))))
theorem tA_8 (hk : x.toNatClampNeg ≤ 2) : tripsA u x 1 8 = u 1 8 := by
  unfold tripsA
  exact ((up2_k (by omega)).trans ((up2_k (by decide)).trans ((up2_k (by decide)).trans (up2_k (by decide)))))
theorem tA_9 (hk : x.toNatClampNeg ≤ 2) : tripsA u x 1 9 = u 1 9 := by
  unfold tripsA
  exact ((up2_k (by omega)).trans ((up2_k (by decide)).trans ((up2_k (by decide)).trans (up2_k (by decide)))))
theorem tA_10 (hk : x.toNatClampNeg ≤ 2) : tripsA u x 1 10 = u 1 10 := by
  unfold tripsA
  exact ((up2_k (by omega)).trans ((up2_k (by decide)).trans ((up2_k (by decide)).trans (up2_k (by decide)))))
theorem tA_11 (hk : x.toNatClampNeg ≤ 2) : tripsA u x 1 11 = u 1 11 := by
  unfold tripsA
  exact ((up2_k (by omega)).trans ((up2_k (by decide)).trans ((up2_k (by decide)).trans (up2_k (by decide)))))
theorem tA_12 (hk : x.toNatClampNeg ≤ 2) : tripsA u x 1 12 = u 1 12 := by
  unfold tripsA
  exact ((up2_k (by omega)).trans ((up2_k (by decide)).trans ((up2_k (by decide)).trans (up2_k (by decide)))))
theorem tA_13 (hk : x.toNatClampNeg ≤ 2) : tripsA u x 1 13 = u 1 13 := by
  unfold tripsA
  exact ((up2_k (by omega)).trans ((up2_k (by decide)).trans ((up2_k (by decide)).trans (up2_k (by decide)))))
theorem tA_14 (hk : x.toNatClampNeg ≤ 2) : tripsA u x 1 14 = 0 := by
  unfold tripsA
  exact ((up2_k (by omega)).trans ((up2_k (by decide)).trans ((up2_k (by decide)).trans up2_s)))
theorem tA_15 (hk : x.toNatClampNeg ≤ 2) : tripsA u x 1 15 = 0 := by
  unfold tripsA
  exact ((up2_k (by omega)).trans ((up2_k (by decide)).trans up2_s))
theorem tA_16 (hk : x.toNatClampNeg ≤ 2) : tripsA u x 1 16 = x + 1 := by
  unfold tripsA
  exact ((up2_k (by omega)).trans up2_s)
theorem tA_17 (hk : x.toNatClampNeg ≤ 2) : tripsA u x 1 17 = u 1 17 := by
  unfold tripsA
  exact ((up2_k (by omega)).trans ((up2_k (by decide)).trans ((up2_k (by decide)).trans (up2_k (by decide)))))
theorem tA_18 (hk : x.toNatClampNeg ≤ 2) : tripsA u x 1 18 = u 1 18 := by
  unfold tripsA
  exact ((up2_k (by omega)).trans ((up2_k (by decide)).trans ((up2_k (by decide)).trans (up2_k (by decide)))))
theorem tA_19 (hk : x.toNatClampNeg ≤ 2) : tripsA u x 1 19 = u 1 19 := by
  unfold tripsA
  exact ((up2_k (by omega)).trans ((up2_k (by decide)).trans ((up2_k (by decide)).trans (up2_k (by decide)))))
theorem tA_20 (hk : x.toNatClampNeg ≤ 2) : tripsA u x 1 20 = u 1 20 := by
  unfold tripsA
  exact ((up2_k (by omega)).trans ((up2_k (by decide)).trans ((up2_k (by decide)).trans (up2_k (by decide)))))
theorem tA_21 (hk : x.toNatClampNeg ≤ 2) : tripsA u x 1 21 = u 1 21 := by
  unfold tripsA
  exact ((up2_k (by omega)).trans ((up2_k (by decide)).trans ((up2_k (by decide)).trans (up2_k (by decide)))))
theorem tA_22 (hk : x.toNatClampNeg ≤ 2) : tripsA u x 1 22 = u 1 22 := by
  unfold tripsA
  exact ((up2_k (by omega)).trans ((up2_k (by decide)).trans ((up2_k (by decide)).trans (up2_k (by decide)))))
theorem tA_23 (hk : x.toNatClampNeg ≤ 2) : tripsA u x 1 23 = u 1 23 := by
  unfold tripsA
  exact ((up2_k (by omega)).trans ((up2_k (by decide)).trans ((up2_k (by decide)).trans (up2_k (by decide)))))
theorem tA_24 (hk : x.toNatClampNeg ≤ 2) : tripsA u x 1 24 = u 1 24 := by
  unfold tripsA
  exact ((up2_k (by omega)).trans ((up2_k (by decide)).trans ((up2_k (by decide)).trans (up2_k (by decide)))))
theorem tA_25 (hk : x.toNatClampNeg ≤ 2) : tripsA u x 1 25 = u 1 25 := by
  unfold tripsA
  exact ((up2_k (by omega)).trans ((up2_k (by decide)).trans ((up2_k (by decide)).trans (up2_k (by decide)))))
theorem tA_26 (hk : x.toNatClampNeg ≤ 2) : tripsA u x 1 26 = u 1 26 := by
  unfold tripsA
  exact ((up2_k (by omega)).trans ((up2_k (by decide)).trans ((up2_k (by decide)).trans (up2_k (by decide)))))
theorem tA_27 (hk : x.toNatClampNeg ≤ 2) : tripsA u x 1 27 = u 1 27 := by
  unfold tripsA
  exact ((up2_k (by omega)).trans ((up2_k (by decide)).trans ((up2_k (by decide)).trans (up2_k (by decide)))))
theorem tA_28 (hk : x.toNatClampNeg ≤ 2) : tripsA u x 1 28 = u 1 28 := by
  unfold tripsA
  exact ((up2_k (by omega)).trans ((up2_k (by decide)).trans ((up2_k (by decide)).trans (up2_k (by decide)))))
theorem tA_29 (hk : x.toNatClampNeg ≤ 2) : tripsA u x 1 29 = u 1 29 := by
  unfold tripsA
  exact ((up2_k (by omega)).trans ((up2_k (by decide)).trans ((up2_k (by decide)).trans (up2_k (by decide)))))
theorem tA_30 (hk : x.toNatClampNeg ≤ 2) : tripsA u x 1 30 = u 1 30 := by
  unfold tripsA
  exact ((up2_k (by omega)).trans ((up2_k (by decide)).trans ((up2_k (by decide)).trans (up2_k (by decide)))))
theorem tA_31 (hk : x.toNatClampNeg ≤ 2) : tripsA u x 1 31 = u 1 31 := by
  unfold tripsA
  exact ((up2_k (by omega)).trans ((up2_k (by decide)).trans ((up2_k (by decide)).trans (up2_k (by decide)))))
theorem tA_32 (hk : x.toNatClampNeg ≤ 2) : tripsA u x 1 32 = u 1 32 := by
  unfold tripsA
  exact ((up2_k (by omega)).trans ((up2_k (by decide)).trans ((up2_k (by decide)).trans (up2_k (by decide)))))
theorem tA_36 (hk : x.toNatClampNeg ≤ 2) : tripsA u x 1 36 = u 1 36 := by
  unfold tripsA
  exact ((up2_k (by omega)).trans ((up2_k (by decide)).trans ((up2_k (by decide)).trans (up2_k (by decide)))))
theorem tA_37 (hk : x.toNatClampNeg ≤ 2) : tripsA u x 1 37 = u 1 37 := by
  unfold tripsA
  exact ((up2_k (by omega)).trans ((up2_k (by decide)).trans ((up2_k (by decide)).trans (up2_k (by decide)))))
theorem tA_38 (hk : x.toNatClampNeg ≤ 2) : tripsA u x 1 38 = u 1 38 := by
  unfold tripsA
  exact ((up2_k (by omega)).trans ((up2_k (by decide)).trans ((up2_k (by decide)).trans (up2_k (by decide)))))
theorem tA_39 (hk : x.toNatClampNeg ≤ 2) : tripsA u x 1 39 = u 1 39 := by
  unfold tripsA
  exact ((up2_k (by omega)).trans ((up2_k (by decide)).trans ((up2_k (by decide)).trans (up2_k (by decide)))))
theorem tA_40 (hk : x.toNatClampNeg ≤ 2) : tripsA u x 1 40 = u 1 40 := by
  unfold tripsA
  exact ((up2_k (by omega)).trans ((up2_k (by decide)).trans ((up2_k (by decide)).trans (up2_k (by decide)))))
theorem tA_41 (hk : x.toNatClampNeg ≤ 2) : tripsA u x 1 41 = u 1 41 := by
  unfold tripsA
  exact ((up2_k (by omega)).trans ((up2_k (by decide)).trans ((up2_k (by decide)).trans (up2_k (by decide)))))
theorem tA_42 (hk : x.toNatClampNeg ≤ 2) : tripsA u x 1 42 = u 1 42 := by
  unfold tripsA
  exact ((up2_k (by omega)).trans ((up2_k (by decide)).trans ((up2_k (by decide)).trans (up2_k (by decide)))))
theorem tA_43 (hk : x.toNatClampNeg ≤ 2) : tripsA u x 1 43 = u 1 43 := by
  unfold tripsA
  exact ((up2_k (by omega)).trans ((up2_k (by decide)).trans ((up2_k (by decide)).trans (up2_k (by decide)))))
theorem tA_44 (hk : x.toNatClampNeg ≤ 2) : tripsA u x 1 44 = u 1 44 := by
  unfold tripsA
  exact ((up2_k (by omega)).trans ((up2_k (by decide)).trans ((up2_k (by decide)).trans (up2_k (by decide)))))
theorem tA_45 (hk : x.toNatClampNeg ≤ 2) : tripsA u x 1 45 = u 1 45 := by
  unfold tripsA
  exact ((up2_k (by omega)).trans ((up2_k (by decide)).trans ((up2_k (by decide)).trans (up2_k (by decide)))))
theorem tA_46 (hk : x.toNatClampNeg ≤ 2) : tripsA u x 1 46 = u 1 46 := by
  unfold tripsA
  exact ((up2_k (by omega)).trans ((up2_k (by decide)).trans ((up2_k (by decide)).trans (up2_k (by decide)))))
theorem tA_47 (hk : x.toNatClampNeg ≤ 2) : tripsA u x 1 47 = u 1 47 := by
  unfold tripsA
  exact ((up2_k (by omega)).trans ((up2_k (by decide)).trans ((up2_k (by decide)).trans (up2_k (by decide)))))
theorem tA_48 (hk : x.toNatClampNeg ≤ 2) : tripsA u x 1 48 = u 1 48 := by
  unfold tripsA
  exact ((up2_k (by omega)).trans ((up2_k (by decide)).trans ((up2_k (by decide)).trans (up2_k (by decide)))))
theorem tA_49 (hk : x.toNatClampNeg ≤ 2) : tripsA u x 1 49 = u 1 49 := by
  unfold tripsA
  exact ((up2_k (by omega)).trans ((up2_k (by decide)).trans ((up2_k (by decide)).trans (up2_k (by decide)))))
theorem tA_50 (hk : x.toNatClampNeg ≤ 2) : tripsA u x 1 50 = u 1 50 := by
  unfold tripsA
  exact ((up2_k (by omega)).trans ((up2_k (by decide)).trans ((up2_k (by decide)).trans (up2_k (by decide)))))
theorem tA_51 (hk : x.toNatClampNeg ≤ 2) : tripsA u x 1 51 = u 1 51 := by
  unfold tripsA
  exact ((up2_k (by omega)).trans ((up2_k (by decide)).trans ((up2_k (by decide)).trans (up2_k (by decide)))))
theorem tA_52 (hk : x.toNatClampNeg ≤ 2) : tripsA u x 1 52 = u 1 52 := by
  unfold tripsA
  exact ((up2_k (by omega)).trans ((up2_k (by decide)).trans ((up2_k (by decide)).trans (up2_k (by decide)))))
theorem tA_53 (hk : x.toNatClampNeg ≤ 2) : tripsA u x 1 53 = u 1 53 := by
  unfold tripsA
  exact ((up2_k (by omega)).trans ((up2_k (by decide)).trans ((up2_k (by decide)).trans (up2_k (by decide)))))
theorem tA_54 (hk : x.toNatClampNeg ≤ 2) : tripsA u x 1 54 = u 1 54 := by
  unfold tripsA
  exact ((up2_k (by omega)).trans ((up2_k (by decide)).trans ((up2_k (by decide)).trans (up2_k (by decide)))))
theorem tA_55 (hk : x.toNatClampNeg ≤ 2) : tripsA u x 1 55 = u 1 55 := by
  unfold tripsA
  exact ((up2_k (by omega)).trans ((up2_k (by decide)).trans ((up2_k (by decide)).trans (up2_k (by decide)))))
theorem tA_n {k : Nat} (h : k < 3) : tripsA u x 1 (33 + k) = if k = x.toNatClampNeg then u 1 (33 + k) + 1 else u 1 (33 + k) := by
  have e : ∀ j, 33 ≤ j → (up2 (up2 (up2 u 1 14 0) 1 15 0) 1 16 (x + 1)) 1 j = u 1 j := fun j hj => (up2_k (by omega)).trans ((up2_k (by omega)).trans (up2_k (by omega)))
  unfold tripsA
  by_cases c : k = x.toNatClampNeg
  · rw [if_pos c, ← c, up2_s, e _ (by omega)]
  · rw [if_neg c]
    exact (up2_k (by omega)).trans (e _ (by omega))
theorem tS_0 (hk : x.toNatClampNeg ≤ 2) : sX7_trips u x 1 0 = u 1 0 := by
  unfold sX7_trips
  exact ((up2_k (by decide)).trans ((up2_k (by decide)).trans ((up2_k (by decide)).trans ((up2_k (by decide)).trans ((up2_k (by decide)).trans ((up2_k (by decide)).trans ((up2_k (by decide)).trans ((up2_k (by decide)).trans ((up2_k (by decide)).trans ((up2_k (by decide)).trans ((up2_k (by decide)).trans ((up2_k (by decide)).trans ((up2_k (by decide)).trans ((up2_k (by decide)).trans ((up2_k (by decide)).trans ((up2_k (by decide)).trans ((up2_k (by decide)).trans ((up2_k (by decide)).trans ((up2_k (by decide)).trans (tA_0 hk))))))))))))))))))))
theorem tS_1 (hk : x.toNatClampNeg ≤ 2) : sX7_trips u x 1 1 = u 1 1 := by
  unfold sX7_trips
  exact ((up2_k (by decide)).trans ((up2_k (by decide)).trans ((up2_k (by decide)).trans ((up2_k (by decide)).trans ((up2_k (by decide)).trans ((up2_k (by decide)).trans ((up2_k (by decide)).trans ((up2_k (by decide)).trans ((up2_k (by decide)).trans ((up2_k (by decide)).trans ((up2_k (by decide)).trans ((up2_k (by decide)).trans ((up2_k (by decide)).trans ((up2_k (by decide)).trans ((up2_k (by decide)).trans ((up2_k (by decide)).trans ((up2_k (by decide)).trans ((up2_k (by decide)).trans ((up2_k (by decide)).trans (tA_1 hk))))))))))))))))))))
theorem tS_2 (hk : x.toNatClampNeg ≤ 2) : sX7_trips u x 1 2 = u 1 2 := by
  unfold sX7_trips
  exact ((up2_k (by decide)).trans ((up2_k (by decide)).trans ((up2_k (by decide)).trans ((up2_k (by decide)).trans ((up2_k (by decide)).trans ((up2_k (by decide)).trans ((up2_k (by decide)).trans ((up2_k (by decide)).trans ((up2_k (by decide)).trans ((up2_k (by decide)).trans ((up2_k (by decide)).trans ((up2_k (by decide)).trans ((up2_k (by decide)).trans ((up2_k (by decide)).trans ((up2_k (by decide)).trans ((up2_k (by decide)).trans ((up2_k (by decide)).trans ((up2_k (by decide)).trans ((up2_k (by decide)).trans (tA_2 hk))))))))))))))))))))
theorem tS_3 (hk : x.toNatClampNeg ≤ 2) : sX7_trips u x 1 3 = u 1 3 := by
  unfold sX7_trips
  exact ((up2_k (by decide)).trans ((up2_k (by decide)).trans ((up2_k (by decide)).trans ((up2_k (by decide)).trans ((up2_k (by decide)).trans ((up2_k (by decide)).trans ((up2_k (by decide)).trans ((up2_k (by decide)).trans ((up2_k (by decide)).trans ((up2_k (by decide)).trans ((up2_k (by decide)).trans ((up2_k (by decide)).trans ((up2_k (by decide)).trans ((up2_k (by decide)).trans ((up2_k (by decide)).trans ((up2_k (by decide)).trans ((up2_k (by decide)).trans ((up2_k (by decide)).trans ((up2_k (by decide)).trans (tA_3 hk))))))))))))))))))))
theorem tS_4 (hk : x.toNatClampNeg ≤ 2) : sX7_trips u x 1 4 = u 1 4 := by
  unfold sX7_trips
  exact ((up2_k (by decide)).trans ((up2_k (by decide)).trans ((up2_k (by decide)).trans ((up2_k (by decide)).trans ((up2_k (by decide)).trans ((up2_k (by decide)).trans ((up2_k (by decide)).trans ((up2_k (by decide)).trans ((up2_k (by decide)).trans ((up2_k (by decide)).trans ((up2_k (by decide)).trans ((up2_k (by decide)).trans ((up2_k (by decide)).trans ((up2_k (by decide)).trans ((up2_k (by decide)).trans ((up2_k (by decide)).trans ((up2_k (by decide)).trans ((up2_k (by decide)).trans ((up2_k (by decide)).trans (tA_4 hk))))))))))))))))))))
theorem tS_5 (hk : x.toNatClampNeg ≤ 2) : sX7_trips u x 1 5 = u 1 5 := by
  unfold sX7_trips
  exact ((up2_k (by decide)).trans ((up2_k (by decide)).trans ((up2_k (by decide)).trans ((up2_k (by decide)).trans ((up2_k (by decide)).trans ((up2_k (by decide)).trans ((up2_k (by decide)).trans ((up2_k (by decide)).trans ((up2_k (by decide)).trans ((up2_k (by decide)).trans ((up2_k (by decide)).trans ((up2_k (by decide)).trans ((up2_k (by decide)).trans ((up2_k (by decide)).trans ((up2_k (by decide)).trans ((up2_k (by decide)).trans ((up2_k (by decide)).trans ((up2_k (by decide)).trans ((up2_k (by decide)).trans (tA_5 hk))))))))))))))))))))
theorem tS_6 (hk : x.toNatClampNeg ≤ 2) : sX7_trips u x 1 6 = u 1 6 := by
  unfold sX7_trips
  exact ((up2_k (by decide)).trans ((up2_k (by decide)).trans ((up2_k (by decide)).trans ((up2_k (by decide)).trans ((up2_k (by decide)).trans ((up2_k (by decide)).trans ((up2_k (by decide)).trans ((up2_k (by decide)).trans ((up2_k (by decide)).trans ((up2_k (by decide)).trans ((up2_k (by decide)).trans ((up2_k (by decide)).trans ((up2_k (by decide)).trans ((up2_k (by decide)).trans ((up2_k (by decide)).trans ((up2_k (by decide)).trans ((up2_k (by decide)).trans ((up2_k (by decide)).trans ((up2_k (by decide)).trans (tA_6 hk))))))))))))))))))))
theorem tS_7 (hk : x.toNatClampNeg ≤ 2) : sX7_trips u x 1 7 = u 1 7 := by
  unfold sX7_trips
  exact ((up2_k (by decide)).trans ((up2_k (by decide)).trans ((up2_k (by decide)).trans ((up2_k (by decide)).trans ((up2_k (by decide)).trans ((up2_k (by decide)).trans ((up2_k (by decide)).trans ((up2_k (by decide)).trans ((up2_k (by decide)).trans ((up2_k (by decide)).trans ((up2_k (by decide)).trans ((up2_k (by decide)).trans ((up2_k (by decide)).trans ((up2_k (by decide)).trans ((up2_k (by decide)).trans ((up2_k (by decide)).trans ((up2_k (by decide)).trans ((up2_k (by decide)).trans ((up2_k (by decide)).trans (tA_7 hk))))))))))))))))))))
theorem tS_8 (hk : x.toNatClampNeg ≤ 2) : sX7_trips u x 1 8 = u 1 8 := by
  unfold sX7_trips
  exact ((up2_k (by decide)).trans ((up2_k (by decide)).trans ((up2_k (by decide)).trans ((up2_k (by decide)).trans ((up2_k (by decide)).trans ((up2_k (by decide)).trans ((up2_k (by decide)).trans ((up2_k (by decide)).trans ((up2_k (by decide)).trans ((up2_k (by decide)).trans ((up2_k (by decide)).trans ((up2_k (by decide)).trans ((up2_k (by decide)).trans ((up2_k (by decide)).trans ((up2_k (by decide)).trans ((up2_k (by decide)).trans ((up2_k (by decide)).trans ((up2_k (by decide)).trans ((up2_k (by decide)).trans (tA_8 hk))))))))))))))))))))
theorem tS_9 (hk : x.toNatClampNeg ≤ 2) : sX7_trips u x 1 9 = u 1 9 := by
  unfold sX7_trips
  exact ((up2_k (by decide)).trans ((up2_k (by decide)).trans ((up2_k (by decide)).trans ((up2_k (by decide)).trans ((up2_k (by decide)).trans ((up2_k (by decide)).trans ((up2_k (by decide)).trans ((up2_k (by decide)).trans ((up2_k (by decide)).trans ((up2_k (by decide)).trans ((up2_k (by decide)).trans ((up2_k (by decide)).trans ((up2_k (by decide)).trans ((up2_k (by decide)).trans ((up2_k (by decide)).trans ((up2_k (by decide)).trans ((up2_k (by decide)).trans ((up2_k (by decide)).trans ((up2_k (by decide)).trans (tA_9 hk))))))))))))))))))))
theorem tS_10 (hk : x.toNatClampNeg ≤ 2) : sX7_trips u x 1 10 = u 1 10 := by
  unfold sX7_trips
  exact ((up2_k (by decide)).trans ((up2_k (by decide)).trans ((up2_k (by decide)).trans ((up2_k (by decide)).trans ((up2_k (by decide)).trans ((up2_k (by decide)).trans ((up2_k (by decide)).trans ((up2_k (by decide)).trans ((up2_k (by decide)).trans ((up2_k (by decide)).trans ((up2_k (by decide)).trans ((up2_k (by decide)).trans ((up2_k (by decide)).trans ((up2_k (by decide)).trans ((up2_k (by decide)).trans ((up2_k (by decide)).trans ((up2_k (by decide)).trans ((up2_k (by decide)).trans ((up2_k (by decide)).trans (tA_10 hk))))))))))))))))))))
theorem tS_11 (hk : x.toNatClampNeg ≤ 2) : sX7_trips u x 1 11 = u 1 11 := by
  unfold sX7_trips
  exact ((up2_k (by decide)).trans ((up2_k (by decide)).trans ((up2_k (by decide)).trans ((up2_k (by decide)).trans ((up2_k (by decide)).trans ((up2_k (by decide)).trans ((up2_k (by decide)).trans ((up2_k (by decide)).trans ((up2_k (by decide)).trans ((up2_k (by decide)).trans ((up2_k (by decide)).trans ((up2_k (by decide)).trans ((up2_k (by decide)).trans ((up2_k (by decide)).trans ((up2_k (by decide)).trans ((up2_k (by decide)).trans ((up2_k (by decide)).trans ((up2_k (by decide)).trans ((up2_k (by decide)).trans (tA_11 hk))))))))))))))))))))
theorem tS_12 (hk : x.toNatClampNeg ≤ 2) : sX7_trips u x 1 12 = u 1 12 := by
  unfold sX7_trips
  exact ((up2_k (by decide)).trans ((up2_k (by decide)).trans ((up2_k (by decide)).trans ((up2_k (by decide)).trans ((up2_k (by decide)).trans ((up2_k (by decide)).trans ((up2_k (by decide)).trans ((up2_k (by decide)).trans ((up2_k (by decide)).trans ((up2_k (by decide)).trans ((up2_k (by decide)).trans ((up2_k (by decide)).trans ((up2_k (by decide)).trans ((up2_k (by decide)).trans ((up2_k (by decide)).trans ((up2_k (by decide)).trans ((up2_k (by decide)).trans ((up2_k (by decide)).trans ((up2_k (by decide)).trans (tA_12 hk))))))))))))))))))))
theorem tS_13 (hk : x.toNatClampNeg ≤ 2) : sX7_trips u x 1 13 = u 1 13 := by
  unfold sX7_trips
  exact ((up2_k (by decide)).trans ((up2_k (by decide)).trans ((up2_k (by decide)).trans ((up2_k (by decide)).trans ((up2_k (by decide)).trans ((up2_k (by decide)).trans ((up2_k (by decide)).trans ((up2_k (by decide)).trans ((up2_k (by decide)).trans ((up2_k (by decide)).trans ((up2_k (by decide)).trans ((up2_k (by decide)).trans ((up2_k (by decide)).trans ((up2_k (by decide)).trans ((up2_k (by decide)).trans ((up2_k (by decide)).trans ((up2_k (by decide)).trans ((up2_k (by decide)).trans ((up2_k (by decide)).trans (tA_13 hk))))))))))))))))))))
theorem tS_14 (hk : x.toNatClampNeg ≤ 2) : sX7_trips u x 1 14 = 0 := by
  unfold sX7_trips
  exact ((up2_k (by decide)).trans ((up2_k (by decide)).trans ((up2_k (by decide)).trans ((up2_k (by decide)).trans ((up2_k (by decide)).trans ((up2_k (by decide)).trans ((up2_k (by decide)).trans ((up2_k (by decide)).trans ((up2_k (by decide)).trans ((up2_k (by decide)).trans ((up2_k (by decide)).trans ((up2_k (by decide)).trans ((up2_k (by decide)).trans ((up2_k (by decide)).trans ((up2_k (by decide)).trans ((up2_k (by decide)).trans ((up2_k (by decide)).trans ((up2_k (by decide)).trans ((up2_k (by decide)).trans (tA_14 hk))))))))))))))))))))
theorem tS_15 (hk : x.toNatClampNeg ≤ 2) : sX7_trips u x 1 15 = 0 := by
  unfold sX7_trips
  exact ((up2_k (by decide)).trans ((up2_k (by decide)).trans ((up2_k (by decide)).trans ((up2_k (by decide)).trans ((up2_k (by decide)).trans ((up2_k (by decide)).trans ((up2_k (by decide)).trans ((up2_k (by decide)).trans ((up2_k (by decide)).trans ((up2_k (by decide)).trans ((up2_k (by decide)).trans ((up2_k (by decide)).trans ((up2_k (by decide)).trans ((up2_k (by decide)).trans ((up2_k (by decide)).trans ((up2_k (by decide)).trans ((up2_k (by decide)).trans ((up2_k (by decide)).trans ((up2_k (by decide)).trans (tA_15 hk))))))))))))))))))))
theorem tS_16 (hk : x.toNatClampNeg ≤ 2) : sX7_trips u x 1 16 = x + 1 := by
  unfold sX7_trips
  exact ((up2_k (by decide)).trans ((up2_k (by decide)).trans ((up2_k (by decide)).trans ((up2_k (by decide)).trans ((up2_k (by decide)).trans ((up2_k (by decide)).trans ((up2_k (by decide)).trans ((up2_k (by decide)).trans ((up2_k (by decide)).trans ((up2_k (by decide)).trans ((up2_k (by decide)).trans ((up2_k (by decide)).trans ((up2_k (by decide)).trans ((up2_k (by decide)).trans ((up2_k (by decide)).trans ((up2_k (by decide)).trans ((up2_k (by decide)).trans ((up2_k (by decide)).trans ((up2_k (by decide)).trans (tA_16 hk))))))))))))))))))))
theorem tS_17 (hk : x.toNatClampNeg ≤ 2) : sX7_trips u x 1 17 = u 1 17 := by
  unfold sX7_trips
  exact ((up2_k (by decide)).trans ((up2_k (by decide)).trans ((up2_k (by decide)).trans ((up2_k (by decide)).trans ((up2_k (by decide)).trans ((up2_k (by decide)).trans ((up2_k (by decide)).trans ((up2_k (by decide)).trans ((up2_k (by decide)).trans ((up2_k (by decide)).trans ((up2_k (by decide)).trans ((up2_k (by decide)).trans ((up2_k (by decide)).trans ((up2_k (by decide)).trans ((up2_k (by decide)).trans ((up2_k (by decide)).trans ((up2_k (by decide)).trans ((up2_k (by decide)).trans ((up2_k (by decide)).trans (tA_17 hk))))))))))))))))))))
theorem tS_18 (hk : x.toNatClampNeg ≤ 2) : sX7_trips u x 1 18 = u 1 18 := by
  unfold sX7_trips
  exact ((up2_k (by decide)).trans ((up2_k (by decide)).trans ((up2_k (by decide)).trans ((up2_k (by decide)).trans ((up2_k (by decide)).trans ((up2_k (by decide)).trans ((up2_k (by decide)).trans ((up2_k (by decide)).trans ((up2_k (by decide)).trans ((up2_k (by decide)).trans ((up2_k (by decide)).trans ((up2_k (by decide)).trans ((up2_k (by decide)).trans ((up2_k (by decide)).trans ((up2_k (by decide)).trans ((up2_k (by decide)).trans ((up2_k (by decide)).trans ((up2_k (by decide)).trans ((up2_k (by decide)).trans (tA_18 hk))))))))))))))))))))
theorem tS_19 (hk : x.toNatClampNeg ≤ 2) : sX7_trips u x 1 19 = u 1 19 := by
  unfold sX7_trips
  exact ((up2_k (by decide)).trans ((up2_k (by decide)).trans ((up2_k (by decide)).trans ((up2_k (by decide)).trans ((up2_k (by decide)).trans ((up2_k (by decide)).trans ((up2_k (by decide)).trans ((up2_k (by decide)).trans ((up2_k (by decide)).trans ((up2_k (by decide)).trans ((up2_k (by decide)).trans ((up2_k (by decide)).trans ((up2_k (by decide)).trans ((up2_k (by decide)).trans ((up2_k (by decide)).trans ((up2_k (by decide)).trans ((up2_k (by decide)).trans ((up2_k (by decide)).trans ((up2_k (by decide)).trans (tA_19 hk))))))))))))))))))))
theorem tS_20 (hk : x.toNatClampNeg ≤ 2) : sX7_trips u x 1 20 = u 1 20 := by
  unfold sX7_trips
  exact ((up2_k (by decide)).trans ((up2_k (by decide)).trans ((up2_k (by decide)).trans ((up2_k (by decide)).trans ((up2_k (by decide)).trans ((up2_k (by decide)).trans ((up2_k (by decide)).trans ((up2_k (by decide)).trans ((up2_k (by decide)).trans ((up2_k (by decide)).trans ((up2_k (by decide)).trans ((up2_k (by decide)).trans ((up2_k (by decide)).trans ((up2_k (by decide)).trans ((up2_k (by decide)).trans ((up2_k (by decide)).trans ((up2_k (by decide)).trans ((up2_k (by decide)).trans ((up2_k (by decide)).trans (tA_20 hk))))))))))))))))))))
theorem tS_21 (hk : x.toNatClampNeg ≤ 2) : sX7_trips u x 1 21 = u 1 21 := by
  unfold sX7_trips
  exact ((up2_k (by decide)).trans ((up2_k (by decide)).trans ((up2_k (by decide)).trans ((up2_k (by decide)).trans ((up2_k (by decide)).trans ((up2_k (by decide)).trans ((up2_k (by decide)).trans ((up2_k (by decide)).trans ((up2_k (by decide)).trans ((up2_k (by decide)).trans ((up2_k (by decide)).trans ((up2_k (by decide)).trans ((up2_k (by decide)).trans ((up2_k (by decide)).trans ((up2_k (by decide)).trans ((up2_k (by decide)).trans ((up2_k (by decide)).trans ((up2_k (by decide)).trans ((up2_k (by decide)).trans (tA_21 hk))))))))))))))))))))
theorem tS_22 (hk : x.toNatClampNeg ≤ 2) : sX7_trips u x 1 22 = u 1 22 := by
  unfold sX7_trips
  exact ((up2_k (by decide)).trans ((up2_k (by decide)).trans ((up2_k (by decide)).trans ((up2_k (by decide)).trans ((up2_k (by decide)).trans ((up2_k (by decide)).trans ((up2_k (by decide)).trans ((up2_k (by decide)).trans ((up2_k (by decide)).trans ((up2_k (by decide)).trans ((up2_k (by decide)).trans ((up2_k (by decide)).trans ((up2_k (by decide)).trans ((up2_k (by decide)).trans ((up2_k (by decide)).trans ((up2_k (by decide)).trans ((up2_k (by decide)).trans ((up2_k (by decide)).trans ((up2_k (by decide)).trans (tA_22 hk))))))))))))))))))))
theorem tS_23 (hk : x.toNatClampNeg ≤ 2) : sX7_trips u x 1 23 = u 1 23 := by
  unfold sX7_trips
  exact ((up2_k (by decide)).trans ((up2_k (by decide)).trans ((up2_k (by decide)).trans ((up2_k (by decide)).trans ((up2_k (by decide)).trans ((up2_k (by decide)).trans ((up2_k (by decide)).trans ((up2_k (by decide)).trans ((up2_k (by decide)).trans ((up2_k (by decide)).trans ((up2_k (by decide)).trans ((up2_k (by decide)).trans ((up2_k (by decide)).trans ((up2_k (by decide)).trans ((up2_k (by decide)).trans ((up2_k (by decide)).trans ((up2_k (by decide)).trans ((up2_k (by decide)).trans ((up2_k (by decide)).trans (tA_23 hk))))))))))))))))))))
theorem tS_24 (hk : x.toNatClampNeg ≤ 2) : sX7_trips u x 1 24 = u 1 24 := by
  unfold sX7_trips
  exact ((up2_k (by decide)).trans ((up2_k (by decide)).trans ((up2_k (by decide)).trans ((up2_k (by decide)).trans ((up2_k (by decide)).trans ((up2_k (by decide)).trans ((up2_k (by decide)).trans ((up2_k (by decide)).trans ((up2_k (by decide)).trans ((up2_k (by decide)).trans ((up2_k (by decide)).trans ((up2_k (by decide)).trans ((up2_k (by decide)).trans ((up2_k (by decide)).trans ((up2_k (by decide)).trans ((up2_k (by decide)).trans ((up2_k (by decide)).trans ((up2_k (by decide)).trans ((up2_k (by decide)).trans (tA_24 hk))))))))))))))))))))
theorem tS_25 (hk : x.toNatClampNeg ≤ 2) : sX7_trips u x 1 25 = u 1 25 := by
  unfold sX7_trips
  exact ((up2_k (by decide)).trans ((up2_k (by decide)).trans ((up2_k (by decide)).trans ((up2_k (by decide)).trans ((up2_k (by decide)).trans ((up2_k (by decide)).trans ((up2_k (by decide)).trans ((up2_k (by decide)).trans ((up2_k (by decide)).trans ((up2_k (by decide)).trans ((up2_k (by decide)).trans ((up2_k (by decide)).trans ((up2_k (by decide)).trans ((up2_k (by decide)).trans ((up2_k (by decide)).trans ((up2_k (by decide)).trans ((up2_k (by decide)).trans ((up2_k (by decide)).trans ((up2_k (by decide)).trans (tA_25 hk))))))))))))))))))))
theorem tS_26 (hk : x.toNatClampNeg ≤ 2) : sX7_trips u x 1 26 = u 1 26 := by
  unfold sX7_trips
  exact ((up2_k (by decide)).trans ((up2_k (by decide)).trans ((up2_k (by decide)).trans ((up2_k (by decide)).trans ((up2_k (by decide)).trans ((up2_k (by decide)).trans ((up2_k (by decide)).trans ((up2_k (by decide)).trans ((up2_k (by decide)).trans ((up2_k (by decide)).trans ((up2_k (by decide)).trans ((up2_k (by decide)).trans ((up2_k (by decide)).trans ((up2_k (by decide)).trans ((up2_k (by decide)).trans ((up2_k (by decide)).trans ((up2_k (by decide)).trans ((up2_k (by decide)).trans ((up2_k (by decide)).trans (tA_26 hk))))))))))))))))))))
theorem tS_27 (hk : x.toNatClampNeg ≤ 2) : sX7_trips u x 1 27 = u 1 27 := by
  unfold sX7_trips
  exact ((up2_k (by decide)).trans ((up2_k (by decide)).trans ((up2_k (by decide)).trans ((up2_k (by decide)).trans ((up2_k (by decide)).trans ((up2_k (by decide)).trans ((up2_k (by decide)).trans ((up2_k (by decide)).trans ((up2_k (by decide)).trans ((up2_k (by decide)).trans ((up2_k (by decide)).trans ((up2_k (by decide)).trans ((up2_k (by decide)).trans ((up2_k (by decide)).trans ((up2_k (by decide)).trans ((up2_k (by decide)).trans ((up2_k (by decide)).trans ((up2_k (by decide)).trans ((up2_k (by decide)).trans (tA_27 hk))))))))))))))))))))
theorem tS_28 (hk : x.toNatClampNeg ≤ 2) : sX7_trips u x 1 28 = u 1 28 := by
  unfold sX7_trips
  exact ((up2_k (by decide)).trans ((up2_k (by decide)).trans ((up2_k (by decide)).trans ((up2_k (by decide)).trans ((up2_k (by decide)).trans ((up2_k (by decide)).trans ((up2_k (by decide)).trans ((up2_k (by decide)).trans ((up2_k (by decide)).trans ((up2_k (by decide)).trans ((up2_k (by decide)).trans ((up2_k (by decide)).trans ((up2_k (by decide)).trans ((up2_k (by decide)).trans ((up2_k (by decide)).trans ((up2_k (by decide)).trans ((up2_k (by decide)).trans ((up2_k (by decide)).trans ((up2_k (by decide)).trans (tA_28 hk))))))))))))))))))))
theorem tS_29 (hk : x.toNatClampNeg ≤ 2) : sX7_trips u x 1 29 = u 1 29 := by
  unfold sX7_trips
  exact ((up2_k (by decide)).trans ((up2_k (by decide)).trans ((up2_k (by decide)).trans ((up2_k (by decide)).trans ((up2_k (by decide)).trans ((up2_k (by decide)).trans ((up2_k (by decide)).trans ((up2_k (by decide)).trans ((up2_k (by decide)).trans ((up2_k (by decide)).trans ((up2_k (by decide)).trans ((up2_k (by decide)).trans ((up2_k (by decide)).trans ((up2_k (by decide)).trans ((up2_k (by decide)).trans ((up2_k (by decide)).trans ((up2_k (by decide)).trans ((up2_k (by decide)).trans ((up2_k (by decide)).trans (tA_29 hk))))))))))))))))))))
theorem tS_30 (hk : x.toNatClampNeg ≤ 2) : sX7_trips u x 1 30 = u 1 30 := by
  unfold sX7_trips
  exact ((up2_k (by decide)).trans ((up2_k (by decide)).trans ((up2_k (by decide)).trans ((up2_k (by decide)).trans ((up2_k (by decide)).trans ((up2_k (by decide)).trans ((up2_k (by decide)).trans ((up2_k (by decide)).trans ((up2_k (by decide)).trans ((up2_k (by decide)).trans ((up2_k (by decide)).trans ((up2_k (by decide)).trans ((up2_k (by decide)).trans ((up2_k (by decide)).trans ((up2_k (by decide)).trans ((up2_k (by decide)).trans ((up2_k (by decide)).trans ((up2_k (by decide)).trans ((up2_k (by decide)).trans (tA_30 hk))))))))))))))))))))
theorem tS_31 (hk : x.toNatClampNeg ≤ 2) : sX7_trips u x 1 31 = u 1 31 := by
  unfold sX7_trips
  exact ((up2_k (by decide)).trans ((up2_k (by decide)).trans ((up2_k (by decide)).trans ((up2_k (by decide)).trans ((up2_k (by decide)).trans ((up2_k (by decide)).trans ((up2_k (by decide)).trans ((up2_k (by decide)).trans ((up2_k (by decide)).trans ((up2_k (by decide)).trans ((up2_k (by decide)).trans ((up2_k (by decide)).trans ((up2_k (by decide)).trans ((up2_k (by decide)).trans ((up2_k (by decide)).trans ((up2_k (by decide)).trans ((up2_k (by decide)).trans ((up2_k (by decide)).trans ((up2_k (by decide)).trans (tA_31 hk))))))))))))))))))))
theorem tS_32 (hk : x.toNatClampNeg ≤ 2) : sX7_trips u x 1 32 = u 1 32 := by
  unfold sX7_trips
  exact ((up2_k (by decide)).trans ((up2_k (by decide)).trans ((up2_k (by decide)).trans ((up2_k (by decide)).trans ((up2_k (by decide)).trans ((up2_k (by decide)).trans ((up2_k (by decide)).trans ((up2_k (by decide)).trans ((up2_k (by decide)).trans ((up2_k (by decide)).trans ((up2_k (by decide)).trans ((up2_k (by decide)).trans ((up2_k (by decide)).trans ((up2_k (by decide)).trans ((up2_k (by decide)).trans ((up2_k (by decide)).trans ((up2_k (by decide)).trans ((up2_k (by decide)).trans ((up2_k (by decide)).trans (tA_32 hk))))))))))))))))))))
theorem tS_36 (hk : x.toNatClampNeg ≤ 2) : sX7_trips u x 1 36 = (u 1 36) + (if 6 ≤ (u 1 36) then 0 else 1) := by
  unfold sX7_trips
  exact (up2_s.trans (by rw [tA_36 hk]))
theorem tS_37 (hk : x.toNatClampNeg ≤ 2) : sX7_trips u x 1 37 = u 1 17 + 1 := by
  unfold sX7_trips
  exact ((up2_k (by decide)).trans ((up2_k (by decide)).trans ((up2_k (by decide)).trans (up2_s.trans (by rw [tA_17 hk])))))
theorem tS_38 : sX7_trips u x 1 38 = x := by
  unfold sX7_trips
  exact ((up2_k (by decide)).trans ((up2_k (by decide)).trans up2_s))
theorem tS_40 (hk : x.toNatClampNeg ≤ 2) : sX7_trips u x 1 40 = u 1 37 := by
  unfold sX7_trips
  exact ((up2_k (by decide)).trans ((up2_k (by decide)).trans ((up2_k (by decide)).trans ((up2_k (by decide)).trans (up2_s.trans (tA_37 hk))))))
theorem tS_41 (hk : x.toNatClampNeg ≤ 2) : sX7_trips u x 1 41 = u 1 38 := by
  unfold sX7_trips
  exact ((up2_k (by decide)).trans ((up2_k (by decide)).trans ((up2_k (by decide)).trans ((up2_k (by decide)).trans ((up2_k (by decide)).trans (up2_s.trans (tA_38 hk)))))))
theorem tS_42 (hk : x.toNatClampNeg ≤ 2) : sX7_trips u x 1 42 = u 1 39 := by
  unfold sX7_trips
  exact ((up2_k (by decide)).trans ((up2_k (by decide)).trans ((up2_k (by decide)).trans ((up2_k (by decide)).trans ((up2_k (by decide)).trans ((up2_k (by decide)).trans (up2_s.trans (tA_39 hk))))))))
theorem tS_43 (hk : x.toNatClampNeg ≤ 2) : sX7_trips u x 1 43 = u 1 40 := by
  unfold sX7_trips
  exact ((up2_k (by decide)).trans ((up2_k (by decide)).trans ((up2_k (by decide)).trans ((up2_k (by decide)).trans ((up2_k (by decide)).trans ((up2_k (by decide)).trans ((up2_k (by decide)).trans (up2_s.trans (tA_40 hk)))))))))
theorem tS_44 (hk : x.toNatClampNeg ≤ 2) : sX7_trips u x 1 44 = u 1 41 := by
  unfold sX7_trips
  exact ((up2_k (by decide)).trans ((up2_k (by decide)).trans ((up2_k (by decide)).trans ((up2_k (by decide)).trans ((up2_k (by decide)).trans ((up2_k (by decide)).trans ((up2_k (by decide)).trans ((up2_k (by decide)).trans (up2_s.trans (tA_41 hk))))))))))
theorem tS_45 (hk : x.toNatClampNeg ≤ 2) : sX7_trips u x 1 45 = u 1 42 := by
  unfold sX7_trips
  exact ((up2_k (by decide)).trans ((up2_k (by decide)).trans ((up2_k (by decide)).trans ((up2_k (by decide)).trans ((up2_k (by decide)).trans ((up2_k (by decide)).trans ((up2_k (by decide)).trans ((up2_k (by decide)).trans ((up2_k (by decide)).trans (up2_s.trans (tA_42 hk)))))))))))
theorem tS_46 (hk : x.toNatClampNeg ≤ 2) : sX7_trips u x 1 46 = u 1 43 := by
  unfold sX7_trips
  exact ((up2_k (by decide)).trans ((up2_k (by decide)).trans ((up2_k (by decide)).trans ((up2_k (by decide)).trans ((up2_k (by decide)).trans ((up2_k (by decide)).trans ((up2_k (by decide)).trans ((up2_k (by decide)).trans ((up2_k (by decide)).trans ((up2_k (by decide)).trans (up2_s.trans (tA_43 hk))))))))))))
theorem tS_47 (hk : x.toNatClampNeg ≤ 2) : sX7_trips u x 1 47 = u 1 44 := by
  unfold sX7_trips
  exact ((up2_k (by decide)).trans ((up2_k (by decide)).trans ((up2_k (by decide)).trans ((up2_k (by decide)).trans ((up2_k (by decide)).trans ((up2_k (by decide)).trans ((up2_k (by decide)).trans ((up2_k (by decide)).trans ((up2_k (by decide)).trans ((up2_k (by decide)).trans ((up2_k (by decide)).trans (up2_s.trans (tA_44 hk)))))))))))))
theorem tS_48 (hk : x.toNatClampNeg ≤ 2) : sX7_trips u x 1 48 = u 1 45 := by
  unfold sX7_trips
  exact ((up2_k (by decide)).trans ((up2_k (by decide)).trans ((up2_k (by decide)).trans ((up2_k (by decide)).trans ((up2_k (by decide)).trans ((up2_k (by decide)).trans ((up2_k (by decide)).trans ((up2_k (by decide)).trans ((up2_k (by decide)).trans ((up2_k (by decide)).trans ((up2_k (by decide)).trans ((up2_k (by decide)).trans (up2_s.trans (tA_45 hk))))))))))))))
theorem tS_49 (hk : x.toNatClampNeg ≤ 2) : sX7_trips u x 1 49 = u 1 46 := by
  unfold sX7_trips
  exact ((up2_k (by decide)).trans ((up2_k (by decide)).trans ((up2_k (by decide)).trans ((up2_k (by decide)).trans ((up2_k (by decide)).trans ((up2_k (by decide)).trans ((up2_k (by decide)).trans ((up2_k (by decide)).trans ((up2_k (by decide)).trans ((up2_k (by decide)).trans ((up2_k (by decide)).trans ((up2_k (by decide)).trans ((up2_k (by decide)).trans (up2_s.trans (tA_46 hk)))))))))))))))
theorem tS_50 (hk : x.toNatClampNeg ≤ 2) : sX7_trips u x 1 50 = u 1 47 := by
  unfold sX7_trips
  exact ((up2_k (by decide)).trans ((up2_k (by decide)).trans ((up2_k (by decide)).trans ((up2_k (by decide)).trans ((up2_k (by decide)).trans ((up2_k (by decide)).trans ((up2_k (by decide)).trans ((up2_k (by decide)).trans ((up2_k (by decide)).trans ((up2_k (by decide)).trans ((up2_k (by decide)).trans ((up2_k (by decide)).trans ((up2_k (by decide)).trans ((up2_k (by decide)).trans (up2_s.trans (tA_47 hk))))))))))))))))
theorem tS_51 (hk : x.toNatClampNeg ≤ 2) : sX7_trips u x 1 51 = u 1 48 := by
  unfold sX7_trips
  exact ((up2_k (by decide)).trans ((up2_k (by decide)).trans ((up2_k (by decide)).trans ((up2_k (by decide)).trans ((up2_k (by decide)).trans ((up2_k (by decide)).trans ((up2_k (by decide)).trans ((up2_k (by decide)).trans ((up2_k (by decide)).trans ((up2_k (by decide)).trans ((up2_k (by decide)).trans ((up2_k (by decide)).trans ((up2_k (by decide)).trans ((up2_k (by decide)).trans ((up2_k (by decide)).trans (up2_s.trans (tA_48 hk)))))))))))))))))
theorem tS_52 (hk : x.toNatClampNeg ≤ 2) : sX7_trips u x 1 52 = u 1 49 := by
  unfold sX7_trips
  exact ((up2_k (by decide)).trans ((up2_k (by decide)).trans ((up2_k (by decide)).trans ((up2_k (by decide)).trans ((up2_k (by decide)).trans ((up2_k (by decide)).trans ((up2_k (by decide)).trans ((up2_k (by decide)).trans ((up2_k (by decide)).trans ((up2_k (by decide)).trans ((up2_k (by decide)).trans ((up2_k (by decide)).trans ((up2_k (by decide)).trans ((up2_k (by decide)).trans ((up2_k (by decide)).trans ((up2_k (by decide)).trans (up2_s.trans (tA_49 hk))))))))))))))))))
theorem tS_53 (hk : x.toNatClampNeg ≤ 2) : sX7_trips u x 1 53 = u 1 50 := by
  unfold sX7_trips
  exact ((up2_k (by decide)).trans ((up2_k (by decide)).trans ((up2_k (by decide)).trans ((up2_k (by decide)).trans ((up2_k (by decide)).trans ((up2_k (by decide)).trans ((up2_k (by decide)).trans ((up2_k (by decide)).trans ((up2_k (by decide)).trans ((up2_k (by decide)).trans ((up2_k (by decide)).trans ((up2_k (by decide)).trans ((up2_k (by decide)).trans ((up2_k (by decide)).trans ((up2_k (by decide)).trans ((up2_k (by decide)).trans ((up2_k (by decide)).trans (up2_s.trans (tA_50 hk)))))))))))))))))))
theorem tS_54 (hk : x.toNatClampNeg ≤ 2) : sX7_trips u x 1 54 = u 1 51 := by
  unfold sX7_trips
  exact ((up2_k (by decide)).trans ((up2_k (by decide)).trans ((up2_k (by decide)).trans ((up2_k (by decide)).trans ((up2_k (by decide)).trans ((up2_k (by decide)).trans ((up2_k (by decide)).trans ((up2_k (by decide)).trans ((up2_k (by decide)).trans ((up2_k (by decide)).trans ((up2_k (by decide)).trans ((up2_k (by decide)).trans ((up2_k (by decide)).trans ((up2_k (by decide)).trans ((up2_k (by decide)).trans ((up2_k (by decide)).trans ((up2_k (by decide)).trans ((up2_k (by decide)).trans (up2_s.trans (tA_51 hk))))))))))))))))))))
theorem tS_39 (hk : x.toNatClampNeg ≤ 2) : sX7_trips u x 1 39 = rX7_load u := by
  unfold sX7_trips
  refine (up2_k (by decide)).trans (up2_s.trans ?_)
  refine (rload_of (u := tripsA u x) (fun j hj => ?_)).trans (rload_of (fun j hj => ?_))
  · repeat rw [up2_k (by omega)]
  · rcases (show j = 5 ∨ j = 19 ∨ j = 20 ∨ j = 21 ∨ j = 22 ∨ j = 23 ∨ j = 24 by omega) with r | r | r | r | r | r | r <;> subst r
    · exact tA_5 hk
    · exact tA_19 hk
    · exact tA_20 hk
    · exact tA_21 hk
    · exact tA_22 hk
    · exact tA_23 hk
    · exact tA_24 hk
theorem tS_n {k : Nat} (h : k < 3) : sX7_trips u x 1 (33 + k) = if k = x.toNatClampNeg then u 1 (33 + k) + 1 else u 1 (33 + k) := by
  unfold sX7_trips
  refine Eq.trans ?_ (tA_n h)
  repeat rw [up2_k (by omega)]
theorem tS_lo (hk : x.toNatClampNeg ≤ 2) {j : Nat} (hj : j < 33) (h1 : j ≠ 14) (h2 : j ≠ 15) (h3 : j ≠ 16) : sX7_trips u x 1 j = u 1 j := by
  rcases (show j = 0 ∨ j = 1 ∨ j = 2 ∨ j = 3 ∨ j = 4 ∨ j = 5 ∨ j = 6 ∨ j = 7 ∨ j = 8 ∨ j = 9 ∨ j = 10 ∨ j = 11 ∨ j = 12 ∨ j = 13 ∨ j = 17 ∨ j = 18 ∨ j = 19 ∨ j = 20 ∨ j = 21 ∨ j = 22 ∨ j = 23 ∨ j = 24 ∨ j = 25 ∨ j = 26 ∨ j = 27 ∨ j = 28 ∨ j = 29 ∨ j = 30 ∨ j = 31 ∨ j = 32 by omega) with r | r | r | r | r | r | r | r | r | r | r | r | r | r | r | r | r | r | r | r | r | r | r | r | r | r | r | r | r | r <;> subst r
  · exact tS_0 hk
  · exact tS_1 hk
  · exact tS_2 hk
  · exact tS_3 hk
  · exact tS_4 hk
  · exact tS_5 hk
  · exact tS_6 hk
  · exact tS_7 hk
  · exact tS_8 hk
  · exact tS_9 hk
  · exact tS_10 hk
  · exact tS_11 hk
  · exact tS_12 hk
  · exact tS_13 hk
  · exact tS_17 hk
  · exact tS_18 hk
  · exact tS_19 hk
  · exact tS_20 hk
  · exact tS_21 hk
  · exact tS_22 hk
  · exact tS_23 hk
  · exact tS_24 hk
  · exact tS_25 hk
  · exact tS_26 hk
  · exact tS_27 hk
  · exact tS_28 hk
  · exact tS_29 hk
  · exact tS_30 hk
  · exact tS_31 hk
  · exact tS_32 hk
end TRP
/-! the class's note of a trip, cell by cell -/
theorem note_6_0 (g : Nat → Nat → Int32) (x y z : Int32) : sX5_note g x y z 6 0 = x := by
  unfold sX5_note
  exact ((up2_d (by decide)).trans ((up2_d (by decide)).trans ((up2_d (by decide)).trans up2_s)))
theorem note_6_1 (g : Nat → Nat → Int32) (x y z : Int32) : sX5_note g x y z 6 1 = g 6 0 := by
  unfold sX5_note
  exact ((up2_d (by decide)).trans ((up2_d (by decide)).trans ((up2_d (by decide)).trans ((up2_k (by decide)).trans ((up2_d (by decide)).trans ((up2_d (by decide)).trans up2_s))))))
theorem note_6_2 (g : Nat → Nat → Int32) (x y z : Int32) : sX5_note g x y z 6 2 = g 6 1 := by
  unfold sX5_note
  exact ((up2_d (by decide)).trans ((up2_d (by decide)).trans ((up2_d (by decide)).trans ((up2_k (by decide)).trans ((up2_d (by decide)).trans ((up2_d (by decide)).trans ((up2_k (by decide)).trans ((up2_d (by decide)).trans ((up2_d (by decide)).trans up2_s)))))))))
theorem note_6_3 (g : Nat → Nat → Int32) (x y z : Int32) : sX5_note g x y z 6 3 = g 6 2 := by
  unfold sX5_note
  exact ((up2_d (by decide)).trans ((up2_d (by decide)).trans ((up2_d (by decide)).trans ((up2_k (by decide)).trans ((up2_d (by decide)).trans ((up2_d (by decide)).trans ((up2_k (by decide)).trans ((up2_d (by decide)).trans ((up2_d (by decide)).trans ((up2_k (by decide)).trans ((up2_d (by decide)).trans ((up2_d (by decide)).trans up2_s))))))))))))
theorem note_6_4 (g : Nat → Nat → Int32) (x y z : Int32) : sX5_note g x y z 6 4 = g 6 3 := by
  unfold sX5_note
  exact ((up2_d (by decide)).trans ((up2_d (by decide)).trans ((up2_d (by decide)).trans ((up2_k (by decide)).trans ((up2_d (by decide)).trans ((up2_d (by decide)).trans ((up2_k (by decide)).trans ((up2_d (by decide)).trans ((up2_d (by decide)).trans ((up2_k (by decide)).trans ((up2_d (by decide)).trans ((up2_d (by decide)).trans ((up2_k (by decide)).trans ((up2_d (by decide)).trans ((up2_d (by decide)).trans up2_s)))))))))))))))
theorem note_6_5 (g : Nat → Nat → Int32) (x y z : Int32) : sX5_note g x y z 6 5 = g 6 4 := by
  unfold sX5_note
  exact ((up2_d (by decide)).trans ((up2_d (by decide)).trans ((up2_d (by decide)).trans ((up2_k (by decide)).trans ((up2_d (by decide)).trans ((up2_d (by decide)).trans ((up2_k (by decide)).trans ((up2_d (by decide)).trans ((up2_d (by decide)).trans ((up2_k (by decide)).trans ((up2_d (by decide)).trans ((up2_d (by decide)).trans ((up2_k (by decide)).trans ((up2_d (by decide)).trans ((up2_d (by decide)).trans ((up2_k (by decide)).trans ((up2_d (by decide)).trans ((up2_d (by decide)).trans up2_s))))))))))))))))))
theorem note_7_0 (g : Nat → Nat → Int32) (x y z : Int32) : sX5_note g x y z 7 0 = y := by
  unfold sX5_note
  exact ((up2_d (by decide)).trans ((up2_d (by decide)).trans up2_s))
theorem note_7_1 (g : Nat → Nat → Int32) (x y z : Int32) : sX5_note g x y z 7 1 = g 7 0 := by
  unfold sX5_note
  exact ((up2_d (by decide)).trans ((up2_d (by decide)).trans ((up2_k (by decide)).trans ((up2_d (by decide)).trans ((up2_d (by decide)).trans up2_s)))))
theorem note_7_2 (g : Nat → Nat → Int32) (x y z : Int32) : sX5_note g x y z 7 2 = g 7 1 := by
  unfold sX5_note
  exact ((up2_d (by decide)).trans ((up2_d (by decide)).trans ((up2_k (by decide)).trans ((up2_d (by decide)).trans ((up2_d (by decide)).trans ((up2_k (by decide)).trans ((up2_d (by decide)).trans ((up2_d (by decide)).trans up2_s))))))))
theorem note_7_3 (g : Nat → Nat → Int32) (x y z : Int32) : sX5_note g x y z 7 3 = g 7 2 := by
  unfold sX5_note
  exact ((up2_d (by decide)).trans ((up2_d (by decide)).trans ((up2_k (by decide)).trans ((up2_d (by decide)).trans ((up2_d (by decide)).trans ((up2_k (by decide)).trans ((up2_d (by decide)).trans ((up2_d (by decide)).trans ((up2_k (by decide)).trans ((up2_d (by decide)).trans ((up2_d (by decide)).trans up2_s)))))))))))
theorem note_7_4 (g : Nat → Nat → Int32) (x y z : Int32) : sX5_note g x y z 7 4 = g 7 3 := by
  unfold sX5_note
  exact ((up2_d (by decide)).trans ((up2_d (by decide)).trans ((up2_k (by decide)).trans ((up2_d (by decide)).trans ((up2_d (by decide)).trans ((up2_k (by decide)).trans ((up2_d (by decide)).trans ((up2_d (by decide)).trans ((up2_k (by decide)).trans ((up2_d (by decide)).trans ((up2_d (by decide)).trans ((up2_k (by decide)).trans ((up2_d (by decide)).trans ((up2_d (by decide)).trans up2_s))))))))))))))
theorem note_7_5 (g : Nat → Nat → Int32) (x y z : Int32) : sX5_note g x y z 7 5 = g 7 4 := by
  unfold sX5_note
  exact ((up2_d (by decide)).trans ((up2_d (by decide)).trans ((up2_k (by decide)).trans ((up2_d (by decide)).trans ((up2_d (by decide)).trans ((up2_k (by decide)).trans ((up2_d (by decide)).trans ((up2_d (by decide)).trans ((up2_k (by decide)).trans ((up2_d (by decide)).trans ((up2_d (by decide)).trans ((up2_k (by decide)).trans ((up2_d (by decide)).trans ((up2_d (by decide)).trans ((up2_k (by decide)).trans ((up2_d (by decide)).trans ((up2_d (by decide)).trans up2_s)))))))))))))))))
theorem note_8_0 (g : Nat → Nat → Int32) (x y z : Int32) : sX5_note g x y z 8 0 = z := by
  unfold sX5_note
  exact ((up2_d (by decide)).trans up2_s)
theorem note_8_1 (g : Nat → Nat → Int32) (x y z : Int32) : sX5_note g x y z 8 1 = g 8 0 := by
  unfold sX5_note
  exact ((up2_d (by decide)).trans ((up2_k (by decide)).trans ((up2_d (by decide)).trans ((up2_d (by decide)).trans up2_s))))
theorem note_8_2 (g : Nat → Nat → Int32) (x y z : Int32) : sX5_note g x y z 8 2 = g 8 1 := by
  unfold sX5_note
  exact ((up2_d (by decide)).trans ((up2_k (by decide)).trans ((up2_d (by decide)).trans ((up2_d (by decide)).trans ((up2_k (by decide)).trans ((up2_d (by decide)).trans ((up2_d (by decide)).trans up2_s)))))))
theorem note_8_3 (g : Nat → Nat → Int32) (x y z : Int32) : sX5_note g x y z 8 3 = g 8 2 := by
  unfold sX5_note
  exact ((up2_d (by decide)).trans ((up2_k (by decide)).trans ((up2_d (by decide)).trans ((up2_d (by decide)).trans ((up2_k (by decide)).trans ((up2_d (by decide)).trans ((up2_d (by decide)).trans ((up2_k (by decide)).trans ((up2_d (by decide)).trans ((up2_d (by decide)).trans up2_s))))))))))
theorem note_8_4 (g : Nat → Nat → Int32) (x y z : Int32) : sX5_note g x y z 8 4 = g 8 3 := by
  unfold sX5_note
  exact ((up2_d (by decide)).trans ((up2_k (by decide)).trans ((up2_d (by decide)).trans ((up2_d (by decide)).trans ((up2_k (by decide)).trans ((up2_d (by decide)).trans ((up2_d (by decide)).trans ((up2_k (by decide)).trans ((up2_d (by decide)).trans ((up2_d (by decide)).trans ((up2_k (by decide)).trans ((up2_d (by decide)).trans ((up2_d (by decide)).trans up2_s)))))))))))))
theorem note_8_5 (g : Nat → Nat → Int32) (x y z : Int32) : sX5_note g x y z 8 5 = g 8 4 := by
  unfold sX5_note
  exact ((up2_d (by decide)).trans ((up2_k (by decide)).trans ((up2_d (by decide)).trans ((up2_d (by decide)).trans ((up2_k (by decide)).trans ((up2_d (by decide)).trans ((up2_d (by decide)).trans ((up2_k (by decide)).trans ((up2_d (by decide)).trans ((up2_d (by decide)).trans ((up2_k (by decide)).trans ((up2_d (by decide)).trans ((up2_d (by decide)).trans ((up2_k (by decide)).trans ((up2_d (by decide)).trans ((up2_d (by decide)).trans up2_s))))))))))))))))
theorem note_5_3 (g : Nat → Nat → Int32) (x y z : Int32) : sX5_note g x y z 5 3 = imin 6 ((g 5 3) + 1) := by
  unfold sX5_note
  exact up2_s
