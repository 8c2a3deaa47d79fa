/-! ===== the pure layer: numbers in ranges ===== -/
def Rg (x : Int32) (lo hi : Int) : Prop := lo ≤ x.toInt ∧ x.toInt ≤ hi
theorem tadd {a b : Int32} (h1 : -2147483648 ≤ a.toInt + b.toInt) (h2 : a.toInt + b.toInt < 2147483648) : (a + b).toInt = a.toInt + b.toInt := by
  rw [Int32.toInt_add]
  exact Int.bmod_eq_of_le (by omega) (by omega)
theorem tsub {a b : Int32} (h1 : -2147483648 ≤ a.toInt - b.toInt) (h2 : a.toInt - b.toInt < 2147483648) : (a - b).toInt = a.toInt - b.toInt := by
  rw [Int32.toInt_sub]
  exact Int.bmod_eq_of_le (by omega) (by omega)
theorem tdbl {a : Int32} (h1 : -1000000 ≤ a.toInt) (h2 : a.toInt ≤ 1000000) : (2 * a).toInt = 2 * a.toInt := by
  have e : (2 : Int32).toInt = 2 := by decide
  rw [Int32.toInt_mul, e]
  exact Int.bmod_eq_of_le (by omega) (by omega)
theorem thalf {a : Int32} (h1 : 0 ≤ a.toInt) : (a / 2).toInt = a.toInt / 2 := by
  have e : (2 : Int32).toInt = 2 := by decide
  rw [Int32.toInt_div_of_ne_right _ _ (by decide), e, Int.tdiv_eq_ediv_of_nonneg h1]
theorem tneg {a : Int32} (h1 : -1000000 ≤ a.toInt) (h2 : a.toInt ≤ 1000000) : (-a).toInt = -a.toInt := by
  rw [Int32.toInt_neg]
  exact Int.bmod_eq_of_le (by omega) (by omega)
theorem ile {a b : Int32} : a ≤ b ↔ a.toInt ≤ b.toInt := Int32.le_iff_toInt_le
theorem ilt {a b : Int32} : a < b ↔ a.toInt < b.toInt := Int32.lt_iff_toInt_lt
theorem ieq {a b : Int32} (h : a.toInt = b.toInt) : a = b := Int32.toInt_inj.mp h
theorem t0 : (0 : Int32).toInt = 0 := by decide
theorem t1 : (1 : Int32).toInt = 1 := by decide
theorem t2 : (2 : Int32).toInt = 2 := by decide
theorem t3 : (3 : Int32).toInt = 3 := by decide
theorem t20 : (20 : Int32).toInt = 20 := by decide
theorem t21 : (21 : Int32).toInt = 21 := by decide
theorem t50 : (50 : Int32).toInt = 50 := by decide
theorem t100 : (100 : Int32).toInt = 100 := by decide
theorem t300 : (300 : Int32).toInt = 300 := by decide
theorem Rg.add {a b : Int32} {p q r s : Int} (ha : Rg a p q) (hb : Rg b r s) (h : -1000000 ≤ p + r ∧ q + s ≤ 1000000) : Rg (a + b) (p + r) (q + s) := by
  obtain ⟨a1, a2⟩ := ha
  obtain ⟨b1, b2⟩ := hb
  have e : (a + b).toInt = a.toInt + b.toInt := tadd (by omega) (by omega)
  exact ⟨by omega, by omega⟩
theorem Rg.mono {a : Int32} {p q r s : Int} (ha : Rg a p q) (h : r ≤ p ∧ q ≤ s) : Rg a r s := ⟨Int.le_trans h.1 ha.1, Int.le_trans ha.2 h.2⟩
/-- what is in the boot above 100, halved -/
theorem boot_half {b : Int32} (h : Rg b 0 300) : imax 0 (b - 100) / 2 = (if b ≤ 100 then 0 else (b - 100) / 2) ∧ Rg (imax 0 (b - 100) / 2) 0 100 := by
  obtain ⟨h1, h2⟩ := h
  have e : (b - 100).toInt = b.toInt - 100 := by rw [tsub (by rw [t100]; omega) (by rw [t100]; omega), t100]
  unfold imax
  by_cases c : b ≤ 100
  · have c' : ¬ (0 : Int32) < b - 100 := by rw [ilt, e, t0]; rw [ile, t100] at c; omega
    rw [if_neg c', if_pos c]
    exact ⟨by decide, ⟨by decide, by decide⟩⟩
  · have c' : (0 : Int32) < b - 100 := by rw [ilt, e, t0]; rw [ile, t100] at c; omega
    rw [if_pos c', if_neg c]
    rw [ilt, t0] at c'
    have e2 := thalf (a := b - 100) (by omega)
    exact ⟨rfl, by rw [Rg, e2, e]; omega⟩
/-- the slip, out of what is beyond the tension -/
theorem slip_eq {d : Int32} (h : Rg d (-1000) 1000) : imin 100 (2 * imax 0 d) = (if 0 < d then (if d ≤ 50 then 2 * d else 100) else 0) := by
  obtain ⟨h1, h2⟩ := h
  unfold imin imax
  by_cases c : 0 < d
  · rw [if_pos c, if_pos c]
    have e := tdbl (a := d) (by omega) (by omega)
    by_cases c2 : d ≤ 50
    · rw [if_pos c2]
      by_cases c3 : 2 * d < 100
      · rw [if_pos c3]
      · rw [if_neg c3]
        refine (ieq ?_).symm
        rw [ilt, e, t100] at c3
        rw [ile, t50] at c2
        rw [e, t100]
        omega
    · rw [if_neg c2]
      refine if_neg ?_
      rw [ilt, e, t100]
      rw [ile, t50] at c2
      omega
  · rw [if_neg c, if_neg c]
    decide
theorem comes_min (x r : Int32) : imin x r = (if r ≤ x then r else x) ∧ x - imin x r = (if r ≤ x then x - r else 0) := by
  unfold imin
  by_cases c : r ≤ x
  · rw [if_pos c, if_pos c]
    by_cases c2 : r < x
    · rw [if_pos c2]; exact ⟨rfl, rfl⟩
    · rw [if_neg c2]
      have e : x = r := ieq (by rw [ile] at c; rw [ilt] at c2; omega)
      rw [e]; exact ⟨rfl, rfl⟩
  · rw [if_neg c, if_neg c]
    have c2 : ¬ r < x := by rw [ilt]; rw [ile] at c; omega
    rw [if_neg c2]
    exact ⟨rfl, Int32.sub_self x⟩
/-- what a bucket takes, and what is left -/
theorem takes_eq {o k b : Int32} (ho : Rg o 0 300) (hk : Rg k 1 20) (hb : Rg b 0 20) : imin o (imax 0 (k - b)) = (if 0 ≤ k - b then (if o ≤ k - b then o else k - b) else 0) ∧ Rg (o - imin o (imax 0 (k - b))) 0 300 ∧ Rg (b + imin o (imax 0 (k - b))) 0 20 := by
  obtain ⟨o1, o2⟩ := ho
  obtain ⟨k1, k2⟩ := hk
  obtain ⟨b1, b2⟩ := hb
  have e : (k - b).toInt = k.toInt - b.toInt := tsub (by omega) (by omega)
  unfold imin imax
  by_cases c : 0 ≤ k - b
  · rw [if_pos c]
    rw [ile, e, t0] at c
    have e0 : (if (0 : Int32) < k - b then k - b else 0) = k - b := by
      by_cases c0 : (0 : Int32) < k - b
      · rw [if_pos c0]
      · rw [if_neg c0]; exact (ieq (by rw [ilt, e, t0] at c0; rw [e, t0]; omega)).symm
    rw [e0]
    by_cases c2 : o ≤ k - b
    · rw [if_pos c2]
      rw [ile, e] at c2
      have c3 : ¬ k - b < o := by rw [ilt, e]; omega
      rw [if_neg c3]
      have e1 : (b + o).toInt = b.toInt + o.toInt := tadd (by omega) (by omega)
      exact ⟨rfl, by rw [Int32.sub_self]; exact ⟨by decide, by decide⟩, by rw [Rg, e1]; omega⟩
    · rw [if_neg c2]
      rw [ile, e] at c2
      have c3 : k - b < o := by rw [ilt, e]; omega
      rw [if_pos c3]
      have e1 : (b + (k - b)).toInt = b.toInt + (k - b).toInt := tadd (by omega) (by omega)
      have e2 : (o - (k - b)).toInt = o.toInt - (k - b).toInt := tsub (by omega) (by omega)
      exact ⟨rfl, by rw [Rg, e2]; omega, by rw [Rg, e1]; omega⟩
  · rw [if_neg c]
    rw [ile, e, t0] at c
    have c0 : ¬ (0 : Int32) < k - b := by rw [ilt, e, t0]; omega
    rw [if_neg c0]
    by_cases c3 : (0 : Int32) < o
    · rw [if_pos c3]
      rw [Int32.sub_zero, Int32.add_zero]
      exact ⟨rfl, ⟨o1, o2⟩, ⟨b1, b2⟩⟩
    · rw [if_neg c3]
      have e1 : o = 0 := ieq (by rw [ilt, t0] at c3; rw [t0]; omega)
      rw [e1, Int32.sub_self, Int32.add_zero]
      exact ⟨rfl, ⟨by decide, by decide⟩, ⟨b1, b2⟩⟩
theorem pour_rg {o x : Int32} (ho : Rg o 0 300) (hx : Rg x 0 40) : Rg (o + imin x (300 - o)) 0 300 := by
  obtain ⟨o1, o2⟩ := ho
  obtain ⟨x1, x2⟩ := hx
  have e : (300 - o).toInt = 300 - o.toInt := by rw [tsub (by rw [t300]; omega) (by rw [t300]; omega), t300]
  unfold imin
  by_cases c : 300 - o < x
  · rw [if_pos c]
    have e1 : (o + (300 - o)).toInt = o.toInt + (300 - o).toInt := tadd (by omega) (by omega)
    rw [Rg, e1]; omega
  · rw [if_neg c]
    rw [ilt, e] at c
    have e1 : (o + x).toInt = o.toInt + x.toInt := tadd (by omega) (by omega)
    rw [Rg, e1]; omega
theorem half_rg {b : Int32} (h : Rg b 0 20) (x : Int32) : Rg (if x < 2 then b / 2 else 0) 0 40 := by
  by_cases c : x < 2
  · rw [if_pos c]
    have e := thalf h.1
    obtain ⟨h1, h2⟩ := h
    rw [Rg, e]; omega
  · rw [if_neg c]; exact ⟨by decide, by decide⟩
theorem steps_eq {a : Int32} (h : Rg a (-9) 9) : imax 0 (iabs a - 3) = (if (if 0 ≤ a then a else -a) ≤ 3 then 0 else (if 0 ≤ a then a else -a) - 3) := by
  obtain ⟨h1, h2⟩ := h
  have e0 : iabs a = (if 0 ≤ a then a else -a) := by
    unfold iabs
    by_cases c : 0 ≤ a
    · rw [if_pos c, if_pos c]
    · rw [if_neg c, if_neg c]; exact Int32.zero_sub a
  rw [e0]
  have r : Rg (if 0 ≤ a then a else -a) 0 9 := by
    by_cases c : 0 ≤ a
    · rw [if_pos c]; rw [ile, t0] at c; exact ⟨c, h2⟩
    · rw [if_neg c]; rw [ile, t0] at c
      have e := tneg (a := a) (by omega) (by omega)
      rw [Rg, e]; omega
  generalize (if 0 ≤ a then a else -a) = z at r ⊢
  obtain ⟨r1, r2⟩ := r
  have e : (z - 3).toInt = z.toInt - 3 := by rw [tsub (by rw [t3]; omega) (by rw [t3]; omega), t3]
  unfold imax
  by_cases c : z ≤ 3
  · rw [if_pos c]; refine if_neg ?_; rw [ile, t3] at c; rw [ilt, e, t0]; omega
  · rw [if_neg c]; refine if_pos ?_; rw [ile, t3] at c; rw [ilt, e, t0]; omega
theorem warm_eq (w : Int32) : imax 0 w = (if 0 ≤ w then w else 0) := by
  unfold imax
  by_cases c : 0 < w
  · rw [if_pos c, if_pos (by rw [ile]; rw [ilt] at c; omega)]
  · rw [if_neg c]
    by_cases c2 : 0 ≤ w
    · rw [if_pos c2]; exact ieq (by rw [ilt] at c; rw [ile] at c2; omega)
    · rw [if_neg c2]
