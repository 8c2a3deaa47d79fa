/-! ===== the text: one character, one number ===== -/
def tL (t : Nat → Nat → Int32) : Nat := (t 0 1).toNatClampNeg
def PB (t u : Nat → Nat → Int32) : Prop := TLen t ∧ u 0 8 = t 0 1 ∧ (∀ i, i < tL t → u 5 i = t 1 i) ∧ t 0 5 = u 0 11 ∧ MAt u
theorem TLen.eq {t : Nat → Nat → Int32} (h : TLen t) : t 0 1 = nI (tL t) ∧ tL t ≤ 60 := by
  obtain ⟨n, a, b⟩ := h
  have e : tL t = n := by unfold tL; rw [b]; exact nI_clamp (by omega)
  rw [e]; exact ⟨b, a⟩
theorem PB.len {t u : Nat → Nat → Int32} (h : PB t u) : MLen u := ⟨tL t, h.1.eq.2, h.2.1.trans h.1.eq.1⟩
theorem nx_sg {t u : Nat → Nat → Int32} (h : PB t u) : (rX4_next t = rX7_sign u ∧ ¬ u 0 8 ≤ u 0 11) ∨ (rX4_next t = -1 ∧ rX7_sign u = 0 ∧ u 0 8 ≤ u 0 11) := by
  obtain ⟨hl, h8, ht, h5, ha⟩ := h
  have el := hl.eq
  have ea := ha.eq
  have er : t 0 5 = nI (mA u) := h5.trans ea.1
  have eR : tR t = mA u := by unfold tR; rw [er]; exact nI_clamp (by omega)
  have em : imin (t 0 1) 60 = nI (tL t) := by
    rw [el.1]
    unfold imin
    by_cases c : (60 : Int32) < nI (tL t)
    · exact absurd c (nI_nlt (a := 60) el.2 (by decide))
    · rw [if_neg c]
  have e1 : (nI (tL t) - 1).toInt = (tL t : Int) - 1 := by rw [tsub (by rw [nI_toInt (by omega), t1]; omega) (by rw [nI_toInt (by omega), t1]; omega), nI_toInt (by omega), t1]
  have e8 : u 0 8 = nI (tL t) := h8.trans el.1
  unfold rX4_next rX7_sign
  rw [em, er, eR, e8, ea.1]
  by_cases c : mA u < tL t
  · have cw : ¬ rX6_isWithin (nI (mA u)) 0 (nI (tL t) - 1) = 0 := by
      unfold rX6_isWithin
      rw [if_neg (nI_pos (by omega)), if_neg (by rw [ilt, e1, nI_toInt (by omega)]; omega)]
      decide
    have cl : ¬ nI (tL t) ≤ nI (mA u) := nI_ge c (by omega)
    rw [if_neg cw, if_neg cl]
    exact Or.inl ⟨(ht _ c).symm, cl⟩
  · have cw : rX6_isWithin (nI (mA u)) 0 (nI (tL t) - 1) = 0 := by
      unfold rX6_isWithin
      rw [if_neg (nI_pos (by omega)), if_pos (by rw [ilt, e1, nI_toInt (by omega)]; omega)]
    have cl : nI (tL t) ≤ nI (mA u) := nI_le (by omega) (by omega)
    rw [if_pos cw, if_pos cl]
    exact Or.inr ⟨rfl, rfl, cl⟩
/-- the place moves on by one, on both sides -/
theorem PB.up {t u : Nat → Nat → Int32} (h : PB t u) (c : ¬ u 0 8 ≤ u 0 11) {y z : Int32} (hy : y = t 0 5 + 1) (hz : z = u 0 11 + 1) : PB (up2 t 0 5 y) (up2 u 0 11 z) ∧ mA (up2 u 0 11 z) = mA u + 1 := by
  have up := MAt.up h.2.2.2.2 h.len c hz
  have e1 : up2 t 0 5 y 0 1 = t 0 1 := up2_k (by decide)
  have eL : tL (up2 t 0 5 y) = tL t := by unfold tL; rw [e1]
  refine ⟨⟨TLen.of e1 h.1, ?_, ?_, ?_, up.1⟩, up.2⟩
  · rw [up2_k (by decide), e1]; exact h.2.1
  · rw [eL, up2_ne (by decide), up2_ne (by decide)]; exact h.2.2.1
  · rw [up2_s, up2_s, hy, hz, h.2.2.2.1]
/-- other writes of the two readers -/
theorem PB.of {t u t' u' : Nat → Nat → Int32} (h : PB t u) (e1 : t' 0 1 = t 0 1) (e5 : t' 0 5 = t 0 5) (et : t' 1 = t 1) (e8 : u' 0 8 = u 0 8) (e11 : u' 0 11 = u 0 11) (eu : u' 5 = u 5) : PB t' u' := by
  refine ⟨TLen.of e1 h.1, ?_, ?_, ?_, MAt.of e11 h.2.2.2.2⟩
  · rw [e8, e1]; exact h.2.1
  · have : tL t' = tL t := by unfold tL; rw [e1]
    rw [this, et, eu]; exact h.2.2.1
  · rw [e5, e11]; exact h.2.2.2.1
theorem t48 : (48 : Int32).toInt = 48 := by decide
theorem t57 : (57 : Int32).toInt = 57 := by decide
theorem t9 : (9 : Int32).toInt = 9 := by decide
theorem t10 : (10 : Int32).toInt = 10 := by decide
theorem tm1 : (-1 : Int32).toInt = -1 := by decide
theorem iw_iff {x lo hi : Int32} : ¬ rX6_isWithin x lo hi = 0 ↔ lo.toInt ≤ x.toInt ∧ x.toInt ≤ hi.toInt := by
  constructor
  · exact fun h => rg_iw h
  · intro h
    unfold rX6_isWithin
    rw [if_neg (by rw [ilt]; omega), if_neg (by rw [ilt]; omega)]
    decide
theorem in_iff {x lo hi : Int32} : ¬ rX7_in x lo hi = 0 ↔ lo.toInt ≤ x.toInt ∧ x.toInt ≤ hi.toInt := iw_iff
/-- the digit that comes next -/
theorem dig_iff {t u : Nat → Nat → Int32} (h : PB t u) : (¬ rX4_nextDigit t = -1 ↔ ¬ rX7_in (rX7_sign u) 48 57 = 0) ∧ (¬ rX4_nextDigit t = -1 → rX4_nextDigit t = rX7_sign u - 48 ∧ Rg (rX4_nextDigit t) 0 9 ∧ ¬ u 0 8 ≤ u 0 11) := by
  unfold rX4_nextDigit
  rcases nx_sg h with ⟨e, c⟩ | ⟨e, e0, c⟩
  · rw [e]
    by_cases w : rX6_isWithin (rX7_sign u) 48 57 = 0
    · rw [if_pos w]
      exact ⟨⟨fun q => absurd rfl q, fun q => absurd w q⟩, fun q => absurd rfl q⟩
    · rw [if_neg w]
      have r := iw_iff.mp w
      rw [t48, t57] at r
      have es : (rX7_sign u - 48).toInt = (rX7_sign u).toInt - 48 := by rw [tsub (by rw [t48]; omega) (by rw [t48]; omega), t48]
      refine ⟨⟨fun _ => w, fun _ q => ?_⟩, fun _ => ⟨rfl, by rw [Rg, es]; omega, c⟩⟩
      have := congrArg Int32.toInt q
      rw [es, tm1] at this
      omega
  · rw [e, e0]
    rw [if_pos (by decide)]
    exact ⟨⟨fun q => absurd rfl q, fun q => absurd (by decide) q⟩, fun q => absurd rfl q⟩
theorem numc (y : Int32) : ∀ (n : Nat) (h : Nat → Nat → Int32) (z : Int32) {a : Nat}, a ≠ 0 → nmS y n h z a = h a := by
  intro n
  induction n with
  | zero => exact fun h z a ha => rfl
  | succ n ih =>
    intro h z a ha
    rw [nmS]
    split
    · rfl
    split
    · rfl
    split
    · rfl
    split
    · rfl
    rw [ih _ _ ha, up2_ne ha]
theorem num12 (y : Int32) : ∀ (n : Nat) (h : Nat → Nat → Int32) (z : Int32), nmS y n h z 0 12 = h 0 12 := by
  intro n
  induction n with
  | zero => exact fun h z => rfl
  | succ n ih =>
    intro h z
    rw [nmS]
    split
    · rfl
    split
    · rfl
    split
    · rfl
    split
    · rfl
    rw [ih]; exact up2_k (by decide)
/-- the class' reader fails at a digit that makes the number too great; the model stops there, and fails at the comma -/
def AtDigit (v : Nat → Nat → Int32) : Prop := ¬ v 0 8 ≤ v 0 11 ∧ ¬ rX7_sign v = 44
theorem loop_sim {y : Int32} (hy : Rg y 0 200) : ∀ (n : Nat) (h v : Nat → Nat → Int32) (z x : Int32), PB h v → v 0 12 = 1 → Rg z 0 200 → Rg z x.toInt y.toInt → 0 ≤ x.toInt →
    ((¬ rnR y n h z = 0 ∧ rnS y n h z 3 (tK h) = nmR y n v z ∧ Rg (nmR y n v z) x.toInt y.toInt) ∨ (rnR y n h z = 0 ∧ AtDigit (nmS y n v z))) ∧ PB (rnS y n h z) (nmS y n v z) ∧ (∀ j, j ≠ tK h → rnS y n h z 3 j = h 3 j) := by
  intro n
  induction n with
  | zero =>
    intro h v z x hp h12 hz hxy hx
    rw [rnR, rnS, nmR, nmS]
    exact ⟨Or.inl ⟨by decide, up2_s, hxy⟩, hp.of (up2_d (by decide)) (up2_d (by decide)) (up2_ne (by decide)) rfl rfl rfl, fun j hj => up2_k hj⟩
  | succ n ih =>
    intro h v z x hp h12 hz hxy hx
    rw [rnR, rnS, nmR, nmS]
    have stop : ((¬ (1 : Int32) = 0 ∧ up2 h 3 (tK h) z 3 (tK h) = z ∧ Rg z x.toInt y.toInt) ∨ ((1 : Int32) = 0 ∧ AtDigit v)) ∧ PB (up2 h 3 (tK h) z) v ∧ (∀ j, j ≠ tK h → up2 h 3 (tK h) z 3 j = h 3 j) := ⟨Or.inl ⟨by decide, up2_s, hxy⟩, hp.of (up2_d (by decide)) (up2_d (by decide)) (up2_ne (by decide)) rfl rfl rfl, fun j hj => up2_k hj⟩
    have c12 : ¬ v 0 12 = 0 := by rw [h12]; decide
    rw [if_neg c12, if_neg c12]
    by_cases c0 : z = 0
    · have c0' : z ≤ 0 := by rw [c0]; decide
      rw [if_pos c0, if_pos c0, if_pos c0', if_pos c0']; exact stop
    have c0' : ¬ z ≤ 0 := fun q => c0 (ieq (by rw [ile, t0] at q; rw [t0]; have := hz.1; omega))
    rw [if_neg c0, if_neg c0, if_neg c0', if_neg c0']
    have d := dig_iff hp
    by_cases c1 : rX4_nextDigit h = -1
    · have c1' : rX7_in (rX7_sign v) 48 57 = 0 := by
        by_cases q : rX7_in (rX7_sign v) 48 57 = 0
        · exact q
        · exact absurd c1 (d.1.mpr q)
      rw [if_pos c1, if_pos c1, if_pos c1', if_pos c1']; exact stop
    have c1' := d.1.mp c1
    rw [if_neg c1, if_neg c1, if_neg c1', if_neg c1']
    obtain ⟨e1, r1, c8⟩ := d.2 c1
    have ez : (10 * z + rX7_sign v) - 48 = z * 10 + rX4_nextDigit h := by
      rw [e1, Int32.mul_comm z 10, Int32.sub_eq_add_neg, Int32.sub_eq_add_neg, Int32.add_assoc]
    rw [ez]
    have hm : (z * 10).toInt = z.toInt * 10 := by
      rw [Int32.toInt_mul, t10]
      have := hz.1
      have := hz.2
      exact Int.bmod_eq_of_le (by omega) (by omega)
    have hs : (z * 10 + rX4_nextDigit h).toInt = z.toInt * 10 + (rX4_nextDigit h).toInt := by
      obtain ⟨r1a, r1b⟩ := r1
      obtain ⟨hz1, hz2⟩ := hz
      rw [tadd (by omega) (by omega), hm]
    by_cases c2 : z * 10 + rX4_nextDigit h ≤ y
    · have c2' : ¬ y < z * 10 + rX4_nextDigit h := by rw [ilt]; rw [ile] at c2; omega
      rw [if_pos c2, if_pos c2, if_neg c2', if_neg c2']
      have up := hp.up c8 (y := h 0 5 + 1) (z := v 0 11 + 1) rfl rfl
      have r := ih (up2 h 0 5 (h 0 5 + 1)) (up2 v 0 11 (v 0 11 + 1)) (z * 10 + rX4_nextDigit h) x up.1 ((up2_k (by decide)).trans h12) (by
        rw [ile] at c2
        have := hz.1
        have := r1.1
        have := hy.2
        rw [Rg, hs]; rw [hs] at c2; omega) (by
        rw [ile] at c2
        have := hz.1
        have := hxy.1
        have := r1.1
        rw [Rg, hs]; rw [hs] at c2; omega) hx
      have eK : tK (up2 h 0 5 (h 0 5 + 1)) = tK h := by unfold tK; rw [up2_k (by decide)]
      rw [eK] at r
      exact ⟨r.1, r.2.1, fun j hj => (r.2.2 j hj).trans (up2_d (by decide))⟩
    · have c2' : y < z * 10 + rX4_nextDigit h := by rw [ilt]; rw [ile] at c2; omega
      rw [if_neg c2, if_neg c2, if_pos c2', if_pos c2']
      refine ⟨Or.inr ⟨rfl, c8, fun q => ?_⟩, hp, fun j _ => rfl⟩
      rw [q] at c1'
      exact c1' (by decide)
