/-! ===== the text: a number, the alignment, a value, a command ===== -/
def NO (t t' u u' : Nat → Nat → Int32) (b : Int32) (ok : Prop) : Prop := PB t' u' ∧ (∀ j, j ≠ tK t → t' 3 j = t 3 j) ∧ ((¬ b = 0 ∧ ¬ u' 0 12 = 0 ∧ ok) ∨ (b = 0 ∧ ¬ u' 0 12 = 0 ∧ AtDigit u') ∨ (b = 0 ∧ u' 0 12 = 0))
theorem sign_of {u v : Nat → Nat → Int32} (e8 : v 0 8 = u 0 8) (e11 : v 0 11 = u 0 11) (e5 : v 5 = u 5) : rX7_sign v = rX7_sign u := by
  unfold rX7_sign mA
  rw [e8, e11, e5]
theorem AtDigit.of {u v : Nat → Nat → Int32} (h : AtDigit u) (e8 : v 0 8 = u 0 8) (e11 : v 0 11 = u 0 11) (e5 : v 5 = u 5) : AtDigit v := by
  unfold AtDigit
  rw [sign_of e8 e11 e5, e8, e11]
  exact h
/-- the first digit of a number is allowed, on both sides -/
theorem first_dig {t u : Nat → Nat → Int32} {x y : Int32} (h : PB t u) (hx : x = 0 ∨ x = 1) (hy : Rg y 6 200) : (¬ rX7_in (rX7_sign u) (48 + x) (if 9 ≤ y then 57 else 48 + y) = 0 ↔ ¬ rX4_nextDigit t = -1 ∧ ¬ rX6_isWithin (rX4_nextDigit t) x y = 0) := by
  have d := dig_iff h
  have hx' : 0 ≤ x.toInt ∧ x.toInt ≤ 1 := by rcases hx with e | e <;> rw [e] <;> decide
  have e48x : (48 + x).toInt = 48 + x.toInt := by rw [tadd (by rw [t48]; omega) (by rw [t48]; omega), t48]
  obtain ⟨y1, y2⟩ := hy
  have e48y : (48 + y).toInt = 48 + y.toInt := by rw [tadd (by rw [t48]; omega) (by rw [t48]; omega), t48]
  have eT : (if 9 ≤ y then (57 : Int32) else 48 + y).toInt = if 9 ≤ y.toInt then 57 else 48 + y.toInt := by
    by_cases c : 9 ≤ y
    · rw [if_pos c, if_pos (by rw [ile, t9] at c; exact c), t57]
    · rw [if_neg c, if_neg (by rw [ile, t9] at c; exact c), e48y]
  rw [in_iff, e48x, eT]
  constructor
  · intro q
    have w : ¬ rX7_in (rX7_sign u) 48 57 = 0 := in_iff.mpr (by
      rw [t48, t57]
      by_cases c : 9 ≤ y.toInt
      · rw [if_pos c] at q; omega
      · rw [if_neg c] at q; omega)
    have n := d.1.mpr w
    refine ⟨n, iw_iff.mpr ?_⟩
    obtain ⟨e, r, -⟩ := d.2 n
    have w2 := in_iff.mp w
    rw [t48, t57] at w2
    have es : (rX7_sign u - 48).toInt = (rX7_sign u).toInt - 48 := by rw [tsub (by rw [t48]; omega) (by rw [t48]; omega), t48]
    rw [e, es]
    by_cases c : 9 ≤ y.toInt
    · rw [if_pos c] at q; omega
    · rw [if_neg c] at q; omega
  · intro ⟨n, q⟩
    obtain ⟨e, r, -⟩ := d.2 n
    have w2 := in_iff.mp (d.1.mp n)
    rw [t48, t57] at w2
    have es : (rX7_sign u - 48).toInt = (rX7_sign u).toInt - 48 := by rw [tsub (by rw [t48]; omega) (by rw [t48]; omega), t48]
    have q2 := iw_iff.mp q
    rw [e, es] at q2
    by_cases c : 9 ≤ y.toInt
    · rw [if_pos c]; omega
    · rw [if_neg c]; omega
/-- the model's place behind the first digit -/
theorem nmB_sim {t u : Nat → Nat → Int32} {x y : Int32} (h : PB t u) (h12 : u 0 12 = 1) (hx : x = 0 ∨ x = 1) (hy : Rg y 6 200) :
    (¬ rX4_nextDigit t = -1 ∧ ¬ rX6_isWithin (rX4_nextDigit t) x y = 0 ∧ nmB u x y 0 12 = 1 ∧ rX7_sign (nmA u x y) - 48 = rX4_nextDigit t ∧ Rg (rX4_nextDigit t) x.toInt y.toInt ∧ Rg (rX4_nextDigit t) 0 9 ∧ PB (up2 t 0 5 (t 0 5 + 1)) (nmB u x y)) ∨
    ((rX4_nextDigit t = -1 ∨ rX6_isWithin (rX4_nextDigit t) x y = 0) ∧ nmB u x y 0 12 = 0 ∧ PB t (nmB u x y)) := by
  have eA := nmA_e u x y
  have eS : rX7_sign (nmA u x y) = rX7_sign u := sign_of eA.1 eA.2.1 (by unfold nmA; exact up2_ne (by decide))
  have hpA : PB t (nmA u x y) := h.of rfl rfl rfl eA.1 eA.2.1 (by unfold nmA; exact up2_ne (by decide))
  have eW : nmW u x y = if rX7_in (rX7_sign u) (48 + x) (if 9 ≤ y then 57 else 48 + y) = 0 then 0 else 1 := by
    unfold nmW
    rw [if_neg (by rw [h12]; decide)]
  have fd := first_dig h hx hy
  by_cases c : rX7_in (rX7_sign u) (48 + x) (if 9 ≤ y then 57 else 48 + y) = 0
  · rw [if_pos c] at eW
    have e12 : nmA u x y 0 12 = 0 := eA.2.2.1.trans eW
    refine Or.inr ⟨?_, ?_, ?_⟩
    · by_cases n : rX4_nextDigit t = -1
      · exact Or.inl n
      · by_cases w : rX6_isWithin (rX4_nextDigit t) x y = 0
        · exact Or.inr w
        · exact absurd c (fd.mpr ⟨n, w⟩)
    · unfold nmB; rw [up2_k (by decide)]; exact e12
    · unfold nmB
      rw [e12, if_pos rfl, Int32.add_zero]
      exact hpA.of rfl rfl rfl (up2_k (by decide)) up2_s (up2_ne (by decide))
  · rw [if_neg c] at eW
    have e12 : nmA u x y 0 12 = 1 := eA.2.2.1.trans eW
    obtain ⟨n, w⟩ := fd.mp c
    have d := dig_iff h
    obtain ⟨e, r, c8⟩ := d.2 n
    refine Or.inl ⟨n, w, ?_, by rw [eS, e], rg_iw w, r, ?_⟩
    · unfold nmB; rw [up2_k (by decide)]; exact e12
    · unfold nmB
      rw [e12, if_neg (by decide)]
      exact (hpA.up (by rw [eA.1, eA.2.1]; exact c8) rfl rfl).1
theorem number_sim {t u : Nat → Nat → Int32} {x y : Int32} (h : PB t u) (h12 : u 0 12 = 1) (hx : x = 0 ∨ x = 1) (hy : Rg y 6 200) :
    NO t (sX4_readNumber t x y) u (sX7_number u x y) (rX4_readNumber t x y) (sX4_readNumber t x y 3 (tK t) = rX7_number u x y ∧ Rg (rX7_number u x y) x.toInt y.toInt) := by
  have hx0 : 0 ≤ x.toInt := by rcases hx with e | e <;> rw [e] <;> decide
  unfold sX4_readNumber rX4_readNumber sX7_number rX7_number
  rcases nmB_sim h h12 hx hy with ⟨c1, c2, b12, ez, rz, r9, hp⟩ | ⟨c, b12, hp⟩
  · rw [if_neg c1, if_neg c1, if_neg c2, if_neg c2, ez]
    have L := loop_sim (y := y) (hy.mono (by decide)) 60 _ _ _ x hp b12 (r9.mono (by decide)) rz hx0
    have eK : tK (up2 t 0 5 (t 0 5 + 1)) = tK t := by unfold tK; rw [up2_k (by decide)]
    rw [eK] at L
    have n12 : ¬ nmS y 60 (nmB u x y) (rX4_nextDigit t) 0 12 = 0 := by rw [num12, b12]; decide
    refine ⟨L.2.1, fun j hj => (L.2.2 j hj).trans (up2_d (by decide)), ?_⟩
    rcases L.1 with ⟨a1, a2, a3⟩ | ⟨a1, a2⟩
    · exact Or.inl ⟨a1, n12, a2, a3⟩
    · exact Or.inr (Or.inl ⟨a1, n12, a2⟩)
  · have st : ∀ z, nmS y 60 (nmB u x y) z = nmB u x y := fun z => by
      show nmS y (59 + 1) (nmB u x y) z = nmB u x y
      rw [nmS, if_pos b12]
    have e : (if rX4_nextDigit t = -1 then (0 : Int32) else if rX6_isWithin (rX4_nextDigit t) x y = 0 then 0 else rnR y 60 (up2 t 0 5 ((t 0 5) + 1)) (rX4_nextDigit t)) = 0 ∧ (if rX4_nextDigit t = -1 then t else if rX6_isWithin (rX4_nextDigit t) x y = 0 then t else rnS y 60 (up2 t 0 5 ((t 0 5) + 1)) (rX4_nextDigit t)) = t := by
      rcases c with q | q
      · rw [if_pos q, if_pos q]; exact ⟨rfl, rfl⟩
      · by_cases n : rX4_nextDigit t = -1
        · rw [if_pos n, if_pos n]; exact ⟨rfl, rfl⟩
        · rw [if_neg n, if_neg n, if_pos q, if_pos q]; exact ⟨rfl, rfl⟩
    rw [e.1, e.2, st]
    exact ⟨hp, fun j _ => rfl, Or.inr (Or.inr ⟨rfl, b12⟩)⟩
/-- one digit only: the alignment's loop ends at once -/
theorem nm9 (v : Nat → Nat → Int32) {z : Int32} (hz : Rg z 0 9) (ha : MAt v) (hl : MLen v) (n : Nat) : nmR 9 n v z = z ∧ nmS 9 n v z = v := by
  cases n with
  | zero => exact ⟨rfl, rfl⟩
  | succ n =>
    rw [nmR, nmS]
    by_cases c0 : v 0 12 = 0
    · rw [if_pos c0, if_pos c0]; exact ⟨rfl, rfl⟩
    rw [if_neg c0, if_neg c0]
    by_cases c1 : z ≤ 0
    · rw [if_pos c1, if_pos c1]; exact ⟨rfl, rfl⟩
    rw [if_neg c1, if_neg c1]
    by_cases c2 : rX7_in (rX7_sign v) 48 57 = 0
    · rw [if_pos c2, if_pos c2]; exact ⟨rfl, rfl⟩
    rw [if_neg c2, if_neg c2]
    have r := in_iff.mp c2
    rw [t48, t57] at r
    rw [ile, t0] at c1
    have z2 := hz.2
    have hm : (10 * z).toInt = 10 * z.toInt := by
      rw [Int32.toInt_mul, t10]
      exact Int.bmod_eq_of_le (by omega) (by omega)
    have e1 : (10 * z + rX7_sign v).toInt = 10 * z.toInt + (rX7_sign v).toInt := by rw [tadd (by omega) (by omega), hm]
    have e2 : (10 * z + rX7_sign v - 48).toInt = 10 * z.toInt + (rX7_sign v).toInt - 48 := by rw [tsub (by rw [t48]; omega) (by rw [t48]; omega), e1, t48]
    have c3 : (9 : Int32) < 10 * z + rX7_sign v - 48 := by rw [ilt, e2, t9]; omega
    rw [if_pos c3, if_pos c3]
    exact ⟨rfl, rfl⟩
theorem align_sim {t u : Nat → Nat → Int32} (h : PB t u) (h12 : u 0 12 = 1) :
    NO t (sX4_readAlignment t) u (sX7_alignment u) (rX4_readAlignment t) (sX4_readAlignment t 3 (tK t) = rX7_alignment u ∧ Rg (rX7_alignment u) (-9) 9) := by
  have c12 : ¬ u 0 12 = 0 := by rw [h12]; decide
  have eM : tMinus t = mLess u := by
    unfold tMinus mLess
    rw [if_neg c12]
    rcases nx_sg h with ⟨e, -⟩ | ⟨e, e0, -⟩
    · rw [e]
    · rw [e, e0]; decide
  have m01 : mLess u = 0 ∨ mLess u = 1 := by
    unfold mLess
    rw [if_neg c12]
    split
    · exact Or.inr rfl
    · exact Or.inl rfl
  have eb : b01 (mLess u) = mLess u := by rcases m01 with e | e <;> rw [e] <;> decide
  have hp : PB (jX4_readAlignment_29 t) (mAl u) := by
    unfold jX4_readAlignment_29 mAl
    rw [eM, eb]
    rcases m01 with e | e
    · rw [e, if_pos rfl, Int32.add_zero]
      exact h.of rfl rfl rfl (up2_k (by decide)) up2_s (up2_ne (by decide))
    · rw [e, if_neg (by decide)]
      have c8 : ¬ u 0 8 ≤ u 0 11 := by
        intro q
        rw [mLess, if_neg (by rw [h12]; decide), sign_ge q, if_neg (by decide)] at e
        exact absurd e (by decide)
      exact (h.up c8 rfl rfl).1
  have a12 : mAl u 0 12 = 1 := by unfold mAl; rw [up2_k (by decide)]; exact h12
  have eK : tK (jX4_readAlignment_29 t) = tK t := by
    unfold jX4_readAlignment_29
    split
    · rfl
    · unfold tK; rw [up2_k (by decide)]
  have e3 : ∀ j, jX4_readAlignment_29 t 3 j = t 3 j := fun j => by
    unfold jX4_readAlignment_29
    split
    · rfl
    · exact up2_d (by decide)
  unfold sX4_readAlignment rX4_readAlignment sX7_alignment rX7_alignment sX7_number rX7_number
  rw [eb, eM]
  generalize jX4_readAlignment_29 t = k at hp eK e3
  have r9 : Rg (9 : Int32) 6 200 := ⟨by decide, by decide⟩
  rcases nmB_sim (x := mLess u) (y := 9) hp a12 m01 r9 with ⟨c1, c2, b12, ez, rz, r9, hp2⟩ | ⟨c, b12, hp2⟩
  · have n9 := nm9 (nmB (mAl u) (mLess u) 9) r9 hp2.2.2.2.2 hp2.len 60
    rw [if_neg c1, if_neg c1, ez, n9.1, n9.2]
    have n12 : ¬ nmB (mAl u) (mLess u) 9 0 12 = 0 := by rw [b12]; decide
    rcases m01 with e | e
    · simp only [e, reduceIte]
      rw [e] at hp2 n12
      refine ⟨hp2.of (up2_d (by decide)) (up2_d (by decide)) (up2_ne (by decide)) rfl rfl rfl, fun j hj => ?_, Or.inl ⟨by decide, n12, up2_s, r9.mono (by decide)⟩⟩
      rw [up2_k hj, up2_d (by decide), e3]
    · have e0 : ¬ mLess u = 0 := by rw [e]; decide
      rw [e, t1] at rz
      have cz : ¬ rX4_nextDigit k = 0 := by
        intro q
        have := rz.1
        rw [q, t0] at this
        omega
      simp only [e0, cz, reduceIte]
      refine ⟨hp2.of (up2_d (by decide)) (up2_d (by decide)) (up2_ne (by decide)) rfl rfl rfl, fun j hj => ?_, Or.inl ⟨by decide, n12, up2_s, ?_⟩⟩
      · rw [up2_k hj, up2_d (by decide), e3]
      · have en := tneg (a := rX4_nextDigit k) (by have := r9.1; omega) (by have := r9.2; omega)
        have := r9.1
        have := r9.2
        rw [Rg, en]; omega
  · have st : ∀ z, nmS 9 60 (nmB (mAl u) (mLess u) 9) z = nmB (mAl u) (mLess u) 9 := fun z => by
      show nmS 9 (59 + 1) (nmB (mAl u) (mLess u) 9) z = _
      rw [nmS, if_pos b12]
    have fin : NO t k u (nmB (mAl u) (mLess u) 9) 0 (k 3 (tK t) = (if mLess u = 0 then nmR 9 60 (nmB (mAl u) (mLess u) 9) (rX7_sign (nmA (mAl u) (mLess u) 9) - 48) else -nmR 9 60 (nmB (mAl u) (mLess u) 9) (rX7_sign (nmA (mAl u) (mLess u) 9) - 48)) ∧ Rg (if mLess u = 0 then nmR 9 60 (nmB (mAl u) (mLess u) 9) (rX7_sign (nmA (mAl u) (mLess u) 9) - 48) else -nmR 9 60 (nmB (mAl u) (mLess u) 9) (rX7_sign (nmA (mAl u) (mLess u) 9) - 48)) (-9) 9) := ⟨hp2, fun j _ => e3 j, Or.inr (Or.inr ⟨rfl, b12⟩)⟩
    rw [st]
    by_cases n : rX4_nextDigit k = -1
    · rw [if_pos n, if_pos n]; exact fin
    · rw [if_neg n, if_neg n]
      have w := c.resolve_left n
      have r0 := (dig_iff hp).2 n
      rcases m01 with e | e
      · rw [e] at w
        exact absurd w (iw_iff.mpr (by rw [t0, t9]; exact r0.2.1))
      · rw [e] at w
        have z0 : rX4_nextDigit k = 0 := by
          have q : ¬ ((1 : Int32).toInt ≤ (rX4_nextDigit k).toInt ∧ (rX4_nextDigit k).toInt ≤ (9 : Int32).toInt) := fun q => (iw_iff.mpr q) w
          rw [t1, t9] at q
          have := r0.2.1.1
          have := r0.2.1.2
          exact ieq (by rw [t0]; omega)
        have e0 : ¬ mLess u = 0 := by rw [e]; decide
        simp only [e0, z0, reduceIte] at fin ⊢
        exact fin
