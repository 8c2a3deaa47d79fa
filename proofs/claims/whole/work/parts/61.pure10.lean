/-! ===== what each act does to a leg, on both sides ===== -/
def Bad (x : Int32) : Prop := x = (-105) ∨ ¬ rX6_isError x = 0
def Good (x : Int32) : Prop := ¬ x = (-105) ∧ rX6_isError x = 0
theorem good_rg {x : Int32} {p q : Int} (h : Rg x p q) (hp : -100 ≤ p) : Good x := by
  obtain ⟨h1, h2⟩ := h
  have e1 : (-101 : Int32).toInt = -101 := by decide
  have e5 : (-105 : Int32).toInt = -105 := by decide
  refine ⟨fun e => ?_, ?_⟩
  · rw [e, e5] at h1; omega
  · unfold rX6_isError
    rw [if_pos (by rw [ilt, e1]; omega)]
theorem bad_101 : Bad (-101) := Or.inr (by decide)
theorem bad_102 : Bad (-102) := Or.inr (by decide)
theorem bad_103 : Bad (-103) := Or.inr (by decide)
theorem bad_104 : Bad (-104) := Or.inr (by decide)
theorem bad_105 : Bad (-105) := Or.inl rfl
/-- an act: refused on both sides with one answer, or done on both -/
def Act (u : Nat → Nat → Int32) (g : Nat → Nat → Int32) (r ref : Int32) (g' : Nat → Nat → Int32) (res : (Nat → Nat → Int32) → Int32) (app : (Nat → Nat → Int32) → Nat → Nat → Int32) : Prop :=
  (¬ ref = 0 ∧ r = ref ∧ Bad r ∧ g' = g) ∨ (ref = 0 ∧ Good r ∧ ∀ v : Nat → Nat → Int32, v 1 = u 1 → r = res v ∧ RA g' (app v 1))
theorem RA.v {g u v : Nat → Nat → Int32} (h : RA g (u 1)) (e : v 1 = u 1) : RA g (v 1) := by rw [e]; exact h
theorem rg_iw {x lo hi : Int32} (h : ¬ rX6_isWithin x lo hi = 0) : Rg x lo.toInt hi.toInt := by
  have k := iw_1 h
  rw [ilt, ilt] at k
  exact ⟨by omega, by omega⟩
theorem num_good {g : Nat → Nat → Int32} {s : Nat → Int32} (h : RA g s) {k : Nat} (hk : k < 5) : Rg (g 1 k) (-9) 200 := by
  obtain ⟨⟨⟨-, -, g1, g2, g3, g4, -⟩, -⟩, -, hd, -⟩ := h
  rcases (show k = 0 ∨ k = 1 ∨ k = 2 ∨ k = 3 ∨ k = 4 by omega) with e | e | e | e | e <;> subst e
  · exact hd.mono (by decide)
  · exact g1.mono (by decide)
  · exact g2.mono (by decide)
  · exact g3.mono (by decide)
  · exact g4.mono (by decide)
theorem set_act {g u : Nat → Nat → Int32} (h : RA g (u 1)) (x y : Int32) : Act u g (rX3_setNumber g x y) (rX7_refusesSet u x y) (sX3_setNumber g x y) (fun v => v 1 x.toNatClampNeg) (fun v => up2 v 1 x.toNatClampNeg y) := by
  unfold rX3_setNumber rX7_refusesSet sX3_setNumber
  have ei : rX7_in x 0 4 = rX6_isWithin x 0 4 := rfl
  rw [ei]
  by_cases c : rX6_isWithin x 0 4 = 0
  · rw [if_pos c, if_pos c, if_pos c]
    exact Or.inl ⟨by decide, rfl, bad_101, rfl⟩
  rw [if_neg c, if_neg c, if_neg c]
  have hx := iw_c (n := 4) rfl (by decide) c
  generalize hk : x.toNatClampNeg = k at hx ⊢
  have hk5 : k < 5 := by omega
  have eN : rX7_isNumber x y = rX6_isWithin y (tLeast k) (tMost k) := by
    rw [hx.1]
    rcases (show k = 0 ∨ k = 1 ∨ k = 2 ∨ k = 3 ∨ k = 4 by omega) with e | e | e | e | e <;> subst e <;> rfl
  rw [eN]
  by_cases c2 : rX6_isWithin y (tLeast k) (tMost k) = 0
  · rw [if_pos c2, if_pos c2, if_pos c2]
    exact Or.inl ⟨by decide, rfl, bad_102, rfl⟩
  rw [if_neg c2, if_neg c2, if_neg c2]
  rw [h.1.2.2.1 k hk5]
  by_cases c3 : g 1 k = y
  · rw [if_pos c3, if_pos c3, if_pos c3]
    exact Or.inl ⟨by decide, rfl, bad_105, rfl⟩
  rw [if_neg c3, if_neg c3, if_neg c3]
  refine Or.inr ⟨rfl, good_rg (num_good h hk5) (by decide), fun v hv => ⟨?_, (h.v hv).set hk5 ?_⟩⟩
  · show g 1 k = v 1 k
    rw [hv]; exact (h.1.2.2.1 k hk5).symm
  · have r := rg_iw c2
    refine ⟨?_, ?_, ?_, ?_, ?_⟩ <;> intro e <;> subst e
    · exact r.mono (by decide)
    · exact r.mono (by decide)
    · exact r.mono (by decide)
    · exact r.mono (by decide)
    · exact r.mono (by decide)
theorem rs_le {m c : Int32} (h : RS m c) : (m ≤ 0 ↔ c = -105) ∧ (m = 0 ↔ c = -105) := by
  rcases h with ⟨rfl, rfl⟩ | ⟨rfl, rfl⟩ | ⟨rfl, rfl⟩ | ⟨rfl, rfl⟩ <;> decide
theorem gate_act {g u : Nat → Nat → Int32} (h : RA g (u 1)) (x : Int32) (hx : x = 0 ∨ x = 1) : Act u g (rX3_moveGate g x) (rX7_refusesGate u x) (sX3_moveGate g x) (fun v => v 1 5) (fun v => up2 v 1 15 (if x = 0 then 0 else 1)) := by
  have e15 : u 1 15 = g 0 7 := h.1.2.2.2.2.2.2.2.1
  have e16 := rs_le h.1.2.2.2.2.2.2.2.2.1
  have hz : g 0 7 = 0 ∨ g 0 7 = 1 := h.1.1.2.1.2
  have ec : (if (u 1 15) = 1 then (1 : Int32) else 0) = g 0 7 := by
    rw [e15]; rcases hz with e | e <;> rw [e] <;> rfl
  have good : Good (g 4 0) := good_rg h.1.1.2.2.2.2.2.2.1 (by decide)
  have ex : (if x = 0 then (0 : Int32) else 1) = x := by rcases hx with e | e <;> rw [e] <;> rfl
  have done : ∀ v : Nat → Nat → Int32, v 1 = u 1 → g 4 0 = v 1 5 ∧ RA (up2 g 0 7 x) (up2 v 1 15 (if x = 0 then 0 else 1) 1) := fun v hv => by
    rw [ex]
    exact ⟨by rw [hv]; exact h.1.2.1.1.symm, (h.v hv).own (Or.inr (Or.inl ⟨rfl, rfl, rfl, hx⟩))⟩
  unfold rX3_moveGate rX7_refusesGate sX3_moveGate
  rw [ec]
  by_cases c : x = 0
  · rw [if_pos c, if_pos c, if_pos c]
    by_cases c2 : g 0 7 = x
    · rw [if_pos c2, if_pos c2, if_pos c2]; exact Or.inl ⟨by decide, rfl, bad_105, rfl⟩
    · rw [if_neg c2, if_neg c2, if_neg c2]; exact Or.inr ⟨rfl, good, done⟩
  · rw [if_neg c, if_neg c, if_neg c]
    by_cases c1 : g 0 11 = -105
    · rw [if_pos c1, if_pos (e16.1.mpr c1), if_pos c1]
      by_cases c2 : g 0 7 = x
      · rw [if_pos c2, if_pos c2, if_pos c2]; exact Or.inl ⟨by decide, rfl, bad_105, rfl⟩
      · rw [if_neg c2, if_neg c2, if_neg c2]; exact Or.inr ⟨rfl, good, done⟩
    · rw [if_neg c1, if_neg (fun q => c1 (e16.1.mp q)), if_neg c1]; exact Or.inl ⟨by decide, rfl, bad_104, rfl⟩
theorem start_act {g u : Nat → Nat → Int32} (h : RA g (u 1)) : Act u g (rX3_switchOn g) (rX7_refusesStart u) (sX3_switchOn g) (fun v => rX7_load (up2 v 1 14 1)) (fun v => up2 v 1 14 1) := by
  have e14 : u 1 14 = g 0 6 := h.1.2.2.2.2.2.2.1
  have e16 := rs_le h.1.2.2.2.2.2.2.2.2.1
  have hz : g 0 6 = 0 ∨ g 0 6 = 1 := h.1.1.2.1.1
  unfold rX3_switchOn rX7_refusesStart sX3_switchOn
  rw [e14]
  by_cases c1 : g 0 11 = -105
  · rw [if_pos c1, if_pos (e16.1.mpr c1), if_pos c1]
    by_cases c2 : g 0 6 = 0
    · rw [if_pos c2, if_neg (by rw [c2]; decide), if_pos c2]
      have K : ∀ v : Nat → Nat → Int32, v 1 = u 1 → RA (up2 g 0 6 1) (up2 v 1 14 1 1) := fun v hv => (h.v hv).own (Or.inl ⟨rfl, rfl, rfl, Or.inr rfl⟩)
      have l0 := load_sim (K u rfl).1.1 (K u rfl).1.2.1
      exact Or.inr ⟨rfl, good_rg l0.2 (by decide), fun v hv => ⟨(load_sim (K v hv).1.1 (K v hv).1.2.1).1.symm, K v hv⟩⟩
    · rw [if_neg c2, if_pos (hz.resolve_left c2), if_neg c2]; exact Or.inl ⟨by decide, rfl, bad_105, rfl⟩
  · rw [if_neg c1, if_neg (fun q => c1 (e16.1.mp q)), if_neg c1]; exact Or.inl ⟨by decide, rfl, bad_104, rfl⟩
theorem stop_act {g u : Nat → Nat → Int32} (h : RA g (u 1)) : Act u g (rX3_switchOff g) (if u 1 14 = 0 then (-105) else 0) (sX3_switchOff g) (fun v => rX7_inBuckets (up2 v 1 14 0)) (fun v => up2 v 1 14 0) := by
  have e14 : u 1 14 = g 0 6 := h.1.2.2.2.2.2.2.1
  unfold rX3_switchOff sX3_switchOff
  rw [e14]
  by_cases c2 : g 0 6 = 0
  · rw [if_pos c2, if_pos c2, if_pos c2]; exact Or.inl ⟨by decide, rfl, bad_105, rfl⟩
  · rw [if_neg c2, if_neg c2, if_neg c2]
    have K : ∀ v : Nat → Nat → Int32, v 1 = u 1 → RA (up2 g 0 6 0) (up2 v 1 14 0 1) := fun v hv => (h.v hv).own (Or.inl ⟨rfl, rfl, rfl, Or.inl rfl⟩)
    have l0 := all_sim (K u rfl).1.1 (K u rfl).1.2.1
    exact Or.inr ⟨rfl, good_rg l0.2 (by decide), fun v hv => ⟨(all_sim (K v hv).1.1 (K v hv).1.2.1).1.symm, K v hv⟩⟩
theorem z1 : ¬ (0 : Int32) = -105 := by decide
theorem z2 : ¬ (1 : Int32) = -105 := by decide
theorem z3 : ¬ (2 : Int32) = -105 := by decide
theorem z4 : ¬ (1 : Int32) = 0 := by decide
theorem z5 : ¬ (2 : Int32) = 0 := by decide
theorem z6 : ¬ (2 : Int32) = 1 := by decide
theorem z7 : ¬ (3 : Int32) = 0 := by decide
theorem z8 : ¬ (3 : Int32) = 1 := by decide
theorem z9 : ¬ (3 : Int32) = 2 := by decide
theorem reset_act {g u : Nat → Nat → Int32} (h : RA g (u 1)) : Act u g (rX3_forgetReason g) (rX7_refusesReset u) (sX3_forgetReason g) (fun v => v 1 16 - 1) (fun v => up2 v 1 16 0) := by
  have hs : RS (u 1 16) (g 0 11) := h.1.2.2.2.2.2.2.2.2.1
  have ld := load_sim h.1.1 h.1.2.1
  have b5 : u 1 5 = g 4 0 := h.1.2.1.1
  have c13 : u 1 13 = g 0 10 := h.1.2.2.2.2.2.1
  have n1 : u 1 1 = g 1 1 := h.1.2.2.1 1 (by decide)
  have K : ∀ v : Nat → Nat → Int32, v 1 = u 1 → RA (up2 g 0 11 (-105)) (up2 v 1 16 0 1) := fun v hv => (h.v hv).own (Or.inr (Or.inr ⟨rfl, rfl, Or.inl ⟨rfl, rfl⟩⟩))
  have done : ∀ c m : Int32, g 0 11 = c → u 1 16 = m → m - 1 = c → ∀ v : Nat → Nat → Int32, v 1 = u 1 → c = v 1 16 - 1 ∧ RA (up2 g 0 11 (-105)) (up2 v 1 16 0 1) := fun c m e1 e2 e3 v hv => ⟨by rw [hv, e2, e3], K v hv⟩
  unfold rX3_forgetReason rX7_refusesReset sX3_forgetReason rX3_mayBeReset
  rw [ld.1, b5, c13, n1]
  rcases hs with ⟨a, b⟩ | ⟨a, b⟩ | ⟨a, b⟩ | ⟨a, b⟩
  · rw [a, b, if_pos rfl, if_pos rfl, if_pos rfl]; exact Or.inl ⟨by decide, rfl, bad_105, rfl⟩
  · have dn := done 0 1 b a (by decide)
    rw [a, b]
    by_cases c : g 1 1 < rX3_load g
    · simp only [z1, z4, c, reduceIte]; exact Or.inl ⟨by decide, rfl, bad_104, rfl⟩
    · simp only [z1, z4, c, reduceIte]; exact Or.inr ⟨rfl, ⟨by decide, by decide⟩, dn⟩
  · have dn := done 1 2 b a (by decide)
    rw [a, b]
    by_cases c : 150 ≤ g 4 0
    · simp only [z2, z4, z5, z6, c, reduceIte]; exact Or.inl ⟨by decide, rfl, bad_104, rfl⟩
    · simp only [z2, z4, z5, z6, c, reduceIte]; exact Or.inr ⟨rfl, ⟨by decide, by decide⟩, dn⟩
  · have dn := done 2 3 b a (by decide)
    rw [a, b]
    by_cases c : 50 ≤ g 0 10
    · simp only [z3, z4, z5, z6, z7, z8, z9, c, reduceIte]; exact Or.inl ⟨by decide, rfl, bad_104, rfl⟩
    · simp only [z3, z4, z5, z6, z7, z8, z9, c, reduceIte]; exact Or.inr ⟨rfl, ⟨by decide, by decide⟩, dn⟩
theorem clean_act {g u : Nat → Nat → Int32} (h : RA g (u 1)) (x : Int32) : Act u g (rX3_takeByHand g x) (if rX7_in x 1 300 = 0 then (-102) else if u 1 14 = 1 then (-104) else if x ≤ u 1 5 then 0 else (-104)) (sX3_takeByHand g x) (fun v => v 1 5 - x) (fun v => up2 (up2 v 1 5 (v 1 5 - x)) 1 9 (v 1 9 + x)) := by
  have e14 : u 1 14 = g 0 6 := h.1.2.2.2.2.2.2.1
  have hz : g 0 6 = 0 ∨ g 0 6 = 1 := h.1.1.2.1.1
  have b5 : u 1 5 = g 4 0 := h.1.2.1.1
  unfold rX3_takeByHand sX3_takeByHand
  rw [e14, b5]
  have ei : rX7_in x 1 300 = rX6_isWithin x 1 300 := rfl
  rw [ei]
  by_cases c : rX6_isWithin x 1 300 = 0
  · rw [if_pos c, if_pos c, if_pos c]; exact Or.inl ⟨by decide, rfl, bad_102, rfl⟩
  rw [if_neg c, if_neg c, if_neg c]
  by_cases c2 : g 0 6 = 0
  · have c21 : ¬ g 0 6 = 1 := by rw [c2]; decide
    rw [if_pos c2, if_neg c21, if_pos c2]
    by_cases c3 : x ≤ g 4 0
    · rw [if_pos c3, if_pos c3, if_pos c3]
      have rx := rg_iw c
      have rb := h.1.1.2.2.2.2.2.2.1
      have e : (g 4 0 - x).toInt = (g 4 0).toInt - x.toInt := by
        obtain ⟨x1, x2⟩ := rx
        obtain ⟨b1, b2⟩ := rb
        rw [t1] at x1
        rw [t300] at x2
        exact tsub (by omega) (by omega)
      have rr : Rg (g 4 0 - x) 0 300 := by
        obtain ⟨x1, x2⟩ := rx
        obtain ⟨b1, b2⟩ := rb
        rw [t1] at x1
        rw [ile] at c3
        rw [Rg, e]; omega
      refine Or.inr ⟨rfl, good_rg rr (by decide), fun v hv => ⟨by show _ = v 1 5 - x; rw [hv, b5], ?_⟩⟩
      have K := h.v hv
      show RA (up2 (up2 g 4 0 (g 4 0 - x)) 4 4 (g 4 4 + x)) (up2 (up2 v 1 5 (v 1 5 - x)) 1 9 (v 1 9 + x) 1)
      obtain ⟨⟨⟨hok, hz', g1, g2, g3, g4, gb, gk, gs⟩, ⟨b5, b6, b7, b8, b9, b10, bb⟩, hC⟩, hT, hd, ht⟩ := K
      have en : ∀ {a : Nat}, a ≠ 4 → up2 (up2 g 4 0 (g 4 0 - x)) 4 4 (g 4 4 + x) a = g a := fun ha => (up2_ne ha).trans (up2_ne ha)
      have s0 : ∀ {j : Nat}, j ≠ 5 → j ≠ 9 → up2 (up2 v 1 5 (v 1 5 - x)) 1 9 (v 1 9 + x) 1 j = v 1 j := fun h5 h9 => (up2_k h9).trans (up2_k h5)
      have e40 : up2 (up2 g 4 0 (g 4 0 - x)) 4 4 (g 4 4 + x) 4 0 = g 4 0 - x := (up2_k (by decide)).trans up2_s
      have e44 : up2 (up2 g 4 0 (g 4 0 - x)) 4 4 (g 4 4 + x) 4 4 = g 4 4 + x := up2_s
      have e4o : ∀ j, j ≠ 0 → j ≠ 4 → up2 (up2 g 4 0 (g 4 0 - x)) 4 4 (g 4 4 + x) 4 j = g 4 j := fun j a b => (up2_k b).trans (up2_k a)
      refine ⟨⟨⟨hok.of (en (by decide)), ?_, ?_, ?_, ?_, ?_, ?_, ?_, ?_⟩, ⟨?_, ?_, ?_, ?_, ?_, ?_, ?_⟩, ?_⟩, ?_, ?_, ?_⟩
      · unfold LZ; rw [en (by decide)]; exact hz'
      · rw [en (by decide)]; exact g1
      · rw [en (by decide)]; exact g2
      · rw [en (by decide)]; exact g3
      · rw [en (by decide)]; exact g4
      · rw [e40]; exact rr
      · intro i hi; rw [bk_of (g := g) (en (by decide)) (en (by decide))]; exact gk i hi
      · unfold SizeOK; rw [en (by decide)]; exact gs
      · rw [e40]; exact ((up2_k (by decide)).trans up2_s).trans (by rw [b5])
      · rw [s0 (by decide) (by decide), e4o 1 (by decide) (by decide)]; exact b6
      · rw [s0 (by decide) (by decide), e4o 2 (by decide) (by decide)]; exact b7
      · rw [s0 (by decide) (by decide), e4o 3 (by decide) (by decide)]; exact b8
      · rw [e44, up2_s, b9]
      · rw [s0 (by decide) (by decide), e4o 5 (by decide) (by decide)]; exact b10
      · intro i hi; rw [s0 (by omega) (by omega), bk_of (g := g) (en (by decide)) (en (by decide))]; exact bb i hi
      · exact hC.of (en (by decide)) (en (by decide)) (en (by decide)) (en (by decide)) (en (by decide)) (en (by decide)) (en (by decide)) (fun j hj => s0 (by omega) (by omega))
      · exact hT.of (congrFun (en (by decide)) 12) (en (by decide)) (s0 (by decide) (by decide)) (fun i hi => s0 (by omega) (by omega))
      · unfold LD; rw [en (by decide)]; exact hd
      · rw [en (by decide)]; exact ht
    · rw [if_neg c3, if_neg c3, if_neg c3]; exact Or.inl ⟨by decide, rfl, bad_104, rfl⟩
  · rw [if_neg c2, if_pos (hz.resolve_left c2), if_neg c2]; exact Or.inl ⟨by decide, rfl, bad_104, rfl⟩
theorem run_act {g u : Nat → Nat → Int32} (h : RA g (u 1)) (x : Int32) : Act u g (rX3_passTicks g x) (rX7_refusesRun u x) (sX3_passTicks g x) (fun v => rX7_ticks v x) (fun v => sX7_ticks v x) := by
  have e17 : u 1 17 = g 0 12 := by have q := h.2.1.1; rw [Int32.add_zero] at q; exact q
  unfold rX3_passTicks rX7_refusesRun sX3_passTicks
  rw [e17]
  have ei : rX7_in x 1 200 = rX6_isWithin x 1 200 := rfl
  rw [ei]
  by_cases c : rX6_isWithin x 1 200 = 0
  · rw [if_pos c, if_pos c, if_pos c]; exact Or.inl ⟨by decide, rfl, bad_102, rfl⟩
  rw [if_neg c, if_neg c, if_neg c]
  by_cases c2 : g 0 12 + x ≤ 99999
  · rw [if_pos c2, if_pos c2, if_pos c2]
    have rx := rg_iw c
    have e200 : (200 : Int32).toInt = 200 := by decide
    have e9 : (99999 : Int32).toInt = 99999 := by decide
    obtain ⟨x1, x2⟩ := rx
    rw [t1] at x1
    rw [e200] at x2
    have hn : x.toNatClampNeg ≤ 200 := by
      have : x.toNatClampNeg = x.toInt.toNat := rfl
      omega
    have hx : x = nI x.toNatClampNeg := by
      have : x.toNatClampNeg = x.toInt.toNat := rfl
      refine ieq ?_
      rw [nI_toInt (by omega)]
      omega
    have od := ticks_OD h.1 h.2.2.1 x.toNatClampNeg (by omega)
    obtain ⟨d, dr, de⟩ := od
    have eg : (iterN (fun _ => sX3_tick) x.toNatClampNeg g) 4 1 - g 4 1 = d := by
      rw [de, Int32.add_comm, Int32.add_sub_cancel]
    have gd : Good d := good_rg dr (by decide)
    rw [eg]
    refine Or.inr ⟨rfl, gd, fun v hv => ?_⟩
    have K := h.v hv
    have t := iterT_sim (P := True) K.1 (fun _ => K.2.1) x.toNatClampNeg
    refine ⟨?_, t.1, t.2 trivial, ?_, ?_⟩
    · show d = rX7_ticks v x
      unfold rX7_ticks
      rw [t.1.2.1.2.1, K.1.2.1.2.1, eg]
    · unfold LD; rw [ticks_1]; exact h.2.2.1
    · rw [ticks_12, ← hx]
      obtain ⟨k1, k2⟩ := h.2.2.2
      rw [ile, e9] at c2
      have e := tadd (a := g 0 12) (b := x) (by omega) (by omega)
      rw [Rg, e]; rw [e] at c2; omega
  · rw [if_neg c2, if_neg c2, if_neg c2]; exact Or.inl ⟨by decide, rfl, bad_103, rfl⟩
