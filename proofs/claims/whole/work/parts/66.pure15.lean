/-! ===== perform: one command, all commands ===== -/
theorem bad_ref {r ref : Int32} (h : r = ref) (hb : Bad r) (h0 : ¬ ref = 0) : (rX6_isError r = 0 ∧ ref = -105) ∨ (¬ rX6_isError r = 0 ∧ ref = r ∧ ¬ ref = 0 ∧ ¬ ref = -105) := by
  subst h
  rcases hb with e | e
  · exact Or.inl ⟨by rw [e]; decide, e⟩
  · refine Or.inr ⟨e, rfl, h0, fun q => ?_⟩
    rw [q] at e
    exact e (by decide)
/-- what a command does: done on both sides, or the same error -/
def Cmd (g u : Nat → Nat → Int32) (r ref : Int32) (g' u' : Nat → Nat → Int32) : Prop :=
  (rX6_isError r = 0 ∧ (ref = 0 ∨ ref = -105) ∧ RA g' (u' 1)) ∨ (¬ rX6_isError r = 0 ∧ ref = r ∧ ¬ ref = 0 ∧ ¬ ref = -105)
/-- an act as a command: the model writes a slot, with its old number where it was refused -/
theorem Act.cmd {u g g' : Nat → Nat → Int32} {r ref : Int32} {res : (Nat → Nat → Int32) → Int32} {app : (Nat → Nat → Int32) → Nat → Nat → Int32} {u' : Nat → Nat → Int32} (h : RA g (u 1)) (a : Act u g r ref g' res app) (e0 : ref = 0 → u' = app u) (e1 : ¬ ref = 0 → SE (u 1) (u' 1)) : Cmd g u r ref g' u' := by
  rcases a with ⟨a1, a2, a3, a4⟩ | ⟨a1, a2, a3⟩
  · rcases bad_ref a2 a3 a1 with ⟨q1, q2⟩ | q
    · exact Or.inl ⟨q1, Or.inr q2, by rw [a4]; exact h.cg (e1 a1)⟩
    · exact Or.inr q
  · exact Or.inl ⟨a2.2, Or.inl a1, by rw [e0 a1]; exact (a3 u rfl).2⟩
theorem SE.up {u : Nat → Nat → Int32} {j : Nat} {z : Int32} (h : z = u 1 j) : SE (u 1) (up2 u 1 j z 1) := fun k hk => by
  rw [up2_c]
  split
  · next c => rw [c, h]
  · rfl
/-- a number's command: the model writes it, refused (as it is so already) or not -/
theorem set_cmd {g u : Nat → Nat → Int32} (h : RA g (u 1)) (k : Nat) (hk : k < 5) (y : Int32) (hy : Rg y (tLeast k).toInt (tMost k).toInt) : Cmd g u (rX3_setNumber g (nI k) y) 0 (sX3_setNumber g (nI k) y) (up2 u 1 k y) := by
  have hc : (nI k).toNatClampNeg = k := nI_clamp (by omega)
  have a := set_act h (nI k) y
  have e : rX7_refusesSet u (nI k) y = if u 1 k = y then (-105) else 0 := by
    unfold rX7_refusesSet
    have ei : ¬ rX7_in (nI k) 0 4 = 0 := in_iff.mpr (by rw [nI_toInt (by omega), t0, show (4 : Int32).toInt = 4 by decide]; omega)
    have en : ¬ rX7_isNumber (nI k) y = 0 := by
      have q : ¬ rX6_isWithin y (tLeast k) (tMost k) = 0 := iw_iff.mpr hy
      rcases (show k = 0 ∨ k = 1 ∨ k = 2 ∨ k = 3 ∨ k = 4 by omega) with e | e | e | e | e <;> subst e <;> exact q
    rw [if_neg ei, if_neg en, hc]
  rw [e, hc] at a
  rcases a with ⟨a1, a2, a3, a4⟩ | ⟨a1, a2, a3⟩
  · by_cases c : u 1 k = y
    · rw [if_pos c] at a2
      refine Or.inl ⟨by rw [a2]; decide, Or.inl rfl, ?_⟩
      rw [a4]
      exact h.cg (SE.up c.symm)
    · rw [if_neg c] at a1; exact absurd rfl a1
  · exact Or.inl ⟨a2.2, Or.inl rfl, (a3 u rfl).2⟩
theorem does_sim {g u : Nat → Nat → Int32} (h : RA g (u 1)) {L V : Int32} (hL : ¬ rX7_isLetter L = 0) (hV : CV L V) : Cmd g u (rX6_carryOut g L V) (rX7_does u L V) (sX6_carryOut2 g L V) (sX7_does u L V) := by
  obtain ⟨v100, v116, v102, v99, v97, v119⟩ := hV
  by_cases a100 : L = 100
  · subst a100
    exact set_cmd h 0 (by decide) V (v100 rfl)
  by_cases a116 : L = 116
  · subst a116
    exact set_cmd h 1 (by decide) V (v116 rfl)
  by_cases a102 : L = 102
  · subst a102
    exact set_cmd h 2 (by decide) V (v102 rfl)
  by_cases a99 : L = 99
  · subst a99
    exact set_cmd h 3 (by decide) V (v99 rfl)
  by_cases a97 : L = 97
  · subst a97
    exact set_cmd h 4 (by decide) V (v97 rfl)
  by_cases a103 : L = 103
  · subst a103
    have a := start_act h
    refine Act.cmd (u' := sX7_does u 103 V) h a (fun (e : rX7_refusesStart u = 0) => ?_) (fun (e : ¬ rX7_refusesStart u = 0) => ?_)
    · show up2 u 1 14 (if rX7_refusesStart u = 0 then 1 else u 1 14) = _
      rw [if_pos e]
    · show SE (u 1) (up2 u 1 14 (if rX7_refusesStart u = 0 then 1 else u 1 14) 1)
      rw [if_neg e]
      exact SE.up rfl
  by_cases a115 : L = 115
  · subst a115
    have a := stop_act h
    have K : RA (sX3_switchOff g) (up2 u 1 14 0 1) ∧ rX6_isError (rX3_switchOff g) = 0 := by
      rcases a with ⟨a1, a2, a3, a4⟩ | ⟨a1, a2, a3⟩
      · by_cases c : u 1 14 = 0
        · rw [if_pos c] at a2
          exact ⟨by rw [a4]; exact h.cg (SE.up c.symm), by rw [a2]; decide⟩
        · rw [if_neg c] at a1; exact absurd rfl a1
      · exact ⟨(a3 u rfl).2, a2.2⟩
    exact Or.inl ⟨K.2, Or.inl rfl, K.1⟩
  by_cases a111 : L = 111
  · subst a111
    have a := gate_act h 1 (Or.inr rfl)
    refine Act.cmd (u' := sX7_does u 111 V) h a (fun (e : rX7_refusesGate u 1 = 0) => ?_) (fun (e : ¬ rX7_refusesGate u 1 = 0) => ?_)
    · show up2 u 1 15 (if rX7_refusesGate u 1 = 0 then 1 else u 1 15) = _
      rw [if_pos e]; rfl
    · show SE (u 1) (up2 u 1 15 (if rX7_refusesGate u 1 = 0 then 1 else u 1 15) 1)
      rw [if_neg e]
      exact SE.up rfl
  by_cases a120 : L = 120
  · subst a120
    have a := gate_act h 0 (Or.inl rfl)
    refine Act.cmd (u' := sX7_does u 120 V) h a (fun (e : rX7_refusesGate u 0 = 0) => ?_) (fun (e : ¬ rX7_refusesGate u 0 = 0) => ?_)
    · show up2 u 1 15 (if rX7_refusesGate u 0 = 0 then 0 else u 1 15) = _
      rw [if_pos e]; rfl
    · show SE (u 1) (up2 u 1 15 (if rX7_refusesGate u 0 = 0 then 0 else u 1 15) 1)
      rw [if_neg e]
      exact SE.up rfl
  by_cases a114 : L = 114
  · subst a114
    have a := reset_act h
    refine Act.cmd (u' := sX7_does u 114 V) h a (fun (e : rX7_refusesReset u = 0) => ?_) (fun (e : ¬ rX7_refusesReset u = 0) => ?_)
    · show up2 u 1 16 (if rX7_refusesReset u = 0 then 0 else u 1 16) = _
      rw [if_pos e]
    · show SE (u 1) (up2 u 1 16 (if rX7_refusesReset u = 0 then 0 else u 1 16) 1)
      rw [if_neg e]
      exact SE.up rfl
  by_cases a119 : L = 119
  · subst a119
    have a := run_act h V
    refine Act.cmd (u' := sX7_does u 119 V) h a (fun (e : rX7_refusesRun u V = 0) => ?_) (fun (e : ¬ rX7_refusesRun u V = 0) => ?_)
    · show (if rX7_refusesRun u V = 0 then sX7_ticks u V else u) = _
      rw [if_pos e]
    · show SE (u 1) ((if rX7_refusesRun u V = 0 then sX7_ticks u V else u) 1)
      rw [if_neg e]
      exact fun k hk => rfl
  · exfalso
    apply hL
    unfold rX7_isLetter
    simp only [a100, a116, a102, a99, a97, a103, a115, a111, a120, a114, a119, reduceIte]
/-- all commands, one after the other -/
theorem all_cmds {t w : Nat → Nat → Int32} (hc : PC t w) (hk : w 0 14 = nI (mK w)) (hk30 : mK w ≤ 30) : ∀ (n i : Nat) (g u : Nat → Nat → Int32), RA g (u 1) → u 6 = w 6 → i + n = mK w →
    (gpR t n i g = 0 ∧ mpR n i u = 0 ∧ RA (gpS t n i g) (mpS n i u 1)) ∨ (¬ gpR t n i g = 0 ∧ mpR n i u = gpR t n i g ∧ mpK n i u = gpK t n i g) := by
  intro n
  induction n with
  | zero =>
    intro i g u h h6 hn
    exact Or.inl ⟨rfl, rfl, h⟩
  | succ n ih =>
    intro i g u h h6 hn
    have e4 : t 0 4 = nI (mK w) := hc.1.trans hk
    have ci : (nI i).toNatClampNeg = i := nI_clamp (by omega)
    have cw : ¬ rX6_isWithin (nI i) 0 (t 0 4 - 1) = 0 := iw_iff.mpr (by
      have e : (nI (mK w) - 1).toInt = (mK w : Int) - 1 := by rw [tsub (by rw [nI_toInt (by omega), t1]; omega) (by rw [nI_toInt (by omega), t1]; omega), nI_toInt (by omega), t1]
      rw [e4, e, nI_toInt (by omega), t0]; omega)
    have hcv := hc.2 i (by omega)
    have eL : rX4_letterOf t (nI i) = u 6 (2 * i) := by unfold rX4_letterOf; rw [if_neg cw, ci, h6]; exact hcv.1
    have eV : rX4_valueOf t (nI i) = u 6 (2 * i + 1) := by unfold rX4_valueOf; rw [if_neg cw, ci, h6]; exact hcv.2.1
    have C := does_sim h (L := u 6 (2 * i)) (V := u 6 (2 * i + 1)) (by rw [h6, ← hcv.1]; exact hcv.2.2.1) (by rw [h6, ← hcv.1, ← hcv.2.1]; exact hcv.2.2.2)
    rw [gpR, gpK, gpS, mpR, mpK, mpS]
    unfold gpA gpB
    rw [eL, eV]
    rcases C with ⟨c1, c2, c3⟩ | ⟨c1, c2, c3, c4⟩
    · rw [if_pos c1, if_pos c1, if_pos c1]
      have I := ih (i + 1) _ _ c3 ((does_c _ _ _ (by decide)).trans h6) (by omega)
      rcases c2 with e | e
      · rw [if_pos e, if_pos e, if_pos e]; exact I
      · have e0 : ¬ rX7_does u (u 6 (2 * i)) (u 6 (2 * i + 1)) = 0 := by rw [e]; decide
        rw [if_neg e0, if_neg e0, if_neg e0, if_pos e, if_pos e, if_pos e]; exact I
    · rw [if_neg c1, if_neg c1, if_neg c1, if_neg c3, if_neg c3, if_neg c3, if_neg c4, if_neg c4, if_neg c4]
      exact Or.inr ⟨err_n0 c1, c2, rfl⟩
