theorem len_ex {args : Array Value} {s : State} {tm : Term} {n : Nat} (hn : n < 2 ^ 31) (h : (Term.length tm).eval args s none [] s = some (.int (Int32.ofNat n))) : ∃ (a : Nat) (cell : Cell), tm.eval args s none [] s = some (.ref a) ∧ s.arrayAt? a = some cell ∧ cell.slots.size = n := by
  obtain ⟨a, cell, ht, harr, hv⟩ := Term.length_spec h
  have hsz : cell.slots.size < 2 ^ 31 := by
    simp only [Term.eval, ht, harr, Option.bind_eq_bind, Option.bind_some] at h
    by_cases hlt : cell.slots.size < 2147483648
    · exact hlt
    · simp [hlt] at h
  refine ⟨a, cell, ht, harr, ?_⟩
  have e : nI n = nI cell.slots.size := Value.int.inj hv
  exact ((nI_eq hn hsz).mp e).symm
theorem st_ex {args : Array Value} {s : State} {nm : String} {n : Nat} {f : Nat → Int32} (hn : n < 2 ^ 31) (hlay : (Cond.laysStatic RX6 nm "[I").before args s = true) (hini : (Cond.initialized RX6).before args s = true)
    (hlen : (Cond.eq (.length (.static RX6 nm "[I")) (.int (Int32.ofNat n))).before args s = true) (harr : (Cond.arrayOf (.static RX6 nm "[I") .int).before args s = true)
    (hel : ∀ j : Nat, j < n → (Cond.eq (.elem (.static RX6 nm "[I") (.int (Int32.ofNat j))) (.int (f j))).before args s = true) (hcls : (Cond.exactly (.static RX6 nm "[I") "[I").before args s = true) {cI : ClassId} (hcI : s.vm.findClass "[I" = some cI) :
    ∃ tt : Nat, ∀ (G : Gp) (k : Nat), G.2.1 = s.heap.size → G.2.2.1 k = tt → G.2.2.2 0 = cI → St1 G s s.heap k nm n f := by
  have hA : ∀ a : Nat, a < s.heap.size → ¬ (fun q : Nat => s.heap.size ≤ q) a := fun a h => Nat.not_le.mpr h
  have hl := va_eqt hlen
  obtain ⟨a, cell, ht, hat, hsz⟩ := len_ex hn hl
  obtain ⟨hcell, hkn, hns, -⟩ := State.arrayAt?_spec hat
  obtain ⟨a2, ht2, cell2, q1, q2, q3, q4, q5, q6, q7⟩ := va_Tof (f := fun j => .int (f j)) (A := fun q : Nat => s.heap.size ≤ q) hn harr hl (fun j hj => va_eqt (hel j hj)) hA
  cases ht.symm.trans ht2
  cases hcell.symm.trans q1
  obtain ⟨a3, c3, cell3, k3, e1, e2, e3, e4, e5, e6, -⟩ := Cond.exactly_spec hcls
  cases ht.symm.trans e1
  cases hcell.symm.trans e3
  cases hcI.symm.trans e2
  have hZ := va_Zof hlay hini ht hA
  refine ⟨a, fun G k g1 g2 g3 => ⟨?_, cell, ?_, q2, q3, hns, ?_, hsz, q6, ?_⟩⟩
  · rw [g2]
    exact va_Z.narrow hZ (fun q h => by rw [← g1]; exact h)
  · rw [g2]; exact hcell
  · rw [g3]; exact e6
  · show ¬ G.2.1 ≤ G.2.2.1 k
    rw [g1, g2]
    exact q7
