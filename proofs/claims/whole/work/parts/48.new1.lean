/-! ===== fresh cells; constructors ===== -/
theorem Wd.last {G : Gp} {s : State} {w : va_W} {x : Nat × va_E} {H : Heap} {locs : List Loc} (h : Wd G s (w ++ [x]) H locs) : Wd G s ([x] ++ w) H locs := h.perm List.perm_append_comm
theorem vp_cell_congrQ {cA : ClassId} {n : Nat} {f f' : Nat → Option Nat} (h : ∀ i, i < n → f i = f' i) : vp_cell cA (n, .inr (.inr (.inr (.inr f)))) = vp_cell cA (n, .inr (.inr (.inr (.inr f')))) := by
  show arrV cA n (fun j => va_rf (f j)) = arrV cA n (fun j => va_rf (f' j))
  unfold arrV
  congr 2
  funext j
  exact congrArg va_rf (h j.val j.isLt)
theorem Wd.refs {G : Gp} {s : State} {r n : Nat} {cA : ClassId} {f f' : Nat → Option Nat} {Y : va_W} {H : Heap} {locs : List Loc} (hW : Wd G s ([(r, .inl (cA, n, .inr (.inr (.inr (.inr f)))))] ++ Y) H locs) (h : ∀ i, i < n → f i = f' i) : Wd G s ([(r, .inl (cA, n, .inr (.inr (.inr (.inr f')))))] ++ Y) H locs := by
  refine ⟨fun k q hk => ?_, va_D.fst hW.2.1 rfl, hW.2.2⟩
  match k, hk with
  | 0, hk =>
    have z := hW.1 0 _ rfl
    cases hk
    exact z.trans (congrArg some (vp_cell_congrQ h))
  | k + 1, hk => exact hW.1 (k + 1) q hk
section NEW
variable {p : Program} {l : Launch} {e : Env} {R : Room} {s : State} {m : MethodId} {args : Array Value} {below : List Frame} {meth : Method} {c : Code} {H : Heap} {locs : List Loc} {cells slots : Nat} {Q : State → Prop}
variable {G : Gp} {cc : ByteArray} {nL : Nat} {ret : Option FieldType} {own : String} {pc : Nat} {ls : Array Slot} {rest : List Value} {w : va_W} {a : Nat}
theorem Mx.nw (M : Mx G p s m args meth c cc nL ret own) : ∀ q : Nat, s.heap.size ≤ q → gA G q := fun q h => Nat.le_trans M.2.2.2.2.2.2.2.2.2 h
theorem r_obj (M : Mx G p s m args meth c cc nL ret own) {idx : Nat} (h1 : Cond.methodLink own idx objectInit ∈ tblG) (hls : ls.size = nL) (hR : 1 ≤ R.frames ∧ 20 ≤ R.locals) (hcat : (rest.map fun v => v.category).sum ≤ 8) (hd : decode cc pc = .ok (.invokespecial idx, 3))
    (kk : W p l e R s m args below meth c H locs cells slots Q (F0 m (pc + 3) ls rest)) : W p l e R s m args below meth c H locs cells slots Q (F0 m pc ls (.ref a :: rest)) := by
  have hts := M.2.2.2.2.2.1
  exact W.objInit M.1 M.2.1 M.2.2.2.2.1 (hts _ h1) (hts _ kw_2) (hts _ kw_3) rfl (hls.trans M.2.2.2.1.symm) rfl hd hR.1 (by show 2 * 0 + _ + 12 ≤ _; omega) kk
theorem r_new (M : Mx G p s m args meth c cc nL ret own) (hW : Wd G s w H locs) {C : String} {T : u_T} {N ci index : Nat} {tyf : Nat → FieldType} (hin : ∀ x ∈ u_ws C T N, x ∈ tblG) (hty : ∀ k, k < N → parseFieldDescriptor (T k).2.2.1 = some (tyf k)) (h1 : Cond.classLink own index C ∈ tblG) (h2 : Cond.instantiable C N ∈ tblG) (h3 : Cond.initialized C ∈ tblG) (hc : vwCl[ci]? = some (C, T, N)) (fs : List Value) (hfs : ∀ j, j < N → defaultValue (tyf j) = vp_V fs j) (hf : cells + 1 ≤ R.cells ∧ slots + N ≤ R.slots) (hd : decode cc pc = .ok (.new index, 3))
    (kk : ∀ (q : Nat) (H1 : Heap), Wd G s ([(q, .inr (ci, fs))] ++ w) H1 locs → W p l e R s m args below meth c H1 locs (cells + 1) (slots + N) Q (F0 m (pc + 3) ls (.ref q :: rest))) : W p l e R s m args below meth c H locs cells slots Q (F0 m pc ls rest) := by
  have hts := M.2.2.2.2.2.1
  exact va_new M.1 M.2.1 hts hin tyf hty M.2.2.2.2.1 (hts _ h1) (hts _ h2) (hts _ h3) M.2.2.2.2.2.2.2.1.1 hW.1 hW.2.1 hW.2.2 M.nw hc hfs hf.1 hf.2 hd (fun q H1 a1 a2 a3 => kk q H1 (Wd.last ⟨a1, a2, a3⟩))
theorem r_newI (M : Mx G p s m args meth c cc nL ret own) (hW : Wd G s w H locs) {n : Int32} (N : Nat) (hn : ¬ n < 0) (hN : n.toNatClampNeg = N) (hb : N ≤ 1000) (hf : cells + 1 ≤ R.cells ∧ slots + N ≤ R.slots) (hd : decode cc pc = .ok (.newarray .int, 2))
    (kk : ∀ (q : Nat) (H1 : Heap), Wd G s ([(q, .inl (G.2.2.2 0, N, .inl (fun _ => 0)))] ++ w) H1 locs → W p l e R s m args below meth c H1 locs (cells + 1) (slots + N) Q (F0 m (pc + 2) ls (.ref q :: rest))) : W p l e R s m args below meth c H locs cells slots Q (F0 m pc ls (.int n :: rest)) := by
  have hK := M.2.2.2.2.2.2.2.1.1
  refine va_newa (atype := .int) (ty := .int) (a0 := (N, .inl (fun _ => 0))) M.1 M.2.1 (M.2.2.2.2.2.1 _ kw_4) rfl hK hW.1 hW.2.1 hW.2.2 M.nw (fun cA => rfl) hn hN (by show N * 4 ≤ _; omega) hf.1 hf.2 hd (fun q cA H1 k1 a1 a2 a3 => ?_)
  have e1 : s.vm.findClass ("[" ++ FieldType.int.toString) = some cA := (k1.2 3 _ rfl).2
  have e0 : s.vm.findClass ("[" ++ FieldType.int.toString) = some (G.2.2.2 0) := (hK.2 0 _ rfl).2
  have e2 : cA = G.2.2.2 0 := Option.some.inj (e1.symm.trans e0)
  subst e2
  exact kk q H1 (Wd.last ⟨a1, a2, a3⟩)
theorem r_newC (M : Mx G p s m args meth c cc nL ret own) (hW : Wd G s w H locs) {n : Int32} (N : Nat) (hn : ¬ n < 0) (hN : n.toNatClampNeg = N) (hb : N ≤ 1000) (hf : cells + 1 ≤ R.cells ∧ slots + N ≤ R.slots) (hd : decode cc pc = .ok (.newarray .char, 2))
    (kk : ∀ (q : Nat) (H1 : Heap), Wd G s ([(q, .inl (G.2.2.2 1, N, .inl (fun _ => 0)))] ++ w) H1 locs → W p l e R s m args below meth c H1 locs (cells + 1) (slots + N) Q (F0 m (pc + 2) ls (.ref q :: rest))) : W p l e R s m args below meth c H locs cells slots Q (F0 m pc ls (.int n :: rest)) := by
  have hK := M.2.2.2.2.2.2.2.1.1
  refine va_newa (atype := .char) (ty := .char) (a0 := (N, .inl (fun _ => 0))) M.1 M.2.1 (M.2.2.2.2.2.1 _ kw_200) rfl hK hW.1 hW.2.1 hW.2.2 M.nw (fun cA => rfl) hn hN (by show N * 2 ≤ _; omega) hf.1 hf.2 hd (fun q cA H1 k1 a1 a2 a3 => ?_)
  have e1 : s.vm.findClass ("[" ++ FieldType.char.toString) = some cA := (k1.2 3 _ rfl).2
  have e0 : s.vm.findClass ("[" ++ FieldType.char.toString) = some (G.2.2.2 1) := (hK.2 1 _ rfl).2
  have e2 : cA = G.2.2.2 1 := Option.some.inj (e1.symm.trans e0)
  subst e2
  exact kk q H1 (Wd.last ⟨a1, a2, a3⟩)
theorem r_newQ (M : Mx G p s m args meth c cc nL ret own) (hW : Wd G s w H locs) {n : Int32} (N : Nat) {index : Nat} (h1 : Cond.classLink own index "GrainLeg$Leg" ∈ tblG) (hn : ¬ n < 0) (hN : n.toNatClampNeg = N) (hb : N ≤ 1000) (hf : cells + 1 ≤ R.cells ∧ slots + N ≤ R.slots) (hd : decode cc pc = .ok (.anewarray index, 3))
    (kk : ∀ (q : Nat) (H1 : Heap), Wd G s ([(q, .inl (G.2.2.2 2, N, .inr (.inr (.inr (.inr (fun _ => none))))))] ++ w) H1 locs → W p l e R s m args below meth c H1 locs (cells + 1) (slots + N) Q (F0 m (pc + 3) ls (.ref q :: rest))) : W p l e R s m args below meth c H locs cells slots Q (F0 m pc ls (.int n :: rest)) := by
  have hK := M.2.2.2.2.2.2.2.1.1
  refine va_newq M.1 M.2.1 M.2.2.2.2.1 (M.2.2.2.2.2.1 _ h1) M.2.2.2.2.2.2.2.1.2.2.1 hK hW.1 hW.2.1 hW.2.2 M.nw hn hN (by omega) hf.1 hf.2 hd (fun q cA H1 k1 a1 a2 a3 => ?_)
  obtain ⟨kA, comp, -, -, -, e1⟩ : va_RA s cA (.object "GrainLeg$Leg") := (k1.2 3 _ rfl).2
  obtain ⟨kA0, comp0, -, -, -, e0⟩ : va_RA s (G.2.2.2 2) (.object "GrainLeg$Leg") := (hK.2 2 _ rfl).2
  have e2 : cA = G.2.2.2 2 := Option.some.inj (e1.symm.trans e0)
  subst e2
  exact kk q H1 (Wd.last ⟨a1, a2, a3⟩)
/-- the static array's clone -/
theorem r_clone (M : Mx G p s m args meth c cc nL ret own) (hW : Wd G s w H locs) {k n index : Nat} {nm : String} {f : Nat → Int32} (hT : St1 G s s.heap k nm n f) (h1 : Cond.methodLink own index ⟨"[I", "clone", "()Ljava/lang/Object;"⟩ ∈ tblG) (hls : ls.size = nL) (hR : 1 ≤ R.frames ∧ 22 ≤ R.locals) (hcat : (rest.map fun v => v.category).sum ≤ 8) (hf : cells + 1 ≤ R.cells ∧ slots + n ≤ R.slots) (hd : decode cc pc = .ok (.invokevirtual index, 3))
    (kk : ∀ (q : Nat) (H1 : Heap), Wd G s ([(q, .inl (G.2.2.2 0, n, .inl f))] ++ w) H1 locs → W p l e R s m args below meth c H1 locs (cells + 1) (slots + n) Q (F0 m (pc + 3) ls (.ref q :: rest))) : W p l e R s m args below meth c H locs cells slots Q (F0 m pc ls (.ref (G.2.2.1 k) :: rest)) := by
  have hts := M.2.2.2.2.2.1
  have hK := M.2.2.2.2.2.2.2.1.1
  have hcl : va_Nw (.castable "[I" "java/lang/Cloneable") s := M.2.2.2.2.2.2.2.1.2.1 _ (tblN_of (by decide +kernel) rfl)
  obtain ⟨-, cell, g1, g2, g3, g4, g5, g6, g7, g8⟩ := hT
  obtain ⟨c0, t0', f1, f2, f3⟩ := Cond.castable_spec (va_Nw.use (A := args) rfl hcl)
  have hnm : s.vm.findClass "[I" = some cell.cls := by rw [g5]; exact M.2.2.2.2.2.2.2.1.2.2.2
  cases hnm.symm.trans f1
  have hce : ({ cls := cell.cls, slots := cell.slots } : Cell) = vp_cell (G.2.2.2 0) (n, .inl f) := by
    show _ = arrV (G.2.2.2 0) n (fun j => .int (f j))
    rw [g5, show cell.slots = (arrV (G.2.2.2 0) n (fun j => .int (f j))).slots from ?_]
    · rfl
    · refine Array.ext_getElem? fun i => ?_
      by_cases hi : i < n
      · rw [g7 i hi, arrV_read _ _ hi]
      · rw [Array.getElem?_eq_none (by omega), Array.getElem?_eq_none (by rw [arrV_size]; omega)]
  intro T hT' X
  have hcH : H[G.2.2.1 k]? = some cell := by rw [hW.2.2.2.1 _ (Array.getElem?_eq_some_iff.mp g1).1 g8]; exact g1
  obtain ⟨-, kS, hkS, compS, hkindS⟩ := (hK.2 0 _ rfl).1 0 (fun _ => .null)
  obtain ⟨-, kA, hkA, comp, hkind⟩ := State.isArrayOf_alike X.warmed.alike ((hK.2 0 _ rfl).1 0 (fun _ => .null))
  obtain ⟨vm', X', st⟩ := X.cloneArray M.1 M.2.2.2.2.1 (hts _ h1) (hts _ kw_52) (hts _ kw_53) (hts _ kw_54) (hts _ kw_55) (a := G.2.2.1 k) (cell := cell) (by rw [hT']; exact hcH) (fun k h => by rw [h] at g4; cases g4) g3 hnm f2 f3
    (fun i v hv => by
      have hi : i < n := by rw [← g6]; exact (Array.getElem?_eq_some_iff.mp hv).1
      rw [g7 i hi] at hv
      cases hv
      rw [g5]
      have hk' : T.vm.classes[G.2.2.2 0]? = some kA := hkA
      simp [State.fitsSlot, State.slotType?, hk', hkind, fits])
    (g := F0 m pc ls (.ref (G.2.2.1 k) :: rest)) rfl (hls.trans M.2.2.2.1.symm) rfl (by rw [M.2.1]; exact hd) hR.1 (by show 2 * 0 + _ + 14 ≤ _; omega) hf.1 (by rw [g6]; exact hf.2) (hloader := by rw [g5]; exact Vm.clonesLoader_of_array hkS hkindS)
  rw [hce, g6] at X'
  generalize hH1 : H.push (vp_cell (G.2.2.2 0) (n, .inl f)) = H1
  have z1 : H1.size = H.size + 1 := by rw [← hH1, Array.size_push]
  have e1 : H1[H.size]? = some (vp_cell (G.2.2.2 0) (n, .inl f)) := by rw [← hH1, Array.getElem?_push_size]
  have o1 : ∀ q : Nat, q < H.size → H1[q]? = H[q]? := fun q hq => by rw [← hH1, Array.getElem?_push, if_neg (Nat.ne_of_lt hq)]
  have hk : ∀ (k : Nat) (y : Nat × va_E), w[k]? = some y → H1[y.1]? = H[y.1]? := fun k y hy => o1 y.1 ((hW.1 k y hy).lt)
  have hW1 : Wd G s ([(H.size, .inl (G.2.2.2 0, n, .inl f))] ++ w) H1 locs := Wd.last ⟨(hW.1.kept hk).app (fun k y hy => by
      have hz : k < 1 := (List.getElem?_eq_some_iff.mp hy).1
      rw [show k = 0 by omega] at hy
      cases hy
      exact e1), hW.2.1.push hW.1 rfl (M.nw _ hW.2.2.1), Nat.le_trans hW.2.2.1 (by omega), fun y h1 h2 => (o1 y (Nat.lt_of_lt_of_le h1 hW.2.2.1)).trans (hW.2.2.2.1 y h1 h2), hW.2.2.2.2⟩
  obtain ⟨t, b1, b2⟩ := kk H.size H1 hW1 ((T.setVm vm').pushCell (vp_cell (G.2.2.2 0) (n, .inl f))) (by rw [← hH1, ← hT']; rfl) X'
  refine ⟨t, st t ?_, b2⟩
  rw [hce, hT']
  exact b1
theorem r_castI (M : Mx G p s m args meth c cc nL ret own) {n : Nat} {f : Nat → Int32} (hW : Wd G s ([(a, .inl (G.2.2.2 0, n, .inl f))] ++ w) H locs) {index : Nat} (h1 : Cond.classLink own index "[I" ∈ tblG) (hd : decode cc pc = .ok (.checkcast index, 3))
    (k : W p l e R s m args below meth c H locs cells slots Q (F0 m (pc + 3) ls (.ref a :: rest))) : W p l e R s m args below meth c H locs cells slots Q (F0 m pc ls (.ref a :: rest)) :=
  va_castA M.1 M.2.1 M.2.2.2.2.1 (M.2.2.2.2.2.1 _ h1) hW.1 0 rfl M.2.2.2.2.2.2.2.1.2.2.2 hd k
/-- a leg comes into the row of references -/
theorem r_astq (M : Mx G p s m args meth c cc nL ret own) {v n : Nat} {vs : List Value} {f : Nat → Option Nat} {Y1 : va_W} (q1 : Nat) (hW : Wd G s ([(a, .inl (G.2.2.2 2, n, .inr (.inr (.inr (.inr f)))))] ++ Y1) H locs) (hv : Y1[q1]? = some (v, .inr (3, vs))) {i : Int32} (k : Nat) (hi : i = nI k) (hk : k < n) (hn : n < 1000) (hd : decode cc pc = .ok (.aastore, 1))
    (kk : ∀ (H1 : Heap) (locs1 : List Loc), Wd G s ([(a, .inl (G.2.2.2 2, n, .inr (.inr (.inr (.inr (va_up f k (some v)))))))] ++ Y1) H1 locs1 → W p l e R s m args below meth c H1 locs1 cells slots Q (F0 m (pc + 1) ls rest)) : W p l e R s m args below meth c H locs cells slots Q (F0 m pc ls (.ref v :: .int i :: .ref a :: rest)) := by
  subst hi
  refine va_astq M.1 M.2.1 M.2.2.2.2.2.2.2.1.1 hW.1 hW.2.1 hW.2.2 0 2 (q1 + 1) 3 (r := (RX3, TX3, 13)) rfl rfl (by exact hv) rfl (vp_in_nI hk (by omega)) hd (fun H1 l1 a1 a2 a3 => ?_)
  rw [nI_clamp (by omega)] at a1 a2
  exact kk H1 l1 ⟨a1, a2, a3⟩
end NEW
