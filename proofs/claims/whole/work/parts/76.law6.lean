set_option maxHeartbeats 4000000 in
set_option maxRecDepth 100000 in
/-- the law, from its entry: two new systems, then the loop -/
theorem whole_start {p : Program} {e : Env} {s : State} {m : MethodId} {below : List Frame} {meth : Method} {c : Code} (l : Launch) (hflags : l.flags = flags0) {b L : Nat} {xs : Nat → Int32} (hL : L ≤ 1536) (C0 : lw_At p s m meth c b L xs) : W p l e room_1 s m #[Value.ref b] below meth c s.heap [] 0 0 (lw_Z below #[Value.ref b] s) (entryFrame m ([Value.ref b] : List Value).toArray 4) := by
  obtain ⟨hx, hb, hr, hml, hown, hts, hX, hbl, hlocks, hgv⟩ := id C0
  have htG : ∀ w ∈ tblG, w.before #[Value.ref b] s = true := fun w hw => hts w (tblG_tbl hw)
  have hs := flat_of_before _ hgv
  obtain ⟨c0, i0, k0⟩ := u_known htG kin_0 (htG _ kw_59)
  obtain ⟨c1, i1, k1⟩ := u_known htG kin_1 (htG _ kw_63)
  obtain ⟨c2, i2, k2⟩ := u_known htG kin_2 (htG _ kw_258)
  obtain ⟨c3, i3, k3⟩ := u_known htG kin_3 (htG _ kw_79)
  obtain ⟨c4, i4, k4⟩ := u_known htG kin_4 (htG _ kw_262)
  obtain ⟨c5, i5, k5⟩ := u_known htG kin_5 (htG _ kw_66)
  obtain ⟨c6, i6, k6⟩ := u_known htG kin_6 (htG _ kw_554)
  obtain ⟨c7, i7, k7⟩ := u_known htG kin_7 (htG _ kw_556)
  obtain ⟨dC, dI, hKc⟩ : ∃ (dC : Nat → ClassId) (dI : Nat → Nat → Nat), ∀ (k : Nat) (q : vw_C), vwCl[k]? = some q → u_Kn s q.1 q.2.1 q.2.2 (dC k) (dI k) := by
    refine ⟨fun k => [c0, c1, c2, c3, c4, c5, c6, c7].getD k c0, fun k => [i0, i1, i2, i3, i4, i5, i6, i7].getD k i0, ?_⟩
    intro k q hq
    match k, hq with
    | 0, hq => cases hq; exact k0
    | 1, hq => cases hq; exact k1
    | 2, hq => cases hq; exact k2
    | 3, hq => cases hq; exact k3
    | 4, hq => cases hq; exact k4
    | 5, hq => cases hq; exact k5
    | 6, hq => cases hq; exact k6
    | 7, hq => cases hq; exact k7
    | k + 8, hq => simp [vwCl] at hq
  obtain ⟨cI, kI, compI, fI, gI, hI⟩ := Cond.arrayClass_spec (htG _ kw_4)
  obtain ⟨cC, kC, compC, fC, gC, hC⟩ := Cond.arrayClass_spec (htG _ kw_200)
  have hAO := hts (.arrayOver (.object "GrainLeg$Leg")) (by decide +kernel)
  obtain ⟨compL, cL, kL, f1, f2, f3, f4, f5⟩ := Cond.arrayOver_spec hAO
  have fI2 : s.vm.findClass "[I" = some cI := fI
  obtain ⟨t0, z0⟩ := st_ex (nm := "FIRST") (n := 5) (f := tFirst) (by decide) (hts _ (by decide +kernel)) (htG _ kw_15) (hs _ (by decide +kernel)) (hs _ (by decide +kernel)) (fun j hj => by rcases (show j = 0 ∨ j = 1 ∨ j = 2 ∨ j = 3 ∨ j = 4 by omega) with rfl | rfl | rfl | rfl | rfl <;> exact hs _ (by decide +kernel)) (hs _ (by decide +kernel)) fI2
  obtain ⟨t1, z1⟩ := st_ex (nm := "LEAST") (n := 5) (f := tLeast) (by decide) (hts _ (by decide +kernel)) (htG _ kw_15) (hs _ (by decide +kernel)) (hs _ (by decide +kernel)) (fun j hj => by rcases (show j = 0 ∨ j = 1 ∨ j = 2 ∨ j = 3 ∨ j = 4 by omega) with rfl | rfl | rfl | rfl | rfl <;> exact hs _ (by decide +kernel)) (hs _ (by decide +kernel)) fI2
  obtain ⟨t2, z2⟩ := st_ex (nm := "MOST") (n := 5) (f := tMost) (by decide) (hts _ (by decide +kernel)) (htG _ kw_15) (hs _ (by decide +kernel)) (hs _ (by decide +kernel)) (fun j hj => by rcases (show j = 0 ∨ j = 1 ∨ j = 2 ∨ j = 3 ∨ j = 4 by omega) with rfl | rfl | rfl | rfl | rfl <;> exact hs _ (by decide +kernel)) (hs _ (by decide +kernel)) fI2
  obtain ⟨t3, z3⟩ := st_ex (nm := "TOO_MUCH") (n := 3) (f := tToo) (by decide) (hts _ (by decide +kernel)) (htG _ kw_15) (hs _ (by decide +kernel)) (hs _ (by decide +kernel)) (fun j hj => by rcases (show j = 0 ∨ j = 1 ∨ j = 2 by omega) with rfl | rfl | rfl <;> exact hs _ (by decide +kernel)) (hs _ (by decide +kernel)) fI2
  obtain ⟨t4, z4⟩ := st_ex (nm := "WAITS") (n := 3) (f := tWaits) (by decide) (hts _ (by decide +kernel)) (htG _ kw_15) (hs _ (by decide +kernel)) (hs _ (by decide +kernel)) (fun j hj => by rcases (show j = 0 ∨ j = 1 ∨ j = 2 by omega) with rfl | rfl | rfl <;> exact hs _ (by decide +kernel)) (hs _ (by decide +kernel)) fI2
  obtain ⟨G, g1, g2, s0, s1, s2, s3, s4, a0, a1, a2⟩ : ∃ G : Gp, G.1 = (dC, dI) ∧ G.2.1 = s.heap.size ∧ G.2.2.1 0 = t0 ∧ G.2.2.1 1 = t1 ∧ G.2.2.1 2 = t2 ∧ G.2.2.1 3 = t3 ∧ G.2.2.1 4 = t4 ∧ G.2.2.2 0 = cI ∧ G.2.2.2 1 = cC ∧ G.2.2.2 2 = cL := ⟨((dC, dI), s.heap.size, (fun k => [t0, t1, t2, t3, t4].getD k 0), (fun k => [cI, cC, cL].getD k cI)), rfl, rfl, rfl, rfl, rfl, rfl, rfl, rfl, rfl, rfl⟩
  have hTy : ∀ (k : Nat) (q : ClassId × FieldType), (gTys G)[k]? = some q → ArrOfT s q.1 q.2 ∧ va_RA s q.1 q.2 := by
    intro k q hq
    match k, hq with
    | 0, hq => cases hq; show ArrOfT s (G.2.2.2 0) .int ∧ va_RA s (G.2.2.2 0) .int; rw [a0]; exact ⟨fun n z => ⟨(fun k h => by cases h), kI, gI, compI, hI⟩, fI⟩
    | 1, hq => cases hq; show ArrOfT s (G.2.2.2 1) .char ∧ va_RA s (G.2.2.2 1) .char; rw [a1]; exact ⟨fun n z => ⟨(fun k h => by cases h), kC, gC, compC, hC⟩, fC⟩
    | 2, hq => cases hq; show ArrOfT s (G.2.2.2 2) (.object "GrainLeg$Leg") ∧ va_RA s (G.2.2.2 2) (.object "GrainLeg$Leg"); rw [a2]; exact ⟨fun n z => ⟨(fun k h => by cases h), kL, f3, compL, f4⟩, kL, compL, f3, f4, f1, f5⟩
    | k + 3, hq => simp at hq
  have hKnd : Knd G s := ⟨⟨by rw [g1]; exact hKc, hTy⟩, fun w hw => va_Nw.of (nst_on (List.mem_filter.mp hw).2) (hts w (List.mem_filter.mp hw).1), va_AO.of hAO, by rw [a0]; exact fI2⟩
  have hStt : Stt G s s.heap := ⟨z0 G 0 g2 s0 a0, z1 G 1 g2 s1 a0, z2 G 2 g2 s2 a0, z3 G 3 g2 s3 a0, z4 G 4 g2 s4 a0⟩
  have M : Mx G p s m #[Value.ref b] meth c cL_law 4 ret RL := ⟨hx, hb, hr, hml, hown, htG, hlocks, hKnd, hStt, by rw [g2]; exact Nat.le_refl _⟩
  have X : LX G s b L xs := ⟨hX, hbl, by show ¬ G.2.1 ≤ b; rw [g2]; exact Nat.not_le.mpr hbl, hL⟩
  have hW : Wd G s [] s.heap [] := ⟨fun k q h => by simp at h, ⟨fun i j p q h => by simp at h, fun k q h => by simp at h⟩, va_S.rf⟩
  have hE : ∀ (H : Heap) (locs : List Loc) (ls : Array Slot), (∀ q ∈ locs, gA G q.base) → W p l e room_1 s m #[Value.ref b] below meth c H locs 102 1261 (lw_Z below #[Value.ref b] s) (F0 m 589 ls []) := by
    intro H locs ls hq
    refine lv_iconst (v := 1) hx hb dL_law_589 (by decide) ?_
    refine va_forget (fun q h => by rw [← g2]; exact hq q h) ?_
    refine W.widen (k := 600000) (n := 7302250) (Nat.le_of_ble_eq_true rfl) (Nat.le_of_ble_eq_true rfl) ?_
    exact lw_ret hx hb hr hlocks dL_law_590
  clear hStt hKnd hTy z0 z1 z2 z3 z4 hKc hAO hs
  have hl := lv_entry ([.ref b]) (n := 4) (Nat.le_of_ble_eq_true rfl)
  rw [lg_entry_eq]
  generalize (lg_sl ([.ref b]) ++ List.replicate (4 - (lg_sl ([.ref b])).length) Slot.unset).toArray = ls at hl ⊢
  have hl : lv_has ls 4 [(0, .ref b)] := hl
  refine r_new (ci := 6) M hW kin_6 tyX6_ok kw_553 kw_554 kw_15 rfl [.null, .null, .null, .null, .null, .int 0, .null, .int 0, .int 0] hfs_6 ⟨Nat.le_of_ble_eq_true rfl, Nat.le_of_ble_eq_true rfl⟩ dL_law_0 (fun n1 H hW => ?_)
  refine lv_dup hx hb dL_law_3 rfl ?_
  refine r_callI M hW (c_X6_init l G n1 []) rfl kw_557 kw_558 rfl kw_15 kw_269 pl_X6_init ⟨Nat.le_of_ble_eq_true rfl, Nat.le_of_ble_eq_true rfl⟩ ⟨Nat.le_of_ble_eq_true rfl, Nat.le_of_ble_eq_true rfl⟩ hl.1 rfl (Nat.le_of_ble_eq_true rfl) dL_law_4 (fun v w1 H locs hQ hW2 => ?_)
  obtain ⟨rfl, z, ha, rfl⟩ := hQ
  subst ha
  have hW := hW2
  refine lv_astore_n (lv' := [(1, .ref (z 0 0)), (0, .ref b)]) hx hb dL_law_7 rfl hl (by decide) rfl (fun ls hl => ?_)
  refine r_new (ci := 7) M hW kin_7 tyX7_ok kw_555 kw_556 kw_412 rfl [.int 0, .null, .null, .null, .int 0, .null, .int 0, .null, .int 0, .int 0, .int 0, .int 0, .int 0, .null, .int 0] hfs_7 ⟨Nat.le_of_ble_eq_true rfl, Nat.le_of_ble_eq_true rfl⟩ dL_law_8 (fun n2 H hW => ?_)
  refine lv_dup hx hb dL_law_11 rfl ?_
  refine r_callI M hW (c_X7_init l G n2 (SysW G z sysI ++ (LegW G (z 1) legI ++ (LegW G (z 2) legI ++ (LegW G (z 3) legI ++ (LegW G (z 4) legI ++ (HistW G z zeroI ++ (LegW G (z 6) legI ++ (LegW G (z 7) legI ++ (LegW G (z 8) legI ++ (LegW G (z 9) legI ++ (TextW G (z 10) zeroI ++ ([]))))))))))))) rfl kw_559 kw_560 rfl kw_412 kw_390 pl_X7_init ⟨Nat.le_of_ble_eq_true rfl, Nat.le_of_ble_eq_true rfl⟩ ⟨Nat.le_of_ble_eq_true rfl, Nat.le_of_ble_eq_true rfl⟩ hl.1 rfl (Nat.le_of_ble_eq_true rfl) dL_law_12 (fun v w1 H locs hQ hW2 => ?_)
  obtain ⟨rfl, bm, ha, rfl⟩ := hQ
  subst ha
  have hW := hW2
  refine lv_astore_n (lv' := [(2, .ref (bm 0)), (1, .ref (z 0 0)), (0, .ref b)]) hx hb dL_law_15 rfl hl (by decide) rfl (fun ls hl => ?_)
  refine lv_iconst (v := 0) hx hb dL_law_16 (by decide) ?_
  refine r_top (y := nI 0) nI_0.symm ?_
  refine lv_istore_n (lv' := [(3, .int (nI 0)), (2, .ref (bm 0)), (1, .ref (z 0 0)), (0, .ref b)]) hx hb dL_law_17 rfl hl (by decide) rfl (fun ls hl => ?_)
  have hW := Wd.f11 hW
  have hW := Wd.f11 hW
  have hW := Wd.f11 hW
  have hW := Wd.f11 hW
  have hW := Wd.f11 hW
  have hW := Wd.f11 hW
  have hW := Wd.f11 hW
  have hW := Wd.f11 hW
  have hW := Wd.f11 hW
  have hW := Wd.f11 hW
  have hW := Wd.f11 hW
  exact law_loop M X hE (L + 1) 0 (Nat.zero_le L) (by omega) sysI legI legI legI legI zeroI legI legI legI legI zeroI modI _ _ ls J_begin hW (lv_sub hl [3, 2, 1, 0] rfl)
