set_option maxHeartbeats 4000000 in
set_option maxRecDepth 100000 in
/-- the law: undo -/
theorem law_11 {p : Program} {l : Launch} {e : Env} {s : State} {m : MethodId} {below : List Frame} {meth : Method} {c : Code} {Q : State → Prop} {G : Gp} {ret0 : Option FieldType} {b L : Nat} {xs : Nat → Int32} {z : Nat → Nat → Nat} {bm : Nat → Nat} {Y : va_W} (M : Mx G p s m #[.ref b] meth c cL_law 4 ret0 RL) (X : LX G s b L xs) {i : Nat} (hi : i + 2 < L) (hN : ∀ (so g gB gT gS sh q0 q1 q2 q3 t u : Nat → Nat → Int32) (H : Heap) (locs : List Loc) (ls : Array Slot), J so g gS sh q0 q1 q2 q3 t u → Wd G s (SysW G z so ++ (LegW G (z 1) g ++ (LegW G (z 2) gB ++ (LegW G (z 3) gT ++ (LegW G (z 4) gS ++ (HistW G z sh ++ (LegW G (z 6) q0 ++ (LegW G (z 7) q1 ++ (LegW G (z 8) q2 ++ (LegW G (z 9) q3 ++ (TextW G (z 10) t ++ (ModW G bm u ++ Y)))))))))))) H locs → lv_has ls 4 [(0, .ref b), (1, .ref (z 0 0)), (2, .ref (bm 0)), (3, .int (nI i))] → W p l e room_1 s m #[.ref b] below meth c H locs 102 1261 Q (F0 m 583 ls [])) {so g gB gT gS sh q0 q1 q2 q3 t u : Nat → Nat → Int32} {H : Heap} {locs : List Loc} {ls : Array Slot} (hJ : J so g gS sh q0 q1 q2 q3 t u) (hW : Wd G s (SysW G z so ++ (LegW G (z 1) g ++ (LegW G (z 2) gB ++ (LegW G (z 3) gT ++ (LegW G (z 4) gS ++ (HistW G z sh ++ (LegW G (z 6) q0 ++ (LegW G (z 7) q1 ++ (LegW G (z 8) q2 ++ (LegW G (z 9) q3 ++ (TextW G (z 10) t ++ (ModW G bm u ++ Y)))))))))))) H locs) (hl : lv_has ls 4 [(0, .ref b), (1, .ref (z 0 0)), (2, .ref (bm 0)), (3, .int (nI i))]) : W p l e room_1 s m #[.ref b] below meth c H locs 102 1261 Q (F0 m 363 ls []) := by
  have hx := M.1
  have hb := M.2.1
  refine lv_aload_n hx hb dL_law_363 rfl (lv_at hl 1 rfl) ?_
  have hW := Wd.f9 hW
  have hW := Wd.f9 hW
  have hW := Wd.f9 hW
  have hW := Wd.f9 hW
  have hW := Wd.f9 hW
  have hW := Wd.f6 hW
  have hW := Wd.f6 hW
  refine r_callVi M hW (c_X6_undo l G z so g sh q0 q1 q2 q3  (LegW G (z 2) gB ++ (LegW G (z 3) gT ++ (LegW G (z 4) gS ++ (TextW G (z 10) t ++ (ModW G bm u ++ Y))))) (pj_hok hJ) (pj_q0 hJ) (pj_q1 hJ) (pj_q2 hJ) (pj_q3 hJ)) rfl kw_627 kw_628 kw_629 kw_15 kw_337 pl_X6_undo 0 rfl rfl ⟨Nat.le_of_ble_eq_true rfl, Nat.le_of_ble_eq_true rfl⟩ ⟨Nat.le_of_ble_eq_true rfl, Nat.le_of_ble_eq_true rfl⟩ hl.1 rfl (Nat.le_of_ble_eq_true rfl) dL_law_364 (fun H locs hW => ?_)
  refine lv_aload_n hx hb dL_law_367 rfl (lv_at hl 2 rfl) ?_
  have hW := Wd.f11 hW
  refine r_callVi M hW (c_X7_undo l G bm u  (SysW G z so ++ (LegW G (z 1) (sX6_undo2 g sh q0 q1 q2 q3) ++ (HistW G z (sX6_undo3 sh) ++ (LegW G (z 6) q0 ++ (LegW G (z 7) q1 ++ (LegW G (z 8) q2 ++ (LegW G (z 9) q3 ++ (LegW G (z 2) gB ++ (LegW G (z 3) gT ++ (LegW G (z 4) gS ++ (TextW G (z 10) t ++ Y))))))))))) (pj_msz hJ)) rfl kw_630 kw_631 kw_632 kw_412 kw_535 pl_X7_undo 0 rfl rfl ⟨Nat.le_of_ble_eq_true rfl, Nat.le_of_ble_eq_true rfl⟩ ⟨Nat.le_of_ble_eq_true rfl, Nat.le_of_ble_eq_true rfl⟩ hl.1 rfl (Nat.le_of_ble_eq_true rfl) dL_law_368 (fun H locs hW => ?_)
  refine lv_icmp_eq (tgt := 583) hx hb dL_law_371 (by decide) (fun c_371 => ?_) (fun c_371 => ?_)
  · skip
    have hW := Wd.f11 hW
    have hW := Wd.f8 hW
    have hW := Wd.f8 hW
    have hW := Wd.f8 hW
    have hW := Wd.f8 hW
    have hW := Wd.f8 hW
    have hW := Wd.f11 hW
    have hW := Wd.f11 hW
    have hW := Wd.f11 hW
    have hW := Wd.f11 hW
    have hW := Wd.f11 hW
    exact hN _ _ _ _ _ _ _ _ _ _ _ _ _ _ ls (op_undo hJ).2 hW hl
  · skip
    exact absurd (op_undo hJ).1 c_371

set_option maxHeartbeats 4000000 in
set_option maxRecDepth 100000 in
/-- the law: keep -/
theorem law_12 {p : Program} {l : Launch} {e : Env} {s : State} {m : MethodId} {below : List Frame} {meth : Method} {c : Code} {Q : State → Prop} {G : Gp} {ret0 : Option FieldType} {b L : Nat} {xs : Nat → Int32} {z : Nat → Nat → Nat} {bm : Nat → Nat} {Y : va_W} (M : Mx G p s m #[.ref b] meth c cL_law 4 ret0 RL) (X : LX G s b L xs) {i : Nat} (hi : i + 2 < L) (hN : ∀ (so g gB gT gS sh q0 q1 q2 q3 t u : Nat → Nat → Int32) (H : Heap) (locs : List Loc) (ls : Array Slot), J so g gS sh q0 q1 q2 q3 t u → Wd G s (SysW G z so ++ (LegW G (z 1) g ++ (LegW G (z 2) gB ++ (LegW G (z 3) gT ++ (LegW G (z 4) gS ++ (HistW G z sh ++ (LegW G (z 6) q0 ++ (LegW G (z 7) q1 ++ (LegW G (z 8) q2 ++ (LegW G (z 9) q3 ++ (TextW G (z 10) t ++ (ModW G bm u ++ Y)))))))))))) H locs → lv_has ls 4 [(0, .ref b), (1, .ref (z 0 0)), (2, .ref (bm 0)), (3, .int (nI i))] → W p l e room_1 s m #[.ref b] below meth c H locs 102 1261 Q (F0 m 583 ls [])) {so g gB gT gS sh q0 q1 q2 q3 t u : Nat → Nat → Int32} {H : Heap} {locs : List Loc} {ls : Array Slot} (hJ : J so g gS sh q0 q1 q2 q3 t u) (hW : Wd G s (SysW G z so ++ (LegW G (z 1) g ++ (LegW G (z 2) gB ++ (LegW G (z 3) gT ++ (LegW G (z 4) gS ++ (HistW G z sh ++ (LegW G (z 6) q0 ++ (LegW G (z 7) q1 ++ (LegW G (z 8) q2 ++ (LegW G (z 9) q3 ++ (TextW G (z 10) t ++ (ModW G bm u ++ Y)))))))))))) H locs) (hl : lv_has ls 4 [(0, .ref b), (1, .ref (z 0 0)), (2, .ref (bm 0)), (3, .int (nI i))]) : W p l e room_1 s m #[.ref b] below meth c H locs 102 1261 Q (F0 m 376 ls []) := by
  have hx := M.1
  have hb := M.2.1
  refine lv_aload_n hx hb dL_law_376 rfl (lv_at hl 1 rfl) ?_
  have hW := Wd.f4 hW
  have hW := Wd.f2 hW
  have hW := Wd.f2 hW
  refine r_callVi M hW (c_X6_keep l G z so g gS  (LegW G (z 2) gB ++ (LegW G (z 3) gT ++ (HistW G z sh ++ (LegW G (z 6) q0 ++ (LegW G (z 7) q1 ++ (LegW G (z 8) q2 ++ (LegW G (z 9) q3 ++ (TextW G (z 10) t ++ (ModW G bm u ++ Y))))))))) (pj_lz hJ)) rfl kw_633 kw_634 kw_635 kw_15 kw_340 pl_X6_keep 0 rfl rfl ⟨Nat.le_of_ble_eq_true rfl, Nat.le_of_ble_eq_true rfl⟩ ⟨Nat.le_of_ble_eq_true rfl, Nat.le_of_ble_eq_true rfl⟩ hl.1 rfl (Nat.le_of_ble_eq_true rfl) dL_law_377 (fun H locs hW => ?_)
  refine lv_aload_n hx hb dL_law_380 rfl (lv_at hl 2 rfl) ?_
  have hW := Wd.f11 hW
  refine r_callVi M hW (c_X7_keep l G bm u  (SysW G z (sX6_keep so) ++ (LegW G (z 1) g ++ (LegW G (z 4) (sX6_keep3 g) ++ (LegW G (z 2) gB ++ (LegW G (z 3) gT ++ (HistW G z sh ++ (LegW G (z 6) q0 ++ (LegW G (z 7) q1 ++ (LegW G (z 8) q2 ++ (LegW G (z 9) q3 ++ (TextW G (z 10) t ++ Y)))))))))))) rfl kw_636 kw_637 kw_638 kw_412 kw_536 pl_X7_keep 0 rfl rfl ⟨Nat.le_of_ble_eq_true rfl, Nat.le_of_ble_eq_true rfl⟩ ⟨Nat.le_of_ble_eq_true rfl, Nat.le_of_ble_eq_true rfl⟩ hl.1 rfl (Nat.le_of_ble_eq_true rfl) dL_law_381 (fun H locs hW => ?_)
  refine lv_icmp_eq (tgt := 583) hx hb dL_law_384 (by decide) (fun c_384 => ?_) (fun c_384 => ?_)
  · skip
    have hW := Wd.f11 hW
    have hW := Wd.f11 hW
    have hW := Wd.f11 hW
    have hW := Wd.f11 hW
    have hW := Wd.f11 hW
    have hW := Wd.f11 hW
    have hW := Wd.f9 hW
    have hW := Wd.f11 hW
    have hW := Wd.f11 hW
    have hW := Wd.f11 hW
    have hW := Wd.f11 hW
    exact hN _ _ _ _ _ _ _ _ _ _ _ _ _ _ ls (op_keep hJ).2 hW hl
  · skip
    exact absurd (op_keep hJ).1 c_384

set_option maxHeartbeats 4000000 in
set_option maxRecDepth 100000 in
/-- the law: restore -/
theorem law_13 {p : Program} {l : Launch} {e : Env} {s : State} {m : MethodId} {below : List Frame} {meth : Method} {c : Code} {Q : State → Prop} {G : Gp} {ret0 : Option FieldType} {b L : Nat} {xs : Nat → Int32} {z : Nat → Nat → Nat} {bm : Nat → Nat} {Y : va_W} (M : Mx G p s m #[.ref b] meth c cL_law 4 ret0 RL) (X : LX G s b L xs) {i : Nat} (hi : i + 2 < L) (hN : ∀ (so g gB gT gS sh q0 q1 q2 q3 t u : Nat → Nat → Int32) (H : Heap) (locs : List Loc) (ls : Array Slot), J so g gS sh q0 q1 q2 q3 t u → Wd G s (SysW G z so ++ (LegW G (z 1) g ++ (LegW G (z 2) gB ++ (LegW G (z 3) gT ++ (LegW G (z 4) gS ++ (HistW G z sh ++ (LegW G (z 6) q0 ++ (LegW G (z 7) q1 ++ (LegW G (z 8) q2 ++ (LegW G (z 9) q3 ++ (TextW G (z 10) t ++ (ModW G bm u ++ Y)))))))))))) H locs → lv_has ls 4 [(0, .ref b), (1, .ref (z 0 0)), (2, .ref (bm 0)), (3, .int (nI i))] → W p l e room_1 s m #[.ref b] below meth c H locs 102 1261 Q (F0 m 583 ls [])) {so g gB gT gS sh q0 q1 q2 q3 t u : Nat → Nat → Int32} {H : Heap} {locs : List Loc} {ls : Array Slot} (hJ : J so g gS sh q0 q1 q2 q3 t u) (hW : Wd G s (SysW G z so ++ (LegW G (z 1) g ++ (LegW G (z 2) gB ++ (LegW G (z 3) gT ++ (LegW G (z 4) gS ++ (HistW G z sh ++ (LegW G (z 6) q0 ++ (LegW G (z 7) q1 ++ (LegW G (z 8) q2 ++ (LegW G (z 9) q3 ++ (TextW G (z 10) t ++ (ModW G bm u ++ Y)))))))))))) H locs) (hl : lv_has ls 4 [(0, .ref b), (1, .ref (z 0 0)), (2, .ref (bm 0)), (3, .int (nI i))]) : W p l e room_1 s m #[.ref b] below meth c H locs 102 1261 Q (F0 m 389 ls []) := by
  have hx := M.1
  have hb := M.2.1
  refine lv_aload_n hx hb dL_law_389 rfl (lv_at hl 1 rfl) ?_
  have hW := Wd.f9 hW
  have hW := Wd.f9 hW
  have hW := Wd.f9 hW
  have hW := Wd.f9 hW
  have hW := Wd.f9 hW
  have hW := Wd.f9 hW
  have hW := Wd.f8 hW
  have hW := Wd.f8 hW
  have hW := Wd.f8 hW
  refine r_callVi M hW (c_X6_restore l G z so g gB gS sh q0 q1 q2 q3  (LegW G (z 3) gT ++ (TextW G (z 10) t ++ (ModW G bm u ++ Y))) (pj_lz hJ) (pj_lzS hJ) (pj_hok hJ)) rfl kw_639 kw_640 kw_641 kw_15 kw_341 pl_X6_restore 0 rfl rfl ⟨Nat.le_of_ble_eq_true rfl, Nat.le_of_ble_eq_true rfl⟩ ⟨Nat.le_of_ble_eq_true rfl, Nat.le_of_ble_eq_true rfl⟩ hl.1 rfl (Nat.le_of_ble_eq_true rfl) dL_law_390 (fun H locs hW => ?_)
  refine lv_aload_n hx hb dL_law_393 rfl (lv_at hl 2 rfl) ?_
  have hW := Wd.f11 hW
  refine r_callVi M hW (c_X7_restore l G bm u  (SysW G z so ++ (LegW G (z 1) (sX6_restore2 so g gS) ++ (LegW G (z 2) (sX6_restore3 so g gB) ++ (LegW G (z 4) gS ++ (HistW G z (sX6_restore5 so gS sh) ++ (LegW G (z 6) (sX6_restore6 so g gS sh q0) ++ (LegW G (z 7) (sX6_restore7 so g gS sh q1) ++ (LegW G (z 8) (sX6_restore8 so g gS sh q2) ++ (LegW G (z 9) (sX6_restore9 so g gS sh q3) ++ (LegW G (z 3) gT ++ (TextW G (z 10) t ++ Y))))))))))) (pj_msz hJ)) rfl kw_642 kw_643 kw_644 kw_412 kw_538 pl_X7_restore 0 rfl rfl ⟨Nat.le_of_ble_eq_true rfl, Nat.le_of_ble_eq_true rfl⟩ ⟨Nat.le_of_ble_eq_true rfl, Nat.le_of_ble_eq_true rfl⟩ hl.1 rfl (Nat.le_of_ble_eq_true rfl) dL_law_394 (fun H locs hW => ?_)
  refine lv_icmp_eq (tgt := 583) hx hb dL_law_397 (by decide) (fun c_397 => ?_) (fun c_397 => ?_)
  · skip
    have hW := Wd.f11 hW
    have hW := Wd.f10 hW
    have hW := Wd.f10 hW
    have hW := Wd.f10 hW
    have hW := Wd.f10 hW
    have hW := Wd.f10 hW
    have hW := Wd.f10 hW
    have hW := Wd.f11 hW
    have hW := Wd.f11 hW
    have hW := Wd.f11 hW
    have hW := Wd.f11 hW
    exact hN _ _ _ _ _ _ _ _ _ _ _ _ _ _ ls (op_restore hJ).2 hW hl
  · skip
    exact absurd (op_restore hJ).1 c_397

set_option maxHeartbeats 4000000 in
set_option maxRecDepth 100000 in
/-- the law: bucket -/
theorem law_14 {p : Program} {l : Launch} {e : Env} {s : State} {m : MethodId} {below : List Frame} {meth : Method} {c : Code} {Q : State → Prop} {G : Gp} {ret0 : Option FieldType} {b L : Nat} {xs : Nat → Int32} {z : Nat → Nat → Nat} {bm : Nat → Nat} {Y : va_W} (M : Mx G p s m #[.ref b] meth c cL_law 4 ret0 RL) (X : LX G s b L xs) {i : Nat} (hi : i + 2 < L) (hN : ∀ (so g gB gT gS sh q0 q1 q2 q3 t u : Nat → Nat → Int32) (H : Heap) (locs : List Loc) (ls : Array Slot), J so g gS sh q0 q1 q2 q3 t u → Wd G s (SysW G z so ++ (LegW G (z 1) g ++ (LegW G (z 2) gB ++ (LegW G (z 3) gT ++ (LegW G (z 4) gS ++ (HistW G z sh ++ (LegW G (z 6) q0 ++ (LegW G (z 7) q1 ++ (LegW G (z 8) q2 ++ (LegW G (z 9) q3 ++ (TextW G (z 10) t ++ (ModW G bm u ++ Y)))))))))))) H locs → lv_has ls 4 [(0, .ref b), (1, .ref (z 0 0)), (2, .ref (bm 0)), (3, .int (nI i))] → W p l e room_1 s m #[.ref b] below meth c H locs 102 1261 Q (F0 m 583 ls [])) {so g gB gT gS sh q0 q1 q2 q3 t u : Nat → Nat → Int32} {H : Heap} {locs : List Loc} {ls : Array Slot} (hJ : J so g gS sh q0 q1 q2 q3 t u) (hW : Wd G s (SysW G z so ++ (LegW G (z 1) g ++ (LegW G (z 2) gB ++ (LegW G (z 3) gT ++ (LegW G (z 4) gS ++ (HistW G z sh ++ (LegW G (z 6) q0 ++ (LegW G (z 7) q1 ++ (LegW G (z 8) q2 ++ (LegW G (z 9) q3 ++ (TextW G (z 10) t ++ (ModW G bm u ++ Y)))))))))))) H locs) (hl : lv_has ls 4 [(0, .ref b), (1, .ref (z 0 0)), (2, .ref (bm 0)), (3, .int (nI i))]) : W p l e room_1 s m #[.ref b] below meth c H locs 102 1261 Q (F0 m 402 ls []) := by
  have hx := M.1
  have hb := M.2.1
  refine lv_aload_n hx hb dL_law_402 rfl (lv_at hl 1 rfl) ?_
  refine lv_aload_n hx hb dL_law_403 rfl (lv_at hl 0 rfl) ?_
  refine lv_iload_n hx hb dL_law_404 rfl (lv_at hl 3 rfl) ?_
  refine lv_iconst (v := 1) hx hb dL_law_405 (by decide) ?_
  refine lv_iadd hx hb dL_law_406 ?_
  refine r_top (y := nI (i + 1)) (nI_a1 i) ?_
  refine r_sld M hW X (i + 1) rfl (by omega) dL_law_407 ?_
  refine r_callVi M hW (c_X6_bucket l G z so g (xs (i + 1)) (LegW G (z 2) gB ++ (LegW G (z 3) gT ++ (LegW G (z 4) gS ++ (HistW G z sh ++ (LegW G (z 6) q0 ++ (LegW G (z 7) q1 ++ (LegW G (z 8) q2 ++ (LegW G (z 9) q3 ++ (TextW G (z 10) t ++ (ModW G bm u ++ Y)))))))))) (pj_ok hJ)) rfl kw_645 kw_646 kw_647 kw_15 kw_342 pl_X6_bucket 0 rfl rfl ⟨Nat.le_of_ble_eq_true rfl, Nat.le_of_ble_eq_true rfl⟩ ⟨Nat.le_of_ble_eq_true rfl, Nat.le_of_ble_eq_true rfl⟩ hl.1 rfl (Nat.le_of_ble_eq_true rfl) dL_law_408 (fun H locs hW => ?_)
  refine lv_aload_n hx hb dL_law_411 rfl (lv_at hl 2 rfl) ?_
  refine lv_aload_n hx hb dL_law_412 rfl (lv_at hl 0 rfl) ?_
  refine lv_iload_n hx hb dL_law_413 rfl (lv_at hl 3 rfl) ?_
  refine lv_iconst (v := 1) hx hb dL_law_414 (by decide) ?_
  refine lv_iadd hx hb dL_law_415 ?_
  refine r_top (y := nI (i + 1)) (nI_a1 i) ?_
  refine r_sld M hW X (i + 1) rfl (by omega) dL_law_416 ?_
  have hW := Wd.f11 hW
  refine r_callVi M hW (c_X7_bucket l G bm u (xs (i + 1)) (SysW G z so ++ (LegW G (z 1) g ++ (LegW G (z 2) gB ++ (LegW G (z 3) gT ++ (LegW G (z 4) gS ++ (HistW G z sh ++ (LegW G (z 6) q0 ++ (LegW G (z 7) q1 ++ (LegW G (z 8) q2 ++ (LegW G (z 9) q3 ++ (TextW G (z 10) t ++ Y)))))))))))) rfl kw_648 kw_649 kw_650 kw_412 kw_539 pl_X7_bucket 0 rfl rfl ⟨Nat.le_of_ble_eq_true rfl, Nat.le_of_ble_eq_true rfl⟩ ⟨Nat.le_of_ble_eq_true rfl, Nat.le_of_ble_eq_true rfl⟩ hl.1 rfl (Nat.le_of_ble_eq_true rfl) dL_law_417 (fun H locs hW => ?_)
  refine lv_icmp_eq (tgt := 583) hx hb dL_law_420 (by decide) (fun c_420 => ?_) (fun c_420 => ?_)
  · skip
    have hW := Wd.f11 hW
    have hW := Wd.f11 hW
    have hW := Wd.f11 hW
    have hW := Wd.f11 hW
    have hW := Wd.f11 hW
    have hW := Wd.f11 hW
    have hW := Wd.f11 hW
    have hW := Wd.f11 hW
    have hW := Wd.f11 hW
    have hW := Wd.f11 hW
    have hW := Wd.f11 hW
    exact hN _ _ _ _ _ _ _ _ _ _ _ _ _ _ ls (op_bucket hJ (xs (i + 1))).2 hW hl
  · skip
    exact absurd (op_bucket hJ (xs (i + 1))).1 c_420

set_option maxHeartbeats 4000000 in
set_option maxRecDepth 100000 in
/-- the law: sensor -/
theorem law_15 {p : Program} {l : Launch} {e : Env} {s : State} {m : MethodId} {below : List Frame} {meth : Method} {c : Code} {Q : State → Prop} {G : Gp} {ret0 : Option FieldType} {b L : Nat} {xs : Nat → Int32} {z : Nat → Nat → Nat} {bm : Nat → Nat} {Y : va_W} (M : Mx G p s m #[.ref b] meth c cL_law 4 ret0 RL) (X : LX G s b L xs) {i : Nat} (hi : i + 2 < L) (hN : ∀ (so g gB gT gS sh q0 q1 q2 q3 t u : Nat → Nat → Int32) (H : Heap) (locs : List Loc) (ls : Array Slot), J so g gS sh q0 q1 q2 q3 t u → Wd G s (SysW G z so ++ (LegW G (z 1) g ++ (LegW G (z 2) gB ++ (LegW G (z 3) gT ++ (LegW G (z 4) gS ++ (HistW G z sh ++ (LegW G (z 6) q0 ++ (LegW G (z 7) q1 ++ (LegW G (z 8) q2 ++ (LegW G (z 9) q3 ++ (TextW G (z 10) t ++ (ModW G bm u ++ Y)))))))))))) H locs → lv_has ls 4 [(0, .ref b), (1, .ref (z 0 0)), (2, .ref (bm 0)), (3, .int (nI i))] → W p l e room_1 s m #[.ref b] below meth c H locs 102 1261 Q (F0 m 583 ls [])) {so g gB gT gS sh q0 q1 q2 q3 t u : Nat → Nat → Int32} {H : Heap} {locs : List Loc} {ls : Array Slot} (hJ : J so g gS sh q0 q1 q2 q3 t u) (hW : Wd G s (SysW G z so ++ (LegW G (z 1) g ++ (LegW G (z 2) gB ++ (LegW G (z 3) gT ++ (LegW G (z 4) gS ++ (HistW G z sh ++ (LegW G (z 6) q0 ++ (LegW G (z 7) q1 ++ (LegW G (z 8) q2 ++ (LegW G (z 9) q3 ++ (TextW G (z 10) t ++ (ModW G bm u ++ Y)))))))))))) H locs) (hl : lv_has ls 4 [(0, .ref b), (1, .ref (z 0 0)), (2, .ref (bm 0)), (3, .int (nI i))]) : W p l e room_1 s m #[.ref b] below meth c H locs 102 1261 Q (F0 m 425 ls []) := by
  have hx := M.1
  have hb := M.2.1
  refine lv_aload_n hx hb dL_law_425 rfl (lv_at hl 1 rfl) ?_
  refine lv_aload_n hx hb dL_law_426 rfl (lv_at hl 0 rfl) ?_
  refine lv_iload_n hx hb dL_law_427 rfl (lv_at hl 3 rfl) ?_
  refine lv_iconst (v := 1) hx hb dL_law_428 (by decide) ?_
  refine lv_iadd hx hb dL_law_429 ?_
  refine r_top (y := nI (i + 1)) (nI_a1 i) ?_
  refine r_sld M hW X (i + 1) rfl (by omega) dL_law_430 ?_
  refine lv_aload_n hx hb dL_law_431 rfl (lv_at hl 0 rfl) ?_
  refine lv_iload_n hx hb dL_law_432 rfl (lv_at hl 3 rfl) ?_
  refine lv_iconst (v := 2) hx hb dL_law_433 (by decide) ?_
  refine lv_iadd hx hb dL_law_434 ?_
  refine r_top (y := nI (i + 2)) (nI_a2 i) ?_
  refine r_sld M hW X (i + 2) rfl (by omega) dL_law_435 ?_
  refine r_callVi M hW (c_X6_sensor l G z so g (xs (i + 1)) (xs (i + 2)) (LegW G (z 2) gB ++ (LegW G (z 3) gT ++ (LegW G (z 4) gS ++ (HistW G z sh ++ (LegW G (z 6) q0 ++ (LegW G (z 7) q1 ++ (LegW G (z 8) q2 ++ (LegW G (z 9) q3 ++ (TextW G (z 10) t ++ (ModW G bm u ++ Y))))))))))) rfl kw_651 kw_652 kw_653 kw_15 kw_347 pl_X6_sensor 0 rfl rfl ⟨Nat.le_of_ble_eq_true rfl, Nat.le_of_ble_eq_true rfl⟩ ⟨Nat.le_of_ble_eq_true rfl, Nat.le_of_ble_eq_true rfl⟩ hl.1 rfl (Nat.le_of_ble_eq_true rfl) dL_law_436 (fun H locs hW => ?_)
  refine lv_aload_n hx hb dL_law_439 rfl (lv_at hl 2 rfl) ?_
  refine lv_aload_n hx hb dL_law_440 rfl (lv_at hl 0 rfl) ?_
  refine lv_iload_n hx hb dL_law_441 rfl (lv_at hl 3 rfl) ?_
  refine lv_iconst (v := 1) hx hb dL_law_442 (by decide) ?_
  refine lv_iadd hx hb dL_law_443 ?_
  refine r_top (y := nI (i + 1)) (nI_a1 i) ?_
  refine r_sld M hW X (i + 1) rfl (by omega) dL_law_444 ?_
  refine lv_aload_n hx hb dL_law_445 rfl (lv_at hl 0 rfl) ?_
  refine lv_iload_n hx hb dL_law_446 rfl (lv_at hl 3 rfl) ?_
  refine lv_iconst (v := 2) hx hb dL_law_447 (by decide) ?_
  refine lv_iadd hx hb dL_law_448 ?_
  refine r_top (y := nI (i + 2)) (nI_a2 i) ?_
  refine r_sld M hW X (i + 2) rfl (by omega) dL_law_449 ?_
  have hW := Wd.f11 hW
  refine r_callVi M hW (c_X7_sensor l G bm u (xs (i + 1)) (xs (i + 2)) (SysW G z so ++ (LegW G (z 1) g ++ (LegW G (z 2) gB ++ (LegW G (z 3) gT ++ (LegW G (z 4) gS ++ (HistW G z sh ++ (LegW G (z 6) q0 ++ (LegW G (z 7) q1 ++ (LegW G (z 8) q2 ++ (LegW G (z 9) q3 ++ (TextW G (z 10) t ++ Y)))))))))))) rfl kw_654 kw_655 kw_656 kw_412 kw_540 pl_X7_sensor 0 rfl rfl ⟨Nat.le_of_ble_eq_true rfl, Nat.le_of_ble_eq_true rfl⟩ ⟨Nat.le_of_ble_eq_true rfl, Nat.le_of_ble_eq_true rfl⟩ hl.1 rfl (Nat.le_of_ble_eq_true rfl) dL_law_450 (fun H locs hW => ?_)
  refine lv_icmp_eq (tgt := 583) hx hb dL_law_453 (by decide) (fun c_453 => ?_) (fun c_453 => ?_)
  · skip
    have hW := Wd.f11 hW
    have hW := Wd.f11 hW
    have hW := Wd.f11 hW
    have hW := Wd.f11 hW
    have hW := Wd.f11 hW
    have hW := Wd.f11 hW
    have hW := Wd.f11 hW
    have hW := Wd.f11 hW
    have hW := Wd.f11 hW
    have hW := Wd.f11 hW
    have hW := Wd.f11 hW
    exact hN _ _ _ _ _ _ _ _ _ _ _ _ _ _ ls (op_sensor hJ (xs (i + 1)) (xs (i + 2))).2 hW hl
  · skip
    exact absurd (op_sensor hJ (xs (i + 1)) (xs (i + 2))).1 c_453

set_option maxHeartbeats 4000000 in
set_option maxRecDepth 100000 in
/-- the law: tripsIn -/
theorem law_16 {p : Program} {l : Launch} {e : Env} {s : State} {m : MethodId} {below : List Frame} {meth : Method} {c : Code} {Q : State → Prop} {G : Gp} {ret0 : Option FieldType} {b L : Nat} {xs : Nat → Int32} {z : Nat → Nat → Nat} {bm : Nat → Nat} {Y : va_W} (M : Mx G p s m #[.ref b] meth c cL_law 4 ret0 RL) (X : LX G s b L xs) {i : Nat} (hi : i + 2 < L) (hN : ∀ (so g gB gT gS sh q0 q1 q2 q3 t u : Nat → Nat → Int32) (H : Heap) (locs : List Loc) (ls : Array Slot), J so g gS sh q0 q1 q2 q3 t u → Wd G s (SysW G z so ++ (LegW G (z 1) g ++ (LegW G (z 2) gB ++ (LegW G (z 3) gT ++ (LegW G (z 4) gS ++ (HistW G z sh ++ (LegW G (z 6) q0 ++ (LegW G (z 7) q1 ++ (LegW G (z 8) q2 ++ (LegW G (z 9) q3 ++ (TextW G (z 10) t ++ (ModW G bm u ++ Y)))))))))))) H locs → lv_has ls 4 [(0, .ref b), (1, .ref (z 0 0)), (2, .ref (bm 0)), (3, .int (nI i))] → W p l e room_1 s m #[.ref b] below meth c H locs 102 1261 Q (F0 m 583 ls [])) {so g gB gT gS sh q0 q1 q2 q3 t u : Nat → Nat → Int32} {H : Heap} {locs : List Loc} {ls : Array Slot} (hJ : J so g gS sh q0 q1 q2 q3 t u) (hW : Wd G s (SysW G z so ++ (LegW G (z 1) g ++ (LegW G (z 2) gB ++ (LegW G (z 3) gT ++ (LegW G (z 4) gS ++ (HistW G z sh ++ (LegW G (z 6) q0 ++ (LegW G (z 7) q1 ++ (LegW G (z 8) q2 ++ (LegW G (z 9) q3 ++ (TextW G (z 10) t ++ (ModW G bm u ++ Y)))))))))))) H locs) (hl : lv_has ls 4 [(0, .ref b), (1, .ref (z 0 0)), (2, .ref (bm 0)), (3, .int (nI i))]) : W p l e room_1 s m #[.ref b] below meth c H locs 102 1261 Q (F0 m 458 ls []) := by
  have hx := M.1
  have hb := M.2.1
  refine lv_aload_n hx hb dL_law_458 rfl (lv_at hl 1 rfl) ?_
  have hW := Wd.f3 hW
  have hW := Wd.f2 hW
  have hW := Wd.f2 hW
  refine r_callVi M hW (c_X6_tripsIn l G z so g gT  (LegW G (z 2) gB ++ (LegW G (z 4) gS ++ (HistW G z sh ++ (LegW G (z 6) q0 ++ (LegW G (z 7) q1 ++ (LegW G (z 8) q2 ++ (LegW G (z 9) q3 ++ (TextW G (z 10) t ++ (ModW G bm u ++ Y))))))))) (pj_lz hJ) (pj_ok hJ)) rfl kw_657 kw_658 kw_659 kw_15 kw_357 pl_X6_tripsIn 0 rfl rfl ⟨Nat.le_of_ble_eq_true rfl, Nat.le_of_ble_eq_true rfl⟩ ⟨Nat.le_of_ble_eq_true rfl, Nat.le_of_ble_eq_true rfl⟩ hl.1 rfl (Nat.le_of_ble_eq_true rfl) dL_law_459 (fun H locs hW => ?_)
  refine lv_aload_n hx hb dL_law_462 rfl (lv_at hl 2 rfl) ?_
  have hW := Wd.f11 hW
  refine r_callVi M hW (c_X7_tripsIn l G bm u  (SysW G z so ++ (LegW G (z 1) g ++ (LegW G (z 3) (sX6_tripsIn3 g gT) ++ (LegW G (z 2) gB ++ (LegW G (z 4) gS ++ (HistW G z sh ++ (LegW G (z 6) q0 ++ (LegW G (z 7) q1 ++ (LegW G (z 8) q2 ++ (LegW G (z 9) q3 ++ (TextW G (z 10) t ++ Y)))))))))))) rfl kw_660 kw_661 kw_662 kw_412 kw_545 pl_X7_tripsIn 0 rfl rfl ⟨Nat.le_of_ble_eq_true rfl, Nat.le_of_ble_eq_true rfl⟩ ⟨Nat.le_of_ble_eq_true rfl, Nat.le_of_ble_eq_true rfl⟩ hl.1 rfl (Nat.le_of_ble_eq_true rfl) dL_law_463 (fun H locs hW => ?_)
  refine lv_icmp_eq (tgt := 583) hx hb dL_law_466 (by decide) (fun c_466 => ?_) (fun c_466 => ?_)
  · skip
    have hW := Wd.f11 hW
    have hW := Wd.f11 hW
    have hW := Wd.f11 hW
    have hW := Wd.f11 hW
    have hW := Wd.f11 hW
    have hW := Wd.f11 hW
    have hW := Wd.f11 hW
    have hW := Wd.f10 hW
    have hW := Wd.f11 hW
    have hW := Wd.f11 hW
    have hW := Wd.f11 hW
    exact hN _ _ _ _ _ _ _ _ _ _ _ _ _ _ ls (op_tripsIn hJ).2 hW hl
  · skip
    exact absurd (op_tripsIn hJ).1 c_466

set_option maxHeartbeats 4000000 in
set_option maxRecDepth 100000 in
/-- the law: ifTension -/
theorem law_17 {p : Program} {l : Launch} {e : Env} {s : State} {m : MethodId} {below : List Frame} {meth : Method} {c : Code} {Q : State → Prop} {G : Gp} {ret0 : Option FieldType} {b L : Nat} {xs : Nat → Int32} {z : Nat → Nat → Nat} {bm : Nat → Nat} {Y : va_W} (M : Mx G p s m #[.ref b] meth c cL_law 4 ret0 RL) (X : LX G s b L xs) {i : Nat} (hi : i + 2 < L) (hN : ∀ (so g gB gT gS sh q0 q1 q2 q3 t u : Nat → Nat → Int32) (H : Heap) (locs : List Loc) (ls : Array Slot), J so g gS sh q0 q1 q2 q3 t u → Wd G s (SysW G z so ++ (LegW G (z 1) g ++ (LegW G (z 2) gB ++ (LegW G (z 3) gT ++ (LegW G (z 4) gS ++ (HistW G z sh ++ (LegW G (z 6) q0 ++ (LegW G (z 7) q1 ++ (LegW G (z 8) q2 ++ (LegW G (z 9) q3 ++ (TextW G (z 10) t ++ (ModW G bm u ++ Y)))))))))))) H locs → lv_has ls 4 [(0, .ref b), (1, .ref (z 0 0)), (2, .ref (bm 0)), (3, .int (nI i))] → W p l e room_1 s m #[.ref b] below meth c H locs 102 1261 Q (F0 m 583 ls [])) {so g gB gT gS sh q0 q1 q2 q3 t u : Nat → Nat → Int32} {H : Heap} {locs : List Loc} {ls : Array Slot} (hJ : J so g gS sh q0 q1 q2 q3 t u) (hW : Wd G s (SysW G z so ++ (LegW G (z 1) g ++ (LegW G (z 2) gB ++ (LegW G (z 3) gT ++ (LegW G (z 4) gS ++ (HistW G z sh ++ (LegW G (z 6) q0 ++ (LegW G (z 7) q1 ++ (LegW G (z 8) q2 ++ (LegW G (z 9) q3 ++ (TextW G (z 10) t ++ (ModW G bm u ++ Y)))))))))))) H locs) (hl : lv_has ls 4 [(0, .ref b), (1, .ref (z 0 0)), (2, .ref (bm 0)), (3, .int (nI i))]) : W p l e room_1 s m #[.ref b] below meth c H locs 102 1261 Q (F0 m 471 ls []) := by
  have hx := M.1
  have hb := M.2.1
  refine lv_aload_n hx hb dL_law_471 rfl (lv_at hl 1 rfl) ?_
  refine lv_aload_n hx hb dL_law_472 rfl (lv_at hl 0 rfl) ?_
  refine lv_iload_n hx hb dL_law_473 rfl (lv_at hl 3 rfl) ?_
  refine lv_iconst (v := 1) hx hb dL_law_474 (by decide) ?_
  refine lv_iadd hx hb dL_law_475 ?_
  refine r_top (y := nI (i + 1)) (nI_a1 i) ?_
  refine r_sld M hW X (i + 1) rfl (by omega) dL_law_476 ?_
  refine lv_aload_n hx hb dL_law_477 rfl (lv_at hl 0 rfl) ?_
  refine lv_iload_n hx hb dL_law_478 rfl (lv_at hl 3 rfl) ?_
  refine lv_iconst (v := 2) hx hb dL_law_479 (by decide) ?_
  refine lv_iadd hx hb dL_law_480 ?_
  refine r_top (y := nI (i + 2)) (nI_a2 i) ?_
  refine r_sld M hW X (i + 2) rfl (by omega) dL_law_481 ?_
  have hW := Wd.f3 hW
  have hW := Wd.f2 hW
  have hW := Wd.f2 hW
  refine r_callVi M hW (c_X6_ifTension l G z so g gT (xs (i + 1)) (xs (i + 2)) (LegW G (z 2) gB ++ (LegW G (z 4) gS ++ (HistW G z sh ++ (LegW G (z 6) q0 ++ (LegW G (z 7) q1 ++ (LegW G (z 8) q2 ++ (LegW G (z 9) q3 ++ (TextW G (z 10) t ++ (ModW G bm u ++ Y))))))))) (pj_lz hJ) (pj_ok hJ)) rfl kw_663 kw_664 kw_665 kw_15 kw_361 pl_X6_ifTension 0 rfl rfl ⟨Nat.le_of_ble_eq_true rfl, Nat.le_of_ble_eq_true rfl⟩ ⟨Nat.le_of_ble_eq_true rfl, Nat.le_of_ble_eq_true rfl⟩ hl.1 rfl (Nat.le_of_ble_eq_true rfl) dL_law_482 (fun H locs hW => ?_)
  refine lv_aload_n hx hb dL_law_485 rfl (lv_at hl 2 rfl) ?_
  refine lv_aload_n hx hb dL_law_486 rfl (lv_at hl 0 rfl) ?_
  refine lv_iload_n hx hb dL_law_487 rfl (lv_at hl 3 rfl) ?_
  refine lv_iconst (v := 1) hx hb dL_law_488 (by decide) ?_
  refine lv_iadd hx hb dL_law_489 ?_
  refine r_top (y := nI (i + 1)) (nI_a1 i) ?_
  refine r_sld M hW X (i + 1) rfl (by omega) dL_law_490 ?_
  refine lv_aload_n hx hb dL_law_491 rfl (lv_at hl 0 rfl) ?_
  refine lv_iload_n hx hb dL_law_492 rfl (lv_at hl 3 rfl) ?_
  refine lv_iconst (v := 2) hx hb dL_law_493 (by decide) ?_
  refine lv_iadd hx hb dL_law_494 ?_
  refine r_top (y := nI (i + 2)) (nI_a2 i) ?_
  refine r_sld M hW X (i + 2) rfl (by omega) dL_law_495 ?_
  have hW := Wd.f11 hW
  refine r_callVi M hW (c_X7_ifTension l G bm u (xs (i + 1)) (xs (i + 2)) (SysW G z so ++ (LegW G (z 1) g ++ (LegW G (z 3) (sX6_ifTension3 g gT (xs (i + 1)) (xs (i + 2))) ++ (LegW G (z 2) gB ++ (LegW G (z 4) gS ++ (HistW G z sh ++ (LegW G (z 6) q0 ++ (LegW G (z 7) q1 ++ (LegW G (z 8) q2 ++ (LegW G (z 9) q3 ++ (TextW G (z 10) t ++ Y)))))))))))) rfl kw_666 kw_667 kw_668 kw_412 kw_546 pl_X7_ifTension 0 rfl rfl ⟨Nat.le_of_ble_eq_true rfl, Nat.le_of_ble_eq_true rfl⟩ ⟨Nat.le_of_ble_eq_true rfl, Nat.le_of_ble_eq_true rfl⟩ hl.1 rfl (Nat.le_of_ble_eq_true rfl) dL_law_496 (fun H locs hW => ?_)
  refine lv_icmp_eq (tgt := 583) hx hb dL_law_499 (by decide) (fun c_499 => ?_) (fun c_499 => ?_)
  · skip
    have hW := Wd.f11 hW
    have hW := Wd.f11 hW
    have hW := Wd.f11 hW
    have hW := Wd.f11 hW
    have hW := Wd.f11 hW
    have hW := Wd.f11 hW
    have hW := Wd.f11 hW
    have hW := Wd.f10 hW
    have hW := Wd.f11 hW
    have hW := Wd.f11 hW
    have hW := Wd.f11 hW
    exact hN _ _ _ _ _ _ _ _ _ _ _ _ _ _ ls (op_ifTension hJ (xs (i + 1)) (xs (i + 2))).2 hW hl
  · skip
    exact absurd (op_ifTension hJ (xs (i + 1)) (xs (i + 2))).1 c_499

set_option maxHeartbeats 4000000 in
set_option maxRecDepth 100000 in
/-- the law: leastTension -/
theorem law_18 {p : Program} {l : Launch} {e : Env} {s : State} {m : MethodId} {below : List Frame} {meth : Method} {c : Code} {Q : State → Prop} {G : Gp} {ret0 : Option FieldType} {b L : Nat} {xs : Nat → Int32} {z : Nat → Nat → Nat} {bm : Nat → Nat} {Y : va_W} (M : Mx G p s m #[.ref b] meth c cL_law 4 ret0 RL) (X : LX G s b L xs) {i : Nat} (hi : i + 2 < L) (hN : ∀ (so g gB gT gS sh q0 q1 q2 q3 t u : Nat → Nat → Int32) (H : Heap) (locs : List Loc) (ls : Array Slot), J so g gS sh q0 q1 q2 q3 t u → Wd G s (SysW G z so ++ (LegW G (z 1) g ++ (LegW G (z 2) gB ++ (LegW G (z 3) gT ++ (LegW G (z 4) gS ++ (HistW G z sh ++ (LegW G (z 6) q0 ++ (LegW G (z 7) q1 ++ (LegW G (z 8) q2 ++ (LegW G (z 9) q3 ++ (TextW G (z 10) t ++ (ModW G bm u ++ Y)))))))))))) H locs → lv_has ls 4 [(0, .ref b), (1, .ref (z 0 0)), (2, .ref (bm 0)), (3, .int (nI i))] → W p l e room_1 s m #[.ref b] below meth c H locs 102 1261 Q (F0 m 583 ls [])) {so g gB gT gS sh q0 q1 q2 q3 t u : Nat → Nat → Int32} {H : Heap} {locs : List Loc} {ls : Array Slot} (hJ : J so g gS sh q0 q1 q2 q3 t u) (hW : Wd G s (SysW G z so ++ (LegW G (z 1) g ++ (LegW G (z 2) gB ++ (LegW G (z 3) gT ++ (LegW G (z 4) gS ++ (HistW G z sh ++ (LegW G (z 6) q0 ++ (LegW G (z 7) q1 ++ (LegW G (z 8) q2 ++ (LegW G (z 9) q3 ++ (TextW G (z 10) t ++ (ModW G bm u ++ Y)))))))))))) H locs) (hl : lv_has ls 4 [(0, .ref b), (1, .ref (z 0 0)), (2, .ref (bm 0)), (3, .int (nI i))]) : W p l e room_1 s m #[.ref b] below meth c H locs 102 1261 Q (F0 m 504 ls []) := by
  have hx := M.1
  have hb := M.2.1
  refine lv_aload_n hx hb dL_law_504 rfl (lv_at hl 1 rfl) ?_
  refine lv_aload_n hx hb dL_law_505 rfl (lv_at hl 0 rfl) ?_
  refine lv_iload_n hx hb dL_law_506 rfl (lv_at hl 3 rfl) ?_
  refine lv_iconst (v := 1) hx hb dL_law_507 (by decide) ?_
  refine lv_iadd hx hb dL_law_508 ?_
  refine r_top (y := nI (i + 1)) (nI_a1 i) ?_
  refine r_sld M hW X (i + 1) rfl (by omega) dL_law_509 ?_
  have hW := Wd.f3 hW
  have hW := Wd.f2 hW
  have hW := Wd.f2 hW
  refine r_callVi M hW (c_X6_leastTension l G z so g gT (xs (i + 1)) (LegW G (z 2) gB ++ (LegW G (z 4) gS ++ (HistW G z sh ++ (LegW G (z 6) q0 ++ (LegW G (z 7) q1 ++ (LegW G (z 8) q2 ++ (LegW G (z 9) q3 ++ (TextW G (z 10) t ++ (ModW G bm u ++ Y))))))))) (pj_lz hJ) (pj_ok hJ)) rfl kw_669 kw_670 kw_671 kw_15 kw_362 pl_X6_leastTension 0 rfl rfl ⟨Nat.le_of_ble_eq_true rfl, Nat.le_of_ble_eq_true rfl⟩ ⟨Nat.le_of_ble_eq_true rfl, Nat.le_of_ble_eq_true rfl⟩ hl.1 rfl (Nat.le_of_ble_eq_true rfl) dL_law_510 (fun H locs hW => ?_)
  refine lv_aload_n hx hb dL_law_513 rfl (lv_at hl 2 rfl) ?_
  refine lv_aload_n hx hb dL_law_514 rfl (lv_at hl 0 rfl) ?_
  refine lv_iload_n hx hb dL_law_515 rfl (lv_at hl 3 rfl) ?_
  refine lv_iconst (v := 1) hx hb dL_law_516 (by decide) ?_
  refine lv_iadd hx hb dL_law_517 ?_
  refine r_top (y := nI (i + 1)) (nI_a1 i) ?_
  refine r_sld M hW X (i + 1) rfl (by omega) dL_law_518 ?_
  have hW := Wd.f11 hW
  refine r_callVi M hW (c_X7_leastTension l G bm u (xs (i + 1)) (SysW G z so ++ (LegW G (z 1) g ++ (LegW G (z 3) (sX6_leastTension3 g gT (xs (i + 1))) ++ (LegW G (z 2) gB ++ (LegW G (z 4) gS ++ (HistW G z sh ++ (LegW G (z 6) q0 ++ (LegW G (z 7) q1 ++ (LegW G (z 8) q2 ++ (LegW G (z 9) q3 ++ (TextW G (z 10) t ++ Y)))))))))))) rfl kw_672 kw_673 kw_674 kw_412 kw_547 pl_X7_leastTension 0 rfl rfl ⟨Nat.le_of_ble_eq_true rfl, Nat.le_of_ble_eq_true rfl⟩ ⟨Nat.le_of_ble_eq_true rfl, Nat.le_of_ble_eq_true rfl⟩ hl.1 rfl (Nat.le_of_ble_eq_true rfl) dL_law_519 (fun H locs hW => ?_)
  refine lv_icmp_eq (tgt := 583) hx hb dL_law_522 (by decide) (fun c_522 => ?_) (fun c_522 => ?_)
  · skip
    have hW := Wd.f11 hW
    have hW := Wd.f11 hW
    have hW := Wd.f11 hW
    have hW := Wd.f11 hW
    have hW := Wd.f11 hW
    have hW := Wd.f11 hW
    have hW := Wd.f11 hW
    have hW := Wd.f10 hW
    have hW := Wd.f11 hW
    have hW := Wd.f11 hW
    have hW := Wd.f11 hW
    exact hN _ _ _ _ _ _ _ _ _ _ _ _ _ _ ls (op_least hJ (xs (i + 1))).2 hW hl
  · skip
    exact absurd (op_least hJ (xs (i + 1))).1 c_522

set_option maxHeartbeats 4000000 in
set_option maxRecDepth 100000 in
/-- the law: trip -/
theorem law_19 {p : Program} {l : Launch} {e : Env} {s : State} {m : MethodId} {below : List Frame} {meth : Method} {c : Code} {Q : State → Prop} {G : Gp} {ret0 : Option FieldType} {b L : Nat} {xs : Nat → Int32} {z : Nat → Nat → Nat} {bm : Nat → Nat} {Y : va_W} (M : Mx G p s m #[.ref b] meth c cL_law 4 ret0 RL) (X : LX G s b L xs) {i : Nat} (hi : i + 2 < L) (hN : ∀ (so g gB gT gS sh q0 q1 q2 q3 t u : Nat → Nat → Int32) (H : Heap) (locs : List Loc) (ls : Array Slot), J so g gS sh q0 q1 q2 q3 t u → Wd G s (SysW G z so ++ (LegW G (z 1) g ++ (LegW G (z 2) gB ++ (LegW G (z 3) gT ++ (LegW G (z 4) gS ++ (HistW G z sh ++ (LegW G (z 6) q0 ++ (LegW G (z 7) q1 ++ (LegW G (z 8) q2 ++ (LegW G (z 9) q3 ++ (TextW G (z 10) t ++ (ModW G bm u ++ Y)))))))))))) H locs → lv_has ls 4 [(0, .ref b), (1, .ref (z 0 0)), (2, .ref (bm 0)), (3, .int (nI i))] → W p l e room_1 s m #[.ref b] below meth c H locs 102 1261 Q (F0 m 583 ls [])) {so g gB gT gS sh q0 q1 q2 q3 t u : Nat → Nat → Int32} {H : Heap} {locs : List Loc} {ls : Array Slot} (hJ : J so g gS sh q0 q1 q2 q3 t u) (hW : Wd G s (SysW G z so ++ (LegW G (z 1) g ++ (LegW G (z 2) gB ++ (LegW G (z 3) gT ++ (LegW G (z 4) gS ++ (HistW G z sh ++ (LegW G (z 6) q0 ++ (LegW G (z 7) q1 ++ (LegW G (z 8) q2 ++ (LegW G (z 9) q3 ++ (TextW G (z 10) t ++ (ModW G bm u ++ Y)))))))))))) H locs) (hl : lv_has ls 4 [(0, .ref b), (1, .ref (z 0 0)), (2, .ref (bm 0)), (3, .int (nI i))]) : W p l e room_1 s m #[.ref b] below meth c H locs 102 1261 Q (F0 m 527 ls []) := by
  have hx := M.1
  have hb := M.2.1
  refine lv_aload_n hx hb dL_law_527 rfl (lv_at hl 1 rfl) ?_
  refine lv_aload_n hx hb dL_law_528 rfl (lv_at hl 0 rfl) ?_
  refine lv_iload_n hx hb dL_law_529 rfl (lv_at hl 3 rfl) ?_
  refine lv_iconst (v := 1) hx hb dL_law_530 (by decide) ?_
  refine lv_iadd hx hb dL_law_531 ?_
  refine r_top (y := nI (i + 1)) (nI_a1 i) ?_
  refine r_sld M hW X (i + 1) rfl (by omega) dL_law_532 ?_
  refine lv_aload_n hx hb dL_law_533 rfl (lv_at hl 0 rfl) ?_
  refine lv_iload_n hx hb dL_law_534 rfl (lv_at hl 3 rfl) ?_
  refine lv_iconst (v := 2) hx hb dL_law_535 (by decide) ?_
  refine lv_iadd hx hb dL_law_536 ?_
  refine r_top (y := nI (i + 2)) (nI_a2 i) ?_
  refine r_sld M hW X (i + 2) rfl (by omega) dL_law_537 ?_
  refine r_callVi M hW (c_X6_trip l G z so g (xs (i + 1)) (xs (i + 2)) (LegW G (z 2) gB ++ (LegW G (z 3) gT ++ (LegW G (z 4) gS ++ (HistW G z sh ++ (LegW G (z 6) q0 ++ (LegW G (z 7) q1 ++ (LegW G (z 8) q2 ++ (LegW G (z 9) q3 ++ (TextW G (z 10) t ++ (ModW G bm u ++ Y)))))))))) (pj_size hJ)) rfl kw_675 kw_676 kw_677 kw_15 kw_373 pl_X6_trip 0 rfl rfl ⟨Nat.le_of_ble_eq_true rfl, Nat.le_of_ble_eq_true rfl⟩ ⟨Nat.le_of_ble_eq_true rfl, Nat.le_of_ble_eq_true rfl⟩ hl.1 rfl (Nat.le_of_ble_eq_true rfl) dL_law_538 (fun H locs hW => ?_)
  refine lv_aload_n hx hb dL_law_541 rfl (lv_at hl 2 rfl) ?_
  refine lv_aload_n hx hb dL_law_542 rfl (lv_at hl 0 rfl) ?_
  refine lv_iload_n hx hb dL_law_543 rfl (lv_at hl 3 rfl) ?_
  refine lv_iconst (v := 1) hx hb dL_law_544 (by decide) ?_
  refine lv_iadd hx hb dL_law_545 ?_
  refine r_top (y := nI (i + 1)) (nI_a1 i) ?_
  refine r_sld M hW X (i + 1) rfl (by omega) dL_law_546 ?_
  refine lv_aload_n hx hb dL_law_547 rfl (lv_at hl 0 rfl) ?_
  refine lv_iload_n hx hb dL_law_548 rfl (lv_at hl 3 rfl) ?_
  refine lv_iconst (v := 2) hx hb dL_law_549 (by decide) ?_
  refine lv_iadd hx hb dL_law_550 ?_
  refine r_top (y := nI (i + 2)) (nI_a2 i) ?_
  refine r_sld M hW X (i + 2) rfl (by omega) dL_law_551 ?_
  have hW := Wd.f11 hW
  refine r_callVi M hW (c_X7_trip l G bm u (xs (i + 1)) (xs (i + 2)) (SysW G z so ++ (LegW G (z 1) g ++ (LegW G (z 2) gB ++ (LegW G (z 3) gT ++ (LegW G (z 4) gS ++ (HistW G z sh ++ (LegW G (z 6) q0 ++ (LegW G (z 7) q1 ++ (LegW G (z 8) q2 ++ (LegW G (z 9) q3 ++ (TextW G (z 10) t ++ Y))))))))))) (pj_mlog hJ)) rfl kw_678 kw_679 kw_680 kw_412 kw_548 pl_X7_trip 0 rfl rfl ⟨Nat.le_of_ble_eq_true rfl, Nat.le_of_ble_eq_true rfl⟩ ⟨Nat.le_of_ble_eq_true rfl, Nat.le_of_ble_eq_true rfl⟩ hl.1 rfl (Nat.le_of_ble_eq_true rfl) dL_law_552 (fun H locs hW => ?_)
  refine lv_icmp_eq (tgt := 583) hx hb dL_law_555 (by decide) (fun c_555 => ?_) (fun c_555 => ?_)
  · skip
    have hW := Wd.f11 hW
    have hW := Wd.f11 hW
    have hW := Wd.f11 hW
    have hW := Wd.f11 hW
    have hW := Wd.f11 hW
    have hW := Wd.f11 hW
    have hW := Wd.f11 hW
    have hW := Wd.f11 hW
    have hW := Wd.f11 hW
    have hW := Wd.f11 hW
    have hW := Wd.f11 hW
    exact hN _ _ _ _ _ _ _ _ _ _ _ _ _ _ ls (op_trip hJ (xs (i + 1)) (xs (i + 2))).2 hW hl
  · skip
    exact absurd (op_trip hJ (xs (i + 1)) (xs (i + 2))).1 c_555

set_option maxHeartbeats 4000000 in
set_option maxRecDepth 100000 in
/-- the law: count -/
theorem law_20 {p : Program} {l : Launch} {e : Env} {s : State} {m : MethodId} {below : List Frame} {meth : Method} {c : Code} {Q : State → Prop} {G : Gp} {ret0 : Option FieldType} {b L : Nat} {xs : Nat → Int32} {z : Nat → Nat → Nat} {bm : Nat → Nat} {Y : va_W} (M : Mx G p s m #[.ref b] meth c cL_law 4 ret0 RL) (X : LX G s b L xs) {i : Nat} (hi : i + 2 < L) (hN : ∀ (so g gB gT gS sh q0 q1 q2 q3 t u : Nat → Nat → Int32) (H : Heap) (locs : List Loc) (ls : Array Slot), J so g gS sh q0 q1 q2 q3 t u → Wd G s (SysW G z so ++ (LegW G (z 1) g ++ (LegW G (z 2) gB ++ (LegW G (z 3) gT ++ (LegW G (z 4) gS ++ (HistW G z sh ++ (LegW G (z 6) q0 ++ (LegW G (z 7) q1 ++ (LegW G (z 8) q2 ++ (LegW G (z 9) q3 ++ (TextW G (z 10) t ++ (ModW G bm u ++ Y)))))))))))) H locs → lv_has ls 4 [(0, .ref b), (1, .ref (z 0 0)), (2, .ref (bm 0)), (3, .int (nI i))] → W p l e room_1 s m #[.ref b] below meth c H locs 102 1261 Q (F0 m 583 ls [])) {so g gB gT gS sh q0 q1 q2 q3 t u : Nat → Nat → Int32} {H : Heap} {locs : List Loc} {ls : Array Slot} (hJ : J so g gS sh q0 q1 q2 q3 t u) (hW : Wd G s (SysW G z so ++ (LegW G (z 1) g ++ (LegW G (z 2) gB ++ (LegW G (z 3) gT ++ (LegW G (z 4) gS ++ (HistW G z sh ++ (LegW G (z 6) q0 ++ (LegW G (z 7) q1 ++ (LegW G (z 8) q2 ++ (LegW G (z 9) q3 ++ (TextW G (z 10) t ++ (ModW G bm u ++ Y)))))))))))) H locs) (hl : lv_has ls 4 [(0, .ref b), (1, .ref (z 0 0)), (2, .ref (bm 0)), (3, .int (nI i))]) : W p l e room_1 s m #[.ref b] below meth c H locs 102 1261 Q (F0 m 560 ls []) := by
  have hx := M.1
  have hb := M.2.1
  refine lv_aload_n hx hb dL_law_560 rfl (lv_at hl 1 rfl) ?_
  refine lv_aload_n hx hb dL_law_561 rfl (lv_at hl 0 rfl) ?_
  refine lv_iload_n hx hb dL_law_562 rfl (lv_at hl 3 rfl) ?_
  refine lv_iconst (v := 1) hx hb dL_law_563 (by decide) ?_
  refine lv_iadd hx hb dL_law_564 ?_
  refine r_top (y := nI (i + 1)) (nI_a1 i) ?_
  refine r_sld M hW X (i + 1) rfl (by omega) dL_law_565 ?_
  have hW := Wd.f10 hW
  have hW := Wd.f6 hW
  have hW := Wd.f3 hW
  have hW := Wd.f3 hW
  refine r_callVi M hW (c_X6_count l G z so g sh t (xs (i + 1)) (LegW G (z 2) gB ++ (LegW G (z 3) gT ++ (LegW G (z 4) gS ++ (LegW G (z 6) q0 ++ (LegW G (z 7) q1 ++ (LegW G (z 8) q2 ++ (LegW G (z 9) q3 ++ (ModW G bm u ++ Y)))))))) (pj_ok hJ)) rfl kw_681 kw_682 kw_683 kw_15 kw_389 pl_X6_count 0 rfl rfl ⟨Nat.le_of_ble_eq_true rfl, Nat.le_of_ble_eq_true rfl⟩ ⟨Nat.le_of_ble_eq_true rfl, Nat.le_of_ble_eq_true rfl⟩ hl.1 rfl (Nat.le_of_ble_eq_true rfl) dL_law_566 (fun H locs hW => ?_)
  refine lv_aload_n hx hb dL_law_569 rfl (lv_at hl 2 rfl) ?_
  refine lv_aload_n hx hb dL_law_570 rfl (lv_at hl 0 rfl) ?_
  refine lv_iload_n hx hb dL_law_571 rfl (lv_at hl 3 rfl) ?_
  refine lv_iconst (v := 1) hx hb dL_law_572 (by decide) ?_
  refine lv_iadd hx hb dL_law_573 ?_
  refine r_top (y := nI (i + 1)) (nI_a1 i) ?_
  refine r_sld M hW X (i + 1) rfl (by omega) dL_law_574 ?_
  have hW := Wd.f11 hW
  refine r_callVi M hW (c_X7_count l G bm u (xs (i + 1)) (SysW G z so ++ (LegW G (z 1) g ++ (HistW G z sh ++ (TextW G (z 10) t ++ (LegW G (z 2) gB ++ (LegW G (z 3) gT ++ (LegW G (z 4) gS ++ (LegW G (z 6) q0 ++ (LegW G (z 7) q1 ++ (LegW G (z 8) q2 ++ (LegW G (z 9) q3 ++ Y)))))))))))) rfl kw_684 kw_685 kw_686 kw_412 kw_549 pl_X7_count 0 rfl rfl ⟨Nat.le_of_ble_eq_true rfl, Nat.le_of_ble_eq_true rfl⟩ ⟨Nat.le_of_ble_eq_true rfl, Nat.le_of_ble_eq_true rfl⟩ hl.1 rfl (Nat.le_of_ble_eq_true rfl) dL_law_575 (fun H locs hW => ?_)
  refine lv_icmp_eq (tgt := 583) hx hb dL_law_578 (by decide) (fun c_578 => ?_) (fun c_578 => ?_)
  · skip
    have hW := Wd.f4 hW
    have hW := Wd.f11 hW
    have hW := Wd.f11 hW
    have hW := Wd.f11 hW
    have hW := Wd.f11 hW
    have hW := Wd.f8 hW
    have hW := Wd.f11 hW
    have hW := Wd.f11 hW
    have hW := Wd.f11 hW
    have hW := Wd.f11 hW
    have hW := Wd.f11 hW
    exact hN _ _ _ _ _ _ _ _ _ _ _ _ _ _ ls (op_count hJ (xs (i + 1))).2 hW hl
  · skip
    exact absurd (op_count hJ (xs (i + 1))).1 c_578
