set_option maxHeartbeats 4000000 in
set_option maxRecDepth 100000 in
/-- the law: set -/
theorem law_0 {p : Program} {l : Launch} {e : Env} {s : State} {m : MethodId} {below : List Frame} {meth : Method} {c : Code} {Q : State → Prop} {G : Gp} {ret0 : Option FieldType} {b L : Nat} {xs : Nat → Int32} {z : Nat → Nat → Nat} {bm : Nat → Nat} {Y : va_W} (M : Mx G p s m #[.ref b] meth c cL_law 4 ret0 RL) (X : LX G s b L xs) {i : Nat} (hi : i + 2 < L) (hN : ∀ (so g gB gT gS sh q0 q1 q2 q3 t u : Nat → Nat → Int32) (H : Heap) (locs : List Loc) (ls : Array Slot), J so g gS sh q0 q1 q2 q3 t u → Wd G s (SysW G z so ++ (LegW G (z 1) g ++ (LegW G (z 2) gB ++ (LegW G (z 3) gT ++ (LegW G (z 4) gS ++ (HistW G z sh ++ (LegW G (z 6) q0 ++ (LegW G (z 7) q1 ++ (LegW G (z 8) q2 ++ (LegW G (z 9) q3 ++ (TextW G (z 10) t ++ (ModW G bm u ++ Y)))))))))))) H locs → lv_has ls 4 [(0, .ref b), (1, .ref (z 0 0)), (2, .ref (bm 0)), (3, .int (nI i))] → W p l e room_1 s m #[.ref b] below meth c H locs 102 1261 Q (F0 m 583 ls [])) {so g gB gT gS sh q0 q1 q2 q3 t u : Nat → Nat → Int32} {H : Heap} {locs : List Loc} {ls : Array Slot} (hJ : J so g gS sh q0 q1 q2 q3 t u) (hW : Wd G s (SysW G z so ++ (LegW G (z 1) g ++ (LegW G (z 2) gB ++ (LegW G (z 3) gT ++ (LegW G (z 4) gS ++ (HistW G z sh ++ (LegW G (z 6) q0 ++ (LegW G (z 7) q1 ++ (LegW G (z 8) q2 ++ (LegW G (z 9) q3 ++ (TextW G (z 10) t ++ (ModW G bm u ++ Y)))))))))))) H locs) (hl : lv_has ls 4 [(0, .ref b), (1, .ref (z 0 0)), (2, .ref (bm 0)), (3, .int (nI i))]) : W p l e room_1 s m #[.ref b] below meth c H locs 102 1261 Q (F0 m 132 ls []) := by
  have hx := M.1
  have hb := M.2.1
  refine lv_aload_n hx hb dL_law_132 rfl (lv_at hl 1 rfl) ?_
  refine lv_aload_n hx hb dL_law_133 rfl (lv_at hl 0 rfl) ?_
  refine lv_iload_n hx hb dL_law_134 rfl (lv_at hl 3 rfl) ?_
  refine lv_iconst (v := 1) hx hb dL_law_135 (by decide) ?_
  refine lv_iadd hx hb dL_law_136 ?_
  refine r_top (y := nI (i + 1)) (nI_a1 i) ?_
  refine r_sld M hW X (i + 1) rfl (by omega) dL_law_137 ?_
  refine lv_aload_n hx hb dL_law_138 rfl (lv_at hl 0 rfl) ?_
  refine lv_iload_n hx hb dL_law_139 rfl (lv_at hl 3 rfl) ?_
  refine lv_iconst (v := 2) hx hb dL_law_140 (by decide) ?_
  refine lv_iadd hx hb dL_law_141 ?_
  refine r_top (y := nI (i + 2)) (nI_a2 i) ?_
  refine r_sld M hW X (i + 2) rfl (by omega) dL_law_142 ?_
  have hW := Wd.f9 hW
  have hW := Wd.f9 hW
  have hW := Wd.f9 hW
  have hW := Wd.f9 hW
  have hW := Wd.f9 hW
  have hW := Wd.f7 hW
  have hW := Wd.f7 hW
  have hW := Wd.f7 hW
  refine r_callVi M hW (c_X6_set l G z so g gB sh q0 q1 q2 q3 (xs (i + 1)) (xs (i + 2)) (LegW G (z 3) gT ++ (LegW G (z 4) gS ++ (TextW G (z 10) t ++ (ModW G bm u ++ Y)))) (pj_lz hJ) (pj_hok hJ)) rfl kw_561 kw_562 kw_563 kw_15 kw_284 pl_X6_set 0 rfl rfl ⟨Nat.le_of_ble_eq_true rfl, Nat.le_of_ble_eq_true rfl⟩ ⟨Nat.le_of_ble_eq_true rfl, Nat.le_of_ble_eq_true rfl⟩ hl.1 rfl (Nat.le_of_ble_eq_true rfl) dL_law_143 (fun H locs hW => ?_)
  refine lv_aload_n hx hb dL_law_146 rfl (lv_at hl 2 rfl) ?_
  refine lv_aload_n hx hb dL_law_147 rfl (lv_at hl 0 rfl) ?_
  refine lv_iload_n hx hb dL_law_148 rfl (lv_at hl 3 rfl) ?_
  refine lv_iconst (v := 1) hx hb dL_law_149 (by decide) ?_
  refine lv_iadd hx hb dL_law_150 ?_
  refine r_top (y := nI (i + 1)) (nI_a1 i) ?_
  refine r_sld M hW X (i + 1) rfl (by omega) dL_law_151 ?_
  refine lv_aload_n hx hb dL_law_152 rfl (lv_at hl 0 rfl) ?_
  refine lv_iload_n hx hb dL_law_153 rfl (lv_at hl 3 rfl) ?_
  refine lv_iconst (v := 2) hx hb dL_law_154 (by decide) ?_
  refine lv_iadd hx hb dL_law_155 ?_
  refine r_top (y := nI (i + 2)) (nI_a2 i) ?_
  refine r_sld M hW X (i + 2) rfl (by omega) dL_law_156 ?_
  have hW := Wd.f11 hW
  refine r_callVi M hW (c_X7_set l G bm u (xs (i + 1)) (xs (i + 2)) (SysW G z so ++ (LegW G (z 1) (sX6_set2 g (xs (i + 1)) (xs (i + 2))) ++ (LegW G (z 2) (sX6_set3 g) ++ (HistW G z (sX6_set4 g sh (xs (i + 1)) (xs (i + 2))) ++ (LegW G (z 6) (sX6_set5 g sh q0 (xs (i + 1)) (xs (i + 2))) ++ (LegW G (z 7) (sX6_set6 g sh q1 (xs (i + 1)) (xs (i + 2))) ++ (LegW G (z 8) (sX6_set7 g sh q2 (xs (i + 1)) (xs (i + 2))) ++ (LegW G (z 9) (sX6_set8 g sh q3 (xs (i + 1)) (xs (i + 2))) ++ (LegW G (z 3) gT ++ (LegW G (z 4) gS ++ (TextW G (z 10) t ++ Y))))))))))) (pj_msz hJ)) rfl kw_564 kw_565 kw_566 kw_412 kw_452 pl_X7_set 0 rfl rfl ⟨Nat.le_of_ble_eq_true rfl, Nat.le_of_ble_eq_true rfl⟩ ⟨Nat.le_of_ble_eq_true rfl, Nat.le_of_ble_eq_true rfl⟩ hl.1 rfl (Nat.le_of_ble_eq_true rfl) dL_law_157 (fun H locs hW => ?_)
  refine lv_icmp_eq (tgt := 583) hx hb dL_law_160 (by decide) (fun c_160 => ?_) (fun c_160 => ?_)
  · skip
    have hW := Wd.f11 hW
    have hW := Wd.f9 hW
    have hW := Wd.f9 hW
    have hW := Wd.f9 hW
    have hW := Wd.f9 hW
    have hW := Wd.f9 hW
    have hW := Wd.f11 hW
    have hW := Wd.f11 hW
    have hW := Wd.f11 hW
    have hW := Wd.f11 hW
    have hW := Wd.f11 hW
    exact hN _ _ _ _ _ _ _ _ _ _ _ _ _ _ ls (op_set hJ (xs (i + 1)) (xs (i + 2))).2 hW hl
  · skip
    exact absurd (op_set hJ (xs (i + 1)) (xs (i + 2))).1 c_160

set_option maxHeartbeats 4000000 in
set_option maxRecDepth 100000 in
/-- the law: gate -/
theorem law_1 {p : Program} {l : Launch} {e : Env} {s : State} {m : MethodId} {below : List Frame} {meth : Method} {c : Code} {Q : State → Prop} {G : Gp} {ret0 : Option FieldType} {b L : Nat} {xs : Nat → Int32} {z : Nat → Nat → Nat} {bm : Nat → Nat} {Y : va_W} (M : Mx G p s m #[.ref b] meth c cL_law 4 ret0 RL) (X : LX G s b L xs) {i : Nat} (hi : i + 2 < L) (hN : ∀ (so g gB gT gS sh q0 q1 q2 q3 t u : Nat → Nat → Int32) (H : Heap) (locs : List Loc) (ls : Array Slot), J so g gS sh q0 q1 q2 q3 t u → Wd G s (SysW G z so ++ (LegW G (z 1) g ++ (LegW G (z 2) gB ++ (LegW G (z 3) gT ++ (LegW G (z 4) gS ++ (HistW G z sh ++ (LegW G (z 6) q0 ++ (LegW G (z 7) q1 ++ (LegW G (z 8) q2 ++ (LegW G (z 9) q3 ++ (TextW G (z 10) t ++ (ModW G bm u ++ Y)))))))))))) H locs → lv_has ls 4 [(0, .ref b), (1, .ref (z 0 0)), (2, .ref (bm 0)), (3, .int (nI i))] → W p l e room_1 s m #[.ref b] below meth c H locs 102 1261 Q (F0 m 583 ls [])) {so g gB gT gS sh q0 q1 q2 q3 t u : Nat → Nat → Int32} {H : Heap} {locs : List Loc} {ls : Array Slot} (hJ : J so g gS sh q0 q1 q2 q3 t u) (hW : Wd G s (SysW G z so ++ (LegW G (z 1) g ++ (LegW G (z 2) gB ++ (LegW G (z 3) gT ++ (LegW G (z 4) gS ++ (HistW G z sh ++ (LegW G (z 6) q0 ++ (LegW G (z 7) q1 ++ (LegW G (z 8) q2 ++ (LegW G (z 9) q3 ++ (TextW G (z 10) t ++ (ModW G bm u ++ Y)))))))))))) H locs) (hl : lv_has ls 4 [(0, .ref b), (1, .ref (z 0 0)), (2, .ref (bm 0)), (3, .int (nI i))]) : W p l e room_1 s m #[.ref b] below meth c H locs 102 1261 Q (F0 m 165 ls []) := by
  have hx := M.1
  have hb := M.2.1
  refine lv_aload_n hx hb dL_law_165 rfl (lv_at hl 1 rfl) ?_
  refine lv_aload_n hx hb dL_law_166 rfl (lv_at hl 0 rfl) ?_
  refine lv_iload_n hx hb dL_law_167 rfl (lv_at hl 3 rfl) ?_
  refine lv_iconst (v := 1) hx hb dL_law_168 (by decide) ?_
  refine lv_iadd hx hb dL_law_169 ?_
  refine r_top (y := nI (i + 1)) (nI_a1 i) ?_
  refine r_sld M hW X (i + 1) rfl (by omega) dL_law_170 ?_
  refine r_cuti (pc2 := 179) (ls2 := ls) (st := [.ref (z 0 0)]) (if (xs (i + 1)) = 0 then 0 else 1) (fun x_179 hx_179 => ?_) (fun hJ_179 => ?_)
  · skip
    rewrite [hx_179]
    have hW := Wd.f9 hW
    have hW := Wd.f9 hW
    have hW := Wd.f9 hW
    have hW := Wd.f9 hW
    have hW := Wd.f9 hW
    have hW := Wd.f7 hW
    have hW := Wd.f7 hW
    have hW := Wd.f7 hW
    refine r_callVi M hW (c_X6_gate l G z so g gB sh q0 q1 q2 q3 (if (xs (i + 1)) = 0 then 0 else 1) (LegW G (z 3) gT ++ (LegW G (z 4) gS ++ (TextW G (z 10) t ++ (ModW G bm u ++ Y)))) (pj_lz hJ) (b01_01 (xs (i + 1))) (pj_hok hJ)) rfl kw_567 kw_568 kw_569 kw_15 kw_288 pl_X6_gate 0 rfl rfl ⟨Nat.le_of_ble_eq_true rfl, Nat.le_of_ble_eq_true rfl⟩ ⟨Nat.le_of_ble_eq_true rfl, Nat.le_of_ble_eq_true rfl⟩ hl.1 rfl (Nat.le_of_ble_eq_true rfl) dL_law_179 (fun H locs hW => ?_)
    refine lv_aload_n hx hb dL_law_182 rfl (lv_at hl 2 rfl) ?_
    refine lv_aload_n hx hb dL_law_183 rfl (lv_at hl 0 rfl) ?_
    refine lv_iload_n hx hb dL_law_184 rfl (lv_at hl 3 rfl) ?_
    refine lv_iconst (v := 1) hx hb dL_law_185 (by decide) ?_
    refine lv_iadd hx hb dL_law_186 ?_
    refine r_top (y := nI (i + 1)) (nI_a1 i) ?_
    refine r_sld M hW X (i + 1) rfl (by omega) dL_law_187 ?_
    refine r_cuti (pc2 := 196) (ls2 := ls) (st := [.ref (bm 0), .int (rX6_gate g (if (xs (i + 1)) = 0 then 0 else 1))]) (if (xs (i + 1)) = 0 then 0 else 1) (fun x_196 hx_196 => ?_) (fun hJ_196 => ?_)
    · skip
      rewrite [hx_196]
      have hW := Wd.f11 hW
      refine r_callVi M hW (c_X7_gate l G bm u (if (xs (i + 1)) = 0 then 0 else 1) (SysW G z so ++ (LegW G (z 1) (sX6_gate2 g (if (xs (i + 1)) = 0 then 0 else 1)) ++ (LegW G (z 2) (sX6_gate3 g) ++ (HistW G z (sX6_gate4 g sh (if (xs (i + 1)) = 0 then 0 else 1)) ++ (LegW G (z 6) (sX6_gate5 g sh q0 (if (xs (i + 1)) = 0 then 0 else 1)) ++ (LegW G (z 7) (sX6_gate6 g sh q1 (if (xs (i + 1)) = 0 then 0 else 1)) ++ (LegW G (z 8) (sX6_gate7 g sh q2 (if (xs (i + 1)) = 0 then 0 else 1)) ++ (LegW G (z 9) (sX6_gate8 g sh q3 (if (xs (i + 1)) = 0 then 0 else 1)) ++ (LegW G (z 3) gT ++ (LegW G (z 4) gS ++ (TextW G (z 10) t ++ Y))))))))))) (pj_msz hJ)) rfl kw_570 kw_571 kw_572 kw_412 kw_459 pl_X7_gate 0 rfl rfl ⟨Nat.le_of_ble_eq_true rfl, Nat.le_of_ble_eq_true rfl⟩ ⟨Nat.le_of_ble_eq_true rfl, Nat.le_of_ble_eq_true rfl⟩ hl.1 rfl (Nat.le_of_ble_eq_true rfl) dL_law_196 (fun H locs hW => ?_)
      refine lv_icmp_eq (tgt := 583) hx hb dL_law_199 (by decide) (fun c_199 => ?_) (fun c_199 => ?_)
      · skip
        have hW := Wd.f11 hW
        have hW := Wd.f9 hW
        have hW := Wd.f9 hW
        have hW := Wd.f9 hW
        have hW := Wd.f9 hW
        have hW := Wd.f9 hW
        have hW := Wd.f11 hW
        have hW := Wd.f11 hW
        have hW := Wd.f11 hW
        have hW := Wd.f11 hW
        have hW := Wd.f11 hW
        exact hN _ _ _ _ _ _ _ _ _ _ _ _ _ _ ls (op_gate hJ (if xs (i + 1) = 0 then 0 else 1) (b01_01 (xs (i + 1)))).2 hW hl
      · skip
        exact absurd (op_gate hJ (if xs (i + 1) = 0 then 0 else 1) (b01_01 (xs (i + 1)))).1 c_199
    · skip
      refine lv_if_eq (tgt := 195) hx hb dL_law_188 (by decide) (fun c_188 => ?_) (fun c_188 => ?_)
      · skip
        refine lv_iconst (v := 0) hx hb dL_law_195 (by decide) ?_
        exact hJ_196 _ (by rw [if_pos c_188])
      · skip
        refine lv_iconst (v := 1) hx hb dL_law_191 (by decide) ?_
        refine lv_goto (tgt := 196) hx hb dL_law_192 (by decide) ?_
        exact hJ_196 _ (by rw [if_neg c_188])
  · skip
    refine lv_if_eq (tgt := 178) hx hb dL_law_171 (by decide) (fun c_171 => ?_) (fun c_171 => ?_)
    · skip
      refine lv_iconst (v := 0) hx hb dL_law_178 (by decide) ?_
      exact hJ_179 _ (by rw [if_pos c_171])
    · skip
      refine lv_iconst (v := 1) hx hb dL_law_174 (by decide) ?_
      refine lv_goto (tgt := 179) hx hb dL_law_175 (by decide) ?_
      exact hJ_179 _ (by rw [if_neg c_171])

set_option maxHeartbeats 4000000 in
set_option maxRecDepth 100000 in
/-- the law: start -/
theorem law_2 {p : Program} {l : Launch} {e : Env} {s : State} {m : MethodId} {below : List Frame} {meth : Method} {c : Code} {Q : State → Prop} {G : Gp} {ret0 : Option FieldType} {b L : Nat} {xs : Nat → Int32} {z : Nat → Nat → Nat} {bm : Nat → Nat} {Y : va_W} (M : Mx G p s m #[.ref b] meth c cL_law 4 ret0 RL) (X : LX G s b L xs) {i : Nat} (hi : i + 2 < L) (hN : ∀ (so g gB gT gS sh q0 q1 q2 q3 t u : Nat → Nat → Int32) (H : Heap) (locs : List Loc) (ls : Array Slot), J so g gS sh q0 q1 q2 q3 t u → Wd G s (SysW G z so ++ (LegW G (z 1) g ++ (LegW G (z 2) gB ++ (LegW G (z 3) gT ++ (LegW G (z 4) gS ++ (HistW G z sh ++ (LegW G (z 6) q0 ++ (LegW G (z 7) q1 ++ (LegW G (z 8) q2 ++ (LegW G (z 9) q3 ++ (TextW G (z 10) t ++ (ModW G bm u ++ Y)))))))))))) H locs → lv_has ls 4 [(0, .ref b), (1, .ref (z 0 0)), (2, .ref (bm 0)), (3, .int (nI i))] → W p l e room_1 s m #[.ref b] below meth c H locs 102 1261 Q (F0 m 583 ls [])) {so g gB gT gS sh q0 q1 q2 q3 t u : Nat → Nat → Int32} {H : Heap} {locs : List Loc} {ls : Array Slot} (hJ : J so g gS sh q0 q1 q2 q3 t u) (hW : Wd G s (SysW G z so ++ (LegW G (z 1) g ++ (LegW G (z 2) gB ++ (LegW G (z 3) gT ++ (LegW G (z 4) gS ++ (HistW G z sh ++ (LegW G (z 6) q0 ++ (LegW G (z 7) q1 ++ (LegW G (z 8) q2 ++ (LegW G (z 9) q3 ++ (TextW G (z 10) t ++ (ModW G bm u ++ Y)))))))))))) H locs) (hl : lv_has ls 4 [(0, .ref b), (1, .ref (z 0 0)), (2, .ref (bm 0)), (3, .int (nI i))]) : W p l e room_1 s m #[.ref b] below meth c H locs 102 1261 Q (F0 m 204 ls []) := by
  have hx := M.1
  have hb := M.2.1
  refine lv_aload_n hx hb dL_law_204 rfl (lv_at hl 1 rfl) ?_
  have hW := Wd.f9 hW
  have hW := Wd.f9 hW
  have hW := Wd.f9 hW
  have hW := Wd.f9 hW
  have hW := Wd.f9 hW
  have hW := Wd.f7 hW
  have hW := Wd.f7 hW
  have hW := Wd.f7 hW
  refine r_callVi M hW (c_X6_start l G z so g gB sh q0 q1 q2 q3  (LegW G (z 3) gT ++ (LegW G (z 4) gS ++ (TextW G (z 10) t ++ (ModW G bm u ++ Y)))) (pj_lz hJ) (pj_ok hJ) (pj_hok hJ)) rfl kw_573 kw_574 kw_575 kw_15 kw_292 pl_X6_start 0 rfl rfl ⟨Nat.le_of_ble_eq_true rfl, Nat.le_of_ble_eq_true rfl⟩ ⟨Nat.le_of_ble_eq_true rfl, Nat.le_of_ble_eq_true rfl⟩ hl.1 rfl (Nat.le_of_ble_eq_true rfl) dL_law_205 (fun H locs hW => ?_)
  refine lv_aload_n hx hb dL_law_208 rfl (lv_at hl 2 rfl) ?_
  have hW := Wd.f11 hW
  refine r_callVi M hW (c_X7_start l G bm u  (SysW G z so ++ (LegW G (z 1) (sX6_start2 g) ++ (LegW G (z 2) (sX6_start3 g) ++ (HistW G z (sX6_start4 g sh) ++ (LegW G (z 6) (sX6_start5 g sh q0) ++ (LegW G (z 7) (sX6_start6 g sh q1) ++ (LegW G (z 8) (sX6_start7 g sh q2) ++ (LegW G (z 9) (sX6_start8 g sh q3) ++ (LegW G (z 3) gT ++ (LegW G (z 4) gS ++ (TextW G (z 10) t ++ Y))))))))))) (pj_msz hJ)) rfl kw_576 kw_577 kw_578 kw_412 kw_463 pl_X7_start 0 rfl rfl ⟨Nat.le_of_ble_eq_true rfl, Nat.le_of_ble_eq_true rfl⟩ ⟨Nat.le_of_ble_eq_true rfl, Nat.le_of_ble_eq_true rfl⟩ hl.1 rfl (Nat.le_of_ble_eq_true rfl) dL_law_209 (fun H locs hW => ?_)
  refine lv_icmp_eq (tgt := 583) hx hb dL_law_212 (by decide) (fun c_212 => ?_) (fun c_212 => ?_)
  · skip
    have hW := Wd.f11 hW
    have hW := Wd.f9 hW
    have hW := Wd.f9 hW
    have hW := Wd.f9 hW
    have hW := Wd.f9 hW
    have hW := Wd.f9 hW
    have hW := Wd.f11 hW
    have hW := Wd.f11 hW
    have hW := Wd.f11 hW
    have hW := Wd.f11 hW
    have hW := Wd.f11 hW
    exact hN _ _ _ _ _ _ _ _ _ _ _ _ _ _ ls (op_start hJ).2 hW hl
  · skip
    exact absurd (op_start hJ).1 c_212

set_option maxHeartbeats 4000000 in
set_option maxRecDepth 100000 in
/-- the law: stop -/
theorem law_3 {p : Program} {l : Launch} {e : Env} {s : State} {m : MethodId} {below : List Frame} {meth : Method} {c : Code} {Q : State → Prop} {G : Gp} {ret0 : Option FieldType} {b L : Nat} {xs : Nat → Int32} {z : Nat → Nat → Nat} {bm : Nat → Nat} {Y : va_W} (M : Mx G p s m #[.ref b] meth c cL_law 4 ret0 RL) (X : LX G s b L xs) {i : Nat} (hi : i + 2 < L) (hN : ∀ (so g gB gT gS sh q0 q1 q2 q3 t u : Nat → Nat → Int32) (H : Heap) (locs : List Loc) (ls : Array Slot), J so g gS sh q0 q1 q2 q3 t u → Wd G s (SysW G z so ++ (LegW G (z 1) g ++ (LegW G (z 2) gB ++ (LegW G (z 3) gT ++ (LegW G (z 4) gS ++ (HistW G z sh ++ (LegW G (z 6) q0 ++ (LegW G (z 7) q1 ++ (LegW G (z 8) q2 ++ (LegW G (z 9) q3 ++ (TextW G (z 10) t ++ (ModW G bm u ++ Y)))))))))))) H locs → lv_has ls 4 [(0, .ref b), (1, .ref (z 0 0)), (2, .ref (bm 0)), (3, .int (nI i))] → W p l e room_1 s m #[.ref b] below meth c H locs 102 1261 Q (F0 m 583 ls [])) {so g gB gT gS sh q0 q1 q2 q3 t u : Nat → Nat → Int32} {H : Heap} {locs : List Loc} {ls : Array Slot} (hJ : J so g gS sh q0 q1 q2 q3 t u) (hW : Wd G s (SysW G z so ++ (LegW G (z 1) g ++ (LegW G (z 2) gB ++ (LegW G (z 3) gT ++ (LegW G (z 4) gS ++ (HistW G z sh ++ (LegW G (z 6) q0 ++ (LegW G (z 7) q1 ++ (LegW G (z 8) q2 ++ (LegW G (z 9) q3 ++ (TextW G (z 10) t ++ (ModW G bm u ++ Y)))))))))))) H locs) (hl : lv_has ls 4 [(0, .ref b), (1, .ref (z 0 0)), (2, .ref (bm 0)), (3, .int (nI i))]) : W p l e room_1 s m #[.ref b] below meth c H locs 102 1261 Q (F0 m 217 ls []) := by
  have hx := M.1
  have hb := M.2.1
  refine lv_aload_n hx hb dL_law_217 rfl (lv_at hl 1 rfl) ?_
  have hW := Wd.f9 hW
  have hW := Wd.f9 hW
  have hW := Wd.f9 hW
  have hW := Wd.f9 hW
  have hW := Wd.f9 hW
  have hW := Wd.f7 hW
  have hW := Wd.f7 hW
  have hW := Wd.f7 hW
  refine r_callVi M hW (c_X6_stop l G z so g gB sh q0 q1 q2 q3  (LegW G (z 3) gT ++ (LegW G (z 4) gS ++ (TextW G (z 10) t ++ (ModW G bm u ++ Y)))) (pj_lz hJ) (pj_hok hJ)) rfl kw_579 kw_580 kw_581 kw_15 kw_296 pl_X6_stop 0 rfl rfl ⟨Nat.le_of_ble_eq_true rfl, Nat.le_of_ble_eq_true rfl⟩ ⟨Nat.le_of_ble_eq_true rfl, Nat.le_of_ble_eq_true rfl⟩ hl.1 rfl (Nat.le_of_ble_eq_true rfl) dL_law_218 (fun H locs hW => ?_)
  refine lv_aload_n hx hb dL_law_221 rfl (lv_at hl 2 rfl) ?_
  have hW := Wd.f11 hW
  refine r_callVi M hW (c_X7_stop l G bm u  (SysW G z so ++ (LegW G (z 1) (sX6_stop2 g) ++ (LegW G (z 2) (sX6_stop3 g) ++ (HistW G z (sX6_stop4 g sh) ++ (LegW G (z 6) (sX6_stop5 g sh q0) ++ (LegW G (z 7) (sX6_stop6 g sh q1) ++ (LegW G (z 8) (sX6_stop7 g sh q2) ++ (LegW G (z 9) (sX6_stop8 g sh q3) ++ (LegW G (z 3) gT ++ (LegW G (z 4) gS ++ (TextW G (z 10) t ++ Y))))))))))) (pj_msz hJ)) rfl kw_582 kw_583 kw_584 kw_412 kw_467 pl_X7_stop 0 rfl rfl ⟨Nat.le_of_ble_eq_true rfl, Nat.le_of_ble_eq_true rfl⟩ ⟨Nat.le_of_ble_eq_true rfl, Nat.le_of_ble_eq_true rfl⟩ hl.1 rfl (Nat.le_of_ble_eq_true rfl) dL_law_222 (fun H locs hW => ?_)
  refine lv_icmp_eq (tgt := 583) hx hb dL_law_225 (by decide) (fun c_225 => ?_) (fun c_225 => ?_)
  · skip
    have hW := Wd.f11 hW
    have hW := Wd.f9 hW
    have hW := Wd.f9 hW
    have hW := Wd.f9 hW
    have hW := Wd.f9 hW
    have hW := Wd.f9 hW
    have hW := Wd.f11 hW
    have hW := Wd.f11 hW
    have hW := Wd.f11 hW
    have hW := Wd.f11 hW
    have hW := Wd.f11 hW
    exact hN _ _ _ _ _ _ _ _ _ _ _ _ _ _ ls (op_stop hJ).2 hW hl
  · skip
    exact absurd (op_stop hJ).1 c_225

set_option maxHeartbeats 4000000 in
set_option maxRecDepth 100000 in
/-- the law: reset -/
theorem law_4 {p : Program} {l : Launch} {e : Env} {s : State} {m : MethodId} {below : List Frame} {meth : Method} {c : Code} {Q : State → Prop} {G : Gp} {ret0 : Option FieldType} {b L : Nat} {xs : Nat → Int32} {z : Nat → Nat → Nat} {bm : Nat → Nat} {Y : va_W} (M : Mx G p s m #[.ref b] meth c cL_law 4 ret0 RL) (X : LX G s b L xs) {i : Nat} (hi : i + 2 < L) (hN : ∀ (so g gB gT gS sh q0 q1 q2 q3 t u : Nat → Nat → Int32) (H : Heap) (locs : List Loc) (ls : Array Slot), J so g gS sh q0 q1 q2 q3 t u → Wd G s (SysW G z so ++ (LegW G (z 1) g ++ (LegW G (z 2) gB ++ (LegW G (z 3) gT ++ (LegW G (z 4) gS ++ (HistW G z sh ++ (LegW G (z 6) q0 ++ (LegW G (z 7) q1 ++ (LegW G (z 8) q2 ++ (LegW G (z 9) q3 ++ (TextW G (z 10) t ++ (ModW G bm u ++ Y)))))))))))) H locs → lv_has ls 4 [(0, .ref b), (1, .ref (z 0 0)), (2, .ref (bm 0)), (3, .int (nI i))] → W p l e room_1 s m #[.ref b] below meth c H locs 102 1261 Q (F0 m 583 ls [])) {so g gB gT gS sh q0 q1 q2 q3 t u : Nat → Nat → Int32} {H : Heap} {locs : List Loc} {ls : Array Slot} (hJ : J so g gS sh q0 q1 q2 q3 t u) (hW : Wd G s (SysW G z so ++ (LegW G (z 1) g ++ (LegW G (z 2) gB ++ (LegW G (z 3) gT ++ (LegW G (z 4) gS ++ (HistW G z sh ++ (LegW G (z 6) q0 ++ (LegW G (z 7) q1 ++ (LegW G (z 8) q2 ++ (LegW G (z 9) q3 ++ (TextW G (z 10) t ++ (ModW G bm u ++ Y)))))))))))) H locs) (hl : lv_has ls 4 [(0, .ref b), (1, .ref (z 0 0)), (2, .ref (bm 0)), (3, .int (nI i))]) : W p l e room_1 s m #[.ref b] below meth c H locs 102 1261 Q (F0 m 230 ls []) := by
  have hx := M.1
  have hb := M.2.1
  refine lv_aload_n hx hb dL_law_230 rfl (lv_at hl 1 rfl) ?_
  have hW := Wd.f9 hW
  have hW := Wd.f9 hW
  have hW := Wd.f9 hW
  have hW := Wd.f9 hW
  have hW := Wd.f9 hW
  have hW := Wd.f7 hW
  have hW := Wd.f7 hW
  have hW := Wd.f7 hW
  refine r_callVi M hW (c_X6_reset l G z so g gB sh q0 q1 q2 q3  (LegW G (z 3) gT ++ (LegW G (z 4) gS ++ (TextW G (z 10) t ++ (ModW G bm u ++ Y)))) (pj_lz hJ) (pj_ok hJ) (pj_hok hJ)) rfl kw_585 kw_586 kw_587 kw_15 kw_300 pl_X6_reset 0 rfl rfl ⟨Nat.le_of_ble_eq_true rfl, Nat.le_of_ble_eq_true rfl⟩ ⟨Nat.le_of_ble_eq_true rfl, Nat.le_of_ble_eq_true rfl⟩ hl.1 rfl (Nat.le_of_ble_eq_true rfl) dL_law_231 (fun H locs hW => ?_)
  refine lv_aload_n hx hb dL_law_234 rfl (lv_at hl 2 rfl) ?_
  have hW := Wd.f11 hW
  refine r_callVi M hW (c_X7_reset l G bm u  (SysW G z so ++ (LegW G (z 1) (sX6_reset2 g) ++ (LegW G (z 2) (sX6_reset3 g) ++ (HistW G z (sX6_reset4 g sh) ++ (LegW G (z 6) (sX6_reset5 g sh q0) ++ (LegW G (z 7) (sX6_reset6 g sh q1) ++ (LegW G (z 8) (sX6_reset7 g sh q2) ++ (LegW G (z 9) (sX6_reset8 g sh q3) ++ (LegW G (z 3) gT ++ (LegW G (z 4) gS ++ (TextW G (z 10) t ++ Y))))))))))) (pj_msz hJ)) rfl kw_588 kw_589 kw_590 kw_412 kw_471 pl_X7_reset 0 rfl rfl ⟨Nat.le_of_ble_eq_true rfl, Nat.le_of_ble_eq_true rfl⟩ ⟨Nat.le_of_ble_eq_true rfl, Nat.le_of_ble_eq_true rfl⟩ hl.1 rfl (Nat.le_of_ble_eq_true rfl) dL_law_235 (fun H locs hW => ?_)
  refine lv_icmp_eq (tgt := 583) hx hb dL_law_238 (by decide) (fun c_238 => ?_) (fun c_238 => ?_)
  · skip
    have hW := Wd.f11 hW
    have hW := Wd.f9 hW
    have hW := Wd.f9 hW
    have hW := Wd.f9 hW
    have hW := Wd.f9 hW
    have hW := Wd.f9 hW
    have hW := Wd.f11 hW
    have hW := Wd.f11 hW
    have hW := Wd.f11 hW
    have hW := Wd.f11 hW
    have hW := Wd.f11 hW
    exact hN _ _ _ _ _ _ _ _ _ _ _ _ _ _ ls (op_reset hJ).2 hW hl
  · skip
    exact absurd (op_reset hJ).1 c_238

set_option maxHeartbeats 4000000 in
set_option maxRecDepth 100000 in
/-- the law: clean -/
theorem law_5 {p : Program} {l : Launch} {e : Env} {s : State} {m : MethodId} {below : List Frame} {meth : Method} {c : Code} {Q : State → Prop} {G : Gp} {ret0 : Option FieldType} {b L : Nat} {xs : Nat → Int32} {z : Nat → Nat → Nat} {bm : Nat → Nat} {Y : va_W} (M : Mx G p s m #[.ref b] meth c cL_law 4 ret0 RL) (X : LX G s b L xs) {i : Nat} (hi : i + 2 < L) (hN : ∀ (so g gB gT gS sh q0 q1 q2 q3 t u : Nat → Nat → Int32) (H : Heap) (locs : List Loc) (ls : Array Slot), J so g gS sh q0 q1 q2 q3 t u → Wd G s (SysW G z so ++ (LegW G (z 1) g ++ (LegW G (z 2) gB ++ (LegW G (z 3) gT ++ (LegW G (z 4) gS ++ (HistW G z sh ++ (LegW G (z 6) q0 ++ (LegW G (z 7) q1 ++ (LegW G (z 8) q2 ++ (LegW G (z 9) q3 ++ (TextW G (z 10) t ++ (ModW G bm u ++ Y)))))))))))) H locs → lv_has ls 4 [(0, .ref b), (1, .ref (z 0 0)), (2, .ref (bm 0)), (3, .int (nI i))] → W p l e room_1 s m #[.ref b] below meth c H locs 102 1261 Q (F0 m 583 ls [])) {so g gB gT gS sh q0 q1 q2 q3 t u : Nat → Nat → Int32} {H : Heap} {locs : List Loc} {ls : Array Slot} (hJ : J so g gS sh q0 q1 q2 q3 t u) (hW : Wd G s (SysW G z so ++ (LegW G (z 1) g ++ (LegW G (z 2) gB ++ (LegW G (z 3) gT ++ (LegW G (z 4) gS ++ (HistW G z sh ++ (LegW G (z 6) q0 ++ (LegW G (z 7) q1 ++ (LegW G (z 8) q2 ++ (LegW G (z 9) q3 ++ (TextW G (z 10) t ++ (ModW G bm u ++ Y)))))))))))) H locs) (hl : lv_has ls 4 [(0, .ref b), (1, .ref (z 0 0)), (2, .ref (bm 0)), (3, .int (nI i))]) : W p l e room_1 s m #[.ref b] below meth c H locs 102 1261 Q (F0 m 243 ls []) := by
  have hx := M.1
  have hb := M.2.1
  refine lv_aload_n hx hb dL_law_243 rfl (lv_at hl 1 rfl) ?_
  refine lv_aload_n hx hb dL_law_244 rfl (lv_at hl 0 rfl) ?_
  refine lv_iload_n hx hb dL_law_245 rfl (lv_at hl 3 rfl) ?_
  refine lv_iconst (v := 1) hx hb dL_law_246 (by decide) ?_
  refine lv_iadd hx hb dL_law_247 ?_
  refine r_top (y := nI (i + 1)) (nI_a1 i) ?_
  refine r_sld M hW X (i + 1) rfl (by omega) dL_law_248 ?_
  have hW := Wd.f9 hW
  have hW := Wd.f9 hW
  have hW := Wd.f9 hW
  have hW := Wd.f9 hW
  have hW := Wd.f9 hW
  have hW := Wd.f7 hW
  have hW := Wd.f7 hW
  have hW := Wd.f7 hW
  refine r_callVi M hW (c_X6_clean l G z so g gB sh q0 q1 q2 q3 (xs (i + 1)) (LegW G (z 3) gT ++ (LegW G (z 4) gS ++ (TextW G (z 10) t ++ (ModW G bm u ++ Y)))) (pj_lz hJ) (pj_hok hJ)) rfl kw_591 kw_592 kw_593 kw_15 kw_304 pl_X6_clean 0 rfl rfl ⟨Nat.le_of_ble_eq_true rfl, Nat.le_of_ble_eq_true rfl⟩ ⟨Nat.le_of_ble_eq_true rfl, Nat.le_of_ble_eq_true rfl⟩ hl.1 rfl (Nat.le_of_ble_eq_true rfl) dL_law_249 (fun H locs hW => ?_)
  refine lv_aload_n hx hb dL_law_252 rfl (lv_at hl 2 rfl) ?_
  refine lv_aload_n hx hb dL_law_253 rfl (lv_at hl 0 rfl) ?_
  refine lv_iload_n hx hb dL_law_254 rfl (lv_at hl 3 rfl) ?_
  refine lv_iconst (v := 1) hx hb dL_law_255 (by decide) ?_
  refine lv_iadd hx hb dL_law_256 ?_
  refine r_top (y := nI (i + 1)) (nI_a1 i) ?_
  refine r_sld M hW X (i + 1) rfl (by omega) dL_law_257 ?_
  have hW := Wd.f11 hW
  refine r_callVi M hW (c_X7_clean l G bm u (xs (i + 1)) (SysW G z so ++ (LegW G (z 1) (sX6_clean2 g (xs (i + 1))) ++ (LegW G (z 2) (sX6_clean3 g) ++ (HistW G z (sX6_clean4 g sh (xs (i + 1))) ++ (LegW G (z 6) (sX6_clean5 g sh q0 (xs (i + 1))) ++ (LegW G (z 7) (sX6_clean6 g sh q1 (xs (i + 1))) ++ (LegW G (z 8) (sX6_clean7 g sh q2 (xs (i + 1))) ++ (LegW G (z 9) (sX6_clean8 g sh q3 (xs (i + 1))) ++ (LegW G (z 3) gT ++ (LegW G (z 4) gS ++ (TextW G (z 10) t ++ Y))))))))))) (pj_msz hJ)) rfl kw_594 kw_595 kw_596 kw_412 kw_475 pl_X7_clean 0 rfl rfl ⟨Nat.le_of_ble_eq_true rfl, Nat.le_of_ble_eq_true rfl⟩ ⟨Nat.le_of_ble_eq_true rfl, Nat.le_of_ble_eq_true rfl⟩ hl.1 rfl (Nat.le_of_ble_eq_true rfl) dL_law_258 (fun H locs hW => ?_)
  refine lv_icmp_eq (tgt := 583) hx hb dL_law_261 (by decide) (fun c_261 => ?_) (fun c_261 => ?_)
  · skip
    have hW := Wd.f11 hW
    have hW := Wd.f9 hW
    have hW := Wd.f9 hW
    have hW := Wd.f9 hW
    have hW := Wd.f9 hW
    have hW := Wd.f9 hW
    have hW := Wd.f11 hW
    have hW := Wd.f11 hW
    have hW := Wd.f11 hW
    have hW := Wd.f11 hW
    have hW := Wd.f11 hW
    exact hN _ _ _ _ _ _ _ _ _ _ _ _ _ _ ls (op_clean hJ (xs (i + 1))).2 hW hl
  · skip
    exact absurd (op_clean hJ (xs (i + 1))).1 c_261

set_option maxHeartbeats 4000000 in
set_option maxRecDepth 100000 in
/-- the law: run -/
theorem law_6 {p : Program} {l : Launch} {e : Env} {s : State} {m : MethodId} {below : List Frame} {meth : Method} {c : Code} {Q : State → Prop} {G : Gp} {ret0 : Option FieldType} {b L : Nat} {xs : Nat → Int32} {z : Nat → Nat → Nat} {bm : Nat → Nat} {Y : va_W} (M : Mx G p s m #[.ref b] meth c cL_law 4 ret0 RL) (X : LX G s b L xs) {i : Nat} (hi : i + 2 < L) (hN : ∀ (so g gB gT gS sh q0 q1 q2 q3 t u : Nat → Nat → Int32) (H : Heap) (locs : List Loc) (ls : Array Slot), J so g gS sh q0 q1 q2 q3 t u → Wd G s (SysW G z so ++ (LegW G (z 1) g ++ (LegW G (z 2) gB ++ (LegW G (z 3) gT ++ (LegW G (z 4) gS ++ (HistW G z sh ++ (LegW G (z 6) q0 ++ (LegW G (z 7) q1 ++ (LegW G (z 8) q2 ++ (LegW G (z 9) q3 ++ (TextW G (z 10) t ++ (ModW G bm u ++ Y)))))))))))) H locs → lv_has ls 4 [(0, .ref b), (1, .ref (z 0 0)), (2, .ref (bm 0)), (3, .int (nI i))] → W p l e room_1 s m #[.ref b] below meth c H locs 102 1261 Q (F0 m 583 ls [])) {so g gB gT gS sh q0 q1 q2 q3 t u : Nat → Nat → Int32} {H : Heap} {locs : List Loc} {ls : Array Slot} (hJ : J so g gS sh q0 q1 q2 q3 t u) (hW : Wd G s (SysW G z so ++ (LegW G (z 1) g ++ (LegW G (z 2) gB ++ (LegW G (z 3) gT ++ (LegW G (z 4) gS ++ (HistW G z sh ++ (LegW G (z 6) q0 ++ (LegW G (z 7) q1 ++ (LegW G (z 8) q2 ++ (LegW G (z 9) q3 ++ (TextW G (z 10) t ++ (ModW G bm u ++ Y)))))))))))) H locs) (hl : lv_has ls 4 [(0, .ref b), (1, .ref (z 0 0)), (2, .ref (bm 0)), (3, .int (nI i))]) : W p l e room_1 s m #[.ref b] below meth c H locs 102 1261 Q (F0 m 266 ls []) := by
  have hx := M.1
  have hb := M.2.1
  refine lv_aload_n hx hb dL_law_266 rfl (lv_at hl 1 rfl) ?_
  refine lv_aload_n hx hb dL_law_267 rfl (lv_at hl 0 rfl) ?_
  refine lv_iload_n hx hb dL_law_268 rfl (lv_at hl 3 rfl) ?_
  refine lv_iconst (v := 1) hx hb dL_law_269 (by decide) ?_
  refine lv_iadd hx hb dL_law_270 ?_
  refine r_top (y := nI (i + 1)) (nI_a1 i) ?_
  refine r_sld M hW X (i + 1) rfl (by omega) dL_law_271 ?_
  have hW := Wd.f9 hW
  have hW := Wd.f9 hW
  have hW := Wd.f9 hW
  have hW := Wd.f9 hW
  have hW := Wd.f9 hW
  have hW := Wd.f7 hW
  have hW := Wd.f7 hW
  have hW := Wd.f7 hW
  refine r_callVi M hW (c_X6_run l G z so g gB sh q0 q1 q2 q3 (xs (i + 1)) (LegW G (z 3) gT ++ (LegW G (z 4) gS ++ (TextW G (z 10) t ++ (ModW G bm u ++ Y)))) (pj_lz hJ) (pj_ok hJ) (pj_hok hJ)) rfl kw_597 kw_598 kw_599 kw_15 kw_308 pl_X6_run 0 rfl rfl ⟨Nat.le_of_ble_eq_true rfl, Nat.le_of_ble_eq_true rfl⟩ ⟨Nat.le_of_ble_eq_true rfl, Nat.le_of_ble_eq_true rfl⟩ hl.1 rfl (Nat.le_of_ble_eq_true rfl) dL_law_272 (fun H locs hW => ?_)
  refine lv_aload_n hx hb dL_law_275 rfl (lv_at hl 2 rfl) ?_
  refine lv_aload_n hx hb dL_law_276 rfl (lv_at hl 0 rfl) ?_
  refine lv_iload_n hx hb dL_law_277 rfl (lv_at hl 3 rfl) ?_
  refine lv_iconst (v := 1) hx hb dL_law_278 (by decide) ?_
  refine lv_iadd hx hb dL_law_279 ?_
  refine r_top (y := nI (i + 1)) (nI_a1 i) ?_
  refine r_sld M hW X (i + 1) rfl (by omega) dL_law_280 ?_
  have hW := Wd.f11 hW
  refine r_callVi M hW (c_X7_run l G bm u (xs (i + 1)) (SysW G z so ++ (LegW G (z 1) (sX6_run2 g (xs (i + 1))) ++ (LegW G (z 2) (sX6_run3 g) ++ (HistW G z (sX6_run4 g sh (xs (i + 1))) ++ (LegW G (z 6) (sX6_run5 g sh q0 (xs (i + 1))) ++ (LegW G (z 7) (sX6_run6 g sh q1 (xs (i + 1))) ++ (LegW G (z 8) (sX6_run7 g sh q2 (xs (i + 1))) ++ (LegW G (z 9) (sX6_run8 g sh q3 (xs (i + 1))) ++ (LegW G (z 3) gT ++ (LegW G (z 4) gS ++ (TextW G (z 10) t ++ Y))))))))))) (pj_msz hJ)) rfl kw_600 kw_601 kw_602 kw_412 kw_482 pl_X7_run 0 rfl rfl ⟨Nat.le_of_ble_eq_true rfl, Nat.le_of_ble_eq_true rfl⟩ ⟨Nat.le_of_ble_eq_true rfl, Nat.le_of_ble_eq_true rfl⟩ hl.1 rfl (Nat.le_of_ble_eq_true rfl) dL_law_281 (fun H locs hW => ?_)
  refine lv_icmp_eq (tgt := 583) hx hb dL_law_284 (by decide) (fun c_284 => ?_) (fun c_284 => ?_)
  · skip
    have hW := Wd.f11 hW
    have hW := Wd.f9 hW
    have hW := Wd.f9 hW
    have hW := Wd.f9 hW
    have hW := Wd.f9 hW
    have hW := Wd.f9 hW
    have hW := Wd.f11 hW
    have hW := Wd.f11 hW
    have hW := Wd.f11 hW
    have hW := Wd.f11 hW
    have hW := Wd.f11 hW
    exact hN _ _ _ _ _ _ _ _ _ _ _ _ _ _ ls (op_run hJ (xs (i + 1))).2 hW hl
  · skip
    exact absurd (op_run hJ (xs (i + 1))).1 c_284

set_option maxHeartbeats 4000000 in
set_option maxRecDepth 100000 in
/-- the law: type -/
theorem law_7 {p : Program} {l : Launch} {e : Env} {s : State} {m : MethodId} {below : List Frame} {meth : Method} {c : Code} {Q : State → Prop} {G : Gp} {ret0 : Option FieldType} {b L : Nat} {xs : Nat → Int32} {z : Nat → Nat → Nat} {bm : Nat → Nat} {Y : va_W} (M : Mx G p s m #[.ref b] meth c cL_law 4 ret0 RL) (X : LX G s b L xs) {i : Nat} (hi : i + 2 < L) (hN : ∀ (so g gB gT gS sh q0 q1 q2 q3 t u : Nat → Nat → Int32) (H : Heap) (locs : List Loc) (ls : Array Slot), J so g gS sh q0 q1 q2 q3 t u → Wd G s (SysW G z so ++ (LegW G (z 1) g ++ (LegW G (z 2) gB ++ (LegW G (z 3) gT ++ (LegW G (z 4) gS ++ (HistW G z sh ++ (LegW G (z 6) q0 ++ (LegW G (z 7) q1 ++ (LegW G (z 8) q2 ++ (LegW G (z 9) q3 ++ (TextW G (z 10) t ++ (ModW G bm u ++ Y)))))))))))) H locs → lv_has ls 4 [(0, .ref b), (1, .ref (z 0 0)), (2, .ref (bm 0)), (3, .int (nI i))] → W p l e room_1 s m #[.ref b] below meth c H locs 102 1261 Q (F0 m 583 ls [])) {so g gB gT gS sh q0 q1 q2 q3 t u : Nat → Nat → Int32} {H : Heap} {locs : List Loc} {ls : Array Slot} (hJ : J so g gS sh q0 q1 q2 q3 t u) (hW : Wd G s (SysW G z so ++ (LegW G (z 1) g ++ (LegW G (z 2) gB ++ (LegW G (z 3) gT ++ (LegW G (z 4) gS ++ (HistW G z sh ++ (LegW G (z 6) q0 ++ (LegW G (z 7) q1 ++ (LegW G (z 8) q2 ++ (LegW G (z 9) q3 ++ (TextW G (z 10) t ++ (ModW G bm u ++ Y)))))))))))) H locs) (hl : lv_has ls 4 [(0, .ref b), (1, .ref (z 0 0)), (2, .ref (bm 0)), (3, .int (nI i))]) : W p l e room_1 s m #[.ref b] below meth c H locs 102 1261 Q (F0 m 289 ls []) := by
  have hx := M.1
  have hb := M.2.1
  refine lv_aload_n hx hb dL_law_289 rfl (lv_at hl 1 rfl) ?_
  refine lv_aload_n hx hb dL_law_290 rfl (lv_at hl 0 rfl) ?_
  refine lv_iload_n hx hb dL_law_291 rfl (lv_at hl 3 rfl) ?_
  refine lv_iconst (v := 1) hx hb dL_law_292 (by decide) ?_
  refine lv_iadd hx hb dL_law_293 ?_
  refine r_top (y := nI (i + 1)) (nI_a1 i) ?_
  refine r_sld M hW X (i + 1) rfl (by omega) dL_law_294 ?_
  refine lv_i2c (v := ch (xs (i + 1))) hx hb dL_law_295 rfl ?_
  have hW := Wd.f10 hW
  have hW := Wd.f1 hW
  refine r_callVi M hW (c_X6_type l G z so t (ch (xs (i + 1))) (LegW G (z 1) g ++ (LegW G (z 2) gB ++ (LegW G (z 3) gT ++ (LegW G (z 4) gS ++ (HistW G z sh ++ (LegW G (z 6) q0 ++ (LegW G (z 7) q1 ++ (LegW G (z 8) q2 ++ (LegW G (z 9) q3 ++ (ModW G bm u ++ Y)))))))))) (ch_nar _)) rfl kw_603 kw_604 kw_605 kw_15 kw_309 pl_X6_type 0 rfl rfl ⟨Nat.le_of_ble_eq_true rfl, Nat.le_of_ble_eq_true rfl⟩ ⟨Nat.le_of_ble_eq_true rfl, Nat.le_of_ble_eq_true rfl⟩ hl.1 rfl (Nat.le_of_ble_eq_true rfl) dL_law_296 (fun H locs hW => ?_)
  refine lv_aload_n hx hb dL_law_299 rfl (lv_at hl 2 rfl) ?_
  refine lv_aload_n hx hb dL_law_300 rfl (lv_at hl 0 rfl) ?_
  refine lv_iload_n hx hb dL_law_301 rfl (lv_at hl 3 rfl) ?_
  refine lv_iconst (v := 1) hx hb dL_law_302 (by decide) ?_
  refine lv_iadd hx hb dL_law_303 ?_
  refine r_top (y := nI (i + 1)) (nI_a1 i) ?_
  refine r_sld M hW X (i + 1) rfl (by omega) dL_law_304 ?_
  refine lv_i2c (v := ch (xs (i + 1))) hx hb dL_law_305 rfl ?_
  have hW := Wd.f11 hW
  refine r_callVi M hW (c_X7_type l G bm u (ch (xs (i + 1))) (SysW G z so ++ (TextW G (z 10) (sX6_type2 t (ch (xs (i + 1)))) ++ (LegW G (z 1) g ++ (LegW G (z 2) gB ++ (LegW G (z 3) gT ++ (LegW G (z 4) gS ++ (HistW G z sh ++ (LegW G (z 6) q0 ++ (LegW G (z 7) q1 ++ (LegW G (z 8) q2 ++ (LegW G (z 9) q3 ++ Y))))))))))) (pj_mlen hJ)) rfl kw_606 kw_607 kw_608 kw_412 kw_483 pl_X7_type 0 rfl rfl ⟨Nat.le_of_ble_eq_true rfl, Nat.le_of_ble_eq_true rfl⟩ ⟨Nat.le_of_ble_eq_true rfl, Nat.le_of_ble_eq_true rfl⟩ hl.1 rfl (Nat.le_of_ble_eq_true rfl) dL_law_306 (fun H locs hW => ?_)
  refine lv_icmp_eq (tgt := 583) hx hb dL_law_309 (by decide) (fun c_309 => ?_) (fun c_309 => ?_)
  · skip
    have hW := Wd.f2 hW
    have hW := Wd.f11 hW
    have hW := Wd.f11 hW
    have hW := Wd.f11 hW
    have hW := Wd.f11 hW
    have hW := Wd.f11 hW
    have hW := Wd.f11 hW
    have hW := Wd.f11 hW
    have hW := Wd.f11 hW
    have hW := Wd.f11 hW
    have hW := Wd.f11 hW
    exact hN _ _ _ _ _ _ _ _ _ _ _ _ _ _ ls (op_type hJ (ch (xs (i + 1)))).2 hW hl
  · skip
    exact absurd (op_type hJ (ch (xs (i + 1)))).1 c_309

set_option maxHeartbeats 4000000 in
set_option maxRecDepth 100000 in
/-- the law: clearText -/
theorem law_8 {p : Program} {l : Launch} {e : Env} {s : State} {m : MethodId} {below : List Frame} {meth : Method} {c : Code} {Q : State → Prop} {G : Gp} {ret0 : Option FieldType} {b L : Nat} {xs : Nat → Int32} {z : Nat → Nat → Nat} {bm : Nat → Nat} {Y : va_W} (M : Mx G p s m #[.ref b] meth c cL_law 4 ret0 RL) (X : LX G s b L xs) {i : Nat} (hi : i + 2 < L) (hN : ∀ (so g gB gT gS sh q0 q1 q2 q3 t u : Nat → Nat → Int32) (H : Heap) (locs : List Loc) (ls : Array Slot), J so g gS sh q0 q1 q2 q3 t u → Wd G s (SysW G z so ++ (LegW G (z 1) g ++ (LegW G (z 2) gB ++ (LegW G (z 3) gT ++ (LegW G (z 4) gS ++ (HistW G z sh ++ (LegW G (z 6) q0 ++ (LegW G (z 7) q1 ++ (LegW G (z 8) q2 ++ (LegW G (z 9) q3 ++ (TextW G (z 10) t ++ (ModW G bm u ++ Y)))))))))))) H locs → lv_has ls 4 [(0, .ref b), (1, .ref (z 0 0)), (2, .ref (bm 0)), (3, .int (nI i))] → W p l e room_1 s m #[.ref b] below meth c H locs 102 1261 Q (F0 m 583 ls [])) {so g gB gT gS sh q0 q1 q2 q3 t u : Nat → Nat → Int32} {H : Heap} {locs : List Loc} {ls : Array Slot} (hJ : J so g gS sh q0 q1 q2 q3 t u) (hW : Wd G s (SysW G z so ++ (LegW G (z 1) g ++ (LegW G (z 2) gB ++ (LegW G (z 3) gT ++ (LegW G (z 4) gS ++ (HistW G z sh ++ (LegW G (z 6) q0 ++ (LegW G (z 7) q1 ++ (LegW G (z 8) q2 ++ (LegW G (z 9) q3 ++ (TextW G (z 10) t ++ (ModW G bm u ++ Y)))))))))))) H locs) (hl : lv_has ls 4 [(0, .ref b), (1, .ref (z 0 0)), (2, .ref (bm 0)), (3, .int (nI i))]) : W p l e room_1 s m #[.ref b] below meth c H locs 102 1261 Q (F0 m 314 ls []) := by
  have hx := M.1
  have hb := M.2.1
  refine lv_aload_n hx hb dL_law_314 rfl (lv_at hl 1 rfl) ?_
  have hW := Wd.f10 hW
  have hW := Wd.f1 hW
  refine r_callVi M hW (c_X6_clearText l G z so t  (LegW G (z 1) g ++ (LegW G (z 2) gB ++ (LegW G (z 3) gT ++ (LegW G (z 4) gS ++ (HistW G z sh ++ (LegW G (z 6) q0 ++ (LegW G (z 7) q1 ++ (LegW G (z 8) q2 ++ (LegW G (z 9) q3 ++ (ModW G bm u ++ Y))))))))))) rfl kw_609 kw_610 kw_611 kw_15 kw_313 pl_X6_clearText 0 rfl rfl ⟨Nat.le_of_ble_eq_true rfl, Nat.le_of_ble_eq_true rfl⟩ ⟨Nat.le_of_ble_eq_true rfl, Nat.le_of_ble_eq_true rfl⟩ hl.1 rfl (Nat.le_of_ble_eq_true rfl) dL_law_315 (fun H locs hW => ?_)
  refine lv_aload_n hx hb dL_law_318 rfl (lv_at hl 2 rfl) ?_
  have hW := Wd.f11 hW
  refine r_callVi M hW (c_X7_clearText l G bm u  (SysW G z so ++ (TextW G (z 10) (sX6_clearText2 t) ++ (LegW G (z 1) g ++ (LegW G (z 2) gB ++ (LegW G (z 3) gT ++ (LegW G (z 4) gS ++ (HistW G z sh ++ (LegW G (z 6) q0 ++ (LegW G (z 7) q1 ++ (LegW G (z 8) q2 ++ (LegW G (z 9) q3 ++ Y)))))))))))) rfl kw_612 kw_613 kw_614 kw_412 kw_485 pl_X7_clearText 0 rfl rfl ⟨Nat.le_of_ble_eq_true rfl, Nat.le_of_ble_eq_true rfl⟩ ⟨Nat.le_of_ble_eq_true rfl, Nat.le_of_ble_eq_true rfl⟩ hl.1 rfl (Nat.le_of_ble_eq_true rfl) dL_law_319 (fun H locs hW => ?_)
  refine lv_icmp_eq (tgt := 583) hx hb dL_law_322 (by decide) (fun c_322 => ?_) (fun c_322 => ?_)
  · skip
    have hW := Wd.f2 hW
    have hW := Wd.f11 hW
    have hW := Wd.f11 hW
    have hW := Wd.f11 hW
    have hW := Wd.f11 hW
    have hW := Wd.f11 hW
    have hW := Wd.f11 hW
    have hW := Wd.f11 hW
    have hW := Wd.f11 hW
    have hW := Wd.f11 hW
    have hW := Wd.f11 hW
    exact hN _ _ _ _ _ _ _ _ _ _ _ _ _ _ ls (op_clear hJ).2 hW hl
  · skip
    exact absurd (op_clear hJ).1 c_322

set_option maxHeartbeats 4000000 in
set_option maxRecDepth 100000 in
/-- the law: perform -/
theorem law_9 {p : Program} {l : Launch} {e : Env} {s : State} {m : MethodId} {below : List Frame} {meth : Method} {c : Code} {Q : State → Prop} {G : Gp} {ret0 : Option FieldType} {b L : Nat} {xs : Nat → Int32} {z : Nat → Nat → Nat} {bm : Nat → Nat} {Y : va_W} (M : Mx G p s m #[.ref b] meth c cL_law 4 ret0 RL) (X : LX G s b L xs) {i : Nat} (hi : i + 2 < L) (hN : ∀ (so g gB gT gS sh q0 q1 q2 q3 t u : Nat → Nat → Int32) (H : Heap) (locs : List Loc) (ls : Array Slot), J so g gS sh q0 q1 q2 q3 t u → Wd G s (SysW G z so ++ (LegW G (z 1) g ++ (LegW G (z 2) gB ++ (LegW G (z 3) gT ++ (LegW G (z 4) gS ++ (HistW G z sh ++ (LegW G (z 6) q0 ++ (LegW G (z 7) q1 ++ (LegW G (z 8) q2 ++ (LegW G (z 9) q3 ++ (TextW G (z 10) t ++ (ModW G bm u ++ Y)))))))))))) H locs → lv_has ls 4 [(0, .ref b), (1, .ref (z 0 0)), (2, .ref (bm 0)), (3, .int (nI i))] → W p l e room_1 s m #[.ref b] below meth c H locs 102 1261 Q (F0 m 583 ls [])) {so g gB gT gS sh q0 q1 q2 q3 t u : Nat → Nat → Int32} {H : Heap} {locs : List Loc} {ls : Array Slot} (hJ : J so g gS sh q0 q1 q2 q3 t u) (hW : Wd G s (SysW G z so ++ (LegW G (z 1) g ++ (LegW G (z 2) gB ++ (LegW G (z 3) gT ++ (LegW G (z 4) gS ++ (HistW G z sh ++ (LegW G (z 6) q0 ++ (LegW G (z 7) q1 ++ (LegW G (z 8) q2 ++ (LegW G (z 9) q3 ++ (TextW G (z 10) t ++ (ModW G bm u ++ Y)))))))))))) H locs) (hl : lv_has ls 4 [(0, .ref b), (1, .ref (z 0 0)), (2, .ref (bm 0)), (3, .int (nI i))]) : W p l e room_1 s m #[.ref b] below meth c H locs 102 1261 Q (F0 m 327 ls []) := by
  have hx := M.1
  have hb := M.2.1
  refine lv_aload_n hx hb dL_law_327 rfl (lv_at hl 1 rfl) ?_
  have hW := Wd.f10 hW
  have hW := Wd.f10 hW
  have hW := Wd.f10 hW
  have hW := Wd.f10 hW
  have hW := Wd.f10 hW
  have hW := Wd.f10 hW
  have hW := Wd.f8 hW
  have hW := Wd.f8 hW
  have hW := Wd.f8 hW
  refine r_callVi M hW (c_X6_perform l G z so g gB sh q0 q1 q2 q3 t  (LegW G (z 3) gT ++ (LegW G (z 4) gS ++ (ModW G bm u ++ Y))) (pj_lz hJ) (pj_ok hJ) (pj_hok hJ) (pj_tlen hJ) (pj_c2 hJ)) rfl kw_615 kw_616 kw_617 kw_15 kw_331 pl_X6_perform 0 rfl rfl ⟨Nat.le_of_ble_eq_true rfl, Nat.le_of_ble_eq_true rfl⟩ ⟨Nat.le_of_ble_eq_true rfl, Nat.le_of_ble_eq_true rfl⟩ hl.1 rfl (Nat.le_of_ble_eq_true rfl) dL_law_328 (fun H locs hW => ?_)
  refine lv_aload_n hx hb dL_law_331 rfl (lv_at hl 2 rfl) ?_
  have hW := Wd.f11 hW
  refine r_callVi M hW (c_X7_perform l G bm u  (SysW G z (sX6_perform so g t) ++ (LegW G (z 1) (sX6_perform2 g t) ++ (LegW G (z 2) (sX6_perform3 g gB t) ++ (HistW G z (sX6_perform4 g sh t) ++ (LegW G (z 6) (sX6_perform5 g sh q0 t) ++ (LegW G (z 7) (sX6_perform6 g sh q1 t) ++ (LegW G (z 8) (sX6_perform7 g sh q2 t) ++ (LegW G (z 9) (sX6_perform8 g sh q3 t) ++ (TextW G (z 10) (sX4_read t) ++ (LegW G (z 3) gT ++ (LegW G (z 4) gS ++ Y))))))))))) (pj_msz hJ) (pj_mlen hJ)) rfl kw_618 kw_619 kw_620 kw_412 kw_533 pl_X7_perform 0 rfl rfl ⟨Nat.le_of_ble_eq_true rfl, Nat.le_of_ble_eq_true rfl⟩ ⟨Nat.le_of_ble_eq_true rfl, Nat.le_of_ble_eq_true rfl⟩ hl.1 rfl (Nat.le_of_ble_eq_true rfl) dL_law_332 (fun H locs hW => ?_)
  refine lv_icmp_eq (tgt := 583) hx hb dL_law_335 (by decide) (fun c_335 => ?_) (fun c_335 => ?_)
  · skip
    have hW := Wd.f9 hW
    have hW := Wd.f9 hW
    have hW := Wd.f9 hW
    have hW := Wd.f9 hW
    have hW := Wd.f9 hW
    have hW := Wd.f9 hW
    have hW := Wd.f11 hW
    have hW := Wd.f11 hW
    have hW := Wd.f11 hW
    have hW := Wd.f11 hW
    have hW := Wd.f11 hW
    exact hN _ _ _ _ _ _ _ _ _ _ _ _ _ _ ls (op_perform hJ).2 hW hl
  · skip
    exact absurd (op_perform hJ).1 c_335

set_option maxHeartbeats 4000000 in
set_option maxRecDepth 100000 in
/-- the law: stopped -/
theorem law_10 {p : Program} {l : Launch} {e : Env} {s : State} {m : MethodId} {below : List Frame} {meth : Method} {c : Code} {Q : State → Prop} {G : Gp} {ret0 : Option FieldType} {b L : Nat} {xs : Nat → Int32} {z : Nat → Nat → Nat} {bm : Nat → Nat} {Y : va_W} (M : Mx G p s m #[.ref b] meth c cL_law 4 ret0 RL) (X : LX G s b L xs) {i : Nat} (hi : i + 2 < L) (hN : ∀ (so g gB gT gS sh q0 q1 q2 q3 t u : Nat → Nat → Int32) (H : Heap) (locs : List Loc) (ls : Array Slot), J so g gS sh q0 q1 q2 q3 t u → Wd G s (SysW G z so ++ (LegW G (z 1) g ++ (LegW G (z 2) gB ++ (LegW G (z 3) gT ++ (LegW G (z 4) gS ++ (HistW G z sh ++ (LegW G (z 6) q0 ++ (LegW G (z 7) q1 ++ (LegW G (z 8) q2 ++ (LegW G (z 9) q3 ++ (TextW G (z 10) t ++ (ModW G bm u ++ Y)))))))))))) H locs → lv_has ls 4 [(0, .ref b), (1, .ref (z 0 0)), (2, .ref (bm 0)), (3, .int (nI i))] → W p l e room_1 s m #[.ref b] below meth c H locs 102 1261 Q (F0 m 583 ls [])) {so g gB gT gS sh q0 q1 q2 q3 t u : Nat → Nat → Int32} {H : Heap} {locs : List Loc} {ls : Array Slot} (hJ : J so g gS sh q0 q1 q2 q3 t u) (hW : Wd G s (SysW G z so ++ (LegW G (z 1) g ++ (LegW G (z 2) gB ++ (LegW G (z 3) gT ++ (LegW G (z 4) gS ++ (HistW G z sh ++ (LegW G (z 6) q0 ++ (LegW G (z 7) q1 ++ (LegW G (z 8) q2 ++ (LegW G (z 9) q3 ++ (TextW G (z 10) t ++ (ModW G bm u ++ Y)))))))))))) H locs) (hl : lv_has ls 4 [(0, .ref b), (1, .ref (z 0 0)), (2, .ref (bm 0)), (3, .int (nI i))]) : W p l e room_1 s m #[.ref b] below meth c H locs 102 1261 Q (F0 m 340 ls []) := by
  have hx := M.1
  have hb := M.2.1
  refine lv_aload_n hx hb dL_law_340 rfl (lv_at hl 1 rfl) ?_
  refine lv_aload_n hx hb dL_law_341 rfl (lv_at hl 0 rfl) ?_
  refine lv_iload_n hx hb dL_law_342 rfl (lv_at hl 3 rfl) ?_
  refine lv_iconst (v := 1) hx hb dL_law_343 (by decide) ?_
  refine lv_iadd hx hb dL_law_344 ?_
  refine r_top (y := nI (i + 1)) (nI_a1 i) ?_
  refine r_sld M hW X (i + 1) rfl (by omega) dL_law_345 ?_
  refine r_callVi M hW (c_X6_stopped l G z so (xs (i + 1)) (LegW G (z 1) g ++ (LegW G (z 2) gB ++ (LegW G (z 3) gT ++ (LegW G (z 4) gS ++ (HistW G z sh ++ (LegW G (z 6) q0 ++ (LegW G (z 7) q1 ++ (LegW G (z 8) q2 ++ (LegW G (z 9) q3 ++ (TextW G (z 10) t ++ (ModW G bm u ++ Y)))))))))))) rfl kw_621 kw_622 kw_623 kw_15 kw_332 pl_X6_stopped 0 rfl rfl ⟨Nat.le_of_ble_eq_true rfl, Nat.le_of_ble_eq_true rfl⟩ ⟨Nat.le_of_ble_eq_true rfl, Nat.le_of_ble_eq_true rfl⟩ hl.1 rfl (Nat.le_of_ble_eq_true rfl) dL_law_346 (fun H locs hW => ?_)
  refine lv_aload_n hx hb dL_law_349 rfl (lv_at hl 2 rfl) ?_
  refine lv_aload_n hx hb dL_law_350 rfl (lv_at hl 0 rfl) ?_
  refine lv_iload_n hx hb dL_law_351 rfl (lv_at hl 3 rfl) ?_
  refine lv_iconst (v := 1) hx hb dL_law_352 (by decide) ?_
  refine lv_iadd hx hb dL_law_353 ?_
  refine r_top (y := nI (i + 1)) (nI_a1 i) ?_
  refine r_sld M hW X (i + 1) rfl (by omega) dL_law_354 ?_
  have hW := Wd.f11 hW
  refine r_callVi M hW (c_X7_stopped l G bm u (xs (i + 1)) (SysW G z so ++ (LegW G (z 1) g ++ (LegW G (z 2) gB ++ (LegW G (z 3) gT ++ (LegW G (z 4) gS ++ (HistW G z sh ++ (LegW G (z 6) q0 ++ (LegW G (z 7) q1 ++ (LegW G (z 8) q2 ++ (LegW G (z 9) q3 ++ (TextW G (z 10) t ++ Y)))))))))))) rfl kw_624 kw_625 kw_626 kw_412 kw_534 pl_X7_stopped 0 rfl rfl ⟨Nat.le_of_ble_eq_true rfl, Nat.le_of_ble_eq_true rfl⟩ ⟨Nat.le_of_ble_eq_true rfl, Nat.le_of_ble_eq_true rfl⟩ hl.1 rfl (Nat.le_of_ble_eq_true rfl) dL_law_355 (fun H locs hW => ?_)
  refine lv_icmp_eq (tgt := 583) hx hb dL_law_358 (by decide) (fun c_358 => ?_) (fun c_358 => ?_)
  · skip
    have hW := Wd.f11 hW
    have hW := Wd.f11 hW
    have hW := Wd.f11 hW
    have hW := Wd.f11 hW
    have hW := Wd.f11 hW
    have hW := Wd.f11 hW
    have hW := Wd.f11 hW
    have hW := Wd.f11 hW
    have hW := Wd.f11 hW
    have hW := Wd.f11 hW
    have hW := Wd.f11 hW
    exact hN _ _ _ _ _ _ _ _ _ _ _ _ _ _ ls (op_stopped hJ (xs (i + 1))).2 hW hl
  · skip
    exact absurd (op_stopped hJ (xs (i + 1))).1 c_358
