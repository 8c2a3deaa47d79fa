theorem tK_eq {t : Nat → Nat → Int32} (h : TCm t) : t 0 4 = nI (tK t) := by
  obtain ⟨k, a, b⟩ := h
  have e : tK t = k := by rw [tK, b]; exact nI_clamp (by omega)
  rw [e]
  exact b
theorem tK_le {t : Nat → Nat → Int32} (h : TCm t) : tK t ≤ 60 := by
  obtain ⟨k, a, b⟩ := h
  have e : tK t = k := by rw [tK, b]; exact nI_clamp (by omega)
  rw [e]
  exact a

set_option maxHeartbeats 4000000 in
set_option maxRecDepth 100000 in
/-- X6.perform -/
theorem c_X6_perform (l : Launch) (G : Gp) (z : Nat → Nat → Nat) (so : Nat → Nat → Int32) (g : Nat → Nat → Int32) (gB : Nat → Nat → Int32) (sh : Nat → Nat → Int32) (q0 : Nat → Nat → Int32) (q1 : Nat → Nat → Int32) (q2 : Nat → Nat → Int32) (q3 : Nat → Nat → Int32) (t : Nat → Nat → Int32) (Y : va_W) (hz : LZ g) (hOK : LegOK g) (hh : HOK sh) (ht : TLen t) (hc2 : ∀ i, i < 60 → narrow .char (.int (t 2 i)) = .int (t 2 i)) : Cn l G yX6_perform cX6_perform 4 (some .int) 7 [.ref (z 0 0)] (SysW G z so ++ (LegW G (z 1) g ++ (LegW G (z 2) gB ++ (HistW G z sh ++ (LegW G (z 6) q0 ++ (LegW G (z 7) q1 ++ (LegW G (z 8) q2 ++ (LegW G (z 9) q3 ++ (TextW G (z 10) t ++ Y))))))))) (some (.int (rX6_perform g t))) (SysW G z (sX6_perform so g t) ++ (LegW G (z 1) (sX6_perform2 g t) ++ (LegW G (z 2) (sX6_perform3 g gB t) ++ (HistW G z (sX6_perform4 g sh t) ++ (LegW G (z 6) (sX6_perform5 g sh q0 t) ++ (LegW G (z 7) (sX6_perform6 g sh q1 t) ++ (LegW G (z 8) (sX6_perform7 g sh q2 t) ++ (LegW G (z 9) (sX6_perform8 g sh q3 t) ++ (TextW G (z 10) (sX4_read t) ++ Y))))))))) := by
  refine CnE.of (by decide) (Nat.le_of_ble_eq_true rfl) ?_
  intro p e s m below meth c ls M hnm hl hW
  have hx := M.1
  have hb := M.2.1
  have hl : lv_has ls 4 [(0, .ref (z 0 0))] := hl
  refine lv_aload_n hx hb dX6_perform_0 rfl (lv_at hl 0 rfl) ?_
  refine gt_Sys_0_6 M hW kw_263 dX6_perform_1 ?_
  have hW := Wd.f8 hW
  refine r_callVi M hW (c_X4_read l G (z 10) t  (SysW G z so ++ (LegW G (z 1) g ++ (LegW G (z 2) gB ++ (HistW G z sh ++ (LegW G (z 6) q0 ++ (LegW G (z 7) q1 ++ (LegW G (z 8) q2 ++ (LegW G (z 9) q3 ++ Y)))))))) ht) rfl kw_319 kw_320 kw_321 kw_218 kw_244 pl_X4_read 0 rfl rfl ⟨by decide, by decide⟩ ⟨Nat.zero_le _, Nat.zero_le _⟩ hl.1 rfl (Nat.le_of_ble_eq_true rfl) dX6_perform_4 (fun H locs hW => ?_)
  refine lv_istore_n (lv' := [(1, .int (rX4_read t)), (0, .ref (z 0 0))]) hx hb dX6_perform_7 rfl hl (by decide) rfl (fun ls hl => ?_)
  refine lv_iload_n hx hb dX6_perform_8 rfl (lv_at hl 0 rfl) ?_
  refine lv_iconst (v := (-1)) hx hb dX6_perform_9 (by decide) ?_
  refine lv_icmp_eq (tgt := 19) hx hb dX6_perform_10 (by decide) (fun c_10 => ?_) (fun c_10 => ?_)
  · skip
    refine lv_aload_n hx hb dX6_perform_19 rfl (lv_at hl 1 rfl) ?_
    refine gt_Sys_0_1 M hW.drop kw_255 dX6_perform_20 ?_
    refine lv_aload_n hx hb dX6_perform_23 rfl (lv_at hl 1 rfl) ?_
    refine gt_Sys_0_0 M hW.drop kw_254 dX6_perform_24 ?_
    have hW := Wd.f2 hW
    have hW := Wd.f3 hW
    refine r_callVv M hW (c_X3_become l G (z 2) (z 1) gB g  (TextW G (z 10) (sX4_read t) ++ (SysW G z so ++ (HistW G z sh ++ (LegW G (z 6) q0 ++ (LegW G (z 7) q1 ++ (LegW G (z 8) q2 ++ (LegW G (z 9) q3 ++ Y))))))) hz.1 hz.2) rfl kw_277 kw_115 kw_116 kw_80 kw_108 pl_X3_become 0 rfl rfl ⟨by decide, by decide⟩ ⟨Nat.zero_le _, Nat.zero_le _⟩ hl.1 rfl (Nat.le_of_ble_eq_true rfl) dX6_perform_27 (fun H locs hW => ?_)
    refine lv_iconst (v := 0) hx hb dX6_perform_30 (by decide) ?_
    refine lv_istore_n (lv' := [(2, .int 0), (1, .int (rX4_read t)), (0, .ref (z 0 0))]) hx hb dX6_perform_31 rfl hl (by decide) rfl (fun ls hl => ?_)
    have hW := Wd.f8 hW
    have hW := Wd.f8 hW
    have hW := Wd.f8 hW
    have hW := Wd.f8 hW
    have hW := Wd.f8 hW
    have hW := Wd.f5 hW
    have hW := Wd.f6 hW
    have hW := Wd.f8 hW
    have hT2 := read_TC hc2
    have hTk : (sX4_read t) 0 4 = nI (tK (sX4_read t)) := tK_eq hT2.1
    have hTn := tK_le hT2.1
    refine r_loop (σ := Array Slot × Nat × (Nat → Nat → Int32)) (fun r q H1 l1 => (q.2.1 + r = tK (sX4_read t) ∧ lv_has q.1 4 [(2, .int (nI q.2.1)), (0, .ref (z 0 0))] ∧ LegOK q.2.2 ∧ gpR (sX4_read t) r q.2.1 q.2.2 = gP g t ∧ gpK (sX4_read t) r q.2.1 q.2.2 = gPK g t ∧ gpS (sX4_read t) r q.2.1 q.2.2 = gPS g t) ∧ Wd G s (SysW G z so ++ (LegW G (z 1) q.2.2 ++ (LegW G (z 2) (sX3_become g) ++ (HistW G z sh ++ (LegW G (z 6) q0 ++ (LegW G (z 7) q1 ++ (LegW G (z 8) q2 ++ (LegW G (z 9) q3 ++ (TextW G (z 10) (sX4_read t) ++ Y))))))))) H1 l1) (fun q => F0 m 32 q.1 []) ?_ ?_ (tK (sX4_read t)) (ls, 0, g) _ _ ⟨⟨Nat.zero_add _, lv_sub hl [0, 2] rfl, hOK, rfl, rfl, rfl⟩, hW⟩
    · skip
      intro q H locs hI
      obtain ⟨ls, i, h⟩ := q
      obtain ⟨⟨hu, hl, hOK, hr, hk, hg⟩, hW⟩ := hI
      dsimp only at hu hl hOK hr hk hg hW ⊢
      have hu2 : i = tK (sX4_read t) := by omega
      refine lv_iload_n hx hb dX6_perform_32 rfl (lv_at hl 0 rfl) ?_
      refine lv_aload_n hx hb dX6_perform_33 rfl (lv_at hl 1 rfl) ?_
      refine gt_Sys_0_6 M hW kw_263 dX6_perform_34 ?_
      refine gt_Text_0_4 M (hW.drop.drop.drop.drop.drop.drop.drop.drop) kw_318 (x := nI (tK (sX4_read t))) hTk dX6_perform_37 ?_
      refine lv_icmp_ge (tgt := 101) hx hb dX6_perform_40 (by decide) (fun c_40 => ?_) (fun c_40 => ?_)
      · skip
        refine lv_aload_n hx hb dX6_perform_101 rfl (lv_at hl 1 rfl) ?_
        refine lv_aload_n hx hb dX6_perform_102 rfl (lv_at hl 1 rfl) ?_
        refine gt_Sys_0_6 M hW kw_263 dX6_perform_103 ?_
        refine gt_Text_0_4 M (hW.drop.drop.drop.drop.drop.drop.drop.drop) kw_318 (x := (sX4_read t) 0 4) rfl dX6_perform_106 ?_
        have hW := Wd.f2 hW
        have hW := Wd.f7 hW
        have hW := Wd.f7 hW
        have hW := Wd.f7 hW
        have hW := Wd.f7 hW
        have hW := Wd.f7 hW
        have hW := Wd.f6 hW
        refine r_callVi M hW (c_X6_recorded l G z so sh q0 q1 q2 q3 (sX3_become g) ((sX4_read t) 0 4) (LegW G (z 1) h ++ (TextW G (z 10) (sX4_read t) ++ Y)) hh hz) rfl kw_281 kw_282 kw_283 kw_15 kw_276 pl_X6_recorded 0 rfl rfl ⟨by decide, by decide⟩ ⟨Nat.zero_le _, Nat.zero_le _⟩ hl.1 rfl (Nat.le_of_ble_eq_true rfl) dX6_perform_109 (fun H locs hW => ?_)
        have hW := Wd.f6 hW
        have hW := Wd.f7 hW
        have hW := Wd.f2 hW
        have hR0 : gP g t = 0 := by rw [← hr, gpR]
        have hS0 : gPS g t = h := by rw [← hg, gpS]
        exact r_reti M hW (by rw [sX6_perform, if_pos c_10, if_pos hR0, sX6_perform2, if_pos c_10, if_pos hR0, hS0, sX6_perform3, if_pos c_10, sX6_perform4, if_pos c_10, if_pos hR0, sX6_perform5, if_pos c_10, if_pos hR0, sX6_perform6, if_pos c_10, if_pos hR0, sX6_perform7, if_pos c_10, if_pos hR0, sX6_perform8, if_pos c_10, if_pos hR0]) ⟨by rw [rX6_perform, if_pos c_10, if_pos hR0], rfl⟩ (Nat.zero_le _) (Nat.zero_le _) dX6_perform_112
      · skip
        exact absurd (nI_le (by omega) (by omega)) c_40
    · skip
      intro n ih q H locs hI
      obtain ⟨ls, i, h⟩ := q
      obtain ⟨⟨hu, hl, hOK, hr, hk, hg⟩, hW⟩ := hI
      dsimp only at hu hl hOK hr hk hg hW ⊢
      have hu2 : i < tK (sX4_read t) := by omega
      refine lv_iload_n hx hb dX6_perform_32 rfl (lv_at hl 0 rfl) ?_
      refine lv_aload_n hx hb dX6_perform_33 rfl (lv_at hl 1 rfl) ?_
      refine gt_Sys_0_6 M hW kw_263 dX6_perform_34 ?_
      refine gt_Text_0_4 M (hW.drop.drop.drop.drop.drop.drop.drop.drop) kw_318 (x := nI (tK (sX4_read t))) hTk dX6_perform_37 ?_
      refine lv_icmp_ge (tgt := 101) hx hb dX6_perform_40 (by decide) (fun c_40_2 => ?_) (fun c_40_2 => ?_)
      · skip
        exact absurd c_40_2 (nI_ge hu2 (by omega))
      · skip
        refine lv_aload_n hx hb dX6_perform_43 rfl (lv_at hl 1 rfl) ?_
        refine lv_aload_n hx hb dX6_perform_44 rfl (lv_at hl 1 rfl) ?_
        refine gt_Sys_0_6 M hW kw_263 dX6_perform_45 ?_
        refine lv_iload_n hx hb dX6_perform_48 rfl (lv_at hl 0 rfl) ?_
        have hW := Wd.f8 hW
        refine r_callVi M hW (c_X4_letterOf l G (z 10) (sX4_read t) (nI i) (SysW G z so ++ (LegW G (z 1) h ++ (LegW G (z 2) (sX3_become g) ++ (HistW G z sh ++ (LegW G (z 6) q0 ++ (LegW G (z 7) q1 ++ (LegW G (z 8) q2 ++ (LegW G (z 9) q3 ++ Y)))))))) hT2.1 hT2.2) rfl kw_322 kw_323 kw_324 kw_218 kw_207 pl_X4_letterOf 0 rfl rfl ⟨by decide, by decide⟩ ⟨Nat.zero_le _, Nat.zero_le _⟩ hl.1 rfl (Nat.le_of_ble_eq_true rfl) dX6_perform_49 (fun H locs hW => ?_)
        refine lv_aload_n hx hb dX6_perform_52 rfl (lv_at hl 1 rfl) ?_
        refine gt_Sys_0_6 M hW.drop kw_263 dX6_perform_53 ?_
        refine lv_iload_n hx hb dX6_perform_56 rfl (lv_at hl 0 rfl) ?_
        refine r_callVi M hW (c_X4_valueOf l G (z 10) (sX4_read t) (nI i) (SysW G z so ++ (LegW G (z 1) h ++ (LegW G (z 2) (sX3_become g) ++ (HistW G z sh ++ (LegW G (z 6) q0 ++ (LegW G (z 7) q1 ++ (LegW G (z 8) q2 ++ (LegW G (z 9) q3 ++ Y)))))))) hT2.1) rfl kw_325 kw_326 kw_327 kw_218 kw_209 pl_X4_valueOf 0 rfl rfl ⟨by decide, by decide⟩ ⟨Nat.zero_le _, Nat.zero_le _⟩ hl.1 rfl (Nat.le_of_ble_eq_true rfl) dX6_perform_57 (fun H locs hW => ?_)
        have hW := Wd.f2 hW
        have hW := Wd.f2 hW
        refine r_callVi M hW (c_X6_carryOut l G z so h (rX4_letterOf (sX4_read t) (nI i)) (rX4_valueOf (sX4_read t) (nI i)) (TextW G (z 10) (sX4_read t) ++ (LegW G (z 2) (sX3_become g) ++ (HistW G z sh ++ (LegW G (z 6) q0 ++ (LegW G (z 7) q1 ++ (LegW G (z 8) q2 ++ (LegW G (z 9) q3 ++ Y))))))) hOK) rfl kw_328 kw_329 kw_330 kw_15 kw_317 pl_X6_carryOut 0 rfl rfl ⟨by decide, by decide⟩ ⟨Nat.zero_le _, Nat.zero_le _⟩ hl.1 rfl (Nat.le_of_ble_eq_true rfl) dX6_perform_60 (fun H locs hW => ?_)
        refine r_top (y := gpA (sX4_read t) i h) rfl ?_
        have hW : Wd G s (SysW G z so ++ (LegW G (z 1) (gpB (sX4_read t) i h) ++ (TextW G (z 10) (sX4_read t) ++ (LegW G (z 2) (sX3_become g) ++ (HistW G z sh ++ (LegW G (z 6) q0 ++ (LegW G (z 7) q1 ++ (LegW G (z 8) q2 ++ (LegW G (z 9) q3 ++ Y))))))))) _ _ := hW
        refine lv_istore_n (lv' := [(3, .int (gpA (sX4_read t) i h)), (2, .int (nI i)), (0, .ref (z 0 0))]) hx hb dX6_perform_63 rfl hl (by decide) rfl (fun ls hl => ?_)
        refine lv_iload_n hx hb dX6_perform_64 rfl (lv_at hl 0 rfl) ?_
        refine r_callSi M hW (as := [.int (gpA (sX4_read t) i h)]) (c_X6_isError l G (gpA (sX4_read t) i h) (SysW G z so ++ (LegW G (z 1) (gpB (sX4_read t) i h) ++ (TextW G (z 10) (sX4_read t) ++ (LegW G (z 2) (sX3_become g) ++ (HistW G z sh ++ (LegW G (z 6) q0 ++ (LegW G (z 7) q1 ++ (LegW G (z 8) q2 ++ (LegW G (z 9) q3 ++ Y)))))))))) rfl kw_271 kw_272 kw_15 kw_270 pl_X6_isError ⟨by decide, by decide⟩ ⟨Nat.zero_le _, Nat.zero_le _⟩ hl.1 rfl (Nat.le_of_ble_eq_true rfl) dX6_perform_65 (fun H locs hW => ?_)
        refine lv_if_eq (tgt := 95) hx hb dX6_perform_68 (by decide) (fun c_68 => ?_) (fun c_68 => ?_)
        · skip
          refine lv_iinc (v := nI (i + 1)) (lv' := [(2, .int (nI (i + 1))), (3, .int (gpA (sX4_read t) i h)), (0, .ref (z 0 0))]) hx hb dX6_perform_95 hl (k := 1) rfl (nI_1 i) (by decide) rfl (fun ls hl => ?_)
          refine lv_goto (tgt := 32) hx hb dX6_perform_98 (by decide) ?_
          have hW := Wd.f8 hW
          have hW := Wd.f8 hW
          have hW := Wd.f8 hW
          have hW := Wd.f8 hW
          have hW := Wd.f8 hW
          have hW := Wd.f8 hW
          have hW := Wd.f7 hW
          have hW := Wd.f7 hW
          have hr2 : gpR (sX4_read t) n (i + 1) (gpB (sX4_read t) i h) = gP g t := by rw [← hr, gpR, if_pos c_68]
          have hk2 : gpK (sX4_read t) n (i + 1) (gpB (sX4_read t) i h) = gPK g t := by rw [← hk, gpK, if_pos c_68]
          have hg2 : gpS (sX4_read t) n (i + 1) (gpB (sX4_read t) i h) = gPS g t := by rw [← hg, gpS, if_pos c_68]
          have hu3 : i + 1 + n = tK (sX4_read t) := by omega
          refine ih (ls, i + 1, gpB (sX4_read t) i h) _ _ ?_
          dsimp only
          exact ⟨⟨hu3, lv_sub hl [0, 2] rfl, hOK.carry _ _, hr2, hk2, hg2⟩, hW⟩
        · skip
          refine lv_aload_n hx hb dX6_perform_71 rfl (lv_at hl 2 rfl) ?_
          refine gt_Sys_0_0 M hW kw_254 dX6_perform_72 ?_
          refine lv_aload_n hx hb dX6_perform_75 rfl (lv_at hl 2 rfl) ?_
          refine gt_Sys_0_1 M hW kw_255 dX6_perform_76 ?_
          have hW := Wd.f3 hW
          have hW := Wd.f2 hW
          refine r_callVv M hW (c_X3_become l G (z 1) (z 2) (gpB (sX4_read t) i h) (sX3_become g)  (SysW G z so ++ (TextW G (z 10) (sX4_read t) ++ (HistW G z sh ++ (LegW G (z 6) q0 ++ (LegW G (z 7) q1 ++ (LegW G (z 8) q2 ++ (LegW G (z 9) q3 ++ Y))))))) hz.1 hz.2) rfl kw_277 kw_115 kw_116 kw_80 kw_108 pl_X3_become 0 rfl rfl ⟨by decide, by decide⟩ ⟨Nat.zero_le _, Nat.zero_le _⟩ hl.1 rfl (Nat.le_of_ble_eq_true rfl) dX6_perform_79 (fun H locs hW => ?_)
          refine lv_aload_n hx hb dX6_perform_82 rfl (lv_at hl 2 rfl) ?_
          refine lv_iload_n hx hb dX6_perform_83 rfl (lv_at hl 1 rfl) ?_
          have hW := Wd.f2 hW
          refine pt_Sys_0_7 M hW kw_264 dX6_perform_84 (fun H locs hW => ?_)
          refine lv_aload_n hx hb dX6_perform_87 rfl (lv_at hl 2 rfl) ?_
          refine lv_iload_n hx hb dX6_perform_88 rfl (lv_at hl 0 rfl) ?_
          refine pt_Sys_0_8 M hW kw_265 dX6_perform_89 (fun H locs hW => ?_)
          refine lv_bipush (v := (-104)) hx hb dX6_perform_92 (by decide) ?_
          have hW := Wd.f8 hW
          have hW := Wd.f8 hW
          have hW := Wd.f8 hW
          have hW := Wd.f8 hW
          have hW := Wd.f8 hW
          have hW := Wd.f7 hW
          have hW := Wd.f7 hW
          have hW := Wd.f7 hW
          have hR0 : gP g t = gpA (sX4_read t) i h := by rw [← hr, gpR, if_neg c_68]
          have hK0 : gPK g t = i := by rw [← hk, gpK, if_neg c_68]
          have hn0 : ¬ gP g t = 0 := by rw [hR0]; exact err_n0 c_68
          exact r_reti M hW (by rw [sX6_perform, if_pos c_10, if_neg hn0, hK0, hR0, sX6_perform2, if_pos c_10, if_neg hn0, sX6_perform3, if_pos c_10, sX6_perform4, if_pos c_10, if_neg hn0, sX6_perform5, if_pos c_10, if_neg hn0, sX6_perform6, if_pos c_10, if_neg hn0, sX6_perform7, if_pos c_10, if_neg hn0, sX6_perform8, if_pos c_10, if_neg hn0]) ⟨by rw [rX6_perform, if_pos c_10, if_neg hn0], rfl⟩ (Nat.zero_le _) (Nat.zero_le _) dX6_perform_94
  · skip
    refine lv_sipush (v := (-200)) hx hb dX6_perform_13 (by decide) ?_
    refine lv_iload_n hx hb dX6_perform_16 rfl (lv_at hl 0 rfl) ?_
    refine lv_isub hx hb dX6_perform_17 ?_
    have hW := Wd.f8 hW
    have hW := Wd.f8 hW
    have hW := Wd.f8 hW
    have hW := Wd.f8 hW
    have hW := Wd.f8 hW
    have hW := Wd.f8 hW
    have hW := Wd.f8 hW
    have hW := Wd.f8 hW
    exact r_reti M hW (by rw [sX6_perform, if_neg c_10, sX6_perform2, if_neg c_10, sX6_perform3, if_neg c_10, sX6_perform4, if_neg c_10, sX6_perform5, if_neg c_10, sX6_perform6, if_neg c_10, sX6_perform7, if_neg c_10, sX6_perform8, if_neg c_10]) ⟨by rw [rX6_perform, if_neg c_10], rfl⟩ (Nat.zero_le _) (Nat.zero_le _) dX6_perform_18
