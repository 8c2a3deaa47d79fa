def hJ (sh : Nat → Nat → Int32) : Nat := (hO sh + hS sh) % 4
def hT (sh : Nat → Nat → Int32) : Nat := (hO sh + hS sh + 3) % 4
theorem HOK.ix1 {sh : Nat → Nat → Int32} (h : HOK sh) : sh 0 1 + sh 0 2 = nI (hO sh + hS sh + 1) - 1 := by rw [h.1, h.2.2.1, nI_add, nI_pred]
theorem HOK.ix2 {sh : Nat → Nat → Int32} (h : HOK sh) : sh 0 1 + 1 = nI (hO sh + 2) - 1 := by rw [h.1, nI_1, nI_pred]
theorem HOK.ix3 {sh : Nat → Nat → Int32} (h : HOK sh) : sh 0 1 + (sh 0 2 - 1) = nI (hO sh + hS sh) - 1 := by
  rw [h.1, h.2.2.1, ← nI_add]
  generalize nI (hO sh) = a
  generalize nI (hS sh) = b
  rw [Int32.sub_eq_add_neg, Int32.sub_eq_add_neg, Int32.add_assoc]

set_option maxHeartbeats 4000000 in
set_option maxRecDepth 100000 in
/-- X2.indexOf -/
theorem c_X2_indexOf (l : Launch) (G : Gp) (z : Nat → Nat → Nat) (sh : Nat → Nat → Int32) (x : Int32) (k : Nat) (Y : va_W) (hk : k < 10) (hx0 : sh 0 1 + x = nI k - 1) : Cn l G yX2_indexOf cX2_indexOf 2 (some .int) 1 [.ref (z 5 0), .int x] (HistW G z sh ++ Y) (some (.int (nI ((k + 3) % 4)))) (HistW G z sh ++ Y) := by
  refine CnE.of (by decide) (Nat.le_of_ble_eq_true rfl) ?_
  intro p e s m below meth c ls M hnm hl hW
  have hx := M.1
  have hb := M.2.1
  have hl : lv_has ls 2 [(0, .ref (z 5 0)), (1, .int x)] := hl
  refine lv_aload_n hx hb dX2_indexOf_0 rfl (lv_at hl 0 rfl) ?_
  refine gt_Hist_0_1 M hW kw_85 (x := sh 0 1) rfl dX2_indexOf_1 ?_
  refine lv_iload_n hx hb dX2_indexOf_4 rfl (lv_at hl 1 rfl) ?_
  refine lv_iadd hx hb dX2_indexOf_5 ?_
  refine lv_iconst (v := 4) hx hb dX2_indexOf_6 (by decide) ?_
  refine r_callSi M hW (as := [.int ((sh 0 1) + x), .int 4]) (c_J9_floorMod4 l G ((sh 0 1) + x) (HistW G z sh ++ Y)) rfl kw_86 kw_87 kw_88 kw_83 pl_J9_floorMod_7cf53 ⟨by decide, by decide⟩ ⟨Nat.zero_le _, Nat.zero_le _⟩ hl.1 rfl (Nat.le_of_ble_eq_true rfl) dX2_indexOf_7 (fun H locs hW => ?_)
  exact r_reti M hW rfl ⟨by rw [hx0, fmB_eq k hk], rfl⟩ (Nat.zero_le _) (Nat.zero_le _) dX2_indexOf_10

def sX2_remember (sh : Nat → Nat → Int32) : Nat → Nat → Int32 := if hJ sh = 0 then (if 4 ≤ (sh 0 2) then up2 sh 0 1 (nI ((hO sh + 1) % 4)) else up2 sh 0 2 ((sh 0 2) + 1)) else if hJ sh = 1 then (if 4 ≤ (sh 0 2) then up2 sh 0 1 (nI ((hO sh + 1) % 4)) else up2 sh 0 2 ((sh 0 2) + 1)) else if hJ sh = 2 then (if 4 ≤ (sh 0 2) then up2 sh 0 1 (nI ((hO sh + 1) % 4)) else up2 sh 0 2 ((sh 0 2) + 1)) else if 4 ≤ (sh 0 2) then up2 sh 0 1 (nI ((hO sh + 1) % 4)) else up2 sh 0 2 ((sh 0 2) + 1)
def sX2_remember2 (sh : Nat → Nat → Int32) (q0 : Nat → Nat → Int32) (gB : Nat → Nat → Int32) : Nat → Nat → Int32 := if hJ sh = 0 then sX3_become gB else q0
def sX2_remember3 (sh : Nat → Nat → Int32) (q1 : Nat → Nat → Int32) (gB : Nat → Nat → Int32) : Nat → Nat → Int32 := if hJ sh = 0 then q1 else if hJ sh = 1 then sX3_become gB else q1
def sX2_remember4 (sh : Nat → Nat → Int32) (q2 : Nat → Nat → Int32) (gB : Nat → Nat → Int32) : Nat → Nat → Int32 := if hJ sh = 0 then q2 else if hJ sh = 1 then q2 else if hJ sh = 2 then sX3_become gB else q2
def sX2_remember5 (sh : Nat → Nat → Int32) (q3 : Nat → Nat → Int32) (gB : Nat → Nat → Int32) : Nat → Nat → Int32 := if hJ sh = 0 then q3 else if hJ sh = 1 then q3 else if hJ sh = 2 then q3 else sX3_become gB
set_option maxHeartbeats 4000000 in
set_option maxRecDepth 100000 in
/-- X2.remember -/
theorem c_X2_remember (l : Launch) (G : Gp) (z : Nat → Nat → Nat) (sh : Nat → Nat → Int32) (q0 : Nat → Nat → Int32) (q1 : Nat → Nat → Int32) (q2 : Nat → Nat → Int32) (q3 : Nat → Nat → Int32) (gB : Nat → Nat → Int32) (Y : va_W) (hh : HOK sh) (hB : LZ gB) : Cn l G yX2_remember cX2_remember 3 none 4 [.ref (z 5 0), .ref (z 2 0)] (HistW G z sh ++ (LegW G (z 6) q0 ++ (LegW G (z 7) q1 ++ (LegW G (z 8) q2 ++ (LegW G (z 9) q3 ++ (LegW G (z 2) gB ++ Y)))))) none (HistW G z (sX2_remember sh) ++ (LegW G (z 6) (sX2_remember2 sh q0 gB) ++ (LegW G (z 7) (sX2_remember3 sh q1 gB) ++ (LegW G (z 8) (sX2_remember4 sh q2 gB) ++ (LegW G (z 9) (sX2_remember5 sh q3 gB) ++ (LegW G (z 2) gB ++ Y)))))) := by
  refine CnE.of (by decide) (Nat.le_of_ble_eq_true rfl) ?_
  intro p e s m below meth c ls M hnm hl hW
  have hx := M.1
  have hb := M.2.1
  have hl : lv_has ls 3 [(0, .ref (z 5 0)), (1, .ref (z 2 0))] := hl
  refine lv_aload_n hx hb dX2_remember_0 rfl (lv_at hl 0 rfl) ?_
  refine gt_Hist_0_0 M hW kw_78 dX2_remember_1 ?_
  refine lv_aload_n hx hb dX2_remember_4 rfl (lv_at hl 0 rfl) ?_
  refine lv_aload_n hx hb dX2_remember_5 rfl (lv_at hl 0 rfl) ?_
  refine gt_Hist_0_2 M hW kw_109 (x := sh 0 2) rfl dX2_remember_6 ?_
  refine r_callVi M hW (c_X2_indexOf l G z sh (sh 0 2) (hO sh + hS sh + 1) (LegW G (z 6) q0 ++ (LegW G (z 7) q1 ++ (LegW G (z 8) q2 ++ (LegW G (z 9) q3 ++ (LegW G (z 2) gB ++ Y))))) (by have h1 := hh.2.1; have h2 := hh.2.2.2; omega) hh.ix1) rfl kw_110 kw_111 kw_112 kw_113 kw_84 pl_X2_indexOf 0 rfl rfl ⟨by decide, by decide⟩ ⟨Nat.zero_le _, Nat.zero_le _⟩ hl.1 rfl (Nat.le_of_ble_eq_true rfl) dX2_remember_9 (fun H locs hW => ?_)
  refine r_top (y := nI (hJ sh)) (congrArg nI (by unfold hJ; omega)) ?_
  by_cases c_12_0 : hJ sh = 0
  · skip
    refine aq_Hist M hW 0 (by rw [c_12_0]) (by decide) (r := z 6 0) rfl dX2_remember_12 ?_
    refine lv_astore_n (lv' := [(2, .ref (z 6 0)), (0, .ref (z 5 0)), (1, .ref (z 2 0))]) hx hb dX2_remember_13 rfl hl (by decide) rfl (fun ls hl => ?_)
    refine lv_aload_n hx hb dX2_remember_14 rfl (lv_at hl 0 rfl) ?_
    refine lv_ifnonnull (tgt := 19) hx hb dX2_remember_15 (by decide) ?_
    refine lv_aload_n hx hb dX2_remember_19 rfl (lv_at hl 0 rfl) ?_
    refine lv_aload_n hx hb dX2_remember_20 rfl (lv_at hl 2 rfl) ?_
    have hW := Wd.f5 hW
    have hW := Wd.f2 hW
    refine r_callVv M hW (c_X3_become l G (z 6) (z 2) q0 gB  (HistW G z sh ++ (LegW G (z 7) q1 ++ (LegW G (z 8) q2 ++ (LegW G (z 9) q3 ++ Y)))) hB.1 hB.2) rfl kw_114 kw_115 kw_116 kw_80 kw_108 pl_X3_become 0 rfl rfl ⟨by decide, by decide⟩ ⟨Nat.zero_le _, Nat.zero_le _⟩ hl.1 rfl (Nat.le_of_ble_eq_true rfl) dX2_remember_21 (fun H locs hW => ?_)
    refine lv_aload_n hx hb dX2_remember_24 rfl (lv_at hl 1 rfl) ?_
    refine gt_Hist_0_2 M (hW.drop.drop) kw_109 (x := sh 0 2) rfl dX2_remember_25 ?_
    refine lv_iconst (v := 4) hx hb dX2_remember_28 (by decide) ?_
    refine lv_icmp_ge (tgt := 45) hx hb dX2_remember_29 (by decide) (fun c_29 => ?_) (fun c_29 => ?_)
    · skip
      refine lv_aload_n hx hb dX2_remember_45 rfl (lv_at hl 1 rfl) ?_
      refine lv_aload_n hx hb dX2_remember_46 rfl (lv_at hl 1 rfl) ?_
      refine lv_iconst (v := 1) hx hb dX2_remember_47 (by decide) ?_
      have hW := Wd.f2 hW
      refine r_callVi M hW (c_X2_indexOf l G z sh 1 (hO sh + 2) (LegW G (z 6) (sX3_become gB) ++ (LegW G (z 2) gB ++ (LegW G (z 7) q1 ++ (LegW G (z 8) q2 ++ (LegW G (z 9) q3 ++ Y))))) (by have h1 := hh.2.1; have h2 := hh.2.2.2; omega) hh.ix2) rfl kw_110 kw_111 kw_112 kw_113 kw_84 pl_X2_indexOf 0 rfl rfl ⟨by decide, by decide⟩ ⟨Nat.zero_le _, Nat.zero_le _⟩ hl.1 rfl (Nat.le_of_ble_eq_true rfl) dX2_remember_48 (fun H locs hW => ?_)
      refine r_top (y := nI ((hO sh + 1) % 4)) (congrArg nI (by omega)) ?_
      refine pt_Hist_0_1 M hW kw_85 dX2_remember_51 (fun H locs hW => ?_)
      have hW := Wd.f5 hW
      have hW := Wd.f5 hW
      have hW := Wd.f5 hW
      have hW := Wd.f4 hW
      have hW := Wd.f4 hW
      exact r_retv M hW (by rw [sX2_remember, if_pos c_12_0, if_pos c_29, sX2_remember2, if_pos c_12_0, sX2_remember3, if_pos c_12_0, sX2_remember4, if_pos c_12_0, sX2_remember5, if_pos c_12_0]) ⟨rfl, rfl⟩ (Nat.zero_le _) (Nat.zero_le _) dX2_remember_54
    · skip
      refine lv_aload_n hx hb dX2_remember_32 rfl (lv_at hl 1 rfl) ?_
      refine lv_dup hx hb dX2_remember_33 rfl ?_
      refine gt_Hist_0_2 M (hW.drop.drop) kw_109 (x := sh 0 2) rfl dX2_remember_34 ?_
      refine lv_iconst (v := 1) hx hb dX2_remember_37 (by decide) ?_
      refine lv_iadd hx hb dX2_remember_38 ?_
      have hW := Wd.f2 hW
      refine pt_Hist_0_2 M hW kw_109 dX2_remember_39 (fun H locs hW => ?_)
      refine lv_goto (tgt := 54) hx hb dX2_remember_42 (by decide) ?_
      have hW := Wd.f5 hW
      have hW := Wd.f5 hW
      have hW := Wd.f5 hW
      have hW := Wd.f4 hW
      have hW := Wd.f4 hW
      exact r_retv M hW (by rw [sX2_remember, if_pos c_12_0, if_neg c_29, sX2_remember2, if_pos c_12_0, sX2_remember3, if_pos c_12_0, sX2_remember4, if_pos c_12_0, sX2_remember5, if_pos c_12_0]) ⟨rfl, rfl⟩ (Nat.zero_le _) (Nat.zero_le _) dX2_remember_54
  · skip
    by_cases c_12_1 : hJ sh = 1
    · skip
      refine aq_Hist M hW 1 (by rw [c_12_1]) (by decide) (r := z 7 0) rfl dX2_remember_12 ?_
      refine lv_astore_n (lv' := [(2, .ref (z 7 0)), (0, .ref (z 5 0)), (1, .ref (z 2 0))]) hx hb dX2_remember_13 rfl hl (by decide) rfl (fun ls hl => ?_)
      refine lv_aload_n hx hb dX2_remember_14 rfl (lv_at hl 0 rfl) ?_
      refine lv_ifnonnull (tgt := 19) hx hb dX2_remember_15 (by decide) ?_
      refine lv_aload_n hx hb dX2_remember_19 rfl (lv_at hl 0 rfl) ?_
      refine lv_aload_n hx hb dX2_remember_20 rfl (lv_at hl 2 rfl) ?_
      have hW := Wd.f5 hW
      have hW := Wd.f3 hW
      refine r_callVv M hW (c_X3_become l G (z 7) (z 2) q1 gB  (HistW G z sh ++ (LegW G (z 6) q0 ++ (LegW G (z 8) q2 ++ (LegW G (z 9) q3 ++ Y)))) hB.1 hB.2) rfl kw_114 kw_115 kw_116 kw_80 kw_108 pl_X3_become 0 rfl rfl ⟨by decide, by decide⟩ ⟨Nat.zero_le _, Nat.zero_le _⟩ hl.1 rfl (Nat.le_of_ble_eq_true rfl) dX2_remember_21 (fun H locs hW => ?_)
      refine lv_aload_n hx hb dX2_remember_24 rfl (lv_at hl 1 rfl) ?_
      refine gt_Hist_0_2 M (hW.drop.drop) kw_109 (x := sh 0 2) rfl dX2_remember_25 ?_
      refine lv_iconst (v := 4) hx hb dX2_remember_28 (by decide) ?_
      refine lv_icmp_ge (tgt := 45) hx hb dX2_remember_29 (by decide) (fun c_29_2 => ?_) (fun c_29_2 => ?_)
      · skip
        refine lv_aload_n hx hb dX2_remember_45 rfl (lv_at hl 1 rfl) ?_
        refine lv_aload_n hx hb dX2_remember_46 rfl (lv_at hl 1 rfl) ?_
        refine lv_iconst (v := 1) hx hb dX2_remember_47 (by decide) ?_
        have hW := Wd.f2 hW
        refine r_callVi M hW (c_X2_indexOf l G z sh 1 (hO sh + 2) (LegW G (z 7) (sX3_become gB) ++ (LegW G (z 2) gB ++ (LegW G (z 6) q0 ++ (LegW G (z 8) q2 ++ (LegW G (z 9) q3 ++ Y))))) (by have h1 := hh.2.1; have h2 := hh.2.2.2; omega) hh.ix2) rfl kw_110 kw_111 kw_112 kw_113 kw_84 pl_X2_indexOf 0 rfl rfl ⟨by decide, by decide⟩ ⟨Nat.zero_le _, Nat.zero_le _⟩ hl.1 rfl (Nat.le_of_ble_eq_true rfl) dX2_remember_48 (fun H locs hW => ?_)
        refine r_top (y := nI ((hO sh + 1) % 4)) (congrArg nI (by omega)) ?_
        refine pt_Hist_0_1 M hW kw_85 dX2_remember_51 (fun H locs hW => ?_)
        have hW := Wd.f5 hW
        have hW := Wd.f5 hW
        have hW := Wd.f3 hW
        have hW := Wd.f5 hW
        have hW := Wd.f4 hW
        exact r_retv M hW (by rw [sX2_remember, if_neg c_12_0, if_pos c_12_1, if_pos c_29_2, sX2_remember2, if_neg c_12_0, sX2_remember3, if_neg c_12_0, if_pos c_12_1, sX2_remember4, if_neg c_12_0, if_pos c_12_1, sX2_remember5, if_neg c_12_0, if_pos c_12_1]) ⟨rfl, rfl⟩ (Nat.zero_le _) (Nat.zero_le _) dX2_remember_54
      · skip
        refine lv_aload_n hx hb dX2_remember_32 rfl (lv_at hl 1 rfl) ?_
        refine lv_dup hx hb dX2_remember_33 rfl ?_
        refine gt_Hist_0_2 M (hW.drop.drop) kw_109 (x := sh 0 2) rfl dX2_remember_34 ?_
        refine lv_iconst (v := 1) hx hb dX2_remember_37 (by decide) ?_
        refine lv_iadd hx hb dX2_remember_38 ?_
        have hW := Wd.f2 hW
        refine pt_Hist_0_2 M hW kw_109 dX2_remember_39 (fun H locs hW => ?_)
        refine lv_goto (tgt := 54) hx hb dX2_remember_42 (by decide) ?_
        have hW := Wd.f5 hW
        have hW := Wd.f5 hW
        have hW := Wd.f3 hW
        have hW := Wd.f5 hW
        have hW := Wd.f4 hW
        exact r_retv M hW (by rw [sX2_remember, if_neg c_12_0, if_pos c_12_1, if_neg c_29_2, sX2_remember2, if_neg c_12_0, sX2_remember3, if_neg c_12_0, if_pos c_12_1, sX2_remember4, if_neg c_12_0, if_pos c_12_1, sX2_remember5, if_neg c_12_0, if_pos c_12_1]) ⟨rfl, rfl⟩ (Nat.zero_le _) (Nat.zero_le _) dX2_remember_54
    · skip
      by_cases c_12_2 : hJ sh = 2
      · skip
        refine aq_Hist M hW 2 (by rw [c_12_2]) (by decide) (r := z 8 0) rfl dX2_remember_12 ?_
        refine lv_astore_n (lv' := [(2, .ref (z 8 0)), (0, .ref (z 5 0)), (1, .ref (z 2 0))]) hx hb dX2_remember_13 rfl hl (by decide) rfl (fun ls hl => ?_)
        refine lv_aload_n hx hb dX2_remember_14 rfl (lv_at hl 0 rfl) ?_
        refine lv_ifnonnull (tgt := 19) hx hb dX2_remember_15 (by decide) ?_
        refine lv_aload_n hx hb dX2_remember_19 rfl (lv_at hl 0 rfl) ?_
        refine lv_aload_n hx hb dX2_remember_20 rfl (lv_at hl 2 rfl) ?_
        have hW := Wd.f5 hW
        have hW := Wd.f4 hW
        refine r_callVv M hW (c_X3_become l G (z 8) (z 2) q2 gB  (HistW G z sh ++ (LegW G (z 6) q0 ++ (LegW G (z 7) q1 ++ (LegW G (z 9) q3 ++ Y)))) hB.1 hB.2) rfl kw_114 kw_115 kw_116 kw_80 kw_108 pl_X3_become 0 rfl rfl ⟨by decide, by decide⟩ ⟨Nat.zero_le _, Nat.zero_le _⟩ hl.1 rfl (Nat.le_of_ble_eq_true rfl) dX2_remember_21 (fun H locs hW => ?_)
        refine lv_aload_n hx hb dX2_remember_24 rfl (lv_at hl 1 rfl) ?_
        refine gt_Hist_0_2 M (hW.drop.drop) kw_109 (x := sh 0 2) rfl dX2_remember_25 ?_
        refine lv_iconst (v := 4) hx hb dX2_remember_28 (by decide) ?_
        refine lv_icmp_ge (tgt := 45) hx hb dX2_remember_29 (by decide) (fun c_29_3 => ?_) (fun c_29_3 => ?_)
        · skip
          refine lv_aload_n hx hb dX2_remember_45 rfl (lv_at hl 1 rfl) ?_
          refine lv_aload_n hx hb dX2_remember_46 rfl (lv_at hl 1 rfl) ?_
          refine lv_iconst (v := 1) hx hb dX2_remember_47 (by decide) ?_
          have hW := Wd.f2 hW
          refine r_callVi M hW (c_X2_indexOf l G z sh 1 (hO sh + 2) (LegW G (z 8) (sX3_become gB) ++ (LegW G (z 2) gB ++ (LegW G (z 6) q0 ++ (LegW G (z 7) q1 ++ (LegW G (z 9) q3 ++ Y))))) (by have h1 := hh.2.1; have h2 := hh.2.2.2; omega) hh.ix2) rfl kw_110 kw_111 kw_112 kw_113 kw_84 pl_X2_indexOf 0 rfl rfl ⟨by decide, by decide⟩ ⟨Nat.zero_le _, Nat.zero_le _⟩ hl.1 rfl (Nat.le_of_ble_eq_true rfl) dX2_remember_48 (fun H locs hW => ?_)
          refine r_top (y := nI ((hO sh + 1) % 4)) (congrArg nI (by omega)) ?_
          refine pt_Hist_0_1 M hW kw_85 dX2_remember_51 (fun H locs hW => ?_)
          have hW := Wd.f5 hW
          have hW := Wd.f2 hW
          have hW := Wd.f5 hW
          have hW := Wd.f5 hW
          have hW := Wd.f4 hW
          exact r_retv M hW (by rw [sX2_remember, if_neg c_12_0, if_neg c_12_1, if_pos c_12_2, if_pos c_29_3, sX2_remember2, if_neg c_12_0, sX2_remember3, if_neg c_12_0, if_neg c_12_1, sX2_remember4, if_neg c_12_0, if_neg c_12_1, if_pos c_12_2, sX2_remember5, if_neg c_12_0, if_neg c_12_1, if_pos c_12_2]) ⟨rfl, rfl⟩ (Nat.zero_le _) (Nat.zero_le _) dX2_remember_54
        · skip
          refine lv_aload_n hx hb dX2_remember_32 rfl (lv_at hl 1 rfl) ?_
          refine lv_dup hx hb dX2_remember_33 rfl ?_
          refine gt_Hist_0_2 M (hW.drop.drop) kw_109 (x := sh 0 2) rfl dX2_remember_34 ?_
          refine lv_iconst (v := 1) hx hb dX2_remember_37 (by decide) ?_
          refine lv_iadd hx hb dX2_remember_38 ?_
          have hW := Wd.f2 hW
          refine pt_Hist_0_2 M hW kw_109 dX2_remember_39 (fun H locs hW => ?_)
          refine lv_goto (tgt := 54) hx hb dX2_remember_42 (by decide) ?_
          have hW := Wd.f5 hW
          have hW := Wd.f2 hW
          have hW := Wd.f5 hW
          have hW := Wd.f5 hW
          have hW := Wd.f4 hW
          exact r_retv M hW (by rw [sX2_remember, if_neg c_12_0, if_neg c_12_1, if_pos c_12_2, if_neg c_29_3, sX2_remember2, if_neg c_12_0, sX2_remember3, if_neg c_12_0, if_neg c_12_1, sX2_remember4, if_neg c_12_0, if_neg c_12_1, if_pos c_12_2, sX2_remember5, if_neg c_12_0, if_neg c_12_1, if_pos c_12_2]) ⟨rfl, rfl⟩ (Nat.zero_le _) (Nat.zero_le _) dX2_remember_54
      · skip
        have c_12_3 : hJ sh = 3 := by unfold hJ at c_12_0 c_12_1 c_12_2 ⊢; omega
        refine aq_Hist M hW 3 (by rw [c_12_3]) (by decide) (r := z 9 0) rfl dX2_remember_12 ?_
        refine lv_astore_n (lv' := [(2, .ref (z 9 0)), (0, .ref (z 5 0)), (1, .ref (z 2 0))]) hx hb dX2_remember_13 rfl hl (by decide) rfl (fun ls hl => ?_)
        refine lv_aload_n hx hb dX2_remember_14 rfl (lv_at hl 0 rfl) ?_
        refine lv_ifnonnull (tgt := 19) hx hb dX2_remember_15 (by decide) ?_
        refine lv_aload_n hx hb dX2_remember_19 rfl (lv_at hl 0 rfl) ?_
        refine lv_aload_n hx hb dX2_remember_20 rfl (lv_at hl 2 rfl) ?_
        have hW := Wd.f5 hW
        have hW := Wd.f5 hW
        refine r_callVv M hW (c_X3_become l G (z 9) (z 2) q3 gB  (HistW G z sh ++ (LegW G (z 6) q0 ++ (LegW G (z 7) q1 ++ (LegW G (z 8) q2 ++ Y)))) hB.1 hB.2) rfl kw_114 kw_115 kw_116 kw_80 kw_108 pl_X3_become 0 rfl rfl ⟨by decide, by decide⟩ ⟨Nat.zero_le _, Nat.zero_le _⟩ hl.1 rfl (Nat.le_of_ble_eq_true rfl) dX2_remember_21 (fun H locs hW => ?_)
        refine lv_aload_n hx hb dX2_remember_24 rfl (lv_at hl 1 rfl) ?_
        refine gt_Hist_0_2 M (hW.drop.drop) kw_109 (x := sh 0 2) rfl dX2_remember_25 ?_
        refine lv_iconst (v := 4) hx hb dX2_remember_28 (by decide) ?_
        refine lv_icmp_ge (tgt := 45) hx hb dX2_remember_29 (by decide) (fun c_29_4 => ?_) (fun c_29_4 => ?_)
        · skip
          refine lv_aload_n hx hb dX2_remember_45 rfl (lv_at hl 1 rfl) ?_
          refine lv_aload_n hx hb dX2_remember_46 rfl (lv_at hl 1 rfl) ?_
          refine lv_iconst (v := 1) hx hb dX2_remember_47 (by decide) ?_
          have hW := Wd.f2 hW
          refine r_callVi M hW (c_X2_indexOf l G z sh 1 (hO sh + 2) (LegW G (z 9) (sX3_become gB) ++ (LegW G (z 2) gB ++ (LegW G (z 6) q0 ++ (LegW G (z 7) q1 ++ (LegW G (z 8) q2 ++ Y))))) (by have h1 := hh.2.1; have h2 := hh.2.2.2; omega) hh.ix2) rfl kw_110 kw_111 kw_112 kw_113 kw_84 pl_X2_indexOf 0 rfl rfl ⟨by decide, by decide⟩ ⟨Nat.zero_le _, Nat.zero_le _⟩ hl.1 rfl (Nat.le_of_ble_eq_true rfl) dX2_remember_48 (fun H locs hW => ?_)
          refine r_top (y := nI ((hO sh + 1) % 4)) (congrArg nI (by omega)) ?_
          refine pt_Hist_0_1 M hW kw_85 dX2_remember_51 (fun H locs hW => ?_)
          have hW := Wd.f5 hW
          have hW := Wd.f5 hW
          have hW := Wd.f5 hW
          have hW := Wd.f3 hW
          exact r_retv M hW (by rw [sX2_remember, if_neg c_12_0, if_neg c_12_1, if_neg c_12_2, if_pos c_29_4, sX2_remember2, if_neg c_12_0, sX2_remember3, if_neg c_12_0, if_neg c_12_1, sX2_remember4, if_neg c_12_0, if_neg c_12_1, if_neg c_12_2, sX2_remember5, if_neg c_12_0, if_neg c_12_1, if_neg c_12_2]) ⟨rfl, rfl⟩ (Nat.zero_le _) (Nat.zero_le _) dX2_remember_54
        · skip
          refine lv_aload_n hx hb dX2_remember_32 rfl (lv_at hl 1 rfl) ?_
          refine lv_dup hx hb dX2_remember_33 rfl ?_
          refine gt_Hist_0_2 M (hW.drop.drop) kw_109 (x := sh 0 2) rfl dX2_remember_34 ?_
          refine lv_iconst (v := 1) hx hb dX2_remember_37 (by decide) ?_
          refine lv_iadd hx hb dX2_remember_38 ?_
          have hW := Wd.f2 hW
          refine pt_Hist_0_2 M hW kw_109 dX2_remember_39 (fun H locs hW => ?_)
          refine lv_goto (tgt := 54) hx hb dX2_remember_42 (by decide) ?_
          have hW := Wd.f5 hW
          have hW := Wd.f5 hW
          have hW := Wd.f5 hW
          have hW := Wd.f3 hW
          exact r_retv M hW (by rw [sX2_remember, if_neg c_12_0, if_neg c_12_1, if_neg c_12_2, if_neg c_29_4, sX2_remember2, if_neg c_12_0, sX2_remember3, if_neg c_12_0, if_neg c_12_1, sX2_remember4, if_neg c_12_0, if_neg c_12_1, if_neg c_12_2, sX2_remember5, if_neg c_12_0, if_neg c_12_1, if_neg c_12_2]) ⟨rfl, rfl⟩ (Nat.zero_le _) (Nat.zero_le _) dX2_remember_54

def rX2_takeBack (sh : Nat → Nat → Int32) : Int32 := if hT sh = 0 then (if (sh 0 2) = 0 then 0 else 1) else if hT sh = 1 then (if (sh 0 2) = 0 then 0 else 1) else if hT sh = 2 then (if (sh 0 2) = 0 then 0 else 1) else if (sh 0 2) = 0 then 0 else 1
def sX2_takeBack (sh : Nat → Nat → Int32) : Nat → Nat → Int32 := if hT sh = 0 then (if (sh 0 2) = 0 then sh else up2 sh 0 2 ((sh 0 2) - 1)) else if hT sh = 1 then (if (sh 0 2) = 0 then sh else up2 sh 0 2 ((sh 0 2) - 1)) else if hT sh = 2 then (if (sh 0 2) = 0 then sh else up2 sh 0 2 ((sh 0 2) - 1)) else if (sh 0 2) = 0 then sh else up2 sh 0 2 ((sh 0 2) - 1)
def sX2_takeBack6 (sh : Nat → Nat → Int32) (q0 : Nat → Nat → Int32) (q1 : Nat → Nat → Int32) (q2 : Nat → Nat → Int32) (q3 : Nat → Nat → Int32) (g : Nat → Nat → Int32) : Nat → Nat → Int32 := if hT sh = 0 then (if (sh 0 2) = 0 then g else sX3_become q0) else if hT sh = 1 then (if (sh 0 2) = 0 then g else sX3_become q1) else if hT sh = 2 then (if (sh 0 2) = 0 then g else sX3_become q2) else if (sh 0 2) = 0 then g else sX3_become q3
set_option maxHeartbeats 4000000 in
set_option maxRecDepth 100000 in
/-- X2.takeBack -/
theorem c_X2_takeBack (l : Launch) (G : Gp) (z : Nat → Nat → Nat) (sh : Nat → Nat → Int32) (q0 : Nat → Nat → Int32) (q1 : Nat → Nat → Int32) (q2 : Nat → Nat → Int32) (q3 : Nat → Nat → Int32) (g : Nat → Nat → Int32) (Y : va_W) (hh : HOK sh) (hq0 : LZ q0) (hq1 : LZ q1) (hq2 : LZ q2) (hq3 : LZ q3) : Cn l G yX2_takeBack cX2_takeBack 3 (some .boolean) 4 [.ref (z 5 0), .ref (z 1 0)] (HistW G z sh ++ (LegW G (z 6) q0 ++ (LegW G (z 7) q1 ++ (LegW G (z 8) q2 ++ (LegW G (z 9) q3 ++ (LegW G (z 1) g ++ Y)))))) (some (.int (rX2_takeBack sh))) (HistW G z (sX2_takeBack sh) ++ (LegW G (z 6) q0 ++ (LegW G (z 7) q1 ++ (LegW G (z 8) q2 ++ (LegW G (z 9) q3 ++ (LegW G (z 1) (sX2_takeBack6 sh q0 q1 q2 q3 g) ++ Y)))))) := by
  refine CnE.of (by decide) (Nat.le_of_ble_eq_true rfl) ?_
  intro p e s m below meth c ls M hnm hl hW
  have hx := M.1
  have hb := M.2.1
  have hl : lv_has ls 3 [(0, .ref (z 5 0)), (1, .ref (z 1 0))] := hl
  refine lv_aload_n hx hb dX2_takeBack_0 rfl (lv_at hl 0 rfl) ?_
  refine gt_Hist_0_0 M hW kw_78 dX2_takeBack_1 ?_
  refine lv_aload_n hx hb dX2_takeBack_4 rfl (lv_at hl 0 rfl) ?_
  refine lv_aload_n hx hb dX2_takeBack_5 rfl (lv_at hl 0 rfl) ?_
  refine gt_Hist_0_2 M hW kw_109 (x := sh 0 2) rfl dX2_takeBack_6 ?_
  refine lv_iconst (v := 1) hx hb dX2_takeBack_9 (by decide) ?_
  refine lv_isub hx hb dX2_takeBack_10 ?_
  refine r_callVi M hW (c_X2_indexOf l G z sh ((sh 0 2) - 1) (hO sh + hS sh) (LegW G (z 6) q0 ++ (LegW G (z 7) q1 ++ (LegW G (z 8) q2 ++ (LegW G (z 9) q3 ++ (LegW G (z 1) g ++ Y))))) (by have h1 := hh.2.1; have h2 := hh.2.2.2; omega) hh.ix3) rfl kw_110 kw_111 kw_112 kw_113 kw_84 pl_X2_indexOf 0 rfl rfl ⟨by decide, by decide⟩ ⟨Nat.zero_le _, Nat.zero_le _⟩ hl.1 rfl (Nat.le_of_ble_eq_true rfl) dX2_takeBack_11 (fun H locs hW => ?_)
  refine r_top (y := nI (hT sh)) (congrArg nI (by unfold hT; omega)) ?_
  by_cases c_14_0 : hT sh = 0
  · skip
    refine aq_Hist M hW 0 (by rw [c_14_0]) (by decide) (r := z 6 0) rfl dX2_takeBack_14 ?_
    refine lv_astore_n (lv' := [(2, .ref (z 6 0)), (0, .ref (z 5 0)), (1, .ref (z 1 0))]) hx hb dX2_takeBack_15 rfl hl (by decide) rfl (fun ls hl => ?_)
    refine lv_aload_n hx hb dX2_takeBack_16 rfl (lv_at hl 1 rfl) ?_
    refine gt_Hist_0_2 M hW kw_109 (x := sh 0 2) rfl dX2_takeBack_17 ?_
    refine lv_if_eq (tgt := 27) hx hb dX2_takeBack_20 (by decide) (fun c_20 => ?_) (fun c_20 => ?_)
    · skip
      refine lv_iconst (v := 0) hx hb dX2_takeBack_27 (by decide) ?_
      exact r_retz M rfl hW (by rw [sX2_takeBack, if_pos c_14_0, if_pos c_20, sX2_takeBack6, if_pos c_14_0, if_pos c_20]) ⟨by rw [rX2_takeBack, if_pos c_14_0, if_pos c_20], rfl⟩ (Nat.zero_le _) (Nat.zero_le _) dX2_takeBack_28
    · skip
      refine lv_aload_n hx hb dX2_takeBack_23 rfl (lv_at hl 0 rfl) ?_
      refine lv_ifnonnull (tgt := 29) hx hb dX2_takeBack_24 (by decide) ?_
      refine lv_aload_n hx hb dX2_takeBack_29 rfl (lv_at hl 2 rfl) ?_
      refine lv_aload_n hx hb dX2_takeBack_30 rfl (lv_at hl 0 rfl) ?_
      have hW := Wd.f1 hW
      have hW := Wd.f5 hW
      refine r_callVv M hW (c_X3_become l G (z 1) (z 6) g q0  (HistW G z sh ++ (LegW G (z 7) q1 ++ (LegW G (z 8) q2 ++ (LegW G (z 9) q3 ++ Y)))) hq0.1 hq0.2) rfl kw_114 kw_115 kw_116 kw_80 kw_108 pl_X3_become 0 rfl rfl ⟨by decide, by decide⟩ ⟨Nat.zero_le _, Nat.zero_le _⟩ hl.1 rfl (Nat.le_of_ble_eq_true rfl) dX2_takeBack_31 (fun H locs hW => ?_)
      refine lv_aload_n hx hb dX2_takeBack_34 rfl (lv_at hl 1 rfl) ?_
      refine lv_dup hx hb dX2_takeBack_35 rfl ?_
      refine gt_Hist_0_2 M (hW.drop.drop) kw_109 (x := sh 0 2) rfl dX2_takeBack_36 ?_
      refine lv_iconst (v := 1) hx hb dX2_takeBack_39 (by decide) ?_
      refine lv_isub hx hb dX2_takeBack_40 ?_
      have hW := Wd.f2 hW
      refine pt_Hist_0_2 M hW kw_109 dX2_takeBack_41 (fun H locs hW => ?_)
      refine lv_iconst (v := 1) hx hb dX2_takeBack_44 (by decide) ?_
      have hW := Wd.f5 hW
      have hW := Wd.f5 hW
      have hW := Wd.f5 hW
      have hW := Wd.f5 hW
      have hW := Wd.f4 hW
      exact r_retz M rfl hW (by rw [sX2_takeBack, if_pos c_14_0, if_neg c_20, sX2_takeBack6, if_pos c_14_0, if_neg c_20]) ⟨by rw [rX2_takeBack, if_pos c_14_0, if_neg c_20], rfl⟩ (Nat.zero_le _) (Nat.zero_le _) dX2_takeBack_45
  · skip
    by_cases c_14_1 : hT sh = 1
    · skip
      refine aq_Hist M hW 1 (by rw [c_14_1]) (by decide) (r := z 7 0) rfl dX2_takeBack_14 ?_
      refine lv_astore_n (lv' := [(2, .ref (z 7 0)), (0, .ref (z 5 0)), (1, .ref (z 1 0))]) hx hb dX2_takeBack_15 rfl hl (by decide) rfl (fun ls hl => ?_)
      refine lv_aload_n hx hb dX2_takeBack_16 rfl (lv_at hl 1 rfl) ?_
      refine gt_Hist_0_2 M hW kw_109 (x := sh 0 2) rfl dX2_takeBack_17 ?_
      refine lv_if_eq (tgt := 27) hx hb dX2_takeBack_20 (by decide) (fun c_20_2 => ?_) (fun c_20_2 => ?_)
      · skip
        refine lv_iconst (v := 0) hx hb dX2_takeBack_27 (by decide) ?_
        exact r_retz M rfl hW (by rw [sX2_takeBack, if_neg c_14_0, if_pos c_14_1, if_pos c_20_2, sX2_takeBack6, if_neg c_14_0, if_pos c_14_1, if_pos c_20_2]) ⟨by rw [rX2_takeBack, if_neg c_14_0, if_pos c_14_1, if_pos c_20_2], rfl⟩ (Nat.zero_le _) (Nat.zero_le _) dX2_takeBack_28
      · skip
        refine lv_aload_n hx hb dX2_takeBack_23 rfl (lv_at hl 0 rfl) ?_
        refine lv_ifnonnull (tgt := 29) hx hb dX2_takeBack_24 (by decide) ?_
        refine lv_aload_n hx hb dX2_takeBack_29 rfl (lv_at hl 2 rfl) ?_
        refine lv_aload_n hx hb dX2_takeBack_30 rfl (lv_at hl 0 rfl) ?_
        have hW := Wd.f2 hW
        have hW := Wd.f5 hW
        refine r_callVv M hW (c_X3_become l G (z 1) (z 7) g q1  (HistW G z sh ++ (LegW G (z 6) q0 ++ (LegW G (z 8) q2 ++ (LegW G (z 9) q3 ++ Y)))) hq1.1 hq1.2) rfl kw_114 kw_115 kw_116 kw_80 kw_108 pl_X3_become 0 rfl rfl ⟨by decide, by decide⟩ ⟨Nat.zero_le _, Nat.zero_le _⟩ hl.1 rfl (Nat.le_of_ble_eq_true rfl) dX2_takeBack_31 (fun H locs hW => ?_)
        refine lv_aload_n hx hb dX2_takeBack_34 rfl (lv_at hl 1 rfl) ?_
        refine lv_dup hx hb dX2_takeBack_35 rfl ?_
        refine gt_Hist_0_2 M (hW.drop.drop) kw_109 (x := sh 0 2) rfl dX2_takeBack_36 ?_
        refine lv_iconst (v := 1) hx hb dX2_takeBack_39 (by decide) ?_
        refine lv_isub hx hb dX2_takeBack_40 ?_
        have hW := Wd.f2 hW
        refine pt_Hist_0_2 M hW kw_109 dX2_takeBack_41 (fun H locs hW => ?_)
        refine lv_iconst (v := 1) hx hb dX2_takeBack_44 (by decide) ?_
        have hW := Wd.f5 hW
        have hW := Wd.f5 hW
        have hW := Wd.f4 hW
        have hW := Wd.f5 hW
        have hW := Wd.f4 hW
        exact r_retz M rfl hW (by rw [sX2_takeBack, if_neg c_14_0, if_pos c_14_1, if_neg c_20_2, sX2_takeBack6, if_neg c_14_0, if_pos c_14_1, if_neg c_20_2]) ⟨by rw [rX2_takeBack, if_neg c_14_0, if_pos c_14_1, if_neg c_20_2], rfl⟩ (Nat.zero_le _) (Nat.zero_le _) dX2_takeBack_45
    · skip
      by_cases c_14_2 : hT sh = 2
      · skip
        refine aq_Hist M hW 2 (by rw [c_14_2]) (by decide) (r := z 8 0) rfl dX2_takeBack_14 ?_
        refine lv_astore_n (lv' := [(2, .ref (z 8 0)), (0, .ref (z 5 0)), (1, .ref (z 1 0))]) hx hb dX2_takeBack_15 rfl hl (by decide) rfl (fun ls hl => ?_)
        refine lv_aload_n hx hb dX2_takeBack_16 rfl (lv_at hl 1 rfl) ?_
        refine gt_Hist_0_2 M hW kw_109 (x := sh 0 2) rfl dX2_takeBack_17 ?_
        refine lv_if_eq (tgt := 27) hx hb dX2_takeBack_20 (by decide) (fun c_20_3 => ?_) (fun c_20_3 => ?_)
        · skip
          refine lv_iconst (v := 0) hx hb dX2_takeBack_27 (by decide) ?_
          exact r_retz M rfl hW (by rw [sX2_takeBack, if_neg c_14_0, if_neg c_14_1, if_pos c_14_2, if_pos c_20_3, sX2_takeBack6, if_neg c_14_0, if_neg c_14_1, if_pos c_14_2, if_pos c_20_3]) ⟨by rw [rX2_takeBack, if_neg c_14_0, if_neg c_14_1, if_pos c_14_2, if_pos c_20_3], rfl⟩ (Nat.zero_le _) (Nat.zero_le _) dX2_takeBack_28
        · skip
          refine lv_aload_n hx hb dX2_takeBack_23 rfl (lv_at hl 0 rfl) ?_
          refine lv_ifnonnull (tgt := 29) hx hb dX2_takeBack_24 (by decide) ?_
          refine lv_aload_n hx hb dX2_takeBack_29 rfl (lv_at hl 2 rfl) ?_
          refine lv_aload_n hx hb dX2_takeBack_30 rfl (lv_at hl 0 rfl) ?_
          have hW := Wd.f3 hW
          have hW := Wd.f5 hW
          refine r_callVv M hW (c_X3_become l G (z 1) (z 8) g q2  (HistW G z sh ++ (LegW G (z 6) q0 ++ (LegW G (z 7) q1 ++ (LegW G (z 9) q3 ++ Y)))) hq2.1 hq2.2) rfl kw_114 kw_115 kw_116 kw_80 kw_108 pl_X3_become 0 rfl rfl ⟨by decide, by decide⟩ ⟨Nat.zero_le _, Nat.zero_le _⟩ hl.1 rfl (Nat.le_of_ble_eq_true rfl) dX2_takeBack_31 (fun H locs hW => ?_)
          refine lv_aload_n hx hb dX2_takeBack_34 rfl (lv_at hl 1 rfl) ?_
          refine lv_dup hx hb dX2_takeBack_35 rfl ?_
          refine gt_Hist_0_2 M (hW.drop.drop) kw_109 (x := sh 0 2) rfl dX2_takeBack_36 ?_
          refine lv_iconst (v := 1) hx hb dX2_takeBack_39 (by decide) ?_
          refine lv_isub hx hb dX2_takeBack_40 ?_
          have hW := Wd.f2 hW
          refine pt_Hist_0_2 M hW kw_109 dX2_takeBack_41 (fun H locs hW => ?_)
          refine lv_iconst (v := 1) hx hb dX2_takeBack_44 (by decide) ?_
          have hW := Wd.f5 hW
          have hW := Wd.f3 hW
          have hW := Wd.f5 hW
          have hW := Wd.f5 hW
          have hW := Wd.f4 hW
          exact r_retz M rfl hW (by rw [sX2_takeBack, if_neg c_14_0, if_neg c_14_1, if_pos c_14_2, if_neg c_20_3, sX2_takeBack6, if_neg c_14_0, if_neg c_14_1, if_pos c_14_2, if_neg c_20_3]) ⟨by rw [rX2_takeBack, if_neg c_14_0, if_neg c_14_1, if_pos c_14_2, if_neg c_20_3], rfl⟩ (Nat.zero_le _) (Nat.zero_le _) dX2_takeBack_45
      · skip
        have c_14_3 : hT sh = 3 := by unfold hT at c_14_0 c_14_1 c_14_2 ⊢; omega
        refine aq_Hist M hW 3 (by rw [c_14_3]) (by decide) (r := z 9 0) rfl dX2_takeBack_14 ?_
        refine lv_astore_n (lv' := [(2, .ref (z 9 0)), (0, .ref (z 5 0)), (1, .ref (z 1 0))]) hx hb dX2_takeBack_15 rfl hl (by decide) rfl (fun ls hl => ?_)
        refine lv_aload_n hx hb dX2_takeBack_16 rfl (lv_at hl 1 rfl) ?_
        refine gt_Hist_0_2 M hW kw_109 (x := sh 0 2) rfl dX2_takeBack_17 ?_
        refine lv_if_eq (tgt := 27) hx hb dX2_takeBack_20 (by decide) (fun c_20_4 => ?_) (fun c_20_4 => ?_)
        · skip
          refine lv_iconst (v := 0) hx hb dX2_takeBack_27 (by decide) ?_
          exact r_retz M rfl hW (by rw [sX2_takeBack, if_neg c_14_0, if_neg c_14_1, if_neg c_14_2, if_pos c_20_4, sX2_takeBack6, if_neg c_14_0, if_neg c_14_1, if_neg c_14_2, if_pos c_20_4]) ⟨by rw [rX2_takeBack, if_neg c_14_0, if_neg c_14_1, if_neg c_14_2, if_pos c_20_4], rfl⟩ (Nat.zero_le _) (Nat.zero_le _) dX2_takeBack_28
        · skip
          refine lv_aload_n hx hb dX2_takeBack_23 rfl (lv_at hl 0 rfl) ?_
          refine lv_ifnonnull (tgt := 29) hx hb dX2_takeBack_24 (by decide) ?_
          refine lv_aload_n hx hb dX2_takeBack_29 rfl (lv_at hl 2 rfl) ?_
          refine lv_aload_n hx hb dX2_takeBack_30 rfl (lv_at hl 0 rfl) ?_
          have hW := Wd.f4 hW
          have hW := Wd.f5 hW
          refine r_callVv M hW (c_X3_become l G (z 1) (z 9) g q3  (HistW G z sh ++ (LegW G (z 6) q0 ++ (LegW G (z 7) q1 ++ (LegW G (z 8) q2 ++ Y)))) hq3.1 hq3.2) rfl kw_114 kw_115 kw_116 kw_80 kw_108 pl_X3_become 0 rfl rfl ⟨by decide, by decide⟩ ⟨Nat.zero_le _, Nat.zero_le _⟩ hl.1 rfl (Nat.le_of_ble_eq_true rfl) dX2_takeBack_31 (fun H locs hW => ?_)
          refine lv_aload_n hx hb dX2_takeBack_34 rfl (lv_at hl 1 rfl) ?_
          refine lv_dup hx hb dX2_takeBack_35 rfl ?_
          refine gt_Hist_0_2 M (hW.drop.drop) kw_109 (x := sh 0 2) rfl dX2_takeBack_36 ?_
          refine lv_iconst (v := 1) hx hb dX2_takeBack_39 (by decide) ?_
          refine lv_isub hx hb dX2_takeBack_40 ?_
          have hW := Wd.f2 hW
          refine pt_Hist_0_2 M hW kw_109 dX2_takeBack_41 (fun H locs hW => ?_)
          refine lv_iconst (v := 1) hx hb dX2_takeBack_44 (by decide) ?_
          have hW := Wd.f2 hW
          have hW := Wd.f5 hW
          have hW := Wd.f5 hW
          have hW := Wd.f5 hW
          have hW := Wd.f4 hW
          exact r_retz M rfl hW (by rw [sX2_takeBack, if_neg c_14_0, if_neg c_14_1, if_neg c_14_2, if_neg c_20_4, sX2_takeBack6, if_neg c_14_0, if_neg c_14_1, if_neg c_14_2, if_neg c_20_4]) ⟨by rw [rX2_takeBack, if_neg c_14_0, if_neg c_14_1, if_neg c_14_2, if_neg c_20_4], rfl⟩ (Nat.zero_le _) (Nat.zero_le _) dX2_takeBack_45
