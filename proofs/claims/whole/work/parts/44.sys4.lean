def rX6_type (t : Nat → Nat → Int32) : Int32 := rX4_append t
def sX6_type2 (t : Nat → Nat → Int32) (x : Int32) : Nat → Nat → Int32 := sX4_append t x
set_option maxHeartbeats 4000000 in
set_option maxRecDepth 100000 in
/-- X6.type -/
theorem c_X6_type (l : Launch) (G : Gp) (z : Nat → Nat → Nat) (so : Nat → Nat → Int32) (t : Nat → Nat → Int32) (x : Int32) (Y : va_W) (hch : vp_nar .char x = x) : Cn l G yX6_type cX6_type 2 (some .int) 2 [.ref (z 0 0), .int x] (SysW G z so ++ (TextW G (z 10) t ++ Y)) (some (.int (rX6_type t))) (SysW G z so ++ (TextW G (z 10) (sX6_type2 t x) ++ Y)) := by
  refine CnE.of (by decide) (Nat.le_of_ble_eq_true rfl) ?_
  intro p e s m below meth c ls M hnm hl hW
  have hx := M.1
  have hb := M.2.1
  have hl : lv_has ls 2 [(0, .ref (z 0 0)), (1, .int x)] := hl
  refine lv_aload_n hx hb dX6_type_0 rfl (lv_at hl 0 rfl) ?_
  refine gt_Sys_0_6 M hW kw_263 dX6_type_1 ?_
  refine lv_iload_n hx hb dX6_type_4 rfl (lv_at hl 1 rfl) ?_
  have hW := Wd.f1 hW
  refine r_callVi M hW (c_X4_append l G (z 10) t x (SysW G z so ++ Y) hch) rfl kw_310 kw_311 kw_312 kw_218 kw_204 pl_X4_append 0 rfl rfl ⟨by decide, by decide⟩ ⟨Nat.zero_le _, Nat.zero_le _⟩ hl.1 rfl (Nat.le_of_ble_eq_true rfl) dX6_type_5 (fun H locs hW => ?_)
  have hW := Wd.f1 hW
  exact r_reti M hW (by rw [sX6_type2]) ⟨by rw [rX6_type], rfl⟩ (Nat.zero_le _) (Nat.zero_le _) dX6_type_8

def rX6_clearText (t : Nat → Nat → Int32) : Int32 := rX4_empty t
def sX6_clearText2 (t : Nat → Nat → Int32) : Nat → Nat → Int32 := sX4_empty t
set_option maxHeartbeats 4000000 in
set_option maxRecDepth 100000 in
/-- X6.clearText -/
theorem c_X6_clearText (l : Launch) (G : Gp) (z : Nat → Nat → Nat) (so : Nat → Nat → Int32) (t : Nat → Nat → Int32) (Y : va_W) : Cn l G yX6_clearText cX6_clearText 1 (some .int) 1 [.ref (z 0 0)] (SysW G z so ++ (TextW G (z 10) t ++ Y)) (some (.int (rX6_clearText t))) (SysW G z so ++ (TextW G (z 10) (sX6_clearText2 t) ++ Y)) := by
  refine CnE.of (by decide) (Nat.le_of_ble_eq_true rfl) ?_
  intro p e s m below meth c ls M hnm hl hW
  have hx := M.1
  have hb := M.2.1
  have hl : lv_has ls 1 [(0, .ref (z 0 0))] := hl
  refine lv_aload_n hx hb dX6_clearText_0 rfl (lv_at hl 0 rfl) ?_
  refine gt_Sys_0_6 M hW kw_263 dX6_clearText_1 ?_
  have hW := Wd.f1 hW
  refine r_callVi M hW (c_X4_empty l G (z 10) t  (SysW G z so ++ Y)) rfl kw_314 kw_315 kw_316 kw_218 kw_206 pl_X4_empty 0 rfl rfl ⟨by decide, by decide⟩ ⟨Nat.zero_le _, Nat.zero_le _⟩ hl.1 rfl (Nat.le_of_ble_eq_true rfl) dX6_clearText_4 (fun H locs hW => ?_)
  have hW := Wd.f1 hW
  exact r_reti M hW (by rw [sX6_clearText2]) ⟨by rw [rX6_clearText], rfl⟩ (Nat.zero_le _) (Nat.zero_le _) dX6_clearText_7

def rX6_stopped (so : Nat → Nat → Int32) (x : Int32) : Int32 := if x = 0 then so 0 7 else if x = 1 then so 0 8 else (-102)
set_option maxHeartbeats 4000000 in
set_option maxRecDepth 100000 in
/-- X6.stopped -/
theorem c_X6_stopped (l : Launch) (G : Gp) (z : Nat → Nat → Nat) (so : Nat → Nat → Int32) (x : Int32) (Y : va_W) : Cn l G yX6_stopped cX6_stopped 2 (some .int) 0 [.ref (z 0 0), .int x] (SysW G z so ++ Y) (some (.int (rX6_stopped so x))) (SysW G z so ++ Y) := by
  refine CnE.of (by decide) (Nat.le_of_ble_eq_true rfl) ?_
  intro p e s m below meth c ls M hnm hl hW
  have hx := M.1
  have hb := M.2.1
  have hl : lv_has ls 2 [(0, .ref (z 0 0)), (1, .int x)] := hl
  refine lv_iload_n hx hb dX6_stopped_0 rfl (lv_at hl 1 rfl) ?_
  refine lv_if_ne (tgt := 9) hx hb dX6_stopped_1 (by decide) (fun c_1 => ?_) (fun c_1 => ?_)
  · skip
    refine lv_iload_n hx hb dX6_stopped_9 rfl (lv_at hl 1 rfl) ?_
    refine lv_iconst (v := 1) hx hb dX6_stopped_10 (by decide) ?_
    refine lv_icmp_ne (tgt := 21) hx hb dX6_stopped_11 (by decide) (fun c_11 => ?_) (fun c_11 => ?_)
    · skip
      refine lv_bipush (v := (-102)) hx hb dX6_stopped_21 (by decide) ?_
      exact r_reti M hW rfl ⟨by rw [rX6_stopped, if_neg c_1, if_neg c_11], rfl⟩ (Nat.zero_le _) (Nat.zero_le _) dX6_stopped_23
    · skip
      refine lv_aload_n hx hb dX6_stopped_14 rfl (lv_at hl 0 rfl) ?_
      refine gt_Sys_0_8 M hW kw_265 (x := so 0 8) rfl dX6_stopped_15 ?_
      refine lv_goto (tgt := 23) hx hb dX6_stopped_18 (by decide) ?_
      exact r_reti M hW rfl ⟨by rw [rX6_stopped, if_neg c_1, if_pos c_11], rfl⟩ (Nat.zero_le _) (Nat.zero_le _) dX6_stopped_23
  · skip
    refine lv_aload_n hx hb dX6_stopped_4 rfl (lv_at hl 0 rfl) ?_
    refine gt_Sys_0_7 M hW kw_264 (x := so 0 7) rfl dX6_stopped_5 ?_
    exact r_reti M hW rfl ⟨by rw [rX6_stopped, if_pos c_1], rfl⟩ (Nat.zero_le _) (Nat.zero_le _) dX6_stopped_8

def rX6_undo (sh : Nat → Nat → Int32) : Int32 := if (rX2_takeBack sh) = 0 then (-105) else (sX2_takeBack sh) 0 2
def sX6_undo2 (g : Nat → Nat → Int32) (sh : Nat → Nat → Int32) (q0 : Nat → Nat → Int32) (q1 : Nat → Nat → Int32) (q2 : Nat → Nat → Int32) (q3 : Nat → Nat → Int32) : Nat → Nat → Int32 := sX2_takeBack6 sh q0 q1 q2 q3 g
def sX6_undo3 (sh : Nat → Nat → Int32) : Nat → Nat → Int32 := sX2_takeBack sh
set_option maxHeartbeats 4000000 in
set_option maxRecDepth 100000 in
/-- X6.undo -/
theorem c_X6_undo (l : Launch) (G : Gp) (z : Nat → Nat → Nat) (so : Nat → Nat → Int32) (g : Nat → Nat → Int32) (sh : Nat → Nat → Int32) (q0 : Nat → Nat → Int32) (q1 : Nat → Nat → Int32) (q2 : Nat → Nat → Int32) (q3 : Nat → Nat → Int32) (Y : va_W) (hh : HOK sh) (hq0 : LZ q0) (hq1 : LZ q1) (hq2 : LZ q2) (hq3 : LZ q3) : Cn l G yX6_undo cX6_undo 1 (some .int) 5 [.ref (z 0 0)] (SysW G z so ++ (LegW G (z 1) g ++ (HistW G z sh ++ (LegW G (z 6) q0 ++ (LegW G (z 7) q1 ++ (LegW G (z 8) q2 ++ (LegW G (z 9) q3 ++ Y))))))) (some (.int (rX6_undo sh))) (SysW G z so ++ (LegW G (z 1) (sX6_undo2 g sh q0 q1 q2 q3) ++ (HistW G z (sX6_undo3 sh) ++ (LegW G (z 6) q0 ++ (LegW G (z 7) q1 ++ (LegW G (z 8) q2 ++ (LegW G (z 9) q3 ++ Y))))))) := by
  refine CnE.of (by decide) (Nat.le_of_ble_eq_true rfl) ?_
  intro p e s m below meth c ls M hnm hl hW
  have hx := M.1
  have hb := M.2.1
  have hl : lv_has ls 1 [(0, .ref (z 0 0))] := hl
  refine lv_aload_n hx hb dX6_undo_0 rfl (lv_at hl 0 rfl) ?_
  refine gt_Sys_0_3 M hW kw_259 dX6_undo_1 ?_
  refine lv_aload_n hx hb dX6_undo_4 rfl (lv_at hl 0 rfl) ?_
  refine gt_Sys_0_0 M hW kw_254 dX6_undo_5 ?_
  have hW := Wd.f1 hW
  have hW := Wd.f6 hW
  have hW := Wd.f6 hW
  have hW := Wd.f6 hW
  have hW := Wd.f6 hW
  have hW := Wd.f6 hW
  refine r_callVi M hW (c_X2_takeBack l G z sh q0 q1 q2 q3 g  (SysW G z so ++ Y) hh hq0 hq1 hq2 hq3) rfl kw_334 kw_335 kw_336 kw_113 kw_118 pl_X2_takeBack 0 rfl rfl ⟨by decide, by decide⟩ ⟨Nat.zero_le _, Nat.zero_le _⟩ hl.1 rfl (Nat.le_of_ble_eq_true rfl) dX6_undo_8 (fun H locs hW => ?_)
  refine lv_if_eq (tgt := 24) hx hb dX6_undo_11 (by decide) (fun c_11 => ?_) (fun c_11 => ?_)
  · skip
    refine lv_bipush (v := (-105)) hx hb dX6_undo_24 (by decide) ?_
    have hW := Wd.f5 hW
    have hW := Wd.f6 hW
    exact r_reti M hW (by rw [sX6_undo2, sX6_undo3]) ⟨by rw [rX6_undo, if_pos c_11], rfl⟩ (Nat.zero_le _) (Nat.zero_le _) dX6_undo_26
  · skip
    refine lv_aload_n hx hb dX6_undo_14 rfl (lv_at hl 0 rfl) ?_
    refine gt_Sys_0_3 M (hW.drop.drop.drop.drop.drop.drop) kw_259 dX6_undo_15 ?_
    refine gt_Hist_0_2 M hW kw_333 (x := (sX2_takeBack sh) 0 2) rfl dX6_undo_18 ?_
    refine lv_goto (tgt := 26) hx hb dX6_undo_21 (by decide) ?_
    have hW := Wd.f5 hW
    have hW := Wd.f6 hW
    exact r_reti M hW (by rw [sX6_undo2, sX6_undo3]) ⟨by rw [rX6_undo, if_neg c_11], rfl⟩ (Nat.zero_le _) (Nat.zero_le _) dX6_undo_26

def rX6_keep (g : Nat → Nat → Int32) : Int32 := g 0 12
def sX6_keep (so : Nat → Nat → Int32) : Nat → Nat → Int32 := up2 so 0 5 1
def sX6_keep3 (g : Nat → Nat → Int32) : Nat → Nat → Int32 := sX3_become g
set_option maxHeartbeats 4000000 in
set_option maxRecDepth 100000 in
/-- X6.keep -/
theorem c_X6_keep (l : Launch) (G : Gp) (z : Nat → Nat → Nat) (so : Nat → Nat → Int32) (g : Nat → Nat → Int32) (gS : Nat → Nat → Int32) (Y : va_W) (hz : LZ g) : Cn l G yX6_keep cX6_keep 1 (some .int) 4 [.ref (z 0 0)] (SysW G z so ++ (LegW G (z 1) g ++ (LegW G (z 4) gS ++ Y))) (some (.int (rX6_keep g))) (SysW G z (sX6_keep so) ++ (LegW G (z 1) g ++ (LegW G (z 4) (sX6_keep3 g) ++ Y))) := by
  refine CnE.of (by decide) (Nat.le_of_ble_eq_true rfl) ?_
  intro p e s m below meth c ls M hnm hl hW
  have hx := M.1
  have hb := M.2.1
  have hl : lv_has ls 1 [(0, .ref (z 0 0))] := hl
  refine lv_aload_n hx hb dX6_keep_0 rfl (lv_at hl 0 rfl) ?_
  refine gt_Sys_0_4 M hW kw_260 dX6_keep_1 ?_
  refine lv_aload_n hx hb dX6_keep_4 rfl (lv_at hl 0 rfl) ?_
  refine gt_Sys_0_0 M hW kw_254 dX6_keep_5 ?_
  have hW := Wd.f1 hW
  have hW := Wd.f2 hW
  refine r_callVv M hW (c_X3_become l G (z 4) (z 1) gS g  (SysW G z so ++ Y) hz.1 hz.2) rfl kw_277 kw_115 kw_116 kw_80 kw_108 pl_X3_become 0 rfl rfl ⟨by decide, by decide⟩ ⟨Nat.zero_le _, Nat.zero_le _⟩ hl.1 rfl (Nat.le_of_ble_eq_true rfl) dX6_keep_8 (fun H locs hW => ?_)
  refine lv_aload_n hx hb dX6_keep_11 rfl (lv_at hl 0 rfl) ?_
  refine lv_iconst (v := 1) hx hb dX6_keep_12 (by decide) ?_
  have hW := Wd.f2 hW
  refine pt_Sys_0_5 M hW kw_338 (Or.inr rfl) dX6_keep_13 (fun H locs hW => ?_)
  refine lv_aload_n hx hb dX6_keep_16 rfl (lv_at hl 0 rfl) ?_
  refine gt_Sys_0_0 M hW kw_254 dX6_keep_17 ?_
  refine gt_Leg_0_12 M (hW.drop.drop) kw_339 (x := g 0 12) rfl dX6_keep_20 ?_
  have hW := Wd.f2 hW
  have hW := Wd.f1 hW
  exact r_reti M hW (by rw [sX6_keep, sX6_keep3]) ⟨by rw [rX6_keep], rfl⟩ (Nat.zero_le _) (Nat.zero_le _) dX6_keep_23

def rX6_restore (so : Nat → Nat → Int32) (gS : Nat → Nat → Int32) : Int32 := if (so 0 5) = 0 then (-105) else rX6_recorded ((sX3_become gS) 0 12)
def sX6_restore2 (so : Nat → Nat → Int32) (g : Nat → Nat → Int32) (gS : Nat → Nat → Int32) : Nat → Nat → Int32 := if (so 0 5) = 0 then g else sX3_become gS
def sX6_restore3 (so : Nat → Nat → Int32) (g : Nat → Nat → Int32) (gB : Nat → Nat → Int32) : Nat → Nat → Int32 := if (so 0 5) = 0 then gB else sX3_become g
def sX6_restore5 (so : Nat → Nat → Int32) (gS : Nat → Nat → Int32) (sh : Nat → Nat → Int32) : Nat → Nat → Int32 := if (so 0 5) = 0 then sh else sX6_recorded2 sh ((sX3_become gS) 0 12)
def sX6_restore6 (so : Nat → Nat → Int32) (g : Nat → Nat → Int32) (gS : Nat → Nat → Int32) (sh : Nat → Nat → Int32) (q0 : Nat → Nat → Int32) : Nat → Nat → Int32 := if (so 0 5) = 0 then q0 else sX6_recorded3 sh q0 (sX3_become g) ((sX3_become gS) 0 12)
def sX6_restore7 (so : Nat → Nat → Int32) (g : Nat → Nat → Int32) (gS : Nat → Nat → Int32) (sh : Nat → Nat → Int32) (q1 : Nat → Nat → Int32) : Nat → Nat → Int32 := if (so 0 5) = 0 then q1 else sX6_recorded4 sh q1 (sX3_become g) ((sX3_become gS) 0 12)
def sX6_restore8 (so : Nat → Nat → Int32) (g : Nat → Nat → Int32) (gS : Nat → Nat → Int32) (sh : Nat → Nat → Int32) (q2 : Nat → Nat → Int32) : Nat → Nat → Int32 := if (so 0 5) = 0 then q2 else sX6_recorded5 sh q2 (sX3_become g) ((sX3_become gS) 0 12)
def sX6_restore9 (so : Nat → Nat → Int32) (g : Nat → Nat → Int32) (gS : Nat → Nat → Int32) (sh : Nat → Nat → Int32) (q3 : Nat → Nat → Int32) : Nat → Nat → Int32 := if (so 0 5) = 0 then q3 else sX6_recorded6 sh q3 (sX3_become g) ((sX3_become gS) 0 12)
set_option maxHeartbeats 4000000 in
set_option maxRecDepth 100000 in
/-- X6.restore -/
theorem c_X6_restore (l : Launch) (G : Gp) (z : Nat → Nat → Nat) (so : Nat → Nat → Int32) (g : Nat → Nat → Int32) (gB : Nat → Nat → Int32) (gS : Nat → Nat → Int32) (sh : Nat → Nat → Int32) (q0 : Nat → Nat → Int32) (q1 : Nat → Nat → Int32) (q2 : Nat → Nat → Int32) (q3 : Nat → Nat → Int32) (Y : va_W) (hz : LZ g) (hs : LZ gS) (hh : HOK sh) : Cn l G yX6_restore cX6_restore 1 (some .int) 6 [.ref (z 0 0)] (SysW G z so ++ (LegW G (z 1) g ++ (LegW G (z 2) gB ++ (LegW G (z 4) gS ++ (HistW G z sh ++ (LegW G (z 6) q0 ++ (LegW G (z 7) q1 ++ (LegW G (z 8) q2 ++ (LegW G (z 9) q3 ++ Y))))))))) (some (.int (rX6_restore so gS))) (SysW G z so ++ (LegW G (z 1) (sX6_restore2 so g gS) ++ (LegW G (z 2) (sX6_restore3 so g gB) ++ (LegW G (z 4) gS ++ (HistW G z (sX6_restore5 so gS sh) ++ (LegW G (z 6) (sX6_restore6 so g gS sh q0) ++ (LegW G (z 7) (sX6_restore7 so g gS sh q1) ++ (LegW G (z 8) (sX6_restore8 so g gS sh q2) ++ (LegW G (z 9) (sX6_restore9 so g gS sh q3) ++ Y))))))))) := by
  refine CnE.of (by decide) (Nat.le_of_ble_eq_true rfl) ?_
  intro p e s m below meth c ls M hnm hl hW
  have hx := M.1
  have hb := M.2.1
  have hl : lv_has ls 1 [(0, .ref (z 0 0))] := hl
  refine lv_aload_n hx hb dX6_restore_0 rfl (lv_at hl 0 rfl) ?_
  refine gt_Sys_0_5 M hW kw_338 (x := so 0 5) rfl dX6_restore_1 ?_
  refine lv_if_ne (tgt := 10) hx hb dX6_restore_4 (by decide) (fun c_4 => ?_) (fun c_4 => ?_)
  · skip
    refine lv_aload_n hx hb dX6_restore_10 rfl (lv_at hl 0 rfl) ?_
    refine gt_Sys_0_1 M hW kw_255 dX6_restore_11 ?_
    refine lv_aload_n hx hb dX6_restore_14 rfl (lv_at hl 0 rfl) ?_
    refine gt_Sys_0_0 M hW kw_254 dX6_restore_15 ?_
    have hW := Wd.f1 hW
    have hW := Wd.f2 hW
    refine r_callVv M hW (c_X3_become l G (z 2) (z 1) gB g  (SysW G z so ++ (LegW G (z 4) gS ++ (HistW G z sh ++ (LegW G (z 6) q0 ++ (LegW G (z 7) q1 ++ (LegW G (z 8) q2 ++ (LegW G (z 9) q3 ++ Y))))))) hz.1 hz.2) rfl kw_277 kw_115 kw_116 kw_80 kw_108 pl_X3_become 0 rfl rfl ⟨by decide, by decide⟩ ⟨Nat.zero_le _, Nat.zero_le _⟩ hl.1 rfl (Nat.le_of_ble_eq_true rfl) dX6_restore_18 (fun H locs hW => ?_)
    refine lv_aload_n hx hb dX6_restore_21 rfl (lv_at hl 0 rfl) ?_
    refine gt_Sys_0_0 M (hW.drop.drop) kw_254 dX6_restore_22 ?_
    refine lv_aload_n hx hb dX6_restore_25 rfl (lv_at hl 0 rfl) ?_
    refine gt_Sys_0_4 M (hW.drop.drop) kw_260 dX6_restore_26 ?_
    have hW := Wd.f3 hW
    have hW := Wd.f2 hW
    refine r_callVv M hW (c_X3_become l G (z 1) (z 4) g gS  (LegW G (z 2) (sX3_become g) ++ (SysW G z so ++ (HistW G z sh ++ (LegW G (z 6) q0 ++ (LegW G (z 7) q1 ++ (LegW G (z 8) q2 ++ (LegW G (z 9) q3 ++ Y))))))) hs.1 hs.2) rfl kw_277 kw_115 kw_116 kw_80 kw_108 pl_X3_become 0 rfl rfl ⟨by decide, by decide⟩ ⟨Nat.zero_le _, Nat.zero_le _⟩ hl.1 rfl (Nat.le_of_ble_eq_true rfl) dX6_restore_29 (fun H locs hW => ?_)
    refine lv_aload_n hx hb dX6_restore_32 rfl (lv_at hl 0 rfl) ?_
    refine lv_aload_n hx hb dX6_restore_33 rfl (lv_at hl 0 rfl) ?_
    refine gt_Sys_0_0 M (hW.drop.drop.drop) kw_254 dX6_restore_34 ?_
    refine gt_Leg_0_12 M hW kw_339 (x := (sX3_become gS) 0 12) rfl dX6_restore_37 ?_
    have hW := Wd.f2 hW
    have hW := Wd.f8 hW
    have hW := Wd.f8 hW
    have hW := Wd.f8 hW
    have hW := Wd.f8 hW
    have hW := Wd.f8 hW
    have hW := Wd.f8 hW
    refine r_callVi M hW (c_X6_recorded l G z so sh q0 q1 q2 q3 (sX3_become g) ((sX3_become gS) 0 12) (LegW G (z 1) (sX3_become gS) ++ (LegW G (z 4) gS ++ Y)) hh hz) rfl kw_281 kw_282 kw_283 kw_15 kw_276 pl_X6_recorded 0 rfl rfl ⟨by decide, by decide⟩ ⟨Nat.zero_le _, Nat.zero_le _⟩ hl.1 rfl (Nat.le_of_ble_eq_true rfl) dX6_restore_40 (fun H locs hW => ?_)
    have hW := Wd.f8 hW
    have hW := Wd.f7 hW
    have hW := Wd.f8 hW
    have hW := Wd.f3 hW
    exact r_reti M hW (by rw [sX6_restore2, if_neg c_4, sX6_restore3, if_neg c_4, sX6_restore5, if_neg c_4, sX6_restore6, if_neg c_4, sX6_restore7, if_neg c_4, sX6_restore8, if_neg c_4, sX6_restore9, if_neg c_4]) ⟨by rw [rX6_restore, if_neg c_4], rfl⟩ (Nat.zero_le _) (Nat.zero_le _) dX6_restore_43
  · skip
    refine lv_bipush (v := (-105)) hx hb dX6_restore_7 (by decide) ?_
    exact r_reti M hW (by rw [sX6_restore2, if_pos c_4, sX6_restore3, if_pos c_4, sX6_restore5, if_pos c_4, sX6_restore6, if_pos c_4, sX6_restore7, if_pos c_4, sX6_restore8, if_pos c_4, sX6_restore9, if_pos c_4]) ⟨by rw [rX6_restore, if_pos c_4], rfl⟩ (Nat.zero_le _) (Nat.zero_le _) dX6_restore_9

def rX6_bucket (g : Nat → Nat → Int32) (x : Int32) : Int32 := rX0_at g x
set_option maxHeartbeats 4000000 in
set_option maxRecDepth 100000 in
/-- X6.bucket -/
theorem c_X6_bucket (l : Launch) (G : Gp) (z : Nat → Nat → Nat) (so : Nat → Nat → Int32) (g : Nat → Nat → Int32) (x : Int32) (Y : va_W) (hOK : LegOK g) : Cn l G yX6_bucket cX6_bucket 2 (some .int) 2 [.ref (z 0 0), .int x] (SysW G z so ++ (LegW G (z 1) g ++ Y)) (some (.int (rX6_bucket g x))) (SysW G z so ++ (LegW G (z 1) g ++ Y)) := by
  refine CnE.of (by decide) (Nat.le_of_ble_eq_true rfl) ?_
  intro p e s m below meth c ls M hnm hl hW
  have hx := M.1
  have hb := M.2.1
  have hl : lv_has ls 2 [(0, .ref (z 0 0)), (1, .int x)] := hl
  refine lv_aload_n hx hb dX6_bucket_0 rfl (lv_at hl 0 rfl) ?_
  refine gt_Sys_0_0 M hW kw_254 dX6_bucket_1 ?_
  refine gt_Leg_0_1 M hW.drop kw_343 dX6_bucket_4 ?_
  refine lv_iload_n hx hb dX6_bucket_7 rfl (lv_at hl 1 rfl) ?_
  have hW := Wd.f1 hW
  refine r_callVi M hW (c_X0_at l G (z 1) g x (SysW G z so ++ Y) hOK) rfl kw_344 kw_345 kw_346 kw_60 kw_13 pl_X0_at 2 rfl rfl ⟨by decide, by decide⟩ ⟨Nat.zero_le _, Nat.zero_le _⟩ hl.1 rfl (Nat.le_of_ble_eq_true rfl) dX6_bucket_8 (fun H locs hW => ?_)
  have hW := Wd.f1 hW
  exact r_reti M hW rfl ⟨by rw [rX6_bucket], rfl⟩ (Nat.zero_le _) (Nat.zero_le _) dX6_bucket_11

def rX6_sensor (g : Nat → Nat → Int32) (x : Int32) (y : Int32) : Int32 := if (rX6_isWithin x 0 2) = 0 then (-101) else if y = 0 then rX3_seenBy g x else if y = 1 then g 9 x.toNatClampNeg else if y = 2 then tWaits x.toNatClampNeg else if y = 3 then g 10 x.toNatClampNeg else (-102)
set_option maxHeartbeats 4000000 in
set_option maxRecDepth 100000 in
/-- X6.sensor -/
theorem c_X6_sensor (l : Launch) (G : Gp) (z : Nat → Nat → Nat) (so : Nat → Nat → Int32) (g : Nat → Nat → Int32) (x : Int32) (y : Int32) (Y : va_W) : Cn l G yX6_sensor cX6_sensor 3 (some .int) 1 [.ref (z 0 0), .int x, .int y] (SysW G z so ++ (LegW G (z 1) g ++ Y)) (some (.int (rX6_sensor g x y))) (SysW G z so ++ (LegW G (z 1) g ++ Y)) := by
  refine CnE.of (by decide) (Nat.le_of_ble_eq_true rfl) ?_
  intro p e s m below meth c ls M hnm hl hW
  have hx := M.1
  have hb := M.2.1
  have hl : lv_has ls 3 [(0, .ref (z 0 0)), (1, .int x), (2, .int y)] := hl
  refine lv_iload_n hx hb dX6_sensor_0 rfl (lv_at hl 1 rfl) ?_
  refine lv_iconst (v := 0) hx hb dX6_sensor_1 (by decide) ?_
  refine lv_iconst (v := 2) hx hb dX6_sensor_2 (by decide) ?_
  refine r_callSi M hW (as := [.int x, .int 0, .int 2]) (c_X6_isWithin l G x 0 2 (SysW G z so ++ (LegW G (z 1) g ++ Y))) rfl kw_351 kw_14 kw_15 kw_12 pl_X6_isWithin ⟨by decide, by decide⟩ ⟨Nat.zero_le _, Nat.zero_le _⟩ hl.1 rfl (Nat.le_of_ble_eq_true rfl) dX6_sensor_3 (fun H locs hW => ?_)
  refine lv_if_ne (tgt := 12) hx hb dX6_sensor_6 (by decide) (fun c_6 => ?_) (fun c_6 => ?_)
  · skip
    have hk := iw_c (n := 2) rfl (by decide) c_6
    refine lv_iload_n hx hb dX6_sensor_12 rfl (lv_at hl 2 rfl) ?_
    by_cases c_13_0 : y = 0
    · skip
      refine lv_tableIn (off := 31) (tgt := 44) hx hb dX6_sensor_13 (by rw [c_13_0]; decide) (by rw [c_13_0]; decide) (by rw [c_13_0]; rfl) (by decide) ?_
      refine lv_aload_n hx hb dX6_sensor_44 rfl (lv_at hl 0 rfl) ?_
      refine gt_Sys_0_0 M hW kw_254 dX6_sensor_45 ?_
      refine lv_iload_n hx hb dX6_sensor_48 rfl (lv_at hl 1 rfl) ?_
      have hW := Wd.f1 hW
      refine r_callVi M hW (c_X3_seenBy l G (z 1) g x (SysW G z so ++ Y)) rfl kw_352 kw_170 kw_171 kw_80 kw_162 pl_X3_seenBy 0 rfl rfl ⟨by decide, by decide⟩ ⟨Nat.zero_le _, Nat.zero_le _⟩ hl.1 rfl (Nat.le_of_ble_eq_true rfl) dX6_sensor_49 (fun H locs hW => ?_)
      have hW := Wd.f1 hW
      exact r_reti M hW rfl ⟨by rw [rX6_sensor, if_neg c_6, if_pos c_13_0], rfl⟩ (Nat.zero_le _) (Nat.zero_le _) dX6_sensor_52
    · skip
      by_cases c_13_1 : y = 1
      · skip
        refine lv_tableIn (off := 40) (tgt := 53) hx hb dX6_sensor_13 (by rw [c_13_1]; decide) (by rw [c_13_1]; decide) (by rw [c_13_1]; rfl) (by decide) ?_
        refine lv_aload_n hx hb dX6_sensor_53 rfl (lv_at hl 0 rfl) ?_
        refine gt_Sys_0_0 M hW kw_254 dX6_sensor_54 ?_
        refine gt_Leg_0_4 M hW.drop kw_348 dX6_sensor_57 ?_
        refine lv_iload_n hx hb dX6_sensor_60 rfl (lv_at hl 1 rfl) ?_
        refine al_Leg_9 M hW.drop x.toNatClampNeg hk.1 (by omega) (x := g 9 x.toNatClampNeg) rfl dX6_sensor_61 ?_
        exact r_reti M hW rfl ⟨by rw [rX6_sensor, if_neg c_6, if_neg c_13_0, if_pos c_13_1], rfl⟩ (Nat.zero_le _) (Nat.zero_le _) dX6_sensor_62
      · skip
        by_cases c_13_2 : y = 2
        · skip
          refine lv_tableIn (off := 50) (tgt := 63) hx hb dX6_sensor_13 (by rw [c_13_2]; decide) (by rw [c_13_2]; decide) (by rw [c_13_2]; rfl) (by decide) ?_
          refine r_gets M hW M.2.2.2.2.2.2.2.2.1.2.2.2.2 kw_349 dX6_sensor_63 ?_
          refine lv_iload_n hx hb dX6_sensor_66 rfl (lv_at hl 1 rfl) ?_
          refine r_tald M hW M.2.2.2.2.2.2.2.2.1.2.2.2.2 x.toNatClampNeg hk.1 (by omega) (by decide) (x := tWaits x.toNatClampNeg) rfl dX6_sensor_67 ?_
          exact r_reti M hW rfl ⟨by rw [rX6_sensor, if_neg c_6, if_neg c_13_0, if_neg c_13_1, if_pos c_13_2], rfl⟩ (Nat.zero_le _) (Nat.zero_le _) dX6_sensor_68
        · skip
          by_cases c_13_3 : y = 3
          · skip
            refine lv_tableIn (off := 56) (tgt := 69) hx hb dX6_sensor_13 (by rw [c_13_3]; decide) (by rw [c_13_3]; decide) (by rw [c_13_3]; rfl) (by decide) ?_
            refine lv_aload_n hx hb dX6_sensor_69 rfl (lv_at hl 0 rfl) ?_
            refine gt_Sys_0_0 M hW kw_254 dX6_sensor_70 ?_
            refine gt_Leg_0_5 M hW.drop kw_350 dX6_sensor_73 ?_
            refine lv_iload_n hx hb dX6_sensor_76 rfl (lv_at hl 1 rfl) ?_
            refine al_Leg_10 M hW.drop x.toNatClampNeg hk.1 (by omega) (x := g 10 x.toNatClampNeg) rfl dX6_sensor_77 ?_
            exact r_reti M hW rfl ⟨by rw [rX6_sensor, if_neg c_6, if_neg c_13_0, if_neg c_13_1, if_neg c_13_2, if_pos c_13_3], rfl⟩ (Nat.zero_le _) (Nat.zero_le _) dX6_sensor_78
          · skip
            refine lv_tableOut (tgt := 79) hx hb dX6_sensor_13 (tbl_out (0) (3) (fun k h1 h2 => ?_)) (by decide) ?_
            · have h3 : k = 0 ∨ k = 1 ∨ k = 2 ∨ k = 3 := by omega
              rcases h3 with rfl | rfl | rfl | rfl
              · exact c_13_0
              · exact c_13_1
              · exact c_13_2
              · exact c_13_3
            refine lv_bipush (v := (-102)) hx hb dX6_sensor_79 (by decide) ?_
            exact r_reti M hW rfl ⟨by rw [rX6_sensor, if_neg c_6, if_neg c_13_0, if_neg c_13_1, if_neg c_13_2, if_neg c_13_3], rfl⟩ (Nat.zero_le _) (Nat.zero_le _) dX6_sensor_81
  · skip
    refine lv_bipush (v := (-101)) hx hb dX6_sensor_9 (by decide) ?_
    exact r_reti M hW rfl ⟨by rw [rX6_sensor, if_pos c_6], rfl⟩ (Nat.zero_le _) (Nat.zero_le _) dX6_sensor_11

def rX6_tripsIn (g : Nat → Nat → Int32) : Int32 := if (g 0 6) = 0 then (-104) else tuR (300 : Int32).toNatClampNeg 1 (sX3_become g)
def sX6_tripsIn3 (g : Nat → Nat → Int32) (gT : Nat → Nat → Int32) : Nat → Nat → Int32 := if (g 0 6) = 0 then gT else tuG (300 : Int32).toNatClampNeg (sX3_become g)
set_option maxHeartbeats 4000000 in
set_option maxRecDepth 100000 in
/-- X6.tripsIn -/
theorem c_X6_tripsIn (l : Launch) (G : Gp) (z : Nat → Nat → Nat) (so : Nat → Nat → Int32) (g : Nat → Nat → Int32) (gT : Nat → Nat → Int32) (Y : va_W) (hz : LZ g) (hOK : LegOK g) : Cn l G yX6_tripsIn cX6_tripsIn 1 (some .int) 6 [.ref (z 0 0)] (SysW G z so ++ (LegW G (z 1) g ++ (LegW G (z 3) gT ++ Y))) (some (.int (rX6_tripsIn g))) (SysW G z so ++ (LegW G (z 1) g ++ (LegW G (z 3) (sX6_tripsIn3 g gT) ++ Y))) := by
  refine CnE.of (by decide) (Nat.le_of_ble_eq_true rfl) ?_
  intro p e s m below meth c ls M hnm hl hW
  have hx := M.1
  have hb := M.2.1
  have hl : lv_has ls 1 [(0, .ref (z 0 0))] := hl
  refine lv_aload_n hx hb dX6_tripsIn_0 rfl (lv_at hl 0 rfl) ?_
  refine gt_Sys_0_0 M hW kw_254 dX6_tripsIn_1 ?_
  refine gt_Leg_0_6 M hW.drop kw_353 (x := g 0 6) rfl dX6_tripsIn_4 ?_
  refine lv_if_ne (tgt := 13) hx hb dX6_tripsIn_7 (by decide) (fun c_7 => ?_) (fun c_7 => ?_)
  · skip
    refine lv_aload_n hx hb dX6_tripsIn_13 rfl (lv_at hl 0 rfl) ?_
    refine gt_Sys_0_2 M hW kw_256 dX6_tripsIn_14 ?_
    refine lv_aload_n hx hb dX6_tripsIn_17 rfl (lv_at hl 0 rfl) ?_
    refine gt_Sys_0_0 M hW kw_254 dX6_tripsIn_18 ?_
    have hW := Wd.f1 hW
    have hW := Wd.f2 hW
    refine r_callVv M hW (c_X3_become l G (z 3) (z 1) gT g  (SysW G z so ++ Y) hz.1 hz.2) rfl kw_277 kw_115 kw_116 kw_80 kw_108 pl_X3_become 0 rfl rfl ⟨by decide, by decide⟩ ⟨Nat.zero_le _, Nat.zero_le _⟩ hl.1 rfl (Nat.le_of_ble_eq_true rfl) dX6_tripsIn_21 (fun H locs hW => ?_)
    refine lv_aload_n hx hb dX6_tripsIn_24 rfl (lv_at hl 0 rfl) ?_
    refine gt_Sys_0_2 M (hW.drop.drop) kw_256 dX6_tripsIn_25 ?_
    refine lv_sipush (v := 300) hx hb dX6_tripsIn_28 (by decide) ?_
    refine r_callVi M hW (c_X3_ticksUntilTrip l G (z 3) (sX3_become g) 300 (LegW G (z 1) g ++ (SysW G z so ++ Y)) hOK ⟨by decide, by decide⟩) rfl kw_354 kw_355 kw_356 kw_80 kw_197 pl_X3_ticksUntilTrip 0 rfl rfl ⟨by decide, by decide⟩ ⟨Nat.zero_le _, Nat.zero_le _⟩ hl.1 rfl (Nat.le_of_ble_eq_true rfl) dX6_tripsIn_31 (fun H locs hW => ?_)
    have hW := Wd.f1 hW
    have hW := Wd.f2 hW
    exact r_reti M hW (by rw [sX6_tripsIn3, if_neg c_7]) ⟨by rw [rX6_tripsIn, if_neg c_7], rfl⟩ (Nat.zero_le _) (Nat.zero_le _) dX6_tripsIn_34
  · skip
    refine lv_bipush (v := (-104)) hx hb dX6_tripsIn_10 (by decide) ?_
    exact r_reti M hW (by rw [sX6_tripsIn3, if_pos c_7]) ⟨by rw [rX6_tripsIn, if_pos c_7], rfl⟩ (Nat.zero_le _) (Nat.zero_le _) dX6_tripsIn_12

def rX6_trip (g : Nat → Nat → Int32) (x : Int32) (y : Int32) : Int32 := if 0 ≤ x then (if y = 0 then rX5_tickOf g x else if y = 1 then rX5_sensorOf g x else if y = 2 then rX5_loadOf g x else (-102)) else (-102)
set_option maxHeartbeats 4000000 in
set_option maxRecDepth 100000 in
/-- X6.trip -/
theorem c_X6_trip (l : Launch) (G : Gp) (z : Nat → Nat → Nat) (so : Nat → Nat → Int32) (g : Nat → Nat → Int32) (x : Int32) (y : Int32) (Y : va_W) (hsz : SizeOK g) : Cn l G yX6_trip cX6_trip 3 (some .int) 3 [.ref (z 0 0), .int x, .int y] (SysW G z so ++ (LegW G (z 1) g ++ Y)) (some (.int (rX6_trip g x y))) (SysW G z so ++ (LegW G (z 1) g ++ Y)) := by
  refine CnE.of (by decide) (Nat.le_of_ble_eq_true rfl) ?_
  intro p e s m below meth c ls M hnm hl hW
  have hx := M.1
  have hb := M.2.1
  have hl : lv_has ls 3 [(0, .ref (z 0 0)), (1, .int x), (2, .int y)] := hl
  refine lv_iload_n hx hb dX6_trip_0 rfl (lv_at hl 1 rfl) ?_
  refine lv_if_ge (tgt := 7) hx hb dX6_trip_1 (by decide) (fun c_1 => ?_) (fun c_1 => ?_)
  · skip
    refine lv_iload_n hx hb dX6_trip_7 rfl (lv_at hl 2 rfl) ?_
    by_cases c_8_0 : y = 0
    · skip
      refine lv_tableIn (off := 28) (tgt := 36) hx hb dX6_trip_8 (by rw [c_8_0]; decide) (by rw [c_8_0]; decide) (by rw [c_8_0]; rfl) (by decide) ?_
      refine lv_aload_n hx hb dX6_trip_36 rfl (lv_at hl 0 rfl) ?_
      refine gt_Sys_0_0 M hW kw_254 dX6_trip_37 ?_
      refine gt_Leg_0_3 M hW.drop kw_363 dX6_trip_40 ?_
      refine lv_iload_n hx hb dX6_trip_43 rfl (lv_at hl 1 rfl) ?_
      have hW := Wd.f1 hW
      refine r_callVi M hW (c_X5_tickOf l G (z 1) g x (SysW G z so ++ Y) hsz) rfl kw_364 kw_365 kw_366 kw_67 kw_246 pl_X5_tickOf 5 rfl rfl ⟨by decide, by decide⟩ ⟨Nat.zero_le _, Nat.zero_le _⟩ hl.1 rfl (Nat.le_of_ble_eq_true rfl) dX6_trip_44 (fun H locs hW => ?_)
      have hW := Wd.f1 hW
      exact r_reti M hW rfl ⟨by rw [rX6_trip, if_pos c_1, if_pos c_8_0], rfl⟩ (Nat.zero_le _) (Nat.zero_le _) dX6_trip_47
    · skip
      by_cases c_8_1 : y = 1
      · skip
        refine lv_tableIn (off := 40) (tgt := 48) hx hb dX6_trip_8 (by rw [c_8_1]; decide) (by rw [c_8_1]; decide) (by rw [c_8_1]; rfl) (by decide) ?_
        refine lv_aload_n hx hb dX6_trip_48 rfl (lv_at hl 0 rfl) ?_
        refine gt_Sys_0_0 M hW kw_254 dX6_trip_49 ?_
        refine gt_Leg_0_3 M hW.drop kw_363 dX6_trip_52 ?_
        refine lv_iload_n hx hb dX6_trip_55 rfl (lv_at hl 1 rfl) ?_
        have hW := Wd.f1 hW
        refine r_callVi M hW (c_X5_sensorOf l G (z 1) g x (SysW G z so ++ Y) hsz) rfl kw_367 kw_368 kw_369 kw_67 kw_250 pl_X5_sensorOf 5 rfl rfl ⟨by decide, by decide⟩ ⟨Nat.zero_le _, Nat.zero_le _⟩ hl.1 rfl (Nat.le_of_ble_eq_true rfl) dX6_trip_56 (fun H locs hW => ?_)
        have hW := Wd.f1 hW
        exact r_reti M hW rfl ⟨by rw [rX6_trip, if_pos c_1, if_neg c_8_0, if_pos c_8_1], rfl⟩ (Nat.zero_le _) (Nat.zero_le _) dX6_trip_59
      · skip
        by_cases c_8_2 : y = 2
        · skip
          refine lv_tableIn (off := 52) (tgt := 60) hx hb dX6_trip_8 (by rw [c_8_2]; decide) (by rw [c_8_2]; decide) (by rw [c_8_2]; rfl) (by decide) ?_
          refine lv_aload_n hx hb dX6_trip_60 rfl (lv_at hl 0 rfl) ?_
          refine gt_Sys_0_0 M hW kw_254 dX6_trip_61 ?_
          refine gt_Leg_0_3 M hW.drop kw_363 dX6_trip_64 ?_
          refine lv_iload_n hx hb dX6_trip_67 rfl (lv_at hl 1 rfl) ?_
          have hW := Wd.f1 hW
          refine r_callVi M hW (c_X5_loadOf l G (z 1) g x (SysW G z so ++ Y) hsz) rfl kw_370 kw_371 kw_372 kw_67 kw_251 pl_X5_loadOf 5 rfl rfl ⟨by decide, by decide⟩ ⟨Nat.zero_le _, Nat.zero_le _⟩ hl.1 rfl (Nat.le_of_ble_eq_true rfl) dX6_trip_68 (fun H locs hW => ?_)
          have hW := Wd.f1 hW
          exact r_reti M hW rfl ⟨by rw [rX6_trip, if_pos c_1, if_neg c_8_0, if_neg c_8_1, if_pos c_8_2], rfl⟩ (Nat.zero_le _) (Nat.zero_le _) dX6_trip_71
        · skip
          refine lv_tableOut (tgt := 72) hx hb dX6_trip_8 (tbl_out (0) (2) (fun k h1 h2 => ?_)) (by decide) ?_
          · have h3 : k = 0 ∨ k = 1 ∨ k = 2 := by omega
            rcases h3 with rfl | rfl | rfl
            · exact c_8_0
            · exact c_8_1
            · exact c_8_2
          refine lv_bipush (v := (-102)) hx hb dX6_trip_72 (by decide) ?_
          exact r_reti M hW rfl ⟨by rw [rX6_trip, if_pos c_1, if_neg c_8_0, if_neg c_8_1, if_neg c_8_2], rfl⟩ (Nat.zero_le _) (Nat.zero_le _) dX6_trip_74
  · skip
    refine lv_bipush (v := (-102)) hx hb dX6_trip_4 (by decide) ?_
    exact r_reti M hW rfl ⟨by rw [rX6_trip, if_neg c_1], rfl⟩ (Nat.zero_le _) (Nat.zero_le _) dX6_trip_6

def rX6_ifTension (g : Nat → Nat → Int32) (x : Int32) (y : Int32) : Int32 := if (rX6_isWithin x 0 200) = 0 then (-102) else if (rX6_isWithin y 1 200) = 0 then (-102) else rX3_passTicks (up2 (up2 (sX3_become g) 1 1 x) 0 12 0) y
def sX6_ifTension3 (g : Nat → Nat → Int32) (gT : Nat → Nat → Int32) (x : Int32) (y : Int32) : Nat → Nat → Int32 := if (rX6_isWithin x 0 200) = 0 then gT else if (rX6_isWithin y 1 200) = 0 then gT else sX3_passTicks (up2 (up2 (sX3_become g) 1 1 x) 0 12 0) y
set_option maxHeartbeats 4000000 in
set_option maxRecDepth 100000 in
/-- X6.ifTension -/
theorem c_X6_ifTension (l : Launch) (G : Gp) (z : Nat → Nat → Nat) (so : Nat → Nat → Int32) (g : Nat → Nat → Int32) (gT : Nat → Nat → Int32) (x : Int32) (y : Int32) (Y : va_W) (hz : LZ g) (hOK : LegOK g) : Cn l G yX6_ifTension cX6_ifTension 3 (some .int) 6 [.ref (z 0 0), .int x, .int y] (SysW G z so ++ (LegW G (z 1) g ++ (LegW G (z 3) gT ++ Y))) (some (.int (rX6_ifTension g x y))) (SysW G z so ++ (LegW G (z 1) g ++ (LegW G (z 3) (sX6_ifTension3 g gT x y) ++ Y))) := by
  refine CnE.of (by decide) (Nat.le_of_ble_eq_true rfl) ?_
  intro p e s m below meth c ls M hnm hl hW
  have hx := M.1
  have hb := M.2.1
  have hl : lv_has ls 3 [(0, .ref (z 0 0)), (1, .int x), (2, .int y)] := hl
  refine lv_iload_n hx hb dX6_ifTension_0 rfl (lv_at hl 1 rfl) ?_
  refine r_gets M hW M.2.2.2.2.2.2.2.2.1.2.1 kw_358 dX6_ifTension_1 ?_
  refine lv_iconst (v := 1) hx hb dX6_ifTension_4 (by decide) ?_
  refine r_tald M hW M.2.2.2.2.2.2.2.2.1.2.1 1 rfl (by decide) (by decide) (x := 0) rfl dX6_ifTension_5 ?_
  refine r_gets M hW M.2.2.2.2.2.2.2.2.1.2.2.1 kw_359 dX6_ifTension_6 ?_
  refine lv_iconst (v := 1) hx hb dX6_ifTension_9 (by decide) ?_
  refine r_tald M hW M.2.2.2.2.2.2.2.2.1.2.2.1 1 rfl (by decide) (by decide) (x := 200) rfl dX6_ifTension_10 ?_
  refine r_callSi M hW (as := [.int x, .int 0, .int 200]) (c_X6_isWithin l G x 0 200 (SysW G z so ++ (LegW G (z 1) g ++ (LegW G (z 3) gT ++ Y)))) rfl kw_351 kw_14 kw_15 kw_12 pl_X6_isWithin ⟨by decide, by decide⟩ ⟨Nat.zero_le _, Nat.zero_le _⟩ hl.1 rfl (Nat.le_of_ble_eq_true rfl) dX6_ifTension_11 (fun H locs hW => ?_)
  refine lv_if_eq (tgt := 28) hx hb dX6_ifTension_14 (by decide) (fun c_14 => ?_) (fun c_14 => ?_)
  · skip
    refine lv_bipush (v := (-102)) hx hb dX6_ifTension_28 (by decide) ?_
    exact r_reti M hW (by rw [sX6_ifTension3, if_pos c_14]) ⟨by rw [rX6_ifTension, if_pos c_14], rfl⟩ (Nat.zero_le _) (Nat.zero_le _) dX6_ifTension_30
  · skip
    refine lv_iload_n hx hb dX6_ifTension_17 rfl (lv_at hl 2 rfl) ?_
    refine lv_iconst (v := 1) hx hb dX6_ifTension_18 (by decide) ?_
    refine lv_sipush (v := 200) hx hb dX6_ifTension_19 (by decide) ?_
    refine r_callSi M hW (as := [.int y, .int 1, .int 200]) (c_X6_isWithin l G y 1 200 (SysW G z so ++ (LegW G (z 1) g ++ (LegW G (z 3) gT ++ Y)))) rfl kw_351 kw_14 kw_15 kw_12 pl_X6_isWithin ⟨by decide, by decide⟩ ⟨Nat.zero_le _, Nat.zero_le _⟩ hl.1 rfl (Nat.le_of_ble_eq_true rfl) dX6_ifTension_22 (fun H locs hW => ?_)
    refine lv_if_ne (tgt := 31) hx hb dX6_ifTension_25 (by decide) (fun c_25 => ?_) (fun c_25 => ?_)
    · skip
      refine lv_aload_n hx hb dX6_ifTension_31 rfl (lv_at hl 0 rfl) ?_
      refine gt_Sys_0_2 M hW kw_256 dX6_ifTension_32 ?_
      refine lv_aload_n hx hb dX6_ifTension_35 rfl (lv_at hl 0 rfl) ?_
      refine gt_Sys_0_0 M hW kw_254 dX6_ifTension_36 ?_
      have hW := Wd.f1 hW
      have hW := Wd.f2 hW
      refine r_callVv M hW (c_X3_become l G (z 3) (z 1) gT g  (SysW G z so ++ Y) hz.1 hz.2) rfl kw_277 kw_115 kw_116 kw_80 kw_108 pl_X3_become 0 rfl rfl ⟨by decide, by decide⟩ ⟨Nat.zero_le _, Nat.zero_le _⟩ hl.1 rfl (Nat.le_of_ble_eq_true rfl) dX6_ifTension_39 (fun H locs hW => ?_)
      refine lv_aload_n hx hb dX6_ifTension_42 rfl (lv_at hl 0 rfl) ?_
      refine gt_Sys_0_2 M (hW.drop.drop) kw_256 dX6_ifTension_43 ?_
      refine gt_Leg_0_0 M hW kw_360 dX6_ifTension_46 ?_
      refine lv_iconst (v := 1) hx hb dX6_ifTension_49 (by decide) ?_
      refine lv_iload_n hx hb dX6_ifTension_50 rfl (lv_at hl 1 rfl) ?_
      refine as_Leg_1 M hW 1 rfl (by decide) dX6_ifTension_51 (fun H locs hW => ?_)
      refine lv_aload_n hx hb dX6_ifTension_52 rfl (lv_at hl 0 rfl) ?_
      refine gt_Sys_0_2 M (hW.drop.drop) kw_256 dX6_ifTension_53 ?_
      refine lv_iconst (v := 0) hx hb dX6_ifTension_56 (by decide) ?_
      refine pt_Leg_0_12 M hW kw_339 dX6_ifTension_57 (fun H locs hW => ?_)
      refine lv_aload_n hx hb dX6_ifTension_60 rfl (lv_at hl 0 rfl) ?_
      refine gt_Sys_0_2 M (hW.drop.drop) kw_256 dX6_ifTension_61 ?_
      refine lv_iload_n hx hb dX6_ifTension_64 rfl (lv_at hl 2 rfl) ?_
      refine r_callVi M hW (c_X3_passTicks l G (z 3) (up2 (up2 (sX3_become g) 1 1 x) 0 12 0) y (LegW G (z 1) g ++ (SysW G z so ++ Y)) hOK) rfl kw_305 kw_306 kw_307 kw_80 kw_196 pl_X3_passTicks 0 rfl rfl ⟨by decide, by decide⟩ ⟨Nat.zero_le _, Nat.zero_le _⟩ hl.1 rfl (Nat.le_of_ble_eq_true rfl) dX6_ifTension_65 (fun H locs hW => ?_)
      have hW := Wd.f1 hW
      have hW := Wd.f2 hW
      exact r_reti M hW (by rw [sX6_ifTension3, if_neg c_14, if_neg c_25]) ⟨by rw [rX6_ifTension, if_neg c_14, if_neg c_25], rfl⟩ (Nat.zero_le _) (Nat.zero_le _) dX6_ifTension_68
    · skip
      refine lv_bipush (v := (-102)) hx hb dX6_ifTension_28 (by decide) ?_
      exact r_reti M hW (by rw [sX6_ifTension3, if_neg c_14, if_pos c_25]) ⟨by rw [rX6_ifTension, if_neg c_14, if_pos c_25], rfl⟩ (Nat.zero_le _) (Nat.zero_le _) dX6_ifTension_30

theorem in20 {x : Int32} (h : ¬ rX6_isWithin x 20 24 = 0) : x = nI x.toNatClampNeg ∧ 20 ≤ x.toNatClampNeg ∧ x.toNatClampNeg ≤ 24 := in_c (lo := 20) (hi := 24) (a := 20) (b := 24) rfl rfl (by decide) (by decide) h

def rX6_count (g : Nat → Nat → Int32) (sh : Nat → Nat → Int32) (t : Nat → Nat → Int32) (x : Int32) : Int32 := if (rX6_isWithin x 20 24) = 0 then (if x = 0 then g 4 0 else if x = 1 then rX0_onAll g else if x = 2 then g 4 1 else if x = 3 then g 4 2 else if x = 4 then g 4 3 else if x = 5 then g 4 4 else if x = 6 then g 4 5 else if x = 7 then rX3_load g else if x = 8 then g 0 8 else if x = 9 then g 0 9 else if x = 10 then g 0 10 else if x = 11 then (if (g 0 6) = 0 then 0 else 1) else if x = 12 then (if (g 0 7) = 0 then 0 else 1) else if x = 13 then g 0 11 else if x = 14 then g 0 12 else if x = 15 then sh 0 2 else if x = 16 then t 0 1 else (-102)) else g 1 (x.toNatClampNeg - 20)
set_option maxHeartbeats 4000000 in
set_option maxRecDepth 100000 in
/-- X6.count -/
theorem c_X6_count (l : Launch) (G : Gp) (z : Nat → Nat → Nat) (so : Nat → Nat → Int32) (g : Nat → Nat → Int32) (sh : Nat → Nat → Int32) (t : Nat → Nat → Int32) (x : Int32) (Y : va_W) (hOK : LegOK g) : Cn l G yX6_count cX6_count 2 (some .int) 2 [.ref (z 0 0), .int x] (SysW G z so ++ (LegW G (z 1) g ++ (HistW G z sh ++ (TextW G (z 10) t ++ Y)))) (some (.int (rX6_count g sh t x))) (SysW G z so ++ (LegW G (z 1) g ++ (HistW G z sh ++ (TextW G (z 10) t ++ Y)))) := by
  refine CnE.of (by decide) (Nat.le_of_ble_eq_true rfl) ?_
  intro p e s m below meth c ls M hnm hl hW
  have hx := M.1
  have hb := M.2.1
  have hl : lv_has ls 2 [(0, .ref (z 0 0)), (1, .int x)] := hl
  refine lv_iload_n hx hb dX6_count_0 rfl (lv_at hl 1 rfl) ?_
  refine lv_bipush (v := 20) hx hb dX6_count_1 (by decide) ?_
  refine lv_bipush (v := 24) hx hb dX6_count_3 (by decide) ?_
  refine r_callSi M hW (as := [.int x, .int 20, .int 24]) (c_X6_isWithin l G x 20 24 (SysW G z so ++ (LegW G (z 1) g ++ (HistW G z sh ++ (TextW G (z 10) t ++ Y))))) rfl kw_351 kw_14 kw_15 kw_12 pl_X6_isWithin ⟨by decide, by decide⟩ ⟨Nat.zero_le _, Nat.zero_le _⟩ hl.1 rfl (Nat.le_of_ble_eq_true rfl) dX6_count_5 (fun H locs hW => ?_)
  refine lv_if_eq (tgt := 24) hx hb dX6_count_8 (by decide) (fun c_8 => ?_) (fun c_8 => ?_)
  · skip
    refine lv_iload_n hx hb dX6_count_24 rfl (lv_at hl 1 rfl) ?_
    by_cases c_25_0 : x = 0
    · skip
      refine lv_tableIn (off := 83) (tgt := 108) hx hb dX6_count_25 (by rw [c_25_0]; decide) (by rw [c_25_0]; decide) (by rw [c_25_0]; rfl) (by decide) ?_
      refine lv_aload_n hx hb dX6_count_108 rfl (lv_at hl 0 rfl) ?_
      refine gt_Sys_0_0 M hW kw_254 dX6_count_109 ?_
      refine gt_Leg_0_2 M hW.drop kw_374 dX6_count_112 ?_
      refine gt_Leg_4_0 M hW.drop kw_375 (x := g 4 0) rfl dX6_count_115 ?_
      exact r_reti M hW rfl ⟨by rw [rX6_count, if_pos c_8, if_pos c_25_0], rfl⟩ (Nat.zero_le _) (Nat.zero_le _) dX6_count_118
    · skip
      by_cases c_25_1 : x = 1
      · skip
        refine lv_tableIn (off := 94) (tgt := 119) hx hb dX6_count_25 (by rw [c_25_1]; decide) (by rw [c_25_1]; decide) (by rw [c_25_1]; rfl) (by decide) ?_
        refine lv_aload_n hx hb dX6_count_119 rfl (lv_at hl 0 rfl) ?_
        refine gt_Sys_0_0 M hW kw_254 dX6_count_120 ?_
        refine gt_Leg_0_1 M hW.drop kw_343 dX6_count_123 ?_
        have hW := Wd.f1 hW
        refine r_callVi M hW (c_X0_onAll l G (z 1) g  (SysW G z so ++ (HistW G z sh ++ (TextW G (z 10) t ++ Y)))) rfl kw_387 kw_133 kw_134 kw_60 kw_27 pl_X0_onAll 2 rfl rfl ⟨by decide, by decide⟩ ⟨Nat.zero_le _, Nat.zero_le _⟩ hl.1 rfl (Nat.le_of_ble_eq_true rfl) dX6_count_126 (fun H locs hW => ?_)
        have hW := Wd.f1 hW
        exact r_reti M hW rfl ⟨by rw [rX6_count, if_pos c_8, if_neg c_25_0, if_pos c_25_1], rfl⟩ (Nat.zero_le _) (Nat.zero_le _) dX6_count_129
      · skip
        by_cases c_25_2 : x = 2
        · skip
          refine lv_tableIn (off := 105) (tgt := 130) hx hb dX6_count_25 (by rw [c_25_2]; decide) (by rw [c_25_2]; decide) (by rw [c_25_2]; rfl) (by decide) ?_
          refine lv_aload_n hx hb dX6_count_130 rfl (lv_at hl 0 rfl) ?_
          refine gt_Sys_0_0 M hW kw_254 dX6_count_131 ?_
          refine gt_Leg_0_2 M hW.drop kw_374 dX6_count_134 ?_
          refine gt_Leg_4_1 M hW.drop kw_376 (x := g 4 1) rfl dX6_count_137 ?_
          exact r_reti M hW rfl ⟨by rw [rX6_count, if_pos c_8, if_neg c_25_0, if_neg c_25_1, if_pos c_25_2], rfl⟩ (Nat.zero_le _) (Nat.zero_le _) dX6_count_140
        · skip
          by_cases c_25_3 : x = 3
          · skip
            refine lv_tableIn (off := 116) (tgt := 141) hx hb dX6_count_25 (by rw [c_25_3]; decide) (by rw [c_25_3]; decide) (by rw [c_25_3]; rfl) (by decide) ?_
            refine lv_aload_n hx hb dX6_count_141 rfl (lv_at hl 0 rfl) ?_
            refine gt_Sys_0_0 M hW kw_254 dX6_count_142 ?_
            refine gt_Leg_0_2 M hW.drop kw_374 dX6_count_145 ?_
            refine gt_Leg_4_2 M hW.drop kw_377 (x := g 4 2) rfl dX6_count_148 ?_
            exact r_reti M hW rfl ⟨by rw [rX6_count, if_pos c_8, if_neg c_25_0, if_neg c_25_1, if_neg c_25_2, if_pos c_25_3], rfl⟩ (Nat.zero_le _) (Nat.zero_le _) dX6_count_151
          · skip
            by_cases c_25_4 : x = 4
            · skip
              refine lv_tableIn (off := 127) (tgt := 152) hx hb dX6_count_25 (by rw [c_25_4]; decide) (by rw [c_25_4]; decide) (by rw [c_25_4]; rfl) (by decide) ?_
              refine lv_aload_n hx hb dX6_count_152 rfl (lv_at hl 0 rfl) ?_
              refine gt_Sys_0_0 M hW kw_254 dX6_count_153 ?_
              refine gt_Leg_0_2 M hW.drop kw_374 dX6_count_156 ?_
              refine gt_Leg_4_3 M hW.drop kw_378 (x := g 4 3) rfl dX6_count_159 ?_
              exact r_reti M hW rfl ⟨by rw [rX6_count, if_pos c_8, if_neg c_25_0, if_neg c_25_1, if_neg c_25_2, if_neg c_25_3, if_pos c_25_4], rfl⟩ (Nat.zero_le _) (Nat.zero_le _) dX6_count_162
            · skip
              by_cases c_25_5 : x = 5
              · skip
                refine lv_tableIn (off := 138) (tgt := 163) hx hb dX6_count_25 (by rw [c_25_5]; decide) (by rw [c_25_5]; decide) (by rw [c_25_5]; rfl) (by decide) ?_
                refine lv_aload_n hx hb dX6_count_163 rfl (lv_at hl 0 rfl) ?_
                refine gt_Sys_0_0 M hW kw_254 dX6_count_164 ?_
                refine gt_Leg_0_2 M hW.drop kw_374 dX6_count_167 ?_
                refine gt_Leg_4_4 M hW.drop kw_379 (x := g 4 4) rfl dX6_count_170 ?_
                exact r_reti M hW rfl ⟨by rw [rX6_count, if_pos c_8, if_neg c_25_0, if_neg c_25_1, if_neg c_25_2, if_neg c_25_3, if_neg c_25_4, if_pos c_25_5], rfl⟩ (Nat.zero_le _) (Nat.zero_le _) dX6_count_173
              · skip
                by_cases c_25_6 : x = 6
                · skip
                  refine lv_tableIn (off := 149) (tgt := 174) hx hb dX6_count_25 (by rw [c_25_6]; decide) (by rw [c_25_6]; decide) (by rw [c_25_6]; rfl) (by decide) ?_
                  refine lv_aload_n hx hb dX6_count_174 rfl (lv_at hl 0 rfl) ?_
                  refine gt_Sys_0_0 M hW kw_254 dX6_count_175 ?_
                  refine gt_Leg_0_2 M hW.drop kw_374 dX6_count_178 ?_
                  refine gt_Leg_4_5 M hW.drop kw_380 (x := g 4 5) rfl dX6_count_181 ?_
                  exact r_reti M hW rfl ⟨by rw [rX6_count, if_pos c_8, if_neg c_25_0, if_neg c_25_1, if_neg c_25_2, if_neg c_25_3, if_neg c_25_4, if_neg c_25_5, if_pos c_25_6], rfl⟩ (Nat.zero_le _) (Nat.zero_le _) dX6_count_184
                · skip
                  by_cases c_25_7 : x = 7
                  · skip
                    refine lv_tableIn (off := 160) (tgt := 185) hx hb dX6_count_25 (by rw [c_25_7]; decide) (by rw [c_25_7]; decide) (by rw [c_25_7]; rfl) (by decide) ?_
                    refine lv_aload_n hx hb dX6_count_185 rfl (lv_at hl 0 rfl) ?_
                    refine gt_Sys_0_0 M hW kw_254 dX6_count_186 ?_
                    have hW := Wd.f1 hW
                    refine r_callVi M hW (c_X3_load l G (z 1) g  (SysW G z so ++ (HistW G z sh ++ (TextW G (z 10) t ++ Y))) hOK) rfl kw_388 kw_129 kw_130 kw_80 kw_122 pl_X3_load 0 rfl rfl ⟨by decide, by decide⟩ ⟨Nat.zero_le _, Nat.zero_le _⟩ hl.1 rfl (Nat.le_of_ble_eq_true rfl) dX6_count_189 (fun H locs hW => ?_)
                    have hW := Wd.f1 hW
                    exact r_reti M hW rfl ⟨by rw [rX6_count, if_pos c_8, if_neg c_25_0, if_neg c_25_1, if_neg c_25_2, if_neg c_25_3, if_neg c_25_4, if_neg c_25_5, if_neg c_25_6, if_pos c_25_7], rfl⟩ (Nat.zero_le _) (Nat.zero_le _) dX6_count_192
                  · skip
                    by_cases c_25_8 : x = 8
                    · skip
                      refine lv_tableIn (off := 168) (tgt := 193) hx hb dX6_count_25 (by rw [c_25_8]; decide) (by rw [c_25_8]; decide) (by rw [c_25_8]; rfl) (by decide) ?_
                      refine lv_aload_n hx hb dX6_count_193 rfl (lv_at hl 0 rfl) ?_
                      refine gt_Sys_0_0 M hW kw_254 dX6_count_194 ?_
                      refine gt_Leg_0_8 M hW.drop kw_381 (x := g 0 8) rfl dX6_count_197 ?_
                      exact r_reti M hW rfl ⟨by rw [rX6_count, if_pos c_8, if_neg c_25_0, if_neg c_25_1, if_neg c_25_2, if_neg c_25_3, if_neg c_25_4, if_neg c_25_5, if_neg c_25_6, if_neg c_25_7, if_pos c_25_8], rfl⟩ (Nat.zero_le _) (Nat.zero_le _) dX6_count_200
                    · skip
                      by_cases c_25_9 : x = 9
                      · skip
                        refine lv_tableIn (off := 176) (tgt := 201) hx hb dX6_count_25 (by rw [c_25_9]; decide) (by rw [c_25_9]; decide) (by rw [c_25_9]; rfl) (by decide) ?_
                        refine lv_aload_n hx hb dX6_count_201 rfl (lv_at hl 0 rfl) ?_
                        refine gt_Sys_0_0 M hW kw_254 dX6_count_202 ?_
                        refine gt_Leg_0_9 M hW.drop kw_382 (x := g 0 9) rfl dX6_count_205 ?_
                        exact r_reti M hW rfl ⟨by rw [rX6_count, if_pos c_8, if_neg c_25_0, if_neg c_25_1, if_neg c_25_2, if_neg c_25_3, if_neg c_25_4, if_neg c_25_5, if_neg c_25_6, if_neg c_25_7, if_neg c_25_8, if_pos c_25_9], rfl⟩ (Nat.zero_le _) (Nat.zero_le _) dX6_count_208
                      · skip
                        by_cases c_25_10 : x = 10
                        · skip
                          refine lv_tableIn (off := 184) (tgt := 209) hx hb dX6_count_25 (by rw [c_25_10]; decide) (by rw [c_25_10]; decide) (by rw [c_25_10]; rfl) (by decide) ?_
                          refine lv_aload_n hx hb dX6_count_209 rfl (lv_at hl 0 rfl) ?_
                          refine gt_Sys_0_0 M hW kw_254 dX6_count_210 ?_
                          refine gt_Leg_0_10 M hW.drop kw_383 (x := g 0 10) rfl dX6_count_213 ?_
                          exact r_reti M hW rfl ⟨by rw [rX6_count, if_pos c_8, if_neg c_25_0, if_neg c_25_1, if_neg c_25_2, if_neg c_25_3, if_neg c_25_4, if_neg c_25_5, if_neg c_25_6, if_neg c_25_7, if_neg c_25_8, if_neg c_25_9, if_pos c_25_10], rfl⟩ (Nat.zero_le _) (Nat.zero_le _) dX6_count_216
                        · skip
                          by_cases c_25_11 : x = 11
                          · skip
                            refine lv_tableIn (off := 192) (tgt := 217) hx hb dX6_count_25 (by rw [c_25_11]; decide) (by rw [c_25_11]; decide) (by rw [c_25_11]; rfl) (by decide) ?_
                            refine lv_aload_n hx hb dX6_count_217 rfl (lv_at hl 0 rfl) ?_
                            refine gt_Sys_0_0 M hW kw_254 dX6_count_218 ?_
                            refine gt_Leg_0_6 M hW.drop kw_353 (x := g 0 6) rfl dX6_count_221 ?_
                            refine lv_if_eq (tgt := 231) hx hb dX6_count_224 (by decide) (fun c_224 => ?_) (fun c_224 => ?_)
                            · skip
                              refine lv_iconst (v := 0) hx hb dX6_count_231 (by decide) ?_
                              exact r_reti M hW rfl ⟨by rw [rX6_count, if_pos c_8, if_neg c_25_0, if_neg c_25_1, if_neg c_25_2, if_neg c_25_3, if_neg c_25_4, if_neg c_25_5, if_neg c_25_6, if_neg c_25_7, if_neg c_25_8, if_neg c_25_9, if_neg c_25_10, if_pos c_25_11, if_pos c_224], rfl⟩ (Nat.zero_le _) (Nat.zero_le _) dX6_count_232
                            · skip
                              refine lv_iconst (v := 1) hx hb dX6_count_227 (by decide) ?_
                              refine lv_goto (tgt := 232) hx hb dX6_count_228 (by decide) ?_
                              exact r_reti M hW rfl ⟨by rw [rX6_count, if_pos c_8, if_neg c_25_0, if_neg c_25_1, if_neg c_25_2, if_neg c_25_3, if_neg c_25_4, if_neg c_25_5, if_neg c_25_6, if_neg c_25_7, if_neg c_25_8, if_neg c_25_9, if_neg c_25_10, if_pos c_25_11, if_neg c_224], rfl⟩ (Nat.zero_le _) (Nat.zero_le _) dX6_count_232
                          · skip
                            by_cases c_25_12 : x = 12
                            · skip
                              refine lv_tableIn (off := 208) (tgt := 233) hx hb dX6_count_25 (by rw [c_25_12]; decide) (by rw [c_25_12]; decide) (by rw [c_25_12]; rfl) (by decide) ?_
                              refine lv_aload_n hx hb dX6_count_233 rfl (lv_at hl 0 rfl) ?_
                              refine gt_Sys_0_0 M hW kw_254 dX6_count_234 ?_
                              refine gt_Leg_0_7 M hW.drop kw_384 (x := g 0 7) rfl dX6_count_237 ?_
                              refine lv_if_eq (tgt := 247) hx hb dX6_count_240 (by decide) (fun c_240 => ?_) (fun c_240 => ?_)
                              · skip
                                refine lv_iconst (v := 0) hx hb dX6_count_247 (by decide) ?_
                                exact r_reti M hW rfl ⟨by rw [rX6_count, if_pos c_8, if_neg c_25_0, if_neg c_25_1, if_neg c_25_2, if_neg c_25_3, if_neg c_25_4, if_neg c_25_5, if_neg c_25_6, if_neg c_25_7, if_neg c_25_8, if_neg c_25_9, if_neg c_25_10, if_neg c_25_11, if_pos c_25_12, if_pos c_240], rfl⟩ (Nat.zero_le _) (Nat.zero_le _) dX6_count_248
                              · skip
                                refine lv_iconst (v := 1) hx hb dX6_count_243 (by decide) ?_
                                refine lv_goto (tgt := 248) hx hb dX6_count_244 (by decide) ?_
                                exact r_reti M hW rfl ⟨by rw [rX6_count, if_pos c_8, if_neg c_25_0, if_neg c_25_1, if_neg c_25_2, if_neg c_25_3, if_neg c_25_4, if_neg c_25_5, if_neg c_25_6, if_neg c_25_7, if_neg c_25_8, if_neg c_25_9, if_neg c_25_10, if_neg c_25_11, if_pos c_25_12, if_neg c_240], rfl⟩ (Nat.zero_le _) (Nat.zero_le _) dX6_count_248
                            · skip
                              by_cases c_25_13 : x = 13
                              · skip
                                refine lv_tableIn (off := 224) (tgt := 249) hx hb dX6_count_25 (by rw [c_25_13]; decide) (by rw [c_25_13]; decide) (by rw [c_25_13]; rfl) (by decide) ?_
                                refine lv_aload_n hx hb dX6_count_249 rfl (lv_at hl 0 rfl) ?_
                                refine gt_Sys_0_0 M hW kw_254 dX6_count_250 ?_
                                refine gt_Leg_0_11 M hW.drop kw_385 (x := g 0 11) rfl dX6_count_253 ?_
                                exact r_reti M hW rfl ⟨by rw [rX6_count, if_pos c_8, if_neg c_25_0, if_neg c_25_1, if_neg c_25_2, if_neg c_25_3, if_neg c_25_4, if_neg c_25_5, if_neg c_25_6, if_neg c_25_7, if_neg c_25_8, if_neg c_25_9, if_neg c_25_10, if_neg c_25_11, if_neg c_25_12, if_pos c_25_13], rfl⟩ (Nat.zero_le _) (Nat.zero_le _) dX6_count_256
                              · skip
                                by_cases c_25_14 : x = 14
                                · skip
                                  refine lv_tableIn (off := 232) (tgt := 257) hx hb dX6_count_25 (by rw [c_25_14]; decide) (by rw [c_25_14]; decide) (by rw [c_25_14]; rfl) (by decide) ?_
                                  refine lv_aload_n hx hb dX6_count_257 rfl (lv_at hl 0 rfl) ?_
                                  refine gt_Sys_0_0 M hW kw_254 dX6_count_258 ?_
                                  refine gt_Leg_0_12 M hW.drop kw_339 (x := g 0 12) rfl dX6_count_261 ?_
                                  exact r_reti M hW rfl ⟨by rw [rX6_count, if_pos c_8, if_neg c_25_0, if_neg c_25_1, if_neg c_25_2, if_neg c_25_3, if_neg c_25_4, if_neg c_25_5, if_neg c_25_6, if_neg c_25_7, if_neg c_25_8, if_neg c_25_9, if_neg c_25_10, if_neg c_25_11, if_neg c_25_12, if_neg c_25_13, if_pos c_25_14], rfl⟩ (Nat.zero_le _) (Nat.zero_le _) dX6_count_264
                                · skip
                                  by_cases c_25_15 : x = 15
                                  · skip
                                    refine lv_tableIn (off := 240) (tgt := 265) hx hb dX6_count_25 (by rw [c_25_15]; decide) (by rw [c_25_15]; decide) (by rw [c_25_15]; rfl) (by decide) ?_
                                    refine lv_aload_n hx hb dX6_count_265 rfl (lv_at hl 0 rfl) ?_
                                    refine gt_Sys_0_3 M hW kw_259 dX6_count_266 ?_
                                    refine gt_Hist_0_2 M (hW.drop.drop) kw_333 (x := sh 0 2) rfl dX6_count_269 ?_
                                    exact r_reti M hW rfl ⟨by rw [rX6_count, if_pos c_8, if_neg c_25_0, if_neg c_25_1, if_neg c_25_2, if_neg c_25_3, if_neg c_25_4, if_neg c_25_5, if_neg c_25_6, if_neg c_25_7, if_neg c_25_8, if_neg c_25_9, if_neg c_25_10, if_neg c_25_11, if_neg c_25_12, if_neg c_25_13, if_neg c_25_14, if_pos c_25_15], rfl⟩ (Nat.zero_le _) (Nat.zero_le _) dX6_count_272
                                  · skip
                                    by_cases c_25_16 : x = 16
                                    · skip
                                      refine lv_tableIn (off := 248) (tgt := 273) hx hb dX6_count_25 (by rw [c_25_16]; decide) (by rw [c_25_16]; decide) (by rw [c_25_16]; rfl) (by decide) ?_
                                      refine lv_aload_n hx hb dX6_count_273 rfl (lv_at hl 0 rfl) ?_
                                      refine gt_Sys_0_6 M hW kw_263 dX6_count_274 ?_
                                      refine gt_Text_0_1 M (hW.drop.drop.drop) kw_386 (x := t 0 1) rfl dX6_count_277 ?_
                                      exact r_reti M hW rfl ⟨by rw [rX6_count, if_pos c_8, if_neg c_25_0, if_neg c_25_1, if_neg c_25_2, if_neg c_25_3, if_neg c_25_4, if_neg c_25_5, if_neg c_25_6, if_neg c_25_7, if_neg c_25_8, if_neg c_25_9, if_neg c_25_10, if_neg c_25_11, if_neg c_25_12, if_neg c_25_13, if_neg c_25_14, if_neg c_25_15, if_pos c_25_16], rfl⟩ (Nat.zero_le _) (Nat.zero_le _) dX6_count_280
                                    · skip
                                      refine lv_tableOut (tgt := 281) hx hb dX6_count_25 (tbl_out (0) (16) (fun k h1 h2 => ?_)) (by decide) ?_
                                      · have h3 : k = 0 ∨ k = 1 ∨ k = 2 ∨ k = 3 ∨ k = 4 ∨ k = 5 ∨ k = 6 ∨ k = 7 ∨ k = 8 ∨ k = 9 ∨ k = 10 ∨ k = 11 ∨ k = 12 ∨ k = 13 ∨ k = 14 ∨ k = 15 ∨ k = 16 := by omega
                                        rcases h3 with rfl | rfl | rfl | rfl | rfl | rfl | rfl | rfl | rfl | rfl | rfl | rfl | rfl | rfl | rfl | rfl | rfl
                                        · exact c_25_0
                                        · exact c_25_1
                                        · exact c_25_2
                                        · exact c_25_3
                                        · exact c_25_4
                                        · exact c_25_5
                                        · exact c_25_6
                                        · exact c_25_7
                                        · exact c_25_8
                                        · exact c_25_9
                                        · exact c_25_10
                                        · exact c_25_11
                                        · exact c_25_12
                                        · exact c_25_13
                                        · exact c_25_14
                                        · exact c_25_15
                                        · exact c_25_16
                                      refine lv_bipush (v := (-102)) hx hb dX6_count_281 (by decide) ?_
                                      exact r_reti M hW rfl ⟨by rw [rX6_count, if_pos c_8, if_neg c_25_0, if_neg c_25_1, if_neg c_25_2, if_neg c_25_3, if_neg c_25_4, if_neg c_25_5, if_neg c_25_6, if_neg c_25_7, if_neg c_25_8, if_neg c_25_9, if_neg c_25_10, if_neg c_25_11, if_neg c_25_12, if_neg c_25_13, if_neg c_25_14, if_neg c_25_15, if_neg c_25_16], rfl⟩ (Nat.zero_le _) (Nat.zero_le _) dX6_count_283
  · skip
    have hk := in20 c_8
    refine lv_aload_n hx hb dX6_count_11 rfl (lv_at hl 0 rfl) ?_
    refine gt_Sys_0_0 M hW kw_254 dX6_count_12 ?_
    refine gt_Leg_0_0 M hW.drop kw_360 dX6_count_15 ?_
    refine lv_iload_n hx hb dX6_count_18 rfl (lv_at hl 1 rfl) ?_
    refine lv_bipush (v := 20) hx hb dX6_count_19 (by decide) ?_
    refine lv_isub hx hb dX6_count_21 ?_
    refine al_Leg_1 M hW.drop (x.toNatClampNeg - 20) (sub_of hk.1 hk.2.1) (by omega) (x := g 1 (x.toNatClampNeg - 20)) rfl dX6_count_22 ?_
    exact r_reti M hW rfl ⟨by rw [rX6_count, if_neg c_8], rfl⟩ (Nat.zero_le _) (Nat.zero_le _) dX6_count_23
