def rX6_set (g : Nat → Nat → Int32) (x : Int32) (y : Int32) : Int32 := rX6_recorded (rX3_setNumber g x y)
def sX6_set2 (g : Nat → Nat → Int32) (x : Int32) (y : Int32) : Nat → Nat → Int32 := sX3_setNumber g x y
def sX6_set3 (g : Nat → Nat → Int32) : Nat → Nat → Int32 := sX3_become g
def sX6_set4 (g : Nat → Nat → Int32) (sh : Nat → Nat → Int32) (x : Int32) (y : Int32) : Nat → Nat → Int32 := sX6_recorded2 sh (rX3_setNumber g x y)
def sX6_set5 (g : Nat → Nat → Int32) (sh : Nat → Nat → Int32) (q0 : Nat → Nat → Int32) (x : Int32) (y : Int32) : Nat → Nat → Int32 := sX6_recorded3 sh q0 (sX3_become g) (rX3_setNumber g x y)
def sX6_set6 (g : Nat → Nat → Int32) (sh : Nat → Nat → Int32) (q1 : Nat → Nat → Int32) (x : Int32) (y : Int32) : Nat → Nat → Int32 := sX6_recorded4 sh q1 (sX3_become g) (rX3_setNumber g x y)
def sX6_set7 (g : Nat → Nat → Int32) (sh : Nat → Nat → Int32) (q2 : Nat → Nat → Int32) (x : Int32) (y : Int32) : Nat → Nat → Int32 := sX6_recorded5 sh q2 (sX3_become g) (rX3_setNumber g x y)
def sX6_set8 (g : Nat → Nat → Int32) (sh : Nat → Nat → Int32) (q3 : Nat → Nat → Int32) (x : Int32) (y : Int32) : Nat → Nat → Int32 := sX6_recorded6 sh q3 (sX3_become g) (rX3_setNumber g x y)
set_option maxHeartbeats 4000000 in
set_option maxRecDepth 100000 in
/-- X6.set -/
theorem c_X6_set (l : Launch) (G : Gp) (z : Nat → Nat → Nat) (so : Nat → Nat → Int32) (g : Nat → Nat → Int32) (gB : Nat → Nat → Int32) (sh : Nat → Nat → Int32) (q0 : Nat → Nat → Int32) (q1 : Nat → Nat → Int32) (q2 : Nat → Nat → Int32) (q3 : Nat → Nat → Int32) (x : Int32) (y : Int32) (Y : va_W) (hz : LZ g) (hh : HOK sh) : Cn l G yX6_set cX6_set 3 (some .int) 6 [.ref (z 0 0), .int x, .int y] (SysW G z so ++ (LegW G (z 1) g ++ (LegW G (z 2) gB ++ (HistW G z sh ++ (LegW G (z 6) q0 ++ (LegW G (z 7) q1 ++ (LegW G (z 8) q2 ++ (LegW G (z 9) q3 ++ Y)))))))) (some (.int (rX6_set g x y))) (SysW G z so ++ (LegW G (z 1) (sX6_set2 g x y) ++ (LegW G (z 2) (sX6_set3 g) ++ (HistW G z (sX6_set4 g sh x y) ++ (LegW G (z 6) (sX6_set5 g sh q0 x y) ++ (LegW G (z 7) (sX6_set6 g sh q1 x y) ++ (LegW G (z 8) (sX6_set7 g sh q2 x y) ++ (LegW G (z 9) (sX6_set8 g sh q3 x y) ++ Y)))))))) := by
  refine CnE.of (by decide) (Nat.le_of_ble_eq_true rfl) ?_
  intro p e s m below meth c ls M hnm hl hW
  have hx := M.1
  have hb := M.2.1
  have hl : lv_has ls 3 [(0, .ref (z 0 0)), (1, .int x), (2, .int y)] := hl
  refine lv_aload_n hx hb dX6_set_0 rfl (lv_at hl 0 rfl) ?_
  refine gt_Sys_0_1 M hW kw_255 dX6_set_1 ?_
  refine lv_aload_n hx hb dX6_set_4 rfl (lv_at hl 0 rfl) ?_
  refine gt_Sys_0_0 M hW kw_254 dX6_set_5 ?_
  have hW := Wd.f1 hW
  have hW := Wd.f2 hW
  refine r_callVv M hW (c_X3_become l G (z 2) (z 1) gB g  (SysW G z so ++ (HistW G z sh ++ (LegW G (z 6) q0 ++ (LegW G (z 7) q1 ++ (LegW G (z 8) q2 ++ (LegW G (z 9) q3 ++ Y)))))) hz.1 hz.2) rfl kw_277 kw_115 kw_116 kw_80 kw_108 pl_X3_become 0 rfl rfl ⟨by decide, by decide⟩ ⟨Nat.zero_le _, Nat.zero_le _⟩ hl.1 rfl (Nat.le_of_ble_eq_true rfl) dX6_set_8 (fun H locs hW => ?_)
  refine lv_aload_n hx hb dX6_set_11 rfl (lv_at hl 0 rfl) ?_
  refine lv_aload_n hx hb dX6_set_12 rfl (lv_at hl 0 rfl) ?_
  refine gt_Sys_0_0 M (hW.drop.drop) kw_254 dX6_set_13 ?_
  refine lv_iload_n hx hb dX6_set_16 rfl (lv_at hl 1 rfl) ?_
  refine lv_iload_n hx hb dX6_set_17 rfl (lv_at hl 2 rfl) ?_
  have hW := Wd.f1 hW
  refine r_callVi M hW (c_X3_setNumber l G (z 1) g x y (LegW G (z 2) (sX3_become g) ++ (SysW G z so ++ (HistW G z sh ++ (LegW G (z 6) q0 ++ (LegW G (z 7) q1 ++ (LegW G (z 8) q2 ++ (LegW G (z 9) q3 ++ Y)))))))) rfl kw_278 kw_279 kw_280 kw_80 kw_119 pl_X3_setNumber 0 rfl rfl ⟨by decide, by decide⟩ ⟨Nat.zero_le _, Nat.zero_le _⟩ hl.1 rfl (Nat.le_of_ble_eq_true rfl) dX6_set_18 (fun H locs hW => ?_)
  have hW := Wd.f1 hW
  have hW := Wd.f7 hW
  have hW := Wd.f7 hW
  have hW := Wd.f7 hW
  have hW := Wd.f7 hW
  have hW := Wd.f7 hW
  have hW := Wd.f7 hW
  refine r_callVi M hW (c_X6_recorded l G z so sh q0 q1 q2 q3 (sX3_become g) (rX3_setNumber g x y) (LegW G (z 1) (sX3_setNumber g x y) ++ Y) hh hz) rfl kw_281 kw_282 kw_283 kw_15 kw_276 pl_X6_recorded 0 rfl rfl ⟨by decide, by decide⟩ ⟨Nat.zero_le _, Nat.zero_le _⟩ hl.1 rfl (Nat.le_of_ble_eq_true rfl) dX6_set_21 (fun H locs hW => ?_)
  have hW := Wd.f6 hW
  have hW := Wd.f7 hW
  have hW := Wd.f2 hW
  exact r_reti M hW (by rw [sX6_set2, sX6_set3, sX6_set4, sX6_set5, sX6_set6, sX6_set7, sX6_set8]) ⟨by rw [rX6_set], rfl⟩ (Nat.zero_le _) (Nat.zero_le _) dX6_set_24

def rX6_gate (g : Nat → Nat → Int32) (x : Int32) : Int32 := rX6_recorded (rX3_moveGate g x)
def sX6_gate2 (g : Nat → Nat → Int32) (x : Int32) : Nat → Nat → Int32 := sX3_moveGate g x
def sX6_gate3 (g : Nat → Nat → Int32) : Nat → Nat → Int32 := sX3_become g
def sX6_gate4 (g : Nat → Nat → Int32) (sh : Nat → Nat → Int32) (x : Int32) : Nat → Nat → Int32 := sX6_recorded2 sh (rX3_moveGate g x)
def sX6_gate5 (g : Nat → Nat → Int32) (sh : Nat → Nat → Int32) (q0 : Nat → Nat → Int32) (x : Int32) : Nat → Nat → Int32 := sX6_recorded3 sh q0 (sX3_become g) (rX3_moveGate g x)
def sX6_gate6 (g : Nat → Nat → Int32) (sh : Nat → Nat → Int32) (q1 : Nat → Nat → Int32) (x : Int32) : Nat → Nat → Int32 := sX6_recorded4 sh q1 (sX3_become g) (rX3_moveGate g x)
def sX6_gate7 (g : Nat → Nat → Int32) (sh : Nat → Nat → Int32) (q2 : Nat → Nat → Int32) (x : Int32) : Nat → Nat → Int32 := sX6_recorded5 sh q2 (sX3_become g) (rX3_moveGate g x)
def sX6_gate8 (g : Nat → Nat → Int32) (sh : Nat → Nat → Int32) (q3 : Nat → Nat → Int32) (x : Int32) : Nat → Nat → Int32 := sX6_recorded6 sh q3 (sX3_become g) (rX3_moveGate g x)
set_option maxHeartbeats 4000000 in
set_option maxRecDepth 100000 in
/-- X6.gate -/
theorem c_X6_gate (l : Launch) (G : Gp) (z : Nat → Nat → Nat) (so : Nat → Nat → Int32) (g : Nat → Nat → Int32) (gB : Nat → Nat → Int32) (sh : Nat → Nat → Int32) (q0 : Nat → Nat → Int32) (q1 : Nat → Nat → Int32) (q2 : Nat → Nat → Int32) (q3 : Nat → Nat → Int32) (x : Int32) (Y : va_W) (hz : LZ g) (hx01 : x = 0 ∨ x = 1) (hh : HOK sh) : Cn l G yX6_gate cX6_gate 2 (some .int) 6 [.ref (z 0 0), .int x] (SysW G z so ++ (LegW G (z 1) g ++ (LegW G (z 2) gB ++ (HistW G z sh ++ (LegW G (z 6) q0 ++ (LegW G (z 7) q1 ++ (LegW G (z 8) q2 ++ (LegW G (z 9) q3 ++ Y)))))))) (some (.int (rX6_gate g x))) (SysW G z so ++ (LegW G (z 1) (sX6_gate2 g x) ++ (LegW G (z 2) (sX6_gate3 g) ++ (HistW G z (sX6_gate4 g sh x) ++ (LegW G (z 6) (sX6_gate5 g sh q0 x) ++ (LegW G (z 7) (sX6_gate6 g sh q1 x) ++ (LegW G (z 8) (sX6_gate7 g sh q2 x) ++ (LegW G (z 9) (sX6_gate8 g sh q3 x) ++ Y)))))))) := by
  refine CnE.of (by decide) (Nat.le_of_ble_eq_true rfl) ?_
  intro p e s m below meth c ls M hnm hl hW
  have hx := M.1
  have hb := M.2.1
  have hl : lv_has ls 2 [(0, .ref (z 0 0)), (1, .int x)] := hl
  refine lv_aload_n hx hb dX6_gate_0 rfl (lv_at hl 0 rfl) ?_
  refine gt_Sys_0_1 M hW kw_255 dX6_gate_1 ?_
  refine lv_aload_n hx hb dX6_gate_4 rfl (lv_at hl 0 rfl) ?_
  refine gt_Sys_0_0 M hW kw_254 dX6_gate_5 ?_
  have hW := Wd.f1 hW
  have hW := Wd.f2 hW
  refine r_callVv M hW (c_X3_become l G (z 2) (z 1) gB g  (SysW G z so ++ (HistW G z sh ++ (LegW G (z 6) q0 ++ (LegW G (z 7) q1 ++ (LegW G (z 8) q2 ++ (LegW G (z 9) q3 ++ Y)))))) hz.1 hz.2) rfl kw_277 kw_115 kw_116 kw_80 kw_108 pl_X3_become 0 rfl rfl ⟨by decide, by decide⟩ ⟨Nat.zero_le _, Nat.zero_le _⟩ hl.1 rfl (Nat.le_of_ble_eq_true rfl) dX6_gate_8 (fun H locs hW => ?_)
  refine lv_aload_n hx hb dX6_gate_11 rfl (lv_at hl 0 rfl) ?_
  refine lv_aload_n hx hb dX6_gate_12 rfl (lv_at hl 0 rfl) ?_
  refine gt_Sys_0_0 M (hW.drop.drop) kw_254 dX6_gate_13 ?_
  refine lv_iload_n hx hb dX6_gate_16 rfl (lv_at hl 1 rfl) ?_
  have hW := Wd.f1 hW
  refine r_callVi M hW (c_X3_moveGate l G (z 1) g x (LegW G (z 2) (sX3_become g) ++ (SysW G z so ++ (HistW G z sh ++ (LegW G (z 6) q0 ++ (LegW G (z 7) q1 ++ (LegW G (z 8) q2 ++ (LegW G (z 9) q3 ++ Y))))))) hx01) rfl kw_285 kw_286 kw_287 kw_80 kw_120 pl_X3_moveGate 0 rfl rfl ⟨by decide, by decide⟩ ⟨Nat.zero_le _, Nat.zero_le _⟩ hl.1 rfl (Nat.le_of_ble_eq_true rfl) dX6_gate_17 (fun H locs hW => ?_)
  have hW := Wd.f1 hW
  have hW := Wd.f7 hW
  have hW := Wd.f7 hW
  have hW := Wd.f7 hW
  have hW := Wd.f7 hW
  have hW := Wd.f7 hW
  have hW := Wd.f7 hW
  refine r_callVi M hW (c_X6_recorded l G z so sh q0 q1 q2 q3 (sX3_become g) (rX3_moveGate g x) (LegW G (z 1) (sX3_moveGate g x) ++ Y) hh hz) rfl kw_281 kw_282 kw_283 kw_15 kw_276 pl_X6_recorded 0 rfl rfl ⟨by decide, by decide⟩ ⟨Nat.zero_le _, Nat.zero_le _⟩ hl.1 rfl (Nat.le_of_ble_eq_true rfl) dX6_gate_20 (fun H locs hW => ?_)
  have hW := Wd.f6 hW
  have hW := Wd.f7 hW
  have hW := Wd.f2 hW
  exact r_reti M hW (by rw [sX6_gate2, sX6_gate3, sX6_gate4, sX6_gate5, sX6_gate6, sX6_gate7, sX6_gate8]) ⟨by rw [rX6_gate], rfl⟩ (Nat.zero_le _) (Nat.zero_le _) dX6_gate_23

def rX6_start (g : Nat → Nat → Int32) : Int32 := rX6_recorded (rX3_switchOn g)
def sX6_start2 (g : Nat → Nat → Int32) : Nat → Nat → Int32 := sX3_switchOn g
def sX6_start3 (g : Nat → Nat → Int32) : Nat → Nat → Int32 := sX3_become g
def sX6_start4 (g : Nat → Nat → Int32) (sh : Nat → Nat → Int32) : Nat → Nat → Int32 := sX6_recorded2 sh (rX3_switchOn g)
def sX6_start5 (g : Nat → Nat → Int32) (sh : Nat → Nat → Int32) (q0 : Nat → Nat → Int32) : Nat → Nat → Int32 := sX6_recorded3 sh q0 (sX3_become g) (rX3_switchOn g)
def sX6_start6 (g : Nat → Nat → Int32) (sh : Nat → Nat → Int32) (q1 : Nat → Nat → Int32) : Nat → Nat → Int32 := sX6_recorded4 sh q1 (sX3_become g) (rX3_switchOn g)
def sX6_start7 (g : Nat → Nat → Int32) (sh : Nat → Nat → Int32) (q2 : Nat → Nat → Int32) : Nat → Nat → Int32 := sX6_recorded5 sh q2 (sX3_become g) (rX3_switchOn g)
def sX6_start8 (g : Nat → Nat → Int32) (sh : Nat → Nat → Int32) (q3 : Nat → Nat → Int32) : Nat → Nat → Int32 := sX6_recorded6 sh q3 (sX3_become g) (rX3_switchOn g)
set_option maxHeartbeats 4000000 in
set_option maxRecDepth 100000 in
/-- X6.start -/
theorem c_X6_start (l : Launch) (G : Gp) (z : Nat → Nat → Nat) (so : Nat → Nat → Int32) (g : Nat → Nat → Int32) (gB : Nat → Nat → Int32) (sh : Nat → Nat → Int32) (q0 : Nat → Nat → Int32) (q1 : Nat → Nat → Int32) (q2 : Nat → Nat → Int32) (q3 : Nat → Nat → Int32) (Y : va_W) (hz : LZ g) (hOK : LegOK g) (hh : HOK sh) : Cn l G yX6_start cX6_start 1 (some .int) 6 [.ref (z 0 0)] (SysW G z so ++ (LegW G (z 1) g ++ (LegW G (z 2) gB ++ (HistW G z sh ++ (LegW G (z 6) q0 ++ (LegW G (z 7) q1 ++ (LegW G (z 8) q2 ++ (LegW G (z 9) q3 ++ Y)))))))) (some (.int (rX6_start g))) (SysW G z so ++ (LegW G (z 1) (sX6_start2 g) ++ (LegW G (z 2) (sX6_start3 g) ++ (HistW G z (sX6_start4 g sh) ++ (LegW G (z 6) (sX6_start5 g sh q0) ++ (LegW G (z 7) (sX6_start6 g sh q1) ++ (LegW G (z 8) (sX6_start7 g sh q2) ++ (LegW G (z 9) (sX6_start8 g sh q3) ++ Y)))))))) := by
  refine CnE.of (by decide) (Nat.le_of_ble_eq_true rfl) ?_
  intro p e s m below meth c ls M hnm hl hW
  have hx := M.1
  have hb := M.2.1
  have hl : lv_has ls 1 [(0, .ref (z 0 0))] := hl
  refine lv_aload_n hx hb dX6_start_0 rfl (lv_at hl 0 rfl) ?_
  refine gt_Sys_0_1 M hW kw_255 dX6_start_1 ?_
  refine lv_aload_n hx hb dX6_start_4 rfl (lv_at hl 0 rfl) ?_
  refine gt_Sys_0_0 M hW kw_254 dX6_start_5 ?_
  have hW := Wd.f1 hW
  have hW := Wd.f2 hW
  refine r_callVv M hW (c_X3_become l G (z 2) (z 1) gB g  (SysW G z so ++ (HistW G z sh ++ (LegW G (z 6) q0 ++ (LegW G (z 7) q1 ++ (LegW G (z 8) q2 ++ (LegW G (z 9) q3 ++ Y)))))) hz.1 hz.2) rfl kw_277 kw_115 kw_116 kw_80 kw_108 pl_X3_become 0 rfl rfl ⟨by decide, by decide⟩ ⟨Nat.zero_le _, Nat.zero_le _⟩ hl.1 rfl (Nat.le_of_ble_eq_true rfl) dX6_start_8 (fun H locs hW => ?_)
  refine lv_aload_n hx hb dX6_start_11 rfl (lv_at hl 0 rfl) ?_
  refine lv_aload_n hx hb dX6_start_12 rfl (lv_at hl 0 rfl) ?_
  refine gt_Sys_0_0 M (hW.drop.drop) kw_254 dX6_start_13 ?_
  have hW := Wd.f1 hW
  refine r_callVi M hW (c_X3_switchOn l G (z 1) g  (LegW G (z 2) (sX3_become g) ++ (SysW G z so ++ (HistW G z sh ++ (LegW G (z 6) q0 ++ (LegW G (z 7) q1 ++ (LegW G (z 8) q2 ++ (LegW G (z 9) q3 ++ Y))))))) hOK) rfl kw_289 kw_290 kw_291 kw_80 kw_127 pl_X3_switchOn 0 rfl rfl ⟨by decide, by decide⟩ ⟨Nat.zero_le _, Nat.zero_le _⟩ hl.1 rfl (Nat.le_of_ble_eq_true rfl) dX6_start_16 (fun H locs hW => ?_)
  have hW := Wd.f1 hW
  have hW := Wd.f7 hW
  have hW := Wd.f7 hW
  have hW := Wd.f7 hW
  have hW := Wd.f7 hW
  have hW := Wd.f7 hW
  have hW := Wd.f7 hW
  refine r_callVi M hW (c_X6_recorded l G z so sh q0 q1 q2 q3 (sX3_become g) (rX3_switchOn g) (LegW G (z 1) (sX3_switchOn g) ++ Y) hh hz) rfl kw_281 kw_282 kw_283 kw_15 kw_276 pl_X6_recorded 0 rfl rfl ⟨by decide, by decide⟩ ⟨Nat.zero_le _, Nat.zero_le _⟩ hl.1 rfl (Nat.le_of_ble_eq_true rfl) dX6_start_19 (fun H locs hW => ?_)
  have hW := Wd.f6 hW
  have hW := Wd.f7 hW
  have hW := Wd.f2 hW
  exact r_reti M hW (by rw [sX6_start2, sX6_start3, sX6_start4, sX6_start5, sX6_start6, sX6_start7, sX6_start8]) ⟨by rw [rX6_start], rfl⟩ (Nat.zero_le _) (Nat.zero_le _) dX6_start_22

def rX6_stop (g : Nat → Nat → Int32) : Int32 := rX6_recorded (rX3_switchOff g)
def sX6_stop2 (g : Nat → Nat → Int32) : Nat → Nat → Int32 := sX3_switchOff g
def sX6_stop3 (g : Nat → Nat → Int32) : Nat → Nat → Int32 := sX3_become g
def sX6_stop4 (g : Nat → Nat → Int32) (sh : Nat → Nat → Int32) : Nat → Nat → Int32 := sX6_recorded2 sh (rX3_switchOff g)
def sX6_stop5 (g : Nat → Nat → Int32) (sh : Nat → Nat → Int32) (q0 : Nat → Nat → Int32) : Nat → Nat → Int32 := sX6_recorded3 sh q0 (sX3_become g) (rX3_switchOff g)
def sX6_stop6 (g : Nat → Nat → Int32) (sh : Nat → Nat → Int32) (q1 : Nat → Nat → Int32) : Nat → Nat → Int32 := sX6_recorded4 sh q1 (sX3_become g) (rX3_switchOff g)
def sX6_stop7 (g : Nat → Nat → Int32) (sh : Nat → Nat → Int32) (q2 : Nat → Nat → Int32) : Nat → Nat → Int32 := sX6_recorded5 sh q2 (sX3_become g) (rX3_switchOff g)
def sX6_stop8 (g : Nat → Nat → Int32) (sh : Nat → Nat → Int32) (q3 : Nat → Nat → Int32) : Nat → Nat → Int32 := sX6_recorded6 sh q3 (sX3_become g) (rX3_switchOff g)
set_option maxHeartbeats 4000000 in
set_option maxRecDepth 100000 in
/-- X6.stop -/
theorem c_X6_stop (l : Launch) (G : Gp) (z : Nat → Nat → Nat) (so : Nat → Nat → Int32) (g : Nat → Nat → Int32) (gB : Nat → Nat → Int32) (sh : Nat → Nat → Int32) (q0 : Nat → Nat → Int32) (q1 : Nat → Nat → Int32) (q2 : Nat → Nat → Int32) (q3 : Nat → Nat → Int32) (Y : va_W) (hz : LZ g) (hh : HOK sh) : Cn l G yX6_stop cX6_stop 1 (some .int) 6 [.ref (z 0 0)] (SysW G z so ++ (LegW G (z 1) g ++ (LegW G (z 2) gB ++ (HistW G z sh ++ (LegW G (z 6) q0 ++ (LegW G (z 7) q1 ++ (LegW G (z 8) q2 ++ (LegW G (z 9) q3 ++ Y)))))))) (some (.int (rX6_stop g))) (SysW G z so ++ (LegW G (z 1) (sX6_stop2 g) ++ (LegW G (z 2) (sX6_stop3 g) ++ (HistW G z (sX6_stop4 g sh) ++ (LegW G (z 6) (sX6_stop5 g sh q0) ++ (LegW G (z 7) (sX6_stop6 g sh q1) ++ (LegW G (z 8) (sX6_stop7 g sh q2) ++ (LegW G (z 9) (sX6_stop8 g sh q3) ++ Y)))))))) := by
  refine CnE.of (by decide) (Nat.le_of_ble_eq_true rfl) ?_
  intro p e s m below meth c ls M hnm hl hW
  have hx := M.1
  have hb := M.2.1
  have hl : lv_has ls 1 [(0, .ref (z 0 0))] := hl
  refine lv_aload_n hx hb dX6_stop_0 rfl (lv_at hl 0 rfl) ?_
  refine gt_Sys_0_1 M hW kw_255 dX6_stop_1 ?_
  refine lv_aload_n hx hb dX6_stop_4 rfl (lv_at hl 0 rfl) ?_
  refine gt_Sys_0_0 M hW kw_254 dX6_stop_5 ?_
  have hW := Wd.f1 hW
  have hW := Wd.f2 hW
  refine r_callVv M hW (c_X3_become l G (z 2) (z 1) gB g  (SysW G z so ++ (HistW G z sh ++ (LegW G (z 6) q0 ++ (LegW G (z 7) q1 ++ (LegW G (z 8) q2 ++ (LegW G (z 9) q3 ++ Y)))))) hz.1 hz.2) rfl kw_277 kw_115 kw_116 kw_80 kw_108 pl_X3_become 0 rfl rfl ⟨by decide, by decide⟩ ⟨Nat.zero_le _, Nat.zero_le _⟩ hl.1 rfl (Nat.le_of_ble_eq_true rfl) dX6_stop_8 (fun H locs hW => ?_)
  refine lv_aload_n hx hb dX6_stop_11 rfl (lv_at hl 0 rfl) ?_
  refine lv_aload_n hx hb dX6_stop_12 rfl (lv_at hl 0 rfl) ?_
  refine gt_Sys_0_0 M (hW.drop.drop) kw_254 dX6_stop_13 ?_
  have hW := Wd.f1 hW
  refine r_callVi M hW (c_X3_switchOff l G (z 1) g  (LegW G (z 2) (sX3_become g) ++ (SysW G z so ++ (HistW G z sh ++ (LegW G (z 6) q0 ++ (LegW G (z 7) q1 ++ (LegW G (z 8) q2 ++ (LegW G (z 9) q3 ++ Y)))))))) rfl kw_293 kw_294 kw_295 kw_80 kw_131 pl_X3_switchOff 0 rfl rfl ⟨by decide, by decide⟩ ⟨Nat.zero_le _, Nat.zero_le _⟩ hl.1 rfl (Nat.le_of_ble_eq_true rfl) dX6_stop_16 (fun H locs hW => ?_)
  have hW := Wd.f1 hW
  have hW := Wd.f7 hW
  have hW := Wd.f7 hW
  have hW := Wd.f7 hW
  have hW := Wd.f7 hW
  have hW := Wd.f7 hW
  have hW := Wd.f7 hW
  refine r_callVi M hW (c_X6_recorded l G z so sh q0 q1 q2 q3 (sX3_become g) (rX3_switchOff g) (LegW G (z 1) (sX3_switchOff g) ++ Y) hh hz) rfl kw_281 kw_282 kw_283 kw_15 kw_276 pl_X6_recorded 0 rfl rfl ⟨by decide, by decide⟩ ⟨Nat.zero_le _, Nat.zero_le _⟩ hl.1 rfl (Nat.le_of_ble_eq_true rfl) dX6_stop_19 (fun H locs hW => ?_)
  have hW := Wd.f6 hW
  have hW := Wd.f7 hW
  have hW := Wd.f2 hW
  exact r_reti M hW (by rw [sX6_stop2, sX6_stop3, sX6_stop4, sX6_stop5, sX6_stop6, sX6_stop7, sX6_stop8]) ⟨by rw [rX6_stop], rfl⟩ (Nat.zero_le _) (Nat.zero_le _) dX6_stop_22

def rX6_reset (g : Nat → Nat → Int32) : Int32 := rX6_recorded (rX3_forgetReason g)
def sX6_reset2 (g : Nat → Nat → Int32) : Nat → Nat → Int32 := sX3_forgetReason g
def sX6_reset3 (g : Nat → Nat → Int32) : Nat → Nat → Int32 := sX3_become g
def sX6_reset4 (g : Nat → Nat → Int32) (sh : Nat → Nat → Int32) : Nat → Nat → Int32 := sX6_recorded2 sh (rX3_forgetReason g)
def sX6_reset5 (g : Nat → Nat → Int32) (sh : Nat → Nat → Int32) (q0 : Nat → Nat → Int32) : Nat → Nat → Int32 := sX6_recorded3 sh q0 (sX3_become g) (rX3_forgetReason g)
def sX6_reset6 (g : Nat → Nat → Int32) (sh : Nat → Nat → Int32) (q1 : Nat → Nat → Int32) : Nat → Nat → Int32 := sX6_recorded4 sh q1 (sX3_become g) (rX3_forgetReason g)
def sX6_reset7 (g : Nat → Nat → Int32) (sh : Nat → Nat → Int32) (q2 : Nat → Nat → Int32) : Nat → Nat → Int32 := sX6_recorded5 sh q2 (sX3_become g) (rX3_forgetReason g)
def sX6_reset8 (g : Nat → Nat → Int32) (sh : Nat → Nat → Int32) (q3 : Nat → Nat → Int32) : Nat → Nat → Int32 := sX6_recorded6 sh q3 (sX3_become g) (rX3_forgetReason g)
set_option maxHeartbeats 4000000 in
set_option maxRecDepth 100000 in
/-- X6.reset -/
theorem c_X6_reset (l : Launch) (G : Gp) (z : Nat → Nat → Nat) (so : Nat → Nat → Int32) (g : Nat → Nat → Int32) (gB : Nat → Nat → Int32) (sh : Nat → Nat → Int32) (q0 : Nat → Nat → Int32) (q1 : Nat → Nat → Int32) (q2 : Nat → Nat → Int32) (q3 : Nat → Nat → Int32) (Y : va_W) (hz : LZ g) (hOK : LegOK g) (hh : HOK sh) : Cn l G yX6_reset cX6_reset 1 (some .int) 6 [.ref (z 0 0)] (SysW G z so ++ (LegW G (z 1) g ++ (LegW G (z 2) gB ++ (HistW G z sh ++ (LegW G (z 6) q0 ++ (LegW G (z 7) q1 ++ (LegW G (z 8) q2 ++ (LegW G (z 9) q3 ++ Y)))))))) (some (.int (rX6_reset g))) (SysW G z so ++ (LegW G (z 1) (sX6_reset2 g) ++ (LegW G (z 2) (sX6_reset3 g) ++ (HistW G z (sX6_reset4 g sh) ++ (LegW G (z 6) (sX6_reset5 g sh q0) ++ (LegW G (z 7) (sX6_reset6 g sh q1) ++ (LegW G (z 8) (sX6_reset7 g sh q2) ++ (LegW G (z 9) (sX6_reset8 g sh q3) ++ Y)))))))) := by
  refine CnE.of (by decide) (Nat.le_of_ble_eq_true rfl) ?_
  intro p e s m below meth c ls M hnm hl hW
  have hx := M.1
  have hb := M.2.1
  have hl : lv_has ls 1 [(0, .ref (z 0 0))] := hl
  refine lv_aload_n hx hb dX6_reset_0 rfl (lv_at hl 0 rfl) ?_
  refine gt_Sys_0_1 M hW kw_255 dX6_reset_1 ?_
  refine lv_aload_n hx hb dX6_reset_4 rfl (lv_at hl 0 rfl) ?_
  refine gt_Sys_0_0 M hW kw_254 dX6_reset_5 ?_
  have hW := Wd.f1 hW
  have hW := Wd.f2 hW
  refine r_callVv M hW (c_X3_become l G (z 2) (z 1) gB g  (SysW G z so ++ (HistW G z sh ++ (LegW G (z 6) q0 ++ (LegW G (z 7) q1 ++ (LegW G (z 8) q2 ++ (LegW G (z 9) q3 ++ Y)))))) hz.1 hz.2) rfl kw_277 kw_115 kw_116 kw_80 kw_108 pl_X3_become 0 rfl rfl ⟨by decide, by decide⟩ ⟨Nat.zero_le _, Nat.zero_le _⟩ hl.1 rfl (Nat.le_of_ble_eq_true rfl) dX6_reset_8 (fun H locs hW => ?_)
  refine lv_aload_n hx hb dX6_reset_11 rfl (lv_at hl 0 rfl) ?_
  refine lv_aload_n hx hb dX6_reset_12 rfl (lv_at hl 0 rfl) ?_
  refine gt_Sys_0_0 M (hW.drop.drop) kw_254 dX6_reset_13 ?_
  have hW := Wd.f1 hW
  refine r_callVi M hW (c_X3_forgetReason l G (z 1) g  (LegW G (z 2) (sX3_become g) ++ (SysW G z so ++ (HistW G z sh ++ (LegW G (z 6) q0 ++ (LegW G (z 7) q1 ++ (LegW G (z 8) q2 ++ (LegW G (z 9) q3 ++ Y))))))) hOK) rfl kw_297 kw_298 kw_299 kw_80 kw_139 pl_X3_forgetReason 0 rfl rfl ⟨by decide, by decide⟩ ⟨Nat.zero_le _, Nat.zero_le _⟩ hl.1 rfl (Nat.le_of_ble_eq_true rfl) dX6_reset_16 (fun H locs hW => ?_)
  have hW := Wd.f1 hW
  have hW := Wd.f7 hW
  have hW := Wd.f7 hW
  have hW := Wd.f7 hW
  have hW := Wd.f7 hW
  have hW := Wd.f7 hW
  have hW := Wd.f7 hW
  refine r_callVi M hW (c_X6_recorded l G z so sh q0 q1 q2 q3 (sX3_become g) (rX3_forgetReason g) (LegW G (z 1) (sX3_forgetReason g) ++ Y) hh hz) rfl kw_281 kw_282 kw_283 kw_15 kw_276 pl_X6_recorded 0 rfl rfl ⟨by decide, by decide⟩ ⟨Nat.zero_le _, Nat.zero_le _⟩ hl.1 rfl (Nat.le_of_ble_eq_true rfl) dX6_reset_19 (fun H locs hW => ?_)
  have hW := Wd.f6 hW
  have hW := Wd.f7 hW
  have hW := Wd.f2 hW
  exact r_reti M hW (by rw [sX6_reset2, sX6_reset3, sX6_reset4, sX6_reset5, sX6_reset6, sX6_reset7, sX6_reset8]) ⟨by rw [rX6_reset], rfl⟩ (Nat.zero_le _) (Nat.zero_le _) dX6_reset_22

def rX6_clean (g : Nat → Nat → Int32) (x : Int32) : Int32 := rX6_recorded (rX3_takeByHand g x)
def sX6_clean2 (g : Nat → Nat → Int32) (x : Int32) : Nat → Nat → Int32 := sX3_takeByHand g x
def sX6_clean3 (g : Nat → Nat → Int32) : Nat → Nat → Int32 := sX3_become g
def sX6_clean4 (g : Nat → Nat → Int32) (sh : Nat → Nat → Int32) (x : Int32) : Nat → Nat → Int32 := sX6_recorded2 sh (rX3_takeByHand g x)
def sX6_clean5 (g : Nat → Nat → Int32) (sh : Nat → Nat → Int32) (q0 : Nat → Nat → Int32) (x : Int32) : Nat → Nat → Int32 := sX6_recorded3 sh q0 (sX3_become g) (rX3_takeByHand g x)
def sX6_clean6 (g : Nat → Nat → Int32) (sh : Nat → Nat → Int32) (q1 : Nat → Nat → Int32) (x : Int32) : Nat → Nat → Int32 := sX6_recorded4 sh q1 (sX3_become g) (rX3_takeByHand g x)
def sX6_clean7 (g : Nat → Nat → Int32) (sh : Nat → Nat → Int32) (q2 : Nat → Nat → Int32) (x : Int32) : Nat → Nat → Int32 := sX6_recorded5 sh q2 (sX3_become g) (rX3_takeByHand g x)
def sX6_clean8 (g : Nat → Nat → Int32) (sh : Nat → Nat → Int32) (q3 : Nat → Nat → Int32) (x : Int32) : Nat → Nat → Int32 := sX6_recorded6 sh q3 (sX3_become g) (rX3_takeByHand g x)
set_option maxHeartbeats 4000000 in
set_option maxRecDepth 100000 in
/-- X6.clean -/
theorem c_X6_clean (l : Launch) (G : Gp) (z : Nat → Nat → Nat) (so : Nat → Nat → Int32) (g : Nat → Nat → Int32) (gB : Nat → Nat → Int32) (sh : Nat → Nat → Int32) (q0 : Nat → Nat → Int32) (q1 : Nat → Nat → Int32) (q2 : Nat → Nat → Int32) (q3 : Nat → Nat → Int32) (x : Int32) (Y : va_W) (hz : LZ g) (hh : HOK sh) : Cn l G yX6_clean cX6_clean 2 (some .int) 6 [.ref (z 0 0), .int x] (SysW G z so ++ (LegW G (z 1) g ++ (LegW G (z 2) gB ++ (HistW G z sh ++ (LegW G (z 6) q0 ++ (LegW G (z 7) q1 ++ (LegW G (z 8) q2 ++ (LegW G (z 9) q3 ++ Y)))))))) (some (.int (rX6_clean g x))) (SysW G z so ++ (LegW G (z 1) (sX6_clean2 g x) ++ (LegW G (z 2) (sX6_clean3 g) ++ (HistW G z (sX6_clean4 g sh x) ++ (LegW G (z 6) (sX6_clean5 g sh q0 x) ++ (LegW G (z 7) (sX6_clean6 g sh q1 x) ++ (LegW G (z 8) (sX6_clean7 g sh q2 x) ++ (LegW G (z 9) (sX6_clean8 g sh q3 x) ++ Y)))))))) := by
  refine CnE.of (by decide) (Nat.le_of_ble_eq_true rfl) ?_
  intro p e s m below meth c ls M hnm hl hW
  have hx := M.1
  have hb := M.2.1
  have hl : lv_has ls 2 [(0, .ref (z 0 0)), (1, .int x)] := hl
  refine lv_aload_n hx hb dX6_clean_0 rfl (lv_at hl 0 rfl) ?_
  refine gt_Sys_0_1 M hW kw_255 dX6_clean_1 ?_
  refine lv_aload_n hx hb dX6_clean_4 rfl (lv_at hl 0 rfl) ?_
  refine gt_Sys_0_0 M hW kw_254 dX6_clean_5 ?_
  have hW := Wd.f1 hW
  have hW := Wd.f2 hW
  refine r_callVv M hW (c_X3_become l G (z 2) (z 1) gB g  (SysW G z so ++ (HistW G z sh ++ (LegW G (z 6) q0 ++ (LegW G (z 7) q1 ++ (LegW G (z 8) q2 ++ (LegW G (z 9) q3 ++ Y)))))) hz.1 hz.2) rfl kw_277 kw_115 kw_116 kw_80 kw_108 pl_X3_become 0 rfl rfl ⟨by decide, by decide⟩ ⟨Nat.zero_le _, Nat.zero_le _⟩ hl.1 rfl (Nat.le_of_ble_eq_true rfl) dX6_clean_8 (fun H locs hW => ?_)
  refine lv_aload_n hx hb dX6_clean_11 rfl (lv_at hl 0 rfl) ?_
  refine lv_aload_n hx hb dX6_clean_12 rfl (lv_at hl 0 rfl) ?_
  refine gt_Sys_0_0 M (hW.drop.drop) kw_254 dX6_clean_13 ?_
  refine lv_iload_n hx hb dX6_clean_16 rfl (lv_at hl 1 rfl) ?_
  have hW := Wd.f1 hW
  refine r_callVi M hW (c_X3_takeByHand l G (z 1) g x (LegW G (z 2) (sX3_become g) ++ (SysW G z so ++ (HistW G z sh ++ (LegW G (z 6) q0 ++ (LegW G (z 7) q1 ++ (LegW G (z 8) q2 ++ (LegW G (z 9) q3 ++ Y)))))))) rfl kw_301 kw_302 kw_303 kw_80 kw_140 pl_X3_takeByHand 0 rfl rfl ⟨by decide, by decide⟩ ⟨Nat.zero_le _, Nat.zero_le _⟩ hl.1 rfl (Nat.le_of_ble_eq_true rfl) dX6_clean_17 (fun H locs hW => ?_)
  have hW := Wd.f1 hW
  have hW := Wd.f7 hW
  have hW := Wd.f7 hW
  have hW := Wd.f7 hW
  have hW := Wd.f7 hW
  have hW := Wd.f7 hW
  have hW := Wd.f7 hW
  refine r_callVi M hW (c_X6_recorded l G z so sh q0 q1 q2 q3 (sX3_become g) (rX3_takeByHand g x) (LegW G (z 1) (sX3_takeByHand g x) ++ Y) hh hz) rfl kw_281 kw_282 kw_283 kw_15 kw_276 pl_X6_recorded 0 rfl rfl ⟨by decide, by decide⟩ ⟨Nat.zero_le _, Nat.zero_le _⟩ hl.1 rfl (Nat.le_of_ble_eq_true rfl) dX6_clean_20 (fun H locs hW => ?_)
  have hW := Wd.f6 hW
  have hW := Wd.f7 hW
  have hW := Wd.f2 hW
  exact r_reti M hW (by rw [sX6_clean2, sX6_clean3, sX6_clean4, sX6_clean5, sX6_clean6, sX6_clean7, sX6_clean8]) ⟨by rw [rX6_clean], rfl⟩ (Nat.zero_le _) (Nat.zero_le _) dX6_clean_23

def rX6_run (g : Nat → Nat → Int32) (x : Int32) : Int32 := rX6_recorded (rX3_passTicks g x)
def sX6_run2 (g : Nat → Nat → Int32) (x : Int32) : Nat → Nat → Int32 := sX3_passTicks g x
def sX6_run3 (g : Nat → Nat → Int32) : Nat → Nat → Int32 := sX3_become g
def sX6_run4 (g : Nat → Nat → Int32) (sh : Nat → Nat → Int32) (x : Int32) : Nat → Nat → Int32 := sX6_recorded2 sh (rX3_passTicks g x)
def sX6_run5 (g : Nat → Nat → Int32) (sh : Nat → Nat → Int32) (q0 : Nat → Nat → Int32) (x : Int32) : Nat → Nat → Int32 := sX6_recorded3 sh q0 (sX3_become g) (rX3_passTicks g x)
def sX6_run6 (g : Nat → Nat → Int32) (sh : Nat → Nat → Int32) (q1 : Nat → Nat → Int32) (x : Int32) : Nat → Nat → Int32 := sX6_recorded4 sh q1 (sX3_become g) (rX3_passTicks g x)
def sX6_run7 (g : Nat → Nat → Int32) (sh : Nat → Nat → Int32) (q2 : Nat → Nat → Int32) (x : Int32) : Nat → Nat → Int32 := sX6_recorded5 sh q2 (sX3_become g) (rX3_passTicks g x)
def sX6_run8 (g : Nat → Nat → Int32) (sh : Nat → Nat → Int32) (q3 : Nat → Nat → Int32) (x : Int32) : Nat → Nat → Int32 := sX6_recorded6 sh q3 (sX3_become g) (rX3_passTicks g x)
set_option maxHeartbeats 4000000 in
set_option maxRecDepth 100000 in
/-- X6.run -/
theorem c_X6_run (l : Launch) (G : Gp) (z : Nat → Nat → Nat) (so : Nat → Nat → Int32) (g : Nat → Nat → Int32) (gB : Nat → Nat → Int32) (sh : Nat → Nat → Int32) (q0 : Nat → Nat → Int32) (q1 : Nat → Nat → Int32) (q2 : Nat → Nat → Int32) (q3 : Nat → Nat → Int32) (x : Int32) (Y : va_W) (hz : LZ g) (hOK : LegOK g) (hh : HOK sh) : Cn l G yX6_run cX6_run 2 (some .int) 6 [.ref (z 0 0), .int x] (SysW G z so ++ (LegW G (z 1) g ++ (LegW G (z 2) gB ++ (HistW G z sh ++ (LegW G (z 6) q0 ++ (LegW G (z 7) q1 ++ (LegW G (z 8) q2 ++ (LegW G (z 9) q3 ++ Y)))))))) (some (.int (rX6_run g x))) (SysW G z so ++ (LegW G (z 1) (sX6_run2 g x) ++ (LegW G (z 2) (sX6_run3 g) ++ (HistW G z (sX6_run4 g sh x) ++ (LegW G (z 6) (sX6_run5 g sh q0 x) ++ (LegW G (z 7) (sX6_run6 g sh q1 x) ++ (LegW G (z 8) (sX6_run7 g sh q2 x) ++ (LegW G (z 9) (sX6_run8 g sh q3 x) ++ Y)))))))) := by
  refine CnE.of (by decide) (Nat.le_of_ble_eq_true rfl) ?_
  intro p e s m below meth c ls M hnm hl hW
  have hx := M.1
  have hb := M.2.1
  have hl : lv_has ls 2 [(0, .ref (z 0 0)), (1, .int x)] := hl
  refine lv_aload_n hx hb dX6_run_0 rfl (lv_at hl 0 rfl) ?_
  refine gt_Sys_0_1 M hW kw_255 dX6_run_1 ?_
  refine lv_aload_n hx hb dX6_run_4 rfl (lv_at hl 0 rfl) ?_
  refine gt_Sys_0_0 M hW kw_254 dX6_run_5 ?_
  have hW := Wd.f1 hW
  have hW := Wd.f2 hW
  refine r_callVv M hW (c_X3_become l G (z 2) (z 1) gB g  (SysW G z so ++ (HistW G z sh ++ (LegW G (z 6) q0 ++ (LegW G (z 7) q1 ++ (LegW G (z 8) q2 ++ (LegW G (z 9) q3 ++ Y)))))) hz.1 hz.2) rfl kw_277 kw_115 kw_116 kw_80 kw_108 pl_X3_become 0 rfl rfl ⟨by decide, by decide⟩ ⟨Nat.zero_le _, Nat.zero_le _⟩ hl.1 rfl (Nat.le_of_ble_eq_true rfl) dX6_run_8 (fun H locs hW => ?_)
  refine lv_aload_n hx hb dX6_run_11 rfl (lv_at hl 0 rfl) ?_
  refine lv_aload_n hx hb dX6_run_12 rfl (lv_at hl 0 rfl) ?_
  refine gt_Sys_0_0 M (hW.drop.drop) kw_254 dX6_run_13 ?_
  refine lv_iload_n hx hb dX6_run_16 rfl (lv_at hl 1 rfl) ?_
  have hW := Wd.f1 hW
  refine r_callVi M hW (c_X3_passTicks l G (z 1) g x (LegW G (z 2) (sX3_become g) ++ (SysW G z so ++ (HistW G z sh ++ (LegW G (z 6) q0 ++ (LegW G (z 7) q1 ++ (LegW G (z 8) q2 ++ (LegW G (z 9) q3 ++ Y))))))) hOK) rfl kw_305 kw_306 kw_307 kw_80 kw_196 pl_X3_passTicks 0 rfl rfl ⟨by decide, by decide⟩ ⟨Nat.zero_le _, Nat.zero_le _⟩ hl.1 rfl (Nat.le_of_ble_eq_true rfl) dX6_run_17 (fun H locs hW => ?_)
  have hW := Wd.f1 hW
  have hW := Wd.f7 hW
  have hW := Wd.f7 hW
  have hW := Wd.f7 hW
  have hW := Wd.f7 hW
  have hW := Wd.f7 hW
  have hW := Wd.f7 hW
  refine r_callVi M hW (c_X6_recorded l G z so sh q0 q1 q2 q3 (sX3_become g) (rX3_passTicks g x) (LegW G (z 1) (sX3_passTicks g x) ++ Y) hh hz) rfl kw_281 kw_282 kw_283 kw_15 kw_276 pl_X6_recorded 0 rfl rfl ⟨by decide, by decide⟩ ⟨Nat.zero_le _, Nat.zero_le _⟩ hl.1 rfl (Nat.le_of_ble_eq_true rfl) dX6_run_20 (fun H locs hW => ?_)
  have hW := Wd.f6 hW
  have hW := Wd.f7 hW
  have hW := Wd.f2 hW
  exact r_reti M hW (by rw [sX6_run2, sX6_run3, sX6_run4, sX6_run5, sX6_run6, sX6_run7, sX6_run8]) ⟨by rw [rX6_run], rfl⟩ (Nat.zero_le _) (Nat.zero_le _) dX6_run_23
