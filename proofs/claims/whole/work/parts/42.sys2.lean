def rX6_isError (x : Int32) : Int32 := if (-101) < x then 0 else if x = (-105) then 0 else 1
set_option maxHeartbeats 4000000 in
set_option maxRecDepth 100000 in
/-- X6.isError -/
theorem c_X6_isError (l : Launch) (G : Gp) (x : Int32) (Y : va_W) : Cn l G yX6_isError cX6_isError 1 (some .boolean) 0 [.int x] (Y) (some (.int (rX6_isError x))) (Y) := by
  refine CnE.of (by decide) (Nat.le_of_ble_eq_true rfl) ?_
  intro p e s m below meth c ls M hnm hl hW
  have hx := M.1
  have hb := M.2.1
  have hl : lv_has ls 1 [(0, .int x)] := hl
  refine lv_iload_n hx hb dX6_isError_0 rfl (lv_at hl 0 rfl) ?_
  refine lv_bipush (v := (-101)) hx hb dX6_isError_1 (by decide) ?_
  refine lv_icmp_gt (tgt := 16) hx hb dX6_isError_3 (by decide) (fun c_3 => ?_) (fun c_3 => ?_)
  · skip
    refine lv_iconst (v := 0) hx hb dX6_isError_16 (by decide) ?_
    exact r_retz M rfl hW rfl ⟨by rw [rX6_isError, if_pos c_3], rfl⟩ (Nat.zero_le _) (Nat.zero_le _) dX6_isError_17
  · skip
    refine lv_iload_n hx hb dX6_isError_6 rfl (lv_at hl 0 rfl) ?_
    refine lv_bipush (v := (-105)) hx hb dX6_isError_7 (by decide) ?_
    refine lv_icmp_eq (tgt := 16) hx hb dX6_isError_9 (by decide) (fun c_9 => ?_) (fun c_9 => ?_)
    · skip
      refine lv_iconst (v := 0) hx hb dX6_isError_16 (by decide) ?_
      exact r_retz M rfl hW rfl ⟨by rw [rX6_isError, if_neg c_3, if_pos c_9], rfl⟩ (Nat.zero_le _) (Nat.zero_le _) dX6_isError_17
    · skip
      refine lv_iconst (v := 1) hx hb dX6_isError_12 (by decide) ?_
      refine lv_goto (tgt := 17) hx hb dX6_isError_13 (by decide) ?_
      exact r_retz M rfl hW rfl ⟨by rw [rX6_isError, if_neg c_3, if_neg c_9], rfl⟩ (Nat.zero_le _) (Nat.zero_le _) dX6_isError_17

def rX6_recorded (x : Int32) : Int32 := x
def sX6_recorded2 (sh : Nat → Nat → Int32) (x : Int32) : Nat → Nat → Int32 := if x = (-105) then sh else if (rX6_isError x) = 0 then sX2_remember sh else sh
def sX6_recorded3 (sh : Nat → Nat → Int32) (q0 : Nat → Nat → Int32) (gB : Nat → Nat → Int32) (x : Int32) : Nat → Nat → Int32 := if x = (-105) then q0 else if (rX6_isError x) = 0 then sX2_remember2 sh q0 gB else q0
def sX6_recorded4 (sh : Nat → Nat → Int32) (q1 : Nat → Nat → Int32) (gB : Nat → Nat → Int32) (x : Int32) : Nat → Nat → Int32 := if x = (-105) then q1 else if (rX6_isError x) = 0 then sX2_remember3 sh q1 gB else q1
def sX6_recorded5 (sh : Nat → Nat → Int32) (q2 : Nat → Nat → Int32) (gB : Nat → Nat → Int32) (x : Int32) : Nat → Nat → Int32 := if x = (-105) then q2 else if (rX6_isError x) = 0 then sX2_remember4 sh q2 gB else q2
def sX6_recorded6 (sh : Nat → Nat → Int32) (q3 : Nat → Nat → Int32) (gB : Nat → Nat → Int32) (x : Int32) : Nat → Nat → Int32 := if x = (-105) then q3 else if (rX6_isError x) = 0 then sX2_remember5 sh q3 gB else q3
set_option maxHeartbeats 4000000 in
set_option maxRecDepth 100000 in
/-- X6.recorded -/
theorem c_X6_recorded (l : Launch) (G : Gp) (z : Nat → Nat → Nat) (so : Nat → Nat → Int32) (sh : Nat → Nat → Int32) (q0 : Nat → Nat → Int32) (q1 : Nat → Nat → Int32) (q2 : Nat → Nat → Int32) (q3 : Nat → Nat → Int32) (gB : Nat → Nat → Int32) (x : Int32) (Y : va_W) (hh : HOK sh) (hB : LZ gB) : Cn l G yX6_recorded cX6_recorded 2 (some .int) 5 [.ref (z 0 0), .int x] (SysW G z so ++ (HistW G z sh ++ (LegW G (z 6) q0 ++ (LegW G (z 7) q1 ++ (LegW G (z 8) q2 ++ (LegW G (z 9) q3 ++ (LegW G (z 2) gB ++ Y))))))) (some (.int (rX6_recorded x))) (SysW G z so ++ (HistW G z (sX6_recorded2 sh x) ++ (LegW G (z 6) (sX6_recorded3 sh q0 gB x) ++ (LegW G (z 7) (sX6_recorded4 sh q1 gB x) ++ (LegW G (z 8) (sX6_recorded5 sh q2 gB x) ++ (LegW G (z 9) (sX6_recorded6 sh q3 gB x) ++ (LegW G (z 2) gB ++ Y))))))) := by
  refine CnE.of (by decide) (Nat.le_of_ble_eq_true rfl) ?_
  intro p e s m below meth c ls M hnm hl hW
  have hx := M.1
  have hb := M.2.1
  have hl : lv_has ls 2 [(0, .ref (z 0 0)), (1, .int x)] := hl
  refine lv_iload_n hx hb dX6_recorded_0 rfl (lv_at hl 1 rfl) ?_
  refine lv_bipush (v := (-105)) hx hb dX6_recorded_1 (by decide) ?_
  refine lv_icmp_eq (tgt := 24) hx hb dX6_recorded_3 (by decide) (fun c_3 => ?_) (fun c_3 => ?_)
  · skip
    refine lv_iload_n hx hb dX6_recorded_24 rfl (lv_at hl 1 rfl) ?_
    exact r_reti M hW (by rw [sX6_recorded2, if_pos c_3, sX6_recorded3, if_pos c_3, sX6_recorded4, if_pos c_3, sX6_recorded5, if_pos c_3, sX6_recorded6, if_pos c_3]) ⟨by rw [rX6_recorded], rfl⟩ (Nat.zero_le _) (Nat.zero_le _) dX6_recorded_25
  · skip
    refine lv_iload_n hx hb dX6_recorded_6 rfl (lv_at hl 1 rfl) ?_
    refine r_callSi M hW (as := [.int x]) (c_X6_isError l G x (SysW G z so ++ (HistW G z sh ++ (LegW G (z 6) q0 ++ (LegW G (z 7) q1 ++ (LegW G (z 8) q2 ++ (LegW G (z 9) q3 ++ (LegW G (z 2) gB ++ Y)))))))) rfl kw_271 kw_272 kw_15 kw_270 pl_X6_isError ⟨by decide, by decide⟩ ⟨Nat.zero_le _, Nat.zero_le _⟩ hl.1 rfl (Nat.le_of_ble_eq_true rfl) dX6_recorded_7 (fun H locs hW => ?_)
    refine lv_if_ne (tgt := 24) hx hb dX6_recorded_10 (by decide) (fun c_10 => ?_) (fun c_10 => ?_)
    · skip
      refine lv_iload_n hx hb dX6_recorded_24 rfl (lv_at hl 1 rfl) ?_
      exact r_reti M hW (by rw [sX6_recorded2, if_neg c_3, if_neg c_10, sX6_recorded3, if_neg c_3, if_neg c_10, sX6_recorded4, if_neg c_3, if_neg c_10, sX6_recorded5, if_neg c_3, if_neg c_10, sX6_recorded6, if_neg c_3, if_neg c_10]) ⟨by rw [rX6_recorded], rfl⟩ (Nat.zero_le _) (Nat.zero_le _) dX6_recorded_25
    · skip
      refine lv_aload_n hx hb dX6_recorded_13 rfl (lv_at hl 0 rfl) ?_
      refine gt_Sys_0_3 M hW kw_259 dX6_recorded_14 ?_
      refine lv_aload_n hx hb dX6_recorded_17 rfl (lv_at hl 0 rfl) ?_
      refine gt_Sys_0_1 M hW kw_255 dX6_recorded_18 ?_
      have hW := Wd.f6 hW
      have hW := Wd.f6 hW
      have hW := Wd.f6 hW
      have hW := Wd.f6 hW
      have hW := Wd.f6 hW
      have hW := Wd.f6 hW
      refine r_callVv M hW (c_X2_remember l G z sh q0 q1 q2 q3 gB  (SysW G z so ++ Y) hh hB) rfl kw_273 kw_274 kw_275 kw_113 kw_117 pl_X2_remember 0 rfl rfl ⟨by decide, by decide⟩ ⟨Nat.zero_le _, Nat.zero_le _⟩ hl.1 rfl (Nat.le_of_ble_eq_true rfl) dX6_recorded_21 (fun H locs hW => ?_)
      refine lv_iload_n hx hb dX6_recorded_24 rfl (lv_at hl 1 rfl) ?_
      have hW := Wd.f6 hW
      exact r_reti M hW (by rw [sX6_recorded2, if_neg c_3, if_pos c_10, sX6_recorded3, if_neg c_3, if_pos c_10, sX6_recorded4, if_neg c_3, if_pos c_10, sX6_recorded5, if_neg c_3, if_pos c_10, sX6_recorded6, if_neg c_3, if_pos c_10]) ⟨by rw [rX6_recorded], rfl⟩ (Nat.zero_le _) (Nat.zero_le _) dX6_recorded_25

def rX6_carryOut (g : Nat → Nat → Int32) (x : Int32) (y : Int32) : Int32 := if x = 97 then rX3_setNumber g 4 y else if x = 98 then (-105) else if x = 99 then rX3_setNumber g 3 y else if x = 100 then rX3_setNumber g 0 y else if x = 101 then (-105) else if x = 102 then rX3_setNumber g 2 y else if x = 103 then rX3_switchOn g else if x = 104 then (-105) else if x = 105 then (-105) else if x = 106 then (-105) else if x = 107 then (-105) else if x = 108 then (-105) else if x = 109 then (-105) else if x = 110 then (-105) else if x = 111 then rX3_moveGate g 1 else if x = 112 then (-105) else if x = 113 then (-105) else if x = 114 then rX3_forgetReason g else if x = 115 then rX3_switchOff g else if x = 116 then rX3_setNumber g 1 y else if x = 117 then (-105) else if x = 118 then (-105) else if x = 119 then rX3_passTicks g y else if x = 120 then rX3_moveGate g 0 else (-105)
def sX6_carryOut2 (g : Nat → Nat → Int32) (x : Int32) (y : Int32) : Nat → Nat → Int32 := if x = 97 then sX3_setNumber g 4 y else if x = 98 then g else if x = 99 then sX3_setNumber g 3 y else if x = 100 then sX3_setNumber g 0 y else if x = 101 then g else if x = 102 then sX3_setNumber g 2 y else if x = 103 then sX3_switchOn g else if x = 104 then g else if x = 105 then g else if x = 106 then g else if x = 107 then g else if x = 108 then g else if x = 109 then g else if x = 110 then g else if x = 111 then sX3_moveGate g 1 else if x = 112 then g else if x = 113 then g else if x = 114 then sX3_forgetReason g else if x = 115 then sX3_switchOff g else if x = 116 then sX3_setNumber g 1 y else if x = 117 then g else if x = 118 then g else if x = 119 then sX3_passTicks g y else if x = 120 then sX3_moveGate g 0 else g
set_option maxHeartbeats 4000000 in
set_option maxRecDepth 100000 in
/-- X6.carryOut -/
theorem c_X6_carryOut (l : Launch) (G : Gp) (z : Nat → Nat → Nat) (so : Nat → Nat → Int32) (g : Nat → Nat → Int32) (x : Int32) (y : Int32) (Y : va_W) (hOK : LegOK g) : Cn l G yX6_carryOut cX6_carryOut 3 (some .int) 6 [.ref (z 0 0), .int x, .int y] (SysW G z so ++ (LegW G (z 1) g ++ Y)) (some (.int (rX6_carryOut g x y))) (SysW G z so ++ (LegW G (z 1) (sX6_carryOut2 g x y) ++ Y)) := by
  refine CnE.of (by decide) (Nat.le_of_ble_eq_true rfl) ?_
  intro p e s m below meth c ls M hnm hl hW
  have hx := M.1
  have hb := M.2.1
  have hl : lv_has ls 3 [(0, .ref (z 0 0)), (1, .int x), (2, .int y)] := hl
  refine lv_iload_n hx hb dX6_carryOut_0 rfl (lv_at hl 1 rfl) ?_
  by_cases c_1_97 : x = 97
  · skip
    refine lv_tableIn (off := 151) (tgt := 152) hx hb dX6_carryOut_1 (by rw [c_1_97]; decide) (by rw [c_1_97]; decide) (by rw [c_1_97]; rfl) (by decide) ?_
    refine lv_aload_n hx hb dX6_carryOut_152 rfl (lv_at hl 0 rfl) ?_
    refine gt_Sys_0_0 M hW kw_254 dX6_carryOut_153 ?_
    refine lv_iconst (v := 4) hx hb dX6_carryOut_156 (by decide) ?_
    refine lv_iload_n hx hb dX6_carryOut_157 rfl (lv_at hl 2 rfl) ?_
    have hW := Wd.f1 hW
    refine r_callVi M hW (c_X3_setNumber l G (z 1) g 4 y (SysW G z so ++ Y)) rfl kw_278 kw_279 kw_280 kw_80 kw_119 pl_X3_setNumber 0 rfl rfl ⟨by decide, by decide⟩ ⟨Nat.zero_le _, Nat.zero_le _⟩ hl.1 rfl (Nat.le_of_ble_eq_true rfl) dX6_carryOut_158 (fun H locs hW => ?_)
    have hW := Wd.f1 hW
    exact r_reti M hW (by rw [sX6_carryOut2, if_pos c_1_97]) ⟨by rw [rX6_carryOut, if_pos c_1_97], rfl⟩ (Nat.zero_le _) (Nat.zero_le _) dX6_carryOut_161
  · skip
    by_cases c_1_98 : x = 98
    · skip
      refine lv_tableIn (off := 212) (tgt := 213) hx hb dX6_carryOut_1 (by rw [c_1_98]; decide) (by rw [c_1_98]; decide) (by rw [c_1_98]; rfl) (by decide) ?_
      refine lv_bipush (v := (-105)) hx hb dX6_carryOut_213 (by decide) ?_
      exact r_reti M hW (by rw [sX6_carryOut2, if_neg c_1_97, if_pos c_1_98]) ⟨by rw [rX6_carryOut, if_neg c_1_97, if_pos c_1_98], rfl⟩ (Nat.zero_le _) (Nat.zero_le _) dX6_carryOut_215
    · skip
      by_cases c_1_99 : x = 99
      · skip
        refine lv_tableIn (off := 141) (tgt := 142) hx hb dX6_carryOut_1 (by rw [c_1_99]; decide) (by rw [c_1_99]; decide) (by rw [c_1_99]; rfl) (by decide) ?_
        refine lv_aload_n hx hb dX6_carryOut_142 rfl (lv_at hl 0 rfl) ?_
        refine gt_Sys_0_0 M hW kw_254 dX6_carryOut_143 ?_
        refine lv_iconst (v := 3) hx hb dX6_carryOut_146 (by decide) ?_
        refine lv_iload_n hx hb dX6_carryOut_147 rfl (lv_at hl 2 rfl) ?_
        have hW := Wd.f1 hW
        refine r_callVi M hW (c_X3_setNumber l G (z 1) g 3 y (SysW G z so ++ Y)) rfl kw_278 kw_279 kw_280 kw_80 kw_119 pl_X3_setNumber 0 rfl rfl ⟨by decide, by decide⟩ ⟨Nat.zero_le _, Nat.zero_le _⟩ hl.1 rfl (Nat.le_of_ble_eq_true rfl) dX6_carryOut_148 (fun H locs hW => ?_)
        have hW := Wd.f1 hW
        exact r_reti M hW (by rw [sX6_carryOut2, if_neg c_1_97, if_neg c_1_98, if_pos c_1_99]) ⟨by rw [rX6_carryOut, if_neg c_1_97, if_neg c_1_98, if_pos c_1_99], rfl⟩ (Nat.zero_le _) (Nat.zero_le _) dX6_carryOut_151
      · skip
        by_cases c_1_100 : x = 100
        · skip
          refine lv_tableIn (off := 111) (tgt := 112) hx hb dX6_carryOut_1 (by rw [c_1_100]; decide) (by rw [c_1_100]; decide) (by rw [c_1_100]; rfl) (by decide) ?_
          refine lv_aload_n hx hb dX6_carryOut_112 rfl (lv_at hl 0 rfl) ?_
          refine gt_Sys_0_0 M hW kw_254 dX6_carryOut_113 ?_
          refine lv_iconst (v := 0) hx hb dX6_carryOut_116 (by decide) ?_
          refine lv_iload_n hx hb dX6_carryOut_117 rfl (lv_at hl 2 rfl) ?_
          have hW := Wd.f1 hW
          refine r_callVi M hW (c_X3_setNumber l G (z 1) g 0 y (SysW G z so ++ Y)) rfl kw_278 kw_279 kw_280 kw_80 kw_119 pl_X3_setNumber 0 rfl rfl ⟨by decide, by decide⟩ ⟨Nat.zero_le _, Nat.zero_le _⟩ hl.1 rfl (Nat.le_of_ble_eq_true rfl) dX6_carryOut_118 (fun H locs hW => ?_)
          have hW := Wd.f1 hW
          exact r_reti M hW (by rw [sX6_carryOut2, if_neg c_1_97, if_neg c_1_98, if_neg c_1_99, if_pos c_1_100]) ⟨by rw [rX6_carryOut, if_neg c_1_97, if_neg c_1_98, if_neg c_1_99, if_pos c_1_100], rfl⟩ (Nat.zero_le _) (Nat.zero_le _) dX6_carryOut_121
        · skip
          by_cases c_1_101 : x = 101
          · skip
            refine lv_tableIn (off := 212) (tgt := 213) hx hb dX6_carryOut_1 (by rw [c_1_101]; decide) (by rw [c_1_101]; decide) (by rw [c_1_101]; rfl) (by decide) ?_
            refine lv_bipush (v := (-105)) hx hb dX6_carryOut_213 (by decide) ?_
            exact r_reti M hW (by rw [sX6_carryOut2, if_neg c_1_97, if_neg c_1_98, if_neg c_1_99, if_neg c_1_100, if_pos c_1_101]) ⟨by rw [rX6_carryOut, if_neg c_1_97, if_neg c_1_98, if_neg c_1_99, if_neg c_1_100, if_pos c_1_101], rfl⟩ (Nat.zero_le _) (Nat.zero_le _) dX6_carryOut_215
          · skip
            by_cases c_1_102 : x = 102
            · skip
              refine lv_tableIn (off := 131) (tgt := 132) hx hb dX6_carryOut_1 (by rw [c_1_102]; decide) (by rw [c_1_102]; decide) (by rw [c_1_102]; rfl) (by decide) ?_
              refine lv_aload_n hx hb dX6_carryOut_132 rfl (lv_at hl 0 rfl) ?_
              refine gt_Sys_0_0 M hW kw_254 dX6_carryOut_133 ?_
              refine lv_iconst (v := 2) hx hb dX6_carryOut_136 (by decide) ?_
              refine lv_iload_n hx hb dX6_carryOut_137 rfl (lv_at hl 2 rfl) ?_
              have hW := Wd.f1 hW
              refine r_callVi M hW (c_X3_setNumber l G (z 1) g 2 y (SysW G z so ++ Y)) rfl kw_278 kw_279 kw_280 kw_80 kw_119 pl_X3_setNumber 0 rfl rfl ⟨by decide, by decide⟩ ⟨Nat.zero_le _, Nat.zero_le _⟩ hl.1 rfl (Nat.le_of_ble_eq_true rfl) dX6_carryOut_138 (fun H locs hW => ?_)
              have hW := Wd.f1 hW
              exact r_reti M hW (by rw [sX6_carryOut2, if_neg c_1_97, if_neg c_1_98, if_neg c_1_99, if_neg c_1_100, if_neg c_1_101, if_pos c_1_102]) ⟨by rw [rX6_carryOut, if_neg c_1_97, if_neg c_1_98, if_neg c_1_99, if_neg c_1_100, if_neg c_1_101, if_pos c_1_102], rfl⟩ (Nat.zero_le _) (Nat.zero_le _) dX6_carryOut_141
            · skip
              by_cases c_1_103 : x = 103
              · skip
                refine lv_tableIn (off := 161) (tgt := 162) hx hb dX6_carryOut_1 (by rw [c_1_103]; decide) (by rw [c_1_103]; decide) (by rw [c_1_103]; rfl) (by decide) ?_
                refine lv_aload_n hx hb dX6_carryOut_162 rfl (lv_at hl 0 rfl) ?_
                refine gt_Sys_0_0 M hW kw_254 dX6_carryOut_163 ?_
                have hW := Wd.f1 hW
                refine r_callVi M hW (c_X3_switchOn l G (z 1) g  (SysW G z so ++ Y) hOK) rfl kw_289 kw_290 kw_291 kw_80 kw_127 pl_X3_switchOn 0 rfl rfl ⟨by decide, by decide⟩ ⟨Nat.zero_le _, Nat.zero_le _⟩ hl.1 rfl (Nat.le_of_ble_eq_true rfl) dX6_carryOut_166 (fun H locs hW => ?_)
                have hW := Wd.f1 hW
                exact r_reti M hW (by rw [sX6_carryOut2, if_neg c_1_97, if_neg c_1_98, if_neg c_1_99, if_neg c_1_100, if_neg c_1_101, if_neg c_1_102, if_pos c_1_103]) ⟨by rw [rX6_carryOut, if_neg c_1_97, if_neg c_1_98, if_neg c_1_99, if_neg c_1_100, if_neg c_1_101, if_neg c_1_102, if_pos c_1_103], rfl⟩ (Nat.zero_le _) (Nat.zero_le _) dX6_carryOut_169
              · skip
                by_cases c_1_104 : x = 104
                · skip
                  refine lv_tableIn (off := 212) (tgt := 213) hx hb dX6_carryOut_1 (by rw [c_1_104]; decide) (by rw [c_1_104]; decide) (by rw [c_1_104]; rfl) (by decide) ?_
                  refine lv_bipush (v := (-105)) hx hb dX6_carryOut_213 (by decide) ?_
                  exact r_reti M hW (by rw [sX6_carryOut2, if_neg c_1_97, if_neg c_1_98, if_neg c_1_99, if_neg c_1_100, if_neg c_1_101, if_neg c_1_102, if_neg c_1_103, if_pos c_1_104]) ⟨by rw [rX6_carryOut, if_neg c_1_97, if_neg c_1_98, if_neg c_1_99, if_neg c_1_100, if_neg c_1_101, if_neg c_1_102, if_neg c_1_103, if_pos c_1_104], rfl⟩ (Nat.zero_le _) (Nat.zero_le _) dX6_carryOut_215
                · skip
                  by_cases c_1_105 : x = 105
                  · skip
                    refine lv_tableIn (off := 212) (tgt := 213) hx hb dX6_carryOut_1 (by rw [c_1_105]; decide) (by rw [c_1_105]; decide) (by rw [c_1_105]; rfl) (by decide) ?_
                    refine lv_bipush (v := (-105)) hx hb dX6_carryOut_213 (by decide) ?_
                    exact r_reti M hW (by rw [sX6_carryOut2, if_neg c_1_97, if_neg c_1_98, if_neg c_1_99, if_neg c_1_100, if_neg c_1_101, if_neg c_1_102, if_neg c_1_103, if_neg c_1_104, if_pos c_1_105]) ⟨by rw [rX6_carryOut, if_neg c_1_97, if_neg c_1_98, if_neg c_1_99, if_neg c_1_100, if_neg c_1_101, if_neg c_1_102, if_neg c_1_103, if_neg c_1_104, if_pos c_1_105], rfl⟩ (Nat.zero_le _) (Nat.zero_le _) dX6_carryOut_215
                  · skip
                    by_cases c_1_106 : x = 106
                    · skip
                      refine lv_tableIn (off := 212) (tgt := 213) hx hb dX6_carryOut_1 (by rw [c_1_106]; decide) (by rw [c_1_106]; decide) (by rw [c_1_106]; rfl) (by decide) ?_
                      refine lv_bipush (v := (-105)) hx hb dX6_carryOut_213 (by decide) ?_
                      exact r_reti M hW (by rw [sX6_carryOut2, if_neg c_1_97, if_neg c_1_98, if_neg c_1_99, if_neg c_1_100, if_neg c_1_101, if_neg c_1_102, if_neg c_1_103, if_neg c_1_104, if_neg c_1_105, if_pos c_1_106]) ⟨by rw [rX6_carryOut, if_neg c_1_97, if_neg c_1_98, if_neg c_1_99, if_neg c_1_100, if_neg c_1_101, if_neg c_1_102, if_neg c_1_103, if_neg c_1_104, if_neg c_1_105, if_pos c_1_106], rfl⟩ (Nat.zero_le _) (Nat.zero_le _) dX6_carryOut_215
                    · skip
                      by_cases c_1_107 : x = 107
                      · skip
                        refine lv_tableIn (off := 212) (tgt := 213) hx hb dX6_carryOut_1 (by rw [c_1_107]; decide) (by rw [c_1_107]; decide) (by rw [c_1_107]; rfl) (by decide) ?_
                        refine lv_bipush (v := (-105)) hx hb dX6_carryOut_213 (by decide) ?_
                        exact r_reti M hW (by rw [sX6_carryOut2, if_neg c_1_97, if_neg c_1_98, if_neg c_1_99, if_neg c_1_100, if_neg c_1_101, if_neg c_1_102, if_neg c_1_103, if_neg c_1_104, if_neg c_1_105, if_neg c_1_106, if_pos c_1_107]) ⟨by rw [rX6_carryOut, if_neg c_1_97, if_neg c_1_98, if_neg c_1_99, if_neg c_1_100, if_neg c_1_101, if_neg c_1_102, if_neg c_1_103, if_neg c_1_104, if_neg c_1_105, if_neg c_1_106, if_pos c_1_107], rfl⟩ (Nat.zero_le _) (Nat.zero_le _) dX6_carryOut_215
                      · skip
                        by_cases c_1_108 : x = 108
                        · skip
                          refine lv_tableIn (off := 212) (tgt := 213) hx hb dX6_carryOut_1 (by rw [c_1_108]; decide) (by rw [c_1_108]; decide) (by rw [c_1_108]; rfl) (by decide) ?_
                          refine lv_bipush (v := (-105)) hx hb dX6_carryOut_213 (by decide) ?_
                          exact r_reti M hW (by rw [sX6_carryOut2, if_neg c_1_97, if_neg c_1_98, if_neg c_1_99, if_neg c_1_100, if_neg c_1_101, if_neg c_1_102, if_neg c_1_103, if_neg c_1_104, if_neg c_1_105, if_neg c_1_106, if_neg c_1_107, if_pos c_1_108]) ⟨by rw [rX6_carryOut, if_neg c_1_97, if_neg c_1_98, if_neg c_1_99, if_neg c_1_100, if_neg c_1_101, if_neg c_1_102, if_neg c_1_103, if_neg c_1_104, if_neg c_1_105, if_neg c_1_106, if_neg c_1_107, if_pos c_1_108], rfl⟩ (Nat.zero_le _) (Nat.zero_le _) dX6_carryOut_215
                        · skip
                          by_cases c_1_109 : x = 109
                          · skip
                            refine lv_tableIn (off := 212) (tgt := 213) hx hb dX6_carryOut_1 (by rw [c_1_109]; decide) (by rw [c_1_109]; decide) (by rw [c_1_109]; rfl) (by decide) ?_
                            refine lv_bipush (v := (-105)) hx hb dX6_carryOut_213 (by decide) ?_
                            exact r_reti M hW (by rw [sX6_carryOut2, if_neg c_1_97, if_neg c_1_98, if_neg c_1_99, if_neg c_1_100, if_neg c_1_101, if_neg c_1_102, if_neg c_1_103, if_neg c_1_104, if_neg c_1_105, if_neg c_1_106, if_neg c_1_107, if_neg c_1_108, if_pos c_1_109]) ⟨by rw [rX6_carryOut, if_neg c_1_97, if_neg c_1_98, if_neg c_1_99, if_neg c_1_100, if_neg c_1_101, if_neg c_1_102, if_neg c_1_103, if_neg c_1_104, if_neg c_1_105, if_neg c_1_106, if_neg c_1_107, if_neg c_1_108, if_pos c_1_109], rfl⟩ (Nat.zero_le _) (Nat.zero_le _) dX6_carryOut_215
                          · skip
                            by_cases c_1_110 : x = 110
                            · skip
                              refine lv_tableIn (off := 212) (tgt := 213) hx hb dX6_carryOut_1 (by rw [c_1_110]; decide) (by rw [c_1_110]; decide) (by rw [c_1_110]; rfl) (by decide) ?_
                              refine lv_bipush (v := (-105)) hx hb dX6_carryOut_213 (by decide) ?_
                              exact r_reti M hW (by rw [sX6_carryOut2, if_neg c_1_97, if_neg c_1_98, if_neg c_1_99, if_neg c_1_100, if_neg c_1_101, if_neg c_1_102, if_neg c_1_103, if_neg c_1_104, if_neg c_1_105, if_neg c_1_106, if_neg c_1_107, if_neg c_1_108, if_neg c_1_109, if_pos c_1_110]) ⟨by rw [rX6_carryOut, if_neg c_1_97, if_neg c_1_98, if_neg c_1_99, if_neg c_1_100, if_neg c_1_101, if_neg c_1_102, if_neg c_1_103, if_neg c_1_104, if_neg c_1_105, if_neg c_1_106, if_neg c_1_107, if_neg c_1_108, if_neg c_1_109, if_pos c_1_110], rfl⟩ (Nat.zero_le _) (Nat.zero_le _) dX6_carryOut_215
                            · skip
                              by_cases c_1_111 : x = 111
                              · skip
                                refine lv_tableIn (off := 177) (tgt := 178) hx hb dX6_carryOut_1 (by rw [c_1_111]; decide) (by rw [c_1_111]; decide) (by rw [c_1_111]; rfl) (by decide) ?_
                                refine lv_aload_n hx hb dX6_carryOut_178 rfl (lv_at hl 0 rfl) ?_
                                refine gt_Sys_0_0 M hW kw_254 dX6_carryOut_179 ?_
                                refine lv_iconst (v := 1) hx hb dX6_carryOut_182 (by decide) ?_
                                have hW := Wd.f1 hW
                                refine r_callVi M hW (c_X3_moveGate l G (z 1) g 1 (SysW G z so ++ Y) (Or.inr rfl)) rfl kw_285 kw_286 kw_287 kw_80 kw_120 pl_X3_moveGate 0 rfl rfl ⟨by decide, by decide⟩ ⟨Nat.zero_le _, Nat.zero_le _⟩ hl.1 rfl (Nat.le_of_ble_eq_true rfl) dX6_carryOut_183 (fun H locs hW => ?_)
                                have hW := Wd.f1 hW
                                exact r_reti M hW (by rw [sX6_carryOut2, if_neg c_1_97, if_neg c_1_98, if_neg c_1_99, if_neg c_1_100, if_neg c_1_101, if_neg c_1_102, if_neg c_1_103, if_neg c_1_104, if_neg c_1_105, if_neg c_1_106, if_neg c_1_107, if_neg c_1_108, if_neg c_1_109, if_neg c_1_110, if_pos c_1_111]) ⟨by rw [rX6_carryOut, if_neg c_1_97, if_neg c_1_98, if_neg c_1_99, if_neg c_1_100, if_neg c_1_101, if_neg c_1_102, if_neg c_1_103, if_neg c_1_104, if_neg c_1_105, if_neg c_1_106, if_neg c_1_107, if_neg c_1_108, if_neg c_1_109, if_neg c_1_110, if_pos c_1_111], rfl⟩ (Nat.zero_le _) (Nat.zero_le _) dX6_carryOut_186
                              · skip
                                by_cases c_1_112 : x = 112
                                · skip
                                  refine lv_tableIn (off := 212) (tgt := 213) hx hb dX6_carryOut_1 (by rw [c_1_112]; decide) (by rw [c_1_112]; decide) (by rw [c_1_112]; rfl) (by decide) ?_
                                  refine lv_bipush (v := (-105)) hx hb dX6_carryOut_213 (by decide) ?_
                                  exact r_reti M hW (by rw [sX6_carryOut2, if_neg c_1_97, if_neg c_1_98, if_neg c_1_99, if_neg c_1_100, if_neg c_1_101, if_neg c_1_102, if_neg c_1_103, if_neg c_1_104, if_neg c_1_105, if_neg c_1_106, if_neg c_1_107, if_neg c_1_108, if_neg c_1_109, if_neg c_1_110, if_neg c_1_111, if_pos c_1_112]) ⟨by rw [rX6_carryOut, if_neg c_1_97, if_neg c_1_98, if_neg c_1_99, if_neg c_1_100, if_neg c_1_101, if_neg c_1_102, if_neg c_1_103, if_neg c_1_104, if_neg c_1_105, if_neg c_1_106, if_neg c_1_107, if_neg c_1_108, if_neg c_1_109, if_neg c_1_110, if_neg c_1_111, if_pos c_1_112], rfl⟩ (Nat.zero_le _) (Nat.zero_le _) dX6_carryOut_215
                                · skip
                                  by_cases c_1_113 : x = 113
                                  · skip
                                    refine lv_tableIn (off := 212) (tgt := 213) hx hb dX6_carryOut_1 (by rw [c_1_113]; decide) (by rw [c_1_113]; decide) (by rw [c_1_113]; rfl) (by decide) ?_
                                    refine lv_bipush (v := (-105)) hx hb dX6_carryOut_213 (by decide) ?_
                                    exact r_reti M hW (by rw [sX6_carryOut2, if_neg c_1_97, if_neg c_1_98, if_neg c_1_99, if_neg c_1_100, if_neg c_1_101, if_neg c_1_102, if_neg c_1_103, if_neg c_1_104, if_neg c_1_105, if_neg c_1_106, if_neg c_1_107, if_neg c_1_108, if_neg c_1_109, if_neg c_1_110, if_neg c_1_111, if_neg c_1_112, if_pos c_1_113]) ⟨by rw [rX6_carryOut, if_neg c_1_97, if_neg c_1_98, if_neg c_1_99, if_neg c_1_100, if_neg c_1_101, if_neg c_1_102, if_neg c_1_103, if_neg c_1_104, if_neg c_1_105, if_neg c_1_106, if_neg c_1_107, if_neg c_1_108, if_neg c_1_109, if_neg c_1_110, if_neg c_1_111, if_neg c_1_112, if_pos c_1_113], rfl⟩ (Nat.zero_le _) (Nat.zero_le _) dX6_carryOut_215
                                  · skip
                                    by_cases c_1_114 : x = 114
                                    · skip
                                      refine lv_tableIn (off := 195) (tgt := 196) hx hb dX6_carryOut_1 (by rw [c_1_114]; decide) (by rw [c_1_114]; decide) (by rw [c_1_114]; rfl) (by decide) ?_
                                      refine lv_aload_n hx hb dX6_carryOut_196 rfl (lv_at hl 0 rfl) ?_
                                      refine gt_Sys_0_0 M hW kw_254 dX6_carryOut_197 ?_
                                      have hW := Wd.f1 hW
                                      refine r_callVi M hW (c_X3_forgetReason l G (z 1) g  (SysW G z so ++ Y) hOK) rfl kw_297 kw_298 kw_299 kw_80 kw_139 pl_X3_forgetReason 0 rfl rfl ⟨by decide, by decide⟩ ⟨Nat.zero_le _, Nat.zero_le _⟩ hl.1 rfl (Nat.le_of_ble_eq_true rfl) dX6_carryOut_200 (fun H locs hW => ?_)
                                      have hW := Wd.f1 hW
                                      exact r_reti M hW (by rw [sX6_carryOut2, if_neg c_1_97, if_neg c_1_98, if_neg c_1_99, if_neg c_1_100, if_neg c_1_101, if_neg c_1_102, if_neg c_1_103, if_neg c_1_104, if_neg c_1_105, if_neg c_1_106, if_neg c_1_107, if_neg c_1_108, if_neg c_1_109, if_neg c_1_110, if_neg c_1_111, if_neg c_1_112, if_neg c_1_113, if_pos c_1_114]) ⟨by rw [rX6_carryOut, if_neg c_1_97, if_neg c_1_98, if_neg c_1_99, if_neg c_1_100, if_neg c_1_101, if_neg c_1_102, if_neg c_1_103, if_neg c_1_104, if_neg c_1_105, if_neg c_1_106, if_neg c_1_107, if_neg c_1_108, if_neg c_1_109, if_neg c_1_110, if_neg c_1_111, if_neg c_1_112, if_neg c_1_113, if_pos c_1_114], rfl⟩ (Nat.zero_le _) (Nat.zero_le _) dX6_carryOut_203
                                    · skip
                                      by_cases c_1_115 : x = 115
                                      · skip
                                        refine lv_tableIn (off := 169) (tgt := 170) hx hb dX6_carryOut_1 (by rw [c_1_115]; decide) (by rw [c_1_115]; decide) (by rw [c_1_115]; rfl) (by decide) ?_
                                        refine lv_aload_n hx hb dX6_carryOut_170 rfl (lv_at hl 0 rfl) ?_
                                        refine gt_Sys_0_0 M hW kw_254 dX6_carryOut_171 ?_
                                        have hW := Wd.f1 hW
                                        refine r_callVi M hW (c_X3_switchOff l G (z 1) g  (SysW G z so ++ Y)) rfl kw_293 kw_294 kw_295 kw_80 kw_131 pl_X3_switchOff 0 rfl rfl ⟨by decide, by decide⟩ ⟨Nat.zero_le _, Nat.zero_le _⟩ hl.1 rfl (Nat.le_of_ble_eq_true rfl) dX6_carryOut_174 (fun H locs hW => ?_)
                                        have hW := Wd.f1 hW
                                        exact r_reti M hW (by rw [sX6_carryOut2, if_neg c_1_97, if_neg c_1_98, if_neg c_1_99, if_neg c_1_100, if_neg c_1_101, if_neg c_1_102, if_neg c_1_103, if_neg c_1_104, if_neg c_1_105, if_neg c_1_106, if_neg c_1_107, if_neg c_1_108, if_neg c_1_109, if_neg c_1_110, if_neg c_1_111, if_neg c_1_112, if_neg c_1_113, if_neg c_1_114, if_pos c_1_115]) ⟨by rw [rX6_carryOut, if_neg c_1_97, if_neg c_1_98, if_neg c_1_99, if_neg c_1_100, if_neg c_1_101, if_neg c_1_102, if_neg c_1_103, if_neg c_1_104, if_neg c_1_105, if_neg c_1_106, if_neg c_1_107, if_neg c_1_108, if_neg c_1_109, if_neg c_1_110, if_neg c_1_111, if_neg c_1_112, if_neg c_1_113, if_neg c_1_114, if_pos c_1_115], rfl⟩ (Nat.zero_le _) (Nat.zero_le _) dX6_carryOut_177
                                      · skip
                                        by_cases c_1_116 : x = 116
                                        · skip
                                          refine lv_tableIn (off := 121) (tgt := 122) hx hb dX6_carryOut_1 (by rw [c_1_116]; decide) (by rw [c_1_116]; decide) (by rw [c_1_116]; rfl) (by decide) ?_
                                          refine lv_aload_n hx hb dX6_carryOut_122 rfl (lv_at hl 0 rfl) ?_
                                          refine gt_Sys_0_0 M hW kw_254 dX6_carryOut_123 ?_
                                          refine lv_iconst (v := 1) hx hb dX6_carryOut_126 (by decide) ?_
                                          refine lv_iload_n hx hb dX6_carryOut_127 rfl (lv_at hl 2 rfl) ?_
                                          have hW := Wd.f1 hW
                                          refine r_callVi M hW (c_X3_setNumber l G (z 1) g 1 y (SysW G z so ++ Y)) rfl kw_278 kw_279 kw_280 kw_80 kw_119 pl_X3_setNumber 0 rfl rfl ⟨by decide, by decide⟩ ⟨Nat.zero_le _, Nat.zero_le _⟩ hl.1 rfl (Nat.le_of_ble_eq_true rfl) dX6_carryOut_128 (fun H locs hW => ?_)
                                          have hW := Wd.f1 hW
                                          exact r_reti M hW (by rw [sX6_carryOut2, if_neg c_1_97, if_neg c_1_98, if_neg c_1_99, if_neg c_1_100, if_neg c_1_101, if_neg c_1_102, if_neg c_1_103, if_neg c_1_104, if_neg c_1_105, if_neg c_1_106, if_neg c_1_107, if_neg c_1_108, if_neg c_1_109, if_neg c_1_110, if_neg c_1_111, if_neg c_1_112, if_neg c_1_113, if_neg c_1_114, if_neg c_1_115, if_pos c_1_116]) ⟨by rw [rX6_carryOut, if_neg c_1_97, if_neg c_1_98, if_neg c_1_99, if_neg c_1_100, if_neg c_1_101, if_neg c_1_102, if_neg c_1_103, if_neg c_1_104, if_neg c_1_105, if_neg c_1_106, if_neg c_1_107, if_neg c_1_108, if_neg c_1_109, if_neg c_1_110, if_neg c_1_111, if_neg c_1_112, if_neg c_1_113, if_neg c_1_114, if_neg c_1_115, if_pos c_1_116], rfl⟩ (Nat.zero_le _) (Nat.zero_le _) dX6_carryOut_131
                                        · skip
                                          by_cases c_1_117 : x = 117
                                          · skip
                                            refine lv_tableIn (off := 212) (tgt := 213) hx hb dX6_carryOut_1 (by rw [c_1_117]; decide) (by rw [c_1_117]; decide) (by rw [c_1_117]; rfl) (by decide) ?_
                                            refine lv_bipush (v := (-105)) hx hb dX6_carryOut_213 (by decide) ?_
                                            exact r_reti M hW (by rw [sX6_carryOut2, if_neg c_1_97, if_neg c_1_98, if_neg c_1_99, if_neg c_1_100, if_neg c_1_101, if_neg c_1_102, if_neg c_1_103, if_neg c_1_104, if_neg c_1_105, if_neg c_1_106, if_neg c_1_107, if_neg c_1_108, if_neg c_1_109, if_neg c_1_110, if_neg c_1_111, if_neg c_1_112, if_neg c_1_113, if_neg c_1_114, if_neg c_1_115, if_neg c_1_116, if_pos c_1_117]) ⟨by rw [rX6_carryOut, if_neg c_1_97, if_neg c_1_98, if_neg c_1_99, if_neg c_1_100, if_neg c_1_101, if_neg c_1_102, if_neg c_1_103, if_neg c_1_104, if_neg c_1_105, if_neg c_1_106, if_neg c_1_107, if_neg c_1_108, if_neg c_1_109, if_neg c_1_110, if_neg c_1_111, if_neg c_1_112, if_neg c_1_113, if_neg c_1_114, if_neg c_1_115, if_neg c_1_116, if_pos c_1_117], rfl⟩ (Nat.zero_le _) (Nat.zero_le _) dX6_carryOut_215
                                          · skip
                                            by_cases c_1_118 : x = 118
                                            · skip
                                              refine lv_tableIn (off := 212) (tgt := 213) hx hb dX6_carryOut_1 (by rw [c_1_118]; decide) (by rw [c_1_118]; decide) (by rw [c_1_118]; rfl) (by decide) ?_
                                              refine lv_bipush (v := (-105)) hx hb dX6_carryOut_213 (by decide) ?_
                                              exact r_reti M hW (by rw [sX6_carryOut2, if_neg c_1_97, if_neg c_1_98, if_neg c_1_99, if_neg c_1_100, if_neg c_1_101, if_neg c_1_102, if_neg c_1_103, if_neg c_1_104, if_neg c_1_105, if_neg c_1_106, if_neg c_1_107, if_neg c_1_108, if_neg c_1_109, if_neg c_1_110, if_neg c_1_111, if_neg c_1_112, if_neg c_1_113, if_neg c_1_114, if_neg c_1_115, if_neg c_1_116, if_neg c_1_117, if_pos c_1_118]) ⟨by rw [rX6_carryOut, if_neg c_1_97, if_neg c_1_98, if_neg c_1_99, if_neg c_1_100, if_neg c_1_101, if_neg c_1_102, if_neg c_1_103, if_neg c_1_104, if_neg c_1_105, if_neg c_1_106, if_neg c_1_107, if_neg c_1_108, if_neg c_1_109, if_neg c_1_110, if_neg c_1_111, if_neg c_1_112, if_neg c_1_113, if_neg c_1_114, if_neg c_1_115, if_neg c_1_116, if_neg c_1_117, if_pos c_1_118], rfl⟩ (Nat.zero_le _) (Nat.zero_le _) dX6_carryOut_215
                                            · skip
                                              by_cases c_1_119 : x = 119
                                              · skip
                                                refine lv_tableIn (off := 203) (tgt := 204) hx hb dX6_carryOut_1 (by rw [c_1_119]; decide) (by rw [c_1_119]; decide) (by rw [c_1_119]; rfl) (by decide) ?_
                                                refine lv_aload_n hx hb dX6_carryOut_204 rfl (lv_at hl 0 rfl) ?_
                                                refine gt_Sys_0_0 M hW kw_254 dX6_carryOut_205 ?_
                                                refine lv_iload_n hx hb dX6_carryOut_208 rfl (lv_at hl 2 rfl) ?_
                                                have hW := Wd.f1 hW
                                                refine r_callVi M hW (c_X3_passTicks l G (z 1) g y (SysW G z so ++ Y) hOK) rfl kw_305 kw_306 kw_307 kw_80 kw_196 pl_X3_passTicks 0 rfl rfl ⟨by decide, by decide⟩ ⟨Nat.zero_le _, Nat.zero_le _⟩ hl.1 rfl (Nat.le_of_ble_eq_true rfl) dX6_carryOut_209 (fun H locs hW => ?_)
                                                have hW := Wd.f1 hW
                                                exact r_reti M hW (by rw [sX6_carryOut2, if_neg c_1_97, if_neg c_1_98, if_neg c_1_99, if_neg c_1_100, if_neg c_1_101, if_neg c_1_102, if_neg c_1_103, if_neg c_1_104, if_neg c_1_105, if_neg c_1_106, if_neg c_1_107, if_neg c_1_108, if_neg c_1_109, if_neg c_1_110, if_neg c_1_111, if_neg c_1_112, if_neg c_1_113, if_neg c_1_114, if_neg c_1_115, if_neg c_1_116, if_neg c_1_117, if_neg c_1_118, if_pos c_1_119]) ⟨by rw [rX6_carryOut, if_neg c_1_97, if_neg c_1_98, if_neg c_1_99, if_neg c_1_100, if_neg c_1_101, if_neg c_1_102, if_neg c_1_103, if_neg c_1_104, if_neg c_1_105, if_neg c_1_106, if_neg c_1_107, if_neg c_1_108, if_neg c_1_109, if_neg c_1_110, if_neg c_1_111, if_neg c_1_112, if_neg c_1_113, if_neg c_1_114, if_neg c_1_115, if_neg c_1_116, if_neg c_1_117, if_neg c_1_118, if_pos c_1_119], rfl⟩ (Nat.zero_le _) (Nat.zero_le _) dX6_carryOut_212
                                              · skip
                                                by_cases c_1_120 : x = 120
                                                · skip
                                                  refine lv_tableIn (off := 186) (tgt := 187) hx hb dX6_carryOut_1 (by rw [c_1_120]; decide) (by rw [c_1_120]; decide) (by rw [c_1_120]; rfl) (by decide) ?_
                                                  refine lv_aload_n hx hb dX6_carryOut_187 rfl (lv_at hl 0 rfl) ?_
                                                  refine gt_Sys_0_0 M hW kw_254 dX6_carryOut_188 ?_
                                                  refine lv_iconst (v := 0) hx hb dX6_carryOut_191 (by decide) ?_
                                                  have hW := Wd.f1 hW
                                                  refine r_callVi M hW (c_X3_moveGate l G (z 1) g 0 (SysW G z so ++ Y) (Or.inl rfl)) rfl kw_285 kw_286 kw_287 kw_80 kw_120 pl_X3_moveGate 0 rfl rfl ⟨by decide, by decide⟩ ⟨Nat.zero_le _, Nat.zero_le _⟩ hl.1 rfl (Nat.le_of_ble_eq_true rfl) dX6_carryOut_192 (fun H locs hW => ?_)
                                                  have hW := Wd.f1 hW
                                                  exact r_reti M hW (by rw [sX6_carryOut2, if_neg c_1_97, if_neg c_1_98, if_neg c_1_99, if_neg c_1_100, if_neg c_1_101, if_neg c_1_102, if_neg c_1_103, if_neg c_1_104, if_neg c_1_105, if_neg c_1_106, if_neg c_1_107, if_neg c_1_108, if_neg c_1_109, if_neg c_1_110, if_neg c_1_111, if_neg c_1_112, if_neg c_1_113, if_neg c_1_114, if_neg c_1_115, if_neg c_1_116, if_neg c_1_117, if_neg c_1_118, if_neg c_1_119, if_pos c_1_120]) ⟨by rw [rX6_carryOut, if_neg c_1_97, if_neg c_1_98, if_neg c_1_99, if_neg c_1_100, if_neg c_1_101, if_neg c_1_102, if_neg c_1_103, if_neg c_1_104, if_neg c_1_105, if_neg c_1_106, if_neg c_1_107, if_neg c_1_108, if_neg c_1_109, if_neg c_1_110, if_neg c_1_111, if_neg c_1_112, if_neg c_1_113, if_neg c_1_114, if_neg c_1_115, if_neg c_1_116, if_neg c_1_117, if_neg c_1_118, if_neg c_1_119, if_pos c_1_120], rfl⟩ (Nat.zero_le _) (Nat.zero_le _) dX6_carryOut_195
                                                · skip
                                                  refine lv_tableOut (tgt := 213) hx hb dX6_carryOut_1 (tbl_out (97) (120) (fun k h1 h2 => ?_)) (by decide) ?_
                                                  · have h3 : k = 97 ∨ k = 98 ∨ k = 99 ∨ k = 100 ∨ k = 101 ∨ k = 102 ∨ k = 103 ∨ k = 104 ∨ k = 105 ∨ k = 106 ∨ k = 107 ∨ k = 108 ∨ k = 109 ∨ k = 110 ∨ k = 111 ∨ k = 112 ∨ k = 113 ∨ k = 114 ∨ k = 115 ∨ k = 116 ∨ k = 117 ∨ k = 118 ∨ k = 119 ∨ k = 120 := by omega
                                                    rcases h3 with rfl | rfl | rfl | rfl | rfl | rfl | rfl | rfl | rfl | rfl | rfl | rfl | rfl | rfl | rfl | rfl | rfl | rfl | rfl | rfl | rfl | rfl | rfl | rfl
                                                    · exact c_1_97
                                                    · exact c_1_98
                                                    · exact c_1_99
                                                    · exact c_1_100
                                                    · exact c_1_101
                                                    · exact c_1_102
                                                    · exact c_1_103
                                                    · exact c_1_104
                                                    · exact c_1_105
                                                    · exact c_1_106
                                                    · exact c_1_107
                                                    · exact c_1_108
                                                    · exact c_1_109
                                                    · exact c_1_110
                                                    · exact c_1_111
                                                    · exact c_1_112
                                                    · exact c_1_113
                                                    · exact c_1_114
                                                    · exact c_1_115
                                                    · exact c_1_116
                                                    · exact c_1_117
                                                    · exact c_1_118
                                                    · exact c_1_119
                                                    · exact c_1_120
                                                  refine lv_bipush (v := (-105)) hx hb dX6_carryOut_213 (by decide) ?_
                                                  exact r_reti M hW (by rw [sX6_carryOut2, if_neg c_1_97, if_neg c_1_98, if_neg c_1_99, if_neg c_1_100, if_neg c_1_101, if_neg c_1_102, if_neg c_1_103, if_neg c_1_104, if_neg c_1_105, if_neg c_1_106, if_neg c_1_107, if_neg c_1_108, if_neg c_1_109, if_neg c_1_110, if_neg c_1_111, if_neg c_1_112, if_neg c_1_113, if_neg c_1_114, if_neg c_1_115, if_neg c_1_116, if_neg c_1_117, if_neg c_1_118, if_neg c_1_119, if_neg c_1_120]) ⟨by rw [rX6_carryOut, if_neg c_1_97, if_neg c_1_98, if_neg c_1_99, if_neg c_1_100, if_neg c_1_101, if_neg c_1_102, if_neg c_1_103, if_neg c_1_104, if_neg c_1_105, if_neg c_1_106, if_neg c_1_107, if_neg c_1_108, if_neg c_1_109, if_neg c_1_110, if_neg c_1_111, if_neg c_1_112, if_neg c_1_113, if_neg c_1_114, if_neg c_1_115, if_neg c_1_116, if_neg c_1_117, if_neg c_1_118, if_neg c_1_119, if_neg c_1_120], rfl⟩ (Nat.zero_le _) (Nat.zero_le _) dX6_carryOut_215
