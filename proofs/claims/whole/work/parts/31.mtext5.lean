def mWh (x : Int32) : Nat := if x = 100 then 0 else if x = 116 then 1 else if x = 102 then 2 else if x = 99 then 3 else 4
theorem wh_eq (x : Int32) : rX7_whichOf x = nI (mWh x) ∧ mWh x ≤ 4 := by
  unfold rX7_whichOf mWh
  by_cases a1 : x = 100
  · rw [if_pos a1, if_pos a1]; exact ⟨rfl, by decide⟩
  rw [if_neg a1, if_neg a1]
  by_cases a2 : x = 116
  · rw [if_pos a2, if_pos a2]; exact ⟨rfl, by decide⟩
  rw [if_neg a2, if_neg a2]
  by_cases a3 : x = 102
  · rw [if_pos a3, if_pos a3]; exact ⟨rfl, by decide⟩
  rw [if_neg a3, if_neg a3]
  by_cases a4 : x = 99
  · rw [if_pos a4, if_pos a4]; exact ⟨rfl, by decide⟩
  rw [if_neg a4, if_neg a4]
  exact ⟨rfl, by decide⟩

def rX7_does (u : Nat → Nat → Int32) (x : Int32) (y : Int32) : Int32 := if x = 103 then rX7_refusesStart u else if x = 104 then 0 else if x = 105 then 0 else if x = 106 then 0 else if x = 107 then 0 else if x = 108 then 0 else if x = 109 then 0 else if x = 110 then 0 else if x = 111 then rX7_refusesGate u 1 else if x = 112 then 0 else if x = 113 then 0 else if x = 114 then rX7_refusesReset u else if x = 115 then 0 else if x = 116 then 0 else if x = 117 then 0 else if x = 118 then 0 else if x = 119 then rX7_refusesRun u y else if x = 120 then rX7_refusesGate u 0 else 0
def sX7_does (u : Nat → Nat → Int32) (x : Int32) (y : Int32) : Nat → Nat → Int32 := if x = 103 then up2 u 1 14 (if (rX7_refusesStart u) = 0 then 1 else u 1 14) else if x = 104 then up2 u 1 (mWh x) y else if x = 105 then up2 u 1 (mWh x) y else if x = 106 then up2 u 1 (mWh x) y else if x = 107 then up2 u 1 (mWh x) y else if x = 108 then up2 u 1 (mWh x) y else if x = 109 then up2 u 1 (mWh x) y else if x = 110 then up2 u 1 (mWh x) y else if x = 111 then up2 u 1 15 (if (rX7_refusesGate u 1) = 0 then 1 else u 1 15) else if x = 112 then up2 u 1 (mWh x) y else if x = 113 then up2 u 1 (mWh x) y else if x = 114 then up2 u 1 16 (if (rX7_refusesReset u) = 0 then 0 else u 1 16) else if x = 115 then up2 u 1 14 0 else if x = 116 then up2 u 1 (mWh x) y else if x = 117 then up2 u 1 (mWh x) y else if x = 118 then up2 u 1 (mWh x) y else if x = 119 then (if (rX7_refusesRun u y) = 0 then sX7_ticks u y else u) else if x = 120 then up2 u 1 15 (if (rX7_refusesGate u 0) = 0 then 0 else u 1 15) else up2 u 1 (mWh x) y
set_option maxHeartbeats 4000000 in
set_option maxRecDepth 100000 in
/-- X7.does -/
theorem c_X7_does (l : Launch) (G : Gp) (b : Nat → Nat) (u : Nat → Nat → Int32) (x : Int32) (y : Int32) (Y : va_W) : Cn l G yX7_does cX7_does 4 (some .int) 5 [.ref (b 0), .int x, .int y] (ModW G b u ++ Y) (some (.int (rX7_does u x y))) (ModW G b (sX7_does u x y) ++ Y) := by
  refine CnE.of (by decide) (Nat.le_of_ble_eq_true rfl) ?_
  intro p e s m below meth c ls M hnm hl hW
  have hx := M.1
  have hb := M.2.1
  have hl : lv_has ls 4 [(0, .ref (b 0)), (1, .int x), (2, .int y)] := hl
  refine lv_iconst (v := 0) hx hb dX7_does_0 (by decide) ?_
  refine lv_istore_n (lv' := [(3, .int 0), (0, .ref (b 0)), (1, .int x), (2, .int y)]) hx hb dX7_does_1 rfl hl (by decide) rfl (fun ls hl => ?_)
  refine lv_iload_n hx hb dX7_does_2 rfl (lv_at hl 2 rfl) ?_
  by_cases c_3_103 : x = 103
  · skip
    refine lv_tableIn (off := 85) (tgt := 88) hx hb dX7_does_3 (by rw [c_3_103]; decide) (by rw [c_3_103]; decide) (by rw [c_3_103]; rfl) (by decide) ?_
    refine lv_aload_n hx hb dX7_does_88 rfl (lv_at hl 1 rfl) ?_
    refine r_callVi M hW (c_X7_refusesStart l G b u  (Y)) rfl kw_464 kw_465 kw_466 kw_412 kw_447 pl_X7_refusesStart 0 rfl rfl ⟨by decide, by decide⟩ ⟨Nat.zero_le _, Nat.zero_le _⟩ hl.1 rfl (Nat.le_of_ble_eq_true rfl) dX7_does_89 (fun H locs hW => ?_)
    refine lv_istore_n (lv' := [(3, .int (rX7_refusesStart u)), (0, .ref (b 0)), (1, .int x), (2, .int y)]) hx hb dX7_does_92 rfl hl (by decide) rfl (fun ls hl => ?_)
    refine lv_aload_n hx hb dX7_does_93 rfl (lv_at hl 1 rfl) ?_
    refine gt_Mod_0_1 M hW kw_392 dX7_does_94 ?_
    refine lv_bipush (v := 14) hx hb dX7_does_97 (by decide) ?_
    refine lv_iload_n hx hb dX7_does_99 rfl (lv_at hl 0 rfl) ?_
    refine r_cuti (pc2 := 114) (ls2 := ls) (st := [.int 14, .ref (b 1)]) (if (rX7_refusesStart u) = 0 then 1 else u 1 14) (fun x_114 hx_114 => ?_) (fun hJ_114 => ?_)
    · skip
      rewrite [hx_114]
      refine as_Mod_1 M hW 14 rfl (by decide) dX7_does_114 (fun H locs hW => ?_)
      refine lv_iload_n hx hb dX7_does_115 rfl (lv_at hl 0 rfl) ?_
      exact r_reti M hW (by rw [sX7_does, if_pos c_3_103]) ⟨by rw [rX7_does, if_pos c_3_103], rfl⟩ (Nat.zero_le _) (Nat.zero_le _) dX7_does_116
    · skip
      refine lv_if_ne (tgt := 107) hx hb dX7_does_100 (by decide) (fun c_100 => ?_) (fun c_100 => ?_)
      · skip
        refine lv_aload_n hx hb dX7_does_107 rfl (lv_at hl 1 rfl) ?_
        refine gt_Mod_0_1 M hW kw_392 dX7_does_108 ?_
        refine lv_bipush (v := 14) hx hb dX7_does_111 (by decide) ?_
        refine al_Mod_1 M hW 14 rfl (by decide) (x := u 1 14) rfl dX7_does_113 ?_
        exact hJ_114 _ (by rw [if_neg c_100])
      · skip
        refine lv_iconst (v := 1) hx hb dX7_does_103 (by decide) ?_
        refine lv_goto (tgt := 114) hx hb dX7_does_104 (by decide) ?_
        exact hJ_114 _ (by rw [if_pos c_100])
  · skip
    by_cases c_3_104 : x = 104
    · skip
      refine lv_tableIn (off := 221) (tgt := 224) hx hb dX7_does_3 (by rw [c_3_104]; decide) (by rw [c_3_104]; decide) (by rw [c_3_104]; rfl) (by decide) ?_
      refine lv_aload_n hx hb dX7_does_224 rfl (lv_at hl 1 rfl) ?_
      refine gt_Mod_0_1 M hW kw_392 dX7_does_225 ?_
      refine lv_iload_n hx hb dX7_does_228 rfl (lv_at hl 2 rfl) ?_
      refine r_callSi M hW (as := [.int x]) (c_X7_whichOf l G x (ModW G b u ++ Y)) rfl kw_514 kw_515 kw_412 kw_513 pl_X7_whichOf ⟨by decide, by decide⟩ ⟨Nat.zero_le _, Nat.zero_le _⟩ hl.1 rfl (Nat.le_of_ble_eq_true rfl) dX7_does_229 (fun H locs hW => ?_)
      refine r_top (y := nI (mWh x)) (wh_eq x).1 ?_
      refine lv_iload_n hx hb dX7_does_232 rfl (lv_at hl 3 rfl) ?_
      refine as_Mod_1 M hW (mWh x) rfl (by have := (wh_eq x).2; omega) dX7_does_233 (fun H locs hW => ?_)
      refine lv_iconst (v := 0) hx hb dX7_does_234 (by decide) ?_
      exact r_reti M hW (by rw [sX7_does, if_neg c_3_103, if_pos c_3_104]) ⟨by rw [rX7_does, if_neg c_3_103, if_pos c_3_104], rfl⟩ (Nat.zero_le _) (Nat.zero_le _) dX7_does_235
    · skip
      by_cases c_3_105 : x = 105
      · skip
        refine lv_tableIn (off := 221) (tgt := 224) hx hb dX7_does_3 (by rw [c_3_105]; decide) (by rw [c_3_105]; decide) (by rw [c_3_105]; rfl) (by decide) ?_
        refine lv_aload_n hx hb dX7_does_224 rfl (lv_at hl 1 rfl) ?_
        refine gt_Mod_0_1 M hW kw_392 dX7_does_225 ?_
        refine lv_iload_n hx hb dX7_does_228 rfl (lv_at hl 2 rfl) ?_
        refine r_callSi M hW (as := [.int x]) (c_X7_whichOf l G x (ModW G b u ++ Y)) rfl kw_514 kw_515 kw_412 kw_513 pl_X7_whichOf ⟨by decide, by decide⟩ ⟨Nat.zero_le _, Nat.zero_le _⟩ hl.1 rfl (Nat.le_of_ble_eq_true rfl) dX7_does_229 (fun H locs hW => ?_)
        refine r_top (y := nI (mWh x)) (wh_eq x).1 ?_
        refine lv_iload_n hx hb dX7_does_232 rfl (lv_at hl 3 rfl) ?_
        refine as_Mod_1 M hW (mWh x) rfl (by have := (wh_eq x).2; omega) dX7_does_233 (fun H locs hW => ?_)
        refine lv_iconst (v := 0) hx hb dX7_does_234 (by decide) ?_
        exact r_reti M hW (by rw [sX7_does, if_neg c_3_103, if_neg c_3_104, if_pos c_3_105]) ⟨by rw [rX7_does, if_neg c_3_103, if_neg c_3_104, if_pos c_3_105], rfl⟩ (Nat.zero_le _) (Nat.zero_le _) dX7_does_235
      · skip
        by_cases c_3_106 : x = 106
        · skip
          refine lv_tableIn (off := 221) (tgt := 224) hx hb dX7_does_3 (by rw [c_3_106]; decide) (by rw [c_3_106]; decide) (by rw [c_3_106]; rfl) (by decide) ?_
          refine lv_aload_n hx hb dX7_does_224 rfl (lv_at hl 1 rfl) ?_
          refine gt_Mod_0_1 M hW kw_392 dX7_does_225 ?_
          refine lv_iload_n hx hb dX7_does_228 rfl (lv_at hl 2 rfl) ?_
          refine r_callSi M hW (as := [.int x]) (c_X7_whichOf l G x (ModW G b u ++ Y)) rfl kw_514 kw_515 kw_412 kw_513 pl_X7_whichOf ⟨by decide, by decide⟩ ⟨Nat.zero_le _, Nat.zero_le _⟩ hl.1 rfl (Nat.le_of_ble_eq_true rfl) dX7_does_229 (fun H locs hW => ?_)
          refine r_top (y := nI (mWh x)) (wh_eq x).1 ?_
          refine lv_iload_n hx hb dX7_does_232 rfl (lv_at hl 3 rfl) ?_
          refine as_Mod_1 M hW (mWh x) rfl (by have := (wh_eq x).2; omega) dX7_does_233 (fun H locs hW => ?_)
          refine lv_iconst (v := 0) hx hb dX7_does_234 (by decide) ?_
          exact r_reti M hW (by rw [sX7_does, if_neg c_3_103, if_neg c_3_104, if_neg c_3_105, if_pos c_3_106]) ⟨by rw [rX7_does, if_neg c_3_103, if_neg c_3_104, if_neg c_3_105, if_pos c_3_106], rfl⟩ (Nat.zero_le _) (Nat.zero_le _) dX7_does_235
        · skip
          by_cases c_3_107 : x = 107
          · skip
            refine lv_tableIn (off := 221) (tgt := 224) hx hb dX7_does_3 (by rw [c_3_107]; decide) (by rw [c_3_107]; decide) (by rw [c_3_107]; rfl) (by decide) ?_
            refine lv_aload_n hx hb dX7_does_224 rfl (lv_at hl 1 rfl) ?_
            refine gt_Mod_0_1 M hW kw_392 dX7_does_225 ?_
            refine lv_iload_n hx hb dX7_does_228 rfl (lv_at hl 2 rfl) ?_
            refine r_callSi M hW (as := [.int x]) (c_X7_whichOf l G x (ModW G b u ++ Y)) rfl kw_514 kw_515 kw_412 kw_513 pl_X7_whichOf ⟨by decide, by decide⟩ ⟨Nat.zero_le _, Nat.zero_le _⟩ hl.1 rfl (Nat.le_of_ble_eq_true rfl) dX7_does_229 (fun H locs hW => ?_)
            refine r_top (y := nI (mWh x)) (wh_eq x).1 ?_
            refine lv_iload_n hx hb dX7_does_232 rfl (lv_at hl 3 rfl) ?_
            refine as_Mod_1 M hW (mWh x) rfl (by have := (wh_eq x).2; omega) dX7_does_233 (fun H locs hW => ?_)
            refine lv_iconst (v := 0) hx hb dX7_does_234 (by decide) ?_
            exact r_reti M hW (by rw [sX7_does, if_neg c_3_103, if_neg c_3_104, if_neg c_3_105, if_neg c_3_106, if_pos c_3_107]) ⟨by rw [rX7_does, if_neg c_3_103, if_neg c_3_104, if_neg c_3_105, if_neg c_3_106, if_pos c_3_107], rfl⟩ (Nat.zero_le _) (Nat.zero_le _) dX7_does_235
          · skip
            by_cases c_3_108 : x = 108
            · skip
              refine lv_tableIn (off := 221) (tgt := 224) hx hb dX7_does_3 (by rw [c_3_108]; decide) (by rw [c_3_108]; decide) (by rw [c_3_108]; rfl) (by decide) ?_
              refine lv_aload_n hx hb dX7_does_224 rfl (lv_at hl 1 rfl) ?_
              refine gt_Mod_0_1 M hW kw_392 dX7_does_225 ?_
              refine lv_iload_n hx hb dX7_does_228 rfl (lv_at hl 2 rfl) ?_
              refine r_callSi M hW (as := [.int x]) (c_X7_whichOf l G x (ModW G b u ++ Y)) rfl kw_514 kw_515 kw_412 kw_513 pl_X7_whichOf ⟨by decide, by decide⟩ ⟨Nat.zero_le _, Nat.zero_le _⟩ hl.1 rfl (Nat.le_of_ble_eq_true rfl) dX7_does_229 (fun H locs hW => ?_)
              refine r_top (y := nI (mWh x)) (wh_eq x).1 ?_
              refine lv_iload_n hx hb dX7_does_232 rfl (lv_at hl 3 rfl) ?_
              refine as_Mod_1 M hW (mWh x) rfl (by have := (wh_eq x).2; omega) dX7_does_233 (fun H locs hW => ?_)
              refine lv_iconst (v := 0) hx hb dX7_does_234 (by decide) ?_
              exact r_reti M hW (by rw [sX7_does, if_neg c_3_103, if_neg c_3_104, if_neg c_3_105, if_neg c_3_106, if_neg c_3_107, if_pos c_3_108]) ⟨by rw [rX7_does, if_neg c_3_103, if_neg c_3_104, if_neg c_3_105, if_neg c_3_106, if_neg c_3_107, if_pos c_3_108], rfl⟩ (Nat.zero_le _) (Nat.zero_le _) dX7_does_235
            · skip
              by_cases c_3_109 : x = 109
              · skip
                refine lv_tableIn (off := 221) (tgt := 224) hx hb dX7_does_3 (by rw [c_3_109]; decide) (by rw [c_3_109]; decide) (by rw [c_3_109]; rfl) (by decide) ?_
                refine lv_aload_n hx hb dX7_does_224 rfl (lv_at hl 1 rfl) ?_
                refine gt_Mod_0_1 M hW kw_392 dX7_does_225 ?_
                refine lv_iload_n hx hb dX7_does_228 rfl (lv_at hl 2 rfl) ?_
                refine r_callSi M hW (as := [.int x]) (c_X7_whichOf l G x (ModW G b u ++ Y)) rfl kw_514 kw_515 kw_412 kw_513 pl_X7_whichOf ⟨by decide, by decide⟩ ⟨Nat.zero_le _, Nat.zero_le _⟩ hl.1 rfl (Nat.le_of_ble_eq_true rfl) dX7_does_229 (fun H locs hW => ?_)
                refine r_top (y := nI (mWh x)) (wh_eq x).1 ?_
                refine lv_iload_n hx hb dX7_does_232 rfl (lv_at hl 3 rfl) ?_
                refine as_Mod_1 M hW (mWh x) rfl (by have := (wh_eq x).2; omega) dX7_does_233 (fun H locs hW => ?_)
                refine lv_iconst (v := 0) hx hb dX7_does_234 (by decide) ?_
                exact r_reti M hW (by rw [sX7_does, if_neg c_3_103, if_neg c_3_104, if_neg c_3_105, if_neg c_3_106, if_neg c_3_107, if_neg c_3_108, if_pos c_3_109]) ⟨by rw [rX7_does, if_neg c_3_103, if_neg c_3_104, if_neg c_3_105, if_neg c_3_106, if_neg c_3_107, if_neg c_3_108, if_pos c_3_109], rfl⟩ (Nat.zero_le _) (Nat.zero_le _) dX7_does_235
              · skip
                by_cases c_3_110 : x = 110
                · skip
                  refine lv_tableIn (off := 221) (tgt := 224) hx hb dX7_does_3 (by rw [c_3_110]; decide) (by rw [c_3_110]; decide) (by rw [c_3_110]; rfl) (by decide) ?_
                  refine lv_aload_n hx hb dX7_does_224 rfl (lv_at hl 1 rfl) ?_
                  refine gt_Mod_0_1 M hW kw_392 dX7_does_225 ?_
                  refine lv_iload_n hx hb dX7_does_228 rfl (lv_at hl 2 rfl) ?_
                  refine r_callSi M hW (as := [.int x]) (c_X7_whichOf l G x (ModW G b u ++ Y)) rfl kw_514 kw_515 kw_412 kw_513 pl_X7_whichOf ⟨by decide, by decide⟩ ⟨Nat.zero_le _, Nat.zero_le _⟩ hl.1 rfl (Nat.le_of_ble_eq_true rfl) dX7_does_229 (fun H locs hW => ?_)
                  refine r_top (y := nI (mWh x)) (wh_eq x).1 ?_
                  refine lv_iload_n hx hb dX7_does_232 rfl (lv_at hl 3 rfl) ?_
                  refine as_Mod_1 M hW (mWh x) rfl (by have := (wh_eq x).2; omega) dX7_does_233 (fun H locs hW => ?_)
                  refine lv_iconst (v := 0) hx hb dX7_does_234 (by decide) ?_
                  exact r_reti M hW (by rw [sX7_does, if_neg c_3_103, if_neg c_3_104, if_neg c_3_105, if_neg c_3_106, if_neg c_3_107, if_neg c_3_108, if_neg c_3_109, if_pos c_3_110]) ⟨by rw [rX7_does, if_neg c_3_103, if_neg c_3_104, if_neg c_3_105, if_neg c_3_106, if_neg c_3_107, if_neg c_3_108, if_neg c_3_109, if_pos c_3_110], rfl⟩ (Nat.zero_le _) (Nat.zero_le _) dX7_does_235
                · skip
                  by_cases c_3_111 : x = 111
                  · skip
                    refine lv_tableIn (off := 124) (tgt := 127) hx hb dX7_does_3 (by rw [c_3_111]; decide) (by rw [c_3_111]; decide) (by rw [c_3_111]; rfl) (by decide) ?_
                    refine lv_aload_n hx hb dX7_does_127 rfl (lv_at hl 1 rfl) ?_
                    refine lv_iload_n hx hb dX7_does_128 rfl (lv_at hl 2 rfl) ?_
                    refine lv_bipush (v := 111) hx hb dX7_does_129 (by decide) ?_
                    refine r_cuti (pc2 := 139) (ls2 := ls) (st := [.ref (b 0)]) (1) (fun x_139 hx_139 => ?_) (fun hJ_139 => ?_)
                    · skip
                      rewrite [hx_139]
                      refine r_callVi M hW (c_X7_refusesGate l G b u 1 (Y)) rfl kw_460 kw_461 kw_462 kw_412 kw_446 pl_X7_refusesGate 0 rfl rfl ⟨by decide, by decide⟩ ⟨Nat.zero_le _, Nat.zero_le _⟩ hl.1 rfl (Nat.le_of_ble_eq_true rfl) dX7_does_139 (fun H locs hW => ?_)
                      refine lv_istore_n (lv' := [(3, .int (rX7_refusesGate u 1)), (0, .ref (b 0)), (1, .int x), (2, .int y)]) hx hb dX7_does_142 rfl hl (by decide) rfl (fun ls hl => ?_)
                      refine lv_aload_n hx hb dX7_does_143 rfl (lv_at hl 1 rfl) ?_
                      refine gt_Mod_0_1 M hW kw_392 dX7_does_144 ?_
                      refine lv_bipush (v := 15) hx hb dX7_does_147 (by decide) ?_
                      refine lv_iload_n hx hb dX7_does_149 rfl (lv_at hl 0 rfl) ?_
                      refine r_cuti (pc2 := 174) (ls2 := ls) (st := [.int 15, .ref (b 1)]) (if (rX7_refusesGate u 1) = 0 then 1 else u 1 15) (fun x_174 hx_174 => ?_) (fun hJ_174 => ?_)
                      · skip
                        rewrite [hx_174]
                        refine as_Mod_1 M hW 15 rfl (by decide) dX7_does_174 (fun H locs hW => ?_)
                        refine lv_iload_n hx hb dX7_does_175 rfl (lv_at hl 0 rfl) ?_
                        exact r_reti M hW (by rw [sX7_does, if_neg c_3_103, if_neg c_3_104, if_neg c_3_105, if_neg c_3_106, if_neg c_3_107, if_neg c_3_108, if_neg c_3_109, if_neg c_3_110, if_pos c_3_111]) ⟨by rw [rX7_does, if_neg c_3_103, if_neg c_3_104, if_neg c_3_105, if_neg c_3_106, if_neg c_3_107, if_neg c_3_108, if_neg c_3_109, if_neg c_3_110, if_pos c_3_111], rfl⟩ (Nat.zero_le _) (Nat.zero_le _) dX7_does_176
                      · skip
                        refine lv_if_eq (tgt := 163) hx hb dX7_does_150 (by decide) (fun c_150 => ?_) (fun c_150 => ?_)
                        · skip
                          refine lv_iload_n hx hb dX7_does_163 rfl (lv_at hl 2 rfl) ?_
                          refine lv_bipush (v := 111) hx hb dX7_does_164 (by decide) ?_
                          refine lv_icmp_ne (tgt := 173) hx hb dX7_does_166 (by decide) (fun c_166 => ?_) (fun c_166 => ?_)
                          · skip
                            exact absurd c_3_111 c_166
                          · skip
                            refine lv_iconst (v := 1) hx hb dX7_does_169 (by decide) ?_
                            refine lv_goto (tgt := 174) hx hb dX7_does_170 (by decide) ?_
                            exact hJ_174 _ (by rw [if_pos c_150])
                        · skip
                          refine lv_aload_n hx hb dX7_does_153 rfl (lv_at hl 1 rfl) ?_
                          refine gt_Mod_0_1 M hW kw_392 dX7_does_154 ?_
                          refine lv_bipush (v := 15) hx hb dX7_does_157 (by decide) ?_
                          refine al_Mod_1 M hW 15 rfl (by decide) (x := u 1 15) rfl dX7_does_159 ?_
                          refine lv_goto (tgt := 174) hx hb dX7_does_160 (by decide) ?_
                          exact hJ_174 _ (by rw [if_neg c_150])
                    · skip
                      refine lv_icmp_ne (tgt := 138) hx hb dX7_does_131 (by decide) (fun c_131 => ?_) (fun c_131 => ?_)
                      · skip
                        exact absurd c_3_111 c_131
                      · skip
                        refine lv_iconst (v := 1) hx hb dX7_does_134 (by decide) ?_
                        refine lv_goto (tgt := 139) hx hb dX7_does_135 (by decide) ?_
                        exact hJ_139 _ rfl
                  · skip
                    by_cases c_3_112 : x = 112
                    · skip
                      refine lv_tableIn (off := 221) (tgt := 224) hx hb dX7_does_3 (by rw [c_3_112]; decide) (by rw [c_3_112]; decide) (by rw [c_3_112]; rfl) (by decide) ?_
                      refine lv_aload_n hx hb dX7_does_224 rfl (lv_at hl 1 rfl) ?_
                      refine gt_Mod_0_1 M hW kw_392 dX7_does_225 ?_
                      refine lv_iload_n hx hb dX7_does_228 rfl (lv_at hl 2 rfl) ?_
                      refine r_callSi M hW (as := [.int x]) (c_X7_whichOf l G x (ModW G b u ++ Y)) rfl kw_514 kw_515 kw_412 kw_513 pl_X7_whichOf ⟨by decide, by decide⟩ ⟨Nat.zero_le _, Nat.zero_le _⟩ hl.1 rfl (Nat.le_of_ble_eq_true rfl) dX7_does_229 (fun H locs hW => ?_)
                      refine r_top (y := nI (mWh x)) (wh_eq x).1 ?_
                      refine lv_iload_n hx hb dX7_does_232 rfl (lv_at hl 3 rfl) ?_
                      refine as_Mod_1 M hW (mWh x) rfl (by have := (wh_eq x).2; omega) dX7_does_233 (fun H locs hW => ?_)
                      refine lv_iconst (v := 0) hx hb dX7_does_234 (by decide) ?_
                      exact r_reti M hW (by rw [sX7_does, if_neg c_3_103, if_neg c_3_104, if_neg c_3_105, if_neg c_3_106, if_neg c_3_107, if_neg c_3_108, if_neg c_3_109, if_neg c_3_110, if_neg c_3_111, if_pos c_3_112]) ⟨by rw [rX7_does, if_neg c_3_103, if_neg c_3_104, if_neg c_3_105, if_neg c_3_106, if_neg c_3_107, if_neg c_3_108, if_neg c_3_109, if_neg c_3_110, if_neg c_3_111, if_pos c_3_112], rfl⟩ (Nat.zero_le _) (Nat.zero_le _) dX7_does_235
                    · skip
                      by_cases c_3_113 : x = 113
                      · skip
                        refine lv_tableIn (off := 221) (tgt := 224) hx hb dX7_does_3 (by rw [c_3_113]; decide) (by rw [c_3_113]; decide) (by rw [c_3_113]; rfl) (by decide) ?_
                        refine lv_aload_n hx hb dX7_does_224 rfl (lv_at hl 1 rfl) ?_
                        refine gt_Mod_0_1 M hW kw_392 dX7_does_225 ?_
                        refine lv_iload_n hx hb dX7_does_228 rfl (lv_at hl 2 rfl) ?_
                        refine r_callSi M hW (as := [.int x]) (c_X7_whichOf l G x (ModW G b u ++ Y)) rfl kw_514 kw_515 kw_412 kw_513 pl_X7_whichOf ⟨by decide, by decide⟩ ⟨Nat.zero_le _, Nat.zero_le _⟩ hl.1 rfl (Nat.le_of_ble_eq_true rfl) dX7_does_229 (fun H locs hW => ?_)
                        refine r_top (y := nI (mWh x)) (wh_eq x).1 ?_
                        refine lv_iload_n hx hb dX7_does_232 rfl (lv_at hl 3 rfl) ?_
                        refine as_Mod_1 M hW (mWh x) rfl (by have := (wh_eq x).2; omega) dX7_does_233 (fun H locs hW => ?_)
                        refine lv_iconst (v := 0) hx hb dX7_does_234 (by decide) ?_
                        exact r_reti M hW (by rw [sX7_does, if_neg c_3_103, if_neg c_3_104, if_neg c_3_105, if_neg c_3_106, if_neg c_3_107, if_neg c_3_108, if_neg c_3_109, if_neg c_3_110, if_neg c_3_111, if_neg c_3_112, if_pos c_3_113]) ⟨by rw [rX7_does, if_neg c_3_103, if_neg c_3_104, if_neg c_3_105, if_neg c_3_106, if_neg c_3_107, if_neg c_3_108, if_neg c_3_109, if_neg c_3_110, if_neg c_3_111, if_neg c_3_112, if_pos c_3_113], rfl⟩ (Nat.zero_le _) (Nat.zero_le _) dX7_does_235
                      · skip
                        by_cases c_3_114 : x = 114
                        · skip
                          refine lv_tableIn (off := 174) (tgt := 177) hx hb dX7_does_3 (by rw [c_3_114]; decide) (by rw [c_3_114]; decide) (by rw [c_3_114]; rfl) (by decide) ?_
                          refine lv_aload_n hx hb dX7_does_177 rfl (lv_at hl 1 rfl) ?_
                          refine r_callVi M hW (c_X7_refusesReset l G b u  (Y)) rfl kw_472 kw_473 kw_474 kw_412 kw_448 pl_X7_refusesReset 0 rfl rfl ⟨by decide, by decide⟩ ⟨Nat.zero_le _, Nat.zero_le _⟩ hl.1 rfl (Nat.le_of_ble_eq_true rfl) dX7_does_178 (fun H locs hW => ?_)
                          refine lv_istore_n (lv' := [(3, .int (rX7_refusesReset u)), (0, .ref (b 0)), (1, .int x), (2, .int y)]) hx hb dX7_does_181 rfl hl (by decide) rfl (fun ls hl => ?_)
                          refine lv_aload_n hx hb dX7_does_182 rfl (lv_at hl 1 rfl) ?_
                          refine gt_Mod_0_1 M hW kw_392 dX7_does_183 ?_
                          refine lv_bipush (v := 16) hx hb dX7_does_186 (by decide) ?_
                          refine lv_iload_n hx hb dX7_does_188 rfl (lv_at hl 0 rfl) ?_
                          refine r_cuti (pc2 := 203) (ls2 := ls) (st := [.int 16, .ref (b 1)]) (if (rX7_refusesReset u) = 0 then 0 else u 1 16) (fun x_203 hx_203 => ?_) (fun hJ_203 => ?_)
                          · skip
                            rewrite [hx_203]
                            refine as_Mod_1 M hW 16 rfl (by decide) dX7_does_203 (fun H locs hW => ?_)
                            refine lv_iload_n hx hb dX7_does_204 rfl (lv_at hl 0 rfl) ?_
                            exact r_reti M hW (by rw [sX7_does, if_neg c_3_103, if_neg c_3_104, if_neg c_3_105, if_neg c_3_106, if_neg c_3_107, if_neg c_3_108, if_neg c_3_109, if_neg c_3_110, if_neg c_3_111, if_neg c_3_112, if_neg c_3_113, if_pos c_3_114]) ⟨by rw [rX7_does, if_neg c_3_103, if_neg c_3_104, if_neg c_3_105, if_neg c_3_106, if_neg c_3_107, if_neg c_3_108, if_neg c_3_109, if_neg c_3_110, if_neg c_3_111, if_neg c_3_112, if_neg c_3_113, if_pos c_3_114], rfl⟩ (Nat.zero_le _) (Nat.zero_le _) dX7_does_205
                          · skip
                            refine lv_if_ne (tgt := 196) hx hb dX7_does_189 (by decide) (fun c_189 => ?_) (fun c_189 => ?_)
                            · skip
                              refine lv_aload_n hx hb dX7_does_196 rfl (lv_at hl 1 rfl) ?_
                              refine gt_Mod_0_1 M hW kw_392 dX7_does_197 ?_
                              refine lv_bipush (v := 16) hx hb dX7_does_200 (by decide) ?_
                              refine al_Mod_1 M hW 16 rfl (by decide) (x := u 1 16) rfl dX7_does_202 ?_
                              exact hJ_203 _ (by rw [if_neg c_189])
                            · skip
                              refine lv_iconst (v := 0) hx hb dX7_does_192 (by decide) ?_
                              refine lv_goto (tgt := 203) hx hb dX7_does_193 (by decide) ?_
                              exact hJ_203 _ (by rw [if_pos c_189])
                        · skip
                          by_cases c_3_115 : x = 115
                          · skip
                            refine lv_tableIn (off := 114) (tgt := 117) hx hb dX7_does_3 (by rw [c_3_115]; decide) (by rw [c_3_115]; decide) (by rw [c_3_115]; rfl) (by decide) ?_
                            refine lv_aload_n hx hb dX7_does_117 rfl (lv_at hl 1 rfl) ?_
                            refine gt_Mod_0_1 M hW kw_392 dX7_does_118 ?_
                            refine lv_bipush (v := 14) hx hb dX7_does_121 (by decide) ?_
                            refine lv_iconst (v := 0) hx hb dX7_does_123 (by decide) ?_
                            refine as_Mod_1 M hW 14 rfl (by decide) dX7_does_124 (fun H locs hW => ?_)
                            refine lv_iconst (v := 0) hx hb dX7_does_125 (by decide) ?_
                            exact r_reti M hW (by rw [sX7_does, if_neg c_3_103, if_neg c_3_104, if_neg c_3_105, if_neg c_3_106, if_neg c_3_107, if_neg c_3_108, if_neg c_3_109, if_neg c_3_110, if_neg c_3_111, if_neg c_3_112, if_neg c_3_113, if_neg c_3_114, if_pos c_3_115]) ⟨by rw [rX7_does, if_neg c_3_103, if_neg c_3_104, if_neg c_3_105, if_neg c_3_106, if_neg c_3_107, if_neg c_3_108, if_neg c_3_109, if_neg c_3_110, if_neg c_3_111, if_neg c_3_112, if_neg c_3_113, if_neg c_3_114, if_pos c_3_115], rfl⟩ (Nat.zero_le _) (Nat.zero_le _) dX7_does_126
                          · skip
                            by_cases c_3_116 : x = 116
                            · skip
                              refine lv_tableIn (off := 221) (tgt := 224) hx hb dX7_does_3 (by rw [c_3_116]; decide) (by rw [c_3_116]; decide) (by rw [c_3_116]; rfl) (by decide) ?_
                              refine lv_aload_n hx hb dX7_does_224 rfl (lv_at hl 1 rfl) ?_
                              refine gt_Mod_0_1 M hW kw_392 dX7_does_225 ?_
                              refine lv_iload_n hx hb dX7_does_228 rfl (lv_at hl 2 rfl) ?_
                              refine r_callSi M hW (as := [.int x]) (c_X7_whichOf l G x (ModW G b u ++ Y)) rfl kw_514 kw_515 kw_412 kw_513 pl_X7_whichOf ⟨by decide, by decide⟩ ⟨Nat.zero_le _, Nat.zero_le _⟩ hl.1 rfl (Nat.le_of_ble_eq_true rfl) dX7_does_229 (fun H locs hW => ?_)
                              refine r_top (y := nI (mWh x)) (wh_eq x).1 ?_
                              refine lv_iload_n hx hb dX7_does_232 rfl (lv_at hl 3 rfl) ?_
                              refine as_Mod_1 M hW (mWh x) rfl (by have := (wh_eq x).2; omega) dX7_does_233 (fun H locs hW => ?_)
                              refine lv_iconst (v := 0) hx hb dX7_does_234 (by decide) ?_
                              exact r_reti M hW (by rw [sX7_does, if_neg c_3_103, if_neg c_3_104, if_neg c_3_105, if_neg c_3_106, if_neg c_3_107, if_neg c_3_108, if_neg c_3_109, if_neg c_3_110, if_neg c_3_111, if_neg c_3_112, if_neg c_3_113, if_neg c_3_114, if_neg c_3_115, if_pos c_3_116]) ⟨by rw [rX7_does, if_neg c_3_103, if_neg c_3_104, if_neg c_3_105, if_neg c_3_106, if_neg c_3_107, if_neg c_3_108, if_neg c_3_109, if_neg c_3_110, if_neg c_3_111, if_neg c_3_112, if_neg c_3_113, if_neg c_3_114, if_neg c_3_115, if_pos c_3_116], rfl⟩ (Nat.zero_le _) (Nat.zero_le _) dX7_does_235
                            · skip
                              by_cases c_3_117 : x = 117
                              · skip
                                refine lv_tableIn (off := 221) (tgt := 224) hx hb dX7_does_3 (by rw [c_3_117]; decide) (by rw [c_3_117]; decide) (by rw [c_3_117]; rfl) (by decide) ?_
                                refine lv_aload_n hx hb dX7_does_224 rfl (lv_at hl 1 rfl) ?_
                                refine gt_Mod_0_1 M hW kw_392 dX7_does_225 ?_
                                refine lv_iload_n hx hb dX7_does_228 rfl (lv_at hl 2 rfl) ?_
                                refine r_callSi M hW (as := [.int x]) (c_X7_whichOf l G x (ModW G b u ++ Y)) rfl kw_514 kw_515 kw_412 kw_513 pl_X7_whichOf ⟨by decide, by decide⟩ ⟨Nat.zero_le _, Nat.zero_le _⟩ hl.1 rfl (Nat.le_of_ble_eq_true rfl) dX7_does_229 (fun H locs hW => ?_)
                                refine r_top (y := nI (mWh x)) (wh_eq x).1 ?_
                                refine lv_iload_n hx hb dX7_does_232 rfl (lv_at hl 3 rfl) ?_
                                refine as_Mod_1 M hW (mWh x) rfl (by have := (wh_eq x).2; omega) dX7_does_233 (fun H locs hW => ?_)
                                refine lv_iconst (v := 0) hx hb dX7_does_234 (by decide) ?_
                                exact r_reti M hW (by rw [sX7_does, if_neg c_3_103, if_neg c_3_104, if_neg c_3_105, if_neg c_3_106, if_neg c_3_107, if_neg c_3_108, if_neg c_3_109, if_neg c_3_110, if_neg c_3_111, if_neg c_3_112, if_neg c_3_113, if_neg c_3_114, if_neg c_3_115, if_neg c_3_116, if_pos c_3_117]) ⟨by rw [rX7_does, if_neg c_3_103, if_neg c_3_104, if_neg c_3_105, if_neg c_3_106, if_neg c_3_107, if_neg c_3_108, if_neg c_3_109, if_neg c_3_110, if_neg c_3_111, if_neg c_3_112, if_neg c_3_113, if_neg c_3_114, if_neg c_3_115, if_neg c_3_116, if_pos c_3_117], rfl⟩ (Nat.zero_le _) (Nat.zero_le _) dX7_does_235
                              · skip
                                by_cases c_3_118 : x = 118
                                · skip
                                  refine lv_tableIn (off := 221) (tgt := 224) hx hb dX7_does_3 (by rw [c_3_118]; decide) (by rw [c_3_118]; decide) (by rw [c_3_118]; rfl) (by decide) ?_
                                  refine lv_aload_n hx hb dX7_does_224 rfl (lv_at hl 1 rfl) ?_
                                  refine gt_Mod_0_1 M hW kw_392 dX7_does_225 ?_
                                  refine lv_iload_n hx hb dX7_does_228 rfl (lv_at hl 2 rfl) ?_
                                  refine r_callSi M hW (as := [.int x]) (c_X7_whichOf l G x (ModW G b u ++ Y)) rfl kw_514 kw_515 kw_412 kw_513 pl_X7_whichOf ⟨by decide, by decide⟩ ⟨Nat.zero_le _, Nat.zero_le _⟩ hl.1 rfl (Nat.le_of_ble_eq_true rfl) dX7_does_229 (fun H locs hW => ?_)
                                  refine r_top (y := nI (mWh x)) (wh_eq x).1 ?_
                                  refine lv_iload_n hx hb dX7_does_232 rfl (lv_at hl 3 rfl) ?_
                                  refine as_Mod_1 M hW (mWh x) rfl (by have := (wh_eq x).2; omega) dX7_does_233 (fun H locs hW => ?_)
                                  refine lv_iconst (v := 0) hx hb dX7_does_234 (by decide) ?_
                                  exact r_reti M hW (by rw [sX7_does, if_neg c_3_103, if_neg c_3_104, if_neg c_3_105, if_neg c_3_106, if_neg c_3_107, if_neg c_3_108, if_neg c_3_109, if_neg c_3_110, if_neg c_3_111, if_neg c_3_112, if_neg c_3_113, if_neg c_3_114, if_neg c_3_115, if_neg c_3_116, if_neg c_3_117, if_pos c_3_118]) ⟨by rw [rX7_does, if_neg c_3_103, if_neg c_3_104, if_neg c_3_105, if_neg c_3_106, if_neg c_3_107, if_neg c_3_108, if_neg c_3_109, if_neg c_3_110, if_neg c_3_111, if_neg c_3_112, if_neg c_3_113, if_neg c_3_114, if_neg c_3_115, if_neg c_3_116, if_neg c_3_117, if_pos c_3_118], rfl⟩ (Nat.zero_le _) (Nat.zero_le _) dX7_does_235
                                · skip
                                  by_cases c_3_119 : x = 119
                                  · skip
                                    refine lv_tableIn (off := 203) (tgt := 206) hx hb dX7_does_3 (by rw [c_3_119]; decide) (by rw [c_3_119]; decide) (by rw [c_3_119]; rfl) (by decide) ?_
                                    refine lv_aload_n hx hb dX7_does_206 rfl (lv_at hl 1 rfl) ?_
                                    refine lv_iload_n hx hb dX7_does_207 rfl (lv_at hl 3 rfl) ?_
                                    refine r_callVi M hW (c_X7_refusesRun l G b u y (Y)) rfl kw_476 kw_477 kw_478 kw_412 kw_449 pl_X7_refusesRun 0 rfl rfl ⟨by decide, by decide⟩ ⟨Nat.zero_le _, Nat.zero_le _⟩ hl.1 rfl (Nat.le_of_ble_eq_true rfl) dX7_does_208 (fun H locs hW => ?_)
                                    refine lv_istore_n (lv' := [(3, .int (rX7_refusesRun u y)), (0, .ref (b 0)), (1, .int x), (2, .int y)]) hx hb dX7_does_211 rfl hl (by decide) rfl (fun ls hl => ?_)
                                    refine lv_iload_n hx hb dX7_does_212 rfl (lv_at hl 0 rfl) ?_
                                    refine lv_if_ne (tgt := 222) hx hb dX7_does_213 (by decide) (fun c_213 => ?_) (fun c_213 => ?_)
                                    · skip
                                      refine lv_iload_n hx hb dX7_does_222 rfl (lv_at hl 0 rfl) ?_
                                      exact r_reti M hW (by rw [sX7_does, if_neg c_3_103, if_neg c_3_104, if_neg c_3_105, if_neg c_3_106, if_neg c_3_107, if_neg c_3_108, if_neg c_3_109, if_neg c_3_110, if_neg c_3_111, if_neg c_3_112, if_neg c_3_113, if_neg c_3_114, if_neg c_3_115, if_neg c_3_116, if_neg c_3_117, if_neg c_3_118, if_pos c_3_119, if_neg c_213]) ⟨by rw [rX7_does, if_neg c_3_103, if_neg c_3_104, if_neg c_3_105, if_neg c_3_106, if_neg c_3_107, if_neg c_3_108, if_neg c_3_109, if_neg c_3_110, if_neg c_3_111, if_neg c_3_112, if_neg c_3_113, if_neg c_3_114, if_neg c_3_115, if_neg c_3_116, if_neg c_3_117, if_neg c_3_118, if_pos c_3_119], rfl⟩ (Nat.zero_le _) (Nat.zero_le _) dX7_does_223
                                    · skip
                                      refine lv_aload_n hx hb dX7_does_216 rfl (lv_at hl 1 rfl) ?_
                                      refine lv_iload_n hx hb dX7_does_217 rfl (lv_at hl 3 rfl) ?_
                                      refine r_callVi M hW (c_X7_ticks l G b u y (Y)) rfl kw_479 kw_480 kw_481 kw_412 kw_439 pl_X7_ticks 0 rfl rfl ⟨by decide, by decide⟩ ⟨Nat.zero_le _, Nat.zero_le _⟩ hl.1 rfl (Nat.le_of_ble_eq_true rfl) dX7_does_218 (fun H locs hW => ?_)
                                      refine lv_pop hx hb dX7_does_221 rfl ?_
                                      refine lv_iload_n hx hb dX7_does_222 rfl (lv_at hl 0 rfl) ?_
                                      exact r_reti M hW (by rw [sX7_does, if_neg c_3_103, if_neg c_3_104, if_neg c_3_105, if_neg c_3_106, if_neg c_3_107, if_neg c_3_108, if_neg c_3_109, if_neg c_3_110, if_neg c_3_111, if_neg c_3_112, if_neg c_3_113, if_neg c_3_114, if_neg c_3_115, if_neg c_3_116, if_neg c_3_117, if_neg c_3_118, if_pos c_3_119, if_pos c_213]) ⟨by rw [rX7_does, if_neg c_3_103, if_neg c_3_104, if_neg c_3_105, if_neg c_3_106, if_neg c_3_107, if_neg c_3_108, if_neg c_3_109, if_neg c_3_110, if_neg c_3_111, if_neg c_3_112, if_neg c_3_113, if_neg c_3_114, if_neg c_3_115, if_neg c_3_116, if_neg c_3_117, if_neg c_3_118, if_pos c_3_119], rfl⟩ (Nat.zero_le _) (Nat.zero_le _) dX7_does_223
                                  · skip
                                    by_cases c_3_120 : x = 120
                                    · skip
                                      refine lv_tableIn (off := 124) (tgt := 127) hx hb dX7_does_3 (by rw [c_3_120]; decide) (by rw [c_3_120]; decide) (by rw [c_3_120]; rfl) (by decide) ?_
                                      refine lv_aload_n hx hb dX7_does_127 rfl (lv_at hl 1 rfl) ?_
                                      refine lv_iload_n hx hb dX7_does_128 rfl (lv_at hl 2 rfl) ?_
                                      refine lv_bipush (v := 111) hx hb dX7_does_129 (by decide) ?_
                                      refine r_cuti (pc2 := 139) (ls2 := ls) (st := [.ref (b 0)]) (0) (fun x_139 hx_139 => ?_) (fun hJ_139 => ?_)
                                      · skip
                                        rewrite [hx_139]
                                        refine r_callVi M hW (c_X7_refusesGate l G b u 0 (Y)) rfl kw_460 kw_461 kw_462 kw_412 kw_446 pl_X7_refusesGate 0 rfl rfl ⟨by decide, by decide⟩ ⟨Nat.zero_le _, Nat.zero_le _⟩ hl.1 rfl (Nat.le_of_ble_eq_true rfl) dX7_does_139 (fun H locs hW => ?_)
                                        refine lv_istore_n (lv' := [(3, .int (rX7_refusesGate u 0)), (0, .ref (b 0)), (1, .int x), (2, .int y)]) hx hb dX7_does_142 rfl hl (by decide) rfl (fun ls hl => ?_)
                                        refine lv_aload_n hx hb dX7_does_143 rfl (lv_at hl 1 rfl) ?_
                                        refine gt_Mod_0_1 M hW kw_392 dX7_does_144 ?_
                                        refine lv_bipush (v := 15) hx hb dX7_does_147 (by decide) ?_
                                        refine lv_iload_n hx hb dX7_does_149 rfl (lv_at hl 0 rfl) ?_
                                        refine r_cuti (pc2 := 174) (ls2 := ls) (st := [.int 15, .ref (b 1)]) (if (rX7_refusesGate u 0) = 0 then 0 else u 1 15) (fun x_174 hx_174 => ?_) (fun hJ_174 => ?_)
                                        · skip
                                          rewrite [hx_174]
                                          refine as_Mod_1 M hW 15 rfl (by decide) dX7_does_174 (fun H locs hW => ?_)
                                          refine lv_iload_n hx hb dX7_does_175 rfl (lv_at hl 0 rfl) ?_
                                          exact r_reti M hW (by rw [sX7_does, if_neg c_3_103, if_neg c_3_104, if_neg c_3_105, if_neg c_3_106, if_neg c_3_107, if_neg c_3_108, if_neg c_3_109, if_neg c_3_110, if_neg c_3_111, if_neg c_3_112, if_neg c_3_113, if_neg c_3_114, if_neg c_3_115, if_neg c_3_116, if_neg c_3_117, if_neg c_3_118, if_neg c_3_119, if_pos c_3_120]) ⟨by rw [rX7_does, if_neg c_3_103, if_neg c_3_104, if_neg c_3_105, if_neg c_3_106, if_neg c_3_107, if_neg c_3_108, if_neg c_3_109, if_neg c_3_110, if_neg c_3_111, if_neg c_3_112, if_neg c_3_113, if_neg c_3_114, if_neg c_3_115, if_neg c_3_116, if_neg c_3_117, if_neg c_3_118, if_neg c_3_119, if_pos c_3_120], rfl⟩ (Nat.zero_le _) (Nat.zero_le _) dX7_does_176
                                        · skip
                                          refine lv_if_eq (tgt := 163) hx hb dX7_does_150 (by decide) (fun c_150 => ?_) (fun c_150 => ?_)
                                          · skip
                                            refine lv_iload_n hx hb dX7_does_163 rfl (lv_at hl 2 rfl) ?_
                                            refine lv_bipush (v := 111) hx hb dX7_does_164 (by decide) ?_
                                            refine lv_icmp_ne (tgt := 173) hx hb dX7_does_166 (by decide) (fun c_166 => ?_) (fun c_166 => ?_)
                                            · skip
                                              refine lv_iconst (v := 0) hx hb dX7_does_173 (by decide) ?_
                                              exact hJ_174 _ (by rw [if_pos c_150])
                                            · skip
                                              exact absurd c_166 c_3_111
                                          · skip
                                            refine lv_aload_n hx hb dX7_does_153 rfl (lv_at hl 1 rfl) ?_
                                            refine gt_Mod_0_1 M hW kw_392 dX7_does_154 ?_
                                            refine lv_bipush (v := 15) hx hb dX7_does_157 (by decide) ?_
                                            refine al_Mod_1 M hW 15 rfl (by decide) (x := u 1 15) rfl dX7_does_159 ?_
                                            refine lv_goto (tgt := 174) hx hb dX7_does_160 (by decide) ?_
                                            exact hJ_174 _ (by rw [if_neg c_150])
                                      · skip
                                        refine lv_icmp_ne (tgt := 138) hx hb dX7_does_131 (by decide) (fun c_131_2 => ?_) (fun c_131_2 => ?_)
                                        · skip
                                          refine lv_iconst (v := 0) hx hb dX7_does_138 (by decide) ?_
                                          exact hJ_139 _ rfl
                                        · skip
                                          exact absurd c_131_2 c_3_111
                                    · skip
                                      refine lv_tableOut (tgt := 224) hx hb dX7_does_3 (tbl_out (103) (120) (fun k h1 h2 => ?_)) (by decide) ?_
                                      · have h3 : k = 103 ∨ k = 104 ∨ k = 105 ∨ k = 106 ∨ k = 107 ∨ k = 108 ∨ k = 109 ∨ k = 110 ∨ k = 111 ∨ k = 112 ∨ k = 113 ∨ k = 114 ∨ k = 115 ∨ k = 116 ∨ k = 117 ∨ k = 118 ∨ k = 119 ∨ k = 120 := by omega
                                        rcases h3 with rfl | rfl | rfl | rfl | rfl | rfl | rfl | rfl | rfl | rfl | rfl | rfl | rfl | rfl | rfl | rfl | rfl | rfl
                                        · exact c_3_103
                                        · exact c_3_104
                                        · exact c_3_105
                                        · exact c_3_106
                                        · exact c_3_107
                                        · exact c_3_108
                                        · exact c_3_109
                                        · exact c_3_110
                                        · exact c_3_111
                                        · exact c_3_112
                                        · exact c_3_113
                                        · exact c_3_114
                                        · exact c_3_115
                                        · exact c_3_116
                                        · exact c_3_117
                                        · exact c_3_118
                                        · exact c_3_119
                                        · exact c_3_120
                                      refine lv_aload_n hx hb dX7_does_224 rfl (lv_at hl 1 rfl) ?_
                                      refine gt_Mod_0_1 M hW kw_392 dX7_does_225 ?_
                                      refine lv_iload_n hx hb dX7_does_228 rfl (lv_at hl 2 rfl) ?_
                                      refine r_callSi M hW (as := [.int x]) (c_X7_whichOf l G x (ModW G b u ++ Y)) rfl kw_514 kw_515 kw_412 kw_513 pl_X7_whichOf ⟨by decide, by decide⟩ ⟨Nat.zero_le _, Nat.zero_le _⟩ hl.1 rfl (Nat.le_of_ble_eq_true rfl) dX7_does_229 (fun H locs hW => ?_)
                                      refine r_top (y := nI (mWh x)) (wh_eq x).1 ?_
                                      refine lv_iload_n hx hb dX7_does_232 rfl (lv_at hl 3 rfl) ?_
                                      refine as_Mod_1 M hW (mWh x) rfl (by have := (wh_eq x).2; omega) dX7_does_233 (fun H locs hW => ?_)
                                      refine lv_iconst (v := 0) hx hb dX7_does_234 (by decide) ?_
                                      exact r_reti M hW (by rw [sX7_does, if_neg c_3_103, if_neg c_3_104, if_neg c_3_105, if_neg c_3_106, if_neg c_3_107, if_neg c_3_108, if_neg c_3_109, if_neg c_3_110, if_neg c_3_111, if_neg c_3_112, if_neg c_3_113, if_neg c_3_114, if_neg c_3_115, if_neg c_3_116, if_neg c_3_117, if_neg c_3_118, if_neg c_3_119, if_neg c_3_120]) ⟨by rw [rX7_does, if_neg c_3_103, if_neg c_3_104, if_neg c_3_105, if_neg c_3_106, if_neg c_3_107, if_neg c_3_108, if_neg c_3_109, if_neg c_3_110, if_neg c_3_111, if_neg c_3_112, if_neg c_3_113, if_neg c_3_114, if_neg c_3_115, if_neg c_3_116, if_neg c_3_117, if_neg c_3_118, if_neg c_3_119, if_neg c_3_120], rfl⟩ (Nat.zero_le _) (Nat.zero_le _) dX7_does_235
