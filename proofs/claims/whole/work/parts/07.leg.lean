def rX6_isWithin (x : Int32) (lo : Int32) (hi : Int32) : Int32 := if x < lo then 0 else if hi < x then 0 else 1
set_option maxHeartbeats 4000000 in
set_option maxRecDepth 100000 in
/-- X6.isWithin -/
theorem c_X6_isWithin (l : Launch) (G : Gp) (x : Int32) (lo : Int32) (hi : Int32) (Y : va_W) : Cn l G yX6_isWithin cX6_isWithin 3 (some .boolean) 0 [.int x, .int lo, .int hi] (Y) (some (.int (rX6_isWithin x lo hi))) (Y) := by
  refine CnE.of (by decide) (Nat.le_of_ble_eq_true rfl) ?_
  intro p e s m below meth c ls M hnm hl hW
  have hx := M.1
  have hb := M.2.1
  have hl : lv_has ls 3 [(0, .int x), (1, .int lo), (2, .int hi)] := hl
  refine lv_iload_n hx hb dX6_isWithin_0 rfl (lv_at hl 0 rfl) ?_
  refine lv_iload_n hx hb dX6_isWithin_1 rfl (lv_at hl 1 rfl) ?_
  refine lv_icmp_lt (tgt := 14) hx hb dX6_isWithin_2 (by decide) (fun c_2 => ?_) (fun c_2 => ?_)
  · skip
    refine lv_iconst (v := 0) hx hb dX6_isWithin_14 (by decide) ?_
    exact r_retz M rfl hW rfl ⟨by rw [rX6_isWithin, if_pos c_2], rfl⟩ (Nat.zero_le _) (Nat.zero_le _) dX6_isWithin_15
  · skip
    refine lv_iload_n hx hb dX6_isWithin_5 rfl (lv_at hl 0 rfl) ?_
    refine lv_iload_n hx hb dX6_isWithin_6 rfl (lv_at hl 2 rfl) ?_
    refine lv_icmp_gt (tgt := 14) hx hb dX6_isWithin_7 (by decide) (fun c_7 => ?_) (fun c_7 => ?_)
    · skip
      refine lv_iconst (v := 0) hx hb dX6_isWithin_14 (by decide) ?_
      exact r_retz M rfl hW rfl ⟨by rw [rX6_isWithin, if_neg c_2, if_pos c_7], rfl⟩ (Nat.zero_le _) (Nat.zero_le _) dX6_isWithin_15
    · skip
      refine lv_iconst (v := 1) hx hb dX6_isWithin_10 (by decide) ?_
      refine lv_goto (tgt := 15) hx hb dX6_isWithin_11 (by decide) ?_
      exact r_retz M rfl hW rfl ⟨by rw [rX6_isWithin, if_neg c_2, if_neg c_7], rfl⟩ (Nat.zero_le _) (Nat.zero_le _) dX6_isWithin_15

def sX1_pourIntoBoot (g : Nat → Nat → Int32) (x : Int32) : Nat → Nat → Int32 := up2 (up2 g 4 0 ((g 4 0) + (imin x (300 - (g 4 0))))) 4 2 ((g 4 2) + (x - (imin x (300 - (g 4 0)))))
set_option maxHeartbeats 4000000 in
set_option maxRecDepth 100000 in
/-- X1.pourIntoBoot -/
theorem c_X1_pourIntoBoot (l : Launch) (G : Gp) (a : Nat → Nat) (g : Nat → Nat → Int32) (x : Int32) (Y : va_W) : Cn l G yX1_pourIntoBoot cX1_pourIntoBoot 3 none 1 [.ref (a 4), .int x] (LegW G a g ++ Y) none (LegW G a (sX1_pourIntoBoot g x) ++ Y) := by
  refine CnE.of (by decide) (Nat.le_of_ble_eq_true rfl) ?_
  intro p e s m below meth c ls M hnm hl hW
  have hx := M.1
  have hb := M.2.1
  have hl : lv_has ls 3 [(0, .ref (a 4)), (1, .int x)] := hl
  refine lv_iload_n hx hb dX1_pourIntoBoot_0 rfl (lv_at hl 1 rfl) ?_
  refine lv_sipush (v := 300) hx hb dX1_pourIntoBoot_1 (by decide) ?_
  refine lv_aload_n hx hb dX1_pourIntoBoot_4 rfl (lv_at hl 0 rfl) ?_
  refine r_get M hW 4 (k := 0) (v := .int (g 4 0)) rfl rfl kin_1 (by decide) kw_31 rfl dX1_pourIntoBoot_5 ?_
  refine lv_isub hx hb dX1_pourIntoBoot_8 ?_
  refine r_min M kw_38 kw_24 kw_21 kw_25 hl.1 (by decide) (by decide) ⟨Nat.zero_le _, Nat.zero_le _⟩ dX1_pourIntoBoot_9 ?_
  refine lv_istore_n (lv' := [(2, .int (imin x (300 - (g 4 0)))), (0, .ref (a 4)), (1, .int x)]) hx hb dX1_pourIntoBoot_12 rfl hl (by decide) rfl (fun ls hl => ?_)
  refine lv_aload_n hx hb dX1_pourIntoBoot_13 rfl (lv_at hl 1 rfl) ?_
  refine lv_dup hx hb dX1_pourIntoBoot_14 rfl ?_
  refine r_get M hW 4 (k := 0) (v := .int (g 4 0)) rfl rfl kin_1 (by decide) kw_31 rfl dX1_pourIntoBoot_15 ?_
  refine lv_iload_n hx hb dX1_pourIntoBoot_18 rfl (lv_at hl 0 rfl) ?_
  refine lv_iadd hx hb dX1_pourIntoBoot_19 ?_
  refine r_put M hW 4 (k := 0) rfl rfl kin_1 tyX1_ok nmX1 (by decide) kw_31 rfl pfI rfl rfl (Nat.le_of_ble_eq_true rfl) (LegW G a (up2 g 4 0 ((g 4 0) + (imin x (300 - (g 4 0))))) ++ Y) rfl dX1_pourIntoBoot_20 (fun H locs hW => ?_)
  refine lv_aload_n hx hb dX1_pourIntoBoot_23 rfl (lv_at hl 1 rfl) ?_
  refine lv_dup hx hb dX1_pourIntoBoot_24 rfl ?_
  refine r_get M hW 4 (k := 2) (v := .int (g 4 2)) rfl rfl kin_1 (by decide) kw_33 rfl dX1_pourIntoBoot_25 ?_
  refine lv_iload_n hx hb dX1_pourIntoBoot_28 rfl (lv_at hl 2 rfl) ?_
  refine lv_iload_n hx hb dX1_pourIntoBoot_29 rfl (lv_at hl 0 rfl) ?_
  refine lv_isub hx hb dX1_pourIntoBoot_30 ?_
  refine lv_iadd hx hb dX1_pourIntoBoot_31 ?_
  refine r_put M hW 4 (k := 2) rfl rfl kin_1 tyX1_ok nmX1 (by decide) kw_33 rfl pfI rfl rfl (Nat.le_of_ble_eq_true rfl) (LegW G a (up2 (up2 g 4 0 ((g 4 0) + (imin x (300 - (g 4 0))))) 4 2 ((g 4 2) + (x - (imin x (300 - (g 4 0)))))) ++ Y) rfl dX1_pourIntoBoot_32 (fun H locs hW => ?_)
  exact r_retv M hW (by rw [sX1_pourIntoBoot]) ⟨rfl, rfl⟩ (Nat.zero_le _) (Nat.zero_le _) dX1_pourIntoBoot_35

def sX1_feedIn (g : Nat → Nat → Int32) (x : Int32) : Nat → Nat → Int32 := sX1_pourIntoBoot (up2 g 4 3 ((g 4 3) + x)) x
set_option maxHeartbeats 4000000 in
set_option maxRecDepth 100000 in
/-- X1.feedIn -/
theorem c_X1_feedIn (l : Launch) (G : Gp) (a : Nat → Nat) (g : Nat → Nat → Int32) (x : Int32) (Y : va_W) : Cn l G yX1_feedIn cX1_feedIn 2 none 2 [.ref (a 4), .int x] (LegW G a g ++ Y) none (LegW G a (sX1_feedIn g x) ++ Y) := by
  refine CnE.of (by decide) (Nat.le_of_ble_eq_true rfl) ?_
  intro p e s m below meth c ls M hnm hl hW
  have hx := M.1
  have hb := M.2.1
  have hl : lv_has ls 2 [(0, .ref (a 4)), (1, .int x)] := hl
  refine lv_aload_n hx hb dX1_feedIn_0 rfl (lv_at hl 0 rfl) ?_
  refine lv_dup hx hb dX1_feedIn_1 rfl ?_
  refine r_get M hW 4 (k := 3) (v := .int (g 4 3)) rfl rfl kin_1 (by decide) kw_34 rfl dX1_feedIn_2 ?_
  refine lv_iload_n hx hb dX1_feedIn_5 rfl (lv_at hl 1 rfl) ?_
  refine lv_iadd hx hb dX1_feedIn_6 ?_
  refine r_put M hW 4 (k := 3) rfl rfl kin_1 tyX1_ok nmX1 (by decide) kw_34 rfl pfI rfl rfl (Nat.le_of_ble_eq_true rfl) (LegW G a (up2 g 4 3 ((g 4 3) + x)) ++ Y) rfl dX1_feedIn_7 (fun H locs hW => ?_)
  refine lv_aload_n hx hb dX1_feedIn_10 rfl (lv_at hl 0 rfl) ?_
  refine lv_iload_n hx hb dX1_feedIn_11 rfl (lv_at hl 1 rfl) ?_
  refine r_callVv M hW (c_X1_pourIntoBoot l G a (up2 g 4 3 ((g 4 3) + x)) x (Y)) rfl kw_40 kw_41 kw_42 kw_43 kw_37 pl_X1_pourIntoBoot 4 rfl rfl ⟨by decide, by decide⟩ ⟨Nat.zero_le _, Nat.zero_le _⟩ hl.1 rfl (Nat.le_of_ble_eq_true rfl) dX1_feedIn_12 (fun H locs hW => ?_)
  exact r_retv M hW (by rw [sX1_feedIn]) ⟨rfl, rfl⟩ (Nat.zero_le _) (Nat.zero_le _) dX1_feedIn_15

def sX1_fallBack (g : Nat → Nat → Int32) (x : Int32) : Nat → Nat → Int32 := sX1_pourIntoBoot (up2 g 4 5 ((g 4 5) + x)) x
set_option maxHeartbeats 4000000 in
set_option maxRecDepth 100000 in
/-- X1.fallBack -/
theorem c_X1_fallBack (l : Launch) (G : Gp) (a : Nat → Nat) (g : Nat → Nat → Int32) (x : Int32) (Y : va_W) : Cn l G yX1_fallBack cX1_fallBack 2 none 2 [.ref (a 4), .int x] (LegW G a g ++ Y) none (LegW G a (sX1_fallBack g x) ++ Y) := by
  refine CnE.of (by decide) (Nat.le_of_ble_eq_true rfl) ?_
  intro p e s m below meth c ls M hnm hl hW
  have hx := M.1
  have hb := M.2.1
  have hl : lv_has ls 2 [(0, .ref (a 4)), (1, .int x)] := hl
  refine lv_aload_n hx hb dX1_fallBack_0 rfl (lv_at hl 0 rfl) ?_
  refine lv_dup hx hb dX1_fallBack_1 rfl ?_
  refine r_get M hW 4 (k := 5) (v := .int (g 4 5)) rfl rfl kin_1 (by decide) kw_36 rfl dX1_fallBack_2 ?_
  refine lv_iload_n hx hb dX1_fallBack_5 rfl (lv_at hl 1 rfl) ?_
  refine lv_iadd hx hb dX1_fallBack_6 ?_
  refine r_put M hW 4 (k := 5) rfl rfl kin_1 tyX1_ok nmX1 (by decide) kw_36 rfl pfI rfl rfl (Nat.le_of_ble_eq_true rfl) (LegW G a (up2 g 4 5 ((g 4 5) + x)) ++ Y) rfl dX1_fallBack_7 (fun H locs hW => ?_)
  refine lv_aload_n hx hb dX1_fallBack_10 rfl (lv_at hl 0 rfl) ?_
  refine lv_iload_n hx hb dX1_fallBack_11 rfl (lv_at hl 1 rfl) ?_
  refine r_callVv M hW (c_X1_pourIntoBoot l G a (up2 g 4 5 ((g 4 5) + x)) x (Y)) rfl kw_40 kw_41 kw_42 kw_43 kw_37 pl_X1_pourIntoBoot 4 rfl rfl ⟨by decide, by decide⟩ ⟨Nat.zero_le _, Nat.zero_le _⟩ hl.1 rfl (Nat.le_of_ble_eq_true rfl) dX1_fallBack_12 (fun H locs hW => ?_)
  exact r_retv M hW (by rw [sX1_fallBack]) ⟨rfl, rfl⟩ (Nat.zero_le _) (Nat.zero_le _) dX1_fallBack_15
