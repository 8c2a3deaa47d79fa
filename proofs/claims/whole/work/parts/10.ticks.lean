theorem LegOK.rub {g : Nat → Nat → Int32} (h : LegOK g) : LegOK (sX3_rub g) := h
theorem LegOK.tick {g : Nat → Nat → Int32} (hOK : LegOK g) : LegOK (sX3_tick g) := by
  unfold sX3_tick sX3_watch
  refine LegOK.iterWatch (LegOK.rub (LegOK.iterMove ?_ _)) 3
  show LegOK (jX3_tick_30 (up2 g 0 12 ((g 0 12) + 1)))
  exact LegOK.tick30 hOK
theorem LegOK.iterTick {g : Nat → Nat → Int32} (hOK : LegOK g) (n : Nat) : LegOK (iterN (fun _ => sX3_tick) n g) := by
  induction n with
  | zero => exact hOK
  | succ n ih =>
    rw [iterN_succ]
    exact ih.tick
theorem nat_toInt {x : Int32} {n : Nat} (hx : x = nI x.toNatClampNeg ∧ x.toNatClampNeg ≤ n) (hn : n < 1000000) : x.toInt = (x.toNatClampNeg : Int) := by
  obtain ⟨e, h⟩ := hx
  generalize x.toNatClampNeg = k at e h
  rw [e]
  exact nI_toInt (by omega)
theorem tu_gt {x : Int32} {n i : Nat} (hx : x = nI x.toNatClampNeg ∧ x.toNatClampNeg ≤ n) (hn : n < 1000000) (h : i = x.toNatClampNeg + 1) : x < nI i := by
  have e := nat_toInt hx hn
  have h2 := hx.2
  rw [Int32.lt_iff_toInt_lt, nI_toInt (by omega), e]
  omega
theorem tu_le {x : Int32} {n i : Nat} (hx : x = nI x.toNatClampNeg ∧ x.toNatClampNeg ≤ n) (hn : n < 1000000) (h : i ≤ x.toNatClampNeg) : ¬ x < nI i := by
  have e := nat_toInt hx hn
  have h2 := hx.2
  rw [Int32.lt_iff_toInt_lt, nI_toInt (by omega), e]
  omega
/-- the legs behind so many ticks, or the trip; and in how many it trips -/
def tuG : Nat → (Nat → Nat → Int32) → (Nat → Nat → Int32)
  | 0, h => h
  | n + 1, h => if (sX3_tick h) 0 6 = 0 then sX3_tick h else tuG n (sX3_tick h)
def tuR : Nat → Nat → (Nat → Nat → Int32) → Int32
  | 0, _, _ => -105
  | n + 1, i, h => if (sX3_tick h) 0 6 = 0 then nI i else tuR n (i + 1) (sX3_tick h)

def rX3_passTicks (g : Nat → Nat → Int32) (x : Int32) : Int32 := if (rX6_isWithin x 1 200) = 0 then (-102) else if ((g 0 12) + x) ≤ 99999 then ((iterN (fun _ => sX3_tick) x.toNatClampNeg g) 4 1) - (g 4 1) else (-103)
def sX3_passTicks (g : Nat → Nat → Int32) (x : Int32) : Nat → Nat → Int32 := if (rX6_isWithin x 1 200) = 0 then g else if ((g 0 12) + x) ≤ 99999 then iterN (fun _ => sX3_tick) x.toNatClampNeg g else g
set_option maxHeartbeats 4000000 in
set_option maxRecDepth 100000 in
/-- X3.passTicks -/
theorem c_X3_passTicks (l : Launch) (G : Gp) (a : Nat → Nat) (g : Nat → Nat → Int32) (x : Int32) (Y : va_W) (hOK : LegOK g) : Cn l G yX3_passTicks cX3_passTicks 4 (some .int) 5 [.ref (a 0), .int x] (LegW G a g ++ Y) (some (.int (rX3_passTicks g x))) (LegW G a (sX3_passTicks g x) ++ Y) := by
  refine CnE.of (by decide) (Nat.le_of_ble_eq_true rfl) ?_
  intro p e s m below meth c ls M hnm hl hW
  have hx := M.1
  have hb := M.2.1
  have hl : lv_has ls 4 [(0, .ref (a 0)), (1, .int x)] := hl
  refine lv_iload_n hx hb dX3_passTicks_0 rfl (lv_at hl 1 rfl) ?_
  refine lv_iconst (v := 1) hx hb dX3_passTicks_1 (by decide) ?_
  refine lv_sipush (v := 200) hx hb dX3_passTicks_2 (by decide) ?_
  refine r_callSNi M hW (as := [.int x, .int 1, .int 200]) (c_X6_isWithin l G x 1 200 (LegW G a g ++ Y)) rfl kn_X3_89 kw_14 kw_15 kw_12 pl_X6_isWithin ⟨by decide, by decide⟩ ⟨Nat.zero_le _, Nat.zero_le _⟩ hl.1 rfl (Nat.le_of_ble_eq_true rfl) dX3_passTicks_5 (fun H locs hW => ?_)
  refine lv_if_ne (tgt := 14) hx hb dX3_passTicks_8 (by decide) (fun c_8 => ?_) (fun c_8 => ?_)
  · skip
    refine lv_aload_n hx hb dX3_passTicks_14 rfl (lv_at hl 0 rfl) ?_
    refine gt_Leg_0_12 M hW kw_98 (x := g 0 12) rfl dX3_passTicks_15 ?_
    refine lv_iload_n hx hb dX3_passTicks_18 rfl (lv_at hl 1 rfl) ?_
    refine lv_iadd hx hb dX3_passTicks_19 ?_
    refine lv_ldc (v := 99999) hx hb M.2.2.2.2.1 (M.2.2.2.2.2.1 _ kw_192) dX3_passTicks_20 ?_
    refine lv_icmp_le (tgt := 28) hx hb dX3_passTicks_22 (by decide) (fun c_22 => ?_) (fun c_22 => ?_)
    · skip
      refine lv_aload_n hx hb dX3_passTicks_28 rfl (lv_at hl 0 rfl) ?_
      refine gt_Leg_0_2 M hW kw_64 dX3_passTicks_29 ?_
      refine gt_Leg_4_1 M hW kw_144 (x := g 4 1) rfl dX3_passTicks_32 ?_
      refine lv_istore_n (lv' := [(2, .int (g 4 1)), (0, .ref (a 0)), (1, .int x)]) hx hb dX3_passTicks_35 rfl hl (by decide) rfl (fun ls hl => ?_)
      refine lv_iconst (v := 0) hx hb dX3_passTicks_36 (by decide) ?_
      refine lv_istore_n (lv' := [(3, .int 0), (2, .int (g 4 1)), (0, .ref (a 0)), (1, .int x)]) hx hb dX3_passTicks_37 rfl hl (by decide) rfl (fun ls hl => ?_)
      refine r_loop (σ := Array Slot × Nat) (fun r uL H1 l1 => uL.2 + r = x.toNatClampNeg ∧ lv_has uL.1 4 [(3, .int (nI uL.2)), (2, .int (g 4 1)), (0, .ref (a 0)), (1, .int x)] ∧ Wd G s (LegW G a (iterN (fun _ => sX3_tick) uL.2 g) ++ Y) H1 l1) (fun uL => F0 m 38 uL.1 []) ?_ ?_ (x.toNatClampNeg) (ls, 0) _ _ ⟨Nat.zero_add _, lv_sub hl [0, 1, 2, 3] rfl, hW⟩
      · skip
        intro uL H locs hI
        obtain ⟨ls, i⟩ := uL
        obtain ⟨hu, hl, hW⟩ := hI
        dsimp only at hu hl hW ⊢
        have hu : i = x.toNatClampNeg := hu
        subst hu
        refine lv_iload_n hx hb dX3_passTicks_38 rfl (lv_at hl 0 rfl) ?_
        refine lv_iload_n hx hb dX3_passTicks_39 rfl (lv_at hl 3 rfl) ?_
        refine lv_icmp_ge (tgt := 53) hx hb dX3_passTicks_40 (by decide) (fun c_40 => ?_) (fun c_40 => ?_)
        · skip
          refine lv_aload_n hx hb dX3_passTicks_53 rfl (lv_at hl 2 rfl) ?_
          refine gt_Leg_0_2 M hW kw_64 dX3_passTicks_54 ?_
          refine gt_Leg_4_1 M hW kw_144 (x := (iterN (fun _ => sX3_tick) x.toNatClampNeg g) 4 1) rfl dX3_passTicks_57 ?_
          refine lv_iload_n hx hb dX3_passTicks_60 rfl (lv_at hl 1 rfl) ?_
          refine lv_isub hx hb dX3_passTicks_61 ?_
          exact r_reti M hW (by rw [sX3_passTicks, if_neg c_8, if_pos c_22]) ⟨by rw [rX3_passTicks, if_neg c_8, if_pos c_22], rfl⟩ (Nat.zero_le _) (Nat.zero_le _) dX3_passTicks_62
        · skip
          exact absurd (le_clamp _) c_40
      · skip
        intro n ih uL H locs hI
        obtain ⟨ls, i⟩ := uL
        obtain ⟨hu, hl, hW⟩ := hI
        dsimp only at hu hl hW ⊢
        have hlt : i < x.toNatClampNeg := by omega
        refine lv_iload_n hx hb dX3_passTicks_38 rfl (lv_at hl 0 rfl) ?_
        refine lv_iload_n hx hb dX3_passTicks_39 rfl (lv_at hl 3 rfl) ?_
        refine lv_icmp_ge (tgt := 53) hx hb dX3_passTicks_40 (by decide) (fun c_40_2 => ?_) (fun c_40_2 => ?_)
        · skip
          exact absurd c_40_2 (lt_clamp hlt)
        · skip
          refine lv_aload_n hx hb dX3_passTicks_43 rfl (lv_at hl 2 rfl) ?_
          refine r_callVv M hW (c_X3_tick l G a (iterN (fun _ => sX3_tick) i g)  (Y) (LegOK.iterTick hOK _)) rfl kw_193 kw_194 kw_195 kw_80 kw_191 pl_X3_tick 0 rfl rfl ⟨by decide, by decide⟩ ⟨Nat.zero_le _, Nat.zero_le _⟩ hl.1 rfl (Nat.le_of_ble_eq_true rfl) dX3_passTicks_44 (fun H locs hW => ?_)
          refine lv_iinc (v := nI (i + 1)) (lv' := [(3, .int (nI (i + 1))), (2, .int (g 4 1)), (0, .ref (a 0)), (1, .int x)]) hx hb dX3_passTicks_47 hl (k := 0) rfl (nI_1 i) (by decide) rfl (fun ls hl => ?_)
          refine lv_goto (tgt := 38) hx hb dX3_passTicks_50 (by decide) ?_
          exact ih (ls, i + 1) _ _ ⟨by dsimp only; omega, lv_sub hl [0, 1, 2, 3] rfl, (by dsimp only; rw [iterN_succ]; exact hW)⟩
    · skip
      refine lv_bipush (v := (-103)) hx hb dX3_passTicks_25 (by decide) ?_
      exact r_reti M hW (by rw [sX3_passTicks, if_neg c_8, if_neg c_22]) ⟨by rw [rX3_passTicks, if_neg c_8, if_neg c_22], rfl⟩ (Nat.zero_le _) (Nat.zero_le _) dX3_passTicks_27
  · skip
    refine lv_bipush (v := (-102)) hx hb dX3_passTicks_11 (by decide) ?_
    exact r_reti M hW (by rw [sX3_passTicks, if_pos c_8]) ⟨by rw [rX3_passTicks, if_pos c_8], rfl⟩ (Nat.zero_le _) (Nat.zero_le _) dX3_passTicks_13

set_option maxHeartbeats 4000000 in
set_option maxRecDepth 100000 in
/-- X3.ticksUntilTrip -/
theorem c_X3_ticksUntilTrip (l : Launch) (G : Gp) (a : Nat → Nat) (g : Nat → Nat → Int32) (x : Int32) (Y : va_W) (hOK : LegOK g) (hxn : x = nI x.toNatClampNeg ∧ x.toNatClampNeg ≤ 300) : Cn l G yX3_ticksUntilTrip cX3_ticksUntilTrip 3 (some .int) 5 [.ref (a 0), .int x] (LegW G a g ++ Y) (some (.int (tuR x.toNatClampNeg 1 g))) (LegW G a (tuG x.toNatClampNeg g) ++ Y) := by
  refine CnE.of (by decide) (Nat.le_of_ble_eq_true rfl) ?_
  intro p e s m below meth c ls M hnm hl hW
  have hx := M.1
  have hb := M.2.1
  have hl : lv_has ls 3 [(0, .ref (a 0)), (1, .int x)] := hl
  refine lv_iconst (v := 1) hx hb dX3_ticksUntilTrip_0 (by decide) ?_
  refine lv_istore_n (lv' := [(2, .int 1), (0, .ref (a 0)), (1, .int x)]) hx hb dX3_ticksUntilTrip_1 rfl hl (by decide) rfl (fun ls hl => ?_)
  refine r_loop (σ := Array Slot × Nat × (Nat → Nat → Int32)) (fun r u H1 l1 => (u.2.1 + r = x.toNatClampNeg + 1 ∧ lv_has u.1 3 [(2, .int (nI u.2.1)), (0, .ref (a 0)), (1, .int x)] ∧ LegOK u.2.2 ∧ tuR r u.2.1 u.2.2 = tuR x.toNatClampNeg 1 g ∧ tuG r u.2.2 = tuG x.toNatClampNeg g) ∧ Wd G s (LegW G a u.2.2 ++ Y) H1 l1) (fun u => F0 m 2 u.1 []) ?_ ?_ x.toNatClampNeg (ls, 1, g) _ _ ⟨⟨Nat.add_comm _ _, lv_sub hl [0, 1, 2] rfl, hOK, rfl, rfl⟩, hW⟩
  · skip
    intro u H locs hI
    obtain ⟨ls, i, h⟩ := u
    obtain ⟨⟨hu, hl, hK, hr, hg⟩, hW⟩ := hI
    dsimp only at hu hl hK hr hg hW ⊢
    have hu2 : i = x.toNatClampNeg + 1 := by omega
    refine lv_iload_n hx hb dX3_ticksUntilTrip_2 rfl (lv_at hl 0 rfl) ?_
    refine lv_iload_n hx hb dX3_ticksUntilTrip_3 rfl (lv_at hl 2 rfl) ?_
    refine lv_icmp_gt (tgt := 26) hx hb dX3_ticksUntilTrip_4 (by decide) (fun c_4 => ?_) (fun c_4 => ?_)
    · skip
      refine lv_bipush (v := (-105)) hx hb dX3_ticksUntilTrip_26 (by decide) ?_
      exact r_reti M hW (by rw [← hg, tuG]) ⟨by rw [← hr, tuR], rfl⟩ (Nat.zero_le _) (Nat.zero_le _) dX3_ticksUntilTrip_28
    · skip
      exact absurd (tu_gt hxn (by decide) hu2) c_4
  · skip
    intro n ih u H locs hI
    obtain ⟨ls, i, h⟩ := u
    obtain ⟨⟨hu, hl, hK, hr, hg⟩, hW⟩ := hI
    dsimp only at hu hl hK hr hg hW ⊢
    have hu2 : i ≤ x.toNatClampNeg := by omega
    refine lv_iload_n hx hb dX3_ticksUntilTrip_2 rfl (lv_at hl 0 rfl) ?_
    refine lv_iload_n hx hb dX3_ticksUntilTrip_3 rfl (lv_at hl 2 rfl) ?_
    refine lv_icmp_gt (tgt := 26) hx hb dX3_ticksUntilTrip_4 (by decide) (fun c_4_2 => ?_) (fun c_4_2 => ?_)
    · skip
      exact absurd c_4_2 (tu_le hxn (by decide) hu2)
    · skip
      refine lv_aload_n hx hb dX3_ticksUntilTrip_7 rfl (lv_at hl 1 rfl) ?_
      refine r_callVv M hW (c_X3_tick l G a h  (Y) hK) rfl kw_193 kw_194 kw_195 kw_80 kw_191 pl_X3_tick 0 rfl rfl ⟨by decide, by decide⟩ ⟨Nat.zero_le _, Nat.zero_le _⟩ hl.1 rfl (Nat.le_of_ble_eq_true rfl) dX3_ticksUntilTrip_8 (fun H locs hW => ?_)
      refine lv_aload_n hx hb dX3_ticksUntilTrip_11 rfl (lv_at hl 1 rfl) ?_
      refine gt_Leg_0_6 M hW kw_93 (x := (sX3_tick h) 0 6) rfl dX3_ticksUntilTrip_12 ?_
      refine lv_if_ne (tgt := 20) hx hb dX3_ticksUntilTrip_15 (by decide) (fun c_15 => ?_) (fun c_15 => ?_)
      · skip
        refine lv_iinc (v := nI (i + 1)) (lv' := [(2, .int (nI (i + 1))), (0, .ref (a 0)), (1, .int x)]) hx hb dX3_ticksUntilTrip_20 hl (k := 0) rfl (nI_1 i) (by decide) rfl (fun ls hl => ?_)
        refine lv_goto (tgt := 2) hx hb dX3_ticksUntilTrip_23 (by decide) ?_
        have hr2 : tuR n (i + 1) (sX3_tick h) = tuR x.toNatClampNeg 1 g := by rw [← hr, tuR, if_neg c_15]
        have hg2 : tuG n (sX3_tick h) = tuG x.toNatClampNeg g := by rw [← hg, tuG, if_neg c_15]
        have hK2 : LegOK (sX3_tick h) := hK.tick
        have hu3 : i + 1 + n = x.toNatClampNeg + 1 := by omega
        refine ih (ls, i + 1, sX3_tick h) _ _ ?_
        dsimp only
        exact ⟨⟨hu3, lv_sub hl [0, 1, 2] rfl, hK2, hr2, hg2⟩, hW⟩
      · skip
        refine lv_iload_n hx hb dX3_ticksUntilTrip_18 rfl (lv_at hl 0 rfl) ?_
        exact r_reti M hW (by rw [← hg, tuG, if_pos c_15]) ⟨by rw [← hr, tuR, if_pos c_15], rfl⟩ (Nat.zero_le _) (Nat.zero_le _) dX3_ticksUntilTrip_19

def rX3_switchOn (g : Nat → Nat → Int32) : Int32 := if (g 0 11) = (-105) then (if (g 0 6) = 0 then rX3_load (up2 g 0 6 1) else (-105)) else (-104)
def sX3_switchOn (g : Nat → Nat → Int32) : Nat → Nat → Int32 := if (g 0 11) = (-105) then (if (g 0 6) = 0 then up2 g 0 6 1 else g) else g
set_option maxHeartbeats 4000000 in
set_option maxRecDepth 100000 in
/-- X3.switchOn -/
theorem c_X3_switchOn (l : Launch) (G : Gp) (a : Nat → Nat) (g : Nat → Nat → Int32) (Y : va_W) (hOK : LegOK g) : Cn l G yX3_switchOn cX3_switchOn 1 (some .int) 2 [.ref (a 0)] (LegW G a g ++ Y) (some (.int (rX3_switchOn g))) (LegW G a (sX3_switchOn g) ++ Y) := by
  refine CnE.of (by decide) (Nat.le_of_ble_eq_true rfl) ?_
  intro p e s m below meth c ls M hnm hl hW
  have hx := M.1
  have hb := M.2.1
  have hl : lv_has ls 1 [(0, .ref (a 0))] := hl
  refine lv_aload_n hx hb dX3_switchOn_0 rfl (lv_at hl 0 rfl) ?_
  refine gt_Leg_0_11 M hW kw_71 (x := g 0 11) rfl dX3_switchOn_1 ?_
  refine lv_bipush (v := (-105)) hx hb dX3_switchOn_4 (by decide) ?_
  refine lv_icmp_eq (tgt := 12) hx hb dX3_switchOn_6 (by decide) (fun c_6 => ?_) (fun c_6 => ?_)
  · skip
    refine lv_aload_n hx hb dX3_switchOn_12 rfl (lv_at hl 0 rfl) ?_
    refine gt_Leg_0_6 M hW kw_93 (x := g 0 6) rfl dX3_switchOn_13 ?_
    refine lv_if_eq (tgt := 22) hx hb dX3_switchOn_16 (by decide) (fun c_16 => ?_) (fun c_16 => ?_)
    · skip
      refine lv_aload_n hx hb dX3_switchOn_22 rfl (lv_at hl 0 rfl) ?_
      refine lv_iconst (v := 1) hx hb dX3_switchOn_23 (by decide) ?_
      refine pt_Leg_0_6 M hW kw_93 (Or.inr rfl) dX3_switchOn_24 (fun H locs hW => ?_)
      refine lv_aload_n hx hb dX3_switchOn_27 rfl (lv_at hl 0 rfl) ?_
      refine r_callVi M hW (c_X3_load l G a (up2 g 0 6 1)  (Y) hOK) rfl kw_128 kw_129 kw_130 kw_80 kw_122 pl_X3_load 0 rfl rfl ⟨by decide, by decide⟩ ⟨Nat.zero_le _, Nat.zero_le _⟩ hl.1 rfl (Nat.le_of_ble_eq_true rfl) dX3_switchOn_28 (fun H locs hW => ?_)
      exact r_reti M hW (by rw [sX3_switchOn, if_pos c_6, if_pos c_16]) ⟨by rw [rX3_switchOn, if_pos c_6, if_pos c_16], rfl⟩ (Nat.zero_le _) (Nat.zero_le _) dX3_switchOn_31
    · skip
      refine lv_bipush (v := (-105)) hx hb dX3_switchOn_19 (by decide) ?_
      exact r_reti M hW (by rw [sX3_switchOn, if_pos c_6, if_neg c_16]) ⟨by rw [rX3_switchOn, if_pos c_6, if_neg c_16], rfl⟩ (Nat.zero_le _) (Nat.zero_le _) dX3_switchOn_21
  · skip
    refine lv_bipush (v := (-104)) hx hb dX3_switchOn_9 (by decide) ?_
    exact r_reti M hW (by rw [sX3_switchOn, if_neg c_6]) ⟨by rw [rX3_switchOn, if_neg c_6], rfl⟩ (Nat.zero_le _) (Nat.zero_le _) dX3_switchOn_11

def rX3_switchOff (g : Nat → Nat → Int32) : Int32 := if (g 0 6) = 0 then (-105) else rX0_onAll (up2 g 0 6 0)
def sX3_switchOff (g : Nat → Nat → Int32) : Nat → Nat → Int32 := if (g 0 6) = 0 then g else up2 g 0 6 0
set_option maxHeartbeats 4000000 in
set_option maxRecDepth 100000 in
/-- X3.switchOff -/
theorem c_X3_switchOff (l : Launch) (G : Gp) (a : Nat → Nat) (g : Nat → Nat → Int32) (Y : va_W) : Cn l G yX3_switchOff cX3_switchOff 1 (some .int) 1 [.ref (a 0)] (LegW G a g ++ Y) (some (.int (rX3_switchOff g))) (LegW G a (sX3_switchOff g) ++ Y) := by
  refine CnE.of (by decide) (Nat.le_of_ble_eq_true rfl) ?_
  intro p e s m below meth c ls M hnm hl hW
  have hx := M.1
  have hb := M.2.1
  have hl : lv_has ls 1 [(0, .ref (a 0))] := hl
  refine lv_aload_n hx hb dX3_switchOff_0 rfl (lv_at hl 0 rfl) ?_
  refine gt_Leg_0_6 M hW kw_93 (x := g 0 6) rfl dX3_switchOff_1 ?_
  refine lv_if_ne (tgt := 10) hx hb dX3_switchOff_4 (by decide) (fun c_4 => ?_) (fun c_4 => ?_)
  · skip
    refine lv_aload_n hx hb dX3_switchOff_10 rfl (lv_at hl 0 rfl) ?_
    refine lv_iconst (v := 0) hx hb dX3_switchOff_11 (by decide) ?_
    refine pt_Leg_0_6 M hW kw_93 (Or.inl rfl) dX3_switchOff_12 (fun H locs hW => ?_)
    refine lv_aload_n hx hb dX3_switchOff_15 rfl (lv_at hl 0 rfl) ?_
    refine gt_Leg_0_1 M hW kw_61 dX3_switchOff_16 ?_
    refine r_callVi M hW (c_X0_onAll l G a (up2 g 0 6 0)  (Y)) rfl kw_132 kw_133 kw_134 kw_60 kw_27 pl_X0_onAll 2 rfl rfl ⟨by decide, by decide⟩ ⟨Nat.zero_le _, Nat.zero_le _⟩ hl.1 rfl (Nat.le_of_ble_eq_true rfl) dX3_switchOff_19 (fun H locs hW => ?_)
    exact r_reti M hW (by rw [sX3_switchOff, if_neg c_4]) ⟨by rw [rX3_switchOff, if_neg c_4], rfl⟩ (Nat.zero_le _) (Nat.zero_le _) dX3_switchOff_22
  · skip
    refine lv_bipush (v := (-105)) hx hb dX3_switchOff_7 (by decide) ?_
    exact r_reti M hW (by rw [sX3_switchOff, if_pos c_4]) ⟨by rw [rX3_switchOff, if_pos c_4], rfl⟩ (Nat.zero_le _) (Nat.zero_le _) dX3_switchOff_9
