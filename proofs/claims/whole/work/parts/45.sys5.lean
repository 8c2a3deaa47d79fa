/-- the least tension: so many to try, the next -/
def glR (g : Nat → Nat → Int32) (x : Int32) : Nat → Nat → Int32
  | 0, _ => -105
  | n + 1, i => if tuR x.toNatClampNeg 1 (up2 (sX3_become g) 1 1 (nI i)) = (-105) then nI i else glR g x n (i + 1)
def glT (g : Nat → Nat → Int32) (x : Int32) : Nat → Nat → (Nat → Nat → Int32) → (Nat → Nat → Int32)
  | 0, _, h => h
  | n + 1, i, _ => if tuR x.toNatClampNeg 1 (up2 (sX3_become g) 1 1 (nI i)) = (-105) then tuG x.toNatClampNeg (up2 (sX3_become g) 1 1 (nI i)) else glT g x n (i + 1) (tuG x.toNatClampNeg (up2 (sX3_become g) 1 1 (nI i)))
theorem in1 {x : Int32} (h : ¬ rX6_isWithin x 1 100 = 0) : x = nI x.toNatClampNeg ∧ 1 ≤ x.toNatClampNeg ∧ x.toNatClampNeg ≤ 100 := in_c (lo := 1) (hi := 100) (a := 1) (b := 100) rfl rfl (by decide) (by decide) h
def rX6_leastTension (g : Nat → Nat → Int32) (x : Int32) : Int32 := if (rX6_isWithin x 1 100) = 0 then (-102) else if (g 0 6) = 0 then (-104) else glR g x 201 0
def sX6_leastTension3 (g gT : Nat → Nat → Int32) (x : Int32) : Nat → Nat → Int32 := if (rX6_isWithin x 1 100) = 0 then gT else if (g 0 6) = 0 then gT else glT g x 201 0 gT

set_option maxHeartbeats 4000000 in
set_option maxRecDepth 100000 in
/-- X6.leastTension -/
theorem c_X6_leastTension (l : Launch) (G : Gp) (z : Nat → Nat → Nat) (so : Nat → Nat → Int32) (g : Nat → Nat → Int32) (gT : Nat → Nat → Int32) (x : Int32) (Y : va_W) (hz : LZ g) (hOK : LegOK g) : Cn l G yX6_leastTension cX6_leastTension 3 (some .int) 6 [.ref (z 0 0), .int x] (SysW G z so ++ (LegW G (z 1) g ++ (LegW G (z 3) gT ++ Y))) (some (.int (rX6_leastTension g x))) (SysW G z so ++ (LegW G (z 1) g ++ (LegW G (z 3) (sX6_leastTension3 g gT x) ++ Y))) := by
  refine CnE.of (by decide) (Nat.le_of_ble_eq_true rfl) ?_
  intro p e s m below meth c ls M hnm hl hW
  have hx := M.1
  have hb := M.2.1
  have hl : lv_has ls 3 [(0, .ref (z 0 0)), (1, .int x)] := hl
  refine lv_iload_n hx hb dX6_leastTension_0 rfl (lv_at hl 1 rfl) ?_
  refine lv_iconst (v := 1) hx hb dX6_leastTension_1 (by decide) ?_
  refine lv_bipush (v := 100) hx hb dX6_leastTension_2 (by decide) ?_
  refine r_callSi M hW (as := [.int x, .int 1, .int 100]) (c_X6_isWithin l G x 1 100 (SysW G z so ++ (LegW G (z 1) g ++ (LegW G (z 3) gT ++ Y)))) rfl kw_351 kw_14 kw_15 kw_12 pl_X6_isWithin ⟨by decide, by decide⟩ ⟨Nat.zero_le _, Nat.zero_le _⟩ hl.1 rfl (Nat.le_of_ble_eq_true rfl) dX6_leastTension_4 (fun H locs hW => ?_)
  refine lv_if_ne (tgt := 13) hx hb dX6_leastTension_7 (by decide) (fun c_7 => ?_) (fun c_7 => ?_)
  · skip
    have hk := in1 c_7
    refine lv_aload_n hx hb dX6_leastTension_13 rfl (lv_at hl 0 rfl) ?_
    refine gt_Sys_0_0 M hW kw_254 dX6_leastTension_14 ?_
    refine gt_Leg_0_6 M hW.drop kw_353 (x := g 0 6) rfl dX6_leastTension_17 ?_
    refine lv_if_ne (tgt := 26) hx hb dX6_leastTension_20 (by decide) (fun c_20 => ?_) (fun c_20 => ?_)
    · skip
      refine r_gets M hW M.2.2.2.2.2.2.2.2.1.2.1 kw_358 dX6_leastTension_26 ?_
      refine lv_iconst (v := 1) hx hb dX6_leastTension_29 (by decide) ?_
      refine r_tald M hW M.2.2.2.2.2.2.2.2.1.2.1 1 rfl (by decide) (by decide) (x := 0) rfl dX6_leastTension_30 ?_
      refine lv_istore_n (lv' := [(2, .int 0), (0, .ref (z 0 0)), (1, .int x)]) hx hb dX6_leastTension_31 rfl hl (by decide) rfl (fun ls hl => ?_)
      refine r_loop (σ := Array Slot × Nat × (Nat → Nat → Int32)) (fun r q H1 l1 => (q.2.1 + r = 201 ∧ lv_has q.1 3 [(2, .int (nI q.2.1)), (0, .ref (z 0 0)), (1, .int x)] ∧ glR g x r q.2.1 = glR g x 201 0 ∧ glT g x r q.2.1 q.2.2 = glT g x 201 0 gT) ∧ Wd G s (SysW G z so ++ (LegW G (z 1) g ++ (LegW G (z 3) q.2.2 ++ Y))) H1 l1) (fun q => F0 m 32 q.1 []) ?_ ?_ 201 (ls, 0, gT) _ _ ⟨⟨rfl, lv_sub hl [0, 1, 2] rfl, rfl, rfl⟩, hW⟩
      · skip
        intro q H locs hI
        obtain ⟨ls, i, h⟩ := q
        obtain ⟨⟨hu, hl, hr, hg⟩, hW⟩ := hI
        dsimp only at hu hl hr hg hW ⊢
        have hu2 : i = 201 := by omega
        subst hu2
        refine lv_iload_n hx hb dX6_leastTension_32 rfl (lv_at hl 0 rfl) ?_
        refine r_gets M hW M.2.2.2.2.2.2.2.2.1.2.2.1 kw_359 dX6_leastTension_33 ?_
        refine lv_iconst (v := 1) hx hb dX6_leastTension_36 (by decide) ?_
        refine r_tald M hW M.2.2.2.2.2.2.2.2.1.2.2.1 1 rfl (by decide) (by decide) (x := 200) rfl dX6_leastTension_37 ?_
        refine lv_icmp_gt (tgt := 83) hx hb dX6_leastTension_38 (by decide) (fun c_38 => ?_) (fun c_38 => ?_)
        · skip
          refine lv_bipush (v := (-105)) hx hb dX6_leastTension_83 (by decide) ?_
          exact r_reti M hW (by rw [sX6_leastTension3, if_neg c_7, if_neg c_20, ← hg, glT]) ⟨by rw [rX6_leastTension, if_neg c_7, if_neg c_20, ← hr, glR], rfl⟩ (Nat.zero_le _) (Nat.zero_le _) dX6_leastTension_85
        · skip
          exact absurd gt_200 c_38
      · skip
        intro n ih q H locs hI
        obtain ⟨ls, i, h⟩ := q
        obtain ⟨⟨hu, hl, hr, hg⟩, hW⟩ := hI
        dsimp only at hu hl hr hg hW ⊢
        have hu2 : i < 201 := by omega
        refine lv_iload_n hx hb dX6_leastTension_32 rfl (lv_at hl 0 rfl) ?_
        refine r_gets M hW M.2.2.2.2.2.2.2.2.1.2.2.1 kw_359 dX6_leastTension_33 ?_
        refine lv_iconst (v := 1) hx hb dX6_leastTension_36 (by decide) ?_
        refine r_tald M hW M.2.2.2.2.2.2.2.2.1.2.2.1 1 rfl (by decide) (by decide) (x := 200) rfl dX6_leastTension_37 ?_
        refine lv_icmp_gt (tgt := 83) hx hb dX6_leastTension_38 (by decide) (fun c_38_2 => ?_) (fun c_38_2 => ?_)
        · skip
          exact absurd c_38_2 (lt_200 hu2)
        · skip
          refine lv_aload_n hx hb dX6_leastTension_41 rfl (lv_at hl 1 rfl) ?_
          refine gt_Sys_0_2 M hW kw_256 dX6_leastTension_42 ?_
          refine lv_aload_n hx hb dX6_leastTension_45 rfl (lv_at hl 1 rfl) ?_
          refine gt_Sys_0_0 M hW kw_254 dX6_leastTension_46 ?_
          have hW := Wd.f1 hW
          have hW := Wd.f2 hW
          refine r_callVv M hW (c_X3_become l G (z 3) (z 1) h g  (SysW G z so ++ Y) hz.1 hz.2) rfl kw_277 kw_115 kw_116 kw_80 kw_108 pl_X3_become 0 rfl rfl ⟨by decide, by decide⟩ ⟨Nat.zero_le _, Nat.zero_le _⟩ hl.1 rfl (Nat.le_of_ble_eq_true rfl) dX6_leastTension_49 (fun H locs hW => ?_)
          refine lv_aload_n hx hb dX6_leastTension_52 rfl (lv_at hl 1 rfl) ?_
          refine gt_Sys_0_2 M (hW.drop.drop) kw_256 dX6_leastTension_53 ?_
          refine gt_Leg_0_0 M hW kw_360 dX6_leastTension_56 ?_
          refine lv_iconst (v := 1) hx hb dX6_leastTension_59 (by decide) ?_
          refine lv_iload_n hx hb dX6_leastTension_60 rfl (lv_at hl 0 rfl) ?_
          refine as_Leg_1 M hW 1 rfl (by decide) dX6_leastTension_61 (fun H locs hW => ?_)
          refine lv_aload_n hx hb dX6_leastTension_62 rfl (lv_at hl 1 rfl) ?_
          refine gt_Sys_0_2 M (hW.drop.drop) kw_256 dX6_leastTension_63 ?_
          refine lv_iload_n hx hb dX6_leastTension_66 rfl (lv_at hl 2 rfl) ?_
          refine r_callVi M hW (c_X3_ticksUntilTrip l G (z 3) (up2 (sX3_become g) 1 1 (nI i)) x (LegW G (z 1) g ++ (SysW G z so ++ Y)) hOK ⟨hk.1, by omega⟩) rfl kw_354 kw_355 kw_356 kw_80 kw_197 pl_X3_ticksUntilTrip 0 rfl rfl ⟨by decide, by decide⟩ ⟨Nat.zero_le _, Nat.zero_le _⟩ hl.1 rfl (Nat.le_of_ble_eq_true rfl) dX6_leastTension_67 (fun H locs hW => ?_)
          refine lv_bipush (v := (-105)) hx hb dX6_leastTension_70 (by decide) ?_
          refine lv_icmp_ne (tgt := 77) hx hb dX6_leastTension_72 (by decide) (fun c_72 => ?_) (fun c_72 => ?_)
          · skip
            refine lv_iinc (v := nI (i + 1)) (lv' := [(2, .int (nI (i + 1))), (0, .ref (z 0 0)), (1, .int x)]) hx hb dX6_leastTension_77 hl (k := 0) rfl (nI_1 i) (by decide) rfl (fun ls hl => ?_)
            refine lv_goto (tgt := 32) hx hb dX6_leastTension_80 (by decide) ?_
            have hW := Wd.f1 hW
            have hW := Wd.f2 hW
            have hr2 : glR g x n (i + 1) = glR g x 201 0 := by rw [← hr, glR, if_neg c_72]
            have hg2 : glT g x n (i + 1) (tuG x.toNatClampNeg (up2 (sX3_become g) 1 1 (nI i))) = glT g x 201 0 gT := by rw [← hg, glT, if_neg c_72]
            have hu3 : i + 1 + n = 201 := by omega
            refine ih (ls, i + 1, tuG x.toNatClampNeg (up2 (sX3_become g) 1 1 (nI i))) _ _ ?_
            dsimp only
            exact ⟨⟨hu3, lv_sub hl [0, 1, 2] rfl, hr2, hg2⟩, hW⟩
          · skip
            refine lv_iload_n hx hb dX6_leastTension_75 rfl (lv_at hl 0 rfl) ?_
            have hW := Wd.f1 hW
            have hW := Wd.f2 hW
            exact r_reti M hW (by rw [sX6_leastTension3, if_neg c_7, if_neg c_20, ← hg, glT, if_pos c_72]) ⟨by rw [rX6_leastTension, if_neg c_7, if_neg c_20, ← hr, glR, if_pos c_72], rfl⟩ (Nat.zero_le _) (Nat.zero_le _) dX6_leastTension_76
    · skip
      refine lv_bipush (v := (-104)) hx hb dX6_leastTension_23 (by decide) ?_
      exact r_reti M hW (by rw [sX6_leastTension3, if_neg c_7, if_pos c_20]) ⟨by rw [rX6_leastTension, if_neg c_7, if_pos c_20], rfl⟩ (Nat.zero_le _) (Nat.zero_le _) dX6_leastTension_25
  · skip
    refine lv_bipush (v := (-102)) hx hb dX6_leastTension_10 (by decide) ?_
    exact r_reti M hW (by rw [sX6_leastTension3, if_pos c_7]) ⟨by rw [rX6_leastTension, if_pos c_7], rfl⟩ (Nat.zero_le _) (Nat.zero_le _) dX6_leastTension_12
