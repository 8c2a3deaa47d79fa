/-- the model's legs behind so many ticks, or the trip; and how many passed -/
def muG : Nat → (Nat → Nat → Int32) → (Nat → Nat → Int32)
  | 0, h => h
  | n + 1, h => if h 1 14 = 1 then muG n (sX7_tick h) else h
def muC : Nat → (Nat → Nat → Int32) → Nat
  | 0, _ => 0
  | n + 1, h => if h 1 14 = 1 then muC n (sX7_tick h) + 1 else 0
theorem ut_ge {x : Int32} {n i : Nat} (hx : x = nI x.toNatClampNeg ∧ x.toNatClampNeg ≤ n) (hn : n < 1000000) (h : i = x.toNatClampNeg) : x ≤ nI i := by
  have e := nat_toInt hx hn
  have h2 := hx.2
  rw [Int32.le_iff_toInt_le, nI_toInt (by omega), e]
  omega
theorem ut_lt {x : Int32} {n i : Nat} (hx : x = nI x.toNatClampNeg ∧ x.toNatClampNeg ≤ n) (hn : n < 1000000) (h : i < x.toNatClampNeg) : ¬ x ≤ nI i := by
  have e := nat_toInt hx hn
  have h2 := hx.2
  rw [Int32.le_iff_toInt_le, nI_toInt (by omega), e]
  omega

def rX7_untilTrip (u : Nat → Nat → Int32) (x : Int32) : Int32 := if ((muG x.toNatClampNeg u) 1 14) = 1 then (-105) else nI (muC x.toNatClampNeg u)
def sX7_untilTrip (u : Nat → Nat → Int32) (x : Int32) : Nat → Nat → Int32 := muG x.toNatClampNeg u
set_option maxHeartbeats 4000000 in
set_option maxRecDepth 100000 in
/-- X7.untilTrip -/
theorem c_X7_untilTrip (l : Launch) (G : Gp) (b : Nat → Nat) (u : Nat → Nat → Int32) (x : Int32) (Y : va_W) (hxn : x = nI x.toNatClampNeg ∧ x.toNatClampNeg ≤ 300) : Cn l G yX7_untilTrip cX7_untilTrip 3 (some .int) 4 [.ref (b 0), .int x] (ModW G b u ++ Y) (some (.int (rX7_untilTrip u x))) (ModW G b (sX7_untilTrip u x) ++ Y) := by
  refine CnE.of (by decide) (Nat.le_of_ble_eq_true rfl) ?_
  intro p e s m below meth c ls M hnm hl hW
  have hx := M.1
  have hb := M.2.1
  have hl : lv_has ls 3 [(0, .ref (b 0)), (1, .int x)] := hl
  refine lv_iconst (v := 0) hx hb dX7_untilTrip_0 (by decide) ?_
  refine lv_istore_n (lv' := [(2, .int 0), (0, .ref (b 0)), (1, .int x)]) hx hb dX7_untilTrip_1 rfl hl (by decide) rfl (fun ls hl => ?_)
  refine r_cut (σ := Array Slot × Nat × (Nat → Nat → Int32)) (fun q H1 l1 => q.2.2 = muG x.toNatClampNeg u ∧ q.2.1 = muC x.toNatClampNeg u ∧ lv_has q.1 3 [(2, .int (nI q.2.1)), (0, .ref (b 0)), (1, .int x)] ∧ Wd G s (ModW G b q.2.2 ++ Y) H1 l1) (fun q => F0 m 28 q.1 []) (fun q H locs hI => ?_) (fun hJ_28 => ?_)
  · skip
    obtain ⟨ls, i, h⟩ := q
    obtain ⟨hh, hi, hl, hW⟩ := hI
    dsimp only at hh hi hl hW ⊢
    subst hh
    subst hi
    refine lv_aload_n hx hb dX7_untilTrip_28 rfl (lv_at hl 1 rfl) ?_
    refine gt_Mod_0_1 M hW kw_392 dX7_untilTrip_29 ?_
    refine lv_bipush (v := 14) hx hb dX7_untilTrip_32 (by decide) ?_
    refine al_Mod_1 M hW 14 rfl (by decide) (x := (muG x.toNatClampNeg u) 1 14) rfl dX7_untilTrip_34 ?_
    refine lv_iconst (v := 1) hx hb dX7_untilTrip_35 (by decide) ?_
    refine lv_icmp_ne (tgt := 44) hx hb dX7_untilTrip_36 (by decide) (fun c_36 => ?_) (fun c_36 => ?_)
    · skip
      refine lv_iload_n hx hb dX7_untilTrip_44 rfl (lv_at hl 0 rfl) ?_
      exact r_reti M hW (by rw [sX7_untilTrip]) ⟨by rw [rX7_untilTrip, if_neg c_36], rfl⟩ (Nat.zero_le _) (Nat.zero_le _) dX7_untilTrip_45
    · skip
      refine lv_bipush (v := (-105)) hx hb dX7_untilTrip_39 (by decide) ?_
      refine lv_goto (tgt := 45) hx hb dX7_untilTrip_41 (by decide) ?_
      exact r_reti M hW (by rw [sX7_untilTrip]) ⟨by rw [rX7_untilTrip, if_pos c_36], rfl⟩ (Nat.zero_le _) (Nat.zero_le _) dX7_untilTrip_45
  · skip
    refine r_loop (σ := Array Slot × Nat × (Nat → Nat → Int32)) (fun r q H1 l1 => (q.2.1 + r = x.toNatClampNeg ∧ lv_has q.1 3 [(2, .int (nI q.2.1)), (0, .ref (b 0)), (1, .int x)] ∧ muG r q.2.2 = muG x.toNatClampNeg u ∧ q.2.1 + muC r q.2.2 = muC x.toNatClampNeg u) ∧ Wd G s (ModW G b q.2.2 ++ Y) H1 l1) (fun q => F0 m 2 q.1 []) ?_ ?_ x.toNatClampNeg (ls, 0, u) _ _ ⟨⟨Nat.zero_add _, lv_sub hl [0, 1, 2] rfl, rfl, Nat.zero_add _⟩, hW⟩
    · skip
      intro q H locs hI
      obtain ⟨ls, i, h⟩ := q
      obtain ⟨⟨hu, hl, hg, hc⟩, hW⟩ := hI
      dsimp only at hu hl hg hc hW ⊢
      have hu2 : i = x.toNatClampNeg := by omega
      refine lv_iload_n hx hb dX7_untilTrip_2 rfl (lv_at hl 0 rfl) ?_
      refine lv_iload_n hx hb dX7_untilTrip_3 rfl (lv_at hl 2 rfl) ?_
      refine lv_icmp_ge (tgt := 28) hx hb dX7_untilTrip_4 (by decide) (fun c_4 => ?_) (fun c_4 => ?_)
      · skip
        have hg2 : h = muG x.toNatClampNeg u := by rw [← hg, muG]
        have hc2 : i = muC x.toNatClampNeg u := by rw [muC] at hc; omega
        exact hJ_28 (ls, i, h) _ _ ⟨hg2, hc2, hl, hW⟩
      · skip
        exact absurd (ut_ge hxn (by decide) hu2) c_4
    · skip
      intro n ih q H locs hI
      obtain ⟨ls, i, h⟩ := q
      obtain ⟨⟨hu, hl, hg, hc⟩, hW⟩ := hI
      dsimp only at hu hl hg hc hW ⊢
      have hu2 : i < x.toNatClampNeg := by omega
      refine lv_iload_n hx hb dX7_untilTrip_2 rfl (lv_at hl 0 rfl) ?_
      refine lv_iload_n hx hb dX7_untilTrip_3 rfl (lv_at hl 2 rfl) ?_
      refine lv_icmp_ge (tgt := 28) hx hb dX7_untilTrip_4 (by decide) (fun c_4_2 => ?_) (fun c_4_2 => ?_)
      · skip
        exact absurd c_4_2 (ut_lt hxn (by decide) hu2)
      · skip
        refine lv_aload_n hx hb dX7_untilTrip_7 rfl (lv_at hl 1 rfl) ?_
        refine gt_Mod_0_1 M hW kw_392 dX7_untilTrip_8 ?_
        refine lv_bipush (v := 14) hx hb dX7_untilTrip_11 (by decide) ?_
        refine al_Mod_1 M hW 14 rfl (by decide) (x := h 1 14) rfl dX7_untilTrip_13 ?_
        refine lv_iconst (v := 1) hx hb dX7_untilTrip_14 (by decide) ?_
        refine lv_icmp_ne (tgt := 28) hx hb dX7_untilTrip_15 (by decide) (fun c_15 => ?_) (fun c_15 => ?_)
        · skip
          have hg2 : h = muG x.toNatClampNeg u := by rw [← hg, muG, if_neg c_15]
          have hc2 : i = muC x.toNatClampNeg u := by rw [muC, if_neg c_15] at hc; omega
          exact hJ_28 (ls, i, h) _ _ ⟨hg2, hc2, hl, hW⟩
        · skip
          refine lv_aload_n hx hb dX7_untilTrip_18 rfl (lv_at hl 1 rfl) ?_
          refine r_callVv M hW (c_X7_tick l G b h  (Y)) rfl kw_436 kw_437 kw_438 kw_412 kw_435 pl_X7_tick 0 rfl rfl ⟨by decide, by decide⟩ ⟨Nat.zero_le _, Nat.zero_le _⟩ hl.1 rfl (Nat.le_of_ble_eq_true rfl) dX7_untilTrip_19 (fun H locs hW => ?_)
          refine lv_iinc (v := nI (i + 1)) (lv' := [(2, .int (nI (i + 1))), (0, .ref (b 0)), (1, .int x)]) hx hb dX7_untilTrip_22 hl (k := 0) rfl (nI_1 i) (by decide) rfl (fun ls hl => ?_)
          refine lv_goto (tgt := 2) hx hb dX7_untilTrip_25 (by decide) ?_
          have hg2 : muG n (sX7_tick h) = muG x.toNatClampNeg u := by rw [← hg, muG, if_pos c_15]
          have hc2 : i + 1 + muC n (sX7_tick h) = muC x.toNatClampNeg u := by rw [muC, if_pos c_15] at hc; omega
          have hu3 : i + 1 + n = x.toNatClampNeg := by omega
          refine ih (ls, i + 1, sX7_tick h) _ _ ?_
          dsimp only
          exact ⟨⟨hu3, lv_sub hl [0, 1, 2] rfl, hg2, hc2⟩, hW⟩

def rX7_tripsIn (u : Nat → Nat → Int32) : Int32 := if ((thr u) 1 14) = 0 then (-104) else rX7_untilTrip (sX7_putAside (thr u)) 300
def sX7_tripsIn (u : Nat → Nat → Int32) : Nat → Nat → Int32 := if ((thr u) 1 14) = 0 then thr u else sX7_takeBack (sX7_untilTrip (sX7_putAside (thr u)) 300)
set_option maxHeartbeats 4000000 in
set_option maxRecDepth 100000 in
/-- X7.tripsIn -/
theorem c_X7_tripsIn (l : Launch) (G : Gp) (b : Nat → Nat) (u : Nat → Nat → Int32) (Y : va_W) : Cn l G yX7_tripsIn cX7_tripsIn 2 (some .int) 5 [.ref (b 0)] (ModW G b u ++ Y) (some (.int (rX7_tripsIn u))) (ModW G b (sX7_tripsIn u) ++ Y) := by
  refine CnE.of (by decide) (Nat.le_of_ble_eq_true rfl) ?_
  intro p e s m below meth c ls M hnm hl hW
  have hx := M.1
  have hb := M.2.1
  have hl : lv_has ls 2 [(0, .ref (b 0))] := hl
  refine lv_aload_n hx hb dX7_tripsIn_0 rfl (lv_at hl 0 rfl) ?_
  refine lv_iconst (v := 0) hx hb dX7_tripsIn_1 (by decide) ?_
  refine pt_Mod_0_0 M hW kw_398 dX7_tripsIn_2 (fun H locs hW => ?_)
  have hW : Wd G s (ModW G b (thr u) ++ Y) _ _ := hW
  refine lv_aload_n hx hb dX7_tripsIn_5 rfl (lv_at hl 0 rfl) ?_
  refine gt_Mod_0_1 M hW kw_392 dX7_tripsIn_6 ?_
  refine lv_bipush (v := 14) hx hb dX7_tripsIn_9 (by decide) ?_
  refine al_Mod_1 M hW 14 rfl (by decide) (x := (thr u) 1 14) rfl dX7_tripsIn_11 ?_
  refine lv_if_ne (tgt := 18) hx hb dX7_tripsIn_12 (by decide) (fun c_12 => ?_) (fun c_12 => ?_)
  · skip
    refine lv_aload_n hx hb dX7_tripsIn_18 rfl (lv_at hl 0 rfl) ?_
    refine r_callVv M hW (c_X7_putAside l G b (thr u)  (Y)) rfl kw_521 kw_522 kw_523 kw_412 kw_404 pl_X7_putAside 0 rfl rfl ⟨by decide, by decide⟩ ⟨Nat.zero_le _, Nat.zero_le _⟩ hl.1 rfl (Nat.le_of_ble_eq_true rfl) dX7_tripsIn_19 (fun H locs hW => ?_)
    refine lv_aload_n hx hb dX7_tripsIn_22 rfl (lv_at hl 0 rfl) ?_
    refine lv_sipush (v := 300) hx hb dX7_tripsIn_23 (by decide) ?_
    refine r_callVi M hW (c_X7_untilTrip l G b (sX7_putAside (thr u)) 300 (Y) ⟨by decide, by decide⟩) rfl kw_542 kw_543 kw_544 kw_412 kw_541 pl_X7_untilTrip 0 rfl rfl ⟨by decide, by decide⟩ ⟨Nat.zero_le _, Nat.zero_le _⟩ hl.1 rfl (Nat.le_of_ble_eq_true rfl) dX7_tripsIn_26 (fun H locs hW => ?_)
    refine lv_istore_n (lv' := [(1, .int (rX7_untilTrip (sX7_putAside (thr u)) 300)), (0, .ref (b 0))]) hx hb dX7_tripsIn_29 rfl hl (by decide) rfl (fun ls hl => ?_)
    refine lv_aload_n hx hb dX7_tripsIn_30 rfl (lv_at hl 1 rfl) ?_
    refine r_callVv M hW (c_X7_takeBack l G b (sX7_untilTrip (sX7_putAside (thr u)) 300)  (Y)) rfl kw_527 kw_528 kw_529 kw_412 kw_405 pl_X7_takeBack 0 rfl rfl ⟨by decide, by decide⟩ ⟨Nat.zero_le _, Nat.zero_le _⟩ hl.1 rfl (Nat.le_of_ble_eq_true rfl) dX7_tripsIn_31 (fun H locs hW => ?_)
    refine lv_iload_n hx hb dX7_tripsIn_34 rfl (lv_at hl 0 rfl) ?_
    exact r_reti M hW (by rw [sX7_tripsIn, if_neg c_12]) ⟨by rw [rX7_tripsIn, if_neg c_12], rfl⟩ (Nat.zero_le _) (Nat.zero_le _) dX7_tripsIn_35
  · skip
    refine lv_bipush (v := (-104)) hx hb dX7_tripsIn_15 (by decide) ?_
    exact r_reti M hW (by rw [sX7_tripsIn, if_pos c_12]) ⟨by rw [rX7_tripsIn, if_pos c_12], rfl⟩ (Nat.zero_le _) (Nat.zero_le _) dX7_tripsIn_17

def rX7_ifTension (u : Nat → Nat → Int32) (x : Int32) (y : Int32) : Int32 := if (rX7_in x 0 200) = 0 then (-102) else if (rX7_in y 1 200) = 0 then (-102) else rX7_ticks (up2 (sX7_putAside (thr u)) 1 1 x) y
def sX7_ifTension (u : Nat → Nat → Int32) (x : Int32) (y : Int32) : Nat → Nat → Int32 := if (rX7_in x 0 200) = 0 then thr u else if (rX7_in y 1 200) = 0 then thr u else sX7_takeBack (sX7_ticks (up2 (sX7_putAside (thr u)) 1 1 x) y)
set_option maxHeartbeats 4000000 in
set_option maxRecDepth 100000 in
/-- X7.ifTension -/
theorem c_X7_ifTension (l : Launch) (G : Gp) (b : Nat → Nat) (u : Nat → Nat → Int32) (x : Int32) (y : Int32) (Y : va_W) : Cn l G yX7_ifTension cX7_ifTension 4 (some .int) 5 [.ref (b 0), .int x, .int y] (ModW G b u ++ Y) (some (.int (rX7_ifTension u x y))) (ModW G b (sX7_ifTension u x y) ++ Y) := by
  refine CnE.of (by decide) (Nat.le_of_ble_eq_true rfl) ?_
  intro p e s m below meth c ls M hnm hl hW
  have hx := M.1
  have hb := M.2.1
  have hl : lv_has ls 4 [(0, .ref (b 0)), (1, .int x), (2, .int y)] := hl
  refine lv_aload_n hx hb dX7_ifTension_0 rfl (lv_at hl 0 rfl) ?_
  refine lv_iconst (v := 0) hx hb dX7_ifTension_1 (by decide) ?_
  refine pt_Mod_0_0 M hW kw_398 dX7_ifTension_2 (fun H locs hW => ?_)
  have hW : Wd G s (ModW G b (thr u) ++ Y) _ _ := hW
  refine lv_iload_n hx hb dX7_ifTension_5 rfl (lv_at hl 1 rfl) ?_
  refine lv_iconst (v := 0) hx hb dX7_ifTension_6 (by decide) ?_
  refine lv_sipush (v := 200) hx hb dX7_ifTension_7 (by decide) ?_
  refine r_callSi M hW (as := [.int x, .int 0, .int 200]) (c_X7_in l G x 0 200 (ModW G b (thr u) ++ Y)) rfl kw_441 kw_442 kw_412 kw_401 pl_X7_in ⟨by decide, by decide⟩ ⟨Nat.zero_le _, Nat.zero_le _⟩ hl.1 rfl (Nat.le_of_ble_eq_true rfl) dX7_ifTension_10 (fun H locs hW => ?_)
  refine lv_if_eq (tgt := 27) hx hb dX7_ifTension_13 (by decide) (fun c_13 => ?_) (fun c_13 => ?_)
  · skip
    refine lv_bipush (v := (-102)) hx hb dX7_ifTension_27 (by decide) ?_
    exact r_reti M hW (by rw [sX7_ifTension, if_pos c_13]) ⟨by rw [rX7_ifTension, if_pos c_13], rfl⟩ (Nat.zero_le _) (Nat.zero_le _) dX7_ifTension_29
  · skip
    refine lv_iload_n hx hb dX7_ifTension_16 rfl (lv_at hl 2 rfl) ?_
    refine lv_iconst (v := 1) hx hb dX7_ifTension_17 (by decide) ?_
    refine lv_sipush (v := 200) hx hb dX7_ifTension_18 (by decide) ?_
    refine r_callSi M hW (as := [.int y, .int 1, .int 200]) (c_X7_in l G y 1 200 (ModW G b (thr u) ++ Y)) rfl kw_441 kw_442 kw_412 kw_401 pl_X7_in ⟨by decide, by decide⟩ ⟨Nat.zero_le _, Nat.zero_le _⟩ hl.1 rfl (Nat.le_of_ble_eq_true rfl) dX7_ifTension_21 (fun H locs hW => ?_)
    refine lv_if_ne (tgt := 30) hx hb dX7_ifTension_24 (by decide) (fun c_24 => ?_) (fun c_24 => ?_)
    · skip
      refine lv_aload_n hx hb dX7_ifTension_30 rfl (lv_at hl 0 rfl) ?_
      refine r_callVv M hW (c_X7_putAside l G b (thr u)  (Y)) rfl kw_521 kw_522 kw_523 kw_412 kw_404 pl_X7_putAside 0 rfl rfl ⟨by decide, by decide⟩ ⟨Nat.zero_le _, Nat.zero_le _⟩ hl.1 rfl (Nat.le_of_ble_eq_true rfl) dX7_ifTension_31 (fun H locs hW => ?_)
      refine lv_aload_n hx hb dX7_ifTension_34 rfl (lv_at hl 0 rfl) ?_
      refine gt_Mod_0_1 M hW kw_392 dX7_ifTension_35 ?_
      refine lv_iconst (v := 1) hx hb dX7_ifTension_38 (by decide) ?_
      refine lv_iload_n hx hb dX7_ifTension_39 rfl (lv_at hl 1 rfl) ?_
      refine as_Mod_1 M hW 1 rfl (by decide) dX7_ifTension_40 (fun H locs hW => ?_)
      refine lv_aload_n hx hb dX7_ifTension_41 rfl (lv_at hl 0 rfl) ?_
      refine lv_iload_n hx hb dX7_ifTension_42 rfl (lv_at hl 2 rfl) ?_
      refine r_callVi M hW (c_X7_ticks l G b (up2 (sX7_putAside (thr u)) 1 1 x) y (Y)) rfl kw_479 kw_480 kw_481 kw_412 kw_439 pl_X7_ticks 0 rfl rfl ⟨by decide, by decide⟩ ⟨Nat.zero_le _, Nat.zero_le _⟩ hl.1 rfl (Nat.le_of_ble_eq_true rfl) dX7_ifTension_43 (fun H locs hW => ?_)
      refine lv_istore_n (lv' := [(3, .int (rX7_ticks (up2 (sX7_putAside (thr u)) 1 1 x) y)), (0, .ref (b 0)), (1, .int x), (2, .int y)]) hx hb dX7_ifTension_46 rfl hl (by decide) rfl (fun ls hl => ?_)
      refine lv_aload_n hx hb dX7_ifTension_47 rfl (lv_at hl 1 rfl) ?_
      refine r_callVv M hW (c_X7_takeBack l G b (sX7_ticks (up2 (sX7_putAside (thr u)) 1 1 x) y)  (Y)) rfl kw_527 kw_528 kw_529 kw_412 kw_405 pl_X7_takeBack 0 rfl rfl ⟨by decide, by decide⟩ ⟨Nat.zero_le _, Nat.zero_le _⟩ hl.1 rfl (Nat.le_of_ble_eq_true rfl) dX7_ifTension_48 (fun H locs hW => ?_)
      refine lv_iload_n hx hb dX7_ifTension_51 rfl (lv_at hl 0 rfl) ?_
      exact r_reti M hW (by rw [sX7_ifTension, if_neg c_13, if_neg c_24]) ⟨by rw [rX7_ifTension, if_neg c_13, if_neg c_24], rfl⟩ (Nat.zero_le _) (Nat.zero_le _) dX7_ifTension_52
    · skip
      refine lv_bipush (v := (-102)) hx hb dX7_ifTension_27 (by decide) ?_
      exact r_reti M hW (by rw [sX7_ifTension, if_neg c_13, if_pos c_24]) ⟨by rw [rX7_ifTension, if_neg c_13, if_pos c_24], rfl⟩ (Nat.zero_le _) (Nat.zero_le _) dX7_ifTension_29
