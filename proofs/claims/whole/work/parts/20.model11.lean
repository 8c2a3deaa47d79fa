/-- the least tension: so many tensions to try, the next, the legs and what was found -/
def mlR (x : Int32) : Nat → Nat → (Nat → Nat → Int32) → Int32 → Int32
  | 0, _, _, z => z
  | n + 1, i, h, z => if z = (-105) then mlR x n (i + 1) (sX7_takeBack (sX7_untilTrip (up2 h 1 1 (nI i)) x)) (if rX7_untilTrip (up2 h 1 1 (nI i)) x = (-105) then nI i else (-105)) else z
def mlS (x : Int32) : Nat → Nat → (Nat → Nat → Int32) → Int32 → (Nat → Nat → Int32)
  | 0, _, h, _ => h
  | n + 1, i, h, z => if z = (-105) then mlS x n (i + 1) (sX7_takeBack (sX7_untilTrip (up2 h 1 1 (nI i)) x)) (if rX7_untilTrip (up2 h 1 1 (nI i)) x = (-105) then nI i else (-105)) else h
theorem lt_200 {i : Nat} (h : i < 201) : ¬ (200 : Int32) < nI i := by
  have e : (200 : Int32).toInt = 200 := by decide
  rw [Int32.lt_iff_toInt_lt, nI_toInt (by omega), e]
  omega
theorem gt_200 : (200 : Int32) < nI 201 := by
  have e : (200 : Int32).toInt = 200 := by decide
  rw [Int32.lt_iff_toInt_lt, nI_toInt (by omega), e]
  omega

def rX7_leastTension (u : Nat → Nat → Int32) (x : Int32) : Int32 := if rX7_in x 1 100 = 0 then (-102) else if (thr u) 1 14 = 0 then (-104) else mlR x 201 0 (sX7_putAside (thr u)) (-105)
def sX7_leastTension (u : Nat → Nat → Int32) (x : Int32) : Nat → Nat → Int32 := if rX7_in x 1 100 = 0 then thr u else if (thr u) 1 14 = 0 then thr u else mlS x 201 0 (sX7_putAside (thr u)) (-105)

set_option maxHeartbeats 4000000 in
set_option maxRecDepth 100000 in
/-- X7.leastTension -/
theorem c_X7_leastTension (l : Launch) (G : Gp) (b : Nat → Nat) (u : Nat → Nat → Int32) (x : Int32) (Y : va_W) : Cn l G yX7_leastTension cX7_leastTension 4 (some .int) 5 [.ref (b 0), .int x] (ModW G b u ++ Y) (some (.int (rX7_leastTension u x))) (ModW G b (sX7_leastTension u x) ++ Y) := by
  refine CnE.of (by decide) (Nat.le_of_ble_eq_true rfl) ?_
  intro p e s m below meth c ls M hnm hl hW
  have hx := M.1
  have hb := M.2.1
  have hl : lv_has ls 4 [(0, .ref (b 0)), (1, .int x)] := hl
  refine lv_aload_n hx hb dX7_leastTension_0 rfl (lv_at hl 0 rfl) ?_
  refine lv_iconst (v := 0) hx hb dX7_leastTension_1 (by decide) ?_
  refine pt_Mod_0_0 M hW kw_398 dX7_leastTension_2 (fun H locs hW => ?_)
  have hW : Wd G s (ModW G b (thr u) ++ Y) _ _ := hW
  refine lv_iload_n hx hb dX7_leastTension_5 rfl (lv_at hl 1 rfl) ?_
  refine lv_iconst (v := 1) hx hb dX7_leastTension_6 (by decide) ?_
  refine lv_bipush (v := 100) hx hb dX7_leastTension_7 (by decide) ?_
  refine r_callSi M hW (as := [.int x, .int 1, .int 100]) (c_X7_in l G x 1 100 (ModW G b (thr u) ++ Y)) rfl kw_441 kw_442 kw_412 kw_401 pl_X7_in ⟨by decide, by decide⟩ ⟨Nat.zero_le _, Nat.zero_le _⟩ hl.1 rfl (Nat.le_of_ble_eq_true rfl) dX7_leastTension_9 (fun H locs hW => ?_)
  refine lv_if_ne (tgt := 18) hx hb dX7_leastTension_12 (by decide) (fun c_12 => ?_) (fun c_12 => ?_)
  · skip
    have hk := in_c (a := 1) (b := 100) rfl rfl (by decide) (by decide) c_12
    refine lv_aload_n hx hb dX7_leastTension_18 rfl (lv_at hl 0 rfl) ?_
    refine gt_Mod_0_1 M hW kw_392 dX7_leastTension_19 ?_
    refine lv_bipush (v := 14) hx hb dX7_leastTension_22 (by decide) ?_
    refine al_Mod_1 M hW 14 rfl (by decide) (x := (thr u) 1 14) rfl dX7_leastTension_24 ?_
    refine lv_if_ne (tgt := 31) hx hb dX7_leastTension_25 (by decide) (fun c_25 => ?_) (fun c_25 => ?_)
    · skip
      refine lv_aload_n hx hb dX7_leastTension_31 rfl (lv_at hl 0 rfl) ?_
      refine r_callVv M hW (c_X7_putAside l G b (thr u)  (Y)) rfl kw_521 kw_522 kw_523 kw_412 kw_404 pl_X7_putAside 0 rfl rfl ⟨by decide, by decide⟩ ⟨Nat.zero_le _, Nat.zero_le _⟩ hl.1 rfl (Nat.le_of_ble_eq_true rfl) dX7_leastTension_32 (fun H locs hW => ?_)
      refine lv_bipush (v := (-105)) hx hb dX7_leastTension_35 (by decide) ?_
      refine lv_istore_n (lv' := [(2, .int (-105)), (0, .ref (b 0)), (1, .int x)]) hx hb dX7_leastTension_37 rfl hl (by decide) rfl (fun ls hl => ?_)
      refine lv_iconst (v := 0) hx hb dX7_leastTension_38 (by decide) ?_
      refine lv_istore_n (lv' := [(3, .int 0), (2, .int (-105)), (0, .ref (b 0)), (1, .int x)]) hx hb dX7_leastTension_39 rfl hl (by decide) rfl (fun ls hl => ?_)
      refine r_loop (σ := Array Slot × Nat × (Nat → Nat → Int32) × Int32) (fun r q H1 l1 => (q.2.1 + r = 201 ∧ lv_has q.1 4 [(3, .int (nI q.2.1)), (2, .int q.2.2.2), (0, .ref (b 0)), (1, .int x)] ∧ mlR x r q.2.1 q.2.2.1 q.2.2.2 = mlR x 201 0 (sX7_putAside (thr u)) (-105) ∧ mlS x r q.2.1 q.2.2.1 q.2.2.2 = mlS x 201 0 (sX7_putAside (thr u)) (-105)) ∧ Wd G s (ModW G b q.2.2.1 ++ Y) H1 l1) (fun q => F0 m 40 q.1 []) ?_ ?_ 201 (ls, 0, (sX7_putAside (thr u)), (-105)) _ _ ⟨⟨rfl, lv_sub hl [0, 1, 2, 3] rfl, rfl, rfl⟩, hW⟩
      · skip
        intro q H locs hI
        obtain ⟨ls, i, h, z⟩ := q
        obtain ⟨⟨hu, hl, hr, hg⟩, hW⟩ := hI
        dsimp only at hu hl hr hg hW ⊢
        have hu2 : i = 201 := by omega
        subst hu2
        refine lv_iload_n hx hb dX7_leastTension_40 rfl (lv_at hl 0 rfl) ?_
        refine lv_sipush (v := 200) hx hb dX7_leastTension_41 (by decide) ?_
        refine lv_icmp_gt (tgt := 87) hx hb dX7_leastTension_44 (by decide) (fun c_44 => ?_) (fun c_44 => ?_)
        · skip
          refine lv_iload_n hx hb dX7_leastTension_87 rfl (lv_at hl 1 rfl) ?_
          exact r_reti M hW (by rw [sX7_leastTension, if_neg c_12, if_neg c_25, ← hg, mlS]) ⟨by rw [rX7_leastTension, if_neg c_12, if_neg c_25, ← hr, mlR], rfl⟩ (Nat.zero_le _) (Nat.zero_le _) dX7_leastTension_88
        · skip
          exact absurd gt_200 c_44
      · skip
        intro n ih q H locs hI
        obtain ⟨ls, i, h, z⟩ := q
        obtain ⟨⟨hu, hl, hr, hg⟩, hW⟩ := hI
        dsimp only at hu hl hr hg hW ⊢
        have hu2 : i < 201 := by omega
        refine lv_iload_n hx hb dX7_leastTension_40 rfl (lv_at hl 0 rfl) ?_
        refine lv_sipush (v := 200) hx hb dX7_leastTension_41 (by decide) ?_
        refine lv_icmp_gt (tgt := 87) hx hb dX7_leastTension_44 (by decide) (fun c_44_2 => ?_) (fun c_44_2 => ?_)
        · skip
          exact absurd c_44_2 (lt_200 hu2)
        · skip
          refine lv_iload_n hx hb dX7_leastTension_47 rfl (lv_at hl 1 rfl) ?_
          refine lv_bipush (v := (-105)) hx hb dX7_leastTension_48 (by decide) ?_
          refine lv_icmp_ne (tgt := 87) hx hb dX7_leastTension_50 (by decide) (fun c_50 => ?_) (fun c_50 => ?_)
          · skip
            refine lv_iload_n hx hb dX7_leastTension_87 rfl (lv_at hl 1 rfl) ?_
            exact r_reti M hW (by rw [sX7_leastTension, if_neg c_12, if_neg c_25, ← hg, mlS, if_neg c_50]) ⟨by rw [rX7_leastTension, if_neg c_12, if_neg c_25, ← hr, mlR, if_neg c_50], rfl⟩ (Nat.zero_le _) (Nat.zero_le _) dX7_leastTension_88
          · skip
            refine lv_aload_n hx hb dX7_leastTension_53 rfl (lv_at hl 2 rfl) ?_
            refine gt_Mod_0_1 M hW kw_392 dX7_leastTension_54 ?_
            refine lv_iconst (v := 1) hx hb dX7_leastTension_57 (by decide) ?_
            refine lv_iload_n hx hb dX7_leastTension_58 rfl (lv_at hl 0 rfl) ?_
            refine as_Mod_1 M hW 1 rfl (by decide) dX7_leastTension_59 (fun H locs hW => ?_)
            refine lv_aload_n hx hb dX7_leastTension_60 rfl (lv_at hl 2 rfl) ?_
            refine lv_iload_n hx hb dX7_leastTension_61 rfl (lv_at hl 3 rfl) ?_
            refine r_callVi M hW (c_X7_untilTrip l G b (up2 h 1 1 (nI i)) x (Y) ⟨hk.1, by omega⟩) rfl kw_542 kw_543 kw_544 kw_412 kw_541 pl_X7_untilTrip 0 rfl rfl ⟨by decide, by decide⟩ ⟨Nat.zero_le _, Nat.zero_le _⟩ hl.1 rfl (Nat.le_of_ble_eq_true rfl) dX7_leastTension_62 (fun H locs hW => ?_)
            refine lv_bipush (v := (-105)) hx hb dX7_leastTension_65 (by decide) ?_
            refine r_cuti (pc2 := 76) (ls2 := ls) (st := []) (if (rX7_untilTrip (up2 h 1 1 (nI i)) x) = (-105) then nI i else (-105)) (fun x_76 hx_76 => ?_) (fun hJ_76 => ?_)
            · skip
              rewrite [hx_76]
              refine lv_istore_n (lv' := [(2, .int (if (rX7_untilTrip (up2 h 1 1 (nI i)) x) = (-105) then nI i else (-105))), (3, .int (nI i)), (0, .ref (b 0)), (1, .int x)]) hx hb dX7_leastTension_76 rfl hl (by decide) rfl (fun ls hl => ?_)
              refine lv_aload_n hx hb dX7_leastTension_77 rfl (lv_at hl 2 rfl) ?_
              refine r_callVv M hW (c_X7_takeBack l G b (sX7_untilTrip (up2 h 1 1 (nI i)) x)  (Y)) rfl kw_527 kw_528 kw_529 kw_412 kw_405 pl_X7_takeBack 0 rfl rfl ⟨by decide, by decide⟩ ⟨Nat.zero_le _, Nat.zero_le _⟩ hl.1 rfl (Nat.le_of_ble_eq_true rfl) dX7_leastTension_78 (fun H locs hW => ?_)
              refine lv_iinc (v := nI (i + 1)) (lv' := [(3, .int (nI (i + 1))), (2, .int (if (rX7_untilTrip (up2 h 1 1 (nI i)) x) = (-105) then nI i else (-105))), (0, .ref (b 0)), (1, .int x)]) hx hb dX7_leastTension_81 hl (k := 1) rfl (nI_1 i) (by decide) rfl (fun ls hl => ?_)
              refine lv_goto (tgt := 40) hx hb dX7_leastTension_84 (by decide) ?_
              have hr2 : mlR x n (i + 1) (sX7_takeBack (sX7_untilTrip (up2 h 1 1 (nI i)) x)) (if (rX7_untilTrip (up2 h 1 1 (nI i)) x) = (-105) then nI i else (-105)) = mlR x 201 0 (sX7_putAside (thr u)) (-105) := by rw [← hr, mlR, if_pos c_50]
              have hg2 : mlS x n (i + 1) (sX7_takeBack (sX7_untilTrip (up2 h 1 1 (nI i)) x)) (if (rX7_untilTrip (up2 h 1 1 (nI i)) x) = (-105) then nI i else (-105)) = mlS x 201 0 (sX7_putAside (thr u)) (-105) := by rw [← hg, mlS, if_pos c_50]
              have hu3 : i + 1 + n = 201 := by omega
              refine ih (ls, i + 1, sX7_takeBack (sX7_untilTrip (up2 h 1 1 (nI i)) x), if (rX7_untilTrip (up2 h 1 1 (nI i)) x) = (-105) then nI i else (-105)) _ _ ?_
              dsimp only
              exact ⟨⟨hu3, lv_sub hl [0, 1, 2, 3] rfl, hr2, hg2⟩, hW⟩
            · skip
              refine lv_icmp_ne (tgt := 74) hx hb dX7_leastTension_67 (by decide) (fun c_67 => ?_) (fun c_67 => ?_)
              · skip
                refine lv_bipush (v := (-105)) hx hb dX7_leastTension_74 (by decide) ?_
                exact hJ_76 _ (by rw [if_neg c_67])
              · skip
                refine lv_iload_n hx hb dX7_leastTension_70 rfl (lv_at hl 0 rfl) ?_
                refine lv_goto (tgt := 76) hx hb dX7_leastTension_71 (by decide) ?_
                exact hJ_76 _ (by rw [if_pos c_67])
    · skip
      refine lv_bipush (v := (-104)) hx hb dX7_leastTension_28 (by decide) ?_
      exact r_reti M hW (by rw [sX7_leastTension, if_neg c_12, if_pos c_25]) ⟨by rw [rX7_leastTension, if_neg c_12, if_pos c_25], rfl⟩ (Nat.zero_le _) (Nat.zero_le _) dX7_leastTension_30
  · skip
    refine lv_bipush (v := (-102)) hx hb dX7_leastTension_15 (by decide) ?_
    exact r_reti M hW (by rw [sX7_leastTension, if_pos c_12]) ⟨by rw [rX7_leastTension, if_pos c_12], rfl⟩ (Nat.zero_le _) (Nat.zero_le _) dX7_leastTension_17
