set_option maxHeartbeats 4000000 in
set_option maxRecDepth 100000 in
/-- X7.perform -/
theorem c_X7_perform (l : Launch) (G : Gp) (b : Nat → Nat) (u : Nat → Nat → Int32) (Y : va_W) (hn : MSz u) (hl0 : MLen u) : Cn l G yX7_perform cX7_perform 4 (some .int) 6 [.ref (b 0)] (ModW G b u ++ Y) (some (.int (rX7_perform u))) (ModW G b (sX7_perform u) ++ Y) := by
  refine CnE.of (by decide) (Nat.le_of_ble_eq_true rfl) ?_
  intro p e s m below meth c ls M hnm hl hW
  have hx := M.1
  have hb := M.2.1
  have hl : lv_has ls 4 [(0, .ref (b 0))] := hl
  refine lv_aload_n hx hb dX7_perform_0 rfl (lv_at hl 0 rfl) ?_
  refine lv_iconst (v := 0) hx hb dX7_perform_1 (by decide) ?_
  refine pt_Mod_0_0 M hW kw_398 dX7_perform_2 (fun H locs hW => ?_)
  have hW : Wd G s (ModW G b (thr u) ++ Y) _ _ := hW
  refine lv_aload_n hx hb dX7_perform_5 rfl (lv_at hl 0 rfl) ?_
  refine r_callVi M hW (c_X7_reads l G b (thr u)  (Y) (thr_len hl0)) rfl kw_518 kw_519 kw_520 kw_412 kw_512 pl_X7_reads 0 rfl rfl ⟨by decide, by decide⟩ ⟨Nat.zero_le _, Nat.zero_le _⟩ hl.1 rfl (Nat.le_of_ble_eq_true rfl) dX7_perform_6 (fun H locs hW => ?_)
  refine lv_istore_n (lv' := [(1, .int (rX7_reads (thr u))), (0, .ref (b 0))]) hx hb dX7_perform_9 rfl hl (by decide) rfl (fun ls hl => ?_)
  refine lv_iload_n hx hb dX7_perform_10 rfl (lv_at hl 0 rfl) ?_
  refine lv_bipush (v := (-105)) hx hb dX7_perform_11 (by decide) ?_
  refine lv_icmp_eq (tgt := 22) hx hb dX7_perform_13 (by decide) (fun c_13 => ?_) (fun c_13 => ?_)
  · skip
    refine lv_aload_n hx hb dX7_perform_22 rfl (lv_at hl 1 rfl) ?_
    refine r_callVv M hW (c_X7_putAside l G b (sX7_reads (thr u))  (Y)) rfl kw_521 kw_522 kw_523 kw_412 kw_404 pl_X7_putAside 0 rfl rfl ⟨by decide, by decide⟩ ⟨Nat.zero_le _, Nat.zero_le _⟩ hl.1 rfl (Nat.le_of_ble_eq_true rfl) dX7_perform_23 (fun H locs hW => ?_)
    have hW : Wd G s (ModW G b (mp0 u) ++ Y) _ _ := hW
    refine lv_iconst (v := 0) hx hb dX7_perform_26 (by decide) ?_
    refine lv_istore_n (lv' := [(2, .int 0), (1, .int (rX7_reads (thr u))), (0, .ref (b 0))]) hx hb dX7_perform_27 rfl hl (by decide) rfl (fun ls hl => ?_)
    have hN := mpN_le hl0
    have hl : lv_has ls 4 [(2, .int (nI 0)), (0, .ref (b 0))] := lv_sub hl [0, 2] rfl
    refine r_loop (σ := Array Slot × Nat × (Nat → Nat → Int32)) (fun r q H1 l1 => (q.2.1 + r = mpN u ∧ lv_has q.1 4 [(2, .int (nI q.2.1)), (0, .ref (b 0))] ∧ q.2.2 0 = mp0 u 0 ∧ mpR r q.2.1 q.2.2 = mpR (mpN u) 0 (mp0 u) ∧ mpK r q.2.1 q.2.2 = mpK (mpN u) 0 (mp0 u) ∧ mpS r q.2.1 q.2.2 = mpS (mpN u) 0 (mp0 u)) ∧ Wd G s (ModW G b q.2.2 ++ Y) H1 l1) (fun q => F0 m 28 q.1 []) ?_ ?_ (mpN u) (ls, 0, mp0 u) _ _ ?_
    · skip
      intro q H locs hI
      obtain ⟨ls, i, h⟩ := q
      obtain ⟨⟨hu, hl, h0, hr, hk, hg⟩, hW⟩ := hI
      dsimp only at hu hl h0 hr hk hg hW ⊢
      have hu2 : i = mpN u := by omega
      have h14 : h 0 14 = nI (mpN u) := (congrFun h0 14).trans hN.2
      refine lv_iload_n hx hb dX7_perform_28 rfl (lv_at hl 0 rfl) ?_
      refine lv_aload_n hx hb dX7_perform_29 rfl (lv_at hl 1 rfl) ?_
      refine gt_Mod_0_14 M hW kw_502 (x := nI (mpN u)) h14 dX7_perform_30 ?_
      refine lv_icmp_ge (tgt := 92) hx hb dX7_perform_33 (by decide) (fun c_33 => ?_) (fun c_33 => ?_)
      · skip
        refine lv_aload_n hx hb dX7_perform_92 rfl (lv_at hl 1 rfl) ?_
        refine r_callVv M hW (c_X7_swapsAside l G b h  (Y)) rfl kw_530 kw_531 kw_532 kw_412 kw_517 pl_X7_swapsAside 0 rfl rfl ⟨by decide, by decide⟩ ⟨Nat.zero_le _, Nat.zero_le _⟩ hl.1 rfl (Nat.le_of_ble_eq_true rfl) dX7_perform_93 (fun H locs hW => ?_)
        refine lv_aload_n hx hb dX7_perform_96 rfl (lv_at hl 1 rfl) ?_
        refine r_callVv M hW (c_X7_records l G b (sX7_swapsAside h)  (Y) (MSz.of (u := mp0 u) (congrFun ((swap_c _ _ (by decide) (by decide)).trans h0) 4) (mp0_sz hn))) rfl kw_456 kw_457 kw_458 kw_412 kw_402 pl_X7_records 0 rfl rfl ⟨by decide, by decide⟩ ⟨Nat.zero_le _, Nat.zero_le _⟩ hl.1 rfl (Nat.le_of_ble_eq_true rfl) dX7_perform_97 (fun H locs hW => ?_)
        refine lv_aload_n hx hb dX7_perform_100 rfl (lv_at hl 1 rfl) ?_
        refine r_callVv M hW (c_X7_swapsAside l G b (sX7_records (sX7_swapsAside h))  (Y)) rfl kw_530 kw_531 kw_532 kw_412 kw_517 pl_X7_swapsAside 0 rfl rfl ⟨by decide, by decide⟩ ⟨Nat.zero_le _, Nat.zero_le _⟩ hl.1 rfl (Nat.le_of_ble_eq_true rfl) dX7_perform_101 (fun H locs hW => ?_)
        refine lv_aload_n hx hb dX7_perform_104 rfl (lv_at hl 1 rfl) ?_
        refine gt_Mod_0_14 M hW kw_502 (x := (sX7_swapsAside (sX7_records (sX7_swapsAside h))) 0 14) rfl dX7_perform_105 ?_
        have hR0 : mpR (mpN u) 0 (mp0 u) = 0 := by rw [← hr, mpR]
        have hS0 : mpS (mpN u) 0 (mp0 u) = h := by rw [← hg, mpS]
        exact r_reti M hW (by rw [sX7_perform, if_pos c_13, if_pos hR0, hS0]) ⟨by rw [rX7_perform, if_pos c_13, if_pos hR0, hS0], rfl⟩ (Nat.zero_le _) (Nat.zero_le _) dX7_perform_108
      · skip
        exact absurd (nI_le (by omega) (by omega)) c_33
    · skip
      intro n ih q H locs hI
      obtain ⟨ls, i, h⟩ := q
      obtain ⟨⟨hu, hl, h0, hr, hk, hg⟩, hW⟩ := hI
      dsimp only at hu hl h0 hr hk hg hW ⊢
      have hu2 : i < mpN u := by omega
      have h14 : h 0 14 = nI (mpN u) := (congrFun h0 14).trans hN.2
      refine lv_iload_n hx hb dX7_perform_28 rfl (lv_at hl 0 rfl) ?_
      refine lv_aload_n hx hb dX7_perform_29 rfl (lv_at hl 1 rfl) ?_
      refine gt_Mod_0_14 M hW kw_502 (x := nI (mpN u)) h14 dX7_perform_30 ?_
      refine lv_icmp_ge (tgt := 92) hx hb dX7_perform_33 (by decide) (fun c_33_2 => ?_) (fun c_33_2 => ?_)
      · skip
        exact absurd c_33_2 (nI_ge hu2 (by omega))
      · skip
        refine lv_aload_n hx hb dX7_perform_36 rfl (lv_at hl 1 rfl) ?_
        refine lv_aload_n hx hb dX7_perform_37 rfl (lv_at hl 1 rfl) ?_
        refine gt_Mod_0_13 M hW kw_397 dX7_perform_38 ?_
        refine lv_iconst (v := 2) hx hb dX7_perform_41 (by decide) ?_
        refine lv_iload_n hx hb dX7_perform_42 rfl (lv_at hl 0 rfl) ?_
        refine lv_imul hx hb dX7_perform_43 ?_
        refine r_top (y := nI (2 * i)) (pk_mul 2 _) ?_
        refine al_Mod_6 M hW (2 * i) rfl (by omega) (x := h 6 (2 * i)) rfl dX7_perform_44 ?_
        refine lv_aload_n hx hb dX7_perform_45 rfl (lv_at hl 1 rfl) ?_
        refine gt_Mod_0_13 M hW kw_397 dX7_perform_46 ?_
        refine lv_iconst (v := 2) hx hb dX7_perform_49 (by decide) ?_
        refine lv_iload_n hx hb dX7_perform_50 rfl (lv_at hl 0 rfl) ?_
        refine lv_imul hx hb dX7_perform_51 ?_
        refine r_top (y := nI (2 * i)) (pk_mul 2 _) ?_
        refine lv_iconst (v := 1) hx hb dX7_perform_52 (by decide) ?_
        refine lv_iadd hx hb dX7_perform_53 ?_
        refine r_top (y := nI (2 * i + 1)) (nI_1 _) ?_
        refine al_Mod_6 M hW (2 * i + 1) rfl (by omega) (x := h 6 (2 * i + 1)) rfl dX7_perform_54 ?_
        refine r_callVi M hW (c_X7_does l G b h (h 6 (2 * i)) (h 6 (2 * i + 1)) (Y)) rfl kw_524 kw_525 kw_526 kw_412 kw_516 pl_X7_does 0 rfl rfl ⟨by decide, by decide⟩ ⟨Nat.zero_le _, Nat.zero_le _⟩ hl.1 rfl (Nat.le_of_ble_eq_true rfl) dX7_perform_55 (fun H locs hW => ?_)
        refine lv_istore_n (lv' := [(3, .int (rX7_does h (h 6 (2 * i)) (h 6 (2 * i + 1)))), (2, .int (nI i)), (0, .ref (b 0))]) hx hb dX7_perform_58 rfl hl (by decide) rfl (fun ls hl => ?_)
        refine lv_iload_n hx hb dX7_perform_59 rfl (lv_at hl 0 rfl) ?_
        refine lv_if_eq (tgt := 86) hx hb dX7_perform_60 (by decide) (fun c_60 => ?_) (fun c_60 => ?_)
        · skip
          refine lv_iinc (v := nI (i + 1)) (lv' := [(2, .int (nI (i + 1))), (3, .int (rX7_does h (h 6 (2 * i)) (h 6 (2 * i + 1)))), (0, .ref (b 0))]) hx hb dX7_perform_86 hl (k := 1) rfl (nI_1 i) (by decide) rfl (fun ls hl => ?_)
          refine lv_goto (tgt := 28) hx hb dX7_perform_89 (by decide) ?_
          have hr2 : mpR n (i + 1) (sX7_does h (h 6 (2 * i)) (h 6 (2 * i + 1))) = mpR (mpN u) 0 (mp0 u) := by rw [← hr, mpR, if_pos c_60]
          have hk2 : mpK n (i + 1) (sX7_does h (h 6 (2 * i)) (h 6 (2 * i + 1))) = mpK (mpN u) 0 (mp0 u) := by rw [← hk, mpK, if_pos c_60]
          have hg2 : mpS n (i + 1) (sX7_does h (h 6 (2 * i)) (h 6 (2 * i + 1))) = mpS (mpN u) 0 (mp0 u) := by rw [← hg, mpS, if_pos c_60]
          have hu3 : i + 1 + n = mpN u := by omega
          refine ih (ls, i + 1, sX7_does h (h 6 (2 * i)) (h 6 (2 * i + 1))) _ _ ?_
          dsimp only
          exact ⟨⟨hu3, lv_sub hl [0, 2] rfl, (does_c _ _ _ (by decide)).trans h0, hr2, hk2, hg2⟩, hW⟩
        · skip
          refine lv_iload_n hx hb dX7_perform_63 rfl (lv_at hl 0 rfl) ?_
          refine lv_bipush (v := (-105)) hx hb dX7_perform_64 (by decide) ?_
          refine lv_icmp_eq (tgt := 86) hx hb dX7_perform_66 (by decide) (fun c_66 => ?_) (fun c_66 => ?_)
          · skip
            refine lv_iinc (v := nI (i + 1)) (lv' := [(2, .int (nI (i + 1))), (3, .int (rX7_does h (h 6 (2 * i)) (h 6 (2 * i + 1)))), (0, .ref (b 0))]) hx hb dX7_perform_86 hl (k := 1) rfl (nI_1 i) (by decide) rfl (fun ls hl => ?_)
            refine lv_goto (tgt := 28) hx hb dX7_perform_89 (by decide) ?_
            have hr2 : mpR n (i + 1) (sX7_does h (h 6 (2 * i)) (h 6 (2 * i + 1))) = mpR (mpN u) 0 (mp0 u) := by rw [← hr, mpR, if_neg c_60, if_pos c_66]
            have hk2 : mpK n (i + 1) (sX7_does h (h 6 (2 * i)) (h 6 (2 * i + 1))) = mpK (mpN u) 0 (mp0 u) := by rw [← hk, mpK, if_neg c_60, if_pos c_66]
            have hg2 : mpS n (i + 1) (sX7_does h (h 6 (2 * i)) (h 6 (2 * i + 1))) = mpS (mpN u) 0 (mp0 u) := by rw [← hg, mpS, if_neg c_60, if_pos c_66]
            have hu3 : i + 1 + n = mpN u := by omega
            refine ih (ls, i + 1, sX7_does h (h 6 (2 * i)) (h 6 (2 * i + 1))) _ _ ?_
            dsimp only
            exact ⟨⟨hu3, lv_sub hl [0, 2] rfl, (does_c _ _ _ (by decide)).trans h0, hr2, hk2, hg2⟩, hW⟩
          · skip
            refine lv_aload_n hx hb dX7_perform_69 rfl (lv_at hl 2 rfl) ?_
            refine r_callVv M hW (c_X7_takeBack l G b (sX7_does h (h 6 (2 * i)) (h 6 (2 * i + 1)))  (Y)) rfl kw_527 kw_528 kw_529 kw_412 kw_405 pl_X7_takeBack 0 rfl rfl ⟨by decide, by decide⟩ ⟨Nat.zero_le _, Nat.zero_le _⟩ hl.1 rfl (Nat.le_of_ble_eq_true rfl) dX7_perform_70 (fun H locs hW => ?_)
            refine lv_aload_n hx hb dX7_perform_73 rfl (lv_at hl 2 rfl) ?_
            refine lv_iload_n hx hb dX7_perform_74 rfl (lv_at hl 1 rfl) ?_
            refine pt_Mod_0_9 M hW kw_399 dX7_perform_75 (fun H locs hW => ?_)
            refine lv_aload_n hx hb dX7_perform_78 rfl (lv_at hl 2 rfl) ?_
            refine lv_iload_n hx hb dX7_perform_79 rfl (lv_at hl 0 rfl) ?_
            refine pt_Mod_0_10 M hW kw_400 dX7_perform_80 (fun H locs hW => ?_)
            refine lv_bipush (v := (-104)) hx hb dX7_perform_83 (by decide) ?_
            have hR0 : mpR (mpN u) 0 (mp0 u) = rX7_does h (h 6 (2 * i)) (h 6 (2 * i + 1)) := by rw [← hr, mpR, if_neg c_60, if_neg c_66]
            have hS0 : mpS (mpN u) 0 (mp0 u) = sX7_does h (h 6 (2 * i)) (h 6 (2 * i + 1)) := by rw [← hg, mpS, if_neg c_60, if_neg c_66]
            have hK0 : mpK (mpN u) 0 (mp0 u) = i := by rw [← hk, mpK, if_neg c_60, if_neg c_66]
            have hn0 : ¬ mpR (mpN u) 0 (mp0 u) = 0 := by rw [hR0]; exact c_60
            exact r_reti M hW (by rw [sX7_perform, if_pos c_13, if_neg hn0, hS0, hK0, hR0]) ⟨by rw [rX7_perform, if_pos c_13, if_neg hn0], rfl⟩ (Nat.zero_le _) (Nat.zero_le _) dX7_perform_85
    · skip
      dsimp only
      exact ⟨⟨Nat.zero_add _, hl, rfl, rfl, rfl, rfl⟩, hW⟩
  · skip
    refine lv_sipush (v := (-200)) hx hb dX7_perform_16 (by decide) ?_
    refine lv_iload_n hx hb dX7_perform_19 rfl (lv_at hl 0 rfl) ?_
    refine lv_isub hx hb dX7_perform_20 ?_
    exact r_reti M hW (by rw [sX7_perform, if_neg c_13]) ⟨by rw [rX7_perform, if_neg c_13], rfl⟩ (Nat.zero_le _) (Nat.zero_le _) dX7_perform_21
