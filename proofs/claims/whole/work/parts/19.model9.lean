def rX7_undo (u : Nat → Nat → Int32) : Int32 := if ((thr u) 0 4) = 0 then (-105) else nI (mS u - 1)
def sX7_undo (u : Nat → Nat → Int32) : Nat → Nat → Int32 := if ((thr u) 0 4) = 0 then thr u else iterN (fun k h => up2 h 1 k (h 3 (56 * (mS u - 1) + k))) 56 (up2 (thr u) 0 4 (nI (mS u - 1)))
set_option maxHeartbeats 4000000 in
set_option maxRecDepth 100000 in
/-- X7.undo -/
theorem c_X7_undo (l : Launch) (G : Gp) (b : Nat → Nat) (u : Nat → Nat → Int32) (Y : va_W) (hn : MSz u) : Cn l G yX7_undo cX7_undo 2 (some .int) 0 [.ref (b 0)] (ModW G b u ++ Y) (some (.int (rX7_undo u))) (ModW G b (sX7_undo u) ++ Y) := by
  refine CnE.of (by decide) (Nat.le_of_ble_eq_true rfl) ?_
  intro p e s m below meth c ls M hnm hl hW
  have hx := M.1
  have hb := M.2.1
  have hl : lv_has ls 2 [(0, .ref (b 0))] := hl
  refine lv_aload_n hx hb dX7_undo_0 rfl (lv_at hl 0 rfl) ?_
  refine lv_iconst (v := 0) hx hb dX7_undo_1 (by decide) ?_
  refine pt_Mod_0_0 M hW kw_398 dX7_undo_2 (fun H locs hW => ?_)
  have hW : Wd G s (ModW G b (thr u) ++ Y) _ _ := hW
  refine lv_aload_n hx hb dX7_undo_5 rfl (lv_at hl 0 rfl) ?_
  refine gt_Mod_0_4 M hW kw_403 (x := (thr u) 0 4) rfl dX7_undo_6 ?_
  refine lv_if_ne (tgt := 15) hx hb dX7_undo_9 (by decide) (fun c_9 => ?_) (fun c_9 => ?_)
  · skip
    refine lv_aload_n hx hb dX7_undo_15 rfl (lv_at hl 0 rfl) ?_
    refine lv_dup hx hb dX7_undo_16 rfl ?_
    refine gt_Mod_0_4 M hW kw_403 (x := (thr u) 0 4) rfl dX7_undo_17 ?_
    refine lv_iconst (v := 1) hx hb dX7_undo_20 (by decide) ?_
    refine lv_isub hx hb dX7_undo_21 ?_
    refine r_top (y := nI (mS u - 1)) (hn.pred c_9) ?_
    refine pt_Mod_0_4 M hW kw_403 dX7_undo_22 (fun H locs hW => ?_)
    refine lv_iconst (v := 0) hx hb dX7_undo_25 (by decide) ?_
    refine lv_istore_n (lv' := [(1, .int 0), (0, .ref (b 0))]) hx hb dX7_undo_26 rfl hl (by decide) rfl (fun ls hl => ?_)
    have hm4 := hn.eq.2
    refine r_loop (σ := Array Slot × Nat) (fun r uL H1 l1 => uL.2 + r = 56 ∧ lv_has uL.1 2 [(1, .int (nI uL.2)), (0, .ref (b 0))] ∧ Wd G s (ModW G b (iterN (fun k h => up2 h 1 k (h 3 (56 * (mS u - 1) + k))) uL.2 (up2 (thr u) 0 4 (nI (mS u - 1)))) ++ Y) H1 l1) (fun uL => F0 m 27 uL.1 []) ?_ ?_ (56) (ls, 0) _ _ ⟨Nat.zero_add _, lv_sub hl [0, 1] rfl, hW⟩
    · skip
      intro uL H locs hI
      obtain ⟨ls, i⟩ := uL
      obtain ⟨hu, hl, hW⟩ := hI
      dsimp only at hu hl hW ⊢
      have hu : i = 56 := hu
      subst hu
      refine lv_iload_n hx hb dX7_undo_27 rfl (lv_at hl 0 rfl) ?_
      refine lv_bipush (v := 56) hx hb dX7_undo_28 (by decide) ?_
      refine lv_icmp_ge (tgt := 59) hx hb dX7_undo_30 (by decide) (fun c_30 => ?_) (fun c_30 => ?_)
      · skip
        refine lv_aload_n hx hb dX7_undo_59 rfl (lv_at hl 1 rfl) ?_
        refine gt_Mod_0_4 M hW kw_403 (x := nI (mS u - 1)) (undo04 u _) dX7_undo_60 ?_
        exact r_reti M hW (by rw [sX7_undo, if_neg c_9]) ⟨by rw [rX7_undo, if_neg c_9], rfl⟩ (Nat.zero_le _) (Nat.zero_le _) dX7_undo_63
      · skip
        exact absurd (nI_le (Nat.le_refl 56) (by decide)) c_30
    · skip
      intro n ih uL H locs hI
      obtain ⟨ls, i⟩ := uL
      obtain ⟨hu, hl, hW⟩ := hI
      dsimp only at hu hl hW ⊢
      have hlt : i < 56 := by omega
      refine lv_iload_n hx hb dX7_undo_27 rfl (lv_at hl 0 rfl) ?_
      refine lv_bipush (v := 56) hx hb dX7_undo_28 (by decide) ?_
      refine lv_icmp_ge (tgt := 59) hx hb dX7_undo_30 (by decide) (fun c_30_2 => ?_) (fun c_30_2 => ?_)
      · skip
        exact absurd c_30_2 (nI_ge hlt (by decide))
      · skip
        refine lv_aload_n hx hb dX7_undo_33 rfl (lv_at hl 1 rfl) ?_
        refine gt_Mod_0_1 M hW kw_392 dX7_undo_34 ?_
        refine lv_iload_n hx hb dX7_undo_37 rfl (lv_at hl 0 rfl) ?_
        refine lv_aload_n hx hb dX7_undo_38 rfl (lv_at hl 1 rfl) ?_
        refine gt_Mod_0_3 M hW kw_394 dX7_undo_39 ?_
        refine lv_bipush (v := 56) hx hb dX7_undo_42 (by decide) ?_
        refine lv_aload_n hx hb dX7_undo_44 rfl (lv_at hl 1 rfl) ?_
        refine gt_Mod_0_4 M hW kw_403 (x := nI (mS u - 1)) (undo04 u _) dX7_undo_45 ?_
        refine lv_imul hx hb dX7_undo_48 ?_
        refine r_top (y := nI (56 * (mS u - 1))) (pk_mul 56 _) ?_
        refine lv_iload_n hx hb dX7_undo_49 rfl (lv_at hl 0 rfl) ?_
        refine lv_iadd hx hb dX7_undo_50 ?_
        refine r_top (y := nI (56 * (mS u - 1) + i)) (nI_add _ _) ?_
        refine al_Mod_3 M hW (56 * (mS u - 1) + i) rfl (by omega) (x := (iterN (fun k h => up2 h 1 k (h 3 (56 * (mS u - 1) + k))) i (up2 (thr u) 0 4 (nI (mS u - 1)))) 3 (56 * (mS u - 1) + i)) rfl dX7_undo_51 ?_
        refine as_Mod_1 M hW i rfl (by omega) dX7_undo_52 (fun H locs hW => ?_)
        refine lv_iinc (v := nI (i + 1)) (lv' := [(1, .int (nI (i + 1))), (0, .ref (b 0))]) hx hb dX7_undo_53 hl (k := 0) rfl (nI_1 i) (by decide) rfl (fun ls hl => ?_)
        refine lv_goto (tgt := 27) hx hb dX7_undo_56 (by decide) ?_
        exact ih (ls, i + 1) _ _ ⟨by dsimp only; omega, lv_sub hl [0, 1] rfl, (by dsimp only; rw [iterN_succ]; exact hW)⟩
  · skip
    refine lv_bipush (v := (-105)) hx hb dX7_undo_12 (by decide) ?_
    exact r_reti M hW (by rw [sX7_undo, if_pos c_9]) ⟨by rw [rX7_undo, if_pos c_9], rfl⟩ (Nat.zero_le _) (Nat.zero_le _) dX7_undo_14

def rX7_keep (u : Nat → Nat → Int32) : Int32 := (iterN (fun k h => up2 h 4 k (h 1 k)) 56 (thr u)) 1 17
def sX7_keep (u : Nat → Nat → Int32) : Nat → Nat → Int32 := up2 (iterN (fun k h => up2 h 4 k (h 1 k)) 56 (thr u)) 0 6 1
set_option maxHeartbeats 4000000 in
set_option maxRecDepth 100000 in
/-- X7.keep -/
theorem c_X7_keep (l : Launch) (G : Gp) (b : Nat → Nat) (u : Nat → Nat → Int32) (Y : va_W) : Cn l G yX7_keep cX7_keep 2 (some .int) 0 [.ref (b 0)] (ModW G b u ++ Y) (some (.int (rX7_keep u))) (ModW G b (sX7_keep u) ++ Y) := by
  refine CnE.of (by decide) (Nat.le_of_ble_eq_true rfl) ?_
  intro p e s m below meth c ls M hnm hl hW
  have hx := M.1
  have hb := M.2.1
  have hl : lv_has ls 2 [(0, .ref (b 0))] := hl
  refine lv_aload_n hx hb dX7_keep_0 rfl (lv_at hl 0 rfl) ?_
  refine lv_iconst (v := 0) hx hb dX7_keep_1 (by decide) ?_
  refine pt_Mod_0_0 M hW kw_398 dX7_keep_2 (fun H locs hW => ?_)
  have hW : Wd G s (ModW G b (thr u) ++ Y) _ _ := hW
  refine lv_iconst (v := 0) hx hb dX7_keep_5 (by decide) ?_
  refine lv_istore_n (lv' := [(1, .int 0), (0, .ref (b 0))]) hx hb dX7_keep_6 rfl hl (by decide) rfl (fun ls hl => ?_)
  refine r_loop (σ := Array Slot × Nat) (fun r uL H1 l1 => uL.2 + r = 56 ∧ lv_has uL.1 2 [(1, .int (nI uL.2)), (0, .ref (b 0))] ∧ Wd G s (ModW G b (iterN (fun k h => up2 h 4 k (h 1 k)) uL.2 (thr u)) ++ Y) H1 l1) (fun uL => F0 m 7 uL.1 []) ?_ ?_ (56) (ls, 0) _ _ ⟨Nat.zero_add _, lv_sub hl [0, 1] rfl, hW⟩
  · skip
    intro uL H locs hI
    obtain ⟨ls, i⟩ := uL
    obtain ⟨hu, hl, hW⟩ := hI
    dsimp only at hu hl hW ⊢
    have hu : i = 56 := hu
    subst hu
    refine lv_iload_n hx hb dX7_keep_7 rfl (lv_at hl 0 rfl) ?_
    refine lv_bipush (v := 56) hx hb dX7_keep_8 (by decide) ?_
    refine lv_icmp_ge (tgt := 31) hx hb dX7_keep_10 (by decide) (fun c_10 => ?_) (fun c_10 => ?_)
    · skip
      refine lv_aload_n hx hb dX7_keep_31 rfl (lv_at hl 1 rfl) ?_
      refine lv_iconst (v := 1) hx hb dX7_keep_32 (by decide) ?_
      refine pt_Mod_0_6 M hW kw_537 (Or.inr rfl) dX7_keep_33 (fun H locs hW => ?_)
      refine lv_aload_n hx hb dX7_keep_36 rfl (lv_at hl 1 rfl) ?_
      refine gt_Mod_0_1 M hW kw_392 dX7_keep_37 ?_
      refine lv_bipush (v := 17) hx hb dX7_keep_40 (by decide) ?_
      refine al_Mod_1 M hW 17 rfl (by decide) (x := (iterN (fun k h => up2 h 4 k (h 1 k)) 56 (thr u)) 1 17) (up2_d (by decide)) dX7_keep_42 ?_
      exact r_reti M hW (by rw [sX7_keep]) ⟨by rw [rX7_keep], rfl⟩ (Nat.zero_le _) (Nat.zero_le _) dX7_keep_43
    · skip
      exact absurd (nI_le (Nat.le_refl 56) (by decide)) c_10
  · skip
    intro n ih uL H locs hI
    obtain ⟨ls, i⟩ := uL
    obtain ⟨hu, hl, hW⟩ := hI
    dsimp only at hu hl hW ⊢
    have hlt : i < 56 := by omega
    refine lv_iload_n hx hb dX7_keep_7 rfl (lv_at hl 0 rfl) ?_
    refine lv_bipush (v := 56) hx hb dX7_keep_8 (by decide) ?_
    refine lv_icmp_ge (tgt := 31) hx hb dX7_keep_10 (by decide) (fun c_10_2 => ?_) (fun c_10_2 => ?_)
    · skip
      exact absurd c_10_2 (nI_ge hlt (by decide))
    · skip
      refine lv_aload_n hx hb dX7_keep_13 rfl (lv_at hl 1 rfl) ?_
      refine gt_Mod_0_5 M hW kw_395 dX7_keep_14 ?_
      refine lv_iload_n hx hb dX7_keep_17 rfl (lv_at hl 0 rfl) ?_
      refine lv_aload_n hx hb dX7_keep_18 rfl (lv_at hl 1 rfl) ?_
      refine gt_Mod_0_1 M hW kw_392 dX7_keep_19 ?_
      refine lv_iload_n hx hb dX7_keep_22 rfl (lv_at hl 0 rfl) ?_
      refine al_Mod_1 M hW i rfl (by omega) (x := (iterN (fun k h => up2 h 4 k (h 1 k)) i (thr u)) 1 i) rfl dX7_keep_23 ?_
      refine as_Mod_4 M hW i rfl (by omega) dX7_keep_24 (fun H locs hW => ?_)
      refine lv_iinc (v := nI (i + 1)) (lv' := [(1, .int (nI (i + 1))), (0, .ref (b 0))]) hx hb dX7_keep_25 hl (k := 0) rfl (nI_1 i) (by decide) rfl (fun ls hl => ?_)
      refine lv_goto (tgt := 7) hx hb dX7_keep_28 (by decide) ?_
      exact ih (ls, i + 1) _ _ ⟨by dsimp only; omega, lv_sub hl [0, 1] rfl, (by dsimp only; rw [iterN_succ]; exact hW)⟩

def rX7_restore (u : Nat → Nat → Int32) : Int32 := if ((thr u) 0 6) = 0 then (-105) else (iterN (fun k h => up2 h 1 k (h 4 k)) 56 (sX7_records (thr u))) 1 17
def sX7_restore (u : Nat → Nat → Int32) : Nat → Nat → Int32 := if ((thr u) 0 6) = 0 then thr u else iterN (fun k h => up2 h 1 k (h 4 k)) 56 (sX7_records (thr u))
set_option maxHeartbeats 4000000 in
set_option maxRecDepth 100000 in
/-- X7.restore -/
theorem c_X7_restore (l : Launch) (G : Gp) (b : Nat → Nat) (u : Nat → Nat → Int32) (Y : va_W) (hn : MSz u) : Cn l G yX7_restore cX7_restore 2 (some .int) 1 [.ref (b 0)] (ModW G b u ++ Y) (some (.int (rX7_restore u))) (ModW G b (sX7_restore u) ++ Y) := by
  refine CnE.of (by decide) (Nat.le_of_ble_eq_true rfl) ?_
  intro p e s m below meth c ls M hnm hl hW
  have hx := M.1
  have hb := M.2.1
  have hl : lv_has ls 2 [(0, .ref (b 0))] := hl
  refine lv_aload_n hx hb dX7_restore_0 rfl (lv_at hl 0 rfl) ?_
  refine lv_iconst (v := 0) hx hb dX7_restore_1 (by decide) ?_
  refine pt_Mod_0_0 M hW kw_398 dX7_restore_2 (fun H locs hW => ?_)
  have hW : Wd G s (ModW G b (thr u) ++ Y) _ _ := hW
  refine lv_aload_n hx hb dX7_restore_5 rfl (lv_at hl 0 rfl) ?_
  refine gt_Mod_0_6 M hW kw_537 (x := (thr u) 0 6) rfl dX7_restore_6 ?_
  refine lv_if_ne (tgt := 15) hx hb dX7_restore_9 (by decide) (fun c_9 => ?_) (fun c_9 => ?_)
  · skip
    refine lv_aload_n hx hb dX7_restore_15 rfl (lv_at hl 0 rfl) ?_
    refine r_callVv M hW (c_X7_records l G b (thr u)  (Y) hn) rfl kw_456 kw_457 kw_458 kw_412 kw_402 pl_X7_records 0 rfl rfl ⟨by decide, by decide⟩ ⟨Nat.zero_le _, Nat.zero_le _⟩ hl.1 rfl (Nat.le_of_ble_eq_true rfl) dX7_restore_16 (fun H locs hW => ?_)
    refine lv_iconst (v := 0) hx hb dX7_restore_19 (by decide) ?_
    refine lv_istore_n (lv' := [(1, .int 0), (0, .ref (b 0))]) hx hb dX7_restore_20 rfl hl (by decide) rfl (fun ls hl => ?_)
    refine r_loop (σ := Array Slot × Nat) (fun r uL H1 l1 => uL.2 + r = 56 ∧ lv_has uL.1 2 [(1, .int (nI uL.2)), (0, .ref (b 0))] ∧ Wd G s (ModW G b (iterN (fun k h => up2 h 1 k (h 4 k)) uL.2 (sX7_records (thr u))) ++ Y) H1 l1) (fun uL => F0 m 21 uL.1 []) ?_ ?_ (56) (ls, 0) _ _ ⟨Nat.zero_add _, lv_sub hl [0, 1] rfl, hW⟩
    · skip
      intro uL H locs hI
      obtain ⟨ls, i⟩ := uL
      obtain ⟨hu, hl, hW⟩ := hI
      dsimp only at hu hl hW ⊢
      have hu : i = 56 := hu
      subst hu
      refine lv_iload_n hx hb dX7_restore_21 rfl (lv_at hl 0 rfl) ?_
      refine lv_bipush (v := 56) hx hb dX7_restore_22 (by decide) ?_
      refine lv_icmp_ge (tgt := 45) hx hb dX7_restore_24 (by decide) (fun c_24 => ?_) (fun c_24 => ?_)
      · skip
        refine lv_aload_n hx hb dX7_restore_45 rfl (lv_at hl 1 rfl) ?_
        refine gt_Mod_0_1 M hW kw_392 dX7_restore_46 ?_
        refine lv_bipush (v := 17) hx hb dX7_restore_49 (by decide) ?_
        refine al_Mod_1 M hW 17 rfl (by decide) (x := (iterN (fun k h => up2 h 1 k (h 4 k)) 56 (sX7_records (thr u))) 1 17) rfl dX7_restore_51 ?_
        exact r_reti M hW (by rw [sX7_restore, if_neg c_9]) ⟨by rw [rX7_restore, if_neg c_9], rfl⟩ (Nat.zero_le _) (Nat.zero_le _) dX7_restore_52
      · skip
        exact absurd (nI_le (Nat.le_refl 56) (by decide)) c_24
    · skip
      intro n ih uL H locs hI
      obtain ⟨ls, i⟩ := uL
      obtain ⟨hu, hl, hW⟩ := hI
      dsimp only at hu hl hW ⊢
      have hlt : i < 56 := by omega
      refine lv_iload_n hx hb dX7_restore_21 rfl (lv_at hl 0 rfl) ?_
      refine lv_bipush (v := 56) hx hb dX7_restore_22 (by decide) ?_
      refine lv_icmp_ge (tgt := 45) hx hb dX7_restore_24 (by decide) (fun c_24_2 => ?_) (fun c_24_2 => ?_)
      · skip
        exact absurd c_24_2 (nI_ge hlt (by decide))
      · skip
        refine lv_aload_n hx hb dX7_restore_27 rfl (lv_at hl 1 rfl) ?_
        refine gt_Mod_0_1 M hW kw_392 dX7_restore_28 ?_
        refine lv_iload_n hx hb dX7_restore_31 rfl (lv_at hl 0 rfl) ?_
        refine lv_aload_n hx hb dX7_restore_32 rfl (lv_at hl 1 rfl) ?_
        refine gt_Mod_0_5 M hW kw_395 dX7_restore_33 ?_
        refine lv_iload_n hx hb dX7_restore_36 rfl (lv_at hl 0 rfl) ?_
        refine al_Mod_4 M hW i rfl (by omega) (x := (iterN (fun k h => up2 h 1 k (h 4 k)) i (sX7_records (thr u))) 4 i) rfl dX7_restore_37 ?_
        refine as_Mod_1 M hW i rfl (by omega) dX7_restore_38 (fun H locs hW => ?_)
        refine lv_iinc (v := nI (i + 1)) (lv' := [(1, .int (nI (i + 1))), (0, .ref (b 0))]) hx hb dX7_restore_39 hl (k := 0) rfl (nI_1 i) (by decide) rfl (fun ls hl => ?_)
        refine lv_goto (tgt := 21) hx hb dX7_restore_42 (by decide) ?_
        exact ih (ls, i + 1) _ _ ⟨by dsimp only; omega, lv_sub hl [0, 1] rfl, (by dsimp only; rw [iterN_succ]; exact hW)⟩
  · skip
    refine lv_bipush (v := (-105)) hx hb dX7_restore_12 (by decide) ?_
    exact r_reti M hW (by rw [sX7_restore, if_pos c_9]) ⟨by rw [rX7_restore, if_pos c_9], rfl⟩ (Nat.zero_le _) (Nat.zero_le _) dX7_restore_14

def rX7_bucket (u : Nat → Nat → Int32) (x : Int32) : Int32 := if (rX7_in x 0 11) = 0 then (-101) else (thr u) 1 (18 + x.toNatClampNeg)
def sX7_bucket (u : Nat → Nat → Int32) : Nat → Nat → Int32 := thr u
set_option maxHeartbeats 4000000 in
set_option maxRecDepth 100000 in
/-- X7.bucket -/
theorem c_X7_bucket (l : Launch) (G : Gp) (b : Nat → Nat) (u : Nat → Nat → Int32) (x : Int32) (Y : va_W) : Cn l G yX7_bucket cX7_bucket 2 (some .int) 1 [.ref (b 0), .int x] (ModW G b u ++ Y) (some (.int (rX7_bucket u x))) (ModW G b (sX7_bucket u) ++ Y) := by
  refine CnE.of (by decide) (Nat.le_of_ble_eq_true rfl) ?_
  intro p e s m below meth c ls M hnm hl hW
  have hx := M.1
  have hb := M.2.1
  have hl : lv_has ls 2 [(0, .ref (b 0)), (1, .int x)] := hl
  refine lv_aload_n hx hb dX7_bucket_0 rfl (lv_at hl 0 rfl) ?_
  refine lv_iconst (v := 0) hx hb dX7_bucket_1 (by decide) ?_
  refine pt_Mod_0_0 M hW kw_398 dX7_bucket_2 (fun H locs hW => ?_)
  have hW : Wd G s (ModW G b (thr u) ++ Y) _ _ := hW
  refine lv_iload_n hx hb dX7_bucket_5 rfl (lv_at hl 1 rfl) ?_
  refine lv_iconst (v := 0) hx hb dX7_bucket_6 (by decide) ?_
  refine lv_bipush (v := 11) hx hb dX7_bucket_7 (by decide) ?_
  refine r_callSi M hW (as := [.int x, .int 0, .int 11]) (c_X7_in l G x 0 11 (ModW G b (thr u) ++ Y)) rfl kw_441 kw_442 kw_412 kw_401 pl_X7_in ⟨by decide, by decide⟩ ⟨Nat.zero_le _, Nat.zero_le _⟩ hl.1 rfl (Nat.le_of_ble_eq_true rfl) dX7_bucket_9 (fun H locs hW => ?_)
  refine lv_if_eq (tgt := 27) hx hb dX7_bucket_12 (by decide) (fun c_12 => ?_) (fun c_12 => ?_)
  · skip
    refine lv_bipush (v := (-101)) hx hb dX7_bucket_27 (by decide) ?_
    exact r_reti M hW (by rw [sX7_bucket]) ⟨by rw [rX7_bucket, if_pos c_12], rfl⟩ (Nat.zero_le _) (Nat.zero_le _) dX7_bucket_29
  · skip
    have hk := iw_c (n := 11) rfl (by decide) c_12
    refine lv_aload_n hx hb dX7_bucket_15 rfl (lv_at hl 0 rfl) ?_
    refine gt_Mod_0_1 M hW kw_392 dX7_bucket_16 ?_
    refine lv_bipush (v := 18) hx hb dX7_bucket_19 (by decide) ?_
    refine lv_iload_n hx hb dX7_bucket_21 rfl (lv_at hl 1 rfl) ?_
    refine lv_iadd hx hb dX7_bucket_22 ?_
    refine r_top (y := nI (18 + x.toNatClampNeg)) (nI_addl 18 hk.1) ?_
    refine al_Mod_1 M hW (18 + x.toNatClampNeg) rfl (by omega) (x := (thr u) 1 (18 + x.toNatClampNeg)) rfl dX7_bucket_23 ?_
    refine lv_goto (tgt := 29) hx hb dX7_bucket_24 (by decide) ?_
    exact r_reti M hW (by rw [sX7_bucket]) ⟨by rw [rX7_bucket, if_neg c_12], rfl⟩ (Nat.zero_le _) (Nat.zero_le _) dX7_bucket_29

def rX7_sensor (u : Nat → Nat → Int32) (x : Int32) (y : Int32) : Int32 := if (rX7_in x 0 2) = 0 then (-101) else if y = 0 then (if x = 0 then (thr u) 1 11 else if x = 1 then (thr u) 1 5 else (thr u) 1 13) else if y = 1 then (thr u) 1 (30 + x.toNatClampNeg) else if y = 2 then 3 - x else if y = 3 then (thr u) 1 (33 + x.toNatClampNeg) else (-102)
def sX7_sensor (u : Nat → Nat → Int32) : Nat → Nat → Int32 := thr u
set_option maxHeartbeats 4000000 in
set_option maxRecDepth 100000 in
/-- X7.sensor -/
theorem c_X7_sensor (l : Launch) (G : Gp) (b : Nat → Nat) (u : Nat → Nat → Int32) (x : Int32) (y : Int32) (Y : va_W) : Cn l G yX7_sensor cX7_sensor 3 (some .int) 1 [.ref (b 0), .int x, .int y] (ModW G b u ++ Y) (some (.int (rX7_sensor u x y))) (ModW G b (sX7_sensor u) ++ Y) := by
  refine CnE.of (by decide) (Nat.le_of_ble_eq_true rfl) ?_
  intro p e s m below meth c ls M hnm hl hW
  have hx := M.1
  have hb := M.2.1
  have hl : lv_has ls 3 [(0, .ref (b 0)), (1, .int x), (2, .int y)] := hl
  refine lv_aload_n hx hb dX7_sensor_0 rfl (lv_at hl 0 rfl) ?_
  refine lv_iconst (v := 0) hx hb dX7_sensor_1 (by decide) ?_
  refine pt_Mod_0_0 M hW kw_398 dX7_sensor_2 (fun H locs hW => ?_)
  have hW : Wd G s (ModW G b (thr u) ++ Y) _ _ := hW
  refine lv_iload_n hx hb dX7_sensor_5 rfl (lv_at hl 1 rfl) ?_
  refine lv_iconst (v := 0) hx hb dX7_sensor_6 (by decide) ?_
  refine lv_iconst (v := 2) hx hb dX7_sensor_7 (by decide) ?_
  refine r_callSi M hW (as := [.int x, .int 0, .int 2]) (c_X7_in l G x 0 2 (ModW G b (thr u) ++ Y)) rfl kw_441 kw_442 kw_412 kw_401 pl_X7_in ⟨by decide, by decide⟩ ⟨Nat.zero_le _, Nat.zero_le _⟩ hl.1 rfl (Nat.le_of_ble_eq_true rfl) dX7_sensor_8 (fun H locs hW => ?_)
  refine lv_if_ne (tgt := 17) hx hb dX7_sensor_11 (by decide) (fun c_11 => ?_) (fun c_11 => ?_)
  · skip
    have hk := iw_c (n := 2) rfl (by decide) c_11
    refine lv_iload_n hx hb dX7_sensor_17 rfl (lv_at hl 2 rfl) ?_
    by_cases c_18_0 : y = 0
    · skip
      refine lv_tableIn (off := 30) (tgt := 48) hx hb dX7_sensor_18 (by rw [c_18_0]; decide) (by rw [c_18_0]; decide) (by rw [c_18_0]; rfl) (by decide) ?_
      refine lv_iload_n hx hb dX7_sensor_48 rfl (lv_at hl 1 rfl) ?_
      refine lv_if_ne (tgt := 62) hx hb dX7_sensor_49 (by decide) (fun c_49 => ?_) (fun c_49 => ?_)
      · skip
        refine lv_iload_n hx hb dX7_sensor_62 rfl (lv_at hl 1 rfl) ?_
        refine lv_iconst (v := 1) hx hb dX7_sensor_63 (by decide) ?_
        refine lv_icmp_ne (tgt := 76) hx hb dX7_sensor_64 (by decide) (fun c_64 => ?_) (fun c_64 => ?_)
        · skip
          refine lv_aload_n hx hb dX7_sensor_76 rfl (lv_at hl 0 rfl) ?_
          refine gt_Mod_0_1 M hW kw_392 dX7_sensor_77 ?_
          refine lv_bipush (v := 13) hx hb dX7_sensor_80 (by decide) ?_
          refine al_Mod_1 M hW 13 rfl (by decide) (x := (thr u) 1 13) rfl dX7_sensor_82 ?_
          exact r_reti M hW (by rw [sX7_sensor]) ⟨by rw [rX7_sensor, if_neg c_11, if_pos c_18_0, if_neg c_49, if_neg c_64], rfl⟩ (Nat.zero_le _) (Nat.zero_le _) dX7_sensor_83
        · skip
          refine lv_aload_n hx hb dX7_sensor_67 rfl (lv_at hl 0 rfl) ?_
          refine gt_Mod_0_1 M hW kw_392 dX7_sensor_68 ?_
          refine lv_iconst (v := 5) hx hb dX7_sensor_71 (by decide) ?_
          refine al_Mod_1 M hW 5 rfl (by decide) (x := (thr u) 1 5) rfl dX7_sensor_72 ?_
          refine lv_goto (tgt := 83) hx hb dX7_sensor_73 (by decide) ?_
          exact r_reti M hW (by rw [sX7_sensor]) ⟨by rw [rX7_sensor, if_neg c_11, if_pos c_18_0, if_neg c_49, if_pos c_64], rfl⟩ (Nat.zero_le _) (Nat.zero_le _) dX7_sensor_83
      · skip
        refine lv_aload_n hx hb dX7_sensor_52 rfl (lv_at hl 0 rfl) ?_
        refine gt_Mod_0_1 M hW kw_392 dX7_sensor_53 ?_
        refine lv_bipush (v := 11) hx hb dX7_sensor_56 (by decide) ?_
        refine al_Mod_1 M hW 11 rfl (by decide) (x := (thr u) 1 11) rfl dX7_sensor_58 ?_
        refine lv_goto (tgt := 83) hx hb dX7_sensor_59 (by decide) ?_
        exact r_reti M hW (by rw [sX7_sensor]) ⟨by rw [rX7_sensor, if_neg c_11, if_pos c_18_0, if_pos c_49], rfl⟩ (Nat.zero_le _) (Nat.zero_le _) dX7_sensor_83
    · skip
      by_cases c_18_1 : y = 1
      · skip
        refine lv_tableIn (off := 66) (tgt := 84) hx hb dX7_sensor_18 (by rw [c_18_1]; decide) (by rw [c_18_1]; decide) (by rw [c_18_1]; rfl) (by decide) ?_
        refine lv_aload_n hx hb dX7_sensor_84 rfl (lv_at hl 0 rfl) ?_
        refine gt_Mod_0_1 M hW kw_392 dX7_sensor_85 ?_
        refine lv_bipush (v := 30) hx hb dX7_sensor_88 (by decide) ?_
        refine lv_iload_n hx hb dX7_sensor_90 rfl (lv_at hl 1 rfl) ?_
        refine lv_iadd hx hb dX7_sensor_91 ?_
        refine r_top (y := nI (30 + x.toNatClampNeg)) (nI_addl 30 hk.1) ?_
        refine al_Mod_1 M hW (30 + x.toNatClampNeg) rfl (by omega) (x := (thr u) 1 (30 + x.toNatClampNeg)) rfl dX7_sensor_92 ?_
        exact r_reti M hW (by rw [sX7_sensor]) ⟨by rw [rX7_sensor, if_neg c_11, if_neg c_18_0, if_pos c_18_1], rfl⟩ (Nat.zero_le _) (Nat.zero_le _) dX7_sensor_93
      · skip
        by_cases c_18_2 : y = 2
        · skip
          refine lv_tableIn (off := 76) (tgt := 94) hx hb dX7_sensor_18 (by rw [c_18_2]; decide) (by rw [c_18_2]; decide) (by rw [c_18_2]; rfl) (by decide) ?_
          refine lv_iconst (v := 3) hx hb dX7_sensor_94 (by decide) ?_
          refine lv_iload_n hx hb dX7_sensor_95 rfl (lv_at hl 1 rfl) ?_
          refine lv_isub hx hb dX7_sensor_96 ?_
          exact r_reti M hW (by rw [sX7_sensor]) ⟨by rw [rX7_sensor, if_neg c_11, if_neg c_18_0, if_neg c_18_1, if_pos c_18_2], rfl⟩ (Nat.zero_le _) (Nat.zero_le _) dX7_sensor_97
        · skip
          by_cases c_18_3 : y = 3
          · skip
            refine lv_tableIn (off := 80) (tgt := 98) hx hb dX7_sensor_18 (by rw [c_18_3]; decide) (by rw [c_18_3]; decide) (by rw [c_18_3]; rfl) (by decide) ?_
            refine lv_aload_n hx hb dX7_sensor_98 rfl (lv_at hl 0 rfl) ?_
            refine gt_Mod_0_1 M hW kw_392 dX7_sensor_99 ?_
            refine lv_bipush (v := 33) hx hb dX7_sensor_102 (by decide) ?_
            refine lv_iload_n hx hb dX7_sensor_104 rfl (lv_at hl 1 rfl) ?_
            refine lv_iadd hx hb dX7_sensor_105 ?_
            refine r_top (y := nI (33 + x.toNatClampNeg)) (nI_addl 33 hk.1) ?_
            refine al_Mod_1 M hW (33 + x.toNatClampNeg) rfl (by omega) (x := (thr u) 1 (33 + x.toNatClampNeg)) rfl dX7_sensor_106 ?_
            exact r_reti M hW (by rw [sX7_sensor]) ⟨by rw [rX7_sensor, if_neg c_11, if_neg c_18_0, if_neg c_18_1, if_neg c_18_2, if_pos c_18_3], rfl⟩ (Nat.zero_le _) (Nat.zero_le _) dX7_sensor_107
          · skip
            refine lv_tableOut (tgt := 108) hx hb dX7_sensor_18 (tbl_out (0) (3) (fun k h1 h2 => ?_)) (by decide) ?_
            · have h3 : k = 0 ∨ k = 1 ∨ k = 2 ∨ k = 3 := by omega
              rcases h3 with rfl | rfl | rfl | rfl
              · exact c_18_0
              · exact c_18_1
              · exact c_18_2
              · exact c_18_3
            refine lv_bipush (v := (-102)) hx hb dX7_sensor_108 (by decide) ?_
            exact r_reti M hW (by rw [sX7_sensor]) ⟨by rw [rX7_sensor, if_neg c_11, if_neg c_18_0, if_neg c_18_1, if_neg c_18_2, if_neg c_18_3], rfl⟩ (Nat.zero_le _) (Nat.zero_le _) dX7_sensor_110
  · skip
    refine lv_bipush (v := (-101)) hx hb dX7_sensor_14 (by decide) ?_
    exact r_reti M hW (by rw [sX7_sensor]) ⟨by rw [rX7_sensor, if_pos c_11], rfl⟩ (Nat.zero_le _) (Nat.zero_le _) dX7_sensor_16

def rX7_trip (u : Nat → Nat → Int32) (x : Int32) (y : Int32) : Int32 := if x < 0 then (-102) else if (rX7_in y 0 2) = 0 then (-102) else if ((thr u) 1 36) ≤ x then (-105) else (thr u) 1 (37 + 3 * x.toNatClampNeg + y.toNatClampNeg)
def sX7_trip (u : Nat → Nat → Int32) : Nat → Nat → Int32 := thr u
set_option maxHeartbeats 4000000 in
set_option maxRecDepth 100000 in
/-- X7.trip -/
theorem c_X7_trip (l : Launch) (G : Gp) (b : Nat → Nat) (u : Nat → Nat → Int32) (x : Int32) (y : Int32) (Y : va_W) (hg : MLog u) : Cn l G yX7_trip cX7_trip 3 (some .int) 1 [.ref (b 0), .int x, .int y] (ModW G b u ++ Y) (some (.int (rX7_trip u x y))) (ModW G b (sX7_trip u) ++ Y) := by
  refine CnE.of (by decide) (Nat.le_of_ble_eq_true rfl) ?_
  intro p e s m below meth c ls M hnm hl hW
  have hx := M.1
  have hb := M.2.1
  have hl : lv_has ls 3 [(0, .ref (b 0)), (1, .int x), (2, .int y)] := hl
  refine lv_aload_n hx hb dX7_trip_0 rfl (lv_at hl 0 rfl) ?_
  refine lv_iconst (v := 0) hx hb dX7_trip_1 (by decide) ?_
  refine pt_Mod_0_0 M hW kw_398 dX7_trip_2 (fun H locs hW => ?_)
  have hW : Wd G s (ModW G b (thr u) ++ Y) _ _ := hW
  refine lv_iload_n hx hb dX7_trip_5 rfl (lv_at hl 1 rfl) ?_
  refine lv_if_lt (tgt := 18) hx hb dX7_trip_6 (by decide) (fun c_6 => ?_) (fun c_6 => ?_)
  · skip
    refine lv_bipush (v := (-102)) hx hb dX7_trip_18 (by decide) ?_
    exact r_reti M hW (by rw [sX7_trip]) ⟨by rw [rX7_trip, if_pos c_6], rfl⟩ (Nat.zero_le _) (Nat.zero_le _) dX7_trip_20
  · skip
    refine lv_iload_n hx hb dX7_trip_9 rfl (lv_at hl 2 rfl) ?_
    refine lv_iconst (v := 0) hx hb dX7_trip_10 (by decide) ?_
    refine lv_iconst (v := 2) hx hb dX7_trip_11 (by decide) ?_
    refine r_callSi M hW (as := [.int y, .int 0, .int 2]) (c_X7_in l G y 0 2 (ModW G b (thr u) ++ Y)) rfl kw_441 kw_442 kw_412 kw_401 pl_X7_in ⟨by decide, by decide⟩ ⟨Nat.zero_le _, Nat.zero_le _⟩ hl.1 rfl (Nat.le_of_ble_eq_true rfl) dX7_trip_12 (fun H locs hW => ?_)
    refine lv_if_ne (tgt := 21) hx hb dX7_trip_15 (by decide) (fun c_15 => ?_) (fun c_15 => ?_)
    · skip
      have hk2 := iw_c (n := 2) rfl (by decide) c_15
      refine lv_iload_n hx hb dX7_trip_21 rfl (lv_at hl 1 rfl) ?_
      refine lv_aload_n hx hb dX7_trip_22 rfl (lv_at hl 0 rfl) ?_
      refine gt_Mod_0_1 M hW kw_392 dX7_trip_23 ?_
      refine lv_bipush (v := 36) hx hb dX7_trip_26 (by decide) ?_
      refine al_Mod_1 M hW 36 rfl (by decide) (x := (thr u) 1 36) rfl dX7_trip_28 ?_
      refine lv_icmp_ge (tgt := 48) hx hb dX7_trip_29 (by decide) (fun c_29 => ?_) (fun c_29 => ?_)
      · skip
        refine lv_bipush (v := (-105)) hx hb dX7_trip_48 (by decide) ?_
        exact r_reti M hW (by rw [sX7_trip]) ⟨by rw [rX7_trip, if_neg c_6, if_neg c_15, if_pos c_29], rfl⟩ (Nat.zero_le _) (Nat.zero_le _) dX7_trip_50
      · skip
        have hk := hg.ix c_6 c_29
        refine lv_aload_n hx hb dX7_trip_32 rfl (lv_at hl 0 rfl) ?_
        refine gt_Mod_0_1 M hW kw_392 dX7_trip_33 ?_
        refine lv_bipush (v := 37) hx hb dX7_trip_36 (by decide) ?_
        refine lv_iconst (v := 3) hx hb dX7_trip_38 (by decide) ?_
        refine lv_iload_n hx hb dX7_trip_39 rfl (lv_at hl 1 rfl) ?_
        refine lv_imul hx hb dX7_trip_40 ?_
        refine r_top (y := nI (3 * x.toNatClampNeg)) (by rw [hk.1, nI_clamp (by omega)]; exact pk_mul 3 _) ?_
        refine lv_iadd hx hb dX7_trip_41 ?_
        refine r_top (y := nI (37 + 3 * x.toNatClampNeg)) (nI_add 37 _) ?_
        refine lv_iload_n hx hb dX7_trip_42 rfl (lv_at hl 2 rfl) ?_
        refine lv_iadd hx hb dX7_trip_43 ?_
        refine r_top (y := nI (37 + 3 * x.toNatClampNeg + y.toNatClampNeg)) (by rw [hk2.1, nI_clamp (by omega)]; exact nI_add _ _) ?_
        refine al_Mod_1 M hW (37 + 3 * x.toNatClampNeg + y.toNatClampNeg) rfl (by omega) (x := (thr u) 1 (37 + 3 * x.toNatClampNeg + y.toNatClampNeg)) rfl dX7_trip_44 ?_
        refine lv_goto (tgt := 50) hx hb dX7_trip_45 (by decide) ?_
        exact r_reti M hW (by rw [sX7_trip]) ⟨by rw [rX7_trip, if_neg c_6, if_neg c_15, if_neg c_29], rfl⟩ (Nat.zero_le _) (Nat.zero_le _) dX7_trip_50
    · skip
      refine lv_bipush (v := (-102)) hx hb dX7_trip_18 (by decide) ?_
      exact r_reti M hW (by rw [sX7_trip]) ⟨by rw [rX7_trip, if_neg c_6, if_pos c_15], rfl⟩ (Nat.zero_le _) (Nat.zero_le _) dX7_trip_20

def rX7_count (u : Nat → Nat → Int32) (x : Int32) : Int32 := if x = 0 then (thr u) 1 5 else if x = 1 then rX7_inBuckets (thr u) else if x = 2 then (if (rX7_in x 2 6) = 0 then (if (rX7_in x 8 12) = 0 then (if (rX7_in x 20 24) = 0 then (-102) else (thr u) 1 (x.toNatClampNeg - 20)) else (thr u) 1 (11 + x.toNatClampNeg - 8)) else (thr u) 1 (6 + x.toNatClampNeg - 2)) else if x = 3 then (if (rX7_in x 2 6) = 0 then (if (rX7_in x 8 12) = 0 then (if (rX7_in x 20 24) = 0 then (-102) else (thr u) 1 (x.toNatClampNeg - 20)) else (thr u) 1 (11 + x.toNatClampNeg - 8)) else (thr u) 1 (6 + x.toNatClampNeg - 2)) else if x = 4 then (if (rX7_in x 2 6) = 0 then (if (rX7_in x 8 12) = 0 then (if (rX7_in x 20 24) = 0 then (-102) else (thr u) 1 (x.toNatClampNeg - 20)) else (thr u) 1 (11 + x.toNatClampNeg - 8)) else (thr u) 1 (6 + x.toNatClampNeg - 2)) else if x = 5 then (if (rX7_in x 2 6) = 0 then (if (rX7_in x 8 12) = 0 then (if (rX7_in x 20 24) = 0 then (-102) else (thr u) 1 (x.toNatClampNeg - 20)) else (thr u) 1 (11 + x.toNatClampNeg - 8)) else (thr u) 1 (6 + x.toNatClampNeg - 2)) else if x = 6 then (if (rX7_in x 2 6) = 0 then (if (rX7_in x 8 12) = 0 then (if (rX7_in x 20 24) = 0 then (-102) else (thr u) 1 (x.toNatClampNeg - 20)) else (thr u) 1 (11 + x.toNatClampNeg - 8)) else (thr u) 1 (6 + x.toNatClampNeg - 2)) else if x = 7 then rX7_load (thr u) else if x = 8 then (if (rX7_in x 2 6) = 0 then (if (rX7_in x 8 12) = 0 then (if (rX7_in x 20 24) = 0 then (-102) else (thr u) 1 (x.toNatClampNeg - 20)) else (thr u) 1 (11 + x.toNatClampNeg - 8)) else (thr u) 1 (6 + x.toNatClampNeg - 2)) else if x = 9 then (if (rX7_in x 2 6) = 0 then (if (rX7_in x 8 12) = 0 then (if (rX7_in x 20 24) = 0 then (-102) else (thr u) 1 (x.toNatClampNeg - 20)) else (thr u) 1 (11 + x.toNatClampNeg - 8)) else (thr u) 1 (6 + x.toNatClampNeg - 2)) else if x = 10 then (if (rX7_in x 2 6) = 0 then (if (rX7_in x 8 12) = 0 then (if (rX7_in x 20 24) = 0 then (-102) else (thr u) 1 (x.toNatClampNeg - 20)) else (thr u) 1 (11 + x.toNatClampNeg - 8)) else (thr u) 1 (6 + x.toNatClampNeg - 2)) else if x = 11 then (if (rX7_in x 2 6) = 0 then (if (rX7_in x 8 12) = 0 then (if (rX7_in x 20 24) = 0 then (-102) else (thr u) 1 (x.toNatClampNeg - 20)) else (thr u) 1 (11 + x.toNatClampNeg - 8)) else (thr u) 1 (6 + x.toNatClampNeg - 2)) else if x = 12 then (if (rX7_in x 2 6) = 0 then (if (rX7_in x 8 12) = 0 then (if (rX7_in x 20 24) = 0 then (-102) else (thr u) 1 (x.toNatClampNeg - 20)) else (thr u) 1 (11 + x.toNatClampNeg - 8)) else (thr u) 1 (6 + x.toNatClampNeg - 2)) else if x = 13 then (if ((thr u) 1 16) = 0 then (-105) else ((thr u) 1 16) - 1) else if x = 14 then (thr u) 1 17 else if x = 15 then (thr u) 0 4 else if x = 16 then (thr u) 0 8 else if (rX7_in x 2 6) = 0 then (if (rX7_in x 8 12) = 0 then (if (rX7_in x 20 24) = 0 then (-102) else (thr u) 1 (x.toNatClampNeg - 20)) else (thr u) 1 (11 + x.toNatClampNeg - 8)) else (thr u) 1 (6 + x.toNatClampNeg - 2)
def sX7_count (u : Nat → Nat → Int32) : Nat → Nat → Int32 := thr u
set_option maxHeartbeats 4000000 in
set_option maxRecDepth 100000 in
/-- X7.count -/
theorem c_X7_count (l : Launch) (G : Gp) (b : Nat → Nat) (u : Nat → Nat → Int32) (x : Int32) (Y : va_W) : Cn l G yX7_count cX7_count 2 (some .int) 1 [.ref (b 0), .int x] (ModW G b u ++ Y) (some (.int (rX7_count u x))) (ModW G b (sX7_count u) ++ Y) := by
  refine CnE.of (by decide) (Nat.le_of_ble_eq_true rfl) ?_
  intro p e s m below meth c ls M hnm hl hW
  have hx := M.1
  have hb := M.2.1
  have hl : lv_has ls 2 [(0, .ref (b 0)), (1, .int x)] := hl
  refine lv_aload_n hx hb dX7_count_0 rfl (lv_at hl 0 rfl) ?_
  refine lv_iconst (v := 0) hx hb dX7_count_1 (by decide) ?_
  refine pt_Mod_0_0 M hW kw_398 dX7_count_2 (fun H locs hW => ?_)
  have hW : Wd G s (ModW G b (thr u) ++ Y) _ _ := hW
  refine lv_iload_n hx hb dX7_count_5 rfl (lv_at hl 1 rfl) ?_
  by_cases c_6_0 : x = 0
  · skip
    refine lv_tableIn (off := 82) (tgt := 88) hx hb dX7_count_6 (by rw [c_6_0]; decide) (by rw [c_6_0]; decide) (by rw [c_6_0]; rfl) (by decide) ?_
    refine lv_aload_n hx hb dX7_count_88 rfl (lv_at hl 0 rfl) ?_
    refine gt_Mod_0_1 M hW kw_392 dX7_count_89 ?_
    refine lv_iconst (v := 5) hx hb dX7_count_92 (by decide) ?_
    refine al_Mod_1 M hW 5 rfl (by decide) (x := (thr u) 1 5) rfl dX7_count_93 ?_
    exact r_reti M hW (by rw [sX7_count]) ⟨by rw [rX7_count, if_pos c_6_0], rfl⟩ (Nat.zero_le _) (Nat.zero_le _) dX7_count_94
  · skip
    by_cases c_6_1 : x = 1
    · skip
      refine lv_tableIn (off := 89) (tgt := 95) hx hb dX7_count_6 (by rw [c_6_1]; decide) (by rw [c_6_1]; decide) (by rw [c_6_1]; rfl) (by decide) ?_
      refine lv_aload_n hx hb dX7_count_95 rfl (lv_at hl 0 rfl) ?_
      refine r_callVi M hW (c_X7_inBuckets l G b (thr u)  (Y)) rfl kw_468 kw_469 kw_470 kw_412 kw_451 pl_X7_inBuckets 0 rfl rfl ⟨by decide, by decide⟩ ⟨Nat.zero_le _, Nat.zero_le _⟩ hl.1 rfl (Nat.le_of_ble_eq_true rfl) dX7_count_96 (fun H locs hW => ?_)
      exact r_reti M hW (by rw [sX7_count]) ⟨by rw [rX7_count, if_neg c_6_0, if_pos c_6_1], rfl⟩ (Nat.zero_le _) (Nat.zero_le _) dX7_count_99
    · skip
      by_cases c_6_2 : x = 2
      · skip
        refine lv_tableIn (off := 142) (tgt := 148) hx hb dX7_count_6 (by rw [c_6_2]; decide) (by rw [c_6_2]; decide) (by rw [c_6_2]; rfl) (by decide) ?_
        refine lv_iload_n hx hb dX7_count_148 rfl (lv_at hl 1 rfl) ?_
        refine lv_iconst (v := 2) hx hb dX7_count_149 (by decide) ?_
        refine lv_bipush (v := 6) hx hb dX7_count_150 (by decide) ?_
        refine r_callSi M hW (as := [.int x, .int 2, .int 6]) (c_X7_in l G x 2 6 (ModW G b (thr u) ++ Y)) rfl kw_441 kw_442 kw_412 kw_401 pl_X7_in ⟨by decide, by decide⟩ ⟨Nat.zero_le _, Nat.zero_le _⟩ hl.1 rfl (Nat.le_of_ble_eq_true rfl) dX7_count_152 (fun H locs hW => ?_)
        refine lv_if_eq (tgt := 172) hx hb dX7_count_155 (by decide) (fun c_155 => ?_) (fun c_155 => ?_)
        · skip
          refine lv_iload_n hx hb dX7_count_172 rfl (lv_at hl 1 rfl) ?_
          refine lv_bipush (v := 8) hx hb dX7_count_173 (by decide) ?_
          refine lv_bipush (v := 12) hx hb dX7_count_175 (by decide) ?_
          refine r_callSi M hW (as := [.int x, .int 8, .int 12]) (c_X7_in l G x 8 12 (ModW G b (thr u) ++ Y)) rfl kw_441 kw_442 kw_412 kw_401 pl_X7_in ⟨by decide, by decide⟩ ⟨Nat.zero_le _, Nat.zero_le _⟩ hl.1 rfl (Nat.le_of_ble_eq_true rfl) dX7_count_177 (fun H locs hW => ?_)
          refine lv_if_eq (tgt := 198) hx hb dX7_count_180 (by decide) (fun c_180 => ?_) (fun c_180 => ?_)
          · skip
            refine lv_iload_n hx hb dX7_count_198 rfl (lv_at hl 1 rfl) ?_
            refine lv_bipush (v := 20) hx hb dX7_count_199 (by decide) ?_
            refine lv_bipush (v := 24) hx hb dX7_count_201 (by decide) ?_
            refine r_callSi M hW (as := [.int x, .int 20, .int 24]) (c_X7_in l G x 20 24 (ModW G b (thr u) ++ Y)) rfl kw_441 kw_442 kw_412 kw_401 pl_X7_in ⟨by decide, by decide⟩ ⟨Nat.zero_le _, Nat.zero_le _⟩ hl.1 rfl (Nat.le_of_ble_eq_true rfl) dX7_count_203 (fun H locs hW => ?_)
            refine lv_if_eq (tgt := 221) hx hb dX7_count_206 (by decide) (fun c_206 => ?_) (fun c_206 => ?_)
            · skip
              refine lv_bipush (v := (-102)) hx hb dX7_count_221 (by decide) ?_
              exact r_reti M hW (by rw [sX7_count]) ⟨by rw [rX7_count, if_neg c_6_0, if_neg c_6_1, if_pos c_6_2, if_pos c_155, if_pos c_180, if_pos c_206], rfl⟩ (Nat.zero_le _) (Nat.zero_le _) dX7_count_223
            · skip
              have hk := in_c (a := 20) (b := 24) rfl rfl (by decide) (by decide) c_206
              refine lv_aload_n hx hb dX7_count_209 rfl (lv_at hl 0 rfl) ?_
              refine gt_Mod_0_1 M hW kw_392 dX7_count_210 ?_
              refine lv_iload_n hx hb dX7_count_213 rfl (lv_at hl 1 rfl) ?_
              refine lv_bipush (v := 20) hx hb dX7_count_214 (by decide) ?_
              refine lv_isub hx hb dX7_count_216 ?_
              refine r_top (y := nI (x.toNatClampNeg - 20)) (sub_of hk.1 hk.2.1) ?_
              refine al_Mod_1 M hW (x.toNatClampNeg - 20) rfl (by omega) (x := (thr u) 1 (x.toNatClampNeg - 20)) rfl dX7_count_217 ?_
              refine lv_goto (tgt := 223) hx hb dX7_count_218 (by decide) ?_
              exact r_reti M hW (by rw [sX7_count]) ⟨by rw [rX7_count, if_neg c_6_0, if_neg c_6_1, if_pos c_6_2, if_pos c_155, if_pos c_180, if_neg c_206], rfl⟩ (Nat.zero_le _) (Nat.zero_le _) dX7_count_223
          · skip
            have hk := in_c (a := 8) (b := 12) rfl rfl (by decide) (by decide) c_180
            refine lv_aload_n hx hb dX7_count_183 rfl (lv_at hl 0 rfl) ?_
            refine gt_Mod_0_1 M hW kw_392 dX7_count_184 ?_
            refine lv_bipush (v := 11) hx hb dX7_count_187 (by decide) ?_
            refine lv_iload_n hx hb dX7_count_189 rfl (lv_at hl 1 rfl) ?_
            refine lv_iadd hx hb dX7_count_190 ?_
            refine r_top (y := nI (11 + x.toNatClampNeg)) (nI_addl 11 hk.1) ?_
            refine lv_bipush (v := 8) hx hb dX7_count_191 (by decide) ?_
            refine lv_isub hx hb dX7_count_193 ?_
            refine r_top (y := nI (11 + x.toNatClampNeg - 8)) (pk_sub (a := 11 + x.toNatClampNeg) (b := 8) (by omega)) ?_
            refine al_Mod_1 M hW (11 + x.toNatClampNeg - 8) rfl (by omega) (x := (thr u) 1 (11 + x.toNatClampNeg - 8)) rfl dX7_count_194 ?_
            refine lv_goto (tgt := 223) hx hb dX7_count_195 (by decide) ?_
            exact r_reti M hW (by rw [sX7_count]) ⟨by rw [rX7_count, if_neg c_6_0, if_neg c_6_1, if_pos c_6_2, if_pos c_155, if_neg c_180], rfl⟩ (Nat.zero_le _) (Nat.zero_le _) dX7_count_223
        · skip
          have hk := in_c (a := 2) (b := 6) rfl rfl (by decide) (by decide) c_155
          refine lv_aload_n hx hb dX7_count_158 rfl (lv_at hl 0 rfl) ?_
          refine gt_Mod_0_1 M hW kw_392 dX7_count_159 ?_
          refine lv_bipush (v := 6) hx hb dX7_count_162 (by decide) ?_
          refine lv_iload_n hx hb dX7_count_164 rfl (lv_at hl 1 rfl) ?_
          refine lv_iadd hx hb dX7_count_165 ?_
          refine r_top (y := nI (6 + x.toNatClampNeg)) (nI_addl 6 hk.1) ?_
          refine lv_iconst (v := 2) hx hb dX7_count_166 (by decide) ?_
          refine lv_isub hx hb dX7_count_167 ?_
          refine r_top (y := nI (6 + x.toNatClampNeg - 2)) (pk_sub (a := 6 + x.toNatClampNeg) (b := 2) (by omega)) ?_
          refine al_Mod_1 M hW (6 + x.toNatClampNeg - 2) rfl (by omega) (x := (thr u) 1 (6 + x.toNatClampNeg - 2)) rfl dX7_count_168 ?_
          refine lv_goto (tgt := 223) hx hb dX7_count_169 (by decide) ?_
          exact r_reti M hW (by rw [sX7_count]) ⟨by rw [rX7_count, if_neg c_6_0, if_neg c_6_1, if_pos c_6_2, if_neg c_155], rfl⟩ (Nat.zero_le _) (Nat.zero_le _) dX7_count_223
      · skip
        by_cases c_6_3 : x = 3
        · skip
          refine lv_tableIn (off := 142) (tgt := 148) hx hb dX7_count_6 (by rw [c_6_3]; decide) (by rw [c_6_3]; decide) (by rw [c_6_3]; rfl) (by decide) ?_
          refine lv_iload_n hx hb dX7_count_148 rfl (lv_at hl 1 rfl) ?_
          refine lv_iconst (v := 2) hx hb dX7_count_149 (by decide) ?_
          refine lv_bipush (v := 6) hx hb dX7_count_150 (by decide) ?_
          refine r_callSi M hW (as := [.int x, .int 2, .int 6]) (c_X7_in l G x 2 6 (ModW G b (thr u) ++ Y)) rfl kw_441 kw_442 kw_412 kw_401 pl_X7_in ⟨by decide, by decide⟩ ⟨Nat.zero_le _, Nat.zero_le _⟩ hl.1 rfl (Nat.le_of_ble_eq_true rfl) dX7_count_152 (fun H locs hW => ?_)
          refine lv_if_eq (tgt := 172) hx hb dX7_count_155 (by decide) (fun c_155_2 => ?_) (fun c_155_2 => ?_)
          · skip
            refine lv_iload_n hx hb dX7_count_172 rfl (lv_at hl 1 rfl) ?_
            refine lv_bipush (v := 8) hx hb dX7_count_173 (by decide) ?_
            refine lv_bipush (v := 12) hx hb dX7_count_175 (by decide) ?_
            refine r_callSi M hW (as := [.int x, .int 8, .int 12]) (c_X7_in l G x 8 12 (ModW G b (thr u) ++ Y)) rfl kw_441 kw_442 kw_412 kw_401 pl_X7_in ⟨by decide, by decide⟩ ⟨Nat.zero_le _, Nat.zero_le _⟩ hl.1 rfl (Nat.le_of_ble_eq_true rfl) dX7_count_177 (fun H locs hW => ?_)
            refine lv_if_eq (tgt := 198) hx hb dX7_count_180 (by decide) (fun c_180_2 => ?_) (fun c_180_2 => ?_)
            · skip
              refine lv_iload_n hx hb dX7_count_198 rfl (lv_at hl 1 rfl) ?_
              refine lv_bipush (v := 20) hx hb dX7_count_199 (by decide) ?_
              refine lv_bipush (v := 24) hx hb dX7_count_201 (by decide) ?_
              refine r_callSi M hW (as := [.int x, .int 20, .int 24]) (c_X7_in l G x 20 24 (ModW G b (thr u) ++ Y)) rfl kw_441 kw_442 kw_412 kw_401 pl_X7_in ⟨by decide, by decide⟩ ⟨Nat.zero_le _, Nat.zero_le _⟩ hl.1 rfl (Nat.le_of_ble_eq_true rfl) dX7_count_203 (fun H locs hW => ?_)
              refine lv_if_eq (tgt := 221) hx hb dX7_count_206 (by decide) (fun c_206_2 => ?_) (fun c_206_2 => ?_)
              · skip
                refine lv_bipush (v := (-102)) hx hb dX7_count_221 (by decide) ?_
                exact r_reti M hW (by rw [sX7_count]) ⟨by rw [rX7_count, if_neg c_6_0, if_neg c_6_1, if_neg c_6_2, if_pos c_6_3, if_pos c_155_2, if_pos c_180_2, if_pos c_206_2], rfl⟩ (Nat.zero_le _) (Nat.zero_le _) dX7_count_223
              · skip
                have hk := in_c (a := 20) (b := 24) rfl rfl (by decide) (by decide) c_206_2
                refine lv_aload_n hx hb dX7_count_209 rfl (lv_at hl 0 rfl) ?_
                refine gt_Mod_0_1 M hW kw_392 dX7_count_210 ?_
                refine lv_iload_n hx hb dX7_count_213 rfl (lv_at hl 1 rfl) ?_
                refine lv_bipush (v := 20) hx hb dX7_count_214 (by decide) ?_
                refine lv_isub hx hb dX7_count_216 ?_
                refine r_top (y := nI (x.toNatClampNeg - 20)) (sub_of hk.1 hk.2.1) ?_
                refine al_Mod_1 M hW (x.toNatClampNeg - 20) rfl (by omega) (x := (thr u) 1 (x.toNatClampNeg - 20)) rfl dX7_count_217 ?_
                refine lv_goto (tgt := 223) hx hb dX7_count_218 (by decide) ?_
                exact r_reti M hW (by rw [sX7_count]) ⟨by rw [rX7_count, if_neg c_6_0, if_neg c_6_1, if_neg c_6_2, if_pos c_6_3, if_pos c_155_2, if_pos c_180_2, if_neg c_206_2], rfl⟩ (Nat.zero_le _) (Nat.zero_le _) dX7_count_223
            · skip
              have hk := in_c (a := 8) (b := 12) rfl rfl (by decide) (by decide) c_180_2
              refine lv_aload_n hx hb dX7_count_183 rfl (lv_at hl 0 rfl) ?_
              refine gt_Mod_0_1 M hW kw_392 dX7_count_184 ?_
              refine lv_bipush (v := 11) hx hb dX7_count_187 (by decide) ?_
              refine lv_iload_n hx hb dX7_count_189 rfl (lv_at hl 1 rfl) ?_
              refine lv_iadd hx hb dX7_count_190 ?_
              refine r_top (y := nI (11 + x.toNatClampNeg)) (nI_addl 11 hk.1) ?_
              refine lv_bipush (v := 8) hx hb dX7_count_191 (by decide) ?_
              refine lv_isub hx hb dX7_count_193 ?_
              refine r_top (y := nI (11 + x.toNatClampNeg - 8)) (pk_sub (a := 11 + x.toNatClampNeg) (b := 8) (by omega)) ?_
              refine al_Mod_1 M hW (11 + x.toNatClampNeg - 8) rfl (by omega) (x := (thr u) 1 (11 + x.toNatClampNeg - 8)) rfl dX7_count_194 ?_
              refine lv_goto (tgt := 223) hx hb dX7_count_195 (by decide) ?_
              exact r_reti M hW (by rw [sX7_count]) ⟨by rw [rX7_count, if_neg c_6_0, if_neg c_6_1, if_neg c_6_2, if_pos c_6_3, if_pos c_155_2, if_neg c_180_2], rfl⟩ (Nat.zero_le _) (Nat.zero_le _) dX7_count_223
          · skip
            have hk := in_c (a := 2) (b := 6) rfl rfl (by decide) (by decide) c_155_2
            refine lv_aload_n hx hb dX7_count_158 rfl (lv_at hl 0 rfl) ?_
            refine gt_Mod_0_1 M hW kw_392 dX7_count_159 ?_
            refine lv_bipush (v := 6) hx hb dX7_count_162 (by decide) ?_
            refine lv_iload_n hx hb dX7_count_164 rfl (lv_at hl 1 rfl) ?_
            refine lv_iadd hx hb dX7_count_165 ?_
            refine r_top (y := nI (6 + x.toNatClampNeg)) (nI_addl 6 hk.1) ?_
            refine lv_iconst (v := 2) hx hb dX7_count_166 (by decide) ?_
            refine lv_isub hx hb dX7_count_167 ?_
            refine r_top (y := nI (6 + x.toNatClampNeg - 2)) (pk_sub (a := 6 + x.toNatClampNeg) (b := 2) (by omega)) ?_
            refine al_Mod_1 M hW (6 + x.toNatClampNeg - 2) rfl (by omega) (x := (thr u) 1 (6 + x.toNatClampNeg - 2)) rfl dX7_count_168 ?_
            refine lv_goto (tgt := 223) hx hb dX7_count_169 (by decide) ?_
            exact r_reti M hW (by rw [sX7_count]) ⟨by rw [rX7_count, if_neg c_6_0, if_neg c_6_1, if_neg c_6_2, if_pos c_6_3, if_neg c_155_2], rfl⟩ (Nat.zero_le _) (Nat.zero_le _) dX7_count_223
        · skip
          by_cases c_6_4 : x = 4
          · skip
            refine lv_tableIn (off := 142) (tgt := 148) hx hb dX7_count_6 (by rw [c_6_4]; decide) (by rw [c_6_4]; decide) (by rw [c_6_4]; rfl) (by decide) ?_
            refine lv_iload_n hx hb dX7_count_148 rfl (lv_at hl 1 rfl) ?_
            refine lv_iconst (v := 2) hx hb dX7_count_149 (by decide) ?_
            refine lv_bipush (v := 6) hx hb dX7_count_150 (by decide) ?_
            refine r_callSi M hW (as := [.int x, .int 2, .int 6]) (c_X7_in l G x 2 6 (ModW G b (thr u) ++ Y)) rfl kw_441 kw_442 kw_412 kw_401 pl_X7_in ⟨by decide, by decide⟩ ⟨Nat.zero_le _, Nat.zero_le _⟩ hl.1 rfl (Nat.le_of_ble_eq_true rfl) dX7_count_152 (fun H locs hW => ?_)
            refine lv_if_eq (tgt := 172) hx hb dX7_count_155 (by decide) (fun c_155_3 => ?_) (fun c_155_3 => ?_)
            · skip
              refine lv_iload_n hx hb dX7_count_172 rfl (lv_at hl 1 rfl) ?_
              refine lv_bipush (v := 8) hx hb dX7_count_173 (by decide) ?_
              refine lv_bipush (v := 12) hx hb dX7_count_175 (by decide) ?_
              refine r_callSi M hW (as := [.int x, .int 8, .int 12]) (c_X7_in l G x 8 12 (ModW G b (thr u) ++ Y)) rfl kw_441 kw_442 kw_412 kw_401 pl_X7_in ⟨by decide, by decide⟩ ⟨Nat.zero_le _, Nat.zero_le _⟩ hl.1 rfl (Nat.le_of_ble_eq_true rfl) dX7_count_177 (fun H locs hW => ?_)
              refine lv_if_eq (tgt := 198) hx hb dX7_count_180 (by decide) (fun c_180_3 => ?_) (fun c_180_3 => ?_)
              · skip
                refine lv_iload_n hx hb dX7_count_198 rfl (lv_at hl 1 rfl) ?_
                refine lv_bipush (v := 20) hx hb dX7_count_199 (by decide) ?_
                refine lv_bipush (v := 24) hx hb dX7_count_201 (by decide) ?_
                refine r_callSi M hW (as := [.int x, .int 20, .int 24]) (c_X7_in l G x 20 24 (ModW G b (thr u) ++ Y)) rfl kw_441 kw_442 kw_412 kw_401 pl_X7_in ⟨by decide, by decide⟩ ⟨Nat.zero_le _, Nat.zero_le _⟩ hl.1 rfl (Nat.le_of_ble_eq_true rfl) dX7_count_203 (fun H locs hW => ?_)
                refine lv_if_eq (tgt := 221) hx hb dX7_count_206 (by decide) (fun c_206_3 => ?_) (fun c_206_3 => ?_)
                · skip
                  refine lv_bipush (v := (-102)) hx hb dX7_count_221 (by decide) ?_
                  exact r_reti M hW (by rw [sX7_count]) ⟨by rw [rX7_count, if_neg c_6_0, if_neg c_6_1, if_neg c_6_2, if_neg c_6_3, if_pos c_6_4, if_pos c_155_3, if_pos c_180_3, if_pos c_206_3], rfl⟩ (Nat.zero_le _) (Nat.zero_le _) dX7_count_223
                · skip
                  have hk := in_c (a := 20) (b := 24) rfl rfl (by decide) (by decide) c_206_3
                  refine lv_aload_n hx hb dX7_count_209 rfl (lv_at hl 0 rfl) ?_
                  refine gt_Mod_0_1 M hW kw_392 dX7_count_210 ?_
                  refine lv_iload_n hx hb dX7_count_213 rfl (lv_at hl 1 rfl) ?_
                  refine lv_bipush (v := 20) hx hb dX7_count_214 (by decide) ?_
                  refine lv_isub hx hb dX7_count_216 ?_
                  refine r_top (y := nI (x.toNatClampNeg - 20)) (sub_of hk.1 hk.2.1) ?_
                  refine al_Mod_1 M hW (x.toNatClampNeg - 20) rfl (by omega) (x := (thr u) 1 (x.toNatClampNeg - 20)) rfl dX7_count_217 ?_
                  refine lv_goto (tgt := 223) hx hb dX7_count_218 (by decide) ?_
                  exact r_reti M hW (by rw [sX7_count]) ⟨by rw [rX7_count, if_neg c_6_0, if_neg c_6_1, if_neg c_6_2, if_neg c_6_3, if_pos c_6_4, if_pos c_155_3, if_pos c_180_3, if_neg c_206_3], rfl⟩ (Nat.zero_le _) (Nat.zero_le _) dX7_count_223
              · skip
                have hk := in_c (a := 8) (b := 12) rfl rfl (by decide) (by decide) c_180_3
                refine lv_aload_n hx hb dX7_count_183 rfl (lv_at hl 0 rfl) ?_
                refine gt_Mod_0_1 M hW kw_392 dX7_count_184 ?_
                refine lv_bipush (v := 11) hx hb dX7_count_187 (by decide) ?_
                refine lv_iload_n hx hb dX7_count_189 rfl (lv_at hl 1 rfl) ?_
                refine lv_iadd hx hb dX7_count_190 ?_
                refine r_top (y := nI (11 + x.toNatClampNeg)) (nI_addl 11 hk.1) ?_
                refine lv_bipush (v := 8) hx hb dX7_count_191 (by decide) ?_
                refine lv_isub hx hb dX7_count_193 ?_
                refine r_top (y := nI (11 + x.toNatClampNeg - 8)) (pk_sub (a := 11 + x.toNatClampNeg) (b := 8) (by omega)) ?_
                refine al_Mod_1 M hW (11 + x.toNatClampNeg - 8) rfl (by omega) (x := (thr u) 1 (11 + x.toNatClampNeg - 8)) rfl dX7_count_194 ?_
                refine lv_goto (tgt := 223) hx hb dX7_count_195 (by decide) ?_
                exact r_reti M hW (by rw [sX7_count]) ⟨by rw [rX7_count, if_neg c_6_0, if_neg c_6_1, if_neg c_6_2, if_neg c_6_3, if_pos c_6_4, if_pos c_155_3, if_neg c_180_3], rfl⟩ (Nat.zero_le _) (Nat.zero_le _) dX7_count_223
            · skip
              have hk := in_c (a := 2) (b := 6) rfl rfl (by decide) (by decide) c_155_3
              refine lv_aload_n hx hb dX7_count_158 rfl (lv_at hl 0 rfl) ?_
              refine gt_Mod_0_1 M hW kw_392 dX7_count_159 ?_
              refine lv_bipush (v := 6) hx hb dX7_count_162 (by decide) ?_
              refine lv_iload_n hx hb dX7_count_164 rfl (lv_at hl 1 rfl) ?_
              refine lv_iadd hx hb dX7_count_165 ?_
              refine r_top (y := nI (6 + x.toNatClampNeg)) (nI_addl 6 hk.1) ?_
              refine lv_iconst (v := 2) hx hb dX7_count_166 (by decide) ?_
              refine lv_isub hx hb dX7_count_167 ?_
              refine r_top (y := nI (6 + x.toNatClampNeg - 2)) (pk_sub (a := 6 + x.toNatClampNeg) (b := 2) (by omega)) ?_
              refine al_Mod_1 M hW (6 + x.toNatClampNeg - 2) rfl (by omega) (x := (thr u) 1 (6 + x.toNatClampNeg - 2)) rfl dX7_count_168 ?_
              refine lv_goto (tgt := 223) hx hb dX7_count_169 (by decide) ?_
              exact r_reti M hW (by rw [sX7_count]) ⟨by rw [rX7_count, if_neg c_6_0, if_neg c_6_1, if_neg c_6_2, if_neg c_6_3, if_pos c_6_4, if_neg c_155_3], rfl⟩ (Nat.zero_le _) (Nat.zero_le _) dX7_count_223
          · skip
            by_cases c_6_5 : x = 5
            · skip
              refine lv_tableIn (off := 142) (tgt := 148) hx hb dX7_count_6 (by rw [c_6_5]; decide) (by rw [c_6_5]; decide) (by rw [c_6_5]; rfl) (by decide) ?_
              refine lv_iload_n hx hb dX7_count_148 rfl (lv_at hl 1 rfl) ?_
              refine lv_iconst (v := 2) hx hb dX7_count_149 (by decide) ?_
              refine lv_bipush (v := 6) hx hb dX7_count_150 (by decide) ?_
              refine r_callSi M hW (as := [.int x, .int 2, .int 6]) (c_X7_in l G x 2 6 (ModW G b (thr u) ++ Y)) rfl kw_441 kw_442 kw_412 kw_401 pl_X7_in ⟨by decide, by decide⟩ ⟨Nat.zero_le _, Nat.zero_le _⟩ hl.1 rfl (Nat.le_of_ble_eq_true rfl) dX7_count_152 (fun H locs hW => ?_)
              refine lv_if_eq (tgt := 172) hx hb dX7_count_155 (by decide) (fun c_155_4 => ?_) (fun c_155_4 => ?_)
              · skip
                refine lv_iload_n hx hb dX7_count_172 rfl (lv_at hl 1 rfl) ?_
                refine lv_bipush (v := 8) hx hb dX7_count_173 (by decide) ?_
                refine lv_bipush (v := 12) hx hb dX7_count_175 (by decide) ?_
                refine r_callSi M hW (as := [.int x, .int 8, .int 12]) (c_X7_in l G x 8 12 (ModW G b (thr u) ++ Y)) rfl kw_441 kw_442 kw_412 kw_401 pl_X7_in ⟨by decide, by decide⟩ ⟨Nat.zero_le _, Nat.zero_le _⟩ hl.1 rfl (Nat.le_of_ble_eq_true rfl) dX7_count_177 (fun H locs hW => ?_)
                refine lv_if_eq (tgt := 198) hx hb dX7_count_180 (by decide) (fun c_180_4 => ?_) (fun c_180_4 => ?_)
                · skip
                  refine lv_iload_n hx hb dX7_count_198 rfl (lv_at hl 1 rfl) ?_
                  refine lv_bipush (v := 20) hx hb dX7_count_199 (by decide) ?_
                  refine lv_bipush (v := 24) hx hb dX7_count_201 (by decide) ?_
                  refine r_callSi M hW (as := [.int x, .int 20, .int 24]) (c_X7_in l G x 20 24 (ModW G b (thr u) ++ Y)) rfl kw_441 kw_442 kw_412 kw_401 pl_X7_in ⟨by decide, by decide⟩ ⟨Nat.zero_le _, Nat.zero_le _⟩ hl.1 rfl (Nat.le_of_ble_eq_true rfl) dX7_count_203 (fun H locs hW => ?_)
                  refine lv_if_eq (tgt := 221) hx hb dX7_count_206 (by decide) (fun c_206_4 => ?_) (fun c_206_4 => ?_)
                  · skip
                    refine lv_bipush (v := (-102)) hx hb dX7_count_221 (by decide) ?_
                    exact r_reti M hW (by rw [sX7_count]) ⟨by rw [rX7_count, if_neg c_6_0, if_neg c_6_1, if_neg c_6_2, if_neg c_6_3, if_neg c_6_4, if_pos c_6_5, if_pos c_155_4, if_pos c_180_4, if_pos c_206_4], rfl⟩ (Nat.zero_le _) (Nat.zero_le _) dX7_count_223
                  · skip
                    have hk := in_c (a := 20) (b := 24) rfl rfl (by decide) (by decide) c_206_4
                    refine lv_aload_n hx hb dX7_count_209 rfl (lv_at hl 0 rfl) ?_
                    refine gt_Mod_0_1 M hW kw_392 dX7_count_210 ?_
                    refine lv_iload_n hx hb dX7_count_213 rfl (lv_at hl 1 rfl) ?_
                    refine lv_bipush (v := 20) hx hb dX7_count_214 (by decide) ?_
                    refine lv_isub hx hb dX7_count_216 ?_
                    refine r_top (y := nI (x.toNatClampNeg - 20)) (sub_of hk.1 hk.2.1) ?_
                    refine al_Mod_1 M hW (x.toNatClampNeg - 20) rfl (by omega) (x := (thr u) 1 (x.toNatClampNeg - 20)) rfl dX7_count_217 ?_
                    refine lv_goto (tgt := 223) hx hb dX7_count_218 (by decide) ?_
                    exact r_reti M hW (by rw [sX7_count]) ⟨by rw [rX7_count, if_neg c_6_0, if_neg c_6_1, if_neg c_6_2, if_neg c_6_3, if_neg c_6_4, if_pos c_6_5, if_pos c_155_4, if_pos c_180_4, if_neg c_206_4], rfl⟩ (Nat.zero_le _) (Nat.zero_le _) dX7_count_223
                · skip
                  have hk := in_c (a := 8) (b := 12) rfl rfl (by decide) (by decide) c_180_4
                  refine lv_aload_n hx hb dX7_count_183 rfl (lv_at hl 0 rfl) ?_
                  refine gt_Mod_0_1 M hW kw_392 dX7_count_184 ?_
                  refine lv_bipush (v := 11) hx hb dX7_count_187 (by decide) ?_
                  refine lv_iload_n hx hb dX7_count_189 rfl (lv_at hl 1 rfl) ?_
                  refine lv_iadd hx hb dX7_count_190 ?_
                  refine r_top (y := nI (11 + x.toNatClampNeg)) (nI_addl 11 hk.1) ?_
                  refine lv_bipush (v := 8) hx hb dX7_count_191 (by decide) ?_
                  refine lv_isub hx hb dX7_count_193 ?_
                  refine r_top (y := nI (11 + x.toNatClampNeg - 8)) (pk_sub (a := 11 + x.toNatClampNeg) (b := 8) (by omega)) ?_
                  refine al_Mod_1 M hW (11 + x.toNatClampNeg - 8) rfl (by omega) (x := (thr u) 1 (11 + x.toNatClampNeg - 8)) rfl dX7_count_194 ?_
                  refine lv_goto (tgt := 223) hx hb dX7_count_195 (by decide) ?_
                  exact r_reti M hW (by rw [sX7_count]) ⟨by rw [rX7_count, if_neg c_6_0, if_neg c_6_1, if_neg c_6_2, if_neg c_6_3, if_neg c_6_4, if_pos c_6_5, if_pos c_155_4, if_neg c_180_4], rfl⟩ (Nat.zero_le _) (Nat.zero_le _) dX7_count_223
              · skip
                have hk := in_c (a := 2) (b := 6) rfl rfl (by decide) (by decide) c_155_4
                refine lv_aload_n hx hb dX7_count_158 rfl (lv_at hl 0 rfl) ?_
                refine gt_Mod_0_1 M hW kw_392 dX7_count_159 ?_
                refine lv_bipush (v := 6) hx hb dX7_count_162 (by decide) ?_
                refine lv_iload_n hx hb dX7_count_164 rfl (lv_at hl 1 rfl) ?_
                refine lv_iadd hx hb dX7_count_165 ?_
                refine r_top (y := nI (6 + x.toNatClampNeg)) (nI_addl 6 hk.1) ?_
                refine lv_iconst (v := 2) hx hb dX7_count_166 (by decide) ?_
                refine lv_isub hx hb dX7_count_167 ?_
                refine r_top (y := nI (6 + x.toNatClampNeg - 2)) (pk_sub (a := 6 + x.toNatClampNeg) (b := 2) (by omega)) ?_
                refine al_Mod_1 M hW (6 + x.toNatClampNeg - 2) rfl (by omega) (x := (thr u) 1 (6 + x.toNatClampNeg - 2)) rfl dX7_count_168 ?_
                refine lv_goto (tgt := 223) hx hb dX7_count_169 (by decide) ?_
                exact r_reti M hW (by rw [sX7_count]) ⟨by rw [rX7_count, if_neg c_6_0, if_neg c_6_1, if_neg c_6_2, if_neg c_6_3, if_neg c_6_4, if_pos c_6_5, if_neg c_155_4], rfl⟩ (Nat.zero_le _) (Nat.zero_le _) dX7_count_223
            · skip
              by_cases c_6_6 : x = 6
              · skip
                refine lv_tableIn (off := 142) (tgt := 148) hx hb dX7_count_6 (by rw [c_6_6]; decide) (by rw [c_6_6]; decide) (by rw [c_6_6]; rfl) (by decide) ?_
                refine lv_iload_n hx hb dX7_count_148 rfl (lv_at hl 1 rfl) ?_
                refine lv_iconst (v := 2) hx hb dX7_count_149 (by decide) ?_
                refine lv_bipush (v := 6) hx hb dX7_count_150 (by decide) ?_
                refine r_callSi M hW (as := [.int x, .int 2, .int 6]) (c_X7_in l G x 2 6 (ModW G b (thr u) ++ Y)) rfl kw_441 kw_442 kw_412 kw_401 pl_X7_in ⟨by decide, by decide⟩ ⟨Nat.zero_le _, Nat.zero_le _⟩ hl.1 rfl (Nat.le_of_ble_eq_true rfl) dX7_count_152 (fun H locs hW => ?_)
                refine lv_if_eq (tgt := 172) hx hb dX7_count_155 (by decide) (fun c_155_5 => ?_) (fun c_155_5 => ?_)
                · skip
                  refine lv_iload_n hx hb dX7_count_172 rfl (lv_at hl 1 rfl) ?_
                  refine lv_bipush (v := 8) hx hb dX7_count_173 (by decide) ?_
                  refine lv_bipush (v := 12) hx hb dX7_count_175 (by decide) ?_
                  refine r_callSi M hW (as := [.int x, .int 8, .int 12]) (c_X7_in l G x 8 12 (ModW G b (thr u) ++ Y)) rfl kw_441 kw_442 kw_412 kw_401 pl_X7_in ⟨by decide, by decide⟩ ⟨Nat.zero_le _, Nat.zero_le _⟩ hl.1 rfl (Nat.le_of_ble_eq_true rfl) dX7_count_177 (fun H locs hW => ?_)
                  refine lv_if_eq (tgt := 198) hx hb dX7_count_180 (by decide) (fun c_180_5 => ?_) (fun c_180_5 => ?_)
                  · skip
                    refine lv_iload_n hx hb dX7_count_198 rfl (lv_at hl 1 rfl) ?_
                    refine lv_bipush (v := 20) hx hb dX7_count_199 (by decide) ?_
                    refine lv_bipush (v := 24) hx hb dX7_count_201 (by decide) ?_
                    refine r_callSi M hW (as := [.int x, .int 20, .int 24]) (c_X7_in l G x 20 24 (ModW G b (thr u) ++ Y)) rfl kw_441 kw_442 kw_412 kw_401 pl_X7_in ⟨by decide, by decide⟩ ⟨Nat.zero_le _, Nat.zero_le _⟩ hl.1 rfl (Nat.le_of_ble_eq_true rfl) dX7_count_203 (fun H locs hW => ?_)
                    refine lv_if_eq (tgt := 221) hx hb dX7_count_206 (by decide) (fun c_206_5 => ?_) (fun c_206_5 => ?_)
                    · skip
                      refine lv_bipush (v := (-102)) hx hb dX7_count_221 (by decide) ?_
                      exact r_reti M hW (by rw [sX7_count]) ⟨by rw [rX7_count, if_neg c_6_0, if_neg c_6_1, if_neg c_6_2, if_neg c_6_3, if_neg c_6_4, if_neg c_6_5, if_pos c_6_6, if_pos c_155_5, if_pos c_180_5, if_pos c_206_5], rfl⟩ (Nat.zero_le _) (Nat.zero_le _) dX7_count_223
                    · skip
                      have hk := in_c (a := 20) (b := 24) rfl rfl (by decide) (by decide) c_206_5
                      refine lv_aload_n hx hb dX7_count_209 rfl (lv_at hl 0 rfl) ?_
                      refine gt_Mod_0_1 M hW kw_392 dX7_count_210 ?_
                      refine lv_iload_n hx hb dX7_count_213 rfl (lv_at hl 1 rfl) ?_
                      refine lv_bipush (v := 20) hx hb dX7_count_214 (by decide) ?_
                      refine lv_isub hx hb dX7_count_216 ?_
                      refine r_top (y := nI (x.toNatClampNeg - 20)) (sub_of hk.1 hk.2.1) ?_
                      refine al_Mod_1 M hW (x.toNatClampNeg - 20) rfl (by omega) (x := (thr u) 1 (x.toNatClampNeg - 20)) rfl dX7_count_217 ?_
                      refine lv_goto (tgt := 223) hx hb dX7_count_218 (by decide) ?_
                      exact r_reti M hW (by rw [sX7_count]) ⟨by rw [rX7_count, if_neg c_6_0, if_neg c_6_1, if_neg c_6_2, if_neg c_6_3, if_neg c_6_4, if_neg c_6_5, if_pos c_6_6, if_pos c_155_5, if_pos c_180_5, if_neg c_206_5], rfl⟩ (Nat.zero_le _) (Nat.zero_le _) dX7_count_223
                  · skip
                    have hk := in_c (a := 8) (b := 12) rfl rfl (by decide) (by decide) c_180_5
                    refine lv_aload_n hx hb dX7_count_183 rfl (lv_at hl 0 rfl) ?_
                    refine gt_Mod_0_1 M hW kw_392 dX7_count_184 ?_
                    refine lv_bipush (v := 11) hx hb dX7_count_187 (by decide) ?_
                    refine lv_iload_n hx hb dX7_count_189 rfl (lv_at hl 1 rfl) ?_
                    refine lv_iadd hx hb dX7_count_190 ?_
                    refine r_top (y := nI (11 + x.toNatClampNeg)) (nI_addl 11 hk.1) ?_
                    refine lv_bipush (v := 8) hx hb dX7_count_191 (by decide) ?_
                    refine lv_isub hx hb dX7_count_193 ?_
                    refine r_top (y := nI (11 + x.toNatClampNeg - 8)) (pk_sub (a := 11 + x.toNatClampNeg) (b := 8) (by omega)) ?_
                    refine al_Mod_1 M hW (11 + x.toNatClampNeg - 8) rfl (by omega) (x := (thr u) 1 (11 + x.toNatClampNeg - 8)) rfl dX7_count_194 ?_
                    refine lv_goto (tgt := 223) hx hb dX7_count_195 (by decide) ?_
                    exact r_reti M hW (by rw [sX7_count]) ⟨by rw [rX7_count, if_neg c_6_0, if_neg c_6_1, if_neg c_6_2, if_neg c_6_3, if_neg c_6_4, if_neg c_6_5, if_pos c_6_6, if_pos c_155_5, if_neg c_180_5], rfl⟩ (Nat.zero_le _) (Nat.zero_le _) dX7_count_223
                · skip
                  have hk := in_c (a := 2) (b := 6) rfl rfl (by decide) (by decide) c_155_5
                  refine lv_aload_n hx hb dX7_count_158 rfl (lv_at hl 0 rfl) ?_
                  refine gt_Mod_0_1 M hW kw_392 dX7_count_159 ?_
                  refine lv_bipush (v := 6) hx hb dX7_count_162 (by decide) ?_
                  refine lv_iload_n hx hb dX7_count_164 rfl (lv_at hl 1 rfl) ?_
                  refine lv_iadd hx hb dX7_count_165 ?_
                  refine r_top (y := nI (6 + x.toNatClampNeg)) (nI_addl 6 hk.1) ?_
                  refine lv_iconst (v := 2) hx hb dX7_count_166 (by decide) ?_
                  refine lv_isub hx hb dX7_count_167 ?_
                  refine r_top (y := nI (6 + x.toNatClampNeg - 2)) (pk_sub (a := 6 + x.toNatClampNeg) (b := 2) (by omega)) ?_
                  refine al_Mod_1 M hW (6 + x.toNatClampNeg - 2) rfl (by omega) (x := (thr u) 1 (6 + x.toNatClampNeg - 2)) rfl dX7_count_168 ?_
                  refine lv_goto (tgt := 223) hx hb dX7_count_169 (by decide) ?_
                  exact r_reti M hW (by rw [sX7_count]) ⟨by rw [rX7_count, if_neg c_6_0, if_neg c_6_1, if_neg c_6_2, if_neg c_6_3, if_neg c_6_4, if_neg c_6_5, if_pos c_6_6, if_neg c_155_5], rfl⟩ (Nat.zero_le _) (Nat.zero_le _) dX7_count_223
              · skip
                by_cases c_6_7 : x = 7
                · skip
                  refine lv_tableIn (off := 94) (tgt := 100) hx hb dX7_count_6 (by rw [c_6_7]; decide) (by rw [c_6_7]; decide) (by rw [c_6_7]; rfl) (by decide) ?_
                  refine lv_aload_n hx hb dX7_count_100 rfl (lv_at hl 0 rfl) ?_
                  refine r_callVi M hW (c_X7_load l G b (thr u)  (Y)) rfl kw_416 kw_417 kw_418 kw_412 kw_406 pl_X7_load 0 rfl rfl ⟨by decide, by decide⟩ ⟨Nat.zero_le _, Nat.zero_le _⟩ hl.1 rfl (Nat.le_of_ble_eq_true rfl) dX7_count_101 (fun H locs hW => ?_)
                  exact r_reti M hW (by rw [sX7_count]) ⟨by rw [rX7_count, if_neg c_6_0, if_neg c_6_1, if_neg c_6_2, if_neg c_6_3, if_neg c_6_4, if_neg c_6_5, if_neg c_6_6, if_pos c_6_7], rfl⟩ (Nat.zero_le _) (Nat.zero_le _) dX7_count_104
                · skip
                  by_cases c_6_8 : x = 8
                  · skip
                    refine lv_tableIn (off := 142) (tgt := 148) hx hb dX7_count_6 (by rw [c_6_8]; decide) (by rw [c_6_8]; decide) (by rw [c_6_8]; rfl) (by decide) ?_
                    refine lv_iload_n hx hb dX7_count_148 rfl (lv_at hl 1 rfl) ?_
                    refine lv_iconst (v := 2) hx hb dX7_count_149 (by decide) ?_
                    refine lv_bipush (v := 6) hx hb dX7_count_150 (by decide) ?_
                    refine r_callSi M hW (as := [.int x, .int 2, .int 6]) (c_X7_in l G x 2 6 (ModW G b (thr u) ++ Y)) rfl kw_441 kw_442 kw_412 kw_401 pl_X7_in ⟨by decide, by decide⟩ ⟨Nat.zero_le _, Nat.zero_le _⟩ hl.1 rfl (Nat.le_of_ble_eq_true rfl) dX7_count_152 (fun H locs hW => ?_)
                    refine lv_if_eq (tgt := 172) hx hb dX7_count_155 (by decide) (fun c_155_6 => ?_) (fun c_155_6 => ?_)
                    · skip
                      refine lv_iload_n hx hb dX7_count_172 rfl (lv_at hl 1 rfl) ?_
                      refine lv_bipush (v := 8) hx hb dX7_count_173 (by decide) ?_
                      refine lv_bipush (v := 12) hx hb dX7_count_175 (by decide) ?_
                      refine r_callSi M hW (as := [.int x, .int 8, .int 12]) (c_X7_in l G x 8 12 (ModW G b (thr u) ++ Y)) rfl kw_441 kw_442 kw_412 kw_401 pl_X7_in ⟨by decide, by decide⟩ ⟨Nat.zero_le _, Nat.zero_le _⟩ hl.1 rfl (Nat.le_of_ble_eq_true rfl) dX7_count_177 (fun H locs hW => ?_)
                      refine lv_if_eq (tgt := 198) hx hb dX7_count_180 (by decide) (fun c_180_6 => ?_) (fun c_180_6 => ?_)
                      · skip
                        refine lv_iload_n hx hb dX7_count_198 rfl (lv_at hl 1 rfl) ?_
                        refine lv_bipush (v := 20) hx hb dX7_count_199 (by decide) ?_
                        refine lv_bipush (v := 24) hx hb dX7_count_201 (by decide) ?_
                        refine r_callSi M hW (as := [.int x, .int 20, .int 24]) (c_X7_in l G x 20 24 (ModW G b (thr u) ++ Y)) rfl kw_441 kw_442 kw_412 kw_401 pl_X7_in ⟨by decide, by decide⟩ ⟨Nat.zero_le _, Nat.zero_le _⟩ hl.1 rfl (Nat.le_of_ble_eq_true rfl) dX7_count_203 (fun H locs hW => ?_)
                        refine lv_if_eq (tgt := 221) hx hb dX7_count_206 (by decide) (fun c_206_6 => ?_) (fun c_206_6 => ?_)
                        · skip
                          refine lv_bipush (v := (-102)) hx hb dX7_count_221 (by decide) ?_
                          exact r_reti M hW (by rw [sX7_count]) ⟨by rw [rX7_count, if_neg c_6_0, if_neg c_6_1, if_neg c_6_2, if_neg c_6_3, if_neg c_6_4, if_neg c_6_5, if_neg c_6_6, if_neg c_6_7, if_pos c_6_8, if_pos c_155_6, if_pos c_180_6, if_pos c_206_6], rfl⟩ (Nat.zero_le _) (Nat.zero_le _) dX7_count_223
                        · skip
                          have hk := in_c (a := 20) (b := 24) rfl rfl (by decide) (by decide) c_206_6
                          refine lv_aload_n hx hb dX7_count_209 rfl (lv_at hl 0 rfl) ?_
                          refine gt_Mod_0_1 M hW kw_392 dX7_count_210 ?_
                          refine lv_iload_n hx hb dX7_count_213 rfl (lv_at hl 1 rfl) ?_
                          refine lv_bipush (v := 20) hx hb dX7_count_214 (by decide) ?_
                          refine lv_isub hx hb dX7_count_216 ?_
                          refine r_top (y := nI (x.toNatClampNeg - 20)) (sub_of hk.1 hk.2.1) ?_
                          refine al_Mod_1 M hW (x.toNatClampNeg - 20) rfl (by omega) (x := (thr u) 1 (x.toNatClampNeg - 20)) rfl dX7_count_217 ?_
                          refine lv_goto (tgt := 223) hx hb dX7_count_218 (by decide) ?_
                          exact r_reti M hW (by rw [sX7_count]) ⟨by rw [rX7_count, if_neg c_6_0, if_neg c_6_1, if_neg c_6_2, if_neg c_6_3, if_neg c_6_4, if_neg c_6_5, if_neg c_6_6, if_neg c_6_7, if_pos c_6_8, if_pos c_155_6, if_pos c_180_6, if_neg c_206_6], rfl⟩ (Nat.zero_le _) (Nat.zero_le _) dX7_count_223
                      · skip
                        have hk := in_c (a := 8) (b := 12) rfl rfl (by decide) (by decide) c_180_6
                        refine lv_aload_n hx hb dX7_count_183 rfl (lv_at hl 0 rfl) ?_
                        refine gt_Mod_0_1 M hW kw_392 dX7_count_184 ?_
                        refine lv_bipush (v := 11) hx hb dX7_count_187 (by decide) ?_
                        refine lv_iload_n hx hb dX7_count_189 rfl (lv_at hl 1 rfl) ?_
                        refine lv_iadd hx hb dX7_count_190 ?_
                        refine r_top (y := nI (11 + x.toNatClampNeg)) (nI_addl 11 hk.1) ?_
                        refine lv_bipush (v := 8) hx hb dX7_count_191 (by decide) ?_
                        refine lv_isub hx hb dX7_count_193 ?_
                        refine r_top (y := nI (11 + x.toNatClampNeg - 8)) (pk_sub (a := 11 + x.toNatClampNeg) (b := 8) (by omega)) ?_
                        refine al_Mod_1 M hW (11 + x.toNatClampNeg - 8) rfl (by omega) (x := (thr u) 1 (11 + x.toNatClampNeg - 8)) rfl dX7_count_194 ?_
                        refine lv_goto (tgt := 223) hx hb dX7_count_195 (by decide) ?_
                        exact r_reti M hW (by rw [sX7_count]) ⟨by rw [rX7_count, if_neg c_6_0, if_neg c_6_1, if_neg c_6_2, if_neg c_6_3, if_neg c_6_4, if_neg c_6_5, if_neg c_6_6, if_neg c_6_7, if_pos c_6_8, if_pos c_155_6, if_neg c_180_6], rfl⟩ (Nat.zero_le _) (Nat.zero_le _) dX7_count_223
                    · skip
                      have hk := in_c (a := 2) (b := 6) rfl rfl (by decide) (by decide) c_155_6
                      refine lv_aload_n hx hb dX7_count_158 rfl (lv_at hl 0 rfl) ?_
                      refine gt_Mod_0_1 M hW kw_392 dX7_count_159 ?_
                      refine lv_bipush (v := 6) hx hb dX7_count_162 (by decide) ?_
                      refine lv_iload_n hx hb dX7_count_164 rfl (lv_at hl 1 rfl) ?_
                      refine lv_iadd hx hb dX7_count_165 ?_
                      refine r_top (y := nI (6 + x.toNatClampNeg)) (nI_addl 6 hk.1) ?_
                      refine lv_iconst (v := 2) hx hb dX7_count_166 (by decide) ?_
                      refine lv_isub hx hb dX7_count_167 ?_
                      refine r_top (y := nI (6 + x.toNatClampNeg - 2)) (pk_sub (a := 6 + x.toNatClampNeg) (b := 2) (by omega)) ?_
                      refine al_Mod_1 M hW (6 + x.toNatClampNeg - 2) rfl (by omega) (x := (thr u) 1 (6 + x.toNatClampNeg - 2)) rfl dX7_count_168 ?_
                      refine lv_goto (tgt := 223) hx hb dX7_count_169 (by decide) ?_
                      exact r_reti M hW (by rw [sX7_count]) ⟨by rw [rX7_count, if_neg c_6_0, if_neg c_6_1, if_neg c_6_2, if_neg c_6_3, if_neg c_6_4, if_neg c_6_5, if_neg c_6_6, if_neg c_6_7, if_pos c_6_8, if_neg c_155_6], rfl⟩ (Nat.zero_le _) (Nat.zero_le _) dX7_count_223
                  · skip
                    by_cases c_6_9 : x = 9
                    · skip
                      refine lv_tableIn (off := 142) (tgt := 148) hx hb dX7_count_6 (by rw [c_6_9]; decide) (by rw [c_6_9]; decide) (by rw [c_6_9]; rfl) (by decide) ?_
                      refine lv_iload_n hx hb dX7_count_148 rfl (lv_at hl 1 rfl) ?_
                      refine lv_iconst (v := 2) hx hb dX7_count_149 (by decide) ?_
                      refine lv_bipush (v := 6) hx hb dX7_count_150 (by decide) ?_
                      refine r_callSi M hW (as := [.int x, .int 2, .int 6]) (c_X7_in l G x 2 6 (ModW G b (thr u) ++ Y)) rfl kw_441 kw_442 kw_412 kw_401 pl_X7_in ⟨by decide, by decide⟩ ⟨Nat.zero_le _, Nat.zero_le _⟩ hl.1 rfl (Nat.le_of_ble_eq_true rfl) dX7_count_152 (fun H locs hW => ?_)
                      refine lv_if_eq (tgt := 172) hx hb dX7_count_155 (by decide) (fun c_155_7 => ?_) (fun c_155_7 => ?_)
                      · skip
                        refine lv_iload_n hx hb dX7_count_172 rfl (lv_at hl 1 rfl) ?_
                        refine lv_bipush (v := 8) hx hb dX7_count_173 (by decide) ?_
                        refine lv_bipush (v := 12) hx hb dX7_count_175 (by decide) ?_
                        refine r_callSi M hW (as := [.int x, .int 8, .int 12]) (c_X7_in l G x 8 12 (ModW G b (thr u) ++ Y)) rfl kw_441 kw_442 kw_412 kw_401 pl_X7_in ⟨by decide, by decide⟩ ⟨Nat.zero_le _, Nat.zero_le _⟩ hl.1 rfl (Nat.le_of_ble_eq_true rfl) dX7_count_177 (fun H locs hW => ?_)
                        refine lv_if_eq (tgt := 198) hx hb dX7_count_180 (by decide) (fun c_180_7 => ?_) (fun c_180_7 => ?_)
                        · skip
                          refine lv_iload_n hx hb dX7_count_198 rfl (lv_at hl 1 rfl) ?_
                          refine lv_bipush (v := 20) hx hb dX7_count_199 (by decide) ?_
                          refine lv_bipush (v := 24) hx hb dX7_count_201 (by decide) ?_
                          refine r_callSi M hW (as := [.int x, .int 20, .int 24]) (c_X7_in l G x 20 24 (ModW G b (thr u) ++ Y)) rfl kw_441 kw_442 kw_412 kw_401 pl_X7_in ⟨by decide, by decide⟩ ⟨Nat.zero_le _, Nat.zero_le _⟩ hl.1 rfl (Nat.le_of_ble_eq_true rfl) dX7_count_203 (fun H locs hW => ?_)
                          refine lv_if_eq (tgt := 221) hx hb dX7_count_206 (by decide) (fun c_206_7 => ?_) (fun c_206_7 => ?_)
                          · skip
                            refine lv_bipush (v := (-102)) hx hb dX7_count_221 (by decide) ?_
                            exact r_reti M hW (by rw [sX7_count]) ⟨by rw [rX7_count, if_neg c_6_0, if_neg c_6_1, if_neg c_6_2, if_neg c_6_3, if_neg c_6_4, if_neg c_6_5, if_neg c_6_6, if_neg c_6_7, if_neg c_6_8, if_pos c_6_9, if_pos c_155_7, if_pos c_180_7, if_pos c_206_7], rfl⟩ (Nat.zero_le _) (Nat.zero_le _) dX7_count_223
                          · skip
                            have hk := in_c (a := 20) (b := 24) rfl rfl (by decide) (by decide) c_206_7
                            refine lv_aload_n hx hb dX7_count_209 rfl (lv_at hl 0 rfl) ?_
                            refine gt_Mod_0_1 M hW kw_392 dX7_count_210 ?_
                            refine lv_iload_n hx hb dX7_count_213 rfl (lv_at hl 1 rfl) ?_
                            refine lv_bipush (v := 20) hx hb dX7_count_214 (by decide) ?_
                            refine lv_isub hx hb dX7_count_216 ?_
                            refine r_top (y := nI (x.toNatClampNeg - 20)) (sub_of hk.1 hk.2.1) ?_
                            refine al_Mod_1 M hW (x.toNatClampNeg - 20) rfl (by omega) (x := (thr u) 1 (x.toNatClampNeg - 20)) rfl dX7_count_217 ?_
                            refine lv_goto (tgt := 223) hx hb dX7_count_218 (by decide) ?_
                            exact r_reti M hW (by rw [sX7_count]) ⟨by rw [rX7_count, if_neg c_6_0, if_neg c_6_1, if_neg c_6_2, if_neg c_6_3, if_neg c_6_4, if_neg c_6_5, if_neg c_6_6, if_neg c_6_7, if_neg c_6_8, if_pos c_6_9, if_pos c_155_7, if_pos c_180_7, if_neg c_206_7], rfl⟩ (Nat.zero_le _) (Nat.zero_le _) dX7_count_223
                        · skip
                          have hk := in_c (a := 8) (b := 12) rfl rfl (by decide) (by decide) c_180_7
                          refine lv_aload_n hx hb dX7_count_183 rfl (lv_at hl 0 rfl) ?_
                          refine gt_Mod_0_1 M hW kw_392 dX7_count_184 ?_
                          refine lv_bipush (v := 11) hx hb dX7_count_187 (by decide) ?_
                          refine lv_iload_n hx hb dX7_count_189 rfl (lv_at hl 1 rfl) ?_
                          refine lv_iadd hx hb dX7_count_190 ?_
                          refine r_top (y := nI (11 + x.toNatClampNeg)) (nI_addl 11 hk.1) ?_
                          refine lv_bipush (v := 8) hx hb dX7_count_191 (by decide) ?_
                          refine lv_isub hx hb dX7_count_193 ?_
                          refine r_top (y := nI (11 + x.toNatClampNeg - 8)) (pk_sub (a := 11 + x.toNatClampNeg) (b := 8) (by omega)) ?_
                          refine al_Mod_1 M hW (11 + x.toNatClampNeg - 8) rfl (by omega) (x := (thr u) 1 (11 + x.toNatClampNeg - 8)) rfl dX7_count_194 ?_
                          refine lv_goto (tgt := 223) hx hb dX7_count_195 (by decide) ?_
                          exact r_reti M hW (by rw [sX7_count]) ⟨by rw [rX7_count, if_neg c_6_0, if_neg c_6_1, if_neg c_6_2, if_neg c_6_3, if_neg c_6_4, if_neg c_6_5, if_neg c_6_6, if_neg c_6_7, if_neg c_6_8, if_pos c_6_9, if_pos c_155_7, if_neg c_180_7], rfl⟩ (Nat.zero_le _) (Nat.zero_le _) dX7_count_223
                      · skip
                        have hk := in_c (a := 2) (b := 6) rfl rfl (by decide) (by decide) c_155_7
                        refine lv_aload_n hx hb dX7_count_158 rfl (lv_at hl 0 rfl) ?_
                        refine gt_Mod_0_1 M hW kw_392 dX7_count_159 ?_
                        refine lv_bipush (v := 6) hx hb dX7_count_162 (by decide) ?_
                        refine lv_iload_n hx hb dX7_count_164 rfl (lv_at hl 1 rfl) ?_
                        refine lv_iadd hx hb dX7_count_165 ?_
                        refine r_top (y := nI (6 + x.toNatClampNeg)) (nI_addl 6 hk.1) ?_
                        refine lv_iconst (v := 2) hx hb dX7_count_166 (by decide) ?_
                        refine lv_isub hx hb dX7_count_167 ?_
                        refine r_top (y := nI (6 + x.toNatClampNeg - 2)) (pk_sub (a := 6 + x.toNatClampNeg) (b := 2) (by omega)) ?_
                        refine al_Mod_1 M hW (6 + x.toNatClampNeg - 2) rfl (by omega) (x := (thr u) 1 (6 + x.toNatClampNeg - 2)) rfl dX7_count_168 ?_
                        refine lv_goto (tgt := 223) hx hb dX7_count_169 (by decide) ?_
                        exact r_reti M hW (by rw [sX7_count]) ⟨by rw [rX7_count, if_neg c_6_0, if_neg c_6_1, if_neg c_6_2, if_neg c_6_3, if_neg c_6_4, if_neg c_6_5, if_neg c_6_6, if_neg c_6_7, if_neg c_6_8, if_pos c_6_9, if_neg c_155_7], rfl⟩ (Nat.zero_le _) (Nat.zero_le _) dX7_count_223
                    · skip
                      by_cases c_6_10 : x = 10
                      · skip
                        refine lv_tableIn (off := 142) (tgt := 148) hx hb dX7_count_6 (by rw [c_6_10]; decide) (by rw [c_6_10]; decide) (by rw [c_6_10]; rfl) (by decide) ?_
                        refine lv_iload_n hx hb dX7_count_148 rfl (lv_at hl 1 rfl) ?_
                        refine lv_iconst (v := 2) hx hb dX7_count_149 (by decide) ?_
                        refine lv_bipush (v := 6) hx hb dX7_count_150 (by decide) ?_
                        refine r_callSi M hW (as := [.int x, .int 2, .int 6]) (c_X7_in l G x 2 6 (ModW G b (thr u) ++ Y)) rfl kw_441 kw_442 kw_412 kw_401 pl_X7_in ⟨by decide, by decide⟩ ⟨Nat.zero_le _, Nat.zero_le _⟩ hl.1 rfl (Nat.le_of_ble_eq_true rfl) dX7_count_152 (fun H locs hW => ?_)
                        refine lv_if_eq (tgt := 172) hx hb dX7_count_155 (by decide) (fun c_155_8 => ?_) (fun c_155_8 => ?_)
                        · skip
                          refine lv_iload_n hx hb dX7_count_172 rfl (lv_at hl 1 rfl) ?_
                          refine lv_bipush (v := 8) hx hb dX7_count_173 (by decide) ?_
                          refine lv_bipush (v := 12) hx hb dX7_count_175 (by decide) ?_
                          refine r_callSi M hW (as := [.int x, .int 8, .int 12]) (c_X7_in l G x 8 12 (ModW G b (thr u) ++ Y)) rfl kw_441 kw_442 kw_412 kw_401 pl_X7_in ⟨by decide, by decide⟩ ⟨Nat.zero_le _, Nat.zero_le _⟩ hl.1 rfl (Nat.le_of_ble_eq_true rfl) dX7_count_177 (fun H locs hW => ?_)
                          refine lv_if_eq (tgt := 198) hx hb dX7_count_180 (by decide) (fun c_180_8 => ?_) (fun c_180_8 => ?_)
                          · skip
                            refine lv_iload_n hx hb dX7_count_198 rfl (lv_at hl 1 rfl) ?_
                            refine lv_bipush (v := 20) hx hb dX7_count_199 (by decide) ?_
                            refine lv_bipush (v := 24) hx hb dX7_count_201 (by decide) ?_
                            refine r_callSi M hW (as := [.int x, .int 20, .int 24]) (c_X7_in l G x 20 24 (ModW G b (thr u) ++ Y)) rfl kw_441 kw_442 kw_412 kw_401 pl_X7_in ⟨by decide, by decide⟩ ⟨Nat.zero_le _, Nat.zero_le _⟩ hl.1 rfl (Nat.le_of_ble_eq_true rfl) dX7_count_203 (fun H locs hW => ?_)
                            refine lv_if_eq (tgt := 221) hx hb dX7_count_206 (by decide) (fun c_206_8 => ?_) (fun c_206_8 => ?_)
                            · skip
                              refine lv_bipush (v := (-102)) hx hb dX7_count_221 (by decide) ?_
                              exact r_reti M hW (by rw [sX7_count]) ⟨by rw [rX7_count, if_neg c_6_0, if_neg c_6_1, if_neg c_6_2, if_neg c_6_3, if_neg c_6_4, if_neg c_6_5, if_neg c_6_6, if_neg c_6_7, if_neg c_6_8, if_neg c_6_9, if_pos c_6_10, if_pos c_155_8, if_pos c_180_8, if_pos c_206_8], rfl⟩ (Nat.zero_le _) (Nat.zero_le _) dX7_count_223
                            · skip
                              have hk := in_c (a := 20) (b := 24) rfl rfl (by decide) (by decide) c_206_8
                              refine lv_aload_n hx hb dX7_count_209 rfl (lv_at hl 0 rfl) ?_
                              refine gt_Mod_0_1 M hW kw_392 dX7_count_210 ?_
                              refine lv_iload_n hx hb dX7_count_213 rfl (lv_at hl 1 rfl) ?_
                              refine lv_bipush (v := 20) hx hb dX7_count_214 (by decide) ?_
                              refine lv_isub hx hb dX7_count_216 ?_
                              refine r_top (y := nI (x.toNatClampNeg - 20)) (sub_of hk.1 hk.2.1) ?_
                              refine al_Mod_1 M hW (x.toNatClampNeg - 20) rfl (by omega) (x := (thr u) 1 (x.toNatClampNeg - 20)) rfl dX7_count_217 ?_
                              refine lv_goto (tgt := 223) hx hb dX7_count_218 (by decide) ?_
                              exact r_reti M hW (by rw [sX7_count]) ⟨by rw [rX7_count, if_neg c_6_0, if_neg c_6_1, if_neg c_6_2, if_neg c_6_3, if_neg c_6_4, if_neg c_6_5, if_neg c_6_6, if_neg c_6_7, if_neg c_6_8, if_neg c_6_9, if_pos c_6_10, if_pos c_155_8, if_pos c_180_8, if_neg c_206_8], rfl⟩ (Nat.zero_le _) (Nat.zero_le _) dX7_count_223
                          · skip
                            have hk := in_c (a := 8) (b := 12) rfl rfl (by decide) (by decide) c_180_8
                            refine lv_aload_n hx hb dX7_count_183 rfl (lv_at hl 0 rfl) ?_
                            refine gt_Mod_0_1 M hW kw_392 dX7_count_184 ?_
                            refine lv_bipush (v := 11) hx hb dX7_count_187 (by decide) ?_
                            refine lv_iload_n hx hb dX7_count_189 rfl (lv_at hl 1 rfl) ?_
                            refine lv_iadd hx hb dX7_count_190 ?_
                            refine r_top (y := nI (11 + x.toNatClampNeg)) (nI_addl 11 hk.1) ?_
                            refine lv_bipush (v := 8) hx hb dX7_count_191 (by decide) ?_
                            refine lv_isub hx hb dX7_count_193 ?_
                            refine r_top (y := nI (11 + x.toNatClampNeg - 8)) (pk_sub (a := 11 + x.toNatClampNeg) (b := 8) (by omega)) ?_
                            refine al_Mod_1 M hW (11 + x.toNatClampNeg - 8) rfl (by omega) (x := (thr u) 1 (11 + x.toNatClampNeg - 8)) rfl dX7_count_194 ?_
                            refine lv_goto (tgt := 223) hx hb dX7_count_195 (by decide) ?_
                            exact r_reti M hW (by rw [sX7_count]) ⟨by rw [rX7_count, if_neg c_6_0, if_neg c_6_1, if_neg c_6_2, if_neg c_6_3, if_neg c_6_4, if_neg c_6_5, if_neg c_6_6, if_neg c_6_7, if_neg c_6_8, if_neg c_6_9, if_pos c_6_10, if_pos c_155_8, if_neg c_180_8], rfl⟩ (Nat.zero_le _) (Nat.zero_le _) dX7_count_223
                        · skip
                          have hk := in_c (a := 2) (b := 6) rfl rfl (by decide) (by decide) c_155_8
                          refine lv_aload_n hx hb dX7_count_158 rfl (lv_at hl 0 rfl) ?_
                          refine gt_Mod_0_1 M hW kw_392 dX7_count_159 ?_
                          refine lv_bipush (v := 6) hx hb dX7_count_162 (by decide) ?_
                          refine lv_iload_n hx hb dX7_count_164 rfl (lv_at hl 1 rfl) ?_
                          refine lv_iadd hx hb dX7_count_165 ?_
                          refine r_top (y := nI (6 + x.toNatClampNeg)) (nI_addl 6 hk.1) ?_
                          refine lv_iconst (v := 2) hx hb dX7_count_166 (by decide) ?_
                          refine lv_isub hx hb dX7_count_167 ?_
                          refine r_top (y := nI (6 + x.toNatClampNeg - 2)) (pk_sub (a := 6 + x.toNatClampNeg) (b := 2) (by omega)) ?_
                          refine al_Mod_1 M hW (6 + x.toNatClampNeg - 2) rfl (by omega) (x := (thr u) 1 (6 + x.toNatClampNeg - 2)) rfl dX7_count_168 ?_
                          refine lv_goto (tgt := 223) hx hb dX7_count_169 (by decide) ?_
                          exact r_reti M hW (by rw [sX7_count]) ⟨by rw [rX7_count, if_neg c_6_0, if_neg c_6_1, if_neg c_6_2, if_neg c_6_3, if_neg c_6_4, if_neg c_6_5, if_neg c_6_6, if_neg c_6_7, if_neg c_6_8, if_neg c_6_9, if_pos c_6_10, if_neg c_155_8], rfl⟩ (Nat.zero_le _) (Nat.zero_le _) dX7_count_223
                      · skip
                        by_cases c_6_11 : x = 11
                        · skip
                          refine lv_tableIn (off := 142) (tgt := 148) hx hb dX7_count_6 (by rw [c_6_11]; decide) (by rw [c_6_11]; decide) (by rw [c_6_11]; rfl) (by decide) ?_
                          refine lv_iload_n hx hb dX7_count_148 rfl (lv_at hl 1 rfl) ?_
                          refine lv_iconst (v := 2) hx hb dX7_count_149 (by decide) ?_
                          refine lv_bipush (v := 6) hx hb dX7_count_150 (by decide) ?_
                          refine r_callSi M hW (as := [.int x, .int 2, .int 6]) (c_X7_in l G x 2 6 (ModW G b (thr u) ++ Y)) rfl kw_441 kw_442 kw_412 kw_401 pl_X7_in ⟨by decide, by decide⟩ ⟨Nat.zero_le _, Nat.zero_le _⟩ hl.1 rfl (Nat.le_of_ble_eq_true rfl) dX7_count_152 (fun H locs hW => ?_)
                          refine lv_if_eq (tgt := 172) hx hb dX7_count_155 (by decide) (fun c_155_9 => ?_) (fun c_155_9 => ?_)
                          · skip
                            refine lv_iload_n hx hb dX7_count_172 rfl (lv_at hl 1 rfl) ?_
                            refine lv_bipush (v := 8) hx hb dX7_count_173 (by decide) ?_
                            refine lv_bipush (v := 12) hx hb dX7_count_175 (by decide) ?_
                            refine r_callSi M hW (as := [.int x, .int 8, .int 12]) (c_X7_in l G x 8 12 (ModW G b (thr u) ++ Y)) rfl kw_441 kw_442 kw_412 kw_401 pl_X7_in ⟨by decide, by decide⟩ ⟨Nat.zero_le _, Nat.zero_le _⟩ hl.1 rfl (Nat.le_of_ble_eq_true rfl) dX7_count_177 (fun H locs hW => ?_)
                            refine lv_if_eq (tgt := 198) hx hb dX7_count_180 (by decide) (fun c_180_9 => ?_) (fun c_180_9 => ?_)
                            · skip
                              refine lv_iload_n hx hb dX7_count_198 rfl (lv_at hl 1 rfl) ?_
                              refine lv_bipush (v := 20) hx hb dX7_count_199 (by decide) ?_
                              refine lv_bipush (v := 24) hx hb dX7_count_201 (by decide) ?_
                              refine r_callSi M hW (as := [.int x, .int 20, .int 24]) (c_X7_in l G x 20 24 (ModW G b (thr u) ++ Y)) rfl kw_441 kw_442 kw_412 kw_401 pl_X7_in ⟨by decide, by decide⟩ ⟨Nat.zero_le _, Nat.zero_le _⟩ hl.1 rfl (Nat.le_of_ble_eq_true rfl) dX7_count_203 (fun H locs hW => ?_)
                              refine lv_if_eq (tgt := 221) hx hb dX7_count_206 (by decide) (fun c_206_9 => ?_) (fun c_206_9 => ?_)
                              · skip
                                refine lv_bipush (v := (-102)) hx hb dX7_count_221 (by decide) ?_
                                exact r_reti M hW (by rw [sX7_count]) ⟨by rw [rX7_count, if_neg c_6_0, if_neg c_6_1, if_neg c_6_2, if_neg c_6_3, if_neg c_6_4, if_neg c_6_5, if_neg c_6_6, if_neg c_6_7, if_neg c_6_8, if_neg c_6_9, if_neg c_6_10, if_pos c_6_11, if_pos c_155_9, if_pos c_180_9, if_pos c_206_9], rfl⟩ (Nat.zero_le _) (Nat.zero_le _) dX7_count_223
                              · skip
                                have hk := in_c (a := 20) (b := 24) rfl rfl (by decide) (by decide) c_206_9
                                refine lv_aload_n hx hb dX7_count_209 rfl (lv_at hl 0 rfl) ?_
                                refine gt_Mod_0_1 M hW kw_392 dX7_count_210 ?_
                                refine lv_iload_n hx hb dX7_count_213 rfl (lv_at hl 1 rfl) ?_
                                refine lv_bipush (v := 20) hx hb dX7_count_214 (by decide) ?_
                                refine lv_isub hx hb dX7_count_216 ?_
                                refine r_top (y := nI (x.toNatClampNeg - 20)) (sub_of hk.1 hk.2.1) ?_
                                refine al_Mod_1 M hW (x.toNatClampNeg - 20) rfl (by omega) (x := (thr u) 1 (x.toNatClampNeg - 20)) rfl dX7_count_217 ?_
                                refine lv_goto (tgt := 223) hx hb dX7_count_218 (by decide) ?_
                                exact r_reti M hW (by rw [sX7_count]) ⟨by rw [rX7_count, if_neg c_6_0, if_neg c_6_1, if_neg c_6_2, if_neg c_6_3, if_neg c_6_4, if_neg c_6_5, if_neg c_6_6, if_neg c_6_7, if_neg c_6_8, if_neg c_6_9, if_neg c_6_10, if_pos c_6_11, if_pos c_155_9, if_pos c_180_9, if_neg c_206_9], rfl⟩ (Nat.zero_le _) (Nat.zero_le _) dX7_count_223
                            · skip
                              have hk := in_c (a := 8) (b := 12) rfl rfl (by decide) (by decide) c_180_9
                              refine lv_aload_n hx hb dX7_count_183 rfl (lv_at hl 0 rfl) ?_
                              refine gt_Mod_0_1 M hW kw_392 dX7_count_184 ?_
                              refine lv_bipush (v := 11) hx hb dX7_count_187 (by decide) ?_
                              refine lv_iload_n hx hb dX7_count_189 rfl (lv_at hl 1 rfl) ?_
                              refine lv_iadd hx hb dX7_count_190 ?_
                              refine r_top (y := nI (11 + x.toNatClampNeg)) (nI_addl 11 hk.1) ?_
                              refine lv_bipush (v := 8) hx hb dX7_count_191 (by decide) ?_
                              refine lv_isub hx hb dX7_count_193 ?_
                              refine r_top (y := nI (11 + x.toNatClampNeg - 8)) (pk_sub (a := 11 + x.toNatClampNeg) (b := 8) (by omega)) ?_
                              refine al_Mod_1 M hW (11 + x.toNatClampNeg - 8) rfl (by omega) (x := (thr u) 1 (11 + x.toNatClampNeg - 8)) rfl dX7_count_194 ?_
                              refine lv_goto (tgt := 223) hx hb dX7_count_195 (by decide) ?_
                              exact r_reti M hW (by rw [sX7_count]) ⟨by rw [rX7_count, if_neg c_6_0, if_neg c_6_1, if_neg c_6_2, if_neg c_6_3, if_neg c_6_4, if_neg c_6_5, if_neg c_6_6, if_neg c_6_7, if_neg c_6_8, if_neg c_6_9, if_neg c_6_10, if_pos c_6_11, if_pos c_155_9, if_neg c_180_9], rfl⟩ (Nat.zero_le _) (Nat.zero_le _) dX7_count_223
                          · skip
                            have hk := in_c (a := 2) (b := 6) rfl rfl (by decide) (by decide) c_155_9
                            refine lv_aload_n hx hb dX7_count_158 rfl (lv_at hl 0 rfl) ?_
                            refine gt_Mod_0_1 M hW kw_392 dX7_count_159 ?_
                            refine lv_bipush (v := 6) hx hb dX7_count_162 (by decide) ?_
                            refine lv_iload_n hx hb dX7_count_164 rfl (lv_at hl 1 rfl) ?_
                            refine lv_iadd hx hb dX7_count_165 ?_
                            refine r_top (y := nI (6 + x.toNatClampNeg)) (nI_addl 6 hk.1) ?_
                            refine lv_iconst (v := 2) hx hb dX7_count_166 (by decide) ?_
                            refine lv_isub hx hb dX7_count_167 ?_
                            refine r_top (y := nI (6 + x.toNatClampNeg - 2)) (pk_sub (a := 6 + x.toNatClampNeg) (b := 2) (by omega)) ?_
                            refine al_Mod_1 M hW (6 + x.toNatClampNeg - 2) rfl (by omega) (x := (thr u) 1 (6 + x.toNatClampNeg - 2)) rfl dX7_count_168 ?_
                            refine lv_goto (tgt := 223) hx hb dX7_count_169 (by decide) ?_
                            exact r_reti M hW (by rw [sX7_count]) ⟨by rw [rX7_count, if_neg c_6_0, if_neg c_6_1, if_neg c_6_2, if_neg c_6_3, if_neg c_6_4, if_neg c_6_5, if_neg c_6_6, if_neg c_6_7, if_neg c_6_8, if_neg c_6_9, if_neg c_6_10, if_pos c_6_11, if_neg c_155_9], rfl⟩ (Nat.zero_le _) (Nat.zero_le _) dX7_count_223
                        · skip
                          by_cases c_6_12 : x = 12
                          · skip
                            refine lv_tableIn (off := 142) (tgt := 148) hx hb dX7_count_6 (by rw [c_6_12]; decide) (by rw [c_6_12]; decide) (by rw [c_6_12]; rfl) (by decide) ?_
                            refine lv_iload_n hx hb dX7_count_148 rfl (lv_at hl 1 rfl) ?_
                            refine lv_iconst (v := 2) hx hb dX7_count_149 (by decide) ?_
                            refine lv_bipush (v := 6) hx hb dX7_count_150 (by decide) ?_
                            refine r_callSi M hW (as := [.int x, .int 2, .int 6]) (c_X7_in l G x 2 6 (ModW G b (thr u) ++ Y)) rfl kw_441 kw_442 kw_412 kw_401 pl_X7_in ⟨by decide, by decide⟩ ⟨Nat.zero_le _, Nat.zero_le _⟩ hl.1 rfl (Nat.le_of_ble_eq_true rfl) dX7_count_152 (fun H locs hW => ?_)
                            refine lv_if_eq (tgt := 172) hx hb dX7_count_155 (by decide) (fun c_155_10 => ?_) (fun c_155_10 => ?_)
                            · skip
                              refine lv_iload_n hx hb dX7_count_172 rfl (lv_at hl 1 rfl) ?_
                              refine lv_bipush (v := 8) hx hb dX7_count_173 (by decide) ?_
                              refine lv_bipush (v := 12) hx hb dX7_count_175 (by decide) ?_
                              refine r_callSi M hW (as := [.int x, .int 8, .int 12]) (c_X7_in l G x 8 12 (ModW G b (thr u) ++ Y)) rfl kw_441 kw_442 kw_412 kw_401 pl_X7_in ⟨by decide, by decide⟩ ⟨Nat.zero_le _, Nat.zero_le _⟩ hl.1 rfl (Nat.le_of_ble_eq_true rfl) dX7_count_177 (fun H locs hW => ?_)
                              refine lv_if_eq (tgt := 198) hx hb dX7_count_180 (by decide) (fun c_180_10 => ?_) (fun c_180_10 => ?_)
                              · skip
                                refine lv_iload_n hx hb dX7_count_198 rfl (lv_at hl 1 rfl) ?_
                                refine lv_bipush (v := 20) hx hb dX7_count_199 (by decide) ?_
                                refine lv_bipush (v := 24) hx hb dX7_count_201 (by decide) ?_
                                refine r_callSi M hW (as := [.int x, .int 20, .int 24]) (c_X7_in l G x 20 24 (ModW G b (thr u) ++ Y)) rfl kw_441 kw_442 kw_412 kw_401 pl_X7_in ⟨by decide, by decide⟩ ⟨Nat.zero_le _, Nat.zero_le _⟩ hl.1 rfl (Nat.le_of_ble_eq_true rfl) dX7_count_203 (fun H locs hW => ?_)
                                refine lv_if_eq (tgt := 221) hx hb dX7_count_206 (by decide) (fun c_206_10 => ?_) (fun c_206_10 => ?_)
                                · skip
                                  refine lv_bipush (v := (-102)) hx hb dX7_count_221 (by decide) ?_
                                  exact r_reti M hW (by rw [sX7_count]) ⟨by rw [rX7_count, if_neg c_6_0, if_neg c_6_1, if_neg c_6_2, if_neg c_6_3, if_neg c_6_4, if_neg c_6_5, if_neg c_6_6, if_neg c_6_7, if_neg c_6_8, if_neg c_6_9, if_neg c_6_10, if_neg c_6_11, if_pos c_6_12, if_pos c_155_10, if_pos c_180_10, if_pos c_206_10], rfl⟩ (Nat.zero_le _) (Nat.zero_le _) dX7_count_223
                                · skip
                                  have hk := in_c (a := 20) (b := 24) rfl rfl (by decide) (by decide) c_206_10
                                  refine lv_aload_n hx hb dX7_count_209 rfl (lv_at hl 0 rfl) ?_
                                  refine gt_Mod_0_1 M hW kw_392 dX7_count_210 ?_
                                  refine lv_iload_n hx hb dX7_count_213 rfl (lv_at hl 1 rfl) ?_
                                  refine lv_bipush (v := 20) hx hb dX7_count_214 (by decide) ?_
                                  refine lv_isub hx hb dX7_count_216 ?_
                                  refine r_top (y := nI (x.toNatClampNeg - 20)) (sub_of hk.1 hk.2.1) ?_
                                  refine al_Mod_1 M hW (x.toNatClampNeg - 20) rfl (by omega) (x := (thr u) 1 (x.toNatClampNeg - 20)) rfl dX7_count_217 ?_
                                  refine lv_goto (tgt := 223) hx hb dX7_count_218 (by decide) ?_
                                  exact r_reti M hW (by rw [sX7_count]) ⟨by rw [rX7_count, if_neg c_6_0, if_neg c_6_1, if_neg c_6_2, if_neg c_6_3, if_neg c_6_4, if_neg c_6_5, if_neg c_6_6, if_neg c_6_7, if_neg c_6_8, if_neg c_6_9, if_neg c_6_10, if_neg c_6_11, if_pos c_6_12, if_pos c_155_10, if_pos c_180_10, if_neg c_206_10], rfl⟩ (Nat.zero_le _) (Nat.zero_le _) dX7_count_223
                              · skip
                                have hk := in_c (a := 8) (b := 12) rfl rfl (by decide) (by decide) c_180_10
                                refine lv_aload_n hx hb dX7_count_183 rfl (lv_at hl 0 rfl) ?_
                                refine gt_Mod_0_1 M hW kw_392 dX7_count_184 ?_
                                refine lv_bipush (v := 11) hx hb dX7_count_187 (by decide) ?_
                                refine lv_iload_n hx hb dX7_count_189 rfl (lv_at hl 1 rfl) ?_
                                refine lv_iadd hx hb dX7_count_190 ?_
                                refine r_top (y := nI (11 + x.toNatClampNeg)) (nI_addl 11 hk.1) ?_
                                refine lv_bipush (v := 8) hx hb dX7_count_191 (by decide) ?_
                                refine lv_isub hx hb dX7_count_193 ?_
                                refine r_top (y := nI (11 + x.toNatClampNeg - 8)) (pk_sub (a := 11 + x.toNatClampNeg) (b := 8) (by omega)) ?_
                                refine al_Mod_1 M hW (11 + x.toNatClampNeg - 8) rfl (by omega) (x := (thr u) 1 (11 + x.toNatClampNeg - 8)) rfl dX7_count_194 ?_
                                refine lv_goto (tgt := 223) hx hb dX7_count_195 (by decide) ?_
                                exact r_reti M hW (by rw [sX7_count]) ⟨by rw [rX7_count, if_neg c_6_0, if_neg c_6_1, if_neg c_6_2, if_neg c_6_3, if_neg c_6_4, if_neg c_6_5, if_neg c_6_6, if_neg c_6_7, if_neg c_6_8, if_neg c_6_9, if_neg c_6_10, if_neg c_6_11, if_pos c_6_12, if_pos c_155_10, if_neg c_180_10], rfl⟩ (Nat.zero_le _) (Nat.zero_le _) dX7_count_223
                            · skip
                              have hk := in_c (a := 2) (b := 6) rfl rfl (by decide) (by decide) c_155_10
                              refine lv_aload_n hx hb dX7_count_158 rfl (lv_at hl 0 rfl) ?_
                              refine gt_Mod_0_1 M hW kw_392 dX7_count_159 ?_
                              refine lv_bipush (v := 6) hx hb dX7_count_162 (by decide) ?_
                              refine lv_iload_n hx hb dX7_count_164 rfl (lv_at hl 1 rfl) ?_
                              refine lv_iadd hx hb dX7_count_165 ?_
                              refine r_top (y := nI (6 + x.toNatClampNeg)) (nI_addl 6 hk.1) ?_
                              refine lv_iconst (v := 2) hx hb dX7_count_166 (by decide) ?_
                              refine lv_isub hx hb dX7_count_167 ?_
                              refine r_top (y := nI (6 + x.toNatClampNeg - 2)) (pk_sub (a := 6 + x.toNatClampNeg) (b := 2) (by omega)) ?_
                              refine al_Mod_1 M hW (6 + x.toNatClampNeg - 2) rfl (by omega) (x := (thr u) 1 (6 + x.toNatClampNeg - 2)) rfl dX7_count_168 ?_
                              refine lv_goto (tgt := 223) hx hb dX7_count_169 (by decide) ?_
                              exact r_reti M hW (by rw [sX7_count]) ⟨by rw [rX7_count, if_neg c_6_0, if_neg c_6_1, if_neg c_6_2, if_neg c_6_3, if_neg c_6_4, if_neg c_6_5, if_neg c_6_6, if_neg c_6_7, if_neg c_6_8, if_neg c_6_9, if_neg c_6_10, if_neg c_6_11, if_pos c_6_12, if_neg c_155_10], rfl⟩ (Nat.zero_le _) (Nat.zero_le _) dX7_count_223
                          · skip
                            by_cases c_6_13 : x = 13
                            · skip
                              refine lv_tableIn (off := 99) (tgt := 105) hx hb dX7_count_6 (by rw [c_6_13]; decide) (by rw [c_6_13]; decide) (by rw [c_6_13]; rfl) (by decide) ?_
                              refine lv_aload_n hx hb dX7_count_105 rfl (lv_at hl 0 rfl) ?_
                              refine gt_Mod_0_1 M hW kw_392 dX7_count_106 ?_
                              refine lv_bipush (v := 16) hx hb dX7_count_109 (by decide) ?_
                              refine al_Mod_1 M hW 16 rfl (by decide) (x := (thr u) 1 16) rfl dX7_count_111 ?_
                              refine lv_if_ne (tgt := 120) hx hb dX7_count_112 (by decide) (fun c_112 => ?_) (fun c_112 => ?_)
                              · skip
                                refine lv_aload_n hx hb dX7_count_120 rfl (lv_at hl 0 rfl) ?_
                                refine gt_Mod_0_1 M hW kw_392 dX7_count_121 ?_
                                refine lv_bipush (v := 16) hx hb dX7_count_124 (by decide) ?_
                                refine al_Mod_1 M hW 16 rfl (by decide) (x := (thr u) 1 16) rfl dX7_count_126 ?_
                                refine lv_iconst (v := 1) hx hb dX7_count_127 (by decide) ?_
                                refine lv_isub hx hb dX7_count_128 ?_
                                exact r_reti M hW (by rw [sX7_count]) ⟨by rw [rX7_count, if_neg c_6_0, if_neg c_6_1, if_neg c_6_2, if_neg c_6_3, if_neg c_6_4, if_neg c_6_5, if_neg c_6_6, if_neg c_6_7, if_neg c_6_8, if_neg c_6_9, if_neg c_6_10, if_neg c_6_11, if_neg c_6_12, if_pos c_6_13, if_neg c_112], rfl⟩ (Nat.zero_le _) (Nat.zero_le _) dX7_count_129
                              · skip
                                refine lv_bipush (v := (-105)) hx hb dX7_count_115 (by decide) ?_
                                refine lv_goto (tgt := 129) hx hb dX7_count_117 (by decide) ?_
                                exact r_reti M hW (by rw [sX7_count]) ⟨by rw [rX7_count, if_neg c_6_0, if_neg c_6_1, if_neg c_6_2, if_neg c_6_3, if_neg c_6_4, if_neg c_6_5, if_neg c_6_6, if_neg c_6_7, if_neg c_6_8, if_neg c_6_9, if_neg c_6_10, if_neg c_6_11, if_neg c_6_12, if_pos c_6_13, if_pos c_112], rfl⟩ (Nat.zero_le _) (Nat.zero_le _) dX7_count_129
                            · skip
                              by_cases c_6_14 : x = 14
                              · skip
                                refine lv_tableIn (off := 124) (tgt := 130) hx hb dX7_count_6 (by rw [c_6_14]; decide) (by rw [c_6_14]; decide) (by rw [c_6_14]; rfl) (by decide) ?_
                                refine lv_aload_n hx hb dX7_count_130 rfl (lv_at hl 0 rfl) ?_
                                refine gt_Mod_0_1 M hW kw_392 dX7_count_131 ?_
                                refine lv_bipush (v := 17) hx hb dX7_count_134 (by decide) ?_
                                refine al_Mod_1 M hW 17 rfl (by decide) (x := (thr u) 1 17) rfl dX7_count_136 ?_
                                exact r_reti M hW (by rw [sX7_count]) ⟨by rw [rX7_count, if_neg c_6_0, if_neg c_6_1, if_neg c_6_2, if_neg c_6_3, if_neg c_6_4, if_neg c_6_5, if_neg c_6_6, if_neg c_6_7, if_neg c_6_8, if_neg c_6_9, if_neg c_6_10, if_neg c_6_11, if_neg c_6_12, if_neg c_6_13, if_pos c_6_14], rfl⟩ (Nat.zero_le _) (Nat.zero_le _) dX7_count_137
                              · skip
                                by_cases c_6_15 : x = 15
                                · skip
                                  refine lv_tableIn (off := 132) (tgt := 138) hx hb dX7_count_6 (by rw [c_6_15]; decide) (by rw [c_6_15]; decide) (by rw [c_6_15]; rfl) (by decide) ?_
                                  refine lv_aload_n hx hb dX7_count_138 rfl (lv_at hl 0 rfl) ?_
                                  refine gt_Mod_0_4 M hW kw_403 (x := (thr u) 0 4) rfl dX7_count_139 ?_
                                  exact r_reti M hW (by rw [sX7_count]) ⟨by rw [rX7_count, if_neg c_6_0, if_neg c_6_1, if_neg c_6_2, if_neg c_6_3, if_neg c_6_4, if_neg c_6_5, if_neg c_6_6, if_neg c_6_7, if_neg c_6_8, if_neg c_6_9, if_neg c_6_10, if_neg c_6_11, if_neg c_6_12, if_neg c_6_13, if_neg c_6_14, if_pos c_6_15], rfl⟩ (Nat.zero_le _) (Nat.zero_le _) dX7_count_142
                                · skip
                                  by_cases c_6_16 : x = 16
                                  · skip
                                    refine lv_tableIn (off := 137) (tgt := 143) hx hb dX7_count_6 (by rw [c_6_16]; decide) (by rw [c_6_16]; decide) (by rw [c_6_16]; rfl) (by decide) ?_
                                    refine lv_aload_n hx hb dX7_count_143 rfl (lv_at hl 0 rfl) ?_
                                    refine gt_Mod_0_8 M hW kw_484 (x := (thr u) 0 8) rfl dX7_count_144 ?_
                                    exact r_reti M hW (by rw [sX7_count]) ⟨by rw [rX7_count, if_neg c_6_0, if_neg c_6_1, if_neg c_6_2, if_neg c_6_3, if_neg c_6_4, if_neg c_6_5, if_neg c_6_6, if_neg c_6_7, if_neg c_6_8, if_neg c_6_9, if_neg c_6_10, if_neg c_6_11, if_neg c_6_12, if_neg c_6_13, if_neg c_6_14, if_neg c_6_15, if_pos c_6_16], rfl⟩ (Nat.zero_le _) (Nat.zero_le _) dX7_count_147
                                  · skip
                                    refine lv_tableOut (tgt := 148) hx hb dX7_count_6 (tbl_out (0) (16) (fun k h1 h2 => ?_)) (by decide) ?_
                                    · have h3 : k = 0 ∨ k = 1 ∨ k = 2 ∨ k = 3 ∨ k = 4 ∨ k = 5 ∨ k = 6 ∨ k = 7 ∨ k = 8 ∨ k = 9 ∨ k = 10 ∨ k = 11 ∨ k = 12 ∨ k = 13 ∨ k = 14 ∨ k = 15 ∨ k = 16 := by omega
                                      rcases h3 with rfl | rfl | rfl | rfl | rfl | rfl | rfl | rfl | rfl | rfl | rfl | rfl | rfl | rfl | rfl | rfl | rfl
                                      · exact c_6_0
                                      · exact c_6_1
                                      · exact c_6_2
                                      · exact c_6_3
                                      · exact c_6_4
                                      · exact c_6_5
                                      · exact c_6_6
                                      · exact c_6_7
                                      · exact c_6_8
                                      · exact c_6_9
                                      · exact c_6_10
                                      · exact c_6_11
                                      · exact c_6_12
                                      · exact c_6_13
                                      · exact c_6_14
                                      · exact c_6_15
                                      · exact c_6_16
                                    refine lv_iload_n hx hb dX7_count_148 rfl (lv_at hl 1 rfl) ?_
                                    refine lv_iconst (v := 2) hx hb dX7_count_149 (by decide) ?_
                                    refine lv_bipush (v := 6) hx hb dX7_count_150 (by decide) ?_
                                    refine r_callSi M hW (as := [.int x, .int 2, .int 6]) (c_X7_in l G x 2 6 (ModW G b (thr u) ++ Y)) rfl kw_441 kw_442 kw_412 kw_401 pl_X7_in ⟨by decide, by decide⟩ ⟨Nat.zero_le _, Nat.zero_le _⟩ hl.1 rfl (Nat.le_of_ble_eq_true rfl) dX7_count_152 (fun H locs hW => ?_)
                                    refine lv_if_eq (tgt := 172) hx hb dX7_count_155 (by decide) (fun c_155_11 => ?_) (fun c_155_11 => ?_)
                                    · skip
                                      refine lv_iload_n hx hb dX7_count_172 rfl (lv_at hl 1 rfl) ?_
                                      refine lv_bipush (v := 8) hx hb dX7_count_173 (by decide) ?_
                                      refine lv_bipush (v := 12) hx hb dX7_count_175 (by decide) ?_
                                      refine r_callSi M hW (as := [.int x, .int 8, .int 12]) (c_X7_in l G x 8 12 (ModW G b (thr u) ++ Y)) rfl kw_441 kw_442 kw_412 kw_401 pl_X7_in ⟨by decide, by decide⟩ ⟨Nat.zero_le _, Nat.zero_le _⟩ hl.1 rfl (Nat.le_of_ble_eq_true rfl) dX7_count_177 (fun H locs hW => ?_)
                                      refine lv_if_eq (tgt := 198) hx hb dX7_count_180 (by decide) (fun c_180_11 => ?_) (fun c_180_11 => ?_)
                                      · skip
                                        refine lv_iload_n hx hb dX7_count_198 rfl (lv_at hl 1 rfl) ?_
                                        refine lv_bipush (v := 20) hx hb dX7_count_199 (by decide) ?_
                                        refine lv_bipush (v := 24) hx hb dX7_count_201 (by decide) ?_
                                        refine r_callSi M hW (as := [.int x, .int 20, .int 24]) (c_X7_in l G x 20 24 (ModW G b (thr u) ++ Y)) rfl kw_441 kw_442 kw_412 kw_401 pl_X7_in ⟨by decide, by decide⟩ ⟨Nat.zero_le _, Nat.zero_le _⟩ hl.1 rfl (Nat.le_of_ble_eq_true rfl) dX7_count_203 (fun H locs hW => ?_)
                                        refine lv_if_eq (tgt := 221) hx hb dX7_count_206 (by decide) (fun c_206_11 => ?_) (fun c_206_11 => ?_)
                                        · skip
                                          refine lv_bipush (v := (-102)) hx hb dX7_count_221 (by decide) ?_
                                          exact r_reti M hW (by rw [sX7_count]) ⟨by rw [rX7_count, if_neg c_6_0, if_neg c_6_1, if_neg c_6_2, if_neg c_6_3, if_neg c_6_4, if_neg c_6_5, if_neg c_6_6, if_neg c_6_7, if_neg c_6_8, if_neg c_6_9, if_neg c_6_10, if_neg c_6_11, if_neg c_6_12, if_neg c_6_13, if_neg c_6_14, if_neg c_6_15, if_neg c_6_16, if_pos c_155_11, if_pos c_180_11, if_pos c_206_11], rfl⟩ (Nat.zero_le _) (Nat.zero_le _) dX7_count_223
                                        · skip
                                          have hk := in_c (a := 20) (b := 24) rfl rfl (by decide) (by decide) c_206_11
                                          refine lv_aload_n hx hb dX7_count_209 rfl (lv_at hl 0 rfl) ?_
                                          refine gt_Mod_0_1 M hW kw_392 dX7_count_210 ?_
                                          refine lv_iload_n hx hb dX7_count_213 rfl (lv_at hl 1 rfl) ?_
                                          refine lv_bipush (v := 20) hx hb dX7_count_214 (by decide) ?_
                                          refine lv_isub hx hb dX7_count_216 ?_
                                          refine r_top (y := nI (x.toNatClampNeg - 20)) (sub_of hk.1 hk.2.1) ?_
                                          refine al_Mod_1 M hW (x.toNatClampNeg - 20) rfl (by omega) (x := (thr u) 1 (x.toNatClampNeg - 20)) rfl dX7_count_217 ?_
                                          refine lv_goto (tgt := 223) hx hb dX7_count_218 (by decide) ?_
                                          exact r_reti M hW (by rw [sX7_count]) ⟨by rw [rX7_count, if_neg c_6_0, if_neg c_6_1, if_neg c_6_2, if_neg c_6_3, if_neg c_6_4, if_neg c_6_5, if_neg c_6_6, if_neg c_6_7, if_neg c_6_8, if_neg c_6_9, if_neg c_6_10, if_neg c_6_11, if_neg c_6_12, if_neg c_6_13, if_neg c_6_14, if_neg c_6_15, if_neg c_6_16, if_pos c_155_11, if_pos c_180_11, if_neg c_206_11], rfl⟩ (Nat.zero_le _) (Nat.zero_le _) dX7_count_223
                                      · skip
                                        have hk := in_c (a := 8) (b := 12) rfl rfl (by decide) (by decide) c_180_11
                                        refine lv_aload_n hx hb dX7_count_183 rfl (lv_at hl 0 rfl) ?_
                                        refine gt_Mod_0_1 M hW kw_392 dX7_count_184 ?_
                                        refine lv_bipush (v := 11) hx hb dX7_count_187 (by decide) ?_
                                        refine lv_iload_n hx hb dX7_count_189 rfl (lv_at hl 1 rfl) ?_
                                        refine lv_iadd hx hb dX7_count_190 ?_
                                        refine r_top (y := nI (11 + x.toNatClampNeg)) (nI_addl 11 hk.1) ?_
                                        refine lv_bipush (v := 8) hx hb dX7_count_191 (by decide) ?_
                                        refine lv_isub hx hb dX7_count_193 ?_
                                        refine r_top (y := nI (11 + x.toNatClampNeg - 8)) (pk_sub (a := 11 + x.toNatClampNeg) (b := 8) (by omega)) ?_
                                        refine al_Mod_1 M hW (11 + x.toNatClampNeg - 8) rfl (by omega) (x := (thr u) 1 (11 + x.toNatClampNeg - 8)) rfl dX7_count_194 ?_
                                        refine lv_goto (tgt := 223) hx hb dX7_count_195 (by decide) ?_
                                        exact r_reti M hW (by rw [sX7_count]) ⟨by rw [rX7_count, if_neg c_6_0, if_neg c_6_1, if_neg c_6_2, if_neg c_6_3, if_neg c_6_4, if_neg c_6_5, if_neg c_6_6, if_neg c_6_7, if_neg c_6_8, if_neg c_6_9, if_neg c_6_10, if_neg c_6_11, if_neg c_6_12, if_neg c_6_13, if_neg c_6_14, if_neg c_6_15, if_neg c_6_16, if_pos c_155_11, if_neg c_180_11], rfl⟩ (Nat.zero_le _) (Nat.zero_le _) dX7_count_223
                                    · skip
                                      have hk := in_c (a := 2) (b := 6) rfl rfl (by decide) (by decide) c_155_11
                                      refine lv_aload_n hx hb dX7_count_158 rfl (lv_at hl 0 rfl) ?_
                                      refine gt_Mod_0_1 M hW kw_392 dX7_count_159 ?_
                                      refine lv_bipush (v := 6) hx hb dX7_count_162 (by decide) ?_
                                      refine lv_iload_n hx hb dX7_count_164 rfl (lv_at hl 1 rfl) ?_
                                      refine lv_iadd hx hb dX7_count_165 ?_
                                      refine r_top (y := nI (6 + x.toNatClampNeg)) (nI_addl 6 hk.1) ?_
                                      refine lv_iconst (v := 2) hx hb dX7_count_166 (by decide) ?_
                                      refine lv_isub hx hb dX7_count_167 ?_
                                      refine r_top (y := nI (6 + x.toNatClampNeg - 2)) (pk_sub (a := 6 + x.toNatClampNeg) (b := 2) (by omega)) ?_
                                      refine al_Mod_1 M hW (6 + x.toNatClampNeg - 2) rfl (by omega) (x := (thr u) 1 (6 + x.toNatClampNeg - 2)) rfl dX7_count_168 ?_
                                      refine lv_goto (tgt := 223) hx hb dX7_count_169 (by decide) ?_
                                      exact r_reti M hW (by rw [sX7_count]) ⟨by rw [rX7_count, if_neg c_6_0, if_neg c_6_1, if_neg c_6_2, if_neg c_6_3, if_neg c_6_4, if_neg c_6_5, if_neg c_6_6, if_neg c_6_7, if_neg c_6_8, if_neg c_6_9, if_neg c_6_10, if_neg c_6_11, if_neg c_6_12, if_neg c_6_13, if_neg c_6_14, if_neg c_6_15, if_neg c_6_16, if_neg c_155_11], rfl⟩ (Nat.zero_le _) (Nat.zero_le _) dX7_count_223
