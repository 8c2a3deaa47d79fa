def jX7_watches_70 (h : Nat → Nat → Int32) (i : Nat) : Nat → Nat → Int32 := if (if (rX7_seesTooMuch h (nI i)) = 0 then 0 else (h 1 (30 + i)) + 1) < (3 - (nI i)) then up2 h 1 (30 + i) (if (rX7_seesTooMuch h (nI i)) = 0 then 0 else (h 1 (30 + i)) + 1) else if ((up2 h 1 (30 + i) (if (rX7_seesTooMuch h (nI i)) = 0 then 0 else (h 1 (30 + i)) + 1)) 1 14) = 1 then sX7_trips (up2 h 1 (30 + i) (if (rX7_seesTooMuch h (nI i)) = 0 then 0 else (h 1 (30 + i)) + 1)) (nI i) else up2 h 1 (30 + i) (if (rX7_seesTooMuch h (nI i)) = 0 then 0 else (h 1 (30 + i)) + 1)
def sX7_watches (u : Nat → Nat → Int32) : Nat → Nat → Int32 := iterN (fun i h => jX7_watches_70 h i) 3 u
set_option maxHeartbeats 4000000 in
set_option maxRecDepth 100000 in
/-- X7.watches -/
theorem c_X7_watches (l : Launch) (G : Gp) (b : Nat → Nat) (u : Nat → Nat → Int32) (Y : va_W) : Cn l G yX7_watches cX7_watches 2 none 2 [.ref (b 0)] (ModW G b u ++ Y) none (ModW G b (sX7_watches u) ++ Y) := by
  refine CnE.of (by decide) (Nat.le_of_ble_eq_true rfl) ?_
  intro p e s m below meth c ls M hnm hl hW
  have hx := M.1
  have hb := M.2.1
  have hl : lv_has ls 2 [(0, .ref (b 0))] := hl
  refine lv_iconst (v := 0) hx hb dX7_watches_0 (by decide) ?_
  refine lv_istore_n (lv' := [(1, .int 0), (0, .ref (b 0))]) hx hb dX7_watches_1 rfl hl (by decide) rfl (fun ls hl => ?_)
  refine r_loop (σ := Array Slot × Nat) (fun r uL H1 l1 => uL.2 + r = 3 ∧ lv_has uL.1 2 [(1, .int (nI uL.2)), (0, .ref (b 0))] ∧ Wd G s (ModW G b (iterN (fun i h => jX7_watches_70 h i) uL.2 u) ++ Y) H1 l1) (fun uL => F0 m 2 uL.1 []) ?_ ?_ (3) (ls, 0) _ _ ⟨Nat.zero_add _, lv_sub hl [0, 1] rfl, hW⟩
  · skip
    intro uL H locs hI
    obtain ⟨ls, i⟩ := uL
    obtain ⟨hu, hl, hW⟩ := hI
    dsimp only at hu hl hW ⊢
    have hu : i = 3 := hu
    subst hu
    refine lv_iload_n hx hb dX7_watches_2 rfl (lv_at hl 0 rfl) ?_
    refine lv_iconst (v := 3) hx hb dX7_watches_3 (by decide) ?_
    refine lv_icmp_ge (tgt := 76) hx hb dX7_watches_4 (by decide) (fun c_4 => ?_) (fun c_4 => ?_)
    · skip
      exact r_retv M hW (by rw [sX7_watches]) ⟨rfl, rfl⟩ (Nat.zero_le _) (Nat.zero_le _) dX7_watches_76
    · skip
      exact absurd (nI_le (Nat.le_refl 3) (by decide)) c_4
  · skip
    intro n ih uL H locs hI
    obtain ⟨ls, i⟩ := uL
    obtain ⟨hu, hl, hW⟩ := hI
    dsimp only at hu hl hW ⊢
    have hlt : i < 3 := by omega
    refine lv_iload_n hx hb dX7_watches_2 rfl (lv_at hl 0 rfl) ?_
    refine lv_iconst (v := 3) hx hb dX7_watches_3 (by decide) ?_
    refine lv_icmp_ge (tgt := 76) hx hb dX7_watches_4 (by decide) (fun c_4_2 => ?_) (fun c_4_2 => ?_)
    · skip
      exact absurd c_4_2 (nI_ge hlt (by decide))
    · skip
      refine r_cut (σ := Unit) (fun _ H1 l1 => Wd G s (ModW G b (jX7_watches_70 (iterN (fun i h => jX7_watches_70 h i) i u) i) ++ Y) H1 l1) (fun _ => F0 m 70 ls []) (fun _ H locs hW => ?_) (fun hJ_70 => ?_)
      · skip
        refine lv_iinc (v := nI (i + 1)) (lv' := [(1, .int (nI (i + 1))), (0, .ref (b 0))]) hx hb dX7_watches_70 hl (k := 0) rfl (nI_1 i) (by decide) rfl (fun ls hl => ?_)
        refine lv_goto (tgt := 2) hx hb dX7_watches_73 (by decide) ?_
        exact ih (ls, i + 1) _ _ ⟨by dsimp only; omega, lv_sub hl [0, 1] rfl, (by dsimp only; rw [iterN_succ]; exact hW)⟩
      · skip
        refine lv_aload_n hx hb dX7_watches_7 rfl (lv_at hl 1 rfl) ?_
        refine gt_Mod_0_1 M hW kw_392 dX7_watches_8 ?_
        refine lv_bipush (v := 30) hx hb dX7_watches_11 (by decide) ?_
        refine lv_iload_n hx hb dX7_watches_13 rfl (lv_at hl 0 rfl) ?_
        refine lv_iadd hx hb dX7_watches_14 ?_
        refine r_top (y := nI (30 + i)) (nI_add 30 i) ?_
        refine lv_aload_n hx hb dX7_watches_15 rfl (lv_at hl 1 rfl) ?_
        refine lv_iload_n hx hb dX7_watches_16 rfl (lv_at hl 0 rfl) ?_
        refine r_callVi M hW (c_X7_seesTooMuch l G b (iterN (fun i h => jX7_watches_70 h i) i u) (nI i) (Y)) rfl kw_420 kw_421 kw_422 kw_412 kw_414 pl_X7_seesTooMuch 0 rfl rfl ⟨by decide, by decide⟩ ⟨Nat.zero_le _, Nat.zero_le _⟩ hl.1 rfl (Nat.le_of_ble_eq_true rfl) dX7_watches_17 (fun H locs hW => ?_)
        refine r_cuti (pc2 := 38) (ls2 := ls) (st := [.int (nI (30 + i)), .ref (b 1)]) (if (rX7_seesTooMuch (iterN (fun i h => jX7_watches_70 h i) i u) (nI i)) = 0 then 0 else ((iterN (fun i h => jX7_watches_70 h i) i u) 1 (30 + i)) + 1) (fun x_38 hx_38 => ?_) (fun hJ_38 => ?_)
        · skip
          subst hx_38
          refine as_Mod_1 M hW (30 + i) rfl (by omega) dX7_watches_38 (fun H locs hW => ?_)
          refine lv_aload_n hx hb dX7_watches_39 rfl (lv_at hl 1 rfl) ?_
          refine gt_Mod_0_1 M hW kw_392 dX7_watches_40 ?_
          refine lv_bipush (v := 30) hx hb dX7_watches_43 (by decide) ?_
          refine lv_iload_n hx hb dX7_watches_45 rfl (lv_at hl 0 rfl) ?_
          refine lv_iadd hx hb dX7_watches_46 ?_
          refine r_top (y := nI (30 + i)) (nI_add 30 i) ?_
          refine al_Mod_1 M hW (30 + i) rfl (by omega) (x := if (rX7_seesTooMuch (iterN (fun i h => jX7_watches_70 h i) i u) (nI i)) = 0 then 0 else ((iterN (fun i h => jX7_watches_70 h i) i u) 1 (30 + i)) + 1) up2_s dX7_watches_47 ?_
          refine lv_iconst (v := 3) hx hb dX7_watches_48 (by decide) ?_
          refine lv_iload_n hx hb dX7_watches_49 rfl (lv_at hl 0 rfl) ?_
          refine lv_isub hx hb dX7_watches_50 ?_
          refine lv_icmp_lt (tgt := 70) hx hb dX7_watches_51 (by decide) (fun c_51 => ?_) (fun c_51 => ?_)
          · skip
            exact hJ_70 () _ _ (by rw [jX7_watches_70, if_pos c_51]; exact hW)
          · skip
            refine lv_aload_n hx hb dX7_watches_54 rfl (lv_at hl 1 rfl) ?_
            refine gt_Mod_0_1 M hW kw_392 dX7_watches_55 ?_
            refine lv_bipush (v := 14) hx hb dX7_watches_58 (by decide) ?_
            refine al_Mod_1 M hW 14 rfl (by decide) (x := (up2 (iterN (fun i h => jX7_watches_70 h i) i u) 1 (30 + i) (if (rX7_seesTooMuch (iterN (fun i h => jX7_watches_70 h i) i u) (nI i)) = 0 then 0 else ((iterN (fun i h => jX7_watches_70 h i) i u) 1 (30 + i)) + 1)) 1 14) rfl dX7_watches_60 ?_
            refine lv_iconst (v := 1) hx hb dX7_watches_61 (by decide) ?_
            refine lv_icmp_ne (tgt := 70) hx hb dX7_watches_62 (by decide) (fun c_62 => ?_) (fun c_62 => ?_)
            · skip
              exact hJ_70 () _ _ (by rw [jX7_watches_70, if_neg c_51, if_neg c_62]; exact hW)
            · skip
              refine lv_aload_n hx hb dX7_watches_65 rfl (lv_at hl 1 rfl) ?_
              refine lv_iload_n hx hb dX7_watches_66 rfl (lv_at hl 0 rfl) ?_
              refine r_callVv M hW (c_X7_trips l G b (up2 (iterN (fun i h => jX7_watches_70 h i) i u) 1 (30 + i) (if (rX7_seesTooMuch (iterN (fun i h => jX7_watches_70 h i) i u) (nI i)) = 0 then 0 else ((iterN (fun i h => jX7_watches_70 h i) i u) 1 (30 + i)) + 1)) (nI i) (Y) ⟨(by rw [nI_clamp (by omega)]), (by rw [nI_clamp (by omega)]; omega)⟩) rfl kw_423 kw_424 kw_425 kw_412 kw_415 pl_X7_trips 0 rfl rfl ⟨by decide, by decide⟩ ⟨Nat.zero_le _, Nat.zero_le _⟩ hl.1 rfl (Nat.le_of_ble_eq_true rfl) dX7_watches_67 (fun H locs hW => ?_)
              exact hJ_70 () _ _ (by rw [jX7_watches_70, if_neg c_51, if_pos c_62]; exact hW)
        · skip
          refine lv_if_eq (tgt := 37) hx hb dX7_watches_20 (by decide) (fun c_20 => ?_) (fun c_20 => ?_)
          · skip
            refine lv_iconst (v := 0) hx hb dX7_watches_37 (by decide) ?_
            exact hJ_38 _ (by rw [if_pos c_20])
          · skip
            refine lv_aload_n hx hb dX7_watches_23 rfl (lv_at hl 1 rfl) ?_
            refine gt_Mod_0_1 M hW kw_392 dX7_watches_24 ?_
            refine lv_bipush (v := 30) hx hb dX7_watches_27 (by decide) ?_
            refine lv_iload_n hx hb dX7_watches_29 rfl (lv_at hl 0 rfl) ?_
            refine lv_iadd hx hb dX7_watches_30 ?_
            refine r_top (y := nI (30 + i)) (nI_add 30 i) ?_
            refine al_Mod_1 M hW (30 + i) rfl (by omega) (x := (iterN (fun i h => jX7_watches_70 h i) i u) 1 (30 + i)) rfl dX7_watches_31 ?_
            refine lv_iconst (v := 1) hx hb dX7_watches_32 (by decide) ?_
            refine lv_iadd hx hb dX7_watches_33 ?_
            refine lv_goto (tgt := 38) hx hb dX7_watches_34 (by decide) ?_
            exact hJ_38 _ (by rw [if_neg c_20])
