def jX7_records_48 (h : Nat → Nat → Int32) : Nat → Nat → Int32 := if (h 0 4) = 4 then up2 (iterN (fun k h => up2 h 3 k (h 3 (k + 56))) 168 h) 0 4 (((iterN (fun k h => up2 h 3 k (h 3 (k + 56))) 168 h) 0 4) - 1) else h
theorem rec48a (u : Nat → Nat → Int32) : (iterN (fun k h => up2 h 3 k (h 3 (k + 56))) 168 u) 0 4 = u 0 4 := congrFun (iter_at (F := fun k h => up2 h 3 k (h 3 (k + 56))) 0 (fun _ _ => up2_ne (by decide)) 168 u) 4
theorem rec48 {u : Nat → Nat → Int32} (hn : MSz u) : (jX7_records_48 u) 0 4 = nI (mN u) := by
  unfold jX7_records_48 mN
  by_cases c : u 0 4 = 4
  · rw [if_pos c, if_pos c, up2_c, if_pos rfl, rec48a, c]
    exact nI_pred 3
  · rw [if_neg c, if_neg c]
    exact hn.eq.1
theorem rec04 {u : Nat → Nat → Int32} (hn : MSz u) (n : Nat) : (iterN (fun k h => up2 h 3 (56 * mN u + k) (h 1 k)) n (jX7_records_48 u)) 0 4 = nI (mN u) := (congrFun (iter_at (F := fun k h => up2 h 3 (56 * mN u + k) (h 1 k)) 0 (fun _ _ => up2_ne (by decide)) n (jX7_records_48 u)) 4).trans (rec48 hn)

def sX7_records (u : Nat → Nat → Int32) : Nat → Nat → Int32 := up2 (iterN (fun k h => up2 h 3 (56 * mN u + k) (h 1 k)) 56 (jX7_records_48 u)) 0 4 (nI (mN u + 1))
set_option maxHeartbeats 4000000 in
set_option maxRecDepth 100000 in
/-- X7.records -/
theorem c_X7_records (l : Launch) (G : Gp) (b : Nat → Nat) (u : Nat → Nat → Int32) (Y : va_W) (hn : MSz u) : Cn l G yX7_records cX7_records 2 none 0 [.ref (b 0)] (ModW G b u ++ Y) none (ModW G b (sX7_records u) ++ Y) := by
  refine CnE.of (by decide) (Nat.le_of_ble_eq_true rfl) ?_
  intro p e s m below meth c ls M hnm hl hW
  have hx := M.1
  have hb := M.2.1
  have hl : lv_has ls 2 [(0, .ref (b 0))] := hl
  refine r_cut (σ := Array Slot) (fun ls H1 l1 => lv_has ls 2 [(0, .ref (b 0))] ∧ Wd G s (ModW G b (jX7_records_48 u) ++ Y) H1 l1) (fun ls => F0 m 48 ls []) (fun ls H locs hI => ?_) (fun hJ_48 => ?_)
  · skip
    obtain ⟨hl, hW⟩ := hI
    refine lv_iconst (v := 0) hx hb dX7_records_48 (by decide) ?_
    refine lv_istore_n (lv' := [(1, .int 0), (0, .ref (b 0))]) hx hb dX7_records_49 rfl hl (by decide) rfl (fun ls hl => ?_)
    have hmN := hn.le
    refine r_loop (σ := Array Slot × Nat) (fun r uL H1 l1 => uL.2 + r = 56 ∧ lv_has uL.1 2 [(1, .int (nI uL.2)), (0, .ref (b 0))] ∧ Wd G s (ModW G b (iterN (fun k h => up2 h 3 (56 * mN u + k) (h 1 k)) uL.2 (jX7_records_48 u)) ++ Y) H1 l1) (fun uL => F0 m 50 uL.1 []) ?_ ?_ (56) (ls, 0) _ _ ⟨Nat.zero_add _, lv_sub hl [0, 1] rfl, hW⟩
    · skip
      intro uL H locs hI
      obtain ⟨ls, i⟩ := uL
      obtain ⟨hu, hl, hW⟩ := hI
      dsimp only at hu hl hW ⊢
      have hu : i = 56 := hu
      subst hu
      refine lv_iload_n hx hb dX7_records_50 rfl (lv_at hl 0 rfl) ?_
      refine lv_bipush (v := 56) hx hb dX7_records_51 (by decide) ?_
      refine lv_icmp_ge (tgt := 82) hx hb dX7_records_53 (by decide) (fun c_53 => ?_) (fun c_53 => ?_)
      · skip
        refine lv_aload_n hx hb dX7_records_82 rfl (lv_at hl 1 rfl) ?_
        refine lv_dup hx hb dX7_records_83 rfl ?_
        refine gt_Mod_0_4 M hW kw_403 (x := nI (mN u)) (rec04 hn _) dX7_records_84 ?_
        refine lv_iconst (v := 1) hx hb dX7_records_87 (by decide) ?_
        refine lv_iadd hx hb dX7_records_88 ?_
        refine r_top (y := nI (mN u + 1)) (nI_1 _) ?_
        refine pt_Mod_0_4 M hW kw_403 dX7_records_89 (fun H locs hW => ?_)
        exact r_retv M hW (by rw [sX7_records]) ⟨rfl, rfl⟩ (Nat.zero_le _) (Nat.zero_le _) dX7_records_92
      · skip
        exact absurd (nI_le (Nat.le_refl 56) (by decide)) c_53
    · skip
      intro n ih uL H locs hI
      obtain ⟨ls, i⟩ := uL
      obtain ⟨hu, hl, hW⟩ := hI
      dsimp only at hu hl hW ⊢
      have hlt : i < 56 := by omega
      refine lv_iload_n hx hb dX7_records_50 rfl (lv_at hl 0 rfl) ?_
      refine lv_bipush (v := 56) hx hb dX7_records_51 (by decide) ?_
      refine lv_icmp_ge (tgt := 82) hx hb dX7_records_53 (by decide) (fun c_53_2 => ?_) (fun c_53_2 => ?_)
      · skip
        exact absurd c_53_2 (nI_ge hlt (by decide))
      · skip
        refine lv_aload_n hx hb dX7_records_56 rfl (lv_at hl 1 rfl) ?_
        refine gt_Mod_0_3 M hW kw_394 dX7_records_57 ?_
        refine lv_bipush (v := 56) hx hb dX7_records_60 (by decide) ?_
        refine lv_aload_n hx hb dX7_records_62 rfl (lv_at hl 1 rfl) ?_
        refine gt_Mod_0_4 M hW kw_403 (x := nI (mN u)) (rec04 hn _) dX7_records_63 ?_
        refine lv_imul hx hb dX7_records_66 ?_
        refine r_top (y := nI (56 * mN u)) (pk_mul 56 _) ?_
        refine lv_iload_n hx hb dX7_records_67 rfl (lv_at hl 0 rfl) ?_
        refine lv_iadd hx hb dX7_records_68 ?_
        refine r_top (y := nI (56 * mN u + i)) (nI_add _ _) ?_
        refine lv_aload_n hx hb dX7_records_69 rfl (lv_at hl 1 rfl) ?_
        refine gt_Mod_0_1 M hW kw_392 dX7_records_70 ?_
        refine lv_iload_n hx hb dX7_records_73 rfl (lv_at hl 0 rfl) ?_
        refine al_Mod_1 M hW i rfl (by omega) (x := (iterN (fun k h => up2 h 3 (56 * mN u + k) (h 1 k)) i (jX7_records_48 u)) 1 i) rfl dX7_records_74 ?_
        refine as_Mod_3 M hW (56 * mN u + i) rfl (by omega) dX7_records_75 (fun H locs hW => ?_)
        refine lv_iinc (v := nI (i + 1)) (lv' := [(1, .int (nI (i + 1))), (0, .ref (b 0))]) hx hb dX7_records_76 hl (k := 0) rfl (nI_1 i) (by decide) rfl (fun ls hl => ?_)
        refine lv_goto (tgt := 50) hx hb dX7_records_79 (by decide) ?_
        exact ih (ls, i + 1) _ _ ⟨by dsimp only; omega, lv_sub hl [0, 1] rfl, (by dsimp only; rw [iterN_succ]; exact hW)⟩
  · skip
    refine lv_aload_n hx hb dX7_records_0 rfl (lv_at hl 0 rfl) ?_
    refine gt_Mod_0_4 M hW kw_403 (x := u 0 4) rfl dX7_records_1 ?_
    refine lv_iconst (v := 4) hx hb dX7_records_4 (by decide) ?_
    refine lv_icmp_ne (tgt := 48) hx hb dX7_records_5 (by decide) (fun c_5 => ?_) (fun c_5 => ?_)
    · skip
      exact hJ_48 ls _ _ ⟨lv_sub hl [0] rfl, (by rw [jX7_records_48, if_neg c_5]; exact hW)⟩
    · skip
      refine lv_iconst (v := 0) hx hb dX7_records_8 (by decide) ?_
      refine lv_istore_n (lv' := [(1, .int 0), (0, .ref (b 0))]) hx hb dX7_records_9 rfl hl (by decide) rfl (fun ls hl => ?_)
      refine r_loop (σ := Array Slot × Nat) (fun r uL H1 l1 => uL.2 + r = 168 ∧ lv_has uL.1 2 [(1, .int (nI uL.2)), (0, .ref (b 0))] ∧ Wd G s (ModW G b (iterN (fun k h => up2 h 3 k (h 3 (k + 56))) uL.2 u) ++ Y) H1 l1) (fun uL => F0 m 10 uL.1 []) ?_ ?_ (168) (ls, 0) _ _ ⟨Nat.zero_add _, lv_sub hl [0, 1] rfl, hW⟩
      · skip
        intro uL H locs hI
        obtain ⟨ls, i⟩ := uL
        obtain ⟨hu, hl, hW⟩ := hI
        dsimp only at hu hl hW ⊢
        have hu : i = 168 := hu
        subst hu
        refine lv_iload_n hx hb dX7_records_10 rfl (lv_at hl 0 rfl) ?_
        refine lv_sipush (v := 168) hx hb dX7_records_11 (by decide) ?_
        refine lv_icmp_ge (tgt := 38) hx hb dX7_records_14 (by decide) (fun c_14 => ?_) (fun c_14 => ?_)
        · skip
          refine lv_aload_n hx hb dX7_records_38 rfl (lv_at hl 1 rfl) ?_
          refine lv_dup hx hb dX7_records_39 rfl ?_
          refine gt_Mod_0_4 M hW kw_403 (x := (iterN (fun k h => up2 h 3 k (h 3 (k + 56))) 168 u) 0 4) rfl dX7_records_40 ?_
          refine lv_iconst (v := 1) hx hb dX7_records_43 (by decide) ?_
          refine lv_isub hx hb dX7_records_44 ?_
          refine pt_Mod_0_4 M hW kw_403 dX7_records_45 (fun H locs hW => ?_)
          exact hJ_48 ls _ _ ⟨lv_sub hl [1] rfl, (by rw [jX7_records_48, if_pos c_5]; exact hW)⟩
        · skip
          exact absurd (nI_le (Nat.le_refl 168) (by decide)) c_14
      · skip
        intro n ih uL H locs hI
        obtain ⟨ls, i⟩ := uL
        obtain ⟨hu, hl, hW⟩ := hI
        dsimp only at hu hl hW ⊢
        have hlt : i < 168 := by omega
        refine lv_iload_n hx hb dX7_records_10 rfl (lv_at hl 0 rfl) ?_
        refine lv_sipush (v := 168) hx hb dX7_records_11 (by decide) ?_
        refine lv_icmp_ge (tgt := 38) hx hb dX7_records_14 (by decide) (fun c_14_2 => ?_) (fun c_14_2 => ?_)
        · skip
          exact absurd c_14_2 (nI_ge hlt (by decide))
        · skip
          refine lv_aload_n hx hb dX7_records_17 rfl (lv_at hl 1 rfl) ?_
          refine gt_Mod_0_3 M hW kw_394 dX7_records_18 ?_
          refine lv_iload_n hx hb dX7_records_21 rfl (lv_at hl 0 rfl) ?_
          refine lv_aload_n hx hb dX7_records_22 rfl (lv_at hl 1 rfl) ?_
          refine gt_Mod_0_3 M hW kw_394 dX7_records_23 ?_
          refine lv_iload_n hx hb dX7_records_26 rfl (lv_at hl 0 rfl) ?_
          refine lv_bipush (v := 56) hx hb dX7_records_27 (by decide) ?_
          refine lv_iadd hx hb dX7_records_29 ?_
          refine r_top (y := nI (i + 56)) (nI_add i 56) ?_
          refine al_Mod_3 M hW (i + 56) rfl (by omega) (x := (iterN (fun k h => up2 h 3 k (h 3 (k + 56))) i u) 3 (i + 56)) rfl dX7_records_30 ?_
          refine as_Mod_3 M hW i rfl (by omega) dX7_records_31 (fun H locs hW => ?_)
          refine lv_iinc (v := nI (i + 1)) (lv' := [(1, .int (nI (i + 1))), (0, .ref (b 0))]) hx hb dX7_records_32 hl (k := 0) rfl (nI_1 i) (by decide) rfl (fun ls hl => ?_)
          refine lv_goto (tgt := 10) hx hb dX7_records_35 (by decide) ?_
          exact ih (ls, i + 1) _ _ ⟨by dsimp only; omega, lv_sub hl [0, 1] rfl, (by dsimp only; rw [iterN_succ]; exact hW)⟩
