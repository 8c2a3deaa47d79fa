def mLess (u : Nat → Nat → Int32) : Int32 := if (u 0 12) = 0 then 0 else if (rX7_sign u) = 45 then 1 else 0
def b01 (z : Int32) : Int32 := if z = 0 then 0 else 1
theorem b01_01 (z : Int32) : b01 z = 0 ∨ b01 z = 1 := by
  unfold b01
  by_cases c : z = 0
  · rw [if_pos c]; exact Or.inl rfl
  · rw [if_neg c]; exact Or.inr rfl
def mAl (u : Nat → Nat → Int32) : Nat → Nat → Int32 := up2 u 0 11 ((u 0 11) + (b01 (mLess u)))
theorem mAl_len {u : Nat → Nat → Int32} (h : MLen u) : MLen (mAl u) := MLen.of (by unfold mAl; exact up2_k (by decide)) h
theorem mAl_at {u : Nat → Nat → Int32} (ha : MAt u) (hl : MLen u) : MAt (mAl u) := by
  unfold mAl b01
  by_cases c : mLess u = 0
  · rw [if_pos c]
    refine MAt.of ?_ ha
    rw [up2_s]
    exact Int32.add_zero _
  · rw [if_neg c]
    refine (MAt.up ha hl ?_ rfl).1
    intro d
    apply c
    unfold mLess
    by_cases c1 : (u 0 12) = 0
    · rw [if_pos c1]
    · rw [if_neg c1, sign_ge d, if_neg (by decide)]

def rX7_alignment (u : Nat → Nat → Int32) : Int32 := if (mLess u) = 0 then rX7_number (mAl u) (b01 (mLess u)) 9 else -(rX7_number (mAl u) (b01 (mLess u)) 9)
def sX7_alignment (u : Nat → Nat → Int32) : Nat → Nat → Int32 := sX7_number (mAl u) (b01 (mLess u)) 9
set_option maxHeartbeats 4000000 in
set_option maxRecDepth 100000 in
/-- X7.alignment -/
theorem c_X7_alignment (l : Launch) (G : Gp) (b : Nat → Nat) (u : Nat → Nat → Int32) (Y : va_W) (hat : MAt u) (hl0 : MLen u) : Cn l G yX7_alignment cX7_alignment 3 (some .int) 2 [.ref (b 0)] (ModW G b u ++ Y) (some (.int (rX7_alignment u))) (ModW G b (sX7_alignment u) ++ Y) := by
  refine CnE.of (by decide) (Nat.le_of_ble_eq_true rfl) ?_
  intro p e s m below meth c ls M hnm hl hW
  have hx := M.1
  have hb := M.2.1
  have hl : lv_has ls 3 [(0, .ref (b 0))] := hl
  refine lv_aload_n hx hb dX7_alignment_0 rfl (lv_at hl 0 rfl) ?_
  refine gt_Mod_0_12 M hW kw_489 (x := u 0 12) rfl dX7_alignment_1 ?_
  refine r_cut (σ := Int32) (fun xx H1 l1 => xx = (mLess u) ∧ Wd G s (ModW G b u ++ Y) H1 l1) (fun xx => F0 m 21 ls [.int xx]) (fun x_21 H locs hI => ?_) (fun hJ_21 => ?_)
  · skip
    obtain ⟨hx_21, hW⟩ := hI
    rewrite [hx_21]
    refine lv_istore_n (lv' := [(1, .int (mLess u)), (0, .ref (b 0))]) hx hb dX7_alignment_21 rfl hl (by decide) rfl (fun ls hl => ?_)
    refine lv_aload_n hx hb dX7_alignment_22 rfl (lv_at hl 1 rfl) ?_
    refine lv_dup hx hb dX7_alignment_23 rfl ?_
    refine gt_Mod_0_11 M hW kw_487 (x := u 0 11) rfl dX7_alignment_24 ?_
    refine lv_iload_n hx hb dX7_alignment_27 rfl (lv_at hl 0 rfl) ?_
    refine r_cuti (pc2 := 36) (ls2 := ls) (st := [.int (u 0 11), .ref (b 0)]) (b01 (mLess u)) (fun x_36 hx_36 => ?_) (fun hJ_36 => ?_)
    · skip
      rewrite [hx_36]
      refine lv_iadd hx hb dX7_alignment_36 ?_
      refine pt_Mod_0_11 M hW kw_487 dX7_alignment_37 (fun H locs hW => ?_)
      have hW : Wd G s (ModW G b (mAl u) ++ Y) _ _ := hW
      refine lv_aload_n hx hb dX7_alignment_40 rfl (lv_at hl 1 rfl) ?_
      refine lv_iload_n hx hb dX7_alignment_41 rfl (lv_at hl 0 rfl) ?_
      refine r_cuti (pc2 := 50) (ls2 := ls) (st := [.ref (b 0)]) (b01 (mLess u)) (fun x_50 hx_50 => ?_) (fun hJ_50 => ?_)
      · skip
        rewrite [hx_50]
        refine lv_bipush (v := 9) hx hb dX7_alignment_50 (by decide) ?_
        refine r_callVi M hW (c_X7_number l G b (mAl u) (b01 (mLess u)) 9 (Y) (mAl_at hat hl0) (mAl_len hl0) (b01_01 _)) rfl kw_494 kw_495 kw_496 kw_412 kw_488 pl_X7_number 0 rfl rfl ⟨by decide, by decide⟩ ⟨Nat.zero_le _, Nat.zero_le _⟩ hl.1 rfl (Nat.le_of_ble_eq_true rfl) dX7_alignment_52 (fun H locs hW => ?_)
        refine lv_istore_n (lv' := [(2, .int (rX7_number (mAl u) (b01 (mLess u)) 9)), (1, .int (mLess u)), (0, .ref (b 0))]) hx hb dX7_alignment_55 rfl hl (by decide) rfl (fun ls hl => ?_)
        refine lv_iload_n hx hb dX7_alignment_56 rfl (lv_at hl 1 rfl) ?_
        refine lv_if_eq (tgt := 65) hx hb dX7_alignment_57 (by decide) (fun c_57 => ?_) (fun c_57 => ?_)
        · skip
          refine lv_iload_n hx hb dX7_alignment_65 rfl (lv_at hl 0 rfl) ?_
          exact r_reti M hW (by rw [sX7_alignment]) ⟨by rw [rX7_alignment, if_pos c_57], rfl⟩ (Nat.zero_le _) (Nat.zero_le _) dX7_alignment_66
        · skip
          refine lv_iload_n hx hb dX7_alignment_60 rfl (lv_at hl 0 rfl) ?_
          refine lv_ineg hx hb dX7_alignment_61 ?_
          refine lv_goto (tgt := 66) hx hb dX7_alignment_62 (by decide) ?_
          exact r_reti M hW (by rw [sX7_alignment]) ⟨by rw [rX7_alignment, if_neg c_57], rfl⟩ (Nat.zero_le _) (Nat.zero_le _) dX7_alignment_66
      · skip
        refine lv_if_eq (tgt := 49) hx hb dX7_alignment_42 (by decide) (fun c_42 => ?_) (fun c_42 => ?_)
        · skip
          refine lv_iconst (v := 0) hx hb dX7_alignment_49 (by decide) ?_
          exact hJ_50 _ (by rw [b01, if_pos c_42])
        · skip
          refine lv_iconst (v := 1) hx hb dX7_alignment_45 (by decide) ?_
          refine lv_goto (tgt := 50) hx hb dX7_alignment_46 (by decide) ?_
          exact hJ_50 _ (by rw [b01, if_neg c_42])
    · skip
      refine lv_if_eq (tgt := 35) hx hb dX7_alignment_28 (by decide) (fun c_28 => ?_) (fun c_28 => ?_)
      · skip
        refine lv_iconst (v := 0) hx hb dX7_alignment_35 (by decide) ?_
        exact hJ_36 _ (by rw [b01, if_pos c_28])
      · skip
        refine lv_iconst (v := 1) hx hb dX7_alignment_31 (by decide) ?_
        refine lv_goto (tgt := 36) hx hb dX7_alignment_32 (by decide) ?_
        exact hJ_36 _ (by rw [b01, if_neg c_28])
  · skip
    refine lv_if_eq (tgt := 20) hx hb dX7_alignment_4 (by decide) (fun c_4 => ?_) (fun c_4 => ?_)
    · skip
      refine lv_iconst (v := 0) hx hb dX7_alignment_20 (by decide) ?_
      exact hJ_21 _ _ _ ⟨(by rw [mLess, if_pos c_4]), hW⟩
    · skip
      refine lv_aload_n hx hb dX7_alignment_7 rfl (lv_at hl 0 rfl) ?_
      refine r_callVi M hW (c_X7_sign l G b u  (Y) hat hl0) rfl kw_490 kw_491 kw_492 kw_412 kw_486 pl_X7_sign 0 rfl rfl ⟨by decide, by decide⟩ ⟨Nat.zero_le _, Nat.zero_le _⟩ hl.1 rfl (Nat.le_of_ble_eq_true rfl) dX7_alignment_8 (fun H locs hW => ?_)
      refine lv_bipush (v := 45) hx hb dX7_alignment_11 (by decide) ?_
      refine lv_icmp_ne (tgt := 20) hx hb dX7_alignment_13 (by decide) (fun c_13 => ?_) (fun c_13 => ?_)
      · skip
        refine lv_iconst (v := 0) hx hb dX7_alignment_20 (by decide) ?_
        exact hJ_21 _ _ _ ⟨(by rw [mLess, if_neg c_4, if_neg c_13]), hW⟩
      · skip
        refine lv_iconst (v := 1) hx hb dX7_alignment_16 (by decide) ?_
        refine lv_goto (tgt := 21) hx hb dX7_alignment_17 (by decide) ?_
        exact hJ_21 _ _ _ ⟨(by rw [mLess, if_neg c_4, if_pos c_13]), hW⟩

def rX7_valueOf (u : Nat → Nat → Int32) (x : Int32) : Int32 := if x = 97 then rX7_alignment u else if x = 99 then rX7_number u 1 20 else if x = 100 then rX7_number u 0 6 else if x = 102 then rX7_number u 0 40 else if x = 116 then rX7_number u 0 200 else if x = 119 then rX7_number u 1 99 else 0
def sX7_valueOf (u : Nat → Nat → Int32) (x : Int32) : Nat → Nat → Int32 := if x = 97 then sX7_alignment u else if x = 99 then sX7_number u 1 20 else if x = 100 then sX7_number u 0 6 else if x = 102 then sX7_number u 0 40 else if x = 116 then sX7_number u 0 200 else if x = 119 then sX7_number u 1 99 else u
set_option maxHeartbeats 4000000 in
set_option maxRecDepth 100000 in
/-- X7.valueOf -/
theorem c_X7_valueOf (l : Launch) (G : Gp) (b : Nat → Nat) (u : Nat → Nat → Int32) (x : Int32) (Y : va_W) (hat : MAt u) (hl0 : MLen u) : Cn l G yX7_valueOf cX7_valueOf 2 (some .int) 3 [.ref (b 0), .int x] (ModW G b u ++ Y) (some (.int (rX7_valueOf u x))) (ModW G b (sX7_valueOf u x) ++ Y) := by
  refine CnE.of (by decide) (Nat.le_of_ble_eq_true rfl) ?_
  intro p e s m below meth c ls M hnm hl hW
  have hx := M.1
  have hb := M.2.1
  have hl : lv_has ls 2 [(0, .ref (b 0)), (1, .int x)] := hl
  refine lv_iload_n hx hb dX7_valueOf_0 rfl (lv_at hl 1 rfl) ?_
  by_cases c_1_97 : x = 97
  · skip
    refine lv_lookup (off := 92) (tgt := 93) hx hb dX7_valueOf_1 (by decide) (by rw [c_1_97]; rfl) (by decide) ?_
    refine lv_aload_n hx hb dX7_valueOf_93 rfl (lv_at hl 0 rfl) ?_
    refine r_callVi M hW (c_X7_alignment l G b u  (Y) hat hl0) rfl kw_498 kw_499 kw_500 kw_412 kw_493 pl_X7_alignment 0 rfl rfl ⟨by decide, by decide⟩ ⟨Nat.zero_le _, Nat.zero_le _⟩ hl.1 rfl (Nat.le_of_ble_eq_true rfl) dX7_valueOf_94 (fun H locs hW => ?_)
    exact r_reti M hW (by rw [sX7_valueOf, if_pos c_1_97]) ⟨by rw [rX7_valueOf, if_pos c_1_97], rfl⟩ (Nat.zero_le _) (Nat.zero_le _) dX7_valueOf_97
  · skip
    by_cases c_1_99 : x = 99
    · skip
      refine lv_lookup (off := 84) (tgt := 85) hx hb dX7_valueOf_1 (by decide) (by rw [c_1_99]; rfl) (by decide) ?_
      refine lv_aload_n hx hb dX7_valueOf_85 rfl (lv_at hl 0 rfl) ?_
      refine lv_iconst (v := 1) hx hb dX7_valueOf_86 (by decide) ?_
      refine lv_bipush (v := 20) hx hb dX7_valueOf_87 (by decide) ?_
      refine r_callVi M hW (c_X7_number l G b u 1 20 (Y) hat hl0 (Or.inr rfl)) rfl kw_494 kw_495 kw_496 kw_412 kw_488 pl_X7_number 0 rfl rfl ⟨by decide, by decide⟩ ⟨Nat.zero_le _, Nat.zero_le _⟩ hl.1 rfl (Nat.le_of_ble_eq_true rfl) dX7_valueOf_89 (fun H locs hW => ?_)
      exact r_reti M hW (by rw [sX7_valueOf, if_neg c_1_97, if_pos c_1_99]) ⟨by rw [rX7_valueOf, if_neg c_1_97, if_pos c_1_99], rfl⟩ (Nat.zero_le _) (Nat.zero_le _) dX7_valueOf_92
    · skip
      by_cases c_1_100 : x = 100
      · skip
        refine lv_lookup (off := 59) (tgt := 60) hx hb dX7_valueOf_1 (by decide) (by rw [c_1_100]; rfl) (by decide) ?_
        refine lv_aload_n hx hb dX7_valueOf_60 rfl (lv_at hl 0 rfl) ?_
        refine lv_iconst (v := 0) hx hb dX7_valueOf_61 (by decide) ?_
        refine lv_bipush (v := 6) hx hb dX7_valueOf_62 (by decide) ?_
        refine r_callVi M hW (c_X7_number l G b u 0 6 (Y) hat hl0 (Or.inl rfl)) rfl kw_494 kw_495 kw_496 kw_412 kw_488 pl_X7_number 0 rfl rfl ⟨by decide, by decide⟩ ⟨Nat.zero_le _, Nat.zero_le _⟩ hl.1 rfl (Nat.le_of_ble_eq_true rfl) dX7_valueOf_64 (fun H locs hW => ?_)
        exact r_reti M hW (by rw [sX7_valueOf, if_neg c_1_97, if_neg c_1_99, if_pos c_1_100]) ⟨by rw [rX7_valueOf, if_neg c_1_97, if_neg c_1_99, if_pos c_1_100], rfl⟩ (Nat.zero_le _) (Nat.zero_le _) dX7_valueOf_67
      · skip
        by_cases c_1_102 : x = 102
        · skip
          refine lv_lookup (off := 76) (tgt := 77) hx hb dX7_valueOf_1 (by decide) (by rw [c_1_102]; rfl) (by decide) ?_
          refine lv_aload_n hx hb dX7_valueOf_77 rfl (lv_at hl 0 rfl) ?_
          refine lv_iconst (v := 0) hx hb dX7_valueOf_78 (by decide) ?_
          refine lv_bipush (v := 40) hx hb dX7_valueOf_79 (by decide) ?_
          refine r_callVi M hW (c_X7_number l G b u 0 40 (Y) hat hl0 (Or.inl rfl)) rfl kw_494 kw_495 kw_496 kw_412 kw_488 pl_X7_number 0 rfl rfl ⟨by decide, by decide⟩ ⟨Nat.zero_le _, Nat.zero_le _⟩ hl.1 rfl (Nat.le_of_ble_eq_true rfl) dX7_valueOf_81 (fun H locs hW => ?_)
          exact r_reti M hW (by rw [sX7_valueOf, if_neg c_1_97, if_neg c_1_99, if_neg c_1_100, if_pos c_1_102]) ⟨by rw [rX7_valueOf, if_neg c_1_97, if_neg c_1_99, if_neg c_1_100, if_pos c_1_102], rfl⟩ (Nat.zero_le _) (Nat.zero_le _) dX7_valueOf_84
        · skip
          by_cases c_1_116 : x = 116
          · skip
            refine lv_lookup (off := 67) (tgt := 68) hx hb dX7_valueOf_1 (by decide) (by rw [c_1_116]; rfl) (by decide) ?_
            refine lv_aload_n hx hb dX7_valueOf_68 rfl (lv_at hl 0 rfl) ?_
            refine lv_iconst (v := 0) hx hb dX7_valueOf_69 (by decide) ?_
            refine lv_sipush (v := 200) hx hb dX7_valueOf_70 (by decide) ?_
            refine r_callVi M hW (c_X7_number l G b u 0 200 (Y) hat hl0 (Or.inl rfl)) rfl kw_494 kw_495 kw_496 kw_412 kw_488 pl_X7_number 0 rfl rfl ⟨by decide, by decide⟩ ⟨Nat.zero_le _, Nat.zero_le _⟩ hl.1 rfl (Nat.le_of_ble_eq_true rfl) dX7_valueOf_73 (fun H locs hW => ?_)
            exact r_reti M hW (by rw [sX7_valueOf, if_neg c_1_97, if_neg c_1_99, if_neg c_1_100, if_neg c_1_102, if_pos c_1_116]) ⟨by rw [rX7_valueOf, if_neg c_1_97, if_neg c_1_99, if_neg c_1_100, if_neg c_1_102, if_pos c_1_116], rfl⟩ (Nat.zero_le _) (Nat.zero_le _) dX7_valueOf_76
          · skip
            by_cases c_1_119 : x = 119
            · skip
              refine lv_lookup (off := 97) (tgt := 98) hx hb dX7_valueOf_1 (by decide) (by rw [c_1_119]; rfl) (by decide) ?_
              refine lv_aload_n hx hb dX7_valueOf_98 rfl (lv_at hl 0 rfl) ?_
              refine lv_iconst (v := 1) hx hb dX7_valueOf_99 (by decide) ?_
              refine lv_bipush (v := 99) hx hb dX7_valueOf_100 (by decide) ?_
              refine r_callVi M hW (c_X7_number l G b u 1 99 (Y) hat hl0 (Or.inr rfl)) rfl kw_494 kw_495 kw_496 kw_412 kw_488 pl_X7_number 0 rfl rfl ⟨by decide, by decide⟩ ⟨Nat.zero_le _, Nat.zero_le _⟩ hl.1 rfl (Nat.le_of_ble_eq_true rfl) dX7_valueOf_102 (fun H locs hW => ?_)
              exact r_reti M hW (by rw [sX7_valueOf, if_neg c_1_97, if_neg c_1_99, if_neg c_1_100, if_neg c_1_102, if_neg c_1_116, if_pos c_1_119]) ⟨by rw [rX7_valueOf, if_neg c_1_97, if_neg c_1_99, if_neg c_1_100, if_neg c_1_102, if_neg c_1_116, if_pos c_1_119], rfl⟩ (Nat.zero_le _) (Nat.zero_le _) dX7_valueOf_105
            · skip
              refine lv_lookup (off := 105) (tgt := 106) hx hb dX7_valueOf_1 (by decide) ((lv_osw c_1_97 (by decide)).trans ((lv_osw c_1_99 (by decide)).trans ((lv_osw c_1_100 (by decide)).trans ((lv_osw c_1_102 (by decide)).trans ((lv_osw c_1_116 (by decide)).trans ((lv_osw c_1_119 (by decide)).trans rfl)))))) (by decide) ?_
              refine lv_iconst (v := 0) hx hb dX7_valueOf_106 (by decide) ?_
              exact r_reti M hW (by rw [sX7_valueOf, if_neg c_1_97, if_neg c_1_99, if_neg c_1_100, if_neg c_1_102, if_neg c_1_116, if_neg c_1_119]) ⟨by rw [rX7_valueOf, if_neg c_1_97, if_neg c_1_99, if_neg c_1_100, if_neg c_1_102, if_neg c_1_116, if_neg c_1_119], rfl⟩ (Nat.zero_le _) (Nat.zero_le _) dX7_valueOf_107
