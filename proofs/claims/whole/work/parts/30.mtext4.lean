theorem ilt_01 (x : Int32) : rX7_isLetter x = 0 ∨ rX7_isLetter x = 1 := by
  unfold rX7_isLetter
  by_cases a100 : x = 100
  · rw [if_pos a100]; exact Or.inr rfl
  rw [if_neg a100]
  by_cases a116 : x = 116
  · rw [if_pos a116]; exact Or.inr rfl
  rw [if_neg a116]
  by_cases a102 : x = 102
  · rw [if_pos a102]; exact Or.inr rfl
  rw [if_neg a102]
  by_cases a99 : x = 99
  · rw [if_pos a99]; exact Or.inr rfl
  rw [if_neg a99]
  by_cases a97 : x = 97
  · rw [if_pos a97]; exact Or.inr rfl
  rw [if_neg a97]
  by_cases a103 : x = 103
  · rw [if_pos a103]; exact Or.inr rfl
  rw [if_neg a103]
  by_cases a115 : x = 115
  · rw [if_pos a115]; exact Or.inr rfl
  rw [if_neg a115]
  by_cases a111 : x = 111
  · rw [if_pos a111]; exact Or.inr rfl
  rw [if_neg a111]
  by_cases a120 : x = 120
  · rw [if_pos a120]; exact Or.inr rfl
  rw [if_neg a120]
  by_cases a114 : x = 114
  · rw [if_pos a114]; exact Or.inr rfl
  rw [if_neg a114]
  by_cases a119 : x = 119
  · rw [if_pos a119]; exact Or.inr rfl
  rw [if_neg a119]
  exact Or.inl rfl
def mK (u : Nat → Nat → Int32) : Nat := (u 0 14).toNatClampNeg
def rdB (u : Nat → Nat → Int32) : Nat → Nat → Int32 := up2 (up2 u 0 12 (rX7_isLetter (rX7_sign u))) 0 11 ((u 0 11) + (b01 (rX7_isLetter (rX7_sign u))))
def rdC (u : Nat → Nat → Int32) : Nat → Nat → Int32 := up2 (rdB u) 6 (2 * mK u) (rX7_sign u)
theorem rdC_at {u : Nat → Nat → Int32} (ha : MAt u) (hl : MLen u) : MAt (rdC u) := by
  refine MAt.of (h := rdB u) (by unfold rdC; exact up2_d (by decide)) ?_
  have e11 : (up2 u 0 12 (rX7_isLetter (rX7_sign u))) 0 11 = u 0 11 := up2_k (by decide)
  have e8 : (up2 u 0 12 (rX7_isLetter (rX7_sign u))) 0 8 = u 0 8 := up2_k (by decide)
  unfold rdB b01
  by_cases c : rX7_isLetter (rX7_sign u) = 0
  · rw [if_pos c]
    refine MAt.of (h := u) ?_ ha
    rw [up2_s]
    exact Int32.add_zero _
  · rw [if_neg c]
    refine (MAt.up (h := up2 u 0 12 (rX7_isLetter (rX7_sign u))) (MAt.of e11 ha) (MLen.of e8 hl) ?_ (by rw [e11])).1
    rw [e8, e11]
    intro d
    apply c
    rw [sign_ge d]
    rfl
theorem rdC_len {u : Nat → Nat → Int32} (h : MLen u) : MLen (rdC u) := MLen.of (by unfold rdC rdB; exact (up2_d (by decide)).trans ((up2_k (by decide)).trans (up2_k (by decide)))) h
theorem rdB_14 {u : Nat → Nat → Int32} (h : mK u < 32 ∧ u 0 14 = nI (mK u)) : (rdB u) 0 14 = nI (mK u) := by
  refine Eq.trans ?_ h.2
  unfold rdB
  exact (up2_k (by decide)).trans (up2_k (by decide))
theorem rdC_14 {u : Nat → Nat → Int32} (h : mK u < 32 ∧ u 0 14 = nI (mK u)) : (rdC u) 0 14 = nI (mK u) := by
  refine Eq.trans ?_ (rdB_14 h)
  unfold rdC
  exact up2_d (by decide)

def sX7_readsCommand (u : Nat → Nat → Int32) : Nat → Nat → Int32 := if ((rdC u) 0 12) = 0 then up2 (up2 (rdC u) 6 (2 * mK u + 1) 0) 0 14 (((rdC u) 0 14) + 0) else up2 (up2 (sX7_valueOf (rdC u) (rX7_sign u)) 6 (2 * mK u + 1) (rX7_valueOf (rdC u) (rX7_sign u))) 0 14 (((sX7_valueOf (rdC u) (rX7_sign u)) 0 14) + (if ((sX7_valueOf (rdC u) (rX7_sign u)) 0 12) = 0 then 0 else 1))
set_option maxHeartbeats 4000000 in
set_option maxRecDepth 100000 in
/-- X7.readsCommand -/
theorem c_X7_readsCommand (l : Launch) (G : Gp) (b : Nat → Nat) (u : Nat → Nat → Int32) (Y : va_W) (hat : MAt u) (hl0 : MLen u) (hk : mK u < 32 ∧ u 0 14 = nI (mK u)) : Cn l G yX7_readsCommand cX7_readsCommand 2 none 4 [.ref (b 0)] (ModW G b u ++ Y) none (ModW G b (sX7_readsCommand u) ++ Y) := by
  refine CnE.of (by decide) (Nat.le_of_ble_eq_true rfl) ?_
  intro p e s m below meth c ls M hnm hl hW
  have hx := M.1
  have hb := M.2.1
  have hl : lv_has ls 2 [(0, .ref (b 0))] := hl
  refine lv_aload_n hx hb dX7_readsCommand_0 rfl (lv_at hl 0 rfl) ?_
  refine r_callVi M hW (c_X7_sign l G b u  (Y) hat hl0) rfl kw_490 kw_491 kw_492 kw_412 kw_486 pl_X7_sign 0 rfl rfl ⟨by decide, by decide⟩ ⟨Nat.zero_le _, Nat.zero_le _⟩ hl.1 rfl (Nat.le_of_ble_eq_true rfl) dX7_readsCommand_1 (fun H locs hW => ?_)
  refine lv_istore_n (lv' := [(1, .int (rX7_sign u)), (0, .ref (b 0))]) hx hb dX7_readsCommand_4 rfl hl (by decide) rfl (fun ls hl => ?_)
  refine lv_aload_n hx hb dX7_readsCommand_5 rfl (lv_at hl 1 rfl) ?_
  refine lv_iload_n hx hb dX7_readsCommand_6 rfl (lv_at hl 0 rfl) ?_
  refine r_callSi M hW (as := [.int (rX7_sign u)]) (c_X7_isLetter l G (rX7_sign u) (ModW G b u ++ Y)) rfl kw_503 kw_504 kw_412 kw_501 pl_X7_isLetter ⟨by decide, by decide⟩ ⟨Nat.zero_le _, Nat.zero_le _⟩ hl.1 rfl (Nat.le_of_ble_eq_true rfl) dX7_readsCommand_7 (fun H locs hW => ?_)
  refine pt_Mod_0_12 M hW kw_489 (ilt_01 _) dX7_readsCommand_10 (fun H locs hW => ?_)
  refine lv_aload_n hx hb dX7_readsCommand_13 rfl (lv_at hl 1 rfl) ?_
  refine lv_dup hx hb dX7_readsCommand_14 rfl ?_
  refine gt_Mod_0_11 M hW kw_487 (x := u 0 11) (up2_k (by decide)) dX7_readsCommand_15 ?_
  refine lv_aload_n hx hb dX7_readsCommand_18 rfl (lv_at hl 1 rfl) ?_
  refine gt_Mod_0_12 M hW kw_489 (x := rX7_isLetter (rX7_sign u)) up2_s dX7_readsCommand_19 ?_
  refine r_cuti (pc2 := 30) (ls2 := ls) (st := [.int (u 0 11), .ref (b 0)]) (b01 (rX7_isLetter (rX7_sign u))) (fun x_30 hx_30 => ?_) (fun hJ_30 => ?_)
  · skip
    rewrite [hx_30]
    refine lv_iadd hx hb dX7_readsCommand_30 ?_
    refine pt_Mod_0_11 M hW kw_487 dX7_readsCommand_31 (fun H locs hW => ?_)
    have hW : Wd G s (ModW G b (rdB u) ++ Y) _ _ := hW
    refine lv_aload_n hx hb dX7_readsCommand_34 rfl (lv_at hl 1 rfl) ?_
    refine gt_Mod_0_13 M hW kw_397 dX7_readsCommand_35 ?_
    refine lv_iconst (v := 2) hx hb dX7_readsCommand_38 (by decide) ?_
    refine lv_aload_n hx hb dX7_readsCommand_39 rfl (lv_at hl 1 rfl) ?_
    refine gt_Mod_0_14 M hW kw_502 (x := nI (mK u)) (rdB_14 hk) dX7_readsCommand_40 ?_
    refine lv_imul hx hb dX7_readsCommand_43 ?_
    refine r_top (y := nI (2 * mK u)) (pk_mul 2 _) ?_
    refine lv_iload_n hx hb dX7_readsCommand_44 rfl (lv_at hl 0 rfl) ?_
    refine as_Mod_6 M hW (2 * mK u) rfl (by omega) dX7_readsCommand_45 (fun H locs hW => ?_)
    have hW : Wd G s (ModW G b (rdC u) ++ Y) _ _ := hW
    refine lv_aload_n hx hb dX7_readsCommand_46 rfl (lv_at hl 1 rfl) ?_
    refine gt_Mod_0_13 M hW kw_397 dX7_readsCommand_47 ?_
    refine lv_iconst (v := 2) hx hb dX7_readsCommand_50 (by decide) ?_
    refine lv_aload_n hx hb dX7_readsCommand_51 rfl (lv_at hl 1 rfl) ?_
    refine gt_Mod_0_14 M hW kw_502 (x := nI (mK u)) (rdC_14 hk) dX7_readsCommand_52 ?_
    refine lv_imul hx hb dX7_readsCommand_55 ?_
    refine r_top (y := nI (2 * mK u)) (pk_mul 2 _) ?_
    refine lv_iconst (v := 1) hx hb dX7_readsCommand_56 (by decide) ?_
    refine lv_iadd hx hb dX7_readsCommand_57 ?_
    refine r_top (y := nI (2 * mK u + 1)) (nI_1 _) ?_
    refine lv_aload_n hx hb dX7_readsCommand_58 rfl (lv_at hl 1 rfl) ?_
    refine gt_Mod_0_12 M hW kw_489 (x := (rdC u) 0 12) rfl dX7_readsCommand_59 ?_
    refine lv_if_eq (tgt := 73) hx hb dX7_readsCommand_62 (by decide) (fun c_62 => ?_) (fun c_62 => ?_)
    · skip
      refine lv_iconst (v := 0) hx hb dX7_readsCommand_73 (by decide) ?_
      refine as_Mod_6 M hW (2 * mK u + 1) rfl (by omega) dX7_readsCommand_74 (fun H locs hW => ?_)
      refine lv_aload_n hx hb dX7_readsCommand_75 rfl (lv_at hl 1 rfl) ?_
      refine lv_dup hx hb dX7_readsCommand_76 rfl ?_
      refine gt_Mod_0_14 M hW kw_502 (x := (rdC u) 0 14) (up2_d (by decide)) dX7_readsCommand_77 ?_
      refine lv_aload_n hx hb dX7_readsCommand_80 rfl (lv_at hl 1 rfl) ?_
      refine gt_Mod_0_12 M hW kw_489 (x := (rdC u) 0 12) (up2_d (by decide)) dX7_readsCommand_81 ?_
      refine r_cuti (pc2 := 92) (ls2 := ls) (st := [.int ((rdC u) 0 14), .ref (b 0)]) (0) (fun x_92 hx_92 => ?_) (fun hJ_92 => ?_)
      · skip
        rewrite [hx_92]
        refine lv_iadd hx hb dX7_readsCommand_92 ?_
        refine pt_Mod_0_14 M hW kw_502 dX7_readsCommand_93 (fun H locs hW => ?_)
        exact r_retv M hW (by rw [sX7_readsCommand, if_pos c_62]) ⟨rfl, rfl⟩ (Nat.zero_le _) (Nat.zero_le _) dX7_readsCommand_96
      · skip
        refine lv_if_eq (tgt := 91) hx hb dX7_readsCommand_84 (by decide) (fun c_84 => ?_) (fun c_84 => ?_)
        · skip
          refine lv_iconst (v := 0) hx hb dX7_readsCommand_91 (by decide) ?_
          exact hJ_92 _ rfl
        · skip
          exact absurd c_62 c_84
    · skip
      refine lv_aload_n hx hb dX7_readsCommand_65 rfl (lv_at hl 1 rfl) ?_
      refine lv_iload_n hx hb dX7_readsCommand_66 rfl (lv_at hl 0 rfl) ?_
      refine r_callVi M hW (c_X7_valueOf l G b (rdC u) (rX7_sign u) (Y) (rdC_at hat hl0) (rdC_len hl0)) rfl kw_505 kw_506 kw_507 kw_412 kw_497 pl_X7_valueOf 0 rfl rfl ⟨by decide, by decide⟩ ⟨Nat.zero_le _, Nat.zero_le _⟩ hl.1 rfl (Nat.le_of_ble_eq_true rfl) dX7_readsCommand_67 (fun H locs hW => ?_)
      refine lv_goto (tgt := 74) hx hb dX7_readsCommand_70 (by decide) ?_
      refine as_Mod_6 M hW (2 * mK u + 1) rfl (by omega) dX7_readsCommand_74 (fun H locs hW => ?_)
      refine lv_aload_n hx hb dX7_readsCommand_75 rfl (lv_at hl 1 rfl) ?_
      refine lv_dup hx hb dX7_readsCommand_76 rfl ?_
      refine gt_Mod_0_14 M hW kw_502 (x := (sX7_valueOf (rdC u) (rX7_sign u)) 0 14) (up2_d (by decide)) dX7_readsCommand_77 ?_
      refine lv_aload_n hx hb dX7_readsCommand_80 rfl (lv_at hl 1 rfl) ?_
      refine gt_Mod_0_12 M hW kw_489 (x := (sX7_valueOf (rdC u) (rX7_sign u)) 0 12) (up2_d (by decide)) dX7_readsCommand_81 ?_
      refine r_cuti (pc2 := 92) (ls2 := ls) (st := [.int ((sX7_valueOf (rdC u) (rX7_sign u)) 0 14), .ref (b 0)]) (if ((sX7_valueOf (rdC u) (rX7_sign u)) 0 12) = 0 then 0 else 1) (fun x_92 hx_92 => ?_) (fun hJ_92 => ?_)
      · skip
        rewrite [hx_92]
        refine lv_iadd hx hb dX7_readsCommand_92 ?_
        refine pt_Mod_0_14 M hW kw_502 dX7_readsCommand_93 (fun H locs hW => ?_)
        exact r_retv M hW (by rw [sX7_readsCommand, if_neg c_62]) ⟨rfl, rfl⟩ (Nat.zero_le _) (Nat.zero_le _) dX7_readsCommand_96
      · skip
        refine lv_if_eq (tgt := 91) hx hb dX7_readsCommand_84 (by decide) (fun c_84_2 => ?_) (fun c_84_2 => ?_)
        · skip
          refine lv_iconst (v := 0) hx hb dX7_readsCommand_91 (by decide) ?_
          exact hJ_92 _ (by rw [if_pos c_84_2])
        · skip
          refine lv_iconst (v := 1) hx hb dX7_readsCommand_87 (by decide) ?_
          refine lv_goto (tgt := 92) hx hb dX7_readsCommand_88 (by decide) ?_
          exact hJ_92 _ (by rw [if_neg c_84_2])
  · skip
    refine lv_if_eq (tgt := 29) hx hb dX7_readsCommand_22 (by decide) (fun c_22 => ?_) (fun c_22 => ?_)
    · skip
      refine lv_iconst (v := 0) hx hb dX7_readsCommand_29 (by decide) ?_
      exact hJ_30 _ (by rw [b01, if_pos c_22])
    · skip
      refine lv_iconst (v := 1) hx hb dX7_readsCommand_25 (by decide) ?_
      refine lv_goto (tgt := 30) hx hb dX7_readsCommand_26 (by decide) ?_
      exact hJ_30 _ (by rw [b01, if_neg c_22])
