/-- the model's reading place is a natural -/
def MAt (u : Nat → Nat → Int32) : Prop := ∃ k : Nat, k ≤ 60 ∧ u 0 11 = nI k
def mA (u : Nat → Nat → Int32) : Nat := (u 0 11).toNatClampNeg
theorem MAt.eq {u : Nat → Nat → Int32} (h : MAt u) : u 0 11 = nI (mA u) ∧ mA u ≤ 60 := by
  obtain ⟨k, h1, h2⟩ := h
  have e : mA u = k := by rw [mA, h2]; exact nI_clamp (by omega)
  rw [e]
  exact ⟨h2, h1⟩
theorem MAt.lt {u : Nat → Nat → Int32} (h : MAt u) (hl : MLen u) (c : ¬ u 0 8 ≤ u 0 11) : u 0 11 = nI (mA u) ∧ mA u < 60 := by
  refine ⟨h.eq.1, ?_⟩
  have h1 := h.eq
  have h2 := hl.eq
  rw [h1.1, h2.1, Int32.le_iff_toInt_le, nI_toInt (by omega), nI_toInt (by omega)] at c
  omega

def rX7_sign (u : Nat → Nat → Int32) : Int32 := if (u 0 8) ≤ (u 0 11) then 0 else u 5 (mA u)
set_option maxHeartbeats 4000000 in
set_option maxRecDepth 100000 in
/-- X7.sign -/
theorem c_X7_sign (l : Launch) (G : Gp) (b : Nat → Nat) (u : Nat → Nat → Int32) (Y : va_W) (hat : MAt u) (hl0 : MLen u) : Cn l G yX7_sign cX7_sign 1 (some .int) 0 [.ref (b 0)] (ModW G b u ++ Y) (some (.int (rX7_sign u))) (ModW G b u ++ Y) := by
  refine CnE.of (by decide) (Nat.le_of_ble_eq_true rfl) ?_
  intro p e s m below meth c ls M hnm hl hW
  have hx := M.1
  have hb := M.2.1
  have hl : lv_has ls 1 [(0, .ref (b 0))] := hl
  refine lv_aload_n hx hb dX7_sign_0 rfl (lv_at hl 0 rfl) ?_
  refine gt_Mod_0_11 M hW kw_487 (x := u 0 11) rfl dX7_sign_1 ?_
  refine lv_aload_n hx hb dX7_sign_4 rfl (lv_at hl 0 rfl) ?_
  refine gt_Mod_0_8 M hW kw_484 (x := u 0 8) rfl dX7_sign_5 ?_
  refine lv_icmp_ge (tgt := 23) hx hb dX7_sign_8 (by decide) (fun c_8 => ?_) (fun c_8 => ?_)
  · skip
    refine lv_iconst (v := 0) hx hb dX7_sign_23 (by decide) ?_
    exact r_reti M hW rfl ⟨by rw [rX7_sign, if_pos c_8], rfl⟩ (Nat.zero_le _) (Nat.zero_le _) dX7_sign_24
  · skip
    have hm := hat.lt hl0 c_8
    refine lv_aload_n hx hb dX7_sign_11 rfl (lv_at hl 0 rfl) ?_
    refine gt_Mod_0_7 M hW kw_396 dX7_sign_12 ?_
    refine lv_aload_n hx hb dX7_sign_15 rfl (lv_at hl 0 rfl) ?_
    refine gt_Mod_0_11 M hW kw_487 (x := u 0 11) rfl dX7_sign_16 ?_
    refine al_Mod_5 M hW (mA u) hm.1 hm.2 (x := u 5 (mA u)) rfl dX7_sign_19 ?_
    refine lv_goto (tgt := 24) hx hb dX7_sign_20 (by decide) ?_
    exact r_reti M hW rfl ⟨by rw [rX7_sign, if_neg c_8], rfl⟩ (Nat.zero_le _) (Nat.zero_le _) dX7_sign_24

def rX7_isLetter (x : Int32) : Int32 := if x = 100 then 1 else if x = 116 then 1 else if x = 102 then 1 else if x = 99 then 1 else if x = 97 then 1 else if x = 103 then 1 else if x = 115 then 1 else if x = 111 then 1 else if x = 120 then 1 else if x = 114 then 1 else if x = 119 then 1 else 0
set_option maxHeartbeats 4000000 in
set_option maxRecDepth 100000 in
/-- X7.isLetter -/
theorem c_X7_isLetter (l : Launch) (G : Gp) (x : Int32) (Y : va_W) : Cn l G yX7_isLetter cX7_isLetter 1 (some .boolean) 0 [.int x] (Y) (some (.int (rX7_isLetter x))) (Y) := by
  refine CnE.of (by decide) (Nat.le_of_ble_eq_true rfl) ?_
  intro p e s m below meth c ls M hnm hl hW
  have hx := M.1
  have hb := M.2.1
  have hl : lv_has ls 1 [(0, .int x)] := hl
  refine lv_iload_n hx hb dX7_isLetter_0 rfl (lv_at hl 0 rfl) ?_
  refine lv_bipush (v := 100) hx hb dX7_isLetter_1 (by decide) ?_
  refine lv_icmp_eq (tgt := 66) hx hb dX7_isLetter_3 (by decide) (fun c_3 => ?_) (fun c_3 => ?_)
  · skip
    refine lv_iconst (v := 1) hx hb dX7_isLetter_66 (by decide) ?_
    refine lv_goto (tgt := 71) hx hb dX7_isLetter_67 (by decide) ?_
    exact r_retz M rfl hW rfl ⟨by rw [rX7_isLetter, if_pos c_3], rfl⟩ (Nat.zero_le _) (Nat.zero_le _) dX7_isLetter_71
  · skip
    refine lv_iload_n hx hb dX7_isLetter_6 rfl (lv_at hl 0 rfl) ?_
    refine lv_bipush (v := 116) hx hb dX7_isLetter_7 (by decide) ?_
    refine lv_icmp_eq (tgt := 66) hx hb dX7_isLetter_9 (by decide) (fun c_9 => ?_) (fun c_9 => ?_)
    · skip
      refine lv_iconst (v := 1) hx hb dX7_isLetter_66 (by decide) ?_
      refine lv_goto (tgt := 71) hx hb dX7_isLetter_67 (by decide) ?_
      exact r_retz M rfl hW rfl ⟨by rw [rX7_isLetter, if_neg c_3, if_pos c_9], rfl⟩ (Nat.zero_le _) (Nat.zero_le _) dX7_isLetter_71
    · skip
      refine lv_iload_n hx hb dX7_isLetter_12 rfl (lv_at hl 0 rfl) ?_
      refine lv_bipush (v := 102) hx hb dX7_isLetter_13 (by decide) ?_
      refine lv_icmp_eq (tgt := 66) hx hb dX7_isLetter_15 (by decide) (fun c_15 => ?_) (fun c_15 => ?_)
      · skip
        refine lv_iconst (v := 1) hx hb dX7_isLetter_66 (by decide) ?_
        refine lv_goto (tgt := 71) hx hb dX7_isLetter_67 (by decide) ?_
        exact r_retz M rfl hW rfl ⟨by rw [rX7_isLetter, if_neg c_3, if_neg c_9, if_pos c_15], rfl⟩ (Nat.zero_le _) (Nat.zero_le _) dX7_isLetter_71
      · skip
        refine lv_iload_n hx hb dX7_isLetter_18 rfl (lv_at hl 0 rfl) ?_
        refine lv_bipush (v := 99) hx hb dX7_isLetter_19 (by decide) ?_
        refine lv_icmp_eq (tgt := 66) hx hb dX7_isLetter_21 (by decide) (fun c_21 => ?_) (fun c_21 => ?_)
        · skip
          refine lv_iconst (v := 1) hx hb dX7_isLetter_66 (by decide) ?_
          refine lv_goto (tgt := 71) hx hb dX7_isLetter_67 (by decide) ?_
          exact r_retz M rfl hW rfl ⟨by rw [rX7_isLetter, if_neg c_3, if_neg c_9, if_neg c_15, if_pos c_21], rfl⟩ (Nat.zero_le _) (Nat.zero_le _) dX7_isLetter_71
        · skip
          refine lv_iload_n hx hb dX7_isLetter_24 rfl (lv_at hl 0 rfl) ?_
          refine lv_bipush (v := 97) hx hb dX7_isLetter_25 (by decide) ?_
          refine lv_icmp_eq (tgt := 66) hx hb dX7_isLetter_27 (by decide) (fun c_27 => ?_) (fun c_27 => ?_)
          · skip
            refine lv_iconst (v := 1) hx hb dX7_isLetter_66 (by decide) ?_
            refine lv_goto (tgt := 71) hx hb dX7_isLetter_67 (by decide) ?_
            exact r_retz M rfl hW rfl ⟨by rw [rX7_isLetter, if_neg c_3, if_neg c_9, if_neg c_15, if_neg c_21, if_pos c_27], rfl⟩ (Nat.zero_le _) (Nat.zero_le _) dX7_isLetter_71
          · skip
            refine lv_iload_n hx hb dX7_isLetter_30 rfl (lv_at hl 0 rfl) ?_
            refine lv_bipush (v := 103) hx hb dX7_isLetter_31 (by decide) ?_
            refine lv_icmp_eq (tgt := 66) hx hb dX7_isLetter_33 (by decide) (fun c_33 => ?_) (fun c_33 => ?_)
            · skip
              refine lv_iconst (v := 1) hx hb dX7_isLetter_66 (by decide) ?_
              refine lv_goto (tgt := 71) hx hb dX7_isLetter_67 (by decide) ?_
              exact r_retz M rfl hW rfl ⟨by rw [rX7_isLetter, if_neg c_3, if_neg c_9, if_neg c_15, if_neg c_21, if_neg c_27, if_pos c_33], rfl⟩ (Nat.zero_le _) (Nat.zero_le _) dX7_isLetter_71
            · skip
              refine lv_iload_n hx hb dX7_isLetter_36 rfl (lv_at hl 0 rfl) ?_
              refine lv_bipush (v := 115) hx hb dX7_isLetter_37 (by decide) ?_
              refine lv_icmp_eq (tgt := 66) hx hb dX7_isLetter_39 (by decide) (fun c_39 => ?_) (fun c_39 => ?_)
              · skip
                refine lv_iconst (v := 1) hx hb dX7_isLetter_66 (by decide) ?_
                refine lv_goto (tgt := 71) hx hb dX7_isLetter_67 (by decide) ?_
                exact r_retz M rfl hW rfl ⟨by rw [rX7_isLetter, if_neg c_3, if_neg c_9, if_neg c_15, if_neg c_21, if_neg c_27, if_neg c_33, if_pos c_39], rfl⟩ (Nat.zero_le _) (Nat.zero_le _) dX7_isLetter_71
              · skip
                refine lv_iload_n hx hb dX7_isLetter_42 rfl (lv_at hl 0 rfl) ?_
                refine lv_bipush (v := 111) hx hb dX7_isLetter_43 (by decide) ?_
                refine lv_icmp_eq (tgt := 66) hx hb dX7_isLetter_45 (by decide) (fun c_45 => ?_) (fun c_45 => ?_)
                · skip
                  refine lv_iconst (v := 1) hx hb dX7_isLetter_66 (by decide) ?_
                  refine lv_goto (tgt := 71) hx hb dX7_isLetter_67 (by decide) ?_
                  exact r_retz M rfl hW rfl ⟨by rw [rX7_isLetter, if_neg c_3, if_neg c_9, if_neg c_15, if_neg c_21, if_neg c_27, if_neg c_33, if_neg c_39, if_pos c_45], rfl⟩ (Nat.zero_le _) (Nat.zero_le _) dX7_isLetter_71
                · skip
                  refine lv_iload_n hx hb dX7_isLetter_48 rfl (lv_at hl 0 rfl) ?_
                  refine lv_bipush (v := 120) hx hb dX7_isLetter_49 (by decide) ?_
                  refine lv_icmp_eq (tgt := 66) hx hb dX7_isLetter_51 (by decide) (fun c_51 => ?_) (fun c_51 => ?_)
                  · skip
                    refine lv_iconst (v := 1) hx hb dX7_isLetter_66 (by decide) ?_
                    refine lv_goto (tgt := 71) hx hb dX7_isLetter_67 (by decide) ?_
                    exact r_retz M rfl hW rfl ⟨by rw [rX7_isLetter, if_neg c_3, if_neg c_9, if_neg c_15, if_neg c_21, if_neg c_27, if_neg c_33, if_neg c_39, if_neg c_45, if_pos c_51], rfl⟩ (Nat.zero_le _) (Nat.zero_le _) dX7_isLetter_71
                  · skip
                    refine lv_iload_n hx hb dX7_isLetter_54 rfl (lv_at hl 0 rfl) ?_
                    refine lv_bipush (v := 114) hx hb dX7_isLetter_55 (by decide) ?_
                    refine lv_icmp_eq (tgt := 66) hx hb dX7_isLetter_57 (by decide) (fun c_57 => ?_) (fun c_57 => ?_)
                    · skip
                      refine lv_iconst (v := 1) hx hb dX7_isLetter_66 (by decide) ?_
                      refine lv_goto (tgt := 71) hx hb dX7_isLetter_67 (by decide) ?_
                      exact r_retz M rfl hW rfl ⟨by rw [rX7_isLetter, if_neg c_3, if_neg c_9, if_neg c_15, if_neg c_21, if_neg c_27, if_neg c_33, if_neg c_39, if_neg c_45, if_neg c_51, if_pos c_57], rfl⟩ (Nat.zero_le _) (Nat.zero_le _) dX7_isLetter_71
                    · skip
                      refine lv_iload_n hx hb dX7_isLetter_60 rfl (lv_at hl 0 rfl) ?_
                      refine lv_bipush (v := 119) hx hb dX7_isLetter_61 (by decide) ?_
                      refine lv_icmp_ne (tgt := 70) hx hb dX7_isLetter_63 (by decide) (fun c_63 => ?_) (fun c_63 => ?_)
                      · skip
                        refine lv_iconst (v := 0) hx hb dX7_isLetter_70 (by decide) ?_
                        exact r_retz M rfl hW rfl ⟨by rw [rX7_isLetter, if_neg c_3, if_neg c_9, if_neg c_15, if_neg c_21, if_neg c_27, if_neg c_33, if_neg c_39, if_neg c_45, if_neg c_51, if_neg c_57, if_neg c_63], rfl⟩ (Nat.zero_le _) (Nat.zero_le _) dX7_isLetter_71
                      · skip
                        refine lv_iconst (v := 1) hx hb dX7_isLetter_66 (by decide) ?_
                        refine lv_goto (tgt := 71) hx hb dX7_isLetter_67 (by decide) ?_
                        exact r_retz M rfl hW rfl ⟨by rw [rX7_isLetter, if_neg c_3, if_neg c_9, if_neg c_15, if_neg c_21, if_neg c_27, if_neg c_33, if_neg c_39, if_neg c_45, if_neg c_51, if_neg c_57, if_pos c_63], rfl⟩ (Nat.zero_le _) (Nat.zero_le _) dX7_isLetter_71

def rX7_whichOf (x : Int32) : Int32 := if x = 100 then 0 else if x = 116 then 1 else if x = 102 then 2 else if x = 99 then 3 else 4
set_option maxHeartbeats 4000000 in
set_option maxRecDepth 100000 in
/-- X7.whichOf -/
theorem c_X7_whichOf (l : Launch) (G : Gp) (x : Int32) (Y : va_W) : Cn l G yX7_whichOf cX7_whichOf 1 (some .int) 0 [.int x] (Y) (some (.int (rX7_whichOf x))) (Y) := by
  refine CnE.of (by decide) (Nat.le_of_ble_eq_true rfl) ?_
  intro p e s m below meth c ls M hnm hl hW
  have hx := M.1
  have hb := M.2.1
  have hl : lv_has ls 1 [(0, .int x)] := hl
  refine lv_iload_n hx hb dX7_whichOf_0 rfl (lv_at hl 0 rfl) ?_
  refine lv_bipush (v := 100) hx hb dX7_whichOf_1 (by decide) ?_
  refine lv_icmp_ne (tgt := 10) hx hb dX7_whichOf_3 (by decide) (fun c_3 => ?_) (fun c_3 => ?_)
  · skip
    refine lv_iload_n hx hb dX7_whichOf_10 rfl (lv_at hl 0 rfl) ?_
    refine lv_bipush (v := 116) hx hb dX7_whichOf_11 (by decide) ?_
    refine lv_icmp_ne (tgt := 20) hx hb dX7_whichOf_13 (by decide) (fun c_13 => ?_) (fun c_13 => ?_)
    · skip
      refine lv_iload_n hx hb dX7_whichOf_20 rfl (lv_at hl 0 rfl) ?_
      refine lv_bipush (v := 102) hx hb dX7_whichOf_21 (by decide) ?_
      refine lv_icmp_ne (tgt := 30) hx hb dX7_whichOf_23 (by decide) (fun c_23 => ?_) (fun c_23 => ?_)
      · skip
        refine lv_iload_n hx hb dX7_whichOf_30 rfl (lv_at hl 0 rfl) ?_
        refine lv_bipush (v := 99) hx hb dX7_whichOf_31 (by decide) ?_
        refine lv_icmp_ne (tgt := 40) hx hb dX7_whichOf_33 (by decide) (fun c_33 => ?_) (fun c_33 => ?_)
        · skip
          refine lv_iconst (v := 4) hx hb dX7_whichOf_40 (by decide) ?_
          exact r_reti M hW rfl ⟨by rw [rX7_whichOf, if_neg c_3, if_neg c_13, if_neg c_23, if_neg c_33], rfl⟩ (Nat.zero_le _) (Nat.zero_le _) dX7_whichOf_41
        · skip
          refine lv_iconst (v := 3) hx hb dX7_whichOf_36 (by decide) ?_
          refine lv_goto (tgt := 41) hx hb dX7_whichOf_37 (by decide) ?_
          exact r_reti M hW rfl ⟨by rw [rX7_whichOf, if_neg c_3, if_neg c_13, if_neg c_23, if_pos c_33], rfl⟩ (Nat.zero_le _) (Nat.zero_le _) dX7_whichOf_41
      · skip
        refine lv_iconst (v := 2) hx hb dX7_whichOf_26 (by decide) ?_
        refine lv_goto (tgt := 41) hx hb dX7_whichOf_27 (by decide) ?_
        exact r_reti M hW rfl ⟨by rw [rX7_whichOf, if_neg c_3, if_neg c_13, if_pos c_23], rfl⟩ (Nat.zero_le _) (Nat.zero_le _) dX7_whichOf_41
    · skip
      refine lv_iconst (v := 1) hx hb dX7_whichOf_16 (by decide) ?_
      refine lv_goto (tgt := 41) hx hb dX7_whichOf_17 (by decide) ?_
      exact r_reti M hW rfl ⟨by rw [rX7_whichOf, if_neg c_3, if_pos c_13], rfl⟩ (Nat.zero_le _) (Nat.zero_le _) dX7_whichOf_41
  · skip
    refine lv_iconst (v := 0) hx hb dX7_whichOf_6 (by decide) ?_
    refine lv_goto (tgt := 41) hx hb dX7_whichOf_7 (by decide) ?_
    exact r_reti M hW rfl ⟨by rw [rX7_whichOf, if_pos c_3], rfl⟩ (Nat.zero_le _) (Nat.zero_le _) dX7_whichOf_41
