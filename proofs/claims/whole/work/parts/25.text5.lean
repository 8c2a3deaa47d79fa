theorem ilc {x : Int32} (h : ¬ rX4_isLetterOfCommand x = 0) : (x.toUInt32 % 65536).toInt32 = x ∧ vp_nar .char x = x := by
  by_cases a97 : x = 97
  · rw [a97]; exact ⟨by decide, by decide⟩
  by_cases a98 : x = 98
  · rw [a98]; exact ⟨by decide, by decide⟩
  by_cases a99 : x = 99
  · rw [a99]; exact ⟨by decide, by decide⟩
  by_cases a100 : x = 100
  · rw [a100]; exact ⟨by decide, by decide⟩
  by_cases a101 : x = 101
  · rw [a101]; exact ⟨by decide, by decide⟩
  by_cases a102 : x = 102
  · rw [a102]; exact ⟨by decide, by decide⟩
  by_cases a103 : x = 103
  · rw [a103]; exact ⟨by decide, by decide⟩
  by_cases a104 : x = 104
  · rw [a104]; exact ⟨by decide, by decide⟩
  by_cases a105 : x = 105
  · rw [a105]; exact ⟨by decide, by decide⟩
  by_cases a106 : x = 106
  · rw [a106]; exact ⟨by decide, by decide⟩
  by_cases a107 : x = 107
  · rw [a107]; exact ⟨by decide, by decide⟩
  by_cases a108 : x = 108
  · rw [a108]; exact ⟨by decide, by decide⟩
  by_cases a109 : x = 109
  · rw [a109]; exact ⟨by decide, by decide⟩
  by_cases a110 : x = 110
  · rw [a110]; exact ⟨by decide, by decide⟩
  by_cases a111 : x = 111
  · rw [a111]; exact ⟨by decide, by decide⟩
  by_cases a112 : x = 112
  · rw [a112]; exact ⟨by decide, by decide⟩
  by_cases a113 : x = 113
  · rw [a113]; exact ⟨by decide, by decide⟩
  by_cases a114 : x = 114
  · rw [a114]; exact ⟨by decide, by decide⟩
  by_cases a115 : x = 115
  · rw [a115]; exact ⟨by decide, by decide⟩
  by_cases a116 : x = 116
  · rw [a116]; exact ⟨by decide, by decide⟩
  by_cases a117 : x = 117
  · rw [a117]; exact ⟨by decide, by decide⟩
  by_cases a118 : x = 118
  · rw [a118]; exact ⟨by decide, by decide⟩
  by_cases a119 : x = 119
  · rw [a119]; exact ⟨by decide, by decide⟩
  by_cases a120 : x = 120
  · rw [a120]; exact ⟨by decide, by decide⟩
  exact absurd (by rw [rX4_isLetterOfCommand, if_neg a97, if_neg a98, if_neg a99, if_neg a100, if_neg a101, if_neg a102, if_neg a103, if_neg a104, if_neg a105, if_neg a106, if_neg a107, if_neg a108, if_neg a109, if_neg a110, if_neg a111, if_neg a112, if_neg a113, if_neg a114, if_neg a115, if_neg a116, if_neg a117, if_neg a118, if_neg a119, if_neg a120]) h
theorem rv_01 (t : Nat → Nat → Int32) (x : Int32) : rX4_readValue t x = 0 ∨ rX4_readValue t x = 1 := by
  unfold rX4_readValue
  by_cases a97 : x = 97
  · rw [if_pos a97]; exact ral_01 _
  rw [if_neg a97]
  by_cases a99 : x = 99
  · rw [if_pos a99]; exact rnum_01 _ _ _
  rw [if_neg a99]
  by_cases a100 : x = 100
  · rw [if_pos a100]; exact rnum_01 _ _ _
  rw [if_neg a100]
  by_cases a102 : x = 102
  · rw [if_pos a102]; exact rnum_01 _ _ _
  rw [if_neg a102]
  by_cases a116 : x = 116
  · rw [if_pos a116]; exact rnum_01 _ _ _
  rw [if_neg a116]
  by_cases a119 : x = 119
  · rw [if_pos a119]; exact rnum_01 _ _ _
  rw [if_neg a119]
  exact Or.inr rfl

def rcA (t : Nat → Nat → Int32) : Nat → Nat → Int32 := up2 (up2 (up2 t 0 5 ((t 0 5) + 1)) 2 (tK t) (rX4_next t)) 3 (tK t) 0
theorem rc_len {t : Nat → Nat → Int32} (h : TLen t) : TLen (rcA t) := by
  unfold rcA; exact h
theorem rc_k {t : Nat → Nat → Int32} (h : tK t < 60 ∧ t 0 4 = nI (tK t)) : tK (rcA t) < 60 ∧ (rcA t) 0 4 = nI (tK (rcA t)) := by
  have e : (rcA t) 0 4 = t 0 4 := rfl
  have e2 : tK (rcA t) = tK t := by rw [tK, e]; rfl
  rw [e2, e]
  exact h

def rX4_readCommand (t : Nat → Nat → Int32) : Int32 := if (rX6_isWithin (t 0 4) 0 59) = 0 then 0 else if (rX4_isLetterOfCommand (rX4_next t)) = 0 then 0 else rX4_readValue (rcA t) (rX4_next t)
def sX4_readCommand (t : Nat → Nat → Int32) : Nat → Nat → Int32 := if (rX6_isWithin (t 0 4) 0 59) = 0 then t else if (rX4_isLetterOfCommand (rX4_next t)) = 0 then t else up2 (sX4_readValue (rcA t) (rX4_next t)) 0 4 (((sX4_readValue (rcA t) (rX4_next t)) 0 4) + 1)
set_option maxHeartbeats 4000000 in
set_option maxRecDepth 100000 in
/-- X4.readCommand -/
theorem c_X4_readCommand (l : Launch) (G : Gp) (d : Nat → Nat) (t : Nat → Nat → Int32) (Y : va_W) (ht : TLen t) : Cn l G yX4_readCommand cX4_readCommand 3 (some .boolean) 5 [.ref (d 0)] (TextW G d t ++ Y) (some (.int (rX4_readCommand t))) (TextW G d (sX4_readCommand t) ++ Y) := by
  refine CnE.of (by decide) (Nat.le_of_ble_eq_true rfl) ?_
  intro p e s m below meth c ls M hnm hl hW
  have hx := M.1
  have hb := M.2.1
  have hl : lv_has ls 3 [(0, .ref (d 0))] := hl
  refine lv_aload_n hx hb dX4_readCommand_0 rfl (lv_at hl 0 rfl) ?_
  refine gt_Text_0_4 M hW kw_208 (x := t 0 4) rfl dX4_readCommand_1 ?_
  refine lv_iconst (v := 0) hx hb dX4_readCommand_4 (by decide) ?_
  refine lv_bipush (v := 59) hx hb dX4_readCommand_5 (by decide) ?_
  refine r_callSNi M hW (as := [.int (t 0 4), .int 0, .int 59]) (c_X6_isWithin l G (t 0 4) 0 59 (TextW G d t ++ Y)) rfl kn_X4_26 kw_14 kw_15 kw_12 pl_X6_isWithin ⟨by decide, by decide⟩ ⟨Nat.zero_le _, Nat.zero_le _⟩ hl.1 rfl (Nat.le_of_ble_eq_true rfl) dX4_readCommand_7 (fun H locs hW => ?_)
  refine lv_if_ne (tgt := 15) hx hb dX4_readCommand_10 (by decide) (fun c_10 => ?_) (fun c_10 => ?_)
  · skip
    have hk0 := iw_c (n := 59) rfl (by decide) c_10
    have hk : tK t < 60 ∧ t 0 4 = nI (tK t) := ⟨Nat.lt_succ_of_le hk0.2, hk0.1⟩
    refine lv_aload_n hx hb dX4_readCommand_15 rfl (lv_at hl 0 rfl) ?_
    refine r_callVi M hW (c_X4_next l G d t  (Y) ht) rfl kw_215 kw_216 kw_217 kw_218 kw_210 pl_X4_next 0 rfl rfl ⟨by decide, by decide⟩ ⟨Nat.zero_le _, Nat.zero_le _⟩ hl.1 rfl (Nat.le_of_ble_eq_true rfl) dX4_readCommand_16 (fun H locs hW => ?_)
    refine lv_istore_n (lv' := [(1, .int (rX4_next t)), (0, .ref (d 0))]) hx hb dX4_readCommand_19 rfl hl (by decide) rfl (fun ls hl => ?_)
    refine lv_iload_n hx hb dX4_readCommand_20 rfl (lv_at hl 0 rfl) ?_
    refine r_callSi M hW (as := [.int (rX4_next t)]) (c_X4_isLetterOfCommand l G (rX4_next t) (TextW G d t ++ Y)) rfl kw_231 kw_232 kw_218 kw_213 pl_X4_isLetterOfCommand ⟨by decide, by decide⟩ ⟨Nat.zero_le _, Nat.zero_le _⟩ hl.1 rfl (Nat.le_of_ble_eq_true rfl) dX4_readCommand_21 (fun H locs hW => ?_)
    refine lv_if_ne (tgt := 29) hx hb dX4_readCommand_24 (by decide) (fun c_24 => ?_) (fun c_24 => ?_)
    · skip
      have hlt := ilc c_24
      refine lv_aload_n hx hb dX4_readCommand_29 rfl (lv_at hl 1 rfl) ?_
      refine lv_dup hx hb dX4_readCommand_30 rfl ?_
      refine gt_Text_0_5 M hW kw_211 (x := t 0 5) rfl dX4_readCommand_31 ?_
      refine lv_iconst (v := 1) hx hb dX4_readCommand_34 (by decide) ?_
      refine lv_iadd hx hb dX4_readCommand_35 ?_
      refine pt_Text_0_5 M hW kw_211 dX4_readCommand_36 (fun H locs hW => ?_)
      refine lv_aload_n hx hb dX4_readCommand_39 rfl (lv_at hl 1 rfl) ?_
      refine gt_Text_0_2 M hW kw_202 dX4_readCommand_40 ?_
      refine lv_aload_n hx hb dX4_readCommand_43 rfl (lv_at hl 1 rfl) ?_
      refine gt_Text_0_4 M hW kw_208 (x := t 0 4) (up2_k (by decide)) dX4_readCommand_44 ?_
      refine lv_iload_n hx hb dX4_readCommand_47 rfl (lv_at hl 0 rfl) ?_
      refine lv_i2c (v := rX4_next t) hx hb dX4_readCommand_48 hlt.1 ?_
      refine as_Text_2 M hW (tK t) hk.2 hk.1 hlt.2 dX4_readCommand_49 (fun H locs hW => ?_)
      refine lv_aload_n hx hb dX4_readCommand_50 rfl (lv_at hl 1 rfl) ?_
      refine gt_Text_0_3 M hW kw_203 dX4_readCommand_51 ?_
      refine lv_aload_n hx hb dX4_readCommand_54 rfl (lv_at hl 1 rfl) ?_
      refine gt_Text_0_4 M hW kw_208 (x := t 0 4) ((up2_d (by decide)).trans (up2_k (by decide))) dX4_readCommand_55 ?_
      refine lv_iconst (v := 0) hx hb dX4_readCommand_58 (by decide) ?_
      refine as_Text_3 M hW (tK t) hk.2 hk.1 dX4_readCommand_59 (fun H locs hW => ?_)
      have hW : Wd G s (TextW G d (rcA t) ++ Y) _ _ := hW
      refine lv_aload_n hx hb dX4_readCommand_60 rfl (lv_at hl 1 rfl) ?_
      refine lv_iload_n hx hb dX4_readCommand_61 rfl (lv_at hl 0 rfl) ?_
      refine r_callVi M hW (c_X4_readValue l G d (rcA t) (rX4_next t) (Y) (rc_len ht) (rc_k hk)) rfl kw_233 kw_234 kw_235 kw_218 kw_230 pl_X4_readValue 0 rfl rfl ⟨by decide, by decide⟩ ⟨Nat.zero_le _, Nat.zero_le _⟩ hl.1 rfl (Nat.le_of_ble_eq_true rfl) dX4_readCommand_62 (fun H locs hW => ?_)
      refine lv_istore_n (lv' := [(2, .int (rX4_readValue (rcA t) (rX4_next t))), (1, .int (rX4_next t)), (0, .ref (d 0))]) hx hb dX4_readCommand_65 rfl hl (by decide) rfl (fun ls hl => ?_)
      refine lv_aload_n hx hb dX4_readCommand_66 rfl (lv_at hl 2 rfl) ?_
      refine lv_dup hx hb dX4_readCommand_67 rfl ?_
      refine gt_Text_0_4 M hW kw_208 (x := (sX4_readValue (rcA t) (rX4_next t)) 0 4) rfl dX4_readCommand_68 ?_
      refine lv_iconst (v := 1) hx hb dX4_readCommand_71 (by decide) ?_
      refine lv_iadd hx hb dX4_readCommand_72 ?_
      refine pt_Text_0_4 M hW kw_208 dX4_readCommand_73 (fun H locs hW => ?_)
      refine lv_iload_n hx hb dX4_readCommand_76 rfl (lv_at hl 0 rfl) ?_
      exact r_retz M (nar_z (rv_01 _ _)) hW (by rw [sX4_readCommand, if_neg c_10, if_neg c_24]) ⟨by rw [rX4_readCommand, if_neg c_10, if_neg c_24], rfl⟩ (Nat.zero_le _) (Nat.zero_le _) dX4_readCommand_77
    · skip
      refine lv_iconst (v := 0) hx hb dX4_readCommand_27 (by decide) ?_
      exact r_retz M rfl hW (by rw [sX4_readCommand, if_neg c_10, if_pos c_24]) ⟨by rw [rX4_readCommand, if_neg c_10, if_pos c_24], rfl⟩ (Nat.zero_le _) (Nat.zero_le _) dX4_readCommand_28
  · skip
    refine lv_iconst (v := 0) hx hb dX4_readCommand_13 (by decide) ?_
    exact r_retz M rfl hW (by rw [sX4_readCommand, if_pos c_10]) ⟨by rw [rX4_readCommand, if_pos c_10], rfl⟩ (Nat.zero_le _) (Nat.zero_le _) dX4_readCommand_14
