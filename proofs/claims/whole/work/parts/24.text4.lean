theorem ral_01 (t : Nat → Nat → Int32) : rX4_readAlignment t = 0 ∨ rX4_readAlignment t = 1 := by
  unfold rX4_readAlignment
  by_cases c1 : (rX4_nextDigit (jX4_readAlignment_29 t)) = (-1)
  · rw [if_pos c1]; exact Or.inl rfl
  · rw [if_neg c1]
    by_cases c2 : (tMinus t) = 0
    · rw [if_pos c2]; exact Or.inr rfl
    · rw [if_neg c2]
      by_cases c3 : (rX4_nextDigit (jX4_readAlignment_29 t)) = 0
      · rw [if_pos c3]; exact Or.inl rfl
      · rw [if_neg c3]; exact Or.inr rfl

def rX4_readValue (t : Nat → Nat → Int32) (x : Int32) : Int32 := if x = 97 then rX4_readAlignment t else if x = 99 then rX4_readNumber t 1 20 else if x = 100 then rX4_readNumber t 0 6 else if x = 102 then rX4_readNumber t 0 40 else if x = 116 then rX4_readNumber t 0 200 else if x = 119 then rX4_readNumber t 1 99 else 1
def sX4_readValue (t : Nat → Nat → Int32) (x : Int32) : Nat → Nat → Int32 := if x = 97 then sX4_readAlignment t else if x = 99 then sX4_readNumber t 1 20 else if x = 100 then sX4_readNumber t 0 6 else if x = 102 then sX4_readNumber t 0 40 else if x = 116 then sX4_readNumber t 0 200 else if x = 119 then sX4_readNumber t 1 99 else t
set_option maxHeartbeats 4000000 in
set_option maxRecDepth 100000 in
/-- X4.readValue -/
theorem c_X4_readValue (l : Launch) (G : Gp) (d : Nat → Nat) (t : Nat → Nat → Int32) (x : Int32) (Y : va_W) (ht : TLen t) (hk : tK t < 60 ∧ t 0 4 = nI (tK t)) : Cn l G yX4_readValue cX4_readValue 2 (some .boolean) 4 [.ref (d 0), .int x] (TextW G d t ++ Y) (some (.int (rX4_readValue t x))) (TextW G d (sX4_readValue t x) ++ Y) := by
  refine CnE.of (by decide) (Nat.le_of_ble_eq_true rfl) ?_
  intro p e s m below meth c ls M hnm hl hW
  have hx := M.1
  have hb := M.2.1
  have hl : lv_has ls 2 [(0, .ref (d 0)), (1, .int x)] := hl
  refine lv_iload_n hx hb dX4_readValue_0 rfl (lv_at hl 1 rfl) ?_
  by_cases c_1_97 : x = 97
  · skip
    refine lv_lookup (off := 119) (tgt := 120) hx hb dX4_readValue_1 (by decide) (by rw [c_1_97]; rfl) (by decide) ?_
    refine lv_aload_n hx hb dX4_readValue_120 rfl (lv_at hl 0 rfl) ?_
    refine r_callVi M hW (c_X4_readAlignment l G d t  (Y) ht hk) rfl kw_227 kw_228 kw_229 kw_218 kw_223 pl_X4_readAlignment 0 rfl rfl ⟨by decide, by decide⟩ ⟨Nat.zero_le _, Nat.zero_le _⟩ hl.1 rfl (Nat.le_of_ble_eq_true rfl) dX4_readValue_121 (fun H locs hW => ?_)
    exact r_retz M (nar_z (ral_01 _)) hW (by rw [sX4_readValue, if_pos c_1_97]) ⟨by rw [rX4_readValue, if_pos c_1_97], rfl⟩ (Nat.zero_le _) (Nat.zero_le _) dX4_readValue_124
  · skip
    by_cases c_1_99 : x = 99
    · skip
      refine lv_lookup (off := 104) (tgt := 105) hx hb dX4_readValue_1 (by decide) (by rw [c_1_99]; rfl) (by decide) ?_
      refine lv_aload_n hx hb dX4_readValue_105 rfl (lv_at hl 0 rfl) ?_
      refine r_getsN M hW M.2.2.2.2.2.2.2.2.1.2.1 kn_X4_60 dX4_readValue_106 ?_
      refine lv_iconst (v := 3) hx hb dX4_readValue_109 (by decide) ?_
      refine r_tald M hW M.2.2.2.2.2.2.2.2.1.2.1 3 rfl (by decide) (by decide) (x := 1) rfl dX4_readValue_110 ?_
      refine r_getsN M hW M.2.2.2.2.2.2.2.2.1.2.2.1 kn_X4_63 dX4_readValue_111 ?_
      refine lv_iconst (v := 3) hx hb dX4_readValue_114 (by decide) ?_
      refine r_tald M hW M.2.2.2.2.2.2.2.2.1.2.2.1 3 rfl (by decide) (by decide) (x := 20) rfl dX4_readValue_115 ?_
      refine r_callVi M hW (c_X4_readNumber l G d t 1 20 (Y) ht hk) rfl kw_224 kw_225 kw_226 kw_218 kw_219 pl_X4_readNumber 0 rfl rfl ⟨by decide, by decide⟩ ⟨Nat.zero_le _, Nat.zero_le _⟩ hl.1 rfl (Nat.le_of_ble_eq_true rfl) dX4_readValue_116 (fun H locs hW => ?_)
      exact r_retz M (nar_z (rnum_01 _ _ _)) hW (by rw [sX4_readValue, if_neg c_1_97, if_pos c_1_99]) ⟨by rw [rX4_readValue, if_neg c_1_97, if_pos c_1_99], rfl⟩ (Nat.zero_le _) (Nat.zero_le _) dX4_readValue_119
    · skip
      by_cases c_1_100 : x = 100
      · skip
        refine lv_lookup (off := 59) (tgt := 60) hx hb dX4_readValue_1 (by decide) (by rw [c_1_100]; rfl) (by decide) ?_
        refine lv_aload_n hx hb dX4_readValue_60 rfl (lv_at hl 0 rfl) ?_
        refine r_getsN M hW M.2.2.2.2.2.2.2.2.1.2.1 kn_X4_60 dX4_readValue_61 ?_
        refine lv_iconst (v := 0) hx hb dX4_readValue_64 (by decide) ?_
        refine r_tald M hW M.2.2.2.2.2.2.2.2.1.2.1 0 rfl (by decide) (by decide) (x := 0) rfl dX4_readValue_65 ?_
        refine r_getsN M hW M.2.2.2.2.2.2.2.2.1.2.2.1 kn_X4_63 dX4_readValue_66 ?_
        refine lv_iconst (v := 0) hx hb dX4_readValue_69 (by decide) ?_
        refine r_tald M hW M.2.2.2.2.2.2.2.2.1.2.2.1 0 rfl (by decide) (by decide) (x := 6) rfl dX4_readValue_70 ?_
        refine r_callVi M hW (c_X4_readNumber l G d t 0 6 (Y) ht hk) rfl kw_224 kw_225 kw_226 kw_218 kw_219 pl_X4_readNumber 0 rfl rfl ⟨by decide, by decide⟩ ⟨Nat.zero_le _, Nat.zero_le _⟩ hl.1 rfl (Nat.le_of_ble_eq_true rfl) dX4_readValue_71 (fun H locs hW => ?_)
        exact r_retz M (nar_z (rnum_01 _ _ _)) hW (by rw [sX4_readValue, if_neg c_1_97, if_neg c_1_99, if_pos c_1_100]) ⟨by rw [rX4_readValue, if_neg c_1_97, if_neg c_1_99, if_pos c_1_100], rfl⟩ (Nat.zero_le _) (Nat.zero_le _) dX4_readValue_74
      · skip
        by_cases c_1_102 : x = 102
        · skip
          refine lv_lookup (off := 89) (tgt := 90) hx hb dX4_readValue_1 (by decide) (by rw [c_1_102]; rfl) (by decide) ?_
          refine lv_aload_n hx hb dX4_readValue_90 rfl (lv_at hl 0 rfl) ?_
          refine r_getsN M hW M.2.2.2.2.2.2.2.2.1.2.1 kn_X4_60 dX4_readValue_91 ?_
          refine lv_iconst (v := 2) hx hb dX4_readValue_94 (by decide) ?_
          refine r_tald M hW M.2.2.2.2.2.2.2.2.1.2.1 2 rfl (by decide) (by decide) (x := 0) rfl dX4_readValue_95 ?_
          refine r_getsN M hW M.2.2.2.2.2.2.2.2.1.2.2.1 kn_X4_63 dX4_readValue_96 ?_
          refine lv_iconst (v := 2) hx hb dX4_readValue_99 (by decide) ?_
          refine r_tald M hW M.2.2.2.2.2.2.2.2.1.2.2.1 2 rfl (by decide) (by decide) (x := 40) rfl dX4_readValue_100 ?_
          refine r_callVi M hW (c_X4_readNumber l G d t 0 40 (Y) ht hk) rfl kw_224 kw_225 kw_226 kw_218 kw_219 pl_X4_readNumber 0 rfl rfl ⟨by decide, by decide⟩ ⟨Nat.zero_le _, Nat.zero_le _⟩ hl.1 rfl (Nat.le_of_ble_eq_true rfl) dX4_readValue_101 (fun H locs hW => ?_)
          exact r_retz M (nar_z (rnum_01 _ _ _)) hW (by rw [sX4_readValue, if_neg c_1_97, if_neg c_1_99, if_neg c_1_100, if_pos c_1_102]) ⟨by rw [rX4_readValue, if_neg c_1_97, if_neg c_1_99, if_neg c_1_100, if_pos c_1_102], rfl⟩ (Nat.zero_le _) (Nat.zero_le _) dX4_readValue_104
        · skip
          by_cases c_1_116 : x = 116
          · skip
            refine lv_lookup (off := 74) (tgt := 75) hx hb dX4_readValue_1 (by decide) (by rw [c_1_116]; rfl) (by decide) ?_
            refine lv_aload_n hx hb dX4_readValue_75 rfl (lv_at hl 0 rfl) ?_
            refine r_getsN M hW M.2.2.2.2.2.2.2.2.1.2.1 kn_X4_60 dX4_readValue_76 ?_
            refine lv_iconst (v := 1) hx hb dX4_readValue_79 (by decide) ?_
            refine r_tald M hW M.2.2.2.2.2.2.2.2.1.2.1 1 rfl (by decide) (by decide) (x := 0) rfl dX4_readValue_80 ?_
            refine r_getsN M hW M.2.2.2.2.2.2.2.2.1.2.2.1 kn_X4_63 dX4_readValue_81 ?_
            refine lv_iconst (v := 1) hx hb dX4_readValue_84 (by decide) ?_
            refine r_tald M hW M.2.2.2.2.2.2.2.2.1.2.2.1 1 rfl (by decide) (by decide) (x := 200) rfl dX4_readValue_85 ?_
            refine r_callVi M hW (c_X4_readNumber l G d t 0 200 (Y) ht hk) rfl kw_224 kw_225 kw_226 kw_218 kw_219 pl_X4_readNumber 0 rfl rfl ⟨by decide, by decide⟩ ⟨Nat.zero_le _, Nat.zero_le _⟩ hl.1 rfl (Nat.le_of_ble_eq_true rfl) dX4_readValue_86 (fun H locs hW => ?_)
            exact r_retz M (nar_z (rnum_01 _ _ _)) hW (by rw [sX4_readValue, if_neg c_1_97, if_neg c_1_99, if_neg c_1_100, if_neg c_1_102, if_pos c_1_116]) ⟨by rw [rX4_readValue, if_neg c_1_97, if_neg c_1_99, if_neg c_1_100, if_neg c_1_102, if_pos c_1_116], rfl⟩ (Nat.zero_le _) (Nat.zero_le _) dX4_readValue_89
          · skip
            by_cases c_1_119 : x = 119
            · skip
              refine lv_lookup (off := 124) (tgt := 125) hx hb dX4_readValue_1 (by decide) (by rw [c_1_119]; rfl) (by decide) ?_
              refine lv_aload_n hx hb dX4_readValue_125 rfl (lv_at hl 0 rfl) ?_
              refine lv_iconst (v := 1) hx hb dX4_readValue_126 (by decide) ?_
              refine lv_bipush (v := 99) hx hb dX4_readValue_127 (by decide) ?_
              refine r_callVi M hW (c_X4_readNumber l G d t 1 99 (Y) ht hk) rfl kw_224 kw_225 kw_226 kw_218 kw_219 pl_X4_readNumber 0 rfl rfl ⟨by decide, by decide⟩ ⟨Nat.zero_le _, Nat.zero_le _⟩ hl.1 rfl (Nat.le_of_ble_eq_true rfl) dX4_readValue_129 (fun H locs hW => ?_)
              exact r_retz M (nar_z (rnum_01 _ _ _)) hW (by rw [sX4_readValue, if_neg c_1_97, if_neg c_1_99, if_neg c_1_100, if_neg c_1_102, if_neg c_1_116, if_pos c_1_119]) ⟨by rw [rX4_readValue, if_neg c_1_97, if_neg c_1_99, if_neg c_1_100, if_neg c_1_102, if_neg c_1_116, if_pos c_1_119], rfl⟩ (Nat.zero_le _) (Nat.zero_le _) dX4_readValue_132
            · skip
              refine lv_lookup (off := 132) (tgt := 133) hx hb dX4_readValue_1 (by decide) ((lv_osw c_1_97 (by decide)).trans ((lv_osw c_1_99 (by decide)).trans ((lv_osw c_1_100 (by decide)).trans ((lv_osw c_1_102 (by decide)).trans ((lv_osw c_1_116 (by decide)).trans ((lv_osw c_1_119 (by decide)).trans rfl)))))) (by decide) ?_
              refine lv_iconst (v := 1) hx hb dX4_readValue_133 (by decide) ?_
              exact r_retz M rfl hW (by rw [sX4_readValue, if_neg c_1_97, if_neg c_1_99, if_neg c_1_100, if_neg c_1_102, if_neg c_1_116, if_neg c_1_119]) ⟨by rw [rX4_readValue, if_neg c_1_97, if_neg c_1_99, if_neg c_1_100, if_neg c_1_102, if_neg c_1_116, if_neg c_1_119], rfl⟩ (Nat.zero_le _) (Nat.zero_le _) dX4_readValue_134
