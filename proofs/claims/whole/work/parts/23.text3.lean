def tMinus (t : Nat → Nat → Int32) : Int32 := if (rX4_next t) = 45 then 1 else 0
theorem rnum_01 (t : Nat → Nat → Int32) (x y : Int32) : rX4_readNumber t x y = 0 ∨ rX4_readNumber t x y = 1 := by
  unfold rX4_readNumber
  by_cases c1 : (rX4_nextDigit t) = (-1)
  · rw [if_pos c1]; exact Or.inl rfl
  · rw [if_neg c1]
    by_cases c2 : (rX6_isWithin (rX4_nextDigit t) x y) = 0
    · rw [if_pos c2]; exact Or.inl rfl
    · rw [if_neg c2]; exact rn_01 _ _ _ _

def jX4_readAlignment_29 (h : Nat → Nat → Int32) : Nat → Nat → Int32 := if (tMinus h) = 0 then h else up2 h 0 5 ((h 0 5) + 1)
theorem ra_len {t : Nat → Nat → Int32} (h : TLen t) : TLen (jX4_readAlignment_29 t) := by
  unfold jX4_readAlignment_29
  by_cases c : tMinus t = 0
  · rw [if_pos c]; exact h
  · rw [if_neg c]; exact h
theorem ra_k {t : Nat → Nat → Int32} (h : tK t < 60 ∧ t 0 4 = nI (tK t)) (z : Int32) : (up2 (jX4_readAlignment_29 t) 0 5 z) 0 4 = nI (tK t) := by
  refine Eq.trans (b := (jX4_readAlignment_29 t) 0 4) rfl ?_
  unfold jX4_readAlignment_29
  by_cases c : tMinus t = 0
  · rw [if_pos c]; exact h.2
  · rw [if_neg c]; exact h.2

def rX4_readAlignment (t : Nat → Nat → Int32) : Int32 := if (rX4_nextDigit (jX4_readAlignment_29 t)) = (-1) then 0 else if (tMinus t) = 0 then 1 else if (rX4_nextDigit (jX4_readAlignment_29 t)) = 0 then 0 else 1
def sX4_readAlignment (t : Nat → Nat → Int32) : Nat → Nat → Int32 := if (rX4_nextDigit (jX4_readAlignment_29 t)) = (-1) then jX4_readAlignment_29 t else if (tMinus t) = 0 then up2 (up2 (jX4_readAlignment_29 t) 0 5 (((jX4_readAlignment_29 t) 0 5) + 1)) 3 (tK t) (rX4_nextDigit (jX4_readAlignment_29 t)) else if (rX4_nextDigit (jX4_readAlignment_29 t)) = 0 then jX4_readAlignment_29 t else up2 (up2 (jX4_readAlignment_29 t) 0 5 (((jX4_readAlignment_29 t) 0 5) + 1)) 3 (tK t) (-(rX4_nextDigit (jX4_readAlignment_29 t)))
set_option maxHeartbeats 4000000 in
set_option maxRecDepth 100000 in
/-- X4.readAlignment -/
theorem c_X4_readAlignment (l : Launch) (G : Gp) (d : Nat → Nat) (t : Nat → Nat → Int32) (Y : va_W) (ht : TLen t) (hk : tK t < 60 ∧ t 0 4 = nI (tK t)) : Cn l G yX4_readAlignment cX4_readAlignment 3 (some .boolean) 3 [.ref (d 0)] (TextW G d t ++ Y) (some (.int (rX4_readAlignment t))) (TextW G d (sX4_readAlignment t) ++ Y) := by
  refine CnE.of (by decide) (Nat.le_of_ble_eq_true rfl) ?_
  intro p e s m below meth c ls M hnm hl hW
  have hx := M.1
  have hb := M.2.1
  have hl : lv_has ls 3 [(0, .ref (d 0))] := hl
  refine lv_aload_n hx hb dX4_readAlignment_0 rfl (lv_at hl 0 rfl) ?_
  refine r_callVi M hW (c_X4_next l G d t  (Y) ht) rfl kw_215 kw_216 kw_217 kw_218 kw_210 pl_X4_next 0 rfl rfl ⟨by decide, by decide⟩ ⟨Nat.zero_le _, Nat.zero_le _⟩ hl.1 rfl (Nat.le_of_ble_eq_true rfl) dX4_readAlignment_1 (fun H locs hW => ?_)
  refine lv_bipush (v := 45) hx hb dX4_readAlignment_4 (by decide) ?_
  refine r_cuti (pc2 := 14) (ls2 := ls) (st := []) (tMinus t) (fun x_14 hx_14 => ?_) (fun hJ_14 => ?_)
  · skip
    rewrite [hx_14]
    refine lv_istore_n (lv' := [(1, .int (tMinus t)), (0, .ref (d 0))]) hx hb dX4_readAlignment_14 rfl hl (by decide) rfl (fun ls hl => ?_)
    refine r_cut (σ := Unit) (fun _ H1 l1 => Wd G s (TextW G d (jX4_readAlignment_29 t) ++ Y) H1 l1) (fun _ => F0 m 29 ls []) (fun _ H locs hW => ?_) (fun hJ_29 => ?_)
    · skip
      refine lv_aload_n hx hb dX4_readAlignment_29 rfl (lv_at hl 1 rfl) ?_
      refine r_callVi M hW (c_X4_nextDigit l G d (jX4_readAlignment_29 t)  (Y) (ra_len ht)) rfl kw_220 kw_221 kw_222 kw_218 kw_214 pl_X4_nextDigit 0 rfl rfl ⟨by decide, by decide⟩ ⟨Nat.zero_le _, Nat.zero_le _⟩ hl.1 rfl (Nat.le_of_ble_eq_true rfl) dX4_readAlignment_30 (fun H locs hW => ?_)
      refine lv_istore_n (lv' := [(2, .int (rX4_nextDigit (jX4_readAlignment_29 t))), (1, .int (tMinus t)), (0, .ref (d 0))]) hx hb dX4_readAlignment_33 rfl hl (by decide) rfl (fun ls hl => ?_)
      refine lv_iload_n hx hb dX4_readAlignment_34 rfl (lv_at hl 0 rfl) ?_
      refine lv_iconst (v := (-1)) hx hb dX4_readAlignment_35 (by decide) ?_
      refine lv_icmp_eq (tgt := 47) hx hb dX4_readAlignment_36 (by decide) (fun c_36 => ?_) (fun c_36 => ?_)
      · skip
        refine lv_iconst (v := 0) hx hb dX4_readAlignment_47 (by decide) ?_
        exact r_retz M rfl hW (by rw [sX4_readAlignment, if_pos c_36]) ⟨by rw [rX4_readAlignment, if_pos c_36], rfl⟩ (Nat.zero_le _) (Nat.zero_le _) dX4_readAlignment_48
      · skip
        refine lv_iload_n hx hb dX4_readAlignment_39 rfl (lv_at hl 1 rfl) ?_
        refine lv_if_eq (tgt := 49) hx hb dX4_readAlignment_40 (by decide) (fun c_40 => ?_) (fun c_40 => ?_)
        · skip
          refine lv_aload_n hx hb dX4_readAlignment_49 rfl (lv_at hl 2 rfl) ?_
          refine lv_dup hx hb dX4_readAlignment_50 rfl ?_
          refine gt_Text_0_5 M hW kw_211 (x := (jX4_readAlignment_29 t) 0 5) rfl dX4_readAlignment_51 ?_
          refine lv_iconst (v := 1) hx hb dX4_readAlignment_54 (by decide) ?_
          refine lv_iadd hx hb dX4_readAlignment_55 ?_
          refine pt_Text_0_5 M hW kw_211 dX4_readAlignment_56 (fun H locs hW => ?_)
          refine lv_aload_n hx hb dX4_readAlignment_59 rfl (lv_at hl 2 rfl) ?_
          refine gt_Text_0_3 M hW kw_203 dX4_readAlignment_60 ?_
          refine lv_aload_n hx hb dX4_readAlignment_63 rfl (lv_at hl 2 rfl) ?_
          refine gt_Text_0_4 M hW kw_208 (x := nI (tK t)) (ra_k hk _) dX4_readAlignment_64 ?_
          refine lv_iload_n hx hb dX4_readAlignment_67 rfl (lv_at hl 1 rfl) ?_
          refine r_cuti (pc2 := 77) (ls2 := ls) (st := [.int (nI (tK t)), .ref (d 3)]) (rX4_nextDigit (jX4_readAlignment_29 t)) (fun x_77 hx_77 => ?_) (fun hJ_77 => ?_)
          · skip
            rewrite [hx_77]
            refine as_Text_3 M hW (tK t) rfl (by omega) dX4_readAlignment_77 (fun H locs hW => ?_)
            refine lv_iconst (v := 1) hx hb dX4_readAlignment_78 (by decide) ?_
            exact r_retz M rfl hW (by rw [sX4_readAlignment, if_neg c_36, if_pos c_40]) ⟨by rw [rX4_readAlignment, if_neg c_36, if_pos c_40], rfl⟩ (Nat.zero_le _) (Nat.zero_le _) dX4_readAlignment_79
          · skip
            refine lv_if_eq (tgt := 76) hx hb dX4_readAlignment_68 (by decide) (fun c_68 => ?_) (fun c_68 => ?_)
            · skip
              refine lv_iload_n hx hb dX4_readAlignment_76 rfl (lv_at hl 0 rfl) ?_
              exact hJ_77 _ rfl
            · skip
              exact absurd c_40 c_68
        · skip
          refine lv_iload_n hx hb dX4_readAlignment_43 rfl (lv_at hl 0 rfl) ?_
          refine lv_if_ne (tgt := 49) hx hb dX4_readAlignment_44 (by decide) (fun c_44 => ?_) (fun c_44 => ?_)
          · skip
            refine lv_aload_n hx hb dX4_readAlignment_49 rfl (lv_at hl 2 rfl) ?_
            refine lv_dup hx hb dX4_readAlignment_50 rfl ?_
            refine gt_Text_0_5 M hW kw_211 (x := (jX4_readAlignment_29 t) 0 5) rfl dX4_readAlignment_51 ?_
            refine lv_iconst (v := 1) hx hb dX4_readAlignment_54 (by decide) ?_
            refine lv_iadd hx hb dX4_readAlignment_55 ?_
            refine pt_Text_0_5 M hW kw_211 dX4_readAlignment_56 (fun H locs hW => ?_)
            refine lv_aload_n hx hb dX4_readAlignment_59 rfl (lv_at hl 2 rfl) ?_
            refine gt_Text_0_3 M hW kw_203 dX4_readAlignment_60 ?_
            refine lv_aload_n hx hb dX4_readAlignment_63 rfl (lv_at hl 2 rfl) ?_
            refine gt_Text_0_4 M hW kw_208 (x := nI (tK t)) (ra_k hk _) dX4_readAlignment_64 ?_
            refine lv_iload_n hx hb dX4_readAlignment_67 rfl (lv_at hl 1 rfl) ?_
            refine r_cuti (pc2 := 77) (ls2 := ls) (st := [.int (nI (tK t)), .ref (d 3)]) (-(rX4_nextDigit (jX4_readAlignment_29 t))) (fun x_77 hx_77 => ?_) (fun hJ_77 => ?_)
            · skip
              rewrite [hx_77]
              refine as_Text_3 M hW (tK t) rfl (by omega) dX4_readAlignment_77 (fun H locs hW => ?_)
              refine lv_iconst (v := 1) hx hb dX4_readAlignment_78 (by decide) ?_
              exact r_retz M rfl hW (by rw [sX4_readAlignment, if_neg c_36, if_neg c_40, if_neg c_44]) ⟨by rw [rX4_readAlignment, if_neg c_36, if_neg c_40, if_neg c_44], rfl⟩ (Nat.zero_le _) (Nat.zero_le _) dX4_readAlignment_79
            · skip
              refine lv_if_eq (tgt := 76) hx hb dX4_readAlignment_68 (by decide) (fun c_68_2 => ?_) (fun c_68_2 => ?_)
              · skip
                exact absurd c_68_2 c_40
              · skip
                refine lv_iload_n hx hb dX4_readAlignment_71 rfl (lv_at hl 0 rfl) ?_
                refine lv_ineg hx hb dX4_readAlignment_72 ?_
                refine lv_goto (tgt := 77) hx hb dX4_readAlignment_73 (by decide) ?_
                exact hJ_77 _ rfl
          · skip
            refine lv_iconst (v := 0) hx hb dX4_readAlignment_47 (by decide) ?_
            exact r_retz M rfl hW (by rw [sX4_readAlignment, if_neg c_36, if_neg c_40, if_pos c_44]) ⟨by rw [rX4_readAlignment, if_neg c_36, if_neg c_40, if_pos c_44], rfl⟩ (Nat.zero_le _) (Nat.zero_le _) dX4_readAlignment_48
    · skip
      refine lv_iload_n hx hb dX4_readAlignment_15 rfl (lv_at hl 0 rfl) ?_
      refine lv_if_eq (tgt := 29) hx hb dX4_readAlignment_16 (by decide) (fun c_16 => ?_) (fun c_16 => ?_)
      · skip
        exact hJ_29 () _ _ (by rw [jX4_readAlignment_29, if_pos c_16]; exact hW)
      · skip
        refine lv_aload_n hx hb dX4_readAlignment_19 rfl (lv_at hl 1 rfl) ?_
        refine lv_dup hx hb dX4_readAlignment_20 rfl ?_
        refine gt_Text_0_5 M hW kw_211 (x := t 0 5) rfl dX4_readAlignment_21 ?_
        refine lv_iconst (v := 1) hx hb dX4_readAlignment_24 (by decide) ?_
        refine lv_iadd hx hb dX4_readAlignment_25 ?_
        refine pt_Text_0_5 M hW kw_211 dX4_readAlignment_26 (fun H locs hW => ?_)
        exact hJ_29 () _ _ (by rw [jX4_readAlignment_29, if_neg c_16]; exact hW)
  · skip
    refine lv_icmp_ne (tgt := 13) hx hb dX4_readAlignment_6 (by decide) (fun c_6 => ?_) (fun c_6 => ?_)
    · skip
      refine lv_iconst (v := 0) hx hb dX4_readAlignment_13 (by decide) ?_
      exact hJ_14 _ (by rw [tMinus, if_neg c_6])
    · skip
      refine lv_iconst (v := 1) hx hb dX4_readAlignment_9 (by decide) ?_
      refine lv_goto (tgt := 14) hx hb dX4_readAlignment_10 (by decide) ?_
      exact hJ_14 _ (by rw [tMinus, if_pos c_6])
