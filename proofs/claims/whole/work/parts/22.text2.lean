/-- the digits behind the first: the answer, and the text's state then -/
def rnR (y : Int32) : Nat → (Nat → Nat → Int32) → Int32 → Int32
  | 0, _, _ => 1
  | n + 1, h, z => if z = 0 then 1 else if rX4_nextDigit h = (-1) then 1 else if (z * 10) + (rX4_nextDigit h) ≤ y then rnR y n (up2 h 0 5 ((h 0 5) + 1)) ((z * 10) + (rX4_nextDigit h)) else 0
def rnS (y : Int32) : Nat → (Nat → Nat → Int32) → Int32 → (Nat → Nat → Int32)
  | 0, h, z => up2 h 3 (tK h) z
  | n + 1, h, z => if z = 0 then up2 h 3 (tK h) z else if rX4_nextDigit h = (-1) then up2 h 3 (tK h) z else if (z * 10) + (rX4_nextDigit h) ≤ y then rnS y n (up2 h 0 5 ((h 0 5) + 1)) ((z * 10) + (rX4_nextDigit h)) else h
theorem rn_01 (y : Int32) : ∀ (n : Nat) (h : Nat → Nat → Int32) (z : Int32), rnR y n h z = 0 ∨ rnR y n h z = 1 := by
  intro n
  induction n with
  | zero => exact fun h z => Or.inr rfl
  | succ n ih =>
    intro h z
    rw [rnR]
    by_cases c1 : z = 0
    · rw [if_pos c1]; exact Or.inr rfl
    · rw [if_neg c1]
      by_cases c2 : rX4_nextDigit h = (-1)
      · rw [if_pos c2]; exact Or.inr rfl
      · rw [if_neg c2]
        by_cases c3 : (z * 10) + (rX4_nextDigit h) ≤ y
        · rw [if_pos c3]; exact ih _ _
        · rw [if_neg c3]; exact Or.inl rfl

def rX4_readNumber (t : Nat → Nat → Int32) (x y : Int32) : Int32 := if (rX4_nextDigit t) = (-1) then 0 else if (rX6_isWithin (rX4_nextDigit t) x y) = 0 then 0 else rnR y 60 (up2 t 0 5 ((t 0 5) + 1)) (rX4_nextDigit t)
def sX4_readNumber (t : Nat → Nat → Int32) (x y : Int32) : Nat → Nat → Int32 := if (rX4_nextDigit t) = (-1) then t else if (rX6_isWithin (rX4_nextDigit t) x y) = 0 then t else rnS y 60 (up2 t 0 5 ((t 0 5) + 1)) (rX4_nextDigit t)

set_option maxHeartbeats 4000000 in
set_option maxRecDepth 100000 in
/-- X4.readNumber -/
theorem c_X4_readNumber (l : Launch) (G : Gp) (d : Nat → Nat) (t : Nat → Nat → Int32) (x : Int32) (y : Int32) (Y : va_W) (ht : TLen t) (hk : tK t < 60 ∧ t 0 4 = nI (tK t)) : Cn l G yX4_readNumber cX4_readNumber 6 (some .boolean) 3 [.ref (d 0), .int x, .int y] (TextW G d t ++ Y) (some (.int (rX4_readNumber t x y))) (TextW G d (sX4_readNumber t x y) ++ Y) := by
  refine CnE.of (by decide) (Nat.le_of_ble_eq_true rfl) ?_
  intro p e s m below meth c ls M hnm hl hW
  have hx := M.1
  have hb := M.2.1
  have hl : lv_has ls 6 [(0, .ref (d 0)), (1, .int x), (2, .int y)] := hl
  refine lv_aload_n hx hb dX4_readNumber_0 rfl (lv_at hl 0 rfl) ?_
  refine r_callVi M hW (c_X4_nextDigit l G d t  (Y) ht) rfl kw_220 kw_221 kw_222 kw_218 kw_214 pl_X4_nextDigit 0 rfl rfl ⟨by decide, by decide⟩ ⟨Nat.zero_le _, Nat.zero_le _⟩ hl.1 rfl (Nat.le_of_ble_eq_true rfl) dX4_readNumber_1 (fun H locs hW => ?_)
  refine lv_istore_n (lv' := [(3, .int (rX4_nextDigit t)), (0, .ref (d 0)), (1, .int x), (2, .int y)]) hx hb dX4_readNumber_4 rfl hl (by decide) rfl (fun ls hl => ?_)
  refine lv_iload_n hx hb dX4_readNumber_5 rfl (lv_at hl 0 rfl) ?_
  refine lv_iconst (v := (-1)) hx hb dX4_readNumber_6 (by decide) ?_
  refine lv_icmp_eq (tgt := 19) hx hb dX4_readNumber_7 (by decide) (fun c_7 => ?_) (fun c_7 => ?_)
  · skip
    refine lv_iconst (v := 0) hx hb dX4_readNumber_19 (by decide) ?_
    exact r_retz M rfl hW (by rw [sX4_readNumber, if_pos c_7]) ⟨by rw [rX4_readNumber, if_pos c_7], rfl⟩ (Nat.zero_le _) (Nat.zero_le _) dX4_readNumber_20
  · skip
    refine lv_iload_n hx hb dX4_readNumber_10 rfl (lv_at hl 0 rfl) ?_
    refine lv_iload_n hx hb dX4_readNumber_11 rfl (lv_at hl 2 rfl) ?_
    refine lv_iload_n hx hb dX4_readNumber_12 rfl (lv_at hl 3 rfl) ?_
    refine r_callSNi M hW (as := [.int (rX4_nextDigit t), .int x, .int y]) (c_X6_isWithin l G (rX4_nextDigit t) x y (TextW G d t ++ Y)) rfl kn_X4_26 kw_14 kw_15 kw_12 pl_X6_isWithin ⟨by decide, by decide⟩ ⟨Nat.zero_le _, Nat.zero_le _⟩ hl.1 rfl (Nat.le_of_ble_eq_true rfl) dX4_readNumber_13 (fun H locs hW => ?_)
    refine lv_if_ne (tgt := 21) hx hb dX4_readNumber_16 (by decide) (fun c_16 => ?_) (fun c_16 => ?_)
    · skip
      refine lv_aload_n hx hb dX4_readNumber_21 rfl (lv_at hl 1 rfl) ?_
      refine lv_dup hx hb dX4_readNumber_22 rfl ?_
      refine gt_Text_0_5 M hW kw_211 (x := t 0 5) rfl dX4_readNumber_23 ?_
      refine lv_iconst (v := 1) hx hb dX4_readNumber_26 (by decide) ?_
      refine lv_iadd hx hb dX4_readNumber_27 ?_
      refine pt_Text_0_5 M hW kw_211 dX4_readNumber_28 (fun H locs hW => ?_)
      refine lv_iload_n hx hb dX4_readNumber_31 rfl (lv_at hl 0 rfl) ?_
      refine lv_istore (lv' := [(4, .int (rX4_nextDigit t)), (3, .int (rX4_nextDigit t)), (0, .ref (d 0)), (1, .int x), (2, .int y)]) hx hb dX4_readNumber_32 hl (by decide) rfl (fun ls hl => ?_)
      refine lv_iconst (v := 0) hx hb dX4_readNumber_34 (by decide) ?_
      refine lv_istore (lv' := [(5, .int 0), (4, .int (rX4_nextDigit t)), (3, .int (rX4_nextDigit t)), (0, .ref (d 0)), (1, .int x), (2, .int y)]) hx hb dX4_readNumber_35 hl (by decide) rfl (fun ls hl => ?_)
      refine r_loop (σ := Array Slot × Nat × (Nat → Nat → Int32) × Int32) (fun r q H1 l1 => (q.2.1 + r = 60 ∧ lv_has q.1 6 [(5, .int (nI q.2.1)), (4, .int (q.2.2.2)), (0, .ref (d 0)), (1, .int x), (2, .int y)] ∧ TLen q.2.2.1 ∧ (tK q.2.2.1 < 60 ∧ q.2.2.1 0 4 = nI (tK q.2.2.1)) ∧ rnR y r q.2.2.1 q.2.2.2 = rnR y 60 (up2 t 0 5 ((t 0 5) + 1)) (rX4_nextDigit t) ∧ rnS y r q.2.2.1 q.2.2.2 = rnS y 60 (up2 t 0 5 ((t 0 5) + 1)) (rX4_nextDigit t)) ∧ Wd G s (TextW G d q.2.2.1 ++ Y) H1 l1) (fun q => F0 m 37 q.1 []) ?_ ?_ 60 (ls, 0, (up2 t 0 5 ((t 0 5) + 1)), rX4_nextDigit t) _ _ ⟨⟨rfl, lv_sub hl [0, 1, 3, 4, 5] rfl, ht, hk, rfl, rfl⟩, hW⟩
      · skip
        intro q H locs hI
        obtain ⟨ls, i, h, z⟩ := q
        obtain ⟨⟨hu, hl, ht, hk, hr, hg⟩, hW⟩ := hI
        dsimp only at hu hl ht hk hr hg hW ⊢
        have hu2 : i = 60 := by omega
        subst hu2
        refine lv_iload hx hb dX4_readNumber_37 (lv_at hl 0 rfl) ?_
        refine lv_bipush (v := 60) hx hb dX4_readNumber_39 (by decide) ?_
        refine lv_icmp_ge (tgt := 93) hx hb dX4_readNumber_41 (by decide) (fun c_41 => ?_) (fun c_41 => ?_)
        · skip
          refine lv_aload_n hx hb dX4_readNumber_93 rfl (lv_at hl 2 rfl) ?_
          refine gt_Text_0_3 M hW kw_203 dX4_readNumber_94 ?_
          refine lv_aload_n hx hb dX4_readNumber_97 rfl (lv_at hl 2 rfl) ?_
          refine gt_Text_0_4 M hW kw_208 (x := h 0 4) rfl dX4_readNumber_98 ?_
          refine lv_iload hx hb dX4_readNumber_101 (lv_at hl 1 rfl) ?_
          refine as_Text_3 M hW (tK h) hk.2 hk.1 dX4_readNumber_103 (fun H locs hW => ?_)
          refine lv_iconst (v := 1) hx hb dX4_readNumber_104 (by decide) ?_
          exact r_retz M rfl hW (by rw [sX4_readNumber, if_neg c_7, if_neg c_16, ← hg, rnS]) ⟨by rw [rX4_readNumber, if_neg c_7, if_neg c_16, ← hr, rnR], rfl⟩ (Nat.zero_le _) (Nat.zero_le _) dX4_readNumber_105
        · skip
          exact absurd (nI_le (Nat.le_refl 60) (by decide)) c_41
      · skip
        intro n ih q H locs hI
        obtain ⟨ls, i, h, z⟩ := q
        obtain ⟨⟨hu, hl, ht, hk, hr, hg⟩, hW⟩ := hI
        dsimp only at hu hl ht hk hr hg hW ⊢
        have hu2 : i < 60 := by omega
        refine lv_iload hx hb dX4_readNumber_37 (lv_at hl 0 rfl) ?_
        refine lv_bipush (v := 60) hx hb dX4_readNumber_39 (by decide) ?_
        refine lv_icmp_ge (tgt := 93) hx hb dX4_readNumber_41 (by decide) (fun c_41_2 => ?_) (fun c_41_2 => ?_)
        · skip
          exact absurd c_41_2 (nI_ge hu2 (by decide))
        · skip
          refine lv_iload hx hb dX4_readNumber_44 (lv_at hl 1 rfl) ?_
          refine lv_if_eq (tgt := 93) hx hb dX4_readNumber_46 (by decide) (fun c_46 => ?_) (fun c_46 => ?_)
          · skip
            refine lv_aload_n hx hb dX4_readNumber_93 rfl (lv_at hl 2 rfl) ?_
            refine gt_Text_0_3 M hW kw_203 dX4_readNumber_94 ?_
            refine lv_aload_n hx hb dX4_readNumber_97 rfl (lv_at hl 2 rfl) ?_
            refine gt_Text_0_4 M hW kw_208 (x := h 0 4) rfl dX4_readNumber_98 ?_
            refine lv_iload hx hb dX4_readNumber_101 (lv_at hl 1 rfl) ?_
            refine as_Text_3 M hW (tK h) hk.2 hk.1 dX4_readNumber_103 (fun H locs hW => ?_)
            refine lv_iconst (v := 1) hx hb dX4_readNumber_104 (by decide) ?_
            exact r_retz M rfl hW (by rw [sX4_readNumber, if_neg c_7, if_neg c_16, ← hg, rnS, if_pos c_46]) ⟨by rw [rX4_readNumber, if_neg c_7, if_neg c_16, ← hr, rnR, if_pos c_46], rfl⟩ (Nat.zero_le _) (Nat.zero_le _) dX4_readNumber_105
          · skip
            refine lv_aload_n hx hb dX4_readNumber_49 rfl (lv_at hl 2 rfl) ?_
            refine r_callVi M hW (c_X4_nextDigit l G d h  (Y) ht) rfl kw_220 kw_221 kw_222 kw_218 kw_214 pl_X4_nextDigit 0 rfl rfl ⟨by decide, by decide⟩ ⟨Nat.zero_le _, Nat.zero_le _⟩ hl.1 rfl (Nat.le_of_ble_eq_true rfl) dX4_readNumber_50 (fun H locs hW => ?_)
            refine lv_iconst (v := (-1)) hx hb dX4_readNumber_53 (by decide) ?_
            refine lv_icmp_eq (tgt := 93) hx hb dX4_readNumber_54 (by decide) (fun c_54 => ?_) (fun c_54 => ?_)
            · skip
              refine lv_aload_n hx hb dX4_readNumber_93 rfl (lv_at hl 2 rfl) ?_
              refine gt_Text_0_3 M hW kw_203 dX4_readNumber_94 ?_
              refine lv_aload_n hx hb dX4_readNumber_97 rfl (lv_at hl 2 rfl) ?_
              refine gt_Text_0_4 M hW kw_208 (x := h 0 4) rfl dX4_readNumber_98 ?_
              refine lv_iload hx hb dX4_readNumber_101 (lv_at hl 1 rfl) ?_
              refine as_Text_3 M hW (tK h) hk.2 hk.1 dX4_readNumber_103 (fun H locs hW => ?_)
              refine lv_iconst (v := 1) hx hb dX4_readNumber_104 (by decide) ?_
              exact r_retz M rfl hW (by rw [sX4_readNumber, if_neg c_7, if_neg c_16, ← hg, rnS, if_neg c_46, if_pos c_54]) ⟨by rw [rX4_readNumber, if_neg c_7, if_neg c_16, ← hr, rnR, if_neg c_46, if_pos c_54], rfl⟩ (Nat.zero_le _) (Nat.zero_le _) dX4_readNumber_105
            · skip
              refine lv_iload hx hb dX4_readNumber_57 (lv_at hl 1 rfl) ?_
              refine lv_bipush (v := 10) hx hb dX4_readNumber_59 (by decide) ?_
              refine lv_imul hx hb dX4_readNumber_61 ?_
              refine lv_aload_n hx hb dX4_readNumber_62 rfl (lv_at hl 2 rfl) ?_
              refine r_callVi M hW (c_X4_nextDigit l G d h  (Y) ht) rfl kw_220 kw_221 kw_222 kw_218 kw_214 pl_X4_nextDigit 0 rfl rfl ⟨by decide, by decide⟩ ⟨Nat.zero_le _, Nat.zero_le _⟩ hl.1 rfl (Nat.le_of_ble_eq_true rfl) dX4_readNumber_63 (fun H locs hW => ?_)
              refine lv_iadd hx hb dX4_readNumber_66 ?_
              refine lv_istore (lv' := [(4, .int ((z * 10) + (rX4_nextDigit h))), (5, .int (nI i)), (0, .ref (d 0)), (1, .int x), (2, .int y)]) hx hb dX4_readNumber_67 hl (by decide) rfl (fun ls hl => ?_)
              refine lv_iload hx hb dX4_readNumber_69 (lv_at hl 0 rfl) ?_
              refine lv_iload_n hx hb dX4_readNumber_71 rfl (lv_at hl 4 rfl) ?_
              refine lv_icmp_le (tgt := 77) hx hb dX4_readNumber_72 (by decide) (fun c_72 => ?_) (fun c_72 => ?_)
              · skip
                refine lv_aload_n hx hb dX4_readNumber_77 rfl (lv_at hl 2 rfl) ?_
                refine lv_dup hx hb dX4_readNumber_78 rfl ?_
                refine gt_Text_0_5 M hW kw_211 (x := h 0 5) rfl dX4_readNumber_79 ?_
                refine lv_iconst (v := 1) hx hb dX4_readNumber_82 (by decide) ?_
                refine lv_iadd hx hb dX4_readNumber_83 ?_
                refine pt_Text_0_5 M hW kw_211 dX4_readNumber_84 (fun H locs hW => ?_)
                refine lv_iinc (v := nI (i + 1)) (lv' := [(5, .int (nI (i + 1))), (4, .int ((z * 10) + (rX4_nextDigit h))), (0, .ref (d 0)), (1, .int x), (2, .int y)]) hx hb dX4_readNumber_87 hl (k := 1) rfl (nI_1 i) (by decide) rfl (fun ls hl => ?_)
                refine lv_goto (tgt := 37) hx hb dX4_readNumber_90 (by decide) ?_
                have hr2 : rnR y n (up2 h 0 5 ((h 0 5) + 1)) ((z * 10) + (rX4_nextDigit h)) = rnR y 60 (up2 t 0 5 ((t 0 5) + 1)) (rX4_nextDigit t) := by rw [← hr, rnR, if_neg c_46, if_neg c_54, if_pos c_72]
                have hg2 : rnS y n (up2 h 0 5 ((h 0 5) + 1)) ((z * 10) + (rX4_nextDigit h)) = rnS y 60 (up2 t 0 5 ((t 0 5) + 1)) (rX4_nextDigit t) := by rw [← hg, rnS, if_neg c_46, if_neg c_54, if_pos c_72]
                have hu3 : i + 1 + n = 60 := by omega
                refine ih (ls, i + 1, up2 h 0 5 ((h 0 5) + 1), (z * 10) + (rX4_nextDigit h)) _ _ ?_
                dsimp only
                exact ⟨⟨hu3, lv_sub hl [0, 1, 2, 3, 4] rfl, ht, hk, hr2, hg2⟩, hW⟩
              · skip
                refine lv_iconst (v := 0) hx hb dX4_readNumber_75 (by decide) ?_
                exact r_retz M rfl hW (by rw [sX4_readNumber, if_neg c_7, if_neg c_16, ← hg, rnS, if_neg c_46, if_neg c_54, if_neg c_72]) ⟨by rw [rX4_readNumber, if_neg c_7, if_neg c_16, ← hr, rnR, if_neg c_46, if_neg c_54, if_neg c_72], rfl⟩ (Nat.zero_le _) (Nat.zero_le _) dX4_readNumber_76
    · skip
      refine lv_iconst (v := 0) hx hb dX4_readNumber_19 (by decide) ?_
      exact r_retz M rfl hW (by rw [sX4_readNumber, if_neg c_7, if_pos c_16]) ⟨by rw [rX4_readNumber, if_neg c_7, if_pos c_16], rfl⟩ (Nat.zero_le _) (Nat.zero_le _) dX4_readNumber_20
