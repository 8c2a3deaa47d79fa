def nmW (u : Nat → Nat → Int32) (x y : Int32) : Int32 := if (u 0 12) = 0 then 0 else if (rX7_in (rX7_sign u) (48 + x) (if 9 ≤ y then 57 else 48 + y)) = 0 then 0 else 1
def nmA (u : Nat → Nat → Int32) (x y : Int32) : Nat → Nat → Int32 := up2 u 0 12 (nmW u x y)
def nmB (u : Nat → Nat → Int32) (x y : Int32) : Nat → Nat → Int32 := up2 (nmA u x y) 0 11 (((nmA u x y) 0 11) + (if ((nmA u x y) 0 12) = 0 then 0 else 1))
/-- the digits behind the first -/
def nmR (y : Int32) : Nat → (Nat → Nat → Int32) → Int32 → Int32
  | 0, _, z => z
  | n + 1, h, z => if (h 0 12) = 0 then z else if z ≤ 0 then z else if (rX7_in (rX7_sign h) 48 57) = 0 then z else if y < (((10 * z) + (rX7_sign h)) - 48) then z else nmR y n (up2 h 0 11 ((h 0 11) + 1)) (((10 * z) + (rX7_sign h)) - 48)
def nmS (y : Int32) : Nat → (Nat → Nat → Int32) → Int32 → (Nat → Nat → Int32)
  | 0, h, _ => h
  | n + 1, h, z => if (h 0 12) = 0 then h else if z ≤ 0 then h else if (rX7_in (rX7_sign h) 48 57) = 0 then h else if y < (((10 * z) + (rX7_sign h)) - 48) then h else nmS y n (up2 h 0 11 ((h 0 11) + 1)) (((10 * z) + (rX7_sign h)) - 48)
theorem sign_ge {h : Nat → Nat → Int32} (c : h 0 8 ≤ h 0 11) : rX7_sign h = 0 := by rw [rX7_sign, if_pos c]
theorem in_d {h : Nat → Nat → Int32} (c : ¬ rX7_in (rX7_sign h) 48 57 = 0) : ¬ h 0 8 ≤ h 0 11 := by
  intro d
  rw [sign_ge d] at c
  exact c rfl
theorem MAt.end_ {h : Nat → Nat → Int32} (ha : MAt h) (hl : MLen h) (e : 60 ≤ mA h) : rX7_in (rX7_sign h) 48 57 = 0 := by
  have h1 := ha.eq
  have h2 := hl.eq
  have d : h 0 8 ≤ h 0 11 := by
    rw [h1.1, h2.1, Int32.le_iff_toInt_le, nI_toInt (by omega), nI_toInt (by omega)]
    omega
  rw [sign_ge d]
  rfl
theorem MLen.of {h k : Nat → Nat → Int32} (e : k 0 8 = h 0 8) (H : MLen h) : MLen k := by
  obtain ⟨n, a, b⟩ := H
  exact ⟨n, a, e.trans b⟩
theorem MAt.of {h k : Nat → Nat → Int32} (e : k 0 11 = h 0 11) (H : MAt h) : MAt k := by
  obtain ⟨n, a, b⟩ := H
  exact ⟨n, a, e.trans b⟩
theorem MAt.up {h : Nat → Nat → Int32} (ha : MAt h) (hl : MLen h) (c : ¬ h 0 8 ≤ h 0 11) {z : Int32} (hz : z = h 0 11 + 1) : MAt (up2 h 0 11 z) ∧ mA (up2 h 0 11 z) = mA h + 1 := by
  have h1 := ha.lt hl c
  have e : (up2 h 0 11 z) 0 11 = nI (mA h + 1) := by rw [up2_s, hz, h1.1]; exact nI_1 _
  refine ⟨⟨mA h + 1, by omega, e⟩, ?_⟩
  rw [mA, e]
  exact nI_clamp (by omega)
theorem nmA_at {u : Nat → Nat → Int32} (x y : Int32) (h : MAt u) : MAt (nmA u x y) := MAt.of (by unfold nmA; exact up2_k (by decide)) h
theorem nmA_len {u : Nat → Nat → Int32} (x y : Int32) (h : MLen u) : MLen (nmA u x y) := MLen.of (by unfold nmA; exact up2_k (by decide)) h
theorem nmB_len {u : Nat → Nat → Int32} (x y : Int32) (h : MLen u) : MLen (nmB u x y) := MLen.of (by unfold nmB; exact up2_k (by decide)) (nmA_len x y h)
theorem nmB_at {u : Nat → Nat → Int32} {x : Int32} (y : Int32) (hxo : x = 0 ∨ x = 1) (ha : MAt u) (hl : MLen u) : MAt (nmB u x y) := by
  unfold nmB
  by_cases c : ((nmA u x y) 0 12) = 0
  · rw [if_pos c]
    refine MAt.of ?_ (nmA_at x y ha)
    rw [up2_s]
    exact Int32.add_zero _
  · rw [if_neg c]
    refine (MAt.up (nmA_at x y ha) (nmA_len x y hl) ?_ rfl).1
    intro d
    have e8 : (nmA u x y) 0 8 = u 0 8 := by unfold nmA; exact up2_k (by decide)
    have e11 : (nmA u x y) 0 11 = u 0 11 := by unfold nmA; exact up2_k (by decide)
    have e12 : (nmA u x y) 0 12 = nmW u x y := by unfold nmA; exact up2_s
    rw [e8, e11] at d
    rw [e12] at c
    apply c
    unfold nmW
    by_cases c1 : (u 0 12) = 0
    · rw [if_pos c1]
    · rw [if_neg c1, sign_ge d]
      refine if_pos ?_
      rcases hxo with r | r
      · rw [r, rX7_in, if_pos (by decide)]
      · rw [r, rX7_in, if_pos (by decide)]
theorem nmW_01 (u : Nat → Nat → Int32) (x y : Int32) : nmW u x y = 0 ∨ nmW u x y = 1 := by
  unfold nmW
  by_cases c1 : (u 0 12) = 0
  · rw [if_pos c1]; exact Or.inl rfl
  · rw [if_neg c1]
    by_cases c2 : (rX7_in (rX7_sign u) (48 + x) (if 9 ≤ y then 57 else 48 + y)) = 0
    · rw [if_pos c2]; exact Or.inl rfl
    · rw [if_neg c2]; exact Or.inr rfl
def rX7_number (u : Nat → Nat → Int32) (x y : Int32) : Int32 := nmR y 60 (nmB u x y) ((rX7_sign (nmA u x y)) - 48)
def sX7_number (u : Nat → Nat → Int32) (x y : Int32) : Nat → Nat → Int32 := nmS y 60 (nmB u x y) ((rX7_sign (nmA u x y)) - 48)

set_option maxHeartbeats 4000000 in
set_option maxRecDepth 100000 in
/-- X7.number -/
theorem c_X7_number (l : Launch) (G : Gp) (b : Nat → Nat) (u : Nat → Nat → Int32) (x : Int32) (y : Int32) (Y : va_W) (hat : MAt u) (hl0 : MLen u) (hxo : x = 0 ∨ x = 1) : Cn l G yX7_number cX7_number 4 (some .int) 1 [.ref (b 0), .int x, .int y] (ModW G b u ++ Y) (some (.int (rX7_number u x y))) (ModW G b (sX7_number u x y) ++ Y) := by
  refine CnE.of (by decide) (Nat.le_of_ble_eq_true rfl) ?_
  intro p e s m below meth c ls M hnm hl hW
  have hx := M.1
  have hb := M.2.1
  have hl : lv_has ls 4 [(0, .ref (b 0)), (1, .int x), (2, .int y)] := hl
  refine lv_aload_n hx hb dX7_number_0 rfl (lv_at hl 0 rfl) ?_
  refine lv_aload_n hx hb dX7_number_1 rfl (lv_at hl 0 rfl) ?_
  refine gt_Mod_0_12 M hW kw_489 (x := u 0 12) rfl dX7_number_2 ?_
  refine r_cut (σ := Int32) (fun xx H1 l1 => xx = (nmW u x y) ∧ Wd G s (ModW G b u ++ Y) H1 l1) (fun xx => F0 m 42 ls [.int xx, .ref (b 0)]) (fun x_42 H locs hI => ?_) (fun hJ_42 => ?_)
  · skip
    obtain ⟨hx_42, hW⟩ := hI
    rewrite [hx_42]
    refine pt_Mod_0_12 M hW kw_489 (nmW_01 _ _ _) dX7_number_42 (fun H locs hW => ?_)
    have hW : Wd G s (ModW G b (nmA u x y) ++ Y) _ _ := hW
    refine lv_aload_n hx hb dX7_number_45 rfl (lv_at hl 0 rfl) ?_
    refine r_callVi M hW (c_X7_sign l G b (nmA u x y)  (Y) (nmA_at x y hat) (nmA_len x y hl0)) rfl kw_490 kw_491 kw_492 kw_412 kw_486 pl_X7_sign 0 rfl rfl ⟨by decide, by decide⟩ ⟨Nat.zero_le _, Nat.zero_le _⟩ hl.1 rfl (Nat.le_of_ble_eq_true rfl) dX7_number_46 (fun H locs hW => ?_)
    refine lv_bipush (v := 48) hx hb dX7_number_49 (by decide) ?_
    refine lv_isub hx hb dX7_number_51 ?_
    refine lv_istore_n (lv' := [(3, .int ((rX7_sign (nmA u x y)) - 48)), (0, .ref (b 0)), (1, .int x), (2, .int y)]) hx hb dX7_number_52 rfl hl (by decide) rfl (fun ls hl => ?_)
    refine lv_aload_n hx hb dX7_number_53 rfl (lv_at hl 1 rfl) ?_
    refine lv_dup hx hb dX7_number_54 rfl ?_
    refine gt_Mod_0_11 M hW kw_487 (x := (nmA u x y) 0 11) rfl dX7_number_55 ?_
    refine lv_aload_n hx hb dX7_number_58 rfl (lv_at hl 1 rfl) ?_
    refine gt_Mod_0_12 M hW kw_489 (x := (nmA u x y) 0 12) rfl dX7_number_59 ?_
    refine r_cuti (pc2 := 70) (ls2 := ls) (st := [.int ((nmA u x y) 0 11), .ref (b 0)]) (if ((nmA u x y) 0 12) = 0 then 0 else 1) (fun x_70 hx_70 => ?_) (fun hJ_70 => ?_)
    · skip
      rewrite [hx_70]
      refine lv_iadd hx hb dX7_number_70 ?_
      refine pt_Mod_0_11 M hW kw_487 dX7_number_71 (fun H locs hW => ?_)
      have hW : Wd G s (ModW G b (nmB u x y) ++ Y) _ _ := hW
      have hb0 := nmB_at y hxo hat hl0
      have hb1 := nmB_len x y hl0
      refine r_loop (σ := Array Slot × (Nat → Nat → Int32) × Int32) (fun r q H1 l1 => (60 ≤ mA q.2.1 + r ∧ lv_has q.1 4 [(3, .int (q.2.2)), (0, .ref (b 0)), (1, .int x), (2, .int y)] ∧ MAt q.2.1 ∧ MLen q.2.1 ∧ nmR y r q.2.1 q.2.2 = nmR y 60 (nmB u x y) ((rX7_sign (nmA u x y)) - 48) ∧ nmS y r q.2.1 q.2.2 = nmS y 60 (nmB u x y) ((rX7_sign (nmA u x y)) - 48)) ∧ Wd G s (ModW G b q.2.1 ++ Y) H1 l1) (fun q => F0 m 74 q.1 []) ?_ ?_ 60 (ls, nmB u x y, (rX7_sign (nmA u x y)) - 48) _ _ ?_
      · skip
        intro q H locs hI
        obtain ⟨ls, h, z⟩ := q
        obtain ⟨⟨hu, hl, hat, hl0, hr, hg⟩, hW⟩ := hI
        dsimp only at hu hl hat hl0 hr hg hW ⊢
        refine lv_aload_n hx hb dX7_number_74 rfl (lv_at hl 1 rfl) ?_
        refine gt_Mod_0_12 M hW kw_489 (x := h 0 12) rfl dX7_number_75 ?_
        refine lv_if_eq (tgt := 141) hx hb dX7_number_78 (by decide) (fun c_78 => ?_) (fun c_78 => ?_)
        · skip
          refine lv_iload_n hx hb dX7_number_141 rfl (lv_at hl 0 rfl) ?_
          exact r_reti M hW (by rw [sX7_number, ← hg, nmS]) ⟨by rw [rX7_number, ← hr, nmR], rfl⟩ (Nat.zero_le _) (Nat.zero_le _) dX7_number_142
        · skip
          refine lv_iload_n hx hb dX7_number_81 rfl (lv_at hl 0 rfl) ?_
          refine lv_if_le (tgt := 141) hx hb dX7_number_82 (by decide) (fun c_82 => ?_) (fun c_82 => ?_)
          · skip
            refine lv_iload_n hx hb dX7_number_141 rfl (lv_at hl 0 rfl) ?_
            exact r_reti M hW (by rw [sX7_number, ← hg, nmS]) ⟨by rw [rX7_number, ← hr, nmR], rfl⟩ (Nat.zero_le _) (Nat.zero_le _) dX7_number_142
          · skip
            refine lv_aload_n hx hb dX7_number_85 rfl (lv_at hl 1 rfl) ?_
            refine r_callVi M hW (c_X7_sign l G b h  (Y) hat hl0) rfl kw_490 kw_491 kw_492 kw_412 kw_486 pl_X7_sign 0 rfl rfl ⟨by decide, by decide⟩ ⟨Nat.zero_le _, Nat.zero_le _⟩ hl.1 rfl (Nat.le_of_ble_eq_true rfl) dX7_number_86 (fun H locs hW => ?_)
            refine lv_bipush (v := 48) hx hb dX7_number_89 (by decide) ?_
            refine lv_bipush (v := 57) hx hb dX7_number_91 (by decide) ?_
            refine r_callSi M hW (as := [.int (rX7_sign h), .int 48, .int 57]) (c_X7_in l G (rX7_sign h) 48 57 (ModW G b h ++ Y)) rfl kw_441 kw_442 kw_412 kw_401 pl_X7_in ⟨by decide, by decide⟩ ⟨Nat.zero_le _, Nat.zero_le _⟩ hl.1 rfl (Nat.le_of_ble_eq_true rfl) dX7_number_93 (fun H locs hW => ?_)
            refine lv_if_eq (tgt := 141) hx hb dX7_number_96 (by decide) (fun c_96 => ?_) (fun c_96 => ?_)
            · skip
              refine lv_iload_n hx hb dX7_number_141 rfl (lv_at hl 0 rfl) ?_
              exact r_reti M hW (by rw [sX7_number, ← hg, nmS]) ⟨by rw [rX7_number, ← hr, nmR], rfl⟩ (Nat.zero_le _) (Nat.zero_le _) dX7_number_142
            · skip
              exact absurd (hat.end_ hl0 hu) c_96
      · skip
        intro n ih q H locs hI
        obtain ⟨ls, h, z⟩ := q
        obtain ⟨⟨hu, hl, hat, hl0, hr, hg⟩, hW⟩ := hI
        dsimp only at hu hl hat hl0 hr hg hW ⊢
        refine lv_aload_n hx hb dX7_number_74 rfl (lv_at hl 1 rfl) ?_
        refine gt_Mod_0_12 M hW kw_489 (x := h 0 12) rfl dX7_number_75 ?_
        refine lv_if_eq (tgt := 141) hx hb dX7_number_78 (by decide) (fun c_78_2 => ?_) (fun c_78_2 => ?_)
        · skip
          refine lv_iload_n hx hb dX7_number_141 rfl (lv_at hl 0 rfl) ?_
          exact r_reti M hW (by rw [sX7_number, ← hg, nmS, if_pos c_78_2]) ⟨by rw [rX7_number, ← hr, nmR, if_pos c_78_2], rfl⟩ (Nat.zero_le _) (Nat.zero_le _) dX7_number_142
        · skip
          refine lv_iload_n hx hb dX7_number_81 rfl (lv_at hl 0 rfl) ?_
          refine lv_if_le (tgt := 141) hx hb dX7_number_82 (by decide) (fun c_82_2 => ?_) (fun c_82_2 => ?_)
          · skip
            refine lv_iload_n hx hb dX7_number_141 rfl (lv_at hl 0 rfl) ?_
            exact r_reti M hW (by rw [sX7_number, ← hg, nmS, if_neg c_78_2, if_pos c_82_2]) ⟨by rw [rX7_number, ← hr, nmR, if_neg c_78_2, if_pos c_82_2], rfl⟩ (Nat.zero_le _) (Nat.zero_le _) dX7_number_142
          · skip
            refine lv_aload_n hx hb dX7_number_85 rfl (lv_at hl 1 rfl) ?_
            refine r_callVi M hW (c_X7_sign l G b h  (Y) hat hl0) rfl kw_490 kw_491 kw_492 kw_412 kw_486 pl_X7_sign 0 rfl rfl ⟨by decide, by decide⟩ ⟨Nat.zero_le _, Nat.zero_le _⟩ hl.1 rfl (Nat.le_of_ble_eq_true rfl) dX7_number_86 (fun H locs hW => ?_)
            refine lv_bipush (v := 48) hx hb dX7_number_89 (by decide) ?_
            refine lv_bipush (v := 57) hx hb dX7_number_91 (by decide) ?_
            refine r_callSi M hW (as := [.int (rX7_sign h), .int 48, .int 57]) (c_X7_in l G (rX7_sign h) 48 57 (ModW G b h ++ Y)) rfl kw_441 kw_442 kw_412 kw_401 pl_X7_in ⟨by decide, by decide⟩ ⟨Nat.zero_le _, Nat.zero_le _⟩ hl.1 rfl (Nat.le_of_ble_eq_true rfl) dX7_number_93 (fun H locs hW => ?_)
            refine lv_if_eq (tgt := 141) hx hb dX7_number_96 (by decide) (fun c_96_2 => ?_) (fun c_96_2 => ?_)
            · skip
              refine lv_iload_n hx hb dX7_number_141 rfl (lv_at hl 0 rfl) ?_
              exact r_reti M hW (by rw [sX7_number, ← hg, nmS, if_neg c_78_2, if_neg c_82_2, if_pos c_96_2]) ⟨by rw [rX7_number, ← hr, nmR, if_neg c_78_2, if_neg c_82_2, if_pos c_96_2], rfl⟩ (Nat.zero_le _) (Nat.zero_le _) dX7_number_142
            · skip
              refine lv_bipush (v := 10) hx hb dX7_number_99 (by decide) ?_
              refine lv_iload_n hx hb dX7_number_101 rfl (lv_at hl 0 rfl) ?_
              refine lv_imul hx hb dX7_number_102 ?_
              refine lv_aload_n hx hb dX7_number_103 rfl (lv_at hl 1 rfl) ?_
              refine r_callVi M hW (c_X7_sign l G b h  (Y) hat hl0) rfl kw_490 kw_491 kw_492 kw_412 kw_486 pl_X7_sign 0 rfl rfl ⟨by decide, by decide⟩ ⟨Nat.zero_le _, Nat.zero_le _⟩ hl.1 rfl (Nat.le_of_ble_eq_true rfl) dX7_number_104 (fun H locs hW => ?_)
              refine lv_iadd hx hb dX7_number_107 ?_
              refine lv_bipush (v := 48) hx hb dX7_number_108 (by decide) ?_
              refine lv_isub hx hb dX7_number_110 ?_
              refine lv_iload_n hx hb dX7_number_111 rfl (lv_at hl 3 rfl) ?_
              refine lv_icmp_gt (tgt := 141) hx hb dX7_number_112 (by decide) (fun c_112 => ?_) (fun c_112 => ?_)
              · skip
                refine lv_iload_n hx hb dX7_number_141 rfl (lv_at hl 0 rfl) ?_
                exact r_reti M hW (by rw [sX7_number, ← hg, nmS, if_neg c_78_2, if_neg c_82_2, if_neg c_96_2, if_pos c_112]) ⟨by rw [rX7_number, ← hr, nmR, if_neg c_78_2, if_neg c_82_2, if_neg c_96_2, if_pos c_112], rfl⟩ (Nat.zero_le _) (Nat.zero_le _) dX7_number_142
              · skip
                refine lv_bipush (v := 10) hx hb dX7_number_115 (by decide) ?_
                refine lv_iload_n hx hb dX7_number_117 rfl (lv_at hl 0 rfl) ?_
                refine lv_imul hx hb dX7_number_118 ?_
                refine lv_aload_n hx hb dX7_number_119 rfl (lv_at hl 1 rfl) ?_
                refine r_callVi M hW (c_X7_sign l G b h  (Y) hat hl0) rfl kw_490 kw_491 kw_492 kw_412 kw_486 pl_X7_sign 0 rfl rfl ⟨by decide, by decide⟩ ⟨Nat.zero_le _, Nat.zero_le _⟩ hl.1 rfl (Nat.le_of_ble_eq_true rfl) dX7_number_120 (fun H locs hW => ?_)
                refine lv_iadd hx hb dX7_number_123 ?_
                refine lv_bipush (v := 48) hx hb dX7_number_124 (by decide) ?_
                refine lv_isub hx hb dX7_number_126 ?_
                refine lv_istore_n (lv' := [(3, .int (((10 * z) + (rX7_sign h)) - 48)), (0, .ref (b 0)), (1, .int x), (2, .int y)]) hx hb dX7_number_127 rfl hl (by decide) rfl (fun ls hl => ?_)
                refine lv_aload_n hx hb dX7_number_128 rfl (lv_at hl 1 rfl) ?_
                refine lv_dup hx hb dX7_number_129 rfl ?_
                refine gt_Mod_0_11 M hW kw_487 (x := h 0 11) rfl dX7_number_130 ?_
                refine lv_iconst (v := 1) hx hb dX7_number_133 (by decide) ?_
                refine lv_iadd hx hb dX7_number_134 ?_
                refine pt_Mod_0_11 M hW kw_487 dX7_number_135 (fun H locs hW => ?_)
                refine lv_goto (tgt := 74) hx hb dX7_number_138 (by decide) ?_
                have hr2 : nmR y n (up2 h 0 11 ((h 0 11) + 1)) (((10 * z) + (rX7_sign h)) - 48) = nmR y 60 (nmB u x y) ((rX7_sign (nmA u x y)) - 48) := by rw [← hr, nmR, if_neg c_78_2, if_neg c_82_2, if_neg c_96_2, if_neg c_112]
                have hg2 : nmS y n (up2 h 0 11 ((h 0 11) + 1)) (((10 * z) + (rX7_sign h)) - 48) = nmS y 60 (nmB u x y) ((rX7_sign (nmA u x y)) - 48) := by rw [← hg, nmS, if_neg c_78_2, if_neg c_82_2, if_neg c_96_2, if_neg c_112]
                have hup := MAt.up hat hl0 (in_d c_96_2) (z := (h 0 11) + 1) rfl
                have hl2 : MLen (up2 h 0 11 ((h 0 11) + 1)) := MLen.of (up2_k (by decide)) hl0
                have hu3 : 60 ≤ mA (up2 h 0 11 ((h 0 11) + 1)) + n := by rw [hup.2]; omega
                refine ih (ls, up2 h 0 11 ((h 0 11) + 1), ((10 * z) + (rX7_sign h)) - 48) _ _ ?_
                dsimp only
                exact ⟨⟨hu3, lv_sub hl [0, 1, 2, 3] rfl, hup.1, hl2, hr2, hg2⟩, hW⟩
      · skip
        dsimp only
        exact ⟨⟨Nat.le_add_left _ _, lv_sub hl [0, 1, 2, 3] rfl, hb0, hb1, rfl, rfl⟩, hW⟩
    · skip
      refine lv_if_eq (tgt := 69) hx hb dX7_number_62 (by decide) (fun c_62 => ?_) (fun c_62 => ?_)
      · skip
        refine lv_iconst (v := 0) hx hb dX7_number_69 (by decide) ?_
        exact hJ_70 _ (by rw [if_pos c_62])
      · skip
        refine lv_iconst (v := 1) hx hb dX7_number_65 (by decide) ?_
        refine lv_goto (tgt := 70) hx hb dX7_number_66 (by decide) ?_
        exact hJ_70 _ (by rw [if_neg c_62])
  · skip
    refine lv_if_eq (tgt := 41) hx hb dX7_number_5 (by decide) (fun c_5 => ?_) (fun c_5 => ?_)
    · skip
      refine lv_iconst (v := 0) hx hb dX7_number_41 (by decide) ?_
      exact hJ_42 _ _ _ ⟨(by rw [nmW, if_pos c_5]), hW⟩
    · skip
      refine lv_aload_n hx hb dX7_number_8 rfl (lv_at hl 0 rfl) ?_
      refine r_callVi M hW (c_X7_sign l G b u  (Y) hat hl0) rfl kw_490 kw_491 kw_492 kw_412 kw_486 pl_X7_sign 0 rfl rfl ⟨by decide, by decide⟩ ⟨Nat.zero_le _, Nat.zero_le _⟩ hl.1 rfl (Nat.le_of_ble_eq_true rfl) dX7_number_9 (fun H locs hW => ?_)
      refine lv_bipush (v := 48) hx hb dX7_number_12 (by decide) ?_
      refine lv_iload_n hx hb dX7_number_14 rfl (lv_at hl 1 rfl) ?_
      refine lv_iadd hx hb dX7_number_15 ?_
      refine lv_iload_n hx hb dX7_number_16 rfl (lv_at hl 2 rfl) ?_
      refine lv_bipush (v := 9) hx hb dX7_number_17 (by decide) ?_
      refine r_cuti (pc2 := 31) (ls2 := ls) (st := [.int (48 + x), .int (rX7_sign u), .ref (b 0)]) (if 9 ≤ y then 57 else 48 + y) (fun x_31 hx_31 => ?_) (fun hJ_31 => ?_)
      · skip
        rewrite [hx_31]
        refine r_callSi M hW (as := [.int (rX7_sign u), .int (48 + x), .int (if 9 ≤ y then 57 else 48 + y)]) (c_X7_in l G (rX7_sign u) (48 + x) (if 9 ≤ y then 57 else 48 + y) (ModW G b u ++ Y)) rfl kw_441 kw_442 kw_412 kw_401 pl_X7_in ⟨by decide, by decide⟩ ⟨Nat.zero_le _, Nat.zero_le _⟩ hl.1 rfl (Nat.le_of_ble_eq_true rfl) dX7_number_31 (fun H locs hW => ?_)
        refine lv_if_eq (tgt := 41) hx hb dX7_number_34 (by decide) (fun c_34 => ?_) (fun c_34 => ?_)
        · skip
          refine lv_iconst (v := 0) hx hb dX7_number_41 (by decide) ?_
          exact hJ_42 _ _ _ ⟨(by rw [nmW, if_neg c_5, if_pos c_34]), hW⟩
        · skip
          refine lv_iconst (v := 1) hx hb dX7_number_37 (by decide) ?_
          refine lv_goto (tgt := 42) hx hb dX7_number_38 (by decide) ?_
          exact hJ_42 _ _ _ ⟨(by rw [nmW, if_neg c_5, if_neg c_34]), hW⟩
      · skip
        refine lv_icmp_ge (tgt := 29) hx hb dX7_number_19 (by decide) (fun c_19 => ?_) (fun c_19 => ?_)
        · skip
          refine lv_bipush (v := 57) hx hb dX7_number_29 (by decide) ?_
          exact hJ_31 _ (by rw [if_pos c_19])
        · skip
          refine lv_bipush (v := 48) hx hb dX7_number_22 (by decide) ?_
          refine lv_iload_n hx hb dX7_number_24 rfl (lv_at hl 2 rfl) ?_
          refine lv_iadd hx hb dX7_number_25 ?_
          refine lv_goto (tgt := 31) hx hb dX7_number_26 (by decide) ?_
          exact hJ_31 _ (by rw [if_neg c_19])
