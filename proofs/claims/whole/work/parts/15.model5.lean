def sX7_putAside (u : Nat → Nat → Int32) : Nat → Nat → Int32 := iterN (fun k h => up2 h 2 k (h 1 k)) 56 u
set_option maxHeartbeats 4000000 in
set_option maxRecDepth 100000 in
/-- X7.putAside -/
theorem c_X7_putAside (l : Launch) (G : Gp) (b : Nat → Nat) (u : Nat → Nat → Int32) (Y : va_W) : Cn l G yX7_putAside cX7_putAside 2 none 0 [.ref (b 0)] (ModW G b u ++ Y) none (ModW G b (sX7_putAside u) ++ Y) := by
  refine CnE.of (by decide) (Nat.le_of_ble_eq_true rfl) ?_
  intro p e s m below meth c ls M hnm hl hW
  have hx := M.1
  have hb := M.2.1
  have hl : lv_has ls 2 [(0, .ref (b 0))] := hl
  refine lv_iconst (v := 0) hx hb dX7_putAside_0 (by decide) ?_
  refine lv_istore_n (lv' := [(1, .int 0), (0, .ref (b 0))]) hx hb dX7_putAside_1 rfl hl (by decide) rfl (fun ls hl => ?_)
  refine r_loop (σ := Array Slot × Nat) (fun r uL H1 l1 => uL.2 + r = 56 ∧ lv_has uL.1 2 [(1, .int (nI uL.2)), (0, .ref (b 0))] ∧ Wd G s (ModW G b (iterN (fun k h => up2 h 2 k (h 1 k)) uL.2 u) ++ Y) H1 l1) (fun uL => F0 m 2 uL.1 []) ?_ ?_ (56) (ls, 0) _ _ ⟨Nat.zero_add _, lv_sub hl [0, 1] rfl, hW⟩
  · skip
    intro uL H locs hI
    obtain ⟨ls, i⟩ := uL
    obtain ⟨hu, hl, hW⟩ := hI
    dsimp only at hu hl hW ⊢
    have hu : i = 56 := hu
    subst hu
    refine lv_iload_n hx hb dX7_putAside_2 rfl (lv_at hl 0 rfl) ?_
    refine lv_bipush (v := 56) hx hb dX7_putAside_3 (by decide) ?_
    refine lv_icmp_ge (tgt := 26) hx hb dX7_putAside_5 (by decide) (fun c_5 => ?_) (fun c_5 => ?_)
    · skip
      exact r_retv M hW (by rw [sX7_putAside]) ⟨rfl, rfl⟩ (Nat.zero_le _) (Nat.zero_le _) dX7_putAside_26
    · skip
      exact absurd (nI_le (Nat.le_refl 56) (by decide)) c_5
  · skip
    intro n ih uL H locs hI
    obtain ⟨ls, i⟩ := uL
    obtain ⟨hu, hl, hW⟩ := hI
    dsimp only at hu hl hW ⊢
    have hlt : i < 56 := by omega
    refine lv_iload_n hx hb dX7_putAside_2 rfl (lv_at hl 0 rfl) ?_
    refine lv_bipush (v := 56) hx hb dX7_putAside_3 (by decide) ?_
    refine lv_icmp_ge (tgt := 26) hx hb dX7_putAside_5 (by decide) (fun c_5_2 => ?_) (fun c_5_2 => ?_)
    · skip
      exact absurd c_5_2 (nI_ge hlt (by decide))
    · skip
      refine lv_aload_n hx hb dX7_putAside_8 rfl (lv_at hl 1 rfl) ?_
      refine gt_Mod_0_2 M hW kw_393 dX7_putAside_9 ?_
      refine lv_iload_n hx hb dX7_putAside_12 rfl (lv_at hl 0 rfl) ?_
      refine lv_aload_n hx hb dX7_putAside_13 rfl (lv_at hl 1 rfl) ?_
      refine gt_Mod_0_1 M hW kw_392 dX7_putAside_14 ?_
      refine lv_iload_n hx hb dX7_putAside_17 rfl (lv_at hl 0 rfl) ?_
      refine al_Mod_1 M hW i rfl (by omega) (x := (iterN (fun k h => up2 h 2 k (h 1 k)) i u) 1 i) rfl dX7_putAside_18 ?_
      refine as_Mod_2 M hW i rfl (by omega) dX7_putAside_19 (fun H locs hW => ?_)
      refine lv_iinc (v := nI (i + 1)) (lv' := [(1, .int (nI (i + 1))), (0, .ref (b 0))]) hx hb dX7_putAside_20 hl (k := 0) rfl (nI_1 i) (by decide) rfl (fun ls hl => ?_)
      refine lv_goto (tgt := 2) hx hb dX7_putAside_23 (by decide) ?_
      exact ih (ls, i + 1) _ _ ⟨by dsimp only; omega, lv_sub hl [0, 1] rfl, (by dsimp only; rw [iterN_succ]; exact hW)⟩

def sX7_takeBack (u : Nat → Nat → Int32) : Nat → Nat → Int32 := iterN (fun k h => up2 h 1 k (h 2 k)) 56 u
set_option maxHeartbeats 4000000 in
set_option maxRecDepth 100000 in
/-- X7.takeBack -/
theorem c_X7_takeBack (l : Launch) (G : Gp) (b : Nat → Nat) (u : Nat → Nat → Int32) (Y : va_W) : Cn l G yX7_takeBack cX7_takeBack 2 none 0 [.ref (b 0)] (ModW G b u ++ Y) none (ModW G b (sX7_takeBack u) ++ Y) := by
  refine CnE.of (by decide) (Nat.le_of_ble_eq_true rfl) ?_
  intro p e s m below meth c ls M hnm hl hW
  have hx := M.1
  have hb := M.2.1
  have hl : lv_has ls 2 [(0, .ref (b 0))] := hl
  refine lv_iconst (v := 0) hx hb dX7_takeBack_0 (by decide) ?_
  refine lv_istore_n (lv' := [(1, .int 0), (0, .ref (b 0))]) hx hb dX7_takeBack_1 rfl hl (by decide) rfl (fun ls hl => ?_)
  refine r_loop (σ := Array Slot × Nat) (fun r uL H1 l1 => uL.2 + r = 56 ∧ lv_has uL.1 2 [(1, .int (nI uL.2)), (0, .ref (b 0))] ∧ Wd G s (ModW G b (iterN (fun k h => up2 h 1 k (h 2 k)) uL.2 u) ++ Y) H1 l1) (fun uL => F0 m 2 uL.1 []) ?_ ?_ (56) (ls, 0) _ _ ⟨Nat.zero_add _, lv_sub hl [0, 1] rfl, hW⟩
  · skip
    intro uL H locs hI
    obtain ⟨ls, i⟩ := uL
    obtain ⟨hu, hl, hW⟩ := hI
    dsimp only at hu hl hW ⊢
    have hu : i = 56 := hu
    subst hu
    refine lv_iload_n hx hb dX7_takeBack_2 rfl (lv_at hl 0 rfl) ?_
    refine lv_bipush (v := 56) hx hb dX7_takeBack_3 (by decide) ?_
    refine lv_icmp_ge (tgt := 26) hx hb dX7_takeBack_5 (by decide) (fun c_5 => ?_) (fun c_5 => ?_)
    · skip
      exact r_retv M hW (by rw [sX7_takeBack]) ⟨rfl, rfl⟩ (Nat.zero_le _) (Nat.zero_le _) dX7_takeBack_26
    · skip
      exact absurd (nI_le (Nat.le_refl 56) (by decide)) c_5
  · skip
    intro n ih uL H locs hI
    obtain ⟨ls, i⟩ := uL
    obtain ⟨hu, hl, hW⟩ := hI
    dsimp only at hu hl hW ⊢
    have hlt : i < 56 := by omega
    refine lv_iload_n hx hb dX7_takeBack_2 rfl (lv_at hl 0 rfl) ?_
    refine lv_bipush (v := 56) hx hb dX7_takeBack_3 (by decide) ?_
    refine lv_icmp_ge (tgt := 26) hx hb dX7_takeBack_5 (by decide) (fun c_5_2 => ?_) (fun c_5_2 => ?_)
    · skip
      exact absurd c_5_2 (nI_ge hlt (by decide))
    · skip
      refine lv_aload_n hx hb dX7_takeBack_8 rfl (lv_at hl 1 rfl) ?_
      refine gt_Mod_0_1 M hW kw_392 dX7_takeBack_9 ?_
      refine lv_iload_n hx hb dX7_takeBack_12 rfl (lv_at hl 0 rfl) ?_
      refine lv_aload_n hx hb dX7_takeBack_13 rfl (lv_at hl 1 rfl) ?_
      refine gt_Mod_0_2 M hW kw_393 dX7_takeBack_14 ?_
      refine lv_iload_n hx hb dX7_takeBack_17 rfl (lv_at hl 0 rfl) ?_
      refine al_Mod_2 M hW i rfl (by omega) (x := (iterN (fun k h => up2 h 1 k (h 2 k)) i u) 2 i) rfl dX7_takeBack_18 ?_
      refine as_Mod_1 M hW i rfl (by omega) dX7_takeBack_19 (fun H locs hW => ?_)
      refine lv_iinc (v := nI (i + 1)) (lv' := [(1, .int (nI (i + 1))), (0, .ref (b 0))]) hx hb dX7_takeBack_20 hl (k := 0) rfl (nI_1 i) (by decide) rfl (fun ls hl => ?_)
      refine lv_goto (tgt := 2) hx hb dX7_takeBack_23 (by decide) ?_
      exact ih (ls, i + 1) _ _ ⟨by dsimp only; omega, lv_sub hl [0, 1] rfl, (by dsimp only; rw [iterN_succ]; exact hW)⟩

def sX7_swapsAside (u : Nat → Nat → Int32) : Nat → Nat → Int32 := iterN (fun k h => up2 (up2 h 1 k (h 2 k)) 2 k (h 1 k)) 56 u
set_option maxHeartbeats 4000000 in
set_option maxRecDepth 100000 in
/-- X7.swapsAside -/
theorem c_X7_swapsAside (l : Launch) (G : Gp) (b : Nat → Nat) (u : Nat → Nat → Int32) (Y : va_W) : Cn l G yX7_swapsAside cX7_swapsAside 3 none 0 [.ref (b 0)] (ModW G b u ++ Y) none (ModW G b (sX7_swapsAside u) ++ Y) := by
  refine CnE.of (by decide) (Nat.le_of_ble_eq_true rfl) ?_
  intro p e s m below meth c ls M hnm hl hW
  have hx := M.1
  have hb := M.2.1
  have hl : lv_has ls 3 [(0, .ref (b 0))] := hl
  refine lv_iconst (v := 0) hx hb dX7_swapsAside_0 (by decide) ?_
  refine lv_istore_n (lv' := [(1, .int 0), (0, .ref (b 0))]) hx hb dX7_swapsAside_1 rfl hl (by decide) rfl (fun ls hl => ?_)
  refine r_loop (σ := Array Slot × Nat) (fun r uL H1 l1 => uL.2 + r = 56 ∧ lv_has uL.1 3 [(1, .int (nI uL.2)), (0, .ref (b 0))] ∧ Wd G s (ModW G b (iterN (fun k h => up2 (up2 h 1 k (h 2 k)) 2 k (h 1 k)) uL.2 u) ++ Y) H1 l1) (fun uL => F0 m 2 uL.1 []) ?_ ?_ (56) (ls, 0) _ _ ⟨Nat.zero_add _, lv_sub hl [0, 1] rfl, hW⟩
  · skip
    intro uL H locs hI
    obtain ⟨ls, i⟩ := uL
    obtain ⟨hu, hl, hW⟩ := hI
    dsimp only at hu hl hW ⊢
    have hu : i = 56 := hu
    subst hu
    refine lv_iload_n hx hb dX7_swapsAside_2 rfl (lv_at hl 0 rfl) ?_
    refine lv_bipush (v := 56) hx hb dX7_swapsAside_3 (by decide) ?_
    refine lv_icmp_ge (tgt := 40) hx hb dX7_swapsAside_5 (by decide) (fun c_5 => ?_) (fun c_5 => ?_)
    · skip
      exact r_retv M hW (by rw [sX7_swapsAside]) ⟨rfl, rfl⟩ (Nat.zero_le _) (Nat.zero_le _) dX7_swapsAside_40
    · skip
      exact absurd (nI_le (Nat.le_refl 56) (by decide)) c_5
  · skip
    intro n ih uL H locs hI
    obtain ⟨ls, i⟩ := uL
    obtain ⟨hu, hl, hW⟩ := hI
    dsimp only at hu hl hW ⊢
    have hlt : i < 56 := by omega
    refine lv_iload_n hx hb dX7_swapsAside_2 rfl (lv_at hl 0 rfl) ?_
    refine lv_bipush (v := 56) hx hb dX7_swapsAside_3 (by decide) ?_
    refine lv_icmp_ge (tgt := 40) hx hb dX7_swapsAside_5 (by decide) (fun c_5_2 => ?_) (fun c_5_2 => ?_)
    · skip
      exact absurd c_5_2 (nI_ge hlt (by decide))
    · skip
      refine lv_aload_n hx hb dX7_swapsAside_8 rfl (lv_at hl 1 rfl) ?_
      refine gt_Mod_0_1 M hW kw_392 dX7_swapsAside_9 ?_
      refine lv_iload_n hx hb dX7_swapsAside_12 rfl (lv_at hl 0 rfl) ?_
      refine al_Mod_1 M hW i rfl (by omega) (x := (iterN (fun k h => up2 (up2 h 1 k (h 2 k)) 2 k (h 1 k)) i u) 1 i) rfl dX7_swapsAside_13 ?_
      refine lv_istore_n (lv' := [(2, .int ((iterN (fun k h => up2 (up2 h 1 k (h 2 k)) 2 k (h 1 k)) i u) 1 i)), (1, .int (nI i)), (0, .ref (b 0))]) hx hb dX7_swapsAside_14 rfl hl (by decide) rfl (fun ls hl => ?_)
      refine lv_aload_n hx hb dX7_swapsAside_15 rfl (lv_at hl 2 rfl) ?_
      refine gt_Mod_0_1 M hW kw_392 dX7_swapsAside_16 ?_
      refine lv_iload_n hx hb dX7_swapsAside_19 rfl (lv_at hl 1 rfl) ?_
      refine lv_aload_n hx hb dX7_swapsAside_20 rfl (lv_at hl 2 rfl) ?_
      refine gt_Mod_0_2 M hW kw_393 dX7_swapsAside_21 ?_
      refine lv_iload_n hx hb dX7_swapsAside_24 rfl (lv_at hl 1 rfl) ?_
      refine al_Mod_2 M hW i rfl (by omega) (x := (iterN (fun k h => up2 (up2 h 1 k (h 2 k)) 2 k (h 1 k)) i u) 2 i) rfl dX7_swapsAside_25 ?_
      refine as_Mod_1 M hW i rfl (by omega) dX7_swapsAside_26 (fun H locs hW => ?_)
      refine lv_aload_n hx hb dX7_swapsAside_27 rfl (lv_at hl 2 rfl) ?_
      refine gt_Mod_0_2 M hW kw_393 dX7_swapsAside_28 ?_
      refine lv_iload_n hx hb dX7_swapsAside_31 rfl (lv_at hl 1 rfl) ?_
      refine lv_iload_n hx hb dX7_swapsAside_32 rfl (lv_at hl 0 rfl) ?_
      refine as_Mod_2 M hW i rfl (by omega) dX7_swapsAside_33 (fun H locs hW => ?_)
      refine lv_iinc (v := nI (i + 1)) (lv' := [(1, .int (nI (i + 1))), (2, .int ((iterN (fun k h => up2 (up2 h 1 k (h 2 k)) 2 k (h 1 k)) i u) 1 i)), (0, .ref (b 0))]) hx hb dX7_swapsAside_34 hl (k := 1) rfl (nI_1 i) (by decide) rfl (fun ls hl => ?_)
      refine lv_goto (tgt := 2) hx hb dX7_swapsAside_37 (by decide) ?_
      exact ih (ls, i + 1) _ _ ⟨by dsimp only; omega, lv_sub hl [0, 2] rfl, (by dsimp only; rw [iterN_succ]; exact hW)⟩

def MSz (u : Nat → Nat → Int32) : Prop := ∃ n : Nat, n ≤ 4 ∧ u 0 4 = nI n
def mS (u : Nat → Nat → Int32) : Nat := (u 0 4).toNatClampNeg
def mN (u : Nat → Nat → Int32) : Nat := if u 0 4 = 4 then 3 else mS u
theorem MSz.eq {u : Nat → Nat → Int32} (h : MSz u) : u 0 4 = nI (mS u) ∧ mS u ≤ 4 := by
  obtain ⟨n, h1, h2⟩ := h
  have e : mS u = n := by rw [mS, h2]; exact nI_clamp (by omega)
  rw [e]
  exact ⟨h2, h1⟩
theorem MSz.le {u : Nat → Nat → Int32} (h : MSz u) : mN u ≤ 3 := by
  unfold mN
  by_cases c : u 0 4 = 4
  · rw [if_pos c]; exact Nat.le_refl 3
  · rw [if_neg c]
    have h2 := h.eq
    by_cases c2 : mS u = 4
    · exact absurd (by rw [h2.1, c2]; rfl) c
    · omega
theorem MSz.pred {u : Nat → Nat → Int32} (h : MSz u) (c : ¬ u 0 4 = 0) : u 0 4 - 1 = nI (mS u - 1) := by
  have h2 := h.eq
  by_cases c2 : mS u = 0
  · exact absurd (by rw [h2.1, c2]; exact nI_0) c
  · obtain ⟨k, hk⟩ := Nat.exists_eq_succ_of_ne_zero c2
    rw [h2.1, hk]
    exact nI_pred k
theorem MSz.pos {u : Nat → Nat → Int32} (h : MSz u) (c : ¬ u 0 4 = 0) : 0 < mS u := by
  have h2 := h.eq
  by_cases c2 : mS u = 0
  · exact absurd (by rw [h2.1, c2]; exact nI_0) c
  · omega
