def jX3_watch_74 (h : Nat → Nat → Int32) (i : Nat) : Nat → Nat → Int32 := if (h 0 6) = 0 then up2 h 9 i (if (rX3_seenBy h (nI i)) < (tToo i) then 0 else (h 9 i) + 1) else if (if (rX3_seenBy h (nI i)) < (tToo i) then 0 else (h 9 i) + 1) < (tWaits i) then up2 h 9 i (if (rX3_seenBy h (nI i)) < (tToo i) then 0 else (h 9 i) + 1) else sX3_tripBy (up2 (up2 h 9 i (if (rX3_seenBy h (nI i)) < (tToo i) then 0 else (h 9 i) + 1)) 10 i ((h 10 i) + 1)) (nI i)
theorem watch_2 (h : Nat → Nat → Int32) (i : Nat) : (jX3_watch_74 h i) 2 = h 2 := by
  unfold jX3_watch_74
  (repeat' split) <;> simp only [tripBy_2, up2_2_0, up2_2_9, up2_2_10]
theorem LegOK.watch {h : Nat → Nat → Int32} (hOK : LegOK h) (i : Nat) : LegOK (jX3_watch_74 h i) := by
  unfold LegOK
  rw [watch_2]
  exact hOK
theorem LegOK.iterWatch {g : Nat → Nat → Int32} (hOK : LegOK g) (n : Nat) : LegOK (iterN (fun i h => jX3_watch_74 h i) n g) := by
  induction n with
  | zero => exact hOK
  | succ n ih => exact ih.watch n

def sX3_watch (g : Nat → Nat → Int32) : Nat → Nat → Int32 := iterN (fun i h => jX3_watch_74 h i) 3 g
set_option maxHeartbeats 4000000 in
set_option maxRecDepth 100000 in
/-- X3.watch -/
theorem c_X3_watch (l : Launch) (G : Gp) (a : Nat → Nat) (g : Nat → Nat → Int32) (Y : va_W) (hOK : LegOK g) : Cn l G yX3_watch cX3_watch 2 none 3 [.ref (a 0)] (LegW G a g ++ Y) none (LegW G a (sX3_watch g) ++ Y) := by
  refine CnE.of (by decide) (Nat.le_of_ble_eq_true rfl) ?_
  intro p e s m below meth c ls M hnm hl hW
  have hx := M.1
  have hb := M.2.1
  have hl : lv_has ls 2 [(0, .ref (a 0))] := hl
  refine lv_iconst (v := 0) hx hb dX3_watch_0 (by decide) ?_
  refine lv_istore_n (lv' := [(1, .int 0), (0, .ref (a 0))]) hx hb dX3_watch_1 rfl hl (by decide) rfl (fun ls hl => ?_)
  refine r_loop (σ := Array Slot × Nat) (fun r uL H1 l1 => uL.2 + r = 3 ∧ lv_has uL.1 2 [(1, .int (nI uL.2)), (0, .ref (a 0))] ∧ Wd G s (LegW G a (iterN (fun i h => jX3_watch_74 h i) uL.2 g) ++ Y) H1 l1) (fun uL => F0 m 2 uL.1 []) ?_ ?_ (3) (ls, 0) _ _ ⟨Nat.zero_add _, lv_sub hl [0, 1] rfl, hW⟩
  · skip
    intro uL H locs hI
    obtain ⟨ls, i⟩ := uL
    obtain ⟨hu, hl, hW⟩ := hI
    dsimp only at hu hl hW ⊢
    have hu : i = 3 := hu
    subst hu
    refine lv_iload_n hx hb dX3_watch_2 rfl (lv_at hl 0 rfl) ?_
    refine lv_iconst (v := 3) hx hb dX3_watch_3 (by decide) ?_
    refine lv_icmp_ge (tgt := 80) hx hb dX3_watch_4 (by decide) (fun c_4 => ?_) (fun c_4 => ?_)
    · skip
      exact r_retv M hW (by rw [sX3_watch]) ⟨rfl, rfl⟩ (Nat.zero_le _) (Nat.zero_le _) dX3_watch_80
    · skip
      exact absurd (nI_le (Nat.le_refl 3) (by decide)) c_4
  · skip
    intro n ih uL H locs hI
    obtain ⟨ls, i⟩ := uL
    obtain ⟨hu, hl, hW⟩ := hI
    dsimp only at hu hl hW ⊢
    have hlt : i < 3 := by omega
    refine lv_iload_n hx hb dX3_watch_2 rfl (lv_at hl 0 rfl) ?_
    refine lv_iconst (v := 3) hx hb dX3_watch_3 (by decide) ?_
    refine lv_icmp_ge (tgt := 80) hx hb dX3_watch_4 (by decide) (fun c_4_2 => ?_) (fun c_4_2 => ?_)
    · skip
      exact absurd c_4_2 (nI_ge hlt (by decide))
    · skip
      refine r_cut (σ := Unit) (fun _ H1 l1 => Wd G s (LegW G a (jX3_watch_74 (iterN (fun i h => jX3_watch_74 h i) i g) i) ++ Y) H1 l1) (fun _ => F0 m 74 ls []) (fun _ H locs hW => ?_) (fun hJ_74 => ?_)
      · skip
        refine lv_iinc (v := nI (i + 1)) (lv' := [(1, .int (nI (i + 1))), (0, .ref (a 0))]) hx hb dX3_watch_74 hl (k := 0) rfl (nI_1 i) (by decide) rfl (fun ls hl => ?_)
        refine lv_goto (tgt := 2) hx hb dX3_watch_77 (by decide) ?_
        exact ih (ls, i + 1) _ _ ⟨by dsimp only; omega, lv_sub hl [0, 1] rfl, (by dsimp only; rw [iterN_succ]; exact hW)⟩
      · skip
        refine lv_aload_n hx hb dX3_watch_7 rfl (lv_at hl 1 rfl) ?_
        refine gt_Leg_0_4 M hW kw_69 dX3_watch_8 ?_
        refine lv_iload_n hx hb dX3_watch_11 rfl (lv_at hl 0 rfl) ?_
        refine lv_aload_n hx hb dX3_watch_12 rfl (lv_at hl 1 rfl) ?_
        refine lv_iload_n hx hb dX3_watch_13 rfl (lv_at hl 0 rfl) ?_
        refine r_callVi M hW (c_X3_seenBy l G a (iterN (fun i h => jX3_watch_74 h i) i g) (nI i) (Y)) rfl kw_169 kw_170 kw_171 kw_80 kw_162 pl_X3_seenBy 0 rfl rfl ⟨by decide, by decide⟩ ⟨Nat.zero_le _, Nat.zero_le _⟩ hl.1 rfl (Nat.le_of_ble_eq_true rfl) dX3_watch_14 (fun H locs hW => ?_)
        refine r_getsN M hW M.2.2.2.2.2.2.2.2.1.2.2.2.1 kn_X3_170 dX3_watch_17 ?_
        refine lv_iload_n hx hb dX3_watch_20 rfl (lv_at hl 0 rfl) ?_
        refine r_tald M hW M.2.2.2.2.2.2.2.2.1.2.2.2.1 i rfl (by omega) (by decide) (x := tToo i) rfl dX3_watch_21 ?_
        refine r_cuti (pc2 := 37) (ls2 := ls) (st := [.int (nI i), .ref (a 9)]) (if (rX3_seenBy (iterN (fun i h => jX3_watch_74 h i) i g) (nI i)) < (tToo i) then 0 else ((iterN (fun i h => jX3_watch_74 h i) i g) 9 i) + 1) (fun x_37 hx_37 => ?_) (fun hJ_37 => ?_)
        · skip
          subst hx_37
          refine as_Leg_9 M hW i rfl (by omega) dX3_watch_37 (fun H locs hW => ?_)
          refine lv_aload_n hx hb dX3_watch_38 rfl (lv_at hl 1 rfl) ?_
          refine gt_Leg_0_6 M hW kw_93 (x := (iterN (fun i h => jX3_watch_74 h i) i g) 0 6) (up2_d (by decide)) dX3_watch_39 ?_
          refine lv_if_eq (tgt := 74) hx hb dX3_watch_42 (by decide) (fun c_42 => ?_) (fun c_42 => ?_)
          · skip
            exact hJ_74 () _ _ (by rw [jX3_watch_74, if_pos c_42]; exact hW)
          · skip
            refine lv_aload_n hx hb dX3_watch_45 rfl (lv_at hl 1 rfl) ?_
            refine gt_Leg_0_4 M hW kw_69 dX3_watch_46 ?_
            refine lv_iload_n hx hb dX3_watch_49 rfl (lv_at hl 0 rfl) ?_
            refine al_Leg_9 M hW i rfl (by omega) (x := if (rX3_seenBy (iterN (fun i h => jX3_watch_74 h i) i g) (nI i)) < (tToo i) then 0 else ((iterN (fun i h => jX3_watch_74 h i) i g) 9 i) + 1) up2_s dX3_watch_50 ?_
            refine r_getsN M hW M.2.2.2.2.2.2.2.2.1.2.2.2.2 kn_X3_173 dX3_watch_51 ?_
            refine lv_iload_n hx hb dX3_watch_54 rfl (lv_at hl 0 rfl) ?_
            refine r_tald M hW M.2.2.2.2.2.2.2.2.1.2.2.2.2 i rfl (by omega) (by decide) (x := tWaits i) rfl dX3_watch_55 ?_
            refine lv_icmp_lt (tgt := 74) hx hb dX3_watch_56 (by decide) (fun c_56 => ?_) (fun c_56 => ?_)
            · skip
              exact hJ_74 () _ _ (by rw [jX3_watch_74, if_neg c_42, if_pos c_56]; exact hW)
            · skip
              refine lv_aload_n hx hb dX3_watch_59 rfl (lv_at hl 1 rfl) ?_
              refine gt_Leg_0_5 M hW kw_70 dX3_watch_60 ?_
              refine lv_iload_n hx hb dX3_watch_63 rfl (lv_at hl 0 rfl) ?_
              refine lv_dup2_11 hx hb dX3_watch_64 rfl rfl ?_
              refine al_Leg_10 M hW i rfl (by omega) (x := (iterN (fun i h => jX3_watch_74 h i) i g) 10 i) (up2_d (by decide)) dX3_watch_65 ?_
              refine lv_iconst (v := 1) hx hb dX3_watch_66 (by decide) ?_
              refine lv_iadd hx hb dX3_watch_67 ?_
              refine as_Leg_10 M hW i rfl (by omega) dX3_watch_68 (fun H locs hW => ?_)
              refine lv_aload_n hx hb dX3_watch_69 rfl (lv_at hl 1 rfl) ?_
              refine lv_iload_n hx hb dX3_watch_70 rfl (lv_at hl 0 rfl) ?_
              refine r_callVv M hW (c_X3_tripBy l G a (up2 (up2 (iterN (fun i h => jX3_watch_74 h i) i g) 9 i (if (rX3_seenBy (iterN (fun i h => jX3_watch_74 h i) i g) (nI i)) < (tToo i) then 0 else ((iterN (fun i h => jX3_watch_74 h i) i g) 9 i) + 1)) 10 i (((iterN (fun i h => jX3_watch_74 h i) i g) 10 i) + 1)) (nI i) (Y) (LegOK.iterWatch hOK i)) rfl kw_172 kw_173 kw_174 kw_80 kw_168 pl_X3_tripBy 0 rfl rfl ⟨by decide, by decide⟩ ⟨Nat.zero_le _, Nat.zero_le _⟩ hl.1 rfl (Nat.le_of_ble_eq_true rfl) dX3_watch_71 (fun H locs hW => ?_)
              exact hJ_74 () _ _ (by rw [jX3_watch_74, if_neg c_42, if_neg c_56]; exact hW)
        · skip
          refine lv_icmp_lt (tgt := 36) hx hb dX3_watch_22 (by decide) (fun c_22 => ?_) (fun c_22 => ?_)
          · skip
            refine lv_iconst (v := 0) hx hb dX3_watch_36 (by decide) ?_
            exact hJ_37 _ (by rw [if_pos c_22])
          · skip
            refine lv_aload_n hx hb dX3_watch_25 rfl (lv_at hl 1 rfl) ?_
            refine gt_Leg_0_4 M hW kw_69 dX3_watch_26 ?_
            refine lv_iload_n hx hb dX3_watch_29 rfl (lv_at hl 0 rfl) ?_
            refine al_Leg_9 M hW i rfl (by omega) (x := (iterN (fun i h => jX3_watch_74 h i) i g) 9 i) rfl dX3_watch_30 ?_
            refine lv_iconst (v := 1) hx hb dX3_watch_31 (by decide) ?_
            refine lv_iadd hx hb dX3_watch_32 ?_
            refine lv_goto (tgt := 37) hx hb dX3_watch_33 (by decide) ?_
            exact hJ_37 _ (by rw [if_neg c_22])

theorem moved_2 (g : Nat → Nat → Int32) : (sX3_moveOneCell g) 2 = (sX0_moveOn g) 2 := by
  unfold sX3_moveOneCell
  rw [up2_2_4, fill_2]
  unfold moveB moveA
  rw [fall_2, up2_2_4, empty_2]
theorem moved_0 (g : Nat → Nat → Int32) : (sX3_moveOneCell g) 0 = g 0 := by
  unfold sX3_moveOneCell
  rw [up2_0_4, fill_0]
  unfold moveB moveA
  rw [fall_0, up2_0_4, empty_0, moveOn_0]
theorem LegOK.moved (g : Nat → Nat → Int32) : LegOK (sX3_moveOneCell g) := by
  unfold LegOK
  rw [moved_2]
  exact ⟨_, Nat.mod_lt (jB g + 11) (show 0 < 12 by decide), rfl⟩
theorem LegOK.iterMove {g : Nat → Nat → Int32} (hOK : LegOK g) (n : Nat) : LegOK (iterN (fun _ => sX3_moveOneCell) n g) := by
  cases n with
  | zero => exact hOK
  | succ n => exact LegOK.moved _
theorem iter_at {F : Nat → (Nat → Nat → Int32) → (Nat → Nat → Int32)} (a : Nat) (hF : ∀ (k : Nat) (h : Nat → Nat → Int32), F k h a = h a) (n : Nat) (g : Nat → Nat → Int32) : iterN F n g a = g a := by
  induction n with
  | zero => rfl
  | succ n ih => exact (hF n _).trans ih
theorem iter_at2 {F : Nat → (Nat → Nat → Int32) → (Nat → Nat → Int32)} (a j : Nat) (hF : ∀ (k : Nat) (h : Nat → Nat → Int32), F k h a j = h a j) (n : Nat) (g : Nat → Nat → Int32) : iterN F n g a j = g a j := by
  induction n with
  | zero => rfl
  | succ n ih => exact (hF n _).trans ih
theorem iter_0 (g : Nat → Nat → Int32) (n : Nat) : (iterN (fun _ => sX3_moveOneCell) n g) 0 = g 0 := iter_at 0 (fun _ h => moved_0 h) n g
theorem iter_cells (g : Nat → Nat → Int32) (n : Nat) : (iterN (fun _ => sX3_moveOneCell) n g) 0 9 = g 0 9 := by rw [iter_0]
def slipNow (h : Nat → Nat → Int32) : Int32 := if h 0 6 = 0 then 0 else rX3_slipOf h (rX3_load h)
def cellsNow (h : Nat → Nat → Int32) : Int32 := if h 0 6 = 0 then 0 else h 1 0 * (100 - slipNow h) / 100

def jX3_tick_30 (h : Nat → Nat → Int32) : Nat → Nat → Int32 := if (h 0 7) = 0 then h else sX1_feedIn h (h 1 2)
theorem LegOK.tick30 {h : Nat → Nat → Int32} (hOK : LegOK h) : LegOK (jX3_tick_30 h) := by
  have e : (jX3_tick_30 h) 2 = h 2 := by
    unfold jX3_tick_30
    split
    · rfl
    · exact feed_2 _ _
  unfold LegOK
  rw [e]
  exact hOK
def tickA (g : Nat → Nat → Int32) : Nat → Nat → Int32 := up2 (up2 (jX3_tick_30 (up2 g 0 12 ((g 0 12) + 1))) 0 8 (slipNow (jX3_tick_30 (up2 g 0 12 ((g 0 12) + 1))))) 0 9 (cellsNow (jX3_tick_30 (up2 g 0 12 ((g 0 12) + 1))))

def sX3_tick (g : Nat → Nat → Int32) : Nat → Nat → Int32 := sX3_watch (sX3_rub (iterN (fun _ => sX3_moveOneCell) ((tickA g 0 9).toNatClampNeg) (tickA g)))
set_option maxHeartbeats 4000000 in
set_option maxRecDepth 100000 in
/-- X3.tick -/
theorem c_X3_tick (l : Launch) (G : Gp) (a : Nat → Nat) (g : Nat → Nat → Int32) (Y : va_W) (hOK : LegOK g) : Cn l G yX3_tick cX3_tick 2 none 4 [.ref (a 0)] (LegW G a g ++ Y) none (LegW G a (sX3_tick g) ++ Y) := by
  refine CnE.of (by decide) (Nat.le_of_ble_eq_true rfl) ?_
  intro p e s m below meth c ls M hnm hl hW
  have hx := M.1
  have hb := M.2.1
  have hl : lv_has ls 2 [(0, .ref (a 0))] := hl
  refine lv_aload_n hx hb dX3_tick_0 rfl (lv_at hl 0 rfl) ?_
  refine lv_dup hx hb dX3_tick_1 rfl ?_
  refine gt_Leg_0_12 M hW kw_98 (x := g 0 12) rfl dX3_tick_2 ?_
  refine lv_iconst (v := 1) hx hb dX3_tick_5 (by decide) ?_
  refine lv_iadd hx hb dX3_tick_6 ?_
  refine pt_Leg_0_12 M hW kw_98 dX3_tick_7 (fun H locs hW => ?_)
  refine r_cut (σ := Unit) (fun _ H1 l1 => Wd G s (LegW G a (jX3_tick_30 (up2 g 0 12 ((g 0 12) + 1))) ++ Y) H1 l1) (fun _ => F0 m 30 ls []) (fun _ H locs hW => ?_) (fun hJ_30 => ?_)
  · skip
    refine lv_aload_n hx hb dX3_tick_30 rfl (lv_at hl 0 rfl) ?_
    refine lv_aload_n hx hb dX3_tick_31 rfl (lv_at hl 0 rfl) ?_
    refine gt_Leg_0_6 M hW kw_93 (x := (jX3_tick_30 (up2 g 0 12 ((g 0 12) + 1))) 0 6) rfl dX3_tick_32 ?_
    refine r_cut (σ := Int32) (fun xx H1 l1 => xx = (slipNow (jX3_tick_30 (up2 g 0 12 ((g 0 12) + 1)))) ∧ Wd G s (LegW G a (jX3_tick_30 (up2 g 0 12 ((g 0 12) + 1))) ++ Y) H1 l1) (fun xx => F0 m 50 ls [.int xx, .ref (a 0)]) (fun x_50 H locs hI => ?_) (fun hJ_50 => ?_)
    · skip
      obtain ⟨hx_50, hW⟩ := hI
      subst hx_50
      refine pt_Leg_0_8 M hW kw_95 dX3_tick_50 (fun H locs hW => ?_)
      refine lv_aload_n hx hb dX3_tick_53 rfl (lv_at hl 0 rfl) ?_
      refine lv_aload_n hx hb dX3_tick_54 rfl (lv_at hl 0 rfl) ?_
      refine gt_Leg_0_6 M hW kw_93 (x := (jX3_tick_30 (up2 g 0 12 ((g 0 12) + 1))) 0 6) (up2_k (by decide)) dX3_tick_55 ?_
      refine r_cuti (pc2 := 82) (ls2 := ls) (st := [.ref (a 0)]) (cellsNow (jX3_tick_30 (up2 g 0 12 ((g 0 12) + 1)))) (fun x_82 hx_82 => ?_) (fun hJ_82 => ?_)
      · skip
        subst hx_82
        refine pt_Leg_0_9 M hW kw_96 dX3_tick_82 (fun H locs hW => ?_)
        refine lv_iconst (v := 0) hx hb dX3_tick_85 (by decide) ?_
        refine lv_istore_n (lv' := [(1, .int 0), (0, .ref (a 0))]) hx hb dX3_tick_86 rfl hl (by decide) rfl (fun ls hl => ?_)
        have hW : Wd G s (LegW G a (tickA g) ++ Y) H locs := hW
        have hOK1 : LegOK (tickA g) := LegOK.tick30 hOK
        refine r_loop (σ := Array Slot × Nat) (fun r uL H1 l1 => uL.2 + r = (tickA g 0 9).toNatClampNeg ∧ lv_has uL.1 2 [(1, .int (nI uL.2)), (0, .ref (a 0))] ∧ Wd G s (LegW G a (iterN (fun _ => sX3_moveOneCell) uL.2 (tickA g)) ++ Y) H1 l1) (fun uL => F0 m 87 uL.1 []) ?_ ?_ ((tickA g 0 9).toNatClampNeg) (ls, 0) _ _ ⟨Nat.zero_add _, lv_sub hl [0, 1] rfl, hW⟩
        · skip
          intro uL H locs hI
          obtain ⟨ls, i⟩ := uL
          obtain ⟨hu, hl, hW⟩ := hI
          dsimp only at hu hl hW ⊢
          have hu : i = (tickA g 0 9).toNatClampNeg := hu
          subst hu
          refine lv_iload_n hx hb dX3_tick_87 rfl (lv_at hl 0 rfl) ?_
          refine lv_aload_n hx hb dX3_tick_88 rfl (lv_at hl 1 rfl) ?_
          refine gt_Leg_0_9 M hW kw_96 (x := tickA g 0 9) (iter_cells _ _) dX3_tick_89 ?_
          refine lv_icmp_ge (tgt := 105) hx hb dX3_tick_92 (by decide) (fun c_92 => ?_) (fun c_92 => ?_)
          · skip
            refine lv_aload_n hx hb dX3_tick_105 rfl (lv_at hl 1 rfl) ?_
            refine r_callVv M hW (c_X3_rub l G a (iterN (fun _ => sX3_moveOneCell) ((tickA g 0 9).toNatClampNeg) (tickA g))  (Y)) rfl kw_185 kw_186 kw_187 kw_80 kw_158 pl_X3_rub 0 rfl rfl ⟨by decide, by decide⟩ ⟨Nat.zero_le _, Nat.zero_le _⟩ hl.1 rfl (Nat.le_of_ble_eq_true rfl) dX3_tick_106 (fun H locs hW => ?_)
            have hOK2 : LegOK (sX3_rub (iterN (fun _ => sX3_moveOneCell) ((tickA g 0 9).toNatClampNeg) (tickA g))) := hOK1.iterMove _
            refine lv_aload_n hx hb dX3_tick_109 rfl (lv_at hl 1 rfl) ?_
            refine r_callVv M hW (c_X3_watch l G a (sX3_rub (iterN (fun _ => sX3_moveOneCell) ((tickA g 0 9).toNatClampNeg) (tickA g)))  (Y) hOK2) rfl kw_188 kw_189 kw_190 kw_80 kw_175 pl_X3_watch 0 rfl rfl ⟨by decide, by decide⟩ ⟨Nat.zero_le _, Nat.zero_le _⟩ hl.1 rfl (Nat.le_of_ble_eq_true rfl) dX3_tick_110 (fun H locs hW => ?_)
            exact r_retv M hW (by rw [sX3_tick]) ⟨rfl, rfl⟩ (Nat.zero_le _) (Nat.zero_le _) dX3_tick_113
          · skip
            exact absurd (le_clamp _) c_92
        · skip
          intro n ih uL H locs hI
          obtain ⟨ls, i⟩ := uL
          obtain ⟨hu, hl, hW⟩ := hI
          dsimp only at hu hl hW ⊢
          have hlt : i < (tickA g 0 9).toNatClampNeg := by omega
          refine lv_iload_n hx hb dX3_tick_87 rfl (lv_at hl 0 rfl) ?_
          refine lv_aload_n hx hb dX3_tick_88 rfl (lv_at hl 1 rfl) ?_
          refine gt_Leg_0_9 M hW kw_96 (x := tickA g 0 9) (iter_cells _ _) dX3_tick_89 ?_
          refine lv_icmp_ge (tgt := 105) hx hb dX3_tick_92 (by decide) (fun c_92_2 => ?_) (fun c_92_2 => ?_)
          · skip
            exact absurd c_92_2 (lt_clamp hlt)
          · skip
            refine lv_aload_n hx hb dX3_tick_95 rfl (lv_at hl 1 rfl) ?_
            refine r_callVv M hW (c_X3_moveOneCell l G a (iterN (fun _ => sX3_moveOneCell) i (tickA g))  (Y) (hOK1.iterMove _)) rfl kw_182 kw_183 kw_184 kw_80 kw_157 pl_X3_moveOneCell 0 rfl rfl ⟨by decide, by decide⟩ ⟨Nat.zero_le _, Nat.zero_le _⟩ hl.1 rfl (Nat.le_of_ble_eq_true rfl) dX3_tick_96 (fun H locs hW => ?_)
            refine lv_iinc (v := nI (i + 1)) (lv' := [(1, .int (nI (i + 1))), (0, .ref (a 0))]) hx hb dX3_tick_99 hl (k := 0) rfl (nI_1 i) (by decide) rfl (fun ls hl => ?_)
            refine lv_goto (tgt := 87) hx hb dX3_tick_102 (by decide) ?_
            exact ih (ls, i + 1) _ _ ⟨by dsimp only; omega, lv_sub hl [0, 1] rfl, (by dsimp only; rw [iterN_succ]; exact hW)⟩
      · skip
        refine lv_if_eq (tgt := 81) hx hb dX3_tick_58 (by decide) (fun c_58 => ?_) (fun c_58 => ?_)
        · skip
          refine lv_iconst (v := 0) hx hb dX3_tick_81 (by decide) ?_
          exact hJ_82 _ (by rw [cellsNow, if_pos c_58])
        · skip
          refine lv_aload_n hx hb dX3_tick_61 rfl (lv_at hl 0 rfl) ?_
          refine gt_Leg_0_0 M hW kw_57 dX3_tick_62 ?_
          refine lv_iconst (v := 0) hx hb dX3_tick_65 (by decide) ?_
          refine al_Leg_1 M hW 0 rfl (by decide) (x := (jX3_tick_30 (up2 g 0 12 ((g 0 12) + 1))) 1 0) (up2_d (by decide)) dX3_tick_66 ?_
          refine lv_bipush (v := 100) hx hb dX3_tick_67 (by decide) ?_
          refine lv_aload_n hx hb dX3_tick_69 rfl (lv_at hl 0 rfl) ?_
          refine gt_Leg_0_8 M hW kw_95 (x := slipNow (jX3_tick_30 (up2 g 0 12 ((g 0 12) + 1)))) up2_s dX3_tick_70 ?_
          refine lv_isub hx hb dX3_tick_73 ?_
          refine lv_imul hx hb dX3_tick_74 ?_
          refine lv_bipush (v := 100) hx hb dX3_tick_75 (by decide) ?_
          refine lv_idiv hx hb dX3_tick_77 (by decide) ?_
          refine lv_goto (tgt := 82) hx hb dX3_tick_78 (by decide) ?_
          exact hJ_82 _ (by rw [cellsNow, if_neg c_58])
    · skip
      refine lv_if_eq (tgt := 49) hx hb dX3_tick_35 (by decide) (fun c_35 => ?_) (fun c_35 => ?_)
      · skip
        refine lv_iconst (v := 0) hx hb dX3_tick_49 (by decide) ?_
        exact hJ_50 _ _ _ ⟨(by rw [slipNow, if_pos c_35]), hW⟩
      · skip
        refine lv_aload_n hx hb dX3_tick_38 rfl (lv_at hl 0 rfl) ?_
        refine lv_aload_n hx hb dX3_tick_39 rfl (lv_at hl 0 rfl) ?_
        refine r_callVi M hW (c_X3_load l G a (jX3_tick_30 (up2 g 0 12 ((g 0 12) + 1)))  (Y) (LegOK.tick30 hOK)) rfl kw_128 kw_129 kw_130 kw_80 kw_122 pl_X3_load 0 rfl rfl ⟨by decide, by decide⟩ ⟨Nat.zero_le _, Nat.zero_le _⟩ hl.1 rfl (Nat.le_of_ble_eq_true rfl) dX3_tick_40 (fun H locs hW => ?_)
        refine r_callVi M hW (c_X3_slipOf l G a (jX3_tick_30 (up2 g 0 12 ((g 0 12) + 1))) (rX3_load (jX3_tick_30 (up2 g 0 12 ((g 0 12) + 1)))) (Y)) rfl kw_179 kw_180 kw_181 kw_80 kw_142 pl_X3_slipOf 0 rfl rfl ⟨by decide, by decide⟩ ⟨Nat.zero_le _, Nat.zero_le _⟩ hl.1 rfl (Nat.le_of_ble_eq_true rfl) dX3_tick_43 (fun H locs hW => ?_)
        refine lv_goto (tgt := 50) hx hb dX3_tick_46 (by decide) ?_
        exact hJ_50 _ _ _ ⟨(by rw [slipNow, if_neg c_35]), hW⟩
  · skip
    refine lv_aload_n hx hb dX3_tick_10 rfl (lv_at hl 0 rfl) ?_
    refine gt_Leg_0_7 M hW kw_94 (x := (up2 g 0 12 ((g 0 12) + 1)) 0 7) rfl dX3_tick_11 ?_
    refine lv_if_eq (tgt := 30) hx hb dX3_tick_14 (by decide) (fun c_14 => ?_) (fun c_14 => ?_)
    · skip
      exact hJ_30 () _ _ (by rw [jX3_tick_30, if_pos c_14]; exact hW)
    · skip
      refine lv_aload_n hx hb dX3_tick_17 rfl (lv_at hl 0 rfl) ?_
      refine gt_Leg_0_2 M hW kw_64 dX3_tick_18 ?_
      refine lv_aload_n hx hb dX3_tick_21 rfl (lv_at hl 0 rfl) ?_
      refine gt_Leg_0_0 M hW kw_57 dX3_tick_22 ?_
      refine lv_iconst (v := 2) hx hb dX3_tick_25 (by decide) ?_
      refine al_Leg_1 M hW 2 rfl (by decide) (x := (up2 g 0 12 ((g 0 12) + 1)) 1 2) rfl dX3_tick_26 ?_
      refine r_callVv M hW (c_X1_feedIn l G a (up2 g 0 12 ((g 0 12) + 1)) ((up2 g 0 12 ((g 0 12) + 1)) 1 2) (Y)) rfl kw_176 kw_177 kw_178 kw_43 kw_39 pl_X1_feedIn 4 rfl rfl ⟨by decide, by decide⟩ ⟨Nat.zero_le _, Nat.zero_le _⟩ hl.1 rfl (Nat.le_of_ble_eq_true rfl) dX3_tick_27 (fun H locs hW => ?_)
      exact hJ_30 () _ _ (by rw [jX3_tick_30, if_neg c_14]; exact hW)
