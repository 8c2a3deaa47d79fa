theorem up2_c (g : Nat → Nat → Int32) (c k : Nat) (v : Int32) (j : Nat) : up2 g c k v c j = if j = k then v else g c j := by rw [up2_eq]; rfl
theorem comes_s (u : Nat → Nat → Int32) (x : Int32) {j : Nat} (h5 : j ≠ 5) (h7 : j ≠ 7) : sX7_comes u x 1 j = u 1 j := by
  unfold sX7_comes
  rw [up2_c, if_neg h7, up2_c, if_neg h5]
theorem moves_12 (u : Nat → Nat → Int32) : (sX7_moves u) 1 12 = u 1 12 := by
  unfold sX7_moves
  rw [up2_c, if_neg (by decide), up2_c, if_neg (by decide)]
  unfold movesB
  rw [comes_s _ _ (by decide) (by decide)]
  unfold movesA
  simp only [up2_c]
  rfl
theorem iterM_12 (g : Nat → Nat → Int32) (n : Nat) : (iterN (fun _ => sX7_moves) n g) 1 12 = g 1 12 := iter_at2 1 12 (fun _ h => moves_12 h) n g
def mSlip (h : Nat → Nat → Int32) (z : Int32) : Int32 := if h 1 14 = 0 then 0 else if 0 < z then (if z ≤ 50 then 2 * z else 100) else 0
def mCells (h : Nat → Nat → Int32) : Int32 := if h 1 14 = 0 then 0 else h 1 0 * (100 - h 1 11) / 100
def mWarm (z : Int32) : Int32 := if 0 ≤ z then z else 0
theorem iter_other {F : Nat → (Nat → Nat → Int32) → (Nat → Nat → Int32)} (c : Nat) (hF : ∀ (k : Nat) (h : Nat → Nat → Int32) (a : Nat), a ≠ c → F k h a = h a) (n : Nat) (g : Nat → Nat → Int32) {a : Nat} (ha : a ≠ c) : iterN F n g a = g a := by
  induction n with
  | zero => rfl
  | succ n ih => exact (hF n _ a ha).trans ih

def jX7_tick_37 (h : Nat → Nat → Int32) : Nat → Nat → Int32 := if (h 1 15) = 1 then sX7_comes (up2 h 1 8 ((h 1 8) + (h 1 2))) (h 1 2) else h
def mtickA (u : Nat → Nat → Int32) : Nat → Nat → Int32 := up2 (jX7_tick_37 u) 1 11 (mSlip (jX7_tick_37 u) ((rX7_load (jX7_tick_37 u)) - ((jX7_tick_37 u) 1 1)))
def mtickB (u : Nat → Nat → Int32) : Nat → Nat → Int32 := up2 (mtickA u) 1 12 (mCells (mtickA u))
def mtickC (u : Nat → Nat → Int32) : Nat → Nat → Int32 := iterN (fun _ => sX7_moves) ((mtickB u 1 12).toNatClampNeg) (mtickB u)
def mtickD (u : Nat → Nat → Int32) : Nat → Nat → Int32 := up2 (mtickC u) 1 13 (mWarm ((((mtickC u) 1 13) + (((mtickC u) 1 12) * (rX7_beyond (mtickC u)))) - 2))
def sX7_tick (u : Nat → Nat → Int32) : Nat → Nat → Int32 := up2 (sX7_watches (mtickD u)) 1 17 (((sX7_watches (mtickD u)) 1 17) + 1)
set_option maxHeartbeats 4000000 in
set_option maxRecDepth 100000 in
/-- X7.tick -/
theorem c_X7_tick (l : Launch) (G : Gp) (b : Nat → Nat) (u : Nat → Nat → Int32) (Y : va_W) : Cn l G yX7_tick cX7_tick 3 none 3 [.ref (b 0)] (ModW G b u ++ Y) none (ModW G b (sX7_tick u) ++ Y) := by
  refine CnE.of (by decide) (Nat.le_of_ble_eq_true rfl) ?_
  intro p e s m below meth c ls M hnm hl hW
  have hx := M.1
  have hb := M.2.1
  have hl : lv_has ls 3 [(0, .ref (b 0))] := hl
  refine r_cut (σ := Unit) (fun _ H1 l1 => Wd G s (ModW G b (jX7_tick_37 u) ++ Y) H1 l1) (fun _ => F0 m 37 ls []) (fun _ H locs hW => ?_) (fun hJ_37 => ?_)
  · skip
    refine lv_aload_n hx hb dX7_tick_37 rfl (lv_at hl 0 rfl) ?_
    refine r_callVi M hW (c_X7_load l G b (jX7_tick_37 u)  (Y)) rfl kw_416 kw_417 kw_418 kw_412 kw_406 pl_X7_load 0 rfl rfl ⟨by decide, by decide⟩ ⟨Nat.zero_le _, Nat.zero_le _⟩ hl.1 rfl (Nat.le_of_ble_eq_true rfl) dX7_tick_38 (fun H locs hW => ?_)
    refine lv_aload_n hx hb dX7_tick_41 rfl (lv_at hl 0 rfl) ?_
    refine gt_Mod_0_1 M hW kw_392 dX7_tick_42 ?_
    refine lv_iconst (v := 1) hx hb dX7_tick_45 (by decide) ?_
    refine al_Mod_1 M hW 1 rfl (by decide) (x := (jX7_tick_37 u) 1 1) rfl dX7_tick_46 ?_
    refine lv_isub hx hb dX7_tick_47 ?_
    refine lv_istore_n (lv' := [(1, .int ((rX7_load (jX7_tick_37 u)) - ((jX7_tick_37 u) 1 1))), (0, .ref (b 0))]) hx hb dX7_tick_48 rfl hl (by decide) rfl (fun ls hl => ?_)
    refine lv_aload_n hx hb dX7_tick_49 rfl (lv_at hl 1 rfl) ?_
    refine gt_Mod_0_1 M hW kw_392 dX7_tick_50 ?_
    refine lv_bipush (v := 11) hx hb dX7_tick_53 (by decide) ?_
    refine lv_aload_n hx hb dX7_tick_55 rfl (lv_at hl 1 rfl) ?_
    refine gt_Mod_0_1 M hW kw_392 dX7_tick_56 ?_
    refine lv_bipush (v := 14) hx hb dX7_tick_59 (by decide) ?_
    refine al_Mod_1 M hW 14 rfl (by decide) (x := (jX7_tick_37 u) 1 14) rfl dX7_tick_61 ?_
    refine r_cuti (pc2 := 87) (ls2 := ls) (st := [.int 11, .ref (b 1)]) (mSlip (jX7_tick_37 u) ((rX7_load (jX7_tick_37 u)) - ((jX7_tick_37 u) 1 1))) (fun x_87 hx_87 => ?_) (fun hJ_87 => ?_)
    · skip
      rewrite [hx_87]
      refine as_Mod_1 M hW 11 rfl (by decide) dX7_tick_87 (fun H locs hW => ?_)
      have hW : Wd G s (ModW G b (mtickA u) ++ Y) _ _ := hW
      refine lv_aload_n hx hb dX7_tick_88 rfl (lv_at hl 1 rfl) ?_
      refine gt_Mod_0_1 M hW kw_392 dX7_tick_89 ?_
      refine lv_bipush (v := 12) hx hb dX7_tick_92 (by decide) ?_
      refine lv_aload_n hx hb dX7_tick_94 rfl (lv_at hl 1 rfl) ?_
      refine gt_Mod_0_1 M hW kw_392 dX7_tick_95 ?_
      refine lv_bipush (v := 14) hx hb dX7_tick_98 (by decide) ?_
      refine al_Mod_1 M hW 14 rfl (by decide) (x := (mtickA u) 1 14) rfl dX7_tick_100 ?_
      refine r_cuti (pc2 := 128) (ls2 := ls) (st := [.int 12, .ref (b 1)]) (mCells (mtickA u)) (fun x_128 hx_128 => ?_) (fun hJ_128 => ?_)
      · skip
        rewrite [hx_128]
        refine as_Mod_1 M hW 12 rfl (by decide) dX7_tick_128 (fun H locs hW => ?_)
        refine lv_iconst (v := 0) hx hb dX7_tick_129 (by decide) ?_
        refine lv_istore_n (lv' := [(2, .int 0), (1, .int ((rX7_load (jX7_tick_37 u)) - ((jX7_tick_37 u) 1 1))), (0, .ref (b 0))]) hx hb dX7_tick_130 rfl hl (by decide) rfl (fun ls hl => ?_)
        have hW : Wd G s (ModW G b (mtickB u) ++ Y) _ _ := hW
        refine r_loop (σ := Array Slot × Nat) (fun r uL H1 l1 => uL.2 + r = (mtickB u 1 12).toNatClampNeg ∧ lv_has uL.1 3 [(2, .int (nI uL.2)), (1, .int ((rX7_load (jX7_tick_37 u)) - ((jX7_tick_37 u) 1 1))), (0, .ref (b 0))] ∧ Wd G s (ModW G b (iterN (fun _ => sX7_moves) uL.2 (mtickB u)) ++ Y) H1 l1) (fun uL => F0 m 131 uL.1 []) ?_ ?_ ((mtickB u 1 12).toNatClampNeg) (ls, 0) _ _ ⟨Nat.zero_add _, lv_sub hl [0, 1, 2] rfl, hW⟩
        · skip
          intro uL H locs hI
          obtain ⟨ls, i⟩ := uL
          obtain ⟨hu, hl, hW⟩ := hI
          dsimp only at hu hl hW ⊢
          have hu : i = (mtickB u 1 12).toNatClampNeg := hu
          subst hu
          refine lv_iload_n hx hb dX7_tick_131 rfl (lv_at hl 0 rfl) ?_
          refine lv_aload_n hx hb dX7_tick_132 rfl (lv_at hl 2 rfl) ?_
          refine gt_Mod_0_1 M hW kw_392 dX7_tick_133 ?_
          refine lv_bipush (v := 12) hx hb dX7_tick_136 (by decide) ?_
          refine al_Mod_1 M hW 12 rfl (by decide) (x := mtickB u 1 12) (iterM_12 _ _) dX7_tick_138 ?_
          refine lv_icmp_ge (tgt := 152) hx hb dX7_tick_139 (by decide) (fun c_139 => ?_) (fun c_139 => ?_)
          · skip
            have hW : Wd G s (ModW G b (mtickC u) ++ Y) _ _ := hW
            refine lv_aload_n hx hb dX7_tick_152 rfl (lv_at hl 2 rfl) ?_
            refine gt_Mod_0_1 M hW kw_392 dX7_tick_153 ?_
            refine lv_bipush (v := 13) hx hb dX7_tick_156 (by decide) ?_
            refine al_Mod_1 M hW 13 rfl (by decide) (x := (mtickC u) 1 13) rfl dX7_tick_158 ?_
            refine lv_aload_n hx hb dX7_tick_159 rfl (lv_at hl 2 rfl) ?_
            refine gt_Mod_0_1 M hW kw_392 dX7_tick_160 ?_
            refine lv_bipush (v := 12) hx hb dX7_tick_163 (by decide) ?_
            refine al_Mod_1 M hW 12 rfl (by decide) (x := (mtickC u) 1 12) rfl dX7_tick_165 ?_
            refine lv_aload_n hx hb dX7_tick_166 rfl (lv_at hl 2 rfl) ?_
            refine r_callVi M hW (c_X7_beyond l G b (mtickC u)  (Y)) rfl kw_429 kw_430 kw_431 kw_412 kw_413 pl_X7_beyond 0 rfl rfl ⟨by decide, by decide⟩ ⟨Nat.zero_le _, Nat.zero_le _⟩ hl.1 rfl (Nat.le_of_ble_eq_true rfl) dX7_tick_167 (fun H locs hW => ?_)
            refine lv_imul hx hb dX7_tick_170 ?_
            refine lv_iadd hx hb dX7_tick_171 ?_
            refine lv_iconst (v := 2) hx hb dX7_tick_172 (by decide) ?_
            refine lv_isub hx hb dX7_tick_173 ?_
            refine lv_istore_n (lv' := [(2, .int ((((mtickC u) 1 13) + (((mtickC u) 1 12) * (rX7_beyond (mtickC u)))) - 2)), (1, .int ((rX7_load (jX7_tick_37 u)) - ((jX7_tick_37 u) 1 1))), (0, .ref (b 0))]) hx hb dX7_tick_174 rfl hl (by decide) rfl (fun ls hl => ?_)
            refine lv_aload_n hx hb dX7_tick_175 rfl (lv_at hl 2 rfl) ?_
            refine gt_Mod_0_1 M hW kw_392 dX7_tick_176 ?_
            refine lv_bipush (v := 13) hx hb dX7_tick_179 (by decide) ?_
            refine lv_iload_n hx hb dX7_tick_181 rfl (lv_at hl 0 rfl) ?_
            refine r_cuti (pc2 := 190) (ls2 := ls) (st := [.int 13, .ref (b 1)]) (mWarm ((((mtickC u) 1 13) + (((mtickC u) 1 12) * (rX7_beyond (mtickC u)))) - 2)) (fun x_190 hx_190 => ?_) (fun hJ_190 => ?_)
            · skip
              rewrite [hx_190]
              refine as_Mod_1 M hW 13 rfl (by decide) dX7_tick_190 (fun H locs hW => ?_)
              have hW : Wd G s (ModW G b (mtickD u) ++ Y) _ _ := hW
              refine lv_aload_n hx hb dX7_tick_191 rfl (lv_at hl 2 rfl) ?_
              refine r_callVv M hW (c_X7_watches l G b (mtickD u)  (Y)) rfl kw_432 kw_433 kw_434 kw_412 kw_419 pl_X7_watches 0 rfl rfl ⟨by decide, by decide⟩ ⟨Nat.zero_le _, Nat.zero_le _⟩ hl.1 rfl (Nat.le_of_ble_eq_true rfl) dX7_tick_192 (fun H locs hW => ?_)
              refine lv_aload_n hx hb dX7_tick_195 rfl (lv_at hl 2 rfl) ?_
              refine gt_Mod_0_1 M hW kw_392 dX7_tick_196 ?_
              refine lv_bipush (v := 17) hx hb dX7_tick_199 (by decide) ?_
              refine lv_dup2_11 hx hb dX7_tick_201 rfl rfl ?_
              refine al_Mod_1 M hW 17 rfl (by decide) (x := (sX7_watches (mtickD u)) 1 17) rfl dX7_tick_202 ?_
              refine lv_iconst (v := 1) hx hb dX7_tick_203 (by decide) ?_
              refine lv_iadd hx hb dX7_tick_204 ?_
              refine as_Mod_1 M hW 17 rfl (by decide) dX7_tick_205 (fun H locs hW => ?_)
              exact r_retv M hW (by rw [sX7_tick]) ⟨rfl, rfl⟩ (Nat.zero_le _) (Nat.zero_le _) dX7_tick_206
            · skip
              refine lv_if_ge (tgt := 189) hx hb dX7_tick_182 (by decide) (fun c_182 => ?_) (fun c_182 => ?_)
              · skip
                refine lv_iload_n hx hb dX7_tick_189 rfl (lv_at hl 0 rfl) ?_
                exact hJ_190 _ (by rw [mWarm, if_pos c_182])
              · skip
                refine lv_iconst (v := 0) hx hb dX7_tick_185 (by decide) ?_
                refine lv_goto (tgt := 190) hx hb dX7_tick_186 (by decide) ?_
                exact hJ_190 _ (by rw [mWarm, if_neg c_182])
          · skip
            exact absurd (le_clamp _) c_139
        · skip
          intro n ih uL H locs hI
          obtain ⟨ls, i⟩ := uL
          obtain ⟨hu, hl, hW⟩ := hI
          dsimp only at hu hl hW ⊢
          have hlt : i < (mtickB u 1 12).toNatClampNeg := by omega
          refine lv_iload_n hx hb dX7_tick_131 rfl (lv_at hl 0 rfl) ?_
          refine lv_aload_n hx hb dX7_tick_132 rfl (lv_at hl 2 rfl) ?_
          refine gt_Mod_0_1 M hW kw_392 dX7_tick_133 ?_
          refine lv_bipush (v := 12) hx hb dX7_tick_136 (by decide) ?_
          refine al_Mod_1 M hW 12 rfl (by decide) (x := mtickB u 1 12) (iterM_12 _ _) dX7_tick_138 ?_
          refine lv_icmp_ge (tgt := 152) hx hb dX7_tick_139 (by decide) (fun c_139_2 => ?_) (fun c_139_2 => ?_)
          · skip
            exact absurd c_139_2 (lt_clamp hlt)
          · skip
            refine lv_aload_n hx hb dX7_tick_142 rfl (lv_at hl 2 rfl) ?_
            refine r_callVv M hW (c_X7_moves l G b (iterN (fun _ => sX7_moves) i (mtickB u))  (Y)) rfl kw_426 kw_427 kw_428 kw_412 kw_408 pl_X7_moves 0 rfl rfl ⟨by decide, by decide⟩ ⟨Nat.zero_le _, Nat.zero_le _⟩ hl.1 rfl (Nat.le_of_ble_eq_true rfl) dX7_tick_143 (fun H locs hW => ?_)
            refine lv_iinc (v := nI (i + 1)) (lv' := [(2, .int (nI (i + 1))), (1, .int ((rX7_load (jX7_tick_37 u)) - ((jX7_tick_37 u) 1 1))), (0, .ref (b 0))]) hx hb dX7_tick_146 hl (k := 0) rfl (nI_1 i) (by decide) rfl (fun ls hl => ?_)
            refine lv_goto (tgt := 131) hx hb dX7_tick_149 (by decide) ?_
            exact ih (ls, i + 1) _ _ ⟨by dsimp only; omega, lv_sub hl [0, 1, 2] rfl, (by dsimp only; rw [iterN_succ]; exact hW)⟩
      · skip
        refine lv_if_ne (tgt := 108) hx hb dX7_tick_101 (by decide) (fun c_101 => ?_) (fun c_101 => ?_)
        · skip
          refine lv_aload_n hx hb dX7_tick_108 rfl (lv_at hl 1 rfl) ?_
          refine gt_Mod_0_1 M hW kw_392 dX7_tick_109 ?_
          refine lv_iconst (v := 0) hx hb dX7_tick_112 (by decide) ?_
          refine al_Mod_1 M hW 0 rfl (by decide) (x := (mtickA u) 1 0) rfl dX7_tick_113 ?_
          refine lv_bipush (v := 100) hx hb dX7_tick_114 (by decide) ?_
          refine lv_aload_n hx hb dX7_tick_116 rfl (lv_at hl 1 rfl) ?_
          refine gt_Mod_0_1 M hW kw_392 dX7_tick_117 ?_
          refine lv_bipush (v := 11) hx hb dX7_tick_120 (by decide) ?_
          refine al_Mod_1 M hW 11 rfl (by decide) (x := (mtickA u) 1 11) rfl dX7_tick_122 ?_
          refine lv_isub hx hb dX7_tick_123 ?_
          refine lv_imul hx hb dX7_tick_124 ?_
          refine lv_bipush (v := 100) hx hb dX7_tick_125 (by decide) ?_
          refine lv_idiv hx hb dX7_tick_127 (by decide) ?_
          exact hJ_128 _ (by rw [mCells, if_neg c_101])
        · skip
          refine lv_iconst (v := 0) hx hb dX7_tick_104 (by decide) ?_
          refine lv_goto (tgt := 128) hx hb dX7_tick_105 (by decide) ?_
          exact hJ_128 _ (by rw [mCells, if_pos c_101])
    · skip
      refine lv_if_eq (tgt := 69) hx hb dX7_tick_62 (by decide) (fun c_62 => ?_) (fun c_62 => ?_)
      · skip
        refine lv_iconst (v := 0) hx hb dX7_tick_69 (by decide) ?_
        refine lv_goto (tgt := 87) hx hb dX7_tick_70 (by decide) ?_
        exact hJ_87 _ (by rw [mSlip, if_pos c_62])
      · skip
        refine lv_iload_n hx hb dX7_tick_65 rfl (lv_at hl 0 rfl) ?_
        refine lv_if_gt (tgt := 73) hx hb dX7_tick_66 (by decide) (fun c_66 => ?_) (fun c_66 => ?_)
        · skip
          refine lv_iload_n hx hb dX7_tick_73 rfl (lv_at hl 0 rfl) ?_
          refine lv_bipush (v := 50) hx hb dX7_tick_74 (by decide) ?_
          refine lv_icmp_le (tgt := 84) hx hb dX7_tick_76 (by decide) (fun c_76 => ?_) (fun c_76 => ?_)
          · skip
            refine lv_iconst (v := 2) hx hb dX7_tick_84 (by decide) ?_
            refine lv_iload_n hx hb dX7_tick_85 rfl (lv_at hl 0 rfl) ?_
            refine lv_imul hx hb dX7_tick_86 ?_
            exact hJ_87 _ (by rw [mSlip, if_neg c_62, if_pos c_66, if_pos c_76])
          · skip
            refine lv_bipush (v := 100) hx hb dX7_tick_79 (by decide) ?_
            refine lv_goto (tgt := 87) hx hb dX7_tick_81 (by decide) ?_
            exact hJ_87 _ (by rw [mSlip, if_neg c_62, if_pos c_66, if_neg c_76])
        · skip
          refine lv_iconst (v := 0) hx hb dX7_tick_69 (by decide) ?_
          refine lv_goto (tgt := 87) hx hb dX7_tick_70 (by decide) ?_
          exact hJ_87 _ (by rw [mSlip, if_neg c_62, if_neg c_66])
  · skip
    refine lv_aload_n hx hb dX7_tick_0 rfl (lv_at hl 0 rfl) ?_
    refine gt_Mod_0_1 M hW kw_392 dX7_tick_1 ?_
    refine lv_bipush (v := 15) hx hb dX7_tick_4 (by decide) ?_
    refine al_Mod_1 M hW 15 rfl (by decide) (x := u 1 15) rfl dX7_tick_6 ?_
    refine lv_iconst (v := 1) hx hb dX7_tick_7 (by decide) ?_
    refine lv_icmp_ne (tgt := 37) hx hb dX7_tick_8 (by decide) (fun c_8 => ?_) (fun c_8 => ?_)
    · skip
      exact hJ_37 () _ _ (by rw [jX7_tick_37, if_neg c_8]; exact hW)
    · skip
      refine lv_aload_n hx hb dX7_tick_11 rfl (lv_at hl 0 rfl) ?_
      refine gt_Mod_0_1 M hW kw_392 dX7_tick_12 ?_
      refine lv_bipush (v := 8) hx hb dX7_tick_15 (by decide) ?_
      refine lv_dup2_11 hx hb dX7_tick_17 rfl rfl ?_
      refine al_Mod_1 M hW 8 rfl (by decide) (x := u 1 8) rfl dX7_tick_18 ?_
      refine lv_aload_n hx hb dX7_tick_19 rfl (lv_at hl 0 rfl) ?_
      refine gt_Mod_0_1 M hW kw_392 dX7_tick_20 ?_
      refine lv_iconst (v := 2) hx hb dX7_tick_23 (by decide) ?_
      refine al_Mod_1 M hW 2 rfl (by decide) (x := u 1 2) rfl dX7_tick_24 ?_
      refine lv_iadd hx hb dX7_tick_25 ?_
      refine as_Mod_1 M hW 8 rfl (by decide) dX7_tick_26 (fun H locs hW => ?_)
      refine lv_aload_n hx hb dX7_tick_27 rfl (lv_at hl 0 rfl) ?_
      refine lv_aload_n hx hb dX7_tick_28 rfl (lv_at hl 0 rfl) ?_
      refine gt_Mod_0_1 M hW kw_392 dX7_tick_29 ?_
      refine lv_iconst (v := 2) hx hb dX7_tick_32 (by decide) ?_
      refine al_Mod_1 M hW 2 rfl (by decide) (x := u 1 2) (up2_k (by decide)) dX7_tick_33 ?_
      refine r_callVv M hW (c_X7_comes l G b (up2 u 1 8 ((u 1 8) + (u 1 2))) (u 1 2) (Y)) rfl kw_409 kw_410 kw_411 kw_412 kw_407 pl_X7_comes 0 rfl rfl ⟨by decide, by decide⟩ ⟨Nat.zero_le _, Nat.zero_le _⟩ hl.1 rfl (Nat.le_of_ble_eq_true rfl) dX7_tick_34 (fun H locs hW => ?_)
      exact hJ_37 () _ _ (by rw [jX7_tick_37, if_pos c_8]; exact hW)

def rX7_ticks (u : Nat → Nat → Int32) (x : Int32) : Int32 := ((iterN (fun _ => sX7_tick) x.toNatClampNeg u) 1 6) - (u 1 6)
def sX7_ticks (u : Nat → Nat → Int32) (x : Int32) : Nat → Nat → Int32 := iterN (fun _ => sX7_tick) x.toNatClampNeg u
set_option maxHeartbeats 4000000 in
set_option maxRecDepth 100000 in
/-- X7.ticks -/
theorem c_X7_ticks (l : Launch) (G : Gp) (b : Nat → Nat) (u : Nat → Nat → Int32) (x : Int32) (Y : va_W) : Cn l G yX7_ticks cX7_ticks 4 (some .int) 4 [.ref (b 0), .int x] (ModW G b u ++ Y) (some (.int (rX7_ticks u x))) (ModW G b (sX7_ticks u x) ++ Y) := by
  refine CnE.of (by decide) (Nat.le_of_ble_eq_true rfl) ?_
  intro p e s m below meth c ls M hnm hl hW
  have hx := M.1
  have hb := M.2.1
  have hl : lv_has ls 4 [(0, .ref (b 0)), (1, .int x)] := hl
  refine lv_aload_n hx hb dX7_ticks_0 rfl (lv_at hl 0 rfl) ?_
  refine gt_Mod_0_1 M hW kw_392 dX7_ticks_1 ?_
  refine lv_bipush (v := 6) hx hb dX7_ticks_4 (by decide) ?_
  refine al_Mod_1 M hW 6 rfl (by decide) (x := u 1 6) rfl dX7_ticks_6 ?_
  refine lv_istore_n (lv' := [(2, .int (u 1 6)), (0, .ref (b 0)), (1, .int x)]) hx hb dX7_ticks_7 rfl hl (by decide) rfl (fun ls hl => ?_)
  refine lv_iconst (v := 0) hx hb dX7_ticks_8 (by decide) ?_
  refine lv_istore_n (lv' := [(3, .int 0), (2, .int (u 1 6)), (0, .ref (b 0)), (1, .int x)]) hx hb dX7_ticks_9 rfl hl (by decide) rfl (fun ls hl => ?_)
  refine r_loop (σ := Array Slot × Nat) (fun r uL H1 l1 => uL.2 + r = x.toNatClampNeg ∧ lv_has uL.1 4 [(3, .int (nI uL.2)), (2, .int (u 1 6)), (0, .ref (b 0)), (1, .int x)] ∧ Wd G s (ModW G b (iterN (fun _ => sX7_tick) uL.2 u) ++ Y) H1 l1) (fun uL => F0 m 10 uL.1 []) ?_ ?_ (x.toNatClampNeg) (ls, 0) _ _ ⟨Nat.zero_add _, lv_sub hl [0, 1, 2, 3] rfl, hW⟩
  · skip
    intro uL H locs hI
    obtain ⟨ls, i⟩ := uL
    obtain ⟨hu, hl, hW⟩ := hI
    dsimp only at hu hl hW ⊢
    have hu : i = x.toNatClampNeg := hu
    subst hu
    refine lv_iload_n hx hb dX7_ticks_10 rfl (lv_at hl 0 rfl) ?_
    refine lv_iload_n hx hb dX7_ticks_11 rfl (lv_at hl 3 rfl) ?_
    refine lv_icmp_ge (tgt := 25) hx hb dX7_ticks_12 (by decide) (fun c_12 => ?_) (fun c_12 => ?_)
    · skip
      refine lv_aload_n hx hb dX7_ticks_25 rfl (lv_at hl 2 rfl) ?_
      refine gt_Mod_0_1 M hW kw_392 dX7_ticks_26 ?_
      refine lv_bipush (v := 6) hx hb dX7_ticks_29 (by decide) ?_
      refine al_Mod_1 M hW 6 rfl (by decide) (x := (iterN (fun _ => sX7_tick) x.toNatClampNeg u) 1 6) rfl dX7_ticks_31 ?_
      refine lv_iload_n hx hb dX7_ticks_32 rfl (lv_at hl 1 rfl) ?_
      refine lv_isub hx hb dX7_ticks_33 ?_
      exact r_reti M hW (by rw [sX7_ticks]) ⟨by rw [rX7_ticks], rfl⟩ (Nat.zero_le _) (Nat.zero_le _) dX7_ticks_34
    · skip
      exact absurd (le_clamp _) c_12
  · skip
    intro n ih uL H locs hI
    obtain ⟨ls, i⟩ := uL
    obtain ⟨hu, hl, hW⟩ := hI
    dsimp only at hu hl hW ⊢
    have hlt : i < x.toNatClampNeg := by omega
    refine lv_iload_n hx hb dX7_ticks_10 rfl (lv_at hl 0 rfl) ?_
    refine lv_iload_n hx hb dX7_ticks_11 rfl (lv_at hl 3 rfl) ?_
    refine lv_icmp_ge (tgt := 25) hx hb dX7_ticks_12 (by decide) (fun c_12_2 => ?_) (fun c_12_2 => ?_)
    · skip
      exact absurd c_12_2 (lt_clamp hlt)
    · skip
      refine lv_aload_n hx hb dX7_ticks_15 rfl (lv_at hl 2 rfl) ?_
      refine r_callVv M hW (c_X7_tick l G b (iterN (fun _ => sX7_tick) i u)  (Y)) rfl kw_436 kw_437 kw_438 kw_412 kw_435 pl_X7_tick 0 rfl rfl ⟨by decide, by decide⟩ ⟨Nat.zero_le _, Nat.zero_le _⟩ hl.1 rfl (Nat.le_of_ble_eq_true rfl) dX7_ticks_16 (fun H locs hW => ?_)
      refine lv_iinc (v := nI (i + 1)) (lv' := [(3, .int (nI (i + 1))), (2, .int (u 1 6)), (0, .ref (b 0)), (1, .int x)]) hx hb dX7_ticks_19 hl (k := 0) rfl (nI_1 i) (by decide) rfl (fun ls hl => ?_)
      refine lv_goto (tgt := 10) hx hb dX7_ticks_22 (by decide) ?_
      exact ih (ls, i + 1) _ _ ⟨by dsimp only; omega, lv_sub hl [0, 1, 2, 3] rfl, (by dsimp only; rw [iterN_succ]; exact hW)⟩
