def rX7_in (x : Int32) (lo : Int32) (hi : Int32) : Int32 := if x < lo then 0 else if hi < x then 0 else 1
set_option maxHeartbeats 4000000 in
set_option maxRecDepth 100000 in
/-- X7.in -/
theorem c_X7_in (l : Launch) (G : Gp) (x : Int32) (lo : Int32) (hi : Int32) (Y : va_W) : Cn l G yX7_in cX7_in 3 (some .boolean) 0 [.int x, .int lo, .int hi] (Y) (some (.int (rX7_in x lo hi))) (Y) := by
  refine CnE.of (by decide) (Nat.le_of_ble_eq_true rfl) ?_
  intro p e s m below meth c ls M hnm hl hW
  have hx := M.1
  have hb := M.2.1
  have hl : lv_has ls 3 [(0, .int x), (1, .int lo), (2, .int hi)] := hl
  refine lv_iload_n hx hb dX7_in_0 rfl (lv_at hl 0 rfl) ?_
  refine lv_iload_n hx hb dX7_in_1 rfl (lv_at hl 1 rfl) ?_
  refine lv_icmp_lt (tgt := 14) hx hb dX7_in_2 (by decide) (fun c_2 => ?_) (fun c_2 => ?_)
  · skip
    refine lv_iconst (v := 0) hx hb dX7_in_14 (by decide) ?_
    exact r_retz M rfl hW rfl ⟨by rw [rX7_in, if_pos c_2], rfl⟩ (Nat.zero_le _) (Nat.zero_le _) dX7_in_15
  · skip
    refine lv_iload_n hx hb dX7_in_5 rfl (lv_at hl 0 rfl) ?_
    refine lv_iload_n hx hb dX7_in_6 rfl (lv_at hl 2 rfl) ?_
    refine lv_icmp_gt (tgt := 14) hx hb dX7_in_7 (by decide) (fun c_7 => ?_) (fun c_7 => ?_)
    · skip
      refine lv_iconst (v := 0) hx hb dX7_in_14 (by decide) ?_
      exact r_retz M rfl hW rfl ⟨by rw [rX7_in, if_neg c_2, if_pos c_7], rfl⟩ (Nat.zero_le _) (Nat.zero_le _) dX7_in_15
    · skip
      refine lv_iconst (v := 1) hx hb dX7_in_10 (by decide) ?_
      refine lv_goto (tgt := 15) hx hb dX7_in_11 (by decide) ?_
      exact r_retz M rfl hW rfl ⟨by rw [rX7_in, if_neg c_2, if_neg c_7], rfl⟩ (Nat.zero_le _) (Nat.zero_le _) dX7_in_15

def movesF (u : Nat → Nat → Int32) : Int32 := if u 1 12 < 2 then u 1 23 / 2 else 0
theorem nI_addl {x : Int32} {k : Nat} (c : Nat) (h : x = nI k) : nI c + x = nI (c + k) := by rw [h, nI_add]

def rX7_load (u : Nat → Nat → Int32) : Int32 := ((((((if (u 1 5) ≤ 100 then 0 else ((u 1 5) - 100) / 2) + (u 1 19)) + (u 1 20)) + (u 1 21)) + (u 1 22)) + (u 1 23)) + (u 1 24)
set_option maxHeartbeats 4000000 in
set_option maxRecDepth 100000 in
/-- X7.load -/
theorem c_X7_load (l : Launch) (G : Gp) (b : Nat → Nat) (u : Nat → Nat → Int32) (Y : va_W) : Cn l G yX7_load cX7_load 3 (some .int) 0 [.ref (b 0)] (ModW G b u ++ Y) (some (.int (rX7_load u))) (ModW G b u ++ Y) := by
  refine CnE.of (by decide) (Nat.le_of_ble_eq_true rfl) ?_
  intro p e s m below meth c ls M hnm hl hW
  have hx := M.1
  have hb := M.2.1
  have hl : lv_has ls 3 [(0, .ref (b 0))] := hl
  refine lv_aload_n hx hb dX7_load_0 rfl (lv_at hl 0 rfl) ?_
  refine gt_Mod_0_1 M hW kw_392 dX7_load_1 ?_
  refine lv_iconst (v := 5) hx hb dX7_load_4 (by decide) ?_
  refine al_Mod_1 M hW 5 rfl (by decide) (x := u 1 5) rfl dX7_load_5 ?_
  refine lv_bipush (v := 100) hx hb dX7_load_6 (by decide) ?_
  refine r_cuti (pc2 := 26) (ls2 := ls) (st := []) (if (u 1 5) ≤ 100 then 0 else ((u 1 5) - 100) / 2) (fun x_26 hx_26 => ?_) (fun hJ_26 => ?_)
  · skip
    subst hx_26
    refine lv_istore_n (lv' := [(1, .int (if (u 1 5) ≤ 100 then 0 else ((u 1 5) - 100) / 2)), (0, .ref (b 0))]) hx hb dX7_load_26 rfl hl (by decide) rfl (fun ls hl => ?_)
    refine lv_iconst (v := 1) hx hb dX7_load_27 (by decide) ?_
    refine lv_istore_n (lv' := [(2, .int 1), (1, .int (if (u 1 5) ≤ 100 then 0 else ((u 1 5) - 100) / 2)), (0, .ref (b 0))]) hx hb dX7_load_28 rfl hl (by decide) rfl (fun ls hl => ?_)
    refine lv_iload_n hx hb dX7_load_29 rfl (lv_at hl 0 rfl) ?_
    refine lv_bipush (v := 6) hx hb dX7_load_30 (by decide) ?_
    refine lv_icmp_gt (tgt := 53) hx hb dX7_load_32 (by decide) (fun c_32 => ?_) (fun c_32 => ?_)
    · skip
      exact absurd c_32 (by decide)
    · skip
      refine lv_iload_n hx hb dX7_load_35 rfl (lv_at hl 1 rfl) ?_
      refine lv_aload_n hx hb dX7_load_36 rfl (lv_at hl 2 rfl) ?_
      refine gt_Mod_0_1 M hW kw_392 dX7_load_37 ?_
      refine lv_bipush (v := 18) hx hb dX7_load_40 (by decide) ?_
      refine lv_iload_n hx hb dX7_load_42 rfl (lv_at hl 0 rfl) ?_
      refine lv_iadd hx hb dX7_load_43 ?_
      refine r_top (y := 19) (by decide) ?_
      refine al_Mod_1 M hW 19 rfl (by decide) (x := u 1 19) rfl dX7_load_44 ?_
      refine lv_iadd hx hb dX7_load_45 ?_
      refine lv_istore_n (lv' := [(1, .int ((if (u 1 5) ≤ 100 then 0 else ((u 1 5) - 100) / 2) + (u 1 19))), (2, .int 1), (0, .ref (b 0))]) hx hb dX7_load_46 rfl hl (by decide) rfl (fun ls hl => ?_)
      refine lv_iinc (v := 2) (lv' := [(2, .int 2), (1, .int ((if (u 1 5) ≤ 100 then 0 else ((u 1 5) - 100) / 2) + (u 1 19))), (0, .ref (b 0))]) hx hb dX7_load_47 hl (k := 1) rfl (by decide) (by decide) rfl (fun ls hl => ?_)
      refine lv_goto (tgt := 29) hx hb dX7_load_50 (by decide) ?_
      refine lv_iload_n hx hb dX7_load_29 rfl (lv_at hl 0 rfl) ?_
      refine lv_bipush (v := 6) hx hb dX7_load_30 (by decide) ?_
      refine lv_icmp_gt (tgt := 53) hx hb dX7_load_32 (by decide) (fun c_32_2 => ?_) (fun c_32_2 => ?_)
      · skip
        exact absurd c_32_2 (by decide)
      · skip
        refine lv_iload_n hx hb dX7_load_35 rfl (lv_at hl 1 rfl) ?_
        refine lv_aload_n hx hb dX7_load_36 rfl (lv_at hl 2 rfl) ?_
        refine gt_Mod_0_1 M hW kw_392 dX7_load_37 ?_
        refine lv_bipush (v := 18) hx hb dX7_load_40 (by decide) ?_
        refine lv_iload_n hx hb dX7_load_42 rfl (lv_at hl 0 rfl) ?_
        refine lv_iadd hx hb dX7_load_43 ?_
        refine r_top (y := 20) (by decide) ?_
        refine al_Mod_1 M hW 20 rfl (by decide) (x := u 1 20) rfl dX7_load_44 ?_
        refine lv_iadd hx hb dX7_load_45 ?_
        refine lv_istore_n (lv' := [(1, .int (((if (u 1 5) ≤ 100 then 0 else ((u 1 5) - 100) / 2) + (u 1 19)) + (u 1 20))), (2, .int 2), (0, .ref (b 0))]) hx hb dX7_load_46 rfl hl (by decide) rfl (fun ls hl => ?_)
        refine lv_iinc (v := 3) (lv' := [(2, .int 3), (1, .int (((if (u 1 5) ≤ 100 then 0 else ((u 1 5) - 100) / 2) + (u 1 19)) + (u 1 20))), (0, .ref (b 0))]) hx hb dX7_load_47 hl (k := 1) rfl (by decide) (by decide) rfl (fun ls hl => ?_)
        refine lv_goto (tgt := 29) hx hb dX7_load_50 (by decide) ?_
        refine lv_iload_n hx hb dX7_load_29 rfl (lv_at hl 0 rfl) ?_
        refine lv_bipush (v := 6) hx hb dX7_load_30 (by decide) ?_
        refine lv_icmp_gt (tgt := 53) hx hb dX7_load_32 (by decide) (fun c_32_3 => ?_) (fun c_32_3 => ?_)
        · skip
          exact absurd c_32_3 (by decide)
        · skip
          refine lv_iload_n hx hb dX7_load_35 rfl (lv_at hl 1 rfl) ?_
          refine lv_aload_n hx hb dX7_load_36 rfl (lv_at hl 2 rfl) ?_
          refine gt_Mod_0_1 M hW kw_392 dX7_load_37 ?_
          refine lv_bipush (v := 18) hx hb dX7_load_40 (by decide) ?_
          refine lv_iload_n hx hb dX7_load_42 rfl (lv_at hl 0 rfl) ?_
          refine lv_iadd hx hb dX7_load_43 ?_
          refine r_top (y := 21) (by decide) ?_
          refine al_Mod_1 M hW 21 rfl (by decide) (x := u 1 21) rfl dX7_load_44 ?_
          refine lv_iadd hx hb dX7_load_45 ?_
          refine lv_istore_n (lv' := [(1, .int ((((if (u 1 5) ≤ 100 then 0 else ((u 1 5) - 100) / 2) + (u 1 19)) + (u 1 20)) + (u 1 21))), (2, .int 3), (0, .ref (b 0))]) hx hb dX7_load_46 rfl hl (by decide) rfl (fun ls hl => ?_)
          refine lv_iinc (v := 4) (lv' := [(2, .int 4), (1, .int ((((if (u 1 5) ≤ 100 then 0 else ((u 1 5) - 100) / 2) + (u 1 19)) + (u 1 20)) + (u 1 21))), (0, .ref (b 0))]) hx hb dX7_load_47 hl (k := 1) rfl (by decide) (by decide) rfl (fun ls hl => ?_)
          refine lv_goto (tgt := 29) hx hb dX7_load_50 (by decide) ?_
          refine lv_iload_n hx hb dX7_load_29 rfl (lv_at hl 0 rfl) ?_
          refine lv_bipush (v := 6) hx hb dX7_load_30 (by decide) ?_
          refine lv_icmp_gt (tgt := 53) hx hb dX7_load_32 (by decide) (fun c_32_4 => ?_) (fun c_32_4 => ?_)
          · skip
            exact absurd c_32_4 (by decide)
          · skip
            refine lv_iload_n hx hb dX7_load_35 rfl (lv_at hl 1 rfl) ?_
            refine lv_aload_n hx hb dX7_load_36 rfl (lv_at hl 2 rfl) ?_
            refine gt_Mod_0_1 M hW kw_392 dX7_load_37 ?_
            refine lv_bipush (v := 18) hx hb dX7_load_40 (by decide) ?_
            refine lv_iload_n hx hb dX7_load_42 rfl (lv_at hl 0 rfl) ?_
            refine lv_iadd hx hb dX7_load_43 ?_
            refine r_top (y := 22) (by decide) ?_
            refine al_Mod_1 M hW 22 rfl (by decide) (x := u 1 22) rfl dX7_load_44 ?_
            refine lv_iadd hx hb dX7_load_45 ?_
            refine lv_istore_n (lv' := [(1, .int (((((if (u 1 5) ≤ 100 then 0 else ((u 1 5) - 100) / 2) + (u 1 19)) + (u 1 20)) + (u 1 21)) + (u 1 22))), (2, .int 4), (0, .ref (b 0))]) hx hb dX7_load_46 rfl hl (by decide) rfl (fun ls hl => ?_)
            refine lv_iinc (v := 5) (lv' := [(2, .int 5), (1, .int (((((if (u 1 5) ≤ 100 then 0 else ((u 1 5) - 100) / 2) + (u 1 19)) + (u 1 20)) + (u 1 21)) + (u 1 22))), (0, .ref (b 0))]) hx hb dX7_load_47 hl (k := 1) rfl (by decide) (by decide) rfl (fun ls hl => ?_)
            refine lv_goto (tgt := 29) hx hb dX7_load_50 (by decide) ?_
            refine lv_iload_n hx hb dX7_load_29 rfl (lv_at hl 0 rfl) ?_
            refine lv_bipush (v := 6) hx hb dX7_load_30 (by decide) ?_
            refine lv_icmp_gt (tgt := 53) hx hb dX7_load_32 (by decide) (fun c_32_5 => ?_) (fun c_32_5 => ?_)
            · skip
              exact absurd c_32_5 (by decide)
            · skip
              refine lv_iload_n hx hb dX7_load_35 rfl (lv_at hl 1 rfl) ?_
              refine lv_aload_n hx hb dX7_load_36 rfl (lv_at hl 2 rfl) ?_
              refine gt_Mod_0_1 M hW kw_392 dX7_load_37 ?_
              refine lv_bipush (v := 18) hx hb dX7_load_40 (by decide) ?_
              refine lv_iload_n hx hb dX7_load_42 rfl (lv_at hl 0 rfl) ?_
              refine lv_iadd hx hb dX7_load_43 ?_
              refine r_top (y := 23) (by decide) ?_
              refine al_Mod_1 M hW 23 rfl (by decide) (x := u 1 23) rfl dX7_load_44 ?_
              refine lv_iadd hx hb dX7_load_45 ?_
              refine lv_istore_n (lv' := [(1, .int ((((((if (u 1 5) ≤ 100 then 0 else ((u 1 5) - 100) / 2) + (u 1 19)) + (u 1 20)) + (u 1 21)) + (u 1 22)) + (u 1 23))), (2, .int 5), (0, .ref (b 0))]) hx hb dX7_load_46 rfl hl (by decide) rfl (fun ls hl => ?_)
              refine lv_iinc (v := 6) (lv' := [(2, .int 6), (1, .int ((((((if (u 1 5) ≤ 100 then 0 else ((u 1 5) - 100) / 2) + (u 1 19)) + (u 1 20)) + (u 1 21)) + (u 1 22)) + (u 1 23))), (0, .ref (b 0))]) hx hb dX7_load_47 hl (k := 1) rfl (by decide) (by decide) rfl (fun ls hl => ?_)
              refine lv_goto (tgt := 29) hx hb dX7_load_50 (by decide) ?_
              refine lv_iload_n hx hb dX7_load_29 rfl (lv_at hl 0 rfl) ?_
              refine lv_bipush (v := 6) hx hb dX7_load_30 (by decide) ?_
              refine lv_icmp_gt (tgt := 53) hx hb dX7_load_32 (by decide) (fun c_32_6 => ?_) (fun c_32_6 => ?_)
              · skip
                exact absurd c_32_6 (by decide)
              · skip
                refine lv_iload_n hx hb dX7_load_35 rfl (lv_at hl 1 rfl) ?_
                refine lv_aload_n hx hb dX7_load_36 rfl (lv_at hl 2 rfl) ?_
                refine gt_Mod_0_1 M hW kw_392 dX7_load_37 ?_
                refine lv_bipush (v := 18) hx hb dX7_load_40 (by decide) ?_
                refine lv_iload_n hx hb dX7_load_42 rfl (lv_at hl 0 rfl) ?_
                refine lv_iadd hx hb dX7_load_43 ?_
                refine r_top (y := 24) (by decide) ?_
                refine al_Mod_1 M hW 24 rfl (by decide) (x := u 1 24) rfl dX7_load_44 ?_
                refine lv_iadd hx hb dX7_load_45 ?_
                refine lv_istore_n (lv' := [(1, .int (((((((if (u 1 5) ≤ 100 then 0 else ((u 1 5) - 100) / 2) + (u 1 19)) + (u 1 20)) + (u 1 21)) + (u 1 22)) + (u 1 23)) + (u 1 24))), (2, .int 6), (0, .ref (b 0))]) hx hb dX7_load_46 rfl hl (by decide) rfl (fun ls hl => ?_)
                refine lv_iinc (v := 7) (lv' := [(2, .int 7), (1, .int (((((((if (u 1 5) ≤ 100 then 0 else ((u 1 5) - 100) / 2) + (u 1 19)) + (u 1 20)) + (u 1 21)) + (u 1 22)) + (u 1 23)) + (u 1 24))), (0, .ref (b 0))]) hx hb dX7_load_47 hl (k := 1) rfl (by decide) (by decide) rfl (fun ls hl => ?_)
                refine lv_goto (tgt := 29) hx hb dX7_load_50 (by decide) ?_
                refine lv_iload_n hx hb dX7_load_29 rfl (lv_at hl 0 rfl) ?_
                refine lv_bipush (v := 6) hx hb dX7_load_30 (by decide) ?_
                refine lv_icmp_gt (tgt := 53) hx hb dX7_load_32 (by decide) (fun c_32_7 => ?_) (fun c_32_7 => ?_)
                · skip
                  refine lv_iload_n hx hb dX7_load_53 rfl (lv_at hl 1 rfl) ?_
                  exact r_reti M hW rfl ⟨by rw [rX7_load], rfl⟩ (Nat.zero_le _) (Nat.zero_le _) dX7_load_54
                · skip
                  exact absurd c_32_7 (by decide)
  · skip
    refine lv_icmp_le (tgt := 25) hx hb dX7_load_8 (by decide) (fun c_8 => ?_) (fun c_8 => ?_)
    · skip
      refine lv_iconst (v := 0) hx hb dX7_load_25 (by decide) ?_
      exact hJ_26 _ (by rw [if_pos c_8])
    · skip
      refine lv_aload_n hx hb dX7_load_11 rfl (lv_at hl 0 rfl) ?_
      refine gt_Mod_0_1 M hW kw_392 dX7_load_12 ?_
      refine lv_iconst (v := 5) hx hb dX7_load_15 (by decide) ?_
      refine al_Mod_1 M hW 5 rfl (by decide) (x := u 1 5) rfl dX7_load_16 ?_
      refine lv_bipush (v := 100) hx hb dX7_load_17 (by decide) ?_
      refine lv_isub hx hb dX7_load_19 ?_
      refine lv_iconst (v := 2) hx hb dX7_load_20 (by decide) ?_
      refine lv_idiv hx hb dX7_load_21 (by decide) ?_
      refine lv_goto (tgt := 26) hx hb dX7_load_22 (by decide) ?_
      exact hJ_26 _ (by rw [if_neg c_8])

def sX7_comes (u : Nat → Nat → Int32) (x : Int32) : Nat → Nat → Int32 := up2 (up2 u 1 5 ((u 1 5) + (if (300 - (u 1 5)) ≤ x then 300 - (u 1 5) else x))) 1 7 ((u 1 7) + (if (300 - (u 1 5)) ≤ x then x - (300 - (u 1 5)) else 0))
set_option maxHeartbeats 4000000 in
set_option maxRecDepth 100000 in
/-- X7.comes -/
theorem c_X7_comes (l : Launch) (G : Gp) (b : Nat → Nat) (u : Nat → Nat → Int32) (x : Int32) (Y : va_W) : Cn l G yX7_comes cX7_comes 3 none 0 [.ref (b 0), .int x] (ModW G b u ++ Y) none (ModW G b (sX7_comes u x) ++ Y) := by
  refine CnE.of (by decide) (Nat.le_of_ble_eq_true rfl) ?_
  intro p e s m below meth c ls M hnm hl hW
  have hx := M.1
  have hb := M.2.1
  have hl : lv_has ls 3 [(0, .ref (b 0)), (1, .int x)] := hl
  refine lv_sipush (v := 300) hx hb dX7_comes_0 (by decide) ?_
  refine lv_aload_n hx hb dX7_comes_3 rfl (lv_at hl 0 rfl) ?_
  refine gt_Mod_0_1 M hW kw_392 dX7_comes_4 ?_
  refine lv_iconst (v := 5) hx hb dX7_comes_7 (by decide) ?_
  refine al_Mod_1 M hW 5 rfl (by decide) (x := u 1 5) rfl dX7_comes_8 ?_
  refine lv_isub hx hb dX7_comes_9 ?_
  refine lv_istore_n (lv' := [(2, .int (300 - (u 1 5))), (0, .ref (b 0)), (1, .int x)]) hx hb dX7_comes_10 rfl hl (by decide) rfl (fun ls hl => ?_)
  refine lv_aload_n hx hb dX7_comes_11 rfl (lv_at hl 1 rfl) ?_
  refine gt_Mod_0_1 M hW kw_392 dX7_comes_12 ?_
  refine lv_iconst (v := 5) hx hb dX7_comes_15 (by decide) ?_
  refine lv_dup2_11 hx hb dX7_comes_16 rfl rfl ?_
  refine al_Mod_1 M hW 5 rfl (by decide) (x := u 1 5) rfl dX7_comes_17 ?_
  refine lv_iload_n hx hb dX7_comes_18 rfl (lv_at hl 2 rfl) ?_
  refine lv_iload_n hx hb dX7_comes_19 rfl (lv_at hl 0 rfl) ?_
  refine r_cuti (pc2 := 28) (ls2 := ls) (st := [.int (u 1 5), .int 5, .ref (b 1)]) (if (300 - (u 1 5)) ≤ x then 300 - (u 1 5) else x) (fun x_28 hx_28 => ?_) (fun hJ_28 => ?_)
  · skip
    subst hx_28
    refine lv_iadd hx hb dX7_comes_28 ?_
    refine as_Mod_1 M hW 5 rfl (by decide) dX7_comes_29 (fun H locs hW => ?_)
    refine lv_aload_n hx hb dX7_comes_30 rfl (lv_at hl 1 rfl) ?_
    refine gt_Mod_0_1 M hW kw_392 dX7_comes_31 ?_
    refine lv_bipush (v := 7) hx hb dX7_comes_34 (by decide) ?_
    refine lv_dup2_11 hx hb dX7_comes_36 rfl rfl ?_
    refine al_Mod_1 M hW 7 rfl (by decide) (x := u 1 7) (up2_k (by decide)) dX7_comes_37 ?_
    refine lv_iload_n hx hb dX7_comes_38 rfl (lv_at hl 2 rfl) ?_
    refine lv_iload_n hx hb dX7_comes_39 rfl (lv_at hl 0 rfl) ?_
    refine r_cuti (pc2 := 50) (ls2 := ls) (st := [.int (u 1 7), .int 7, .ref (b 1)]) (if (300 - (u 1 5)) ≤ x then x - (300 - (u 1 5)) else 0) (fun x_50 hx_50 => ?_) (fun hJ_50 => ?_)
    · skip
      subst hx_50
      refine lv_iadd hx hb dX7_comes_50 ?_
      refine as_Mod_1 M hW 7 rfl (by decide) dX7_comes_51 (fun H locs hW => ?_)
      exact r_retv M hW (by rw [sX7_comes]) ⟨rfl, rfl⟩ (Nat.zero_le _) (Nat.zero_le _) dX7_comes_52
    · skip
      refine lv_icmp_ge (tgt := 47) hx hb dX7_comes_40 (by decide) (fun c_40 => ?_) (fun c_40 => ?_)
      · skip
        refine lv_iload_n hx hb dX7_comes_47 rfl (lv_at hl 2 rfl) ?_
        refine lv_iload_n hx hb dX7_comes_48 rfl (lv_at hl 0 rfl) ?_
        refine lv_isub hx hb dX7_comes_49 ?_
        exact hJ_50 _ (by rw [if_pos c_40])
      · skip
        refine lv_iconst (v := 0) hx hb dX7_comes_43 (by decide) ?_
        refine lv_goto (tgt := 50) hx hb dX7_comes_44 (by decide) ?_
        exact hJ_50 _ (by rw [if_neg c_40])
  · skip
    refine lv_icmp_ge (tgt := 27) hx hb dX7_comes_20 (by decide) (fun c_20 => ?_) (fun c_20 => ?_)
    · skip
      refine lv_iload_n hx hb dX7_comes_27 rfl (lv_at hl 0 rfl) ?_
      exact hJ_28 _ (by rw [if_pos c_20])
    · skip
      refine lv_iload_n hx hb dX7_comes_23 rfl (lv_at hl 2 rfl) ?_
      refine lv_goto (tgt := 28) hx hb dX7_comes_24 (by decide) ?_
      exact hJ_28 _ (by rw [if_neg c_20])

def movesA (u : Nat → Nat → Int32) : Nat → Nat → Int32 := up2 (up2 (up2 (up2 (up2 (up2 (up2 (up2 (up2 (up2 (up2 (up2 (up2 (up2 (up2 u 1 29 (u 1 28)) 1 28 (u 1 27)) 1 27 (u 1 26)) 1 26 (u 1 25)) 1 25 (u 1 24)) 1 24 (u 1 23)) 1 23 (u 1 22)) 1 22 (u 1 21)) 1 21 (u 1 20)) 1 20 (u 1 19)) 1 19 (u 1 18)) 1 18 (u 1 29)) 1 24 0) 1 6 ((u 1 6) + ((u 1 23) - (movesF u)))) 1 10 ((u 1 10) + (movesF u))
def movesB (u : Nat → Nat → Int32) : Nat → Nat → Int32 := sX7_comes (movesA u) (movesF u)
def sX7_moves (u : Nat → Nat → Int32) : Nat → Nat → Int32 := up2 (up2 (movesB u) 1 18 (((movesB u) 1 18) + (if 0 ≤ (((movesB u) 1 3) - ((movesB u) 1 18)) then (if ((movesB u) 1 5) ≤ (((movesB u) 1 3) - ((movesB u) 1 18)) then (movesB u) 1 5 else ((movesB u) 1 3) - ((movesB u) 1 18)) else 0))) 1 5 (((movesB u) 1 5) - (if 0 ≤ (((movesB u) 1 3) - ((movesB u) 1 18)) then (if ((movesB u) 1 5) ≤ (((movesB u) 1 3) - ((movesB u) 1 18)) then (movesB u) 1 5 else ((movesB u) 1 3) - ((movesB u) 1 18)) else 0))
set_option maxHeartbeats 4000000 in
set_option maxRecDepth 100000 in
/-- X7.moves -/
theorem c_X7_moves (l : Launch) (G : Gp) (b : Nat → Nat) (u : Nat → Nat → Int32) (Y : va_W) : Cn l G yX7_moves cX7_moves 6 none 1 [.ref (b 0)] (ModW G b u ++ Y) none (ModW G b (sX7_moves u) ++ Y) := by
  refine CnE.of (by decide) (Nat.le_of_ble_eq_true rfl) ?_
  intro p e s m below meth c ls M hnm hl hW
  have hx := M.1
  have hb := M.2.1
  have hl : lv_has ls 6 [(0, .ref (b 0))] := hl
  refine lv_aload_n hx hb dX7_moves_0 rfl (lv_at hl 0 rfl) ?_
  refine gt_Mod_0_1 M hW kw_392 dX7_moves_1 ?_
  refine lv_bipush (v := 29) hx hb dX7_moves_4 (by decide) ?_
  refine al_Mod_1 M hW 29 rfl (by decide) (x := u 1 29) rfl dX7_moves_6 ?_
  refine lv_istore_n (lv' := [(1, .int (u 1 29)), (0, .ref (b 0))]) hx hb dX7_moves_7 rfl hl (by decide) rfl (fun ls hl => ?_)
  refine lv_bipush (v := 11) hx hb dX7_moves_8 (by decide) ?_
  refine lv_istore_n (lv' := [(2, .int 11), (1, .int (u 1 29)), (0, .ref (b 0))]) hx hb dX7_moves_10 rfl hl (by decide) rfl (fun ls hl => ?_)
  refine lv_iload_n hx hb dX7_moves_11 rfl (lv_at hl 0 rfl) ?_
  refine lv_if_le (tgt := 41) hx hb dX7_moves_12 (by decide) (fun c_12 => ?_) (fun c_12 => ?_)
  · skip
    exact absurd c_12 (by decide)
  · skip
    refine lv_aload_n hx hb dX7_moves_15 rfl (lv_at hl 2 rfl) ?_
    refine gt_Mod_0_1 M hW kw_392 dX7_moves_16 ?_
    refine lv_bipush (v := 18) hx hb dX7_moves_19 (by decide) ?_
    refine lv_iload_n hx hb dX7_moves_21 rfl (lv_at hl 0 rfl) ?_
    refine lv_iadd hx hb dX7_moves_22 ?_
    refine r_top (y := 29) (by decide) ?_
    refine lv_aload_n hx hb dX7_moves_23 rfl (lv_at hl 2 rfl) ?_
    refine gt_Mod_0_1 M hW kw_392 dX7_moves_24 ?_
    refine lv_bipush (v := 18) hx hb dX7_moves_27 (by decide) ?_
    refine lv_iload_n hx hb dX7_moves_29 rfl (lv_at hl 0 rfl) ?_
    refine lv_iadd hx hb dX7_moves_30 ?_
    refine r_top (y := 29) (by decide) ?_
    refine lv_iconst (v := 1) hx hb dX7_moves_31 (by decide) ?_
    refine lv_isub hx hb dX7_moves_32 ?_
    refine r_top (y := 28) (by decide) ?_
    refine al_Mod_1 M hW 28 rfl (by decide) (x := u 1 28) rfl dX7_moves_33 ?_
    refine as_Mod_1 M hW 29 rfl (by decide) dX7_moves_34 (fun H locs hW => ?_)
    refine lv_iinc (v := 10) (lv' := [(2, .int 10), (1, .int (u 1 29)), (0, .ref (b 0))]) hx hb dX7_moves_35 hl (k := 0) rfl (by decide) (by decide) rfl (fun ls hl => ?_)
    refine lv_goto (tgt := 11) hx hb dX7_moves_38 (by decide) ?_
    refine lv_iload_n hx hb dX7_moves_11 rfl (lv_at hl 0 rfl) ?_
    refine lv_if_le (tgt := 41) hx hb dX7_moves_12 (by decide) (fun c_12_2 => ?_) (fun c_12_2 => ?_)
    · skip
      exact absurd c_12_2 (by decide)
    · skip
      refine lv_aload_n hx hb dX7_moves_15 rfl (lv_at hl 2 rfl) ?_
      refine gt_Mod_0_1 M hW kw_392 dX7_moves_16 ?_
      refine lv_bipush (v := 18) hx hb dX7_moves_19 (by decide) ?_
      refine lv_iload_n hx hb dX7_moves_21 rfl (lv_at hl 0 rfl) ?_
      refine lv_iadd hx hb dX7_moves_22 ?_
      refine r_top (y := 28) (by decide) ?_
      refine lv_aload_n hx hb dX7_moves_23 rfl (lv_at hl 2 rfl) ?_
      refine gt_Mod_0_1 M hW kw_392 dX7_moves_24 ?_
      refine lv_bipush (v := 18) hx hb dX7_moves_27 (by decide) ?_
      refine lv_iload_n hx hb dX7_moves_29 rfl (lv_at hl 0 rfl) ?_
      refine lv_iadd hx hb dX7_moves_30 ?_
      refine r_top (y := 28) (by decide) ?_
      refine lv_iconst (v := 1) hx hb dX7_moves_31 (by decide) ?_
      refine lv_isub hx hb dX7_moves_32 ?_
      refine r_top (y := 27) (by decide) ?_
      refine al_Mod_1 M hW 27 rfl (by decide) (x := u 1 27) (up2_k (by decide)) dX7_moves_33 ?_
      refine as_Mod_1 M hW 28 rfl (by decide) dX7_moves_34 (fun H locs hW => ?_)
      refine lv_iinc (v := 9) (lv' := [(2, .int 9), (1, .int (u 1 29)), (0, .ref (b 0))]) hx hb dX7_moves_35 hl (k := 0) rfl (by decide) (by decide) rfl (fun ls hl => ?_)
      refine lv_goto (tgt := 11) hx hb dX7_moves_38 (by decide) ?_
      refine lv_iload_n hx hb dX7_moves_11 rfl (lv_at hl 0 rfl) ?_
      refine lv_if_le (tgt := 41) hx hb dX7_moves_12 (by decide) (fun c_12_3 => ?_) (fun c_12_3 => ?_)
      · skip
        exact absurd c_12_3 (by decide)
      · skip
        refine lv_aload_n hx hb dX7_moves_15 rfl (lv_at hl 2 rfl) ?_
        refine gt_Mod_0_1 M hW kw_392 dX7_moves_16 ?_
        refine lv_bipush (v := 18) hx hb dX7_moves_19 (by decide) ?_
        refine lv_iload_n hx hb dX7_moves_21 rfl (lv_at hl 0 rfl) ?_
        refine lv_iadd hx hb dX7_moves_22 ?_
        refine r_top (y := 27) (by decide) ?_
        refine lv_aload_n hx hb dX7_moves_23 rfl (lv_at hl 2 rfl) ?_
        refine gt_Mod_0_1 M hW kw_392 dX7_moves_24 ?_
        refine lv_bipush (v := 18) hx hb dX7_moves_27 (by decide) ?_
        refine lv_iload_n hx hb dX7_moves_29 rfl (lv_at hl 0 rfl) ?_
        refine lv_iadd hx hb dX7_moves_30 ?_
        refine r_top (y := 27) (by decide) ?_
        refine lv_iconst (v := 1) hx hb dX7_moves_31 (by decide) ?_
        refine lv_isub hx hb dX7_moves_32 ?_
        refine r_top (y := 26) (by decide) ?_
        refine al_Mod_1 M hW 26 rfl (by decide) (x := u 1 26) ((up2_k (by decide)).trans (up2_k (by decide))) dX7_moves_33 ?_
        refine as_Mod_1 M hW 27 rfl (by decide) dX7_moves_34 (fun H locs hW => ?_)
        refine lv_iinc (v := 8) (lv' := [(2, .int 8), (1, .int (u 1 29)), (0, .ref (b 0))]) hx hb dX7_moves_35 hl (k := 0) rfl (by decide) (by decide) rfl (fun ls hl => ?_)
        refine lv_goto (tgt := 11) hx hb dX7_moves_38 (by decide) ?_
        refine lv_iload_n hx hb dX7_moves_11 rfl (lv_at hl 0 rfl) ?_
        refine lv_if_le (tgt := 41) hx hb dX7_moves_12 (by decide) (fun c_12_4 => ?_) (fun c_12_4 => ?_)
        · skip
          exact absurd c_12_4 (by decide)
        · skip
          refine lv_aload_n hx hb dX7_moves_15 rfl (lv_at hl 2 rfl) ?_
          refine gt_Mod_0_1 M hW kw_392 dX7_moves_16 ?_
          refine lv_bipush (v := 18) hx hb dX7_moves_19 (by decide) ?_
          refine lv_iload_n hx hb dX7_moves_21 rfl (lv_at hl 0 rfl) ?_
          refine lv_iadd hx hb dX7_moves_22 ?_
          refine r_top (y := 26) (by decide) ?_
          refine lv_aload_n hx hb dX7_moves_23 rfl (lv_at hl 2 rfl) ?_
          refine gt_Mod_0_1 M hW kw_392 dX7_moves_24 ?_
          refine lv_bipush (v := 18) hx hb dX7_moves_27 (by decide) ?_
          refine lv_iload_n hx hb dX7_moves_29 rfl (lv_at hl 0 rfl) ?_
          refine lv_iadd hx hb dX7_moves_30 ?_
          refine r_top (y := 26) (by decide) ?_
          refine lv_iconst (v := 1) hx hb dX7_moves_31 (by decide) ?_
          refine lv_isub hx hb dX7_moves_32 ?_
          refine r_top (y := 25) (by decide) ?_
          refine al_Mod_1 M hW 25 rfl (by decide) (x := u 1 25) ((up2_k (by decide)).trans ((up2_k (by decide)).trans (up2_k (by decide)))) dX7_moves_33 ?_
          refine as_Mod_1 M hW 26 rfl (by decide) dX7_moves_34 (fun H locs hW => ?_)
          refine lv_iinc (v := 7) (lv' := [(2, .int 7), (1, .int (u 1 29)), (0, .ref (b 0))]) hx hb dX7_moves_35 hl (k := 0) rfl (by decide) (by decide) rfl (fun ls hl => ?_)
          refine lv_goto (tgt := 11) hx hb dX7_moves_38 (by decide) ?_
          refine lv_iload_n hx hb dX7_moves_11 rfl (lv_at hl 0 rfl) ?_
          refine lv_if_le (tgt := 41) hx hb dX7_moves_12 (by decide) (fun c_12_5 => ?_) (fun c_12_5 => ?_)
          · skip
            exact absurd c_12_5 (by decide)
          · skip
            refine lv_aload_n hx hb dX7_moves_15 rfl (lv_at hl 2 rfl) ?_
            refine gt_Mod_0_1 M hW kw_392 dX7_moves_16 ?_
            refine lv_bipush (v := 18) hx hb dX7_moves_19 (by decide) ?_
            refine lv_iload_n hx hb dX7_moves_21 rfl (lv_at hl 0 rfl) ?_
            refine lv_iadd hx hb dX7_moves_22 ?_
            refine r_top (y := 25) (by decide) ?_
            refine lv_aload_n hx hb dX7_moves_23 rfl (lv_at hl 2 rfl) ?_
            refine gt_Mod_0_1 M hW kw_392 dX7_moves_24 ?_
            refine lv_bipush (v := 18) hx hb dX7_moves_27 (by decide) ?_
            refine lv_iload_n hx hb dX7_moves_29 rfl (lv_at hl 0 rfl) ?_
            refine lv_iadd hx hb dX7_moves_30 ?_
            refine r_top (y := 25) (by decide) ?_
            refine lv_iconst (v := 1) hx hb dX7_moves_31 (by decide) ?_
            refine lv_isub hx hb dX7_moves_32 ?_
            refine r_top (y := 24) (by decide) ?_
            refine al_Mod_1 M hW 24 rfl (by decide) (x := u 1 24) ((up2_k (by decide)).trans ((up2_k (by decide)).trans ((up2_k (by decide)).trans (up2_k (by decide))))) dX7_moves_33 ?_
            refine as_Mod_1 M hW 25 rfl (by decide) dX7_moves_34 (fun H locs hW => ?_)
            refine lv_iinc (v := 6) (lv' := [(2, .int 6), (1, .int (u 1 29)), (0, .ref (b 0))]) hx hb dX7_moves_35 hl (k := 0) rfl (by decide) (by decide) rfl (fun ls hl => ?_)
            refine lv_goto (tgt := 11) hx hb dX7_moves_38 (by decide) ?_
            refine lv_iload_n hx hb dX7_moves_11 rfl (lv_at hl 0 rfl) ?_
            refine lv_if_le (tgt := 41) hx hb dX7_moves_12 (by decide) (fun c_12_6 => ?_) (fun c_12_6 => ?_)
            · skip
              exact absurd c_12_6 (by decide)
            · skip
              refine lv_aload_n hx hb dX7_moves_15 rfl (lv_at hl 2 rfl) ?_
              refine gt_Mod_0_1 M hW kw_392 dX7_moves_16 ?_
              refine lv_bipush (v := 18) hx hb dX7_moves_19 (by decide) ?_
              refine lv_iload_n hx hb dX7_moves_21 rfl (lv_at hl 0 rfl) ?_
              refine lv_iadd hx hb dX7_moves_22 ?_
              refine r_top (y := 24) (by decide) ?_
              refine lv_aload_n hx hb dX7_moves_23 rfl (lv_at hl 2 rfl) ?_
              refine gt_Mod_0_1 M hW kw_392 dX7_moves_24 ?_
              refine lv_bipush (v := 18) hx hb dX7_moves_27 (by decide) ?_
              refine lv_iload_n hx hb dX7_moves_29 rfl (lv_at hl 0 rfl) ?_
              refine lv_iadd hx hb dX7_moves_30 ?_
              refine r_top (y := 24) (by decide) ?_
              refine lv_iconst (v := 1) hx hb dX7_moves_31 (by decide) ?_
              refine lv_isub hx hb dX7_moves_32 ?_
              refine r_top (y := 23) (by decide) ?_
              refine al_Mod_1 M hW 23 rfl (by decide) (x := u 1 23) ((up2_k (by decide)).trans ((up2_k (by decide)).trans ((up2_k (by decide)).trans ((up2_k (by decide)).trans (up2_k (by decide)))))) dX7_moves_33 ?_
              refine as_Mod_1 M hW 24 rfl (by decide) dX7_moves_34 (fun H locs hW => ?_)
              refine lv_iinc (v := 5) (lv' := [(2, .int 5), (1, .int (u 1 29)), (0, .ref (b 0))]) hx hb dX7_moves_35 hl (k := 0) rfl (by decide) (by decide) rfl (fun ls hl => ?_)
              refine lv_goto (tgt := 11) hx hb dX7_moves_38 (by decide) ?_
              refine lv_iload_n hx hb dX7_moves_11 rfl (lv_at hl 0 rfl) ?_
              refine lv_if_le (tgt := 41) hx hb dX7_moves_12 (by decide) (fun c_12_7 => ?_) (fun c_12_7 => ?_)
              · skip
                exact absurd c_12_7 (by decide)
              · skip
                refine lv_aload_n hx hb dX7_moves_15 rfl (lv_at hl 2 rfl) ?_
                refine gt_Mod_0_1 M hW kw_392 dX7_moves_16 ?_
                refine lv_bipush (v := 18) hx hb dX7_moves_19 (by decide) ?_
                refine lv_iload_n hx hb dX7_moves_21 rfl (lv_at hl 0 rfl) ?_
                refine lv_iadd hx hb dX7_moves_22 ?_
                refine r_top (y := 23) (by decide) ?_
                refine lv_aload_n hx hb dX7_moves_23 rfl (lv_at hl 2 rfl) ?_
                refine gt_Mod_0_1 M hW kw_392 dX7_moves_24 ?_
                refine lv_bipush (v := 18) hx hb dX7_moves_27 (by decide) ?_
                refine lv_iload_n hx hb dX7_moves_29 rfl (lv_at hl 0 rfl) ?_
                refine lv_iadd hx hb dX7_moves_30 ?_
                refine r_top (y := 23) (by decide) ?_
                refine lv_iconst (v := 1) hx hb dX7_moves_31 (by decide) ?_
                refine lv_isub hx hb dX7_moves_32 ?_
                refine r_top (y := 22) (by decide) ?_
                refine al_Mod_1 M hW 22 rfl (by decide) (x := u 1 22) ((up2_k (by decide)).trans ((up2_k (by decide)).trans ((up2_k (by decide)).trans ((up2_k (by decide)).trans ((up2_k (by decide)).trans (up2_k (by decide))))))) dX7_moves_33 ?_
                refine as_Mod_1 M hW 23 rfl (by decide) dX7_moves_34 (fun H locs hW => ?_)
                refine lv_iinc (v := 4) (lv' := [(2, .int 4), (1, .int (u 1 29)), (0, .ref (b 0))]) hx hb dX7_moves_35 hl (k := 0) rfl (by decide) (by decide) rfl (fun ls hl => ?_)
                refine lv_goto (tgt := 11) hx hb dX7_moves_38 (by decide) ?_
                refine lv_iload_n hx hb dX7_moves_11 rfl (lv_at hl 0 rfl) ?_
                refine lv_if_le (tgt := 41) hx hb dX7_moves_12 (by decide) (fun c_12_8 => ?_) (fun c_12_8 => ?_)
                · skip
                  exact absurd c_12_8 (by decide)
                · skip
                  refine lv_aload_n hx hb dX7_moves_15 rfl (lv_at hl 2 rfl) ?_
                  refine gt_Mod_0_1 M hW kw_392 dX7_moves_16 ?_
                  refine lv_bipush (v := 18) hx hb dX7_moves_19 (by decide) ?_
                  refine lv_iload_n hx hb dX7_moves_21 rfl (lv_at hl 0 rfl) ?_
                  refine lv_iadd hx hb dX7_moves_22 ?_
                  refine r_top (y := 22) (by decide) ?_
                  refine lv_aload_n hx hb dX7_moves_23 rfl (lv_at hl 2 rfl) ?_
                  refine gt_Mod_0_1 M hW kw_392 dX7_moves_24 ?_
                  refine lv_bipush (v := 18) hx hb dX7_moves_27 (by decide) ?_
                  refine lv_iload_n hx hb dX7_moves_29 rfl (lv_at hl 0 rfl) ?_
                  refine lv_iadd hx hb dX7_moves_30 ?_
                  refine r_top (y := 22) (by decide) ?_
                  refine lv_iconst (v := 1) hx hb dX7_moves_31 (by decide) ?_
                  refine lv_isub hx hb dX7_moves_32 ?_
                  refine r_top (y := 21) (by decide) ?_
                  refine al_Mod_1 M hW 21 rfl (by decide) (x := u 1 21) ((up2_k (by decide)).trans ((up2_k (by decide)).trans ((up2_k (by decide)).trans ((up2_k (by decide)).trans ((up2_k (by decide)).trans ((up2_k (by decide)).trans (up2_k (by decide)))))))) dX7_moves_33 ?_
                  refine as_Mod_1 M hW 22 rfl (by decide) dX7_moves_34 (fun H locs hW => ?_)
                  refine lv_iinc (v := 3) (lv' := [(2, .int 3), (1, .int (u 1 29)), (0, .ref (b 0))]) hx hb dX7_moves_35 hl (k := 0) rfl (by decide) (by decide) rfl (fun ls hl => ?_)
                  refine lv_goto (tgt := 11) hx hb dX7_moves_38 (by decide) ?_
                  refine lv_iload_n hx hb dX7_moves_11 rfl (lv_at hl 0 rfl) ?_
                  refine lv_if_le (tgt := 41) hx hb dX7_moves_12 (by decide) (fun c_12_9 => ?_) (fun c_12_9 => ?_)
                  · skip
                    exact absurd c_12_9 (by decide)
                  · skip
                    refine lv_aload_n hx hb dX7_moves_15 rfl (lv_at hl 2 rfl) ?_
                    refine gt_Mod_0_1 M hW kw_392 dX7_moves_16 ?_
                    refine lv_bipush (v := 18) hx hb dX7_moves_19 (by decide) ?_
                    refine lv_iload_n hx hb dX7_moves_21 rfl (lv_at hl 0 rfl) ?_
                    refine lv_iadd hx hb dX7_moves_22 ?_
                    refine r_top (y := 21) (by decide) ?_
                    refine lv_aload_n hx hb dX7_moves_23 rfl (lv_at hl 2 rfl) ?_
                    refine gt_Mod_0_1 M hW kw_392 dX7_moves_24 ?_
                    refine lv_bipush (v := 18) hx hb dX7_moves_27 (by decide) ?_
                    refine lv_iload_n hx hb dX7_moves_29 rfl (lv_at hl 0 rfl) ?_
                    refine lv_iadd hx hb dX7_moves_30 ?_
                    refine r_top (y := 21) (by decide) ?_
                    refine lv_iconst (v := 1) hx hb dX7_moves_31 (by decide) ?_
                    refine lv_isub hx hb dX7_moves_32 ?_
                    refine r_top (y := 20) (by decide) ?_
                    refine al_Mod_1 M hW 20 rfl (by decide) (x := u 1 20) ((up2_k (by decide)).trans ((up2_k (by decide)).trans ((up2_k (by decide)).trans ((up2_k (by decide)).trans ((up2_k (by decide)).trans ((up2_k (by decide)).trans ((up2_k (by decide)).trans (up2_k (by decide))))))))) dX7_moves_33 ?_
                    refine as_Mod_1 M hW 21 rfl (by decide) dX7_moves_34 (fun H locs hW => ?_)
                    refine lv_iinc (v := 2) (lv' := [(2, .int 2), (1, .int (u 1 29)), (0, .ref (b 0))]) hx hb dX7_moves_35 hl (k := 0) rfl (by decide) (by decide) rfl (fun ls hl => ?_)
                    refine lv_goto (tgt := 11) hx hb dX7_moves_38 (by decide) ?_
                    refine lv_iload_n hx hb dX7_moves_11 rfl (lv_at hl 0 rfl) ?_
                    refine lv_if_le (tgt := 41) hx hb dX7_moves_12 (by decide) (fun c_12_10 => ?_) (fun c_12_10 => ?_)
                    · skip
                      exact absurd c_12_10 (by decide)
                    · skip
                      refine lv_aload_n hx hb dX7_moves_15 rfl (lv_at hl 2 rfl) ?_
                      refine gt_Mod_0_1 M hW kw_392 dX7_moves_16 ?_
                      refine lv_bipush (v := 18) hx hb dX7_moves_19 (by decide) ?_
                      refine lv_iload_n hx hb dX7_moves_21 rfl (lv_at hl 0 rfl) ?_
                      refine lv_iadd hx hb dX7_moves_22 ?_
                      refine r_top (y := 20) (by decide) ?_
                      refine lv_aload_n hx hb dX7_moves_23 rfl (lv_at hl 2 rfl) ?_
                      refine gt_Mod_0_1 M hW kw_392 dX7_moves_24 ?_
                      refine lv_bipush (v := 18) hx hb dX7_moves_27 (by decide) ?_
                      refine lv_iload_n hx hb dX7_moves_29 rfl (lv_at hl 0 rfl) ?_
                      refine lv_iadd hx hb dX7_moves_30 ?_
                      refine r_top (y := 20) (by decide) ?_
                      refine lv_iconst (v := 1) hx hb dX7_moves_31 (by decide) ?_
                      refine lv_isub hx hb dX7_moves_32 ?_
                      refine r_top (y := 19) (by decide) ?_
                      refine al_Mod_1 M hW 19 rfl (by decide) (x := u 1 19) ((up2_k (by decide)).trans ((up2_k (by decide)).trans ((up2_k (by decide)).trans ((up2_k (by decide)).trans ((up2_k (by decide)).trans ((up2_k (by decide)).trans ((up2_k (by decide)).trans ((up2_k (by decide)).trans (up2_k (by decide)))))))))) dX7_moves_33 ?_
                      refine as_Mod_1 M hW 20 rfl (by decide) dX7_moves_34 (fun H locs hW => ?_)
                      refine lv_iinc (v := 1) (lv' := [(2, .int 1), (1, .int (u 1 29)), (0, .ref (b 0))]) hx hb dX7_moves_35 hl (k := 0) rfl (by decide) (by decide) rfl (fun ls hl => ?_)
                      refine lv_goto (tgt := 11) hx hb dX7_moves_38 (by decide) ?_
                      refine lv_iload_n hx hb dX7_moves_11 rfl (lv_at hl 0 rfl) ?_
                      refine lv_if_le (tgt := 41) hx hb dX7_moves_12 (by decide) (fun c_12_11 => ?_) (fun c_12_11 => ?_)
                      · skip
                        exact absurd c_12_11 (by decide)
                      · skip
                        refine lv_aload_n hx hb dX7_moves_15 rfl (lv_at hl 2 rfl) ?_
                        refine gt_Mod_0_1 M hW kw_392 dX7_moves_16 ?_
                        refine lv_bipush (v := 18) hx hb dX7_moves_19 (by decide) ?_
                        refine lv_iload_n hx hb dX7_moves_21 rfl (lv_at hl 0 rfl) ?_
                        refine lv_iadd hx hb dX7_moves_22 ?_
                        refine r_top (y := 19) (by decide) ?_
                        refine lv_aload_n hx hb dX7_moves_23 rfl (lv_at hl 2 rfl) ?_
                        refine gt_Mod_0_1 M hW kw_392 dX7_moves_24 ?_
                        refine lv_bipush (v := 18) hx hb dX7_moves_27 (by decide) ?_
                        refine lv_iload_n hx hb dX7_moves_29 rfl (lv_at hl 0 rfl) ?_
                        refine lv_iadd hx hb dX7_moves_30 ?_
                        refine r_top (y := 19) (by decide) ?_
                        refine lv_iconst (v := 1) hx hb dX7_moves_31 (by decide) ?_
                        refine lv_isub hx hb dX7_moves_32 ?_
                        refine r_top (y := 18) (by decide) ?_
                        refine al_Mod_1 M hW 18 rfl (by decide) (x := u 1 18) ((up2_k (by decide)).trans ((up2_k (by decide)).trans ((up2_k (by decide)).trans ((up2_k (by decide)).trans ((up2_k (by decide)).trans ((up2_k (by decide)).trans ((up2_k (by decide)).trans ((up2_k (by decide)).trans ((up2_k (by decide)).trans (up2_k (by decide))))))))))) dX7_moves_33 ?_
                        refine as_Mod_1 M hW 19 rfl (by decide) dX7_moves_34 (fun H locs hW => ?_)
                        refine lv_iinc (v := 0) (lv' := [(2, .int 0), (1, .int (u 1 29)), (0, .ref (b 0))]) hx hb dX7_moves_35 hl (k := 0) rfl (by decide) (by decide) rfl (fun ls hl => ?_)
                        refine lv_goto (tgt := 11) hx hb dX7_moves_38 (by decide) ?_
                        refine lv_iload_n hx hb dX7_moves_11 rfl (lv_at hl 0 rfl) ?_
                        refine lv_if_le (tgt := 41) hx hb dX7_moves_12 (by decide) (fun c_12_12 => ?_) (fun c_12_12 => ?_)
                        · skip
                          refine lv_aload_n hx hb dX7_moves_41 rfl (lv_at hl 2 rfl) ?_
                          refine gt_Mod_0_1 M hW kw_392 dX7_moves_42 ?_
                          refine lv_bipush (v := 18) hx hb dX7_moves_45 (by decide) ?_
                          refine lv_iload_n hx hb dX7_moves_47 rfl (lv_at hl 1 rfl) ?_
                          refine as_Mod_1 M hW 18 rfl (by decide) dX7_moves_48 (fun H locs hW => ?_)
                          refine lv_aload_n hx hb dX7_moves_49 rfl (lv_at hl 2 rfl) ?_
                          refine gt_Mod_0_1 M hW kw_392 dX7_moves_50 ?_
                          refine lv_bipush (v := 24) hx hb dX7_moves_53 (by decide) ?_
                          refine al_Mod_1 M hW 24 rfl (by decide) (x := u 1 23) ((up2_k (by decide)).trans ((up2_k (by decide)).trans ((up2_k (by decide)).trans ((up2_k (by decide)).trans ((up2_k (by decide)).trans ((up2_k (by decide)).trans up2_s)))))) dX7_moves_55 ?_
                          refine lv_istore_n (lv' := [(2, .int (u 1 23)), (1, .int (u 1 29)), (0, .ref (b 0))]) hx hb dX7_moves_56 rfl hl (by decide) rfl (fun ls hl => ?_)
                          refine lv_aload_n hx hb dX7_moves_57 rfl (lv_at hl 2 rfl) ?_
                          refine gt_Mod_0_1 M hW kw_392 dX7_moves_58 ?_
                          refine lv_bipush (v := 12) hx hb dX7_moves_61 (by decide) ?_
                          refine al_Mod_1 M hW 12 rfl (by decide) (x := u 1 12) ((up2_k (by decide)).trans ((up2_k (by decide)).trans ((up2_k (by decide)).trans ((up2_k (by decide)).trans ((up2_k (by decide)).trans ((up2_k (by decide)).trans ((up2_k (by decide)).trans ((up2_k (by decide)).trans ((up2_k (by decide)).trans ((up2_k (by decide)).trans ((up2_k (by decide)).trans (up2_k (by decide))))))))))))) dX7_moves_63 ?_
                          refine lv_iconst (v := 2) hx hb dX7_moves_64 (by decide) ?_
                          refine r_cuti (pc2 := 75) (ls2 := ls) (st := []) (movesF u) (fun x_75 hx_75 => ?_) (fun hJ_75 => ?_)
                          · skip
                            subst hx_75
                            refine lv_istore_n (lv' := [(3, .int (movesF u)), (2, .int (u 1 23)), (1, .int (u 1 29)), (0, .ref (b 0))]) hx hb dX7_moves_75 rfl hl (by decide) rfl (fun ls hl => ?_)
                            refine lv_aload_n hx hb dX7_moves_76 rfl (lv_at hl 3 rfl) ?_
                            refine gt_Mod_0_1 M hW kw_392 dX7_moves_77 ?_
                            refine lv_bipush (v := 24) hx hb dX7_moves_80 (by decide) ?_
                            refine lv_iconst (v := 0) hx hb dX7_moves_82 (by decide) ?_
                            refine as_Mod_1 M hW 24 rfl (by decide) dX7_moves_83 (fun H locs hW => ?_)
                            refine lv_aload_n hx hb dX7_moves_84 rfl (lv_at hl 3 rfl) ?_
                            refine gt_Mod_0_1 M hW kw_392 dX7_moves_85 ?_
                            refine lv_bipush (v := 6) hx hb dX7_moves_88 (by decide) ?_
                            refine lv_dup2_11 hx hb dX7_moves_90 rfl rfl ?_
                            refine al_Mod_1 M hW 6 rfl (by decide) (x := u 1 6) ((up2_k (by decide)).trans ((up2_k (by decide)).trans ((up2_k (by decide)).trans ((up2_k (by decide)).trans ((up2_k (by decide)).trans ((up2_k (by decide)).trans ((up2_k (by decide)).trans ((up2_k (by decide)).trans ((up2_k (by decide)).trans ((up2_k (by decide)).trans ((up2_k (by decide)).trans ((up2_k (by decide)).trans (up2_k (by decide)))))))))))))) dX7_moves_91 ?_
                            refine lv_iload_n hx hb dX7_moves_92 rfl (lv_at hl 1 rfl) ?_
                            refine lv_iload_n hx hb dX7_moves_93 rfl (lv_at hl 0 rfl) ?_
                            refine lv_isub hx hb dX7_moves_94 ?_
                            refine lv_iadd hx hb dX7_moves_95 ?_
                            refine as_Mod_1 M hW 6 rfl (by decide) dX7_moves_96 (fun H locs hW => ?_)
                            refine lv_aload_n hx hb dX7_moves_97 rfl (lv_at hl 3 rfl) ?_
                            refine gt_Mod_0_1 M hW kw_392 dX7_moves_98 ?_
                            refine lv_bipush (v := 10) hx hb dX7_moves_101 (by decide) ?_
                            refine lv_dup2_11 hx hb dX7_moves_103 rfl rfl ?_
                            refine al_Mod_1 M hW 10 rfl (by decide) (x := u 1 10) ((up2_k (by decide)).trans ((up2_k (by decide)).trans ((up2_k (by decide)).trans ((up2_k (by decide)).trans ((up2_k (by decide)).trans ((up2_k (by decide)).trans ((up2_k (by decide)).trans ((up2_k (by decide)).trans ((up2_k (by decide)).trans ((up2_k (by decide)).trans ((up2_k (by decide)).trans ((up2_k (by decide)).trans ((up2_k (by decide)).trans (up2_k (by decide))))))))))))))) dX7_moves_104 ?_
                            refine lv_iload_n hx hb dX7_moves_105 rfl (lv_at hl 0 rfl) ?_
                            refine lv_iadd hx hb dX7_moves_106 ?_
                            refine as_Mod_1 M hW 10 rfl (by decide) dX7_moves_107 (fun H locs hW => ?_)
                            have hW : Wd G s (ModW G b (movesA u) ++ Y) _ _ := hW
                            refine lv_aload_n hx hb dX7_moves_108 rfl (lv_at hl 3 rfl) ?_
                            refine lv_iload_n hx hb dX7_moves_109 rfl (lv_at hl 0 rfl) ?_
                            refine r_callVv M hW (c_X7_comes l G b (movesA u) (movesF u) (Y)) rfl kw_409 kw_410 kw_411 kw_412 kw_407 pl_X7_comes 0 rfl rfl ⟨by decide, by decide⟩ ⟨Nat.zero_le _, Nat.zero_le _⟩ hl.1 rfl (Nat.le_of_ble_eq_true rfl) dX7_moves_110 (fun H locs hW => ?_)
                            have hW : Wd G s (ModW G b (movesB u) ++ Y) _ _ := hW
                            refine lv_aload_n hx hb dX7_moves_113 rfl (lv_at hl 3 rfl) ?_
                            refine gt_Mod_0_1 M hW kw_392 dX7_moves_114 ?_
                            refine lv_iconst (v := 3) hx hb dX7_moves_117 (by decide) ?_
                            refine al_Mod_1 M hW 3 rfl (by decide) (x := (movesB u) 1 3) rfl dX7_moves_118 ?_
                            refine lv_aload_n hx hb dX7_moves_119 rfl (lv_at hl 3 rfl) ?_
                            refine gt_Mod_0_1 M hW kw_392 dX7_moves_120 ?_
                            refine lv_bipush (v := 18) hx hb dX7_moves_123 (by decide) ?_
                            refine al_Mod_1 M hW 18 rfl (by decide) (x := (movesB u) 1 18) rfl dX7_moves_125 ?_
                            refine lv_isub hx hb dX7_moves_126 ?_
                            refine lv_istore (lv' := [(4, .int (((movesB u) 1 3) - ((movesB u) 1 18))), (3, .int (movesF u)), (2, .int (u 1 23)), (1, .int (u 1 29)), (0, .ref (b 0))]) hx hb dX7_moves_127 hl (by decide) rfl (fun ls hl => ?_)
                            refine lv_iload hx hb dX7_moves_129 (lv_at hl 0 rfl) ?_
                            refine r_cuti (pc2 := 160) (ls2 := ls) (st := []) (if 0 ≤ (((movesB u) 1 3) - ((movesB u) 1 18)) then (if ((movesB u) 1 5) ≤ (((movesB u) 1 3) - ((movesB u) 1 18)) then (movesB u) 1 5 else ((movesB u) 1 3) - ((movesB u) 1 18)) else 0) (fun x_160 hx_160 => ?_) (fun hJ_160 => ?_)
                            · skip
                              subst hx_160
                              refine lv_istore (lv' := [(5, .int (if 0 ≤ (((movesB u) 1 3) - ((movesB u) 1 18)) then (if ((movesB u) 1 5) ≤ (((movesB u) 1 3) - ((movesB u) 1 18)) then (movesB u) 1 5 else ((movesB u) 1 3) - ((movesB u) 1 18)) else 0)), (4, .int (((movesB u) 1 3) - ((movesB u) 1 18))), (3, .int (movesF u)), (2, .int (u 1 23)), (1, .int (u 1 29)), (0, .ref (b 0))]) hx hb dX7_moves_160 hl (by decide) rfl (fun ls hl => ?_)
                              refine lv_aload_n hx hb dX7_moves_162 rfl (lv_at hl 5 rfl) ?_
                              refine gt_Mod_0_1 M hW kw_392 dX7_moves_163 ?_
                              refine lv_bipush (v := 18) hx hb dX7_moves_166 (by decide) ?_
                              refine lv_dup2_11 hx hb dX7_moves_168 rfl rfl ?_
                              refine al_Mod_1 M hW 18 rfl (by decide) (x := (movesB u) 1 18) rfl dX7_moves_169 ?_
                              refine lv_iload hx hb dX7_moves_170 (lv_at hl 0 rfl) ?_
                              refine lv_iadd hx hb dX7_moves_172 ?_
                              refine as_Mod_1 M hW 18 rfl (by decide) dX7_moves_173 (fun H locs hW => ?_)
                              refine lv_aload_n hx hb dX7_moves_174 rfl (lv_at hl 5 rfl) ?_
                              refine gt_Mod_0_1 M hW kw_392 dX7_moves_175 ?_
                              refine lv_iconst (v := 5) hx hb dX7_moves_178 (by decide) ?_
                              refine lv_dup2_11 hx hb dX7_moves_179 rfl rfl ?_
                              refine al_Mod_1 M hW 5 rfl (by decide) (x := (movesB u) 1 5) (up2_k (by decide)) dX7_moves_180 ?_
                              refine lv_iload hx hb dX7_moves_181 (lv_at hl 0 rfl) ?_
                              refine lv_isub hx hb dX7_moves_183 ?_
                              refine as_Mod_1 M hW 5 rfl (by decide) dX7_moves_184 (fun H locs hW => ?_)
                              exact r_retv M hW (by rw [sX7_moves]) ⟨rfl, rfl⟩ (Nat.zero_le _) (Nat.zero_le _) dX7_moves_185
                            · skip
                              refine lv_if_ge (tgt := 138) hx hb dX7_moves_131 (by decide) (fun c_131 => ?_) (fun c_131 => ?_)
                              · skip
                                refine lv_iload hx hb dX7_moves_138 (lv_at hl 0 rfl) ?_
                                refine lv_aload_n hx hb dX7_moves_140 rfl (lv_at hl 4 rfl) ?_
                                refine gt_Mod_0_1 M hW kw_392 dX7_moves_141 ?_
                                refine lv_iconst (v := 5) hx hb dX7_moves_144 (by decide) ?_
                                refine al_Mod_1 M hW 5 rfl (by decide) (x := (movesB u) 1 5) rfl dX7_moves_145 ?_
                                refine lv_icmp_ge (tgt := 154) hx hb dX7_moves_146 (by decide) (fun c_146 => ?_) (fun c_146 => ?_)
                                · skip
                                  refine lv_aload_n hx hb dX7_moves_154 rfl (lv_at hl 4 rfl) ?_
                                  refine gt_Mod_0_1 M hW kw_392 dX7_moves_155 ?_
                                  refine lv_iconst (v := 5) hx hb dX7_moves_158 (by decide) ?_
                                  refine al_Mod_1 M hW 5 rfl (by decide) (x := (movesB u) 1 5) rfl dX7_moves_159 ?_
                                  exact hJ_160 _ (by rw [if_pos c_131, if_pos c_146])
                                · skip
                                  refine lv_iload hx hb dX7_moves_149 (lv_at hl 0 rfl) ?_
                                  refine lv_goto (tgt := 160) hx hb dX7_moves_151 (by decide) ?_
                                  exact hJ_160 _ (by rw [if_pos c_131, if_neg c_146])
                              · skip
                                refine lv_iconst (v := 0) hx hb dX7_moves_134 (by decide) ?_
                                refine lv_goto (tgt := 160) hx hb dX7_moves_135 (by decide) ?_
                                exact hJ_160 _ (by rw [if_neg c_131])
                          · skip
                            refine lv_icmp_lt (tgt := 72) hx hb dX7_moves_65 (by decide) (fun c_65 => ?_) (fun c_65 => ?_)
                            · skip
                              refine lv_iload_n hx hb dX7_moves_72 rfl (lv_at hl 0 rfl) ?_
                              refine lv_iconst (v := 2) hx hb dX7_moves_73 (by decide) ?_
                              refine lv_idiv hx hb dX7_moves_74 (by decide) ?_
                              exact hJ_75 _ (by rw [movesF, if_pos c_65])
                            · skip
                              refine lv_iconst (v := 0) hx hb dX7_moves_68 (by decide) ?_
                              refine lv_goto (tgt := 75) hx hb dX7_moves_69 (by decide) ?_
                              exact hJ_75 _ (by rw [movesF, if_neg c_65])
                        · skip
                          exact absurd c_12_12 (by decide)

def rX7_beyond (u : Nat → Nat → Int32) : Int32 := if (if 0 ≤ (u 1 4) then u 1 4 else -(u 1 4)) ≤ 3 then 0 else (if 0 ≤ (u 1 4) then u 1 4 else -(u 1 4)) - 3
set_option maxHeartbeats 4000000 in
set_option maxRecDepth 100000 in
/-- X7.beyond -/
theorem c_X7_beyond (l : Launch) (G : Gp) (b : Nat → Nat) (u : Nat → Nat → Int32) (Y : va_W) : Cn l G yX7_beyond cX7_beyond 2 (some .int) 0 [.ref (b 0)] (ModW G b u ++ Y) (some (.int (rX7_beyond u))) (ModW G b u ++ Y) := by
  refine CnE.of (by decide) (Nat.le_of_ble_eq_true rfl) ?_
  intro p e s m below meth c ls M hnm hl hW
  have hx := M.1
  have hb := M.2.1
  have hl : lv_has ls 2 [(0, .ref (b 0))] := hl
  refine lv_aload_n hx hb dX7_beyond_0 rfl (lv_at hl 0 rfl) ?_
  refine gt_Mod_0_1 M hW kw_392 dX7_beyond_1 ?_
  refine lv_iconst (v := 4) hx hb dX7_beyond_4 (by decide) ?_
  refine al_Mod_1 M hW 4 rfl (by decide) (x := u 1 4) rfl dX7_beyond_5 ?_
  refine r_cuti (pc2 := 25) (ls2 := ls) (st := []) (if 0 ≤ (u 1 4) then u 1 4 else -(u 1 4)) (fun x_25 hx_25 => ?_) (fun hJ_25 => ?_)
  · skip
    subst hx_25
    refine lv_istore_n (lv' := [(1, .int (if 0 ≤ (u 1 4) then u 1 4 else -(u 1 4))), (0, .ref (b 0))]) hx hb dX7_beyond_25 rfl hl (by decide) rfl (fun ls hl => ?_)
    refine lv_iload_n hx hb dX7_beyond_26 rfl (lv_at hl 0 rfl) ?_
    refine lv_iconst (v := 3) hx hb dX7_beyond_27 (by decide) ?_
    refine lv_icmp_le (tgt := 37) hx hb dX7_beyond_28 (by decide) (fun c_28 => ?_) (fun c_28 => ?_)
    · skip
      refine lv_iconst (v := 0) hx hb dX7_beyond_37 (by decide) ?_
      exact r_reti M hW rfl ⟨by rw [rX7_beyond, if_pos c_28], rfl⟩ (Nat.zero_le _) (Nat.zero_le _) dX7_beyond_38
    · skip
      refine lv_iload_n hx hb dX7_beyond_31 rfl (lv_at hl 0 rfl) ?_
      refine lv_iconst (v := 3) hx hb dX7_beyond_32 (by decide) ?_
      refine lv_isub hx hb dX7_beyond_33 ?_
      refine lv_goto (tgt := 38) hx hb dX7_beyond_34 (by decide) ?_
      exact r_reti M hW rfl ⟨by rw [rX7_beyond, if_neg c_28], rfl⟩ (Nat.zero_le _) (Nat.zero_le _) dX7_beyond_38
  · skip
    refine lv_if_ge (tgt := 19) hx hb dX7_beyond_6 (by decide) (fun c_6 => ?_) (fun c_6 => ?_)
    · skip
      refine lv_aload_n hx hb dX7_beyond_19 rfl (lv_at hl 0 rfl) ?_
      refine gt_Mod_0_1 M hW kw_392 dX7_beyond_20 ?_
      refine lv_iconst (v := 4) hx hb dX7_beyond_23 (by decide) ?_
      refine al_Mod_1 M hW 4 rfl (by decide) (x := u 1 4) rfl dX7_beyond_24 ?_
      exact hJ_25 _ (by rw [if_pos c_6])
    · skip
      refine lv_aload_n hx hb dX7_beyond_9 rfl (lv_at hl 0 rfl) ?_
      refine gt_Mod_0_1 M hW kw_392 dX7_beyond_10 ?_
      refine lv_iconst (v := 4) hx hb dX7_beyond_13 (by decide) ?_
      refine al_Mod_1 M hW 4 rfl (by decide) (x := u 1 4) rfl dX7_beyond_14 ?_
      refine lv_ineg hx hb dX7_beyond_15 ?_
      refine lv_goto (tgt := 25) hx hb dX7_beyond_16 (by decide) ?_
      exact hJ_25 _ (by rw [if_neg c_6])

def rX7_seesTooMuch (u : Nat → Nat → Int32) (x : Int32) : Int32 := if x = 0 then (if (u 1 11) ≤ 20 then 0 else 1) else if x = 1 then (if (u 1 5) < 250 then 0 else 1) else if (u 1 13) < 100 then 0 else 1
set_option maxHeartbeats 4000000 in
set_option maxRecDepth 100000 in
/-- X7.seesTooMuch -/
theorem c_X7_seesTooMuch (l : Launch) (G : Gp) (b : Nat → Nat) (u : Nat → Nat → Int32) (x : Int32) (Y : va_W) : Cn l G yX7_seesTooMuch cX7_seesTooMuch 2 (some .boolean) 0 [.ref (b 0), .int x] (ModW G b u ++ Y) (some (.int (rX7_seesTooMuch u x))) (ModW G b u ++ Y) := by
  refine CnE.of (by decide) (Nat.le_of_ble_eq_true rfl) ?_
  intro p e s m below meth c ls M hnm hl hW
  have hx := M.1
  have hb := M.2.1
  have hl : lv_has ls 2 [(0, .ref (b 0)), (1, .int x)] := hl
  refine lv_iload_n hx hb dX7_seesTooMuch_0 rfl (lv_at hl 1 rfl) ?_
  refine lv_if_ne (tgt := 24) hx hb dX7_seesTooMuch_1 (by decide) (fun c_1 => ?_) (fun c_1 => ?_)
  · skip
    refine lv_iload_n hx hb dX7_seesTooMuch_24 rfl (lv_at hl 1 rfl) ?_
    refine lv_iconst (v := 1) hx hb dX7_seesTooMuch_25 (by decide) ?_
    refine lv_icmp_ne (tgt := 49) hx hb dX7_seesTooMuch_26 (by decide) (fun c_26 => ?_) (fun c_26 => ?_)
    · skip
      refine lv_aload_n hx hb dX7_seesTooMuch_49 rfl (lv_at hl 0 rfl) ?_
      refine gt_Mod_0_1 M hW kw_392 dX7_seesTooMuch_50 ?_
      refine lv_bipush (v := 13) hx hb dX7_seesTooMuch_53 (by decide) ?_
      refine al_Mod_1 M hW 13 rfl (by decide) (x := u 1 13) rfl dX7_seesTooMuch_55 ?_
      refine lv_bipush (v := 100) hx hb dX7_seesTooMuch_56 (by decide) ?_
      refine lv_icmp_lt (tgt := 65) hx hb dX7_seesTooMuch_58 (by decide) (fun c_58 => ?_) (fun c_58 => ?_)
      · skip
        refine lv_iconst (v := 0) hx hb dX7_seesTooMuch_65 (by decide) ?_
        exact r_retz M rfl hW rfl ⟨by rw [rX7_seesTooMuch, if_neg c_1, if_neg c_26, if_pos c_58], rfl⟩ (Nat.zero_le _) (Nat.zero_le _) dX7_seesTooMuch_66
      · skip
        refine lv_iconst (v := 1) hx hb dX7_seesTooMuch_61 (by decide) ?_
        refine lv_goto (tgt := 66) hx hb dX7_seesTooMuch_62 (by decide) ?_
        exact r_retz M rfl hW rfl ⟨by rw [rX7_seesTooMuch, if_neg c_1, if_neg c_26, if_neg c_58], rfl⟩ (Nat.zero_le _) (Nat.zero_le _) dX7_seesTooMuch_66
    · skip
      refine lv_aload_n hx hb dX7_seesTooMuch_29 rfl (lv_at hl 0 rfl) ?_
      refine gt_Mod_0_1 M hW kw_392 dX7_seesTooMuch_30 ?_
      refine lv_iconst (v := 5) hx hb dX7_seesTooMuch_33 (by decide) ?_
      refine al_Mod_1 M hW 5 rfl (by decide) (x := u 1 5) rfl dX7_seesTooMuch_34 ?_
      refine lv_sipush (v := 250) hx hb dX7_seesTooMuch_35 (by decide) ?_
      refine lv_icmp_lt (tgt := 45) hx hb dX7_seesTooMuch_38 (by decide) (fun c_38 => ?_) (fun c_38 => ?_)
      · skip
        refine lv_iconst (v := 0) hx hb dX7_seesTooMuch_45 (by decide) ?_
        refine lv_goto (tgt := 66) hx hb dX7_seesTooMuch_46 (by decide) ?_
        exact r_retz M rfl hW rfl ⟨by rw [rX7_seesTooMuch, if_neg c_1, if_pos c_26, if_pos c_38], rfl⟩ (Nat.zero_le _) (Nat.zero_le _) dX7_seesTooMuch_66
      · skip
        refine lv_iconst (v := 1) hx hb dX7_seesTooMuch_41 (by decide) ?_
        refine lv_goto (tgt := 66) hx hb dX7_seesTooMuch_42 (by decide) ?_
        exact r_retz M rfl hW rfl ⟨by rw [rX7_seesTooMuch, if_neg c_1, if_pos c_26, if_neg c_38], rfl⟩ (Nat.zero_le _) (Nat.zero_le _) dX7_seesTooMuch_66
  · skip
    refine lv_aload_n hx hb dX7_seesTooMuch_4 rfl (lv_at hl 0 rfl) ?_
    refine gt_Mod_0_1 M hW kw_392 dX7_seesTooMuch_5 ?_
    refine lv_bipush (v := 11) hx hb dX7_seesTooMuch_8 (by decide) ?_
    refine al_Mod_1 M hW 11 rfl (by decide) (x := u 1 11) rfl dX7_seesTooMuch_10 ?_
    refine lv_bipush (v := 20) hx hb dX7_seesTooMuch_11 (by decide) ?_
    refine lv_icmp_le (tgt := 20) hx hb dX7_seesTooMuch_13 (by decide) (fun c_13 => ?_) (fun c_13 => ?_)
    · skip
      refine lv_iconst (v := 0) hx hb dX7_seesTooMuch_20 (by decide) ?_
      refine lv_goto (tgt := 66) hx hb dX7_seesTooMuch_21 (by decide) ?_
      exact r_retz M rfl hW rfl ⟨by rw [rX7_seesTooMuch, if_pos c_1, if_pos c_13], rfl⟩ (Nat.zero_le _) (Nat.zero_le _) dX7_seesTooMuch_66
    · skip
      refine lv_iconst (v := 1) hx hb dX7_seesTooMuch_16 (by decide) ?_
      refine lv_goto (tgt := 66) hx hb dX7_seesTooMuch_17 (by decide) ?_
      exact r_retz M rfl hW rfl ⟨by rw [rX7_seesTooMuch, if_pos c_1, if_neg c_13], rfl⟩ (Nat.zero_le _) (Nat.zero_le _) dX7_seesTooMuch_66
