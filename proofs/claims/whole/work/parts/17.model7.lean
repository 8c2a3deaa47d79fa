def rX7_inBuckets (u : Nat → Nat → Int32) : Int32 := (((((((((((0 + (u 1 18)) + (u 1 19)) + (u 1 20)) + (u 1 21)) + (u 1 22)) + (u 1 23)) + (u 1 24)) + (u 1 25)) + (u 1 26)) + (u 1 27)) + (u 1 28)) + (u 1 29)
set_option maxHeartbeats 4000000 in
set_option maxRecDepth 100000 in
/-- X7.inBuckets -/
theorem c_X7_inBuckets (l : Launch) (G : Gp) (b : Nat → Nat) (u : Nat → Nat → Int32) (Y : va_W) : Cn l G yX7_inBuckets cX7_inBuckets 3 (some .int) 0 [.ref (b 0)] (ModW G b u ++ Y) (some (.int (rX7_inBuckets u))) (ModW G b u ++ Y) := by
  refine CnE.of (by decide) (Nat.le_of_ble_eq_true rfl) ?_
  intro p e s m below meth c ls M hnm hl hW
  have hx := M.1
  have hb := M.2.1
  have hl : lv_has ls 3 [(0, .ref (b 0))] := hl
  refine lv_iconst (v := 0) hx hb dX7_inBuckets_0 (by decide) ?_
  refine lv_istore_n (lv' := [(1, .int 0), (0, .ref (b 0))]) hx hb dX7_inBuckets_1 rfl hl (by decide) rfl (fun ls hl => ?_)
  refine lv_iconst (v := 0) hx hb dX7_inBuckets_2 (by decide) ?_
  refine lv_istore_n (lv' := [(2, .int 0), (1, .int 0), (0, .ref (b 0))]) hx hb dX7_inBuckets_3 rfl hl (by decide) rfl (fun ls hl => ?_)
  refine lv_iload_n hx hb dX7_inBuckets_4 rfl (lv_at hl 0 rfl) ?_
  refine lv_bipush (v := 12) hx hb dX7_inBuckets_5 (by decide) ?_
  refine lv_icmp_ge (tgt := 28) hx hb dX7_inBuckets_7 (by decide) (fun c_7 => ?_) (fun c_7 => ?_)
  · skip
    exact absurd c_7 (by decide)
  · skip
    refine lv_iload_n hx hb dX7_inBuckets_10 rfl (lv_at hl 1 rfl) ?_
    refine lv_aload_n hx hb dX7_inBuckets_11 rfl (lv_at hl 2 rfl) ?_
    refine gt_Mod_0_1 M hW kw_392 dX7_inBuckets_12 ?_
    refine lv_bipush (v := 18) hx hb dX7_inBuckets_15 (by decide) ?_
    refine lv_iload_n hx hb dX7_inBuckets_17 rfl (lv_at hl 0 rfl) ?_
    refine lv_iadd hx hb dX7_inBuckets_18 ?_
    refine r_top (y := 18) (by decide) ?_
    refine al_Mod_1 M hW 18 rfl (by decide) (x := u 1 18) rfl dX7_inBuckets_19 ?_
    refine lv_iadd hx hb dX7_inBuckets_20 ?_
    refine lv_istore_n (lv' := [(1, .int (0 + (u 1 18))), (2, .int 0), (0, .ref (b 0))]) hx hb dX7_inBuckets_21 rfl hl (by decide) rfl (fun ls hl => ?_)
    refine lv_iinc (v := 1) (lv' := [(2, .int 1), (1, .int (0 + (u 1 18))), (0, .ref (b 0))]) hx hb dX7_inBuckets_22 hl (k := 1) rfl (by decide) (by decide) rfl (fun ls hl => ?_)
    refine lv_goto (tgt := 4) hx hb dX7_inBuckets_25 (by decide) ?_
    refine lv_iload_n hx hb dX7_inBuckets_4 rfl (lv_at hl 0 rfl) ?_
    refine lv_bipush (v := 12) hx hb dX7_inBuckets_5 (by decide) ?_
    refine lv_icmp_ge (tgt := 28) hx hb dX7_inBuckets_7 (by decide) (fun c_7_2 => ?_) (fun c_7_2 => ?_)
    · skip
      exact absurd c_7_2 (by decide)
    · skip
      refine lv_iload_n hx hb dX7_inBuckets_10 rfl (lv_at hl 1 rfl) ?_
      refine lv_aload_n hx hb dX7_inBuckets_11 rfl (lv_at hl 2 rfl) ?_
      refine gt_Mod_0_1 M hW kw_392 dX7_inBuckets_12 ?_
      refine lv_bipush (v := 18) hx hb dX7_inBuckets_15 (by decide) ?_
      refine lv_iload_n hx hb dX7_inBuckets_17 rfl (lv_at hl 0 rfl) ?_
      refine lv_iadd hx hb dX7_inBuckets_18 ?_
      refine r_top (y := 19) (by decide) ?_
      refine al_Mod_1 M hW 19 rfl (by decide) (x := u 1 19) rfl dX7_inBuckets_19 ?_
      refine lv_iadd hx hb dX7_inBuckets_20 ?_
      refine lv_istore_n (lv' := [(1, .int ((0 + (u 1 18)) + (u 1 19))), (2, .int 1), (0, .ref (b 0))]) hx hb dX7_inBuckets_21 rfl hl (by decide) rfl (fun ls hl => ?_)
      refine lv_iinc (v := 2) (lv' := [(2, .int 2), (1, .int ((0 + (u 1 18)) + (u 1 19))), (0, .ref (b 0))]) hx hb dX7_inBuckets_22 hl (k := 1) rfl (by decide) (by decide) rfl (fun ls hl => ?_)
      refine lv_goto (tgt := 4) hx hb dX7_inBuckets_25 (by decide) ?_
      refine lv_iload_n hx hb dX7_inBuckets_4 rfl (lv_at hl 0 rfl) ?_
      refine lv_bipush (v := 12) hx hb dX7_inBuckets_5 (by decide) ?_
      refine lv_icmp_ge (tgt := 28) hx hb dX7_inBuckets_7 (by decide) (fun c_7_3 => ?_) (fun c_7_3 => ?_)
      · skip
        exact absurd c_7_3 (by decide)
      · skip
        refine lv_iload_n hx hb dX7_inBuckets_10 rfl (lv_at hl 1 rfl) ?_
        refine lv_aload_n hx hb dX7_inBuckets_11 rfl (lv_at hl 2 rfl) ?_
        refine gt_Mod_0_1 M hW kw_392 dX7_inBuckets_12 ?_
        refine lv_bipush (v := 18) hx hb dX7_inBuckets_15 (by decide) ?_
        refine lv_iload_n hx hb dX7_inBuckets_17 rfl (lv_at hl 0 rfl) ?_
        refine lv_iadd hx hb dX7_inBuckets_18 ?_
        refine r_top (y := 20) (by decide) ?_
        refine al_Mod_1 M hW 20 rfl (by decide) (x := u 1 20) rfl dX7_inBuckets_19 ?_
        refine lv_iadd hx hb dX7_inBuckets_20 ?_
        refine lv_istore_n (lv' := [(1, .int (((0 + (u 1 18)) + (u 1 19)) + (u 1 20))), (2, .int 2), (0, .ref (b 0))]) hx hb dX7_inBuckets_21 rfl hl (by decide) rfl (fun ls hl => ?_)
        refine lv_iinc (v := 3) (lv' := [(2, .int 3), (1, .int (((0 + (u 1 18)) + (u 1 19)) + (u 1 20))), (0, .ref (b 0))]) hx hb dX7_inBuckets_22 hl (k := 1) rfl (by decide) (by decide) rfl (fun ls hl => ?_)
        refine lv_goto (tgt := 4) hx hb dX7_inBuckets_25 (by decide) ?_
        refine lv_iload_n hx hb dX7_inBuckets_4 rfl (lv_at hl 0 rfl) ?_
        refine lv_bipush (v := 12) hx hb dX7_inBuckets_5 (by decide) ?_
        refine lv_icmp_ge (tgt := 28) hx hb dX7_inBuckets_7 (by decide) (fun c_7_4 => ?_) (fun c_7_4 => ?_)
        · skip
          exact absurd c_7_4 (by decide)
        · skip
          refine lv_iload_n hx hb dX7_inBuckets_10 rfl (lv_at hl 1 rfl) ?_
          refine lv_aload_n hx hb dX7_inBuckets_11 rfl (lv_at hl 2 rfl) ?_
          refine gt_Mod_0_1 M hW kw_392 dX7_inBuckets_12 ?_
          refine lv_bipush (v := 18) hx hb dX7_inBuckets_15 (by decide) ?_
          refine lv_iload_n hx hb dX7_inBuckets_17 rfl (lv_at hl 0 rfl) ?_
          refine lv_iadd hx hb dX7_inBuckets_18 ?_
          refine r_top (y := 21) (by decide) ?_
          refine al_Mod_1 M hW 21 rfl (by decide) (x := u 1 21) rfl dX7_inBuckets_19 ?_
          refine lv_iadd hx hb dX7_inBuckets_20 ?_
          refine lv_istore_n (lv' := [(1, .int ((((0 + (u 1 18)) + (u 1 19)) + (u 1 20)) + (u 1 21))), (2, .int 3), (0, .ref (b 0))]) hx hb dX7_inBuckets_21 rfl hl (by decide) rfl (fun ls hl => ?_)
          refine lv_iinc (v := 4) (lv' := [(2, .int 4), (1, .int ((((0 + (u 1 18)) + (u 1 19)) + (u 1 20)) + (u 1 21))), (0, .ref (b 0))]) hx hb dX7_inBuckets_22 hl (k := 1) rfl (by decide) (by decide) rfl (fun ls hl => ?_)
          refine lv_goto (tgt := 4) hx hb dX7_inBuckets_25 (by decide) ?_
          refine lv_iload_n hx hb dX7_inBuckets_4 rfl (lv_at hl 0 rfl) ?_
          refine lv_bipush (v := 12) hx hb dX7_inBuckets_5 (by decide) ?_
          refine lv_icmp_ge (tgt := 28) hx hb dX7_inBuckets_7 (by decide) (fun c_7_5 => ?_) (fun c_7_5 => ?_)
          · skip
            exact absurd c_7_5 (by decide)
          · skip
            refine lv_iload_n hx hb dX7_inBuckets_10 rfl (lv_at hl 1 rfl) ?_
            refine lv_aload_n hx hb dX7_inBuckets_11 rfl (lv_at hl 2 rfl) ?_
            refine gt_Mod_0_1 M hW kw_392 dX7_inBuckets_12 ?_
            refine lv_bipush (v := 18) hx hb dX7_inBuckets_15 (by decide) ?_
            refine lv_iload_n hx hb dX7_inBuckets_17 rfl (lv_at hl 0 rfl) ?_
            refine lv_iadd hx hb dX7_inBuckets_18 ?_
            refine r_top (y := 22) (by decide) ?_
            refine al_Mod_1 M hW 22 rfl (by decide) (x := u 1 22) rfl dX7_inBuckets_19 ?_
            refine lv_iadd hx hb dX7_inBuckets_20 ?_
            refine lv_istore_n (lv' := [(1, .int (((((0 + (u 1 18)) + (u 1 19)) + (u 1 20)) + (u 1 21)) + (u 1 22))), (2, .int 4), (0, .ref (b 0))]) hx hb dX7_inBuckets_21 rfl hl (by decide) rfl (fun ls hl => ?_)
            refine lv_iinc (v := 5) (lv' := [(2, .int 5), (1, .int (((((0 + (u 1 18)) + (u 1 19)) + (u 1 20)) + (u 1 21)) + (u 1 22))), (0, .ref (b 0))]) hx hb dX7_inBuckets_22 hl (k := 1) rfl (by decide) (by decide) rfl (fun ls hl => ?_)
            refine lv_goto (tgt := 4) hx hb dX7_inBuckets_25 (by decide) ?_
            refine lv_iload_n hx hb dX7_inBuckets_4 rfl (lv_at hl 0 rfl) ?_
            refine lv_bipush (v := 12) hx hb dX7_inBuckets_5 (by decide) ?_
            refine lv_icmp_ge (tgt := 28) hx hb dX7_inBuckets_7 (by decide) (fun c_7_6 => ?_) (fun c_7_6 => ?_)
            · skip
              exact absurd c_7_6 (by decide)
            · skip
              refine lv_iload_n hx hb dX7_inBuckets_10 rfl (lv_at hl 1 rfl) ?_
              refine lv_aload_n hx hb dX7_inBuckets_11 rfl (lv_at hl 2 rfl) ?_
              refine gt_Mod_0_1 M hW kw_392 dX7_inBuckets_12 ?_
              refine lv_bipush (v := 18) hx hb dX7_inBuckets_15 (by decide) ?_
              refine lv_iload_n hx hb dX7_inBuckets_17 rfl (lv_at hl 0 rfl) ?_
              refine lv_iadd hx hb dX7_inBuckets_18 ?_
              refine r_top (y := 23) (by decide) ?_
              refine al_Mod_1 M hW 23 rfl (by decide) (x := u 1 23) rfl dX7_inBuckets_19 ?_
              refine lv_iadd hx hb dX7_inBuckets_20 ?_
              refine lv_istore_n (lv' := [(1, .int ((((((0 + (u 1 18)) + (u 1 19)) + (u 1 20)) + (u 1 21)) + (u 1 22)) + (u 1 23))), (2, .int 5), (0, .ref (b 0))]) hx hb dX7_inBuckets_21 rfl hl (by decide) rfl (fun ls hl => ?_)
              refine lv_iinc (v := 6) (lv' := [(2, .int 6), (1, .int ((((((0 + (u 1 18)) + (u 1 19)) + (u 1 20)) + (u 1 21)) + (u 1 22)) + (u 1 23))), (0, .ref (b 0))]) hx hb dX7_inBuckets_22 hl (k := 1) rfl (by decide) (by decide) rfl (fun ls hl => ?_)
              refine lv_goto (tgt := 4) hx hb dX7_inBuckets_25 (by decide) ?_
              refine lv_iload_n hx hb dX7_inBuckets_4 rfl (lv_at hl 0 rfl) ?_
              refine lv_bipush (v := 12) hx hb dX7_inBuckets_5 (by decide) ?_
              refine lv_icmp_ge (tgt := 28) hx hb dX7_inBuckets_7 (by decide) (fun c_7_7 => ?_) (fun c_7_7 => ?_)
              · skip
                exact absurd c_7_7 (by decide)
              · skip
                refine lv_iload_n hx hb dX7_inBuckets_10 rfl (lv_at hl 1 rfl) ?_
                refine lv_aload_n hx hb dX7_inBuckets_11 rfl (lv_at hl 2 rfl) ?_
                refine gt_Mod_0_1 M hW kw_392 dX7_inBuckets_12 ?_
                refine lv_bipush (v := 18) hx hb dX7_inBuckets_15 (by decide) ?_
                refine lv_iload_n hx hb dX7_inBuckets_17 rfl (lv_at hl 0 rfl) ?_
                refine lv_iadd hx hb dX7_inBuckets_18 ?_
                refine r_top (y := 24) (by decide) ?_
                refine al_Mod_1 M hW 24 rfl (by decide) (x := u 1 24) rfl dX7_inBuckets_19 ?_
                refine lv_iadd hx hb dX7_inBuckets_20 ?_
                refine lv_istore_n (lv' := [(1, .int (((((((0 + (u 1 18)) + (u 1 19)) + (u 1 20)) + (u 1 21)) + (u 1 22)) + (u 1 23)) + (u 1 24))), (2, .int 6), (0, .ref (b 0))]) hx hb dX7_inBuckets_21 rfl hl (by decide) rfl (fun ls hl => ?_)
                refine lv_iinc (v := 7) (lv' := [(2, .int 7), (1, .int (((((((0 + (u 1 18)) + (u 1 19)) + (u 1 20)) + (u 1 21)) + (u 1 22)) + (u 1 23)) + (u 1 24))), (0, .ref (b 0))]) hx hb dX7_inBuckets_22 hl (k := 1) rfl (by decide) (by decide) rfl (fun ls hl => ?_)
                refine lv_goto (tgt := 4) hx hb dX7_inBuckets_25 (by decide) ?_
                refine lv_iload_n hx hb dX7_inBuckets_4 rfl (lv_at hl 0 rfl) ?_
                refine lv_bipush (v := 12) hx hb dX7_inBuckets_5 (by decide) ?_
                refine lv_icmp_ge (tgt := 28) hx hb dX7_inBuckets_7 (by decide) (fun c_7_8 => ?_) (fun c_7_8 => ?_)
                · skip
                  exact absurd c_7_8 (by decide)
                · skip
                  refine lv_iload_n hx hb dX7_inBuckets_10 rfl (lv_at hl 1 rfl) ?_
                  refine lv_aload_n hx hb dX7_inBuckets_11 rfl (lv_at hl 2 rfl) ?_
                  refine gt_Mod_0_1 M hW kw_392 dX7_inBuckets_12 ?_
                  refine lv_bipush (v := 18) hx hb dX7_inBuckets_15 (by decide) ?_
                  refine lv_iload_n hx hb dX7_inBuckets_17 rfl (lv_at hl 0 rfl) ?_
                  refine lv_iadd hx hb dX7_inBuckets_18 ?_
                  refine r_top (y := 25) (by decide) ?_
                  refine al_Mod_1 M hW 25 rfl (by decide) (x := u 1 25) rfl dX7_inBuckets_19 ?_
                  refine lv_iadd hx hb dX7_inBuckets_20 ?_
                  refine lv_istore_n (lv' := [(1, .int ((((((((0 + (u 1 18)) + (u 1 19)) + (u 1 20)) + (u 1 21)) + (u 1 22)) + (u 1 23)) + (u 1 24)) + (u 1 25))), (2, .int 7), (0, .ref (b 0))]) hx hb dX7_inBuckets_21 rfl hl (by decide) rfl (fun ls hl => ?_)
                  refine lv_iinc (v := 8) (lv' := [(2, .int 8), (1, .int ((((((((0 + (u 1 18)) + (u 1 19)) + (u 1 20)) + (u 1 21)) + (u 1 22)) + (u 1 23)) + (u 1 24)) + (u 1 25))), (0, .ref (b 0))]) hx hb dX7_inBuckets_22 hl (k := 1) rfl (by decide) (by decide) rfl (fun ls hl => ?_)
                  refine lv_goto (tgt := 4) hx hb dX7_inBuckets_25 (by decide) ?_
                  refine lv_iload_n hx hb dX7_inBuckets_4 rfl (lv_at hl 0 rfl) ?_
                  refine lv_bipush (v := 12) hx hb dX7_inBuckets_5 (by decide) ?_
                  refine lv_icmp_ge (tgt := 28) hx hb dX7_inBuckets_7 (by decide) (fun c_7_9 => ?_) (fun c_7_9 => ?_)
                  · skip
                    exact absurd c_7_9 (by decide)
                  · skip
                    refine lv_iload_n hx hb dX7_inBuckets_10 rfl (lv_at hl 1 rfl) ?_
                    refine lv_aload_n hx hb dX7_inBuckets_11 rfl (lv_at hl 2 rfl) ?_
                    refine gt_Mod_0_1 M hW kw_392 dX7_inBuckets_12 ?_
                    refine lv_bipush (v := 18) hx hb dX7_inBuckets_15 (by decide) ?_
                    refine lv_iload_n hx hb dX7_inBuckets_17 rfl (lv_at hl 0 rfl) ?_
                    refine lv_iadd hx hb dX7_inBuckets_18 ?_
                    refine r_top (y := 26) (by decide) ?_
                    refine al_Mod_1 M hW 26 rfl (by decide) (x := u 1 26) rfl dX7_inBuckets_19 ?_
                    refine lv_iadd hx hb dX7_inBuckets_20 ?_
                    refine lv_istore_n (lv' := [(1, .int (((((((((0 + (u 1 18)) + (u 1 19)) + (u 1 20)) + (u 1 21)) + (u 1 22)) + (u 1 23)) + (u 1 24)) + (u 1 25)) + (u 1 26))), (2, .int 8), (0, .ref (b 0))]) hx hb dX7_inBuckets_21 rfl hl (by decide) rfl (fun ls hl => ?_)
                    refine lv_iinc (v := 9) (lv' := [(2, .int 9), (1, .int (((((((((0 + (u 1 18)) + (u 1 19)) + (u 1 20)) + (u 1 21)) + (u 1 22)) + (u 1 23)) + (u 1 24)) + (u 1 25)) + (u 1 26))), (0, .ref (b 0))]) hx hb dX7_inBuckets_22 hl (k := 1) rfl (by decide) (by decide) rfl (fun ls hl => ?_)
                    refine lv_goto (tgt := 4) hx hb dX7_inBuckets_25 (by decide) ?_
                    refine lv_iload_n hx hb dX7_inBuckets_4 rfl (lv_at hl 0 rfl) ?_
                    refine lv_bipush (v := 12) hx hb dX7_inBuckets_5 (by decide) ?_
                    refine lv_icmp_ge (tgt := 28) hx hb dX7_inBuckets_7 (by decide) (fun c_7_10 => ?_) (fun c_7_10 => ?_)
                    · skip
                      exact absurd c_7_10 (by decide)
                    · skip
                      refine lv_iload_n hx hb dX7_inBuckets_10 rfl (lv_at hl 1 rfl) ?_
                      refine lv_aload_n hx hb dX7_inBuckets_11 rfl (lv_at hl 2 rfl) ?_
                      refine gt_Mod_0_1 M hW kw_392 dX7_inBuckets_12 ?_
                      refine lv_bipush (v := 18) hx hb dX7_inBuckets_15 (by decide) ?_
                      refine lv_iload_n hx hb dX7_inBuckets_17 rfl (lv_at hl 0 rfl) ?_
                      refine lv_iadd hx hb dX7_inBuckets_18 ?_
                      refine r_top (y := 27) (by decide) ?_
                      refine al_Mod_1 M hW 27 rfl (by decide) (x := u 1 27) rfl dX7_inBuckets_19 ?_
                      refine lv_iadd hx hb dX7_inBuckets_20 ?_
                      refine lv_istore_n (lv' := [(1, .int ((((((((((0 + (u 1 18)) + (u 1 19)) + (u 1 20)) + (u 1 21)) + (u 1 22)) + (u 1 23)) + (u 1 24)) + (u 1 25)) + (u 1 26)) + (u 1 27))), (2, .int 9), (0, .ref (b 0))]) hx hb dX7_inBuckets_21 rfl hl (by decide) rfl (fun ls hl => ?_)
                      refine lv_iinc (v := 10) (lv' := [(2, .int 10), (1, .int ((((((((((0 + (u 1 18)) + (u 1 19)) + (u 1 20)) + (u 1 21)) + (u 1 22)) + (u 1 23)) + (u 1 24)) + (u 1 25)) + (u 1 26)) + (u 1 27))), (0, .ref (b 0))]) hx hb dX7_inBuckets_22 hl (k := 1) rfl (by decide) (by decide) rfl (fun ls hl => ?_)
                      refine lv_goto (tgt := 4) hx hb dX7_inBuckets_25 (by decide) ?_
                      refine lv_iload_n hx hb dX7_inBuckets_4 rfl (lv_at hl 0 rfl) ?_
                      refine lv_bipush (v := 12) hx hb dX7_inBuckets_5 (by decide) ?_
                      refine lv_icmp_ge (tgt := 28) hx hb dX7_inBuckets_7 (by decide) (fun c_7_11 => ?_) (fun c_7_11 => ?_)
                      · skip
                        exact absurd c_7_11 (by decide)
                      · skip
                        refine lv_iload_n hx hb dX7_inBuckets_10 rfl (lv_at hl 1 rfl) ?_
                        refine lv_aload_n hx hb dX7_inBuckets_11 rfl (lv_at hl 2 rfl) ?_
                        refine gt_Mod_0_1 M hW kw_392 dX7_inBuckets_12 ?_
                        refine lv_bipush (v := 18) hx hb dX7_inBuckets_15 (by decide) ?_
                        refine lv_iload_n hx hb dX7_inBuckets_17 rfl (lv_at hl 0 rfl) ?_
                        refine lv_iadd hx hb dX7_inBuckets_18 ?_
                        refine r_top (y := 28) (by decide) ?_
                        refine al_Mod_1 M hW 28 rfl (by decide) (x := u 1 28) rfl dX7_inBuckets_19 ?_
                        refine lv_iadd hx hb dX7_inBuckets_20 ?_
                        refine lv_istore_n (lv' := [(1, .int (((((((((((0 + (u 1 18)) + (u 1 19)) + (u 1 20)) + (u 1 21)) + (u 1 22)) + (u 1 23)) + (u 1 24)) + (u 1 25)) + (u 1 26)) + (u 1 27)) + (u 1 28))), (2, .int 10), (0, .ref (b 0))]) hx hb dX7_inBuckets_21 rfl hl (by decide) rfl (fun ls hl => ?_)
                        refine lv_iinc (v := 11) (lv' := [(2, .int 11), (1, .int (((((((((((0 + (u 1 18)) + (u 1 19)) + (u 1 20)) + (u 1 21)) + (u 1 22)) + (u 1 23)) + (u 1 24)) + (u 1 25)) + (u 1 26)) + (u 1 27)) + (u 1 28))), (0, .ref (b 0))]) hx hb dX7_inBuckets_22 hl (k := 1) rfl (by decide) (by decide) rfl (fun ls hl => ?_)
                        refine lv_goto (tgt := 4) hx hb dX7_inBuckets_25 (by decide) ?_
                        refine lv_iload_n hx hb dX7_inBuckets_4 rfl (lv_at hl 0 rfl) ?_
                        refine lv_bipush (v := 12) hx hb dX7_inBuckets_5 (by decide) ?_
                        refine lv_icmp_ge (tgt := 28) hx hb dX7_inBuckets_7 (by decide) (fun c_7_12 => ?_) (fun c_7_12 => ?_)
                        · skip
                          exact absurd c_7_12 (by decide)
                        · skip
                          refine lv_iload_n hx hb dX7_inBuckets_10 rfl (lv_at hl 1 rfl) ?_
                          refine lv_aload_n hx hb dX7_inBuckets_11 rfl (lv_at hl 2 rfl) ?_
                          refine gt_Mod_0_1 M hW kw_392 dX7_inBuckets_12 ?_
                          refine lv_bipush (v := 18) hx hb dX7_inBuckets_15 (by decide) ?_
                          refine lv_iload_n hx hb dX7_inBuckets_17 rfl (lv_at hl 0 rfl) ?_
                          refine lv_iadd hx hb dX7_inBuckets_18 ?_
                          refine r_top (y := 29) (by decide) ?_
                          refine al_Mod_1 M hW 29 rfl (by decide) (x := u 1 29) rfl dX7_inBuckets_19 ?_
                          refine lv_iadd hx hb dX7_inBuckets_20 ?_
                          refine lv_istore_n (lv' := [(1, .int ((((((((((((0 + (u 1 18)) + (u 1 19)) + (u 1 20)) + (u 1 21)) + (u 1 22)) + (u 1 23)) + (u 1 24)) + (u 1 25)) + (u 1 26)) + (u 1 27)) + (u 1 28)) + (u 1 29))), (2, .int 11), (0, .ref (b 0))]) hx hb dX7_inBuckets_21 rfl hl (by decide) rfl (fun ls hl => ?_)
                          refine lv_iinc (v := 12) (lv' := [(2, .int 12), (1, .int ((((((((((((0 + (u 1 18)) + (u 1 19)) + (u 1 20)) + (u 1 21)) + (u 1 22)) + (u 1 23)) + (u 1 24)) + (u 1 25)) + (u 1 26)) + (u 1 27)) + (u 1 28)) + (u 1 29))), (0, .ref (b 0))]) hx hb dX7_inBuckets_22 hl (k := 1) rfl (by decide) (by decide) rfl (fun ls hl => ?_)
                          refine lv_goto (tgt := 4) hx hb dX7_inBuckets_25 (by decide) ?_
                          refine lv_iload_n hx hb dX7_inBuckets_4 rfl (lv_at hl 0 rfl) ?_
                          refine lv_bipush (v := 12) hx hb dX7_inBuckets_5 (by decide) ?_
                          refine lv_icmp_ge (tgt := 28) hx hb dX7_inBuckets_7 (by decide) (fun c_7_13 => ?_) (fun c_7_13 => ?_)
                          · skip
                            refine lv_iload_n hx hb dX7_inBuckets_28 rfl (lv_at hl 1 rfl) ?_
                            exact r_reti M hW rfl ⟨by rw [rX7_inBuckets], rfl⟩ (Nat.zero_le _) (Nat.zero_le _) dX7_inBuckets_29
                          · skip
                            exact absurd c_7_13 (by decide)

theorem in_01 (x lo hi : Int32) : rX7_in x lo hi = 0 ∨ rX7_in x lo hi = 1 := by
  unfold rX7_in
  by_cases c : x < lo
  · rw [if_pos c]; exact Or.inl rfl
  · rw [if_neg c]
    by_cases d : hi < x
    · rw [if_pos d]; exact Or.inl rfl
    · rw [if_neg d]; exact Or.inr rfl
def thr (u : Nat → Nat → Int32) : Nat → Nat → Int32 := up2 u 0 0 0

def rX7_isNumber (x : Int32) (y : Int32) : Int32 := if x = 0 then rX7_in y 0 6 else if x = 1 then rX7_in y 0 200 else if x = 2 then rX7_in y 0 40 else if x = 3 then rX7_in y 1 20 else rX7_in y (-9) 9
set_option maxHeartbeats 4000000 in
set_option maxRecDepth 100000 in
/-- X7.isNumber -/
theorem c_X7_isNumber (l : Launch) (G : Gp) (x : Int32) (y : Int32) (Y : va_W) : Cn l G yX7_isNumber cX7_isNumber 2 (some .boolean) 1 [.int x, .int y] (Y) (some (.int (rX7_isNumber x y))) (Y) := by
  refine CnE.of (by decide) (Nat.le_of_ble_eq_true rfl) ?_
  intro p e s m below meth c ls M hnm hl hW
  have hx := M.1
  have hb := M.2.1
  have hl : lv_has ls 2 [(0, .int x), (1, .int y)] := hl
  refine lv_iload_n hx hb dX7_isNumber_0 rfl (lv_at hl 0 rfl) ?_
  by_cases c_1_0 : x = 0
  · skip
    refine lv_tableIn (off := 31) (tgt := 32) hx hb dX7_isNumber_1 (by rw [c_1_0]; decide) (by rw [c_1_0]; decide) (by rw [c_1_0]; rfl) (by decide) ?_
    refine lv_iload_n hx hb dX7_isNumber_32 rfl (lv_at hl 1 rfl) ?_
    refine lv_iconst (v := 0) hx hb dX7_isNumber_33 (by decide) ?_
    refine lv_bipush (v := 6) hx hb dX7_isNumber_34 (by decide) ?_
    refine r_callSi M hW (as := [.int y, .int 0, .int 6]) (c_X7_in l G y 0 6 (Y)) rfl kw_441 kw_442 kw_412 kw_401 pl_X7_in ⟨by decide, by decide⟩ ⟨Nat.zero_le _, Nat.zero_le _⟩ hl.1 rfl (Nat.le_of_ble_eq_true rfl) dX7_isNumber_36 (fun H locs hW => ?_)
    exact r_retz M (nar_z (in_01 _ _ _)) hW rfl ⟨by rw [rX7_isNumber, if_pos c_1_0], rfl⟩ (Nat.zero_le _) (Nat.zero_le _) dX7_isNumber_39
  · skip
    by_cases c_1_1 : x = 1
    · skip
      refine lv_tableIn (off := 39) (tgt := 40) hx hb dX7_isNumber_1 (by rw [c_1_1]; decide) (by rw [c_1_1]; decide) (by rw [c_1_1]; rfl) (by decide) ?_
      refine lv_iload_n hx hb dX7_isNumber_40 rfl (lv_at hl 1 rfl) ?_
      refine lv_iconst (v := 0) hx hb dX7_isNumber_41 (by decide) ?_
      refine lv_sipush (v := 200) hx hb dX7_isNumber_42 (by decide) ?_
      refine r_callSi M hW (as := [.int y, .int 0, .int 200]) (c_X7_in l G y 0 200 (Y)) rfl kw_441 kw_442 kw_412 kw_401 pl_X7_in ⟨by decide, by decide⟩ ⟨Nat.zero_le _, Nat.zero_le _⟩ hl.1 rfl (Nat.le_of_ble_eq_true rfl) dX7_isNumber_45 (fun H locs hW => ?_)
      exact r_retz M (nar_z (in_01 _ _ _)) hW rfl ⟨by rw [rX7_isNumber, if_neg c_1_0, if_pos c_1_1], rfl⟩ (Nat.zero_le _) (Nat.zero_le _) dX7_isNumber_48
    · skip
      by_cases c_1_2 : x = 2
      · skip
        refine lv_tableIn (off := 48) (tgt := 49) hx hb dX7_isNumber_1 (by rw [c_1_2]; decide) (by rw [c_1_2]; decide) (by rw [c_1_2]; rfl) (by decide) ?_
        refine lv_iload_n hx hb dX7_isNumber_49 rfl (lv_at hl 1 rfl) ?_
        refine lv_iconst (v := 0) hx hb dX7_isNumber_50 (by decide) ?_
        refine lv_bipush (v := 40) hx hb dX7_isNumber_51 (by decide) ?_
        refine r_callSi M hW (as := [.int y, .int 0, .int 40]) (c_X7_in l G y 0 40 (Y)) rfl kw_441 kw_442 kw_412 kw_401 pl_X7_in ⟨by decide, by decide⟩ ⟨Nat.zero_le _, Nat.zero_le _⟩ hl.1 rfl (Nat.le_of_ble_eq_true rfl) dX7_isNumber_53 (fun H locs hW => ?_)
        exact r_retz M (nar_z (in_01 _ _ _)) hW rfl ⟨by rw [rX7_isNumber, if_neg c_1_0, if_neg c_1_1, if_pos c_1_2], rfl⟩ (Nat.zero_le _) (Nat.zero_le _) dX7_isNumber_56
      · skip
        by_cases c_1_3 : x = 3
        · skip
          refine lv_tableIn (off := 56) (tgt := 57) hx hb dX7_isNumber_1 (by rw [c_1_3]; decide) (by rw [c_1_3]; decide) (by rw [c_1_3]; rfl) (by decide) ?_
          refine lv_iload_n hx hb dX7_isNumber_57 rfl (lv_at hl 1 rfl) ?_
          refine lv_iconst (v := 1) hx hb dX7_isNumber_58 (by decide) ?_
          refine lv_bipush (v := 20) hx hb dX7_isNumber_59 (by decide) ?_
          refine r_callSi M hW (as := [.int y, .int 1, .int 20]) (c_X7_in l G y 1 20 (Y)) rfl kw_441 kw_442 kw_412 kw_401 pl_X7_in ⟨by decide, by decide⟩ ⟨Nat.zero_le _, Nat.zero_le _⟩ hl.1 rfl (Nat.le_of_ble_eq_true rfl) dX7_isNumber_61 (fun H locs hW => ?_)
          exact r_retz M (nar_z (in_01 _ _ _)) hW rfl ⟨by rw [rX7_isNumber, if_neg c_1_0, if_neg c_1_1, if_neg c_1_2, if_pos c_1_3], rfl⟩ (Nat.zero_le _) (Nat.zero_le _) dX7_isNumber_64
        · skip
          refine lv_tableOut (tgt := 65) hx hb dX7_isNumber_1 (tbl_out (0) (3) (fun k h1 h2 => ?_)) (by decide) ?_
          · have h3 : k = 0 ∨ k = 1 ∨ k = 2 ∨ k = 3 := by omega
            rcases h3 with rfl | rfl | rfl | rfl
            · exact c_1_0
            · exact c_1_1
            · exact c_1_2
            · exact c_1_3
          refine lv_iload_n hx hb dX7_isNumber_65 rfl (lv_at hl 1 rfl) ?_
          refine lv_bipush (v := (-9)) hx hb dX7_isNumber_66 (by decide) ?_
          refine lv_bipush (v := 9) hx hb dX7_isNumber_68 (by decide) ?_
          refine r_callSi M hW (as := [.int y, .int (-9), .int 9]) (c_X7_in l G y (-9) 9 (Y)) rfl kw_441 kw_442 kw_412 kw_401 pl_X7_in ⟨by decide, by decide⟩ ⟨Nat.zero_le _, Nat.zero_le _⟩ hl.1 rfl (Nat.le_of_ble_eq_true rfl) dX7_isNumber_70 (fun H locs hW => ?_)
          exact r_retz M (nar_z (in_01 _ _ _)) hW rfl ⟨by rw [rX7_isNumber, if_neg c_1_0, if_neg c_1_1, if_neg c_1_2, if_neg c_1_3], rfl⟩ (Nat.zero_le _) (Nat.zero_le _) dX7_isNumber_73

def rX7_refusesSet (u : Nat → Nat → Int32) (x : Int32) (y : Int32) : Int32 := if (rX7_in x 0 4) = 0 then (-101) else if (rX7_isNumber x y) = 0 then (-102) else if (u 1 x.toNatClampNeg) = y then (-105) else 0
set_option maxHeartbeats 4000000 in
set_option maxRecDepth 100000 in
/-- X7.refusesSet -/
theorem c_X7_refusesSet (l : Launch) (G : Gp) (b : Nat → Nat) (u : Nat → Nat → Int32) (x : Int32) (y : Int32) (Y : va_W) : Cn l G yX7_refusesSet cX7_refusesSet 3 (some .int) 2 [.ref (b 0), .int x, .int y] (ModW G b u ++ Y) (some (.int (rX7_refusesSet u x y))) (ModW G b u ++ Y) := by
  refine CnE.of (by decide) (Nat.le_of_ble_eq_true rfl) ?_
  intro p e s m below meth c ls M hnm hl hW
  have hx := M.1
  have hb := M.2.1
  have hl : lv_has ls 3 [(0, .ref (b 0)), (1, .int x), (2, .int y)] := hl
  refine lv_iload_n hx hb dX7_refusesSet_0 rfl (lv_at hl 1 rfl) ?_
  refine lv_iconst (v := 0) hx hb dX7_refusesSet_1 (by decide) ?_
  refine lv_iconst (v := 4) hx hb dX7_refusesSet_2 (by decide) ?_
  refine r_callSi M hW (as := [.int x, .int 0, .int 4]) (c_X7_in l G x 0 4 (ModW G b u ++ Y)) rfl kw_441 kw_442 kw_412 kw_401 pl_X7_in ⟨by decide, by decide⟩ ⟨Nat.zero_le _, Nat.zero_le _⟩ hl.1 rfl (Nat.le_of_ble_eq_true rfl) dX7_refusesSet_3 (fun H locs hW => ?_)
  refine lv_if_ne (tgt := 12) hx hb dX7_refusesSet_6 (by decide) (fun c_6 => ?_) (fun c_6 => ?_)
  · skip
    have hk := iw_c (n := 4) rfl (by decide) c_6
    refine lv_iload_n hx hb dX7_refusesSet_12 rfl (lv_at hl 1 rfl) ?_
    refine lv_iload_n hx hb dX7_refusesSet_13 rfl (lv_at hl 2 rfl) ?_
    refine r_callSi M hW (as := [.int x, .int y]) (c_X7_isNumber l G x y (ModW G b u ++ Y)) rfl kw_444 kw_445 kw_412 kw_440 pl_X7_isNumber ⟨by decide, by decide⟩ ⟨Nat.zero_le _, Nat.zero_le _⟩ hl.1 rfl (Nat.le_of_ble_eq_true rfl) dX7_refusesSet_14 (fun H locs hW => ?_)
    refine lv_if_ne (tgt := 25) hx hb dX7_refusesSet_17 (by decide) (fun c_17 => ?_) (fun c_17 => ?_)
    · skip
      refine lv_aload_n hx hb dX7_refusesSet_25 rfl (lv_at hl 0 rfl) ?_
      refine gt_Mod_0_1 M hW kw_392 dX7_refusesSet_26 ?_
      refine lv_iload_n hx hb dX7_refusesSet_29 rfl (lv_at hl 1 rfl) ?_
      refine al_Mod_1 M hW x.toNatClampNeg hk.1 (by omega) (x := u 1 x.toNatClampNeg) rfl dX7_refusesSet_30 ?_
      refine lv_iload_n hx hb dX7_refusesSet_31 rfl (lv_at hl 2 rfl) ?_
      refine lv_icmp_ne (tgt := 40) hx hb dX7_refusesSet_32 (by decide) (fun c_32 => ?_) (fun c_32 => ?_)
      · skip
        refine lv_iconst (v := 0) hx hb dX7_refusesSet_40 (by decide) ?_
        exact r_reti M hW rfl ⟨by rw [rX7_refusesSet, if_neg c_6, if_neg c_17, if_neg c_32], rfl⟩ (Nat.zero_le _) (Nat.zero_le _) dX7_refusesSet_41
      · skip
        refine lv_bipush (v := (-105)) hx hb dX7_refusesSet_35 (by decide) ?_
        refine lv_goto (tgt := 41) hx hb dX7_refusesSet_37 (by decide) ?_
        exact r_reti M hW rfl ⟨by rw [rX7_refusesSet, if_neg c_6, if_neg c_17, if_pos c_32], rfl⟩ (Nat.zero_le _) (Nat.zero_le _) dX7_refusesSet_41
    · skip
      refine lv_bipush (v := (-102)) hx hb dX7_refusesSet_20 (by decide) ?_
      refine lv_goto (tgt := 41) hx hb dX7_refusesSet_22 (by decide) ?_
      exact r_reti M hW rfl ⟨by rw [rX7_refusesSet, if_neg c_6, if_pos c_17], rfl⟩ (Nat.zero_le _) (Nat.zero_le _) dX7_refusesSet_41
  · skip
    refine lv_bipush (v := (-101)) hx hb dX7_refusesSet_9 (by decide) ?_
    exact r_reti M hW rfl ⟨by rw [rX7_refusesSet, if_pos c_6], rfl⟩ (Nat.zero_le _) (Nat.zero_le _) dX7_refusesSet_11

def rX7_refusesGate (u : Nat → Nat → Int32) (x : Int32) : Int32 := if x = 0 then (if (if (u 1 15) = 1 then 1 else 0) = x then (-105) else 0) else if (u 1 16) ≤ 0 then (if (if (u 1 15) = 1 then 1 else 0) = x then (-105) else 0) else (-104)
set_option maxHeartbeats 4000000 in
set_option maxRecDepth 100000 in
/-- X7.refusesGate -/
theorem c_X7_refusesGate (l : Launch) (G : Gp) (b : Nat → Nat) (u : Nat → Nat → Int32) (x : Int32) (Y : va_W) : Cn l G yX7_refusesGate cX7_refusesGate 2 (some .int) 0 [.ref (b 0), .int x] (ModW G b u ++ Y) (some (.int (rX7_refusesGate u x))) (ModW G b u ++ Y) := by
  refine CnE.of (by decide) (Nat.le_of_ble_eq_true rfl) ?_
  intro p e s m below meth c ls M hnm hl hW
  have hx := M.1
  have hb := M.2.1
  have hl : lv_has ls 2 [(0, .ref (b 0)), (1, .int x)] := hl
  refine lv_iload_n hx hb dX7_refusesGate_0 rfl (lv_at hl 1 rfl) ?_
  refine lv_if_eq (tgt := 17) hx hb dX7_refusesGate_1 (by decide) (fun c_1 => ?_) (fun c_1 => ?_)
  · skip
    refine lv_aload_n hx hb dX7_refusesGate_17 rfl (lv_at hl 0 rfl) ?_
    refine gt_Mod_0_1 M hW kw_392 dX7_refusesGate_18 ?_
    refine lv_bipush (v := 15) hx hb dX7_refusesGate_21 (by decide) ?_
    refine al_Mod_1 M hW 15 rfl (by decide) (x := u 1 15) rfl dX7_refusesGate_23 ?_
    refine lv_iconst (v := 1) hx hb dX7_refusesGate_24 (by decide) ?_
    refine r_cuti (pc2 := 33) (ls2 := ls) (st := []) (if (u 1 15) = 1 then 1 else 0) (fun x_33 hx_33 => ?_) (fun hJ_33 => ?_)
    · skip
      rewrite [hx_33]
      refine lv_iload_n hx hb dX7_refusesGate_33 rfl (lv_at hl 1 rfl) ?_
      refine lv_icmp_ne (tgt := 42) hx hb dX7_refusesGate_34 (by decide) (fun c_34 => ?_) (fun c_34 => ?_)
      · skip
        refine lv_iconst (v := 0) hx hb dX7_refusesGate_42 (by decide) ?_
        exact r_reti M hW rfl ⟨by rw [rX7_refusesGate, if_pos c_1, if_neg c_34], rfl⟩ (Nat.zero_le _) (Nat.zero_le _) dX7_refusesGate_43
      · skip
        refine lv_bipush (v := (-105)) hx hb dX7_refusesGate_37 (by decide) ?_
        refine lv_goto (tgt := 43) hx hb dX7_refusesGate_39 (by decide) ?_
        exact r_reti M hW rfl ⟨by rw [rX7_refusesGate, if_pos c_1, if_pos c_34], rfl⟩ (Nat.zero_le _) (Nat.zero_le _) dX7_refusesGate_43
    · skip
      refine lv_icmp_ne (tgt := 32) hx hb dX7_refusesGate_25 (by decide) (fun c_25 => ?_) (fun c_25 => ?_)
      · skip
        refine lv_iconst (v := 0) hx hb dX7_refusesGate_32 (by decide) ?_
        exact hJ_33 _ (by rw [if_neg c_25])
      · skip
        refine lv_iconst (v := 1) hx hb dX7_refusesGate_28 (by decide) ?_
        refine lv_goto (tgt := 33) hx hb dX7_refusesGate_29 (by decide) ?_
        exact hJ_33 _ (by rw [if_pos c_25])
  · skip
    refine lv_aload_n hx hb dX7_refusesGate_4 rfl (lv_at hl 0 rfl) ?_
    refine gt_Mod_0_1 M hW kw_392 dX7_refusesGate_5 ?_
    refine lv_bipush (v := 16) hx hb dX7_refusesGate_8 (by decide) ?_
    refine al_Mod_1 M hW 16 rfl (by decide) (x := u 1 16) rfl dX7_refusesGate_10 ?_
    refine lv_if_le (tgt := 17) hx hb dX7_refusesGate_11 (by decide) (fun c_11 => ?_) (fun c_11 => ?_)
    · skip
      refine lv_aload_n hx hb dX7_refusesGate_17 rfl (lv_at hl 0 rfl) ?_
      refine gt_Mod_0_1 M hW kw_392 dX7_refusesGate_18 ?_
      refine lv_bipush (v := 15) hx hb dX7_refusesGate_21 (by decide) ?_
      refine al_Mod_1 M hW 15 rfl (by decide) (x := u 1 15) rfl dX7_refusesGate_23 ?_
      refine lv_iconst (v := 1) hx hb dX7_refusesGate_24 (by decide) ?_
      refine r_cuti (pc2 := 33) (ls2 := ls) (st := []) (if (u 1 15) = 1 then 1 else 0) (fun x_33 hx_33 => ?_) (fun hJ_33 => ?_)
      · skip
        rewrite [hx_33]
        refine lv_iload_n hx hb dX7_refusesGate_33 rfl (lv_at hl 1 rfl) ?_
        refine lv_icmp_ne (tgt := 42) hx hb dX7_refusesGate_34 (by decide) (fun c_34 => ?_) (fun c_34 => ?_)
        · skip
          refine lv_iconst (v := 0) hx hb dX7_refusesGate_42 (by decide) ?_
          exact r_reti M hW rfl ⟨by rw [rX7_refusesGate, if_neg c_1, if_pos c_11, if_neg c_34], rfl⟩ (Nat.zero_le _) (Nat.zero_le _) dX7_refusesGate_43
        · skip
          refine lv_bipush (v := (-105)) hx hb dX7_refusesGate_37 (by decide) ?_
          refine lv_goto (tgt := 43) hx hb dX7_refusesGate_39 (by decide) ?_
          exact r_reti M hW rfl ⟨by rw [rX7_refusesGate, if_neg c_1, if_pos c_11, if_pos c_34], rfl⟩ (Nat.zero_le _) (Nat.zero_le _) dX7_refusesGate_43
      · skip
        refine lv_icmp_ne (tgt := 32) hx hb dX7_refusesGate_25 (by decide) (fun c_25_2 => ?_) (fun c_25_2 => ?_)
        · skip
          refine lv_iconst (v := 0) hx hb dX7_refusesGate_32 (by decide) ?_
          exact hJ_33 _ (by rw [if_neg c_25_2])
        · skip
          refine lv_iconst (v := 1) hx hb dX7_refusesGate_28 (by decide) ?_
          refine lv_goto (tgt := 33) hx hb dX7_refusesGate_29 (by decide) ?_
          exact hJ_33 _ (by rw [if_pos c_25_2])
    · skip
      refine lv_bipush (v := (-104)) hx hb dX7_refusesGate_14 (by decide) ?_
      exact r_reti M hW rfl ⟨by rw [rX7_refusesGate, if_neg c_1, if_neg c_11], rfl⟩ (Nat.zero_le _) (Nat.zero_le _) dX7_refusesGate_16

def rX7_refusesStart (u : Nat → Nat → Int32) : Int32 := if (u 1 16) ≤ 0 then (if (u 1 14) = 1 then (-105) else 0) else (-104)
set_option maxHeartbeats 4000000 in
set_option maxRecDepth 100000 in
/-- X7.refusesStart -/
theorem c_X7_refusesStart (l : Launch) (G : Gp) (b : Nat → Nat) (u : Nat → Nat → Int32) (Y : va_W) : Cn l G yX7_refusesStart cX7_refusesStart 1 (some .int) 0 [.ref (b 0)] (ModW G b u ++ Y) (some (.int (rX7_refusesStart u))) (ModW G b u ++ Y) := by
  refine CnE.of (by decide) (Nat.le_of_ble_eq_true rfl) ?_
  intro p e s m below meth c ls M hnm hl hW
  have hx := M.1
  have hb := M.2.1
  have hl : lv_has ls 1 [(0, .ref (b 0))] := hl
  refine lv_aload_n hx hb dX7_refusesStart_0 rfl (lv_at hl 0 rfl) ?_
  refine gt_Mod_0_1 M hW kw_392 dX7_refusesStart_1 ?_
  refine lv_bipush (v := 16) hx hb dX7_refusesStart_4 (by decide) ?_
  refine al_Mod_1 M hW 16 rfl (by decide) (x := u 1 16) rfl dX7_refusesStart_6 ?_
  refine lv_if_le (tgt := 15) hx hb dX7_refusesStart_7 (by decide) (fun c_7 => ?_) (fun c_7 => ?_)
  · skip
    refine lv_aload_n hx hb dX7_refusesStart_15 rfl (lv_at hl 0 rfl) ?_
    refine gt_Mod_0_1 M hW kw_392 dX7_refusesStart_16 ?_
    refine lv_bipush (v := 14) hx hb dX7_refusesStart_19 (by decide) ?_
    refine al_Mod_1 M hW 14 rfl (by decide) (x := u 1 14) rfl dX7_refusesStart_21 ?_
    refine lv_iconst (v := 1) hx hb dX7_refusesStart_22 (by decide) ?_
    refine lv_icmp_ne (tgt := 31) hx hb dX7_refusesStart_23 (by decide) (fun c_23 => ?_) (fun c_23 => ?_)
    · skip
      refine lv_iconst (v := 0) hx hb dX7_refusesStart_31 (by decide) ?_
      exact r_reti M hW rfl ⟨by rw [rX7_refusesStart, if_pos c_7, if_neg c_23], rfl⟩ (Nat.zero_le _) (Nat.zero_le _) dX7_refusesStart_32
    · skip
      refine lv_bipush (v := (-105)) hx hb dX7_refusesStart_26 (by decide) ?_
      refine lv_goto (tgt := 32) hx hb dX7_refusesStart_28 (by decide) ?_
      exact r_reti M hW rfl ⟨by rw [rX7_refusesStart, if_pos c_7, if_pos c_23], rfl⟩ (Nat.zero_le _) (Nat.zero_le _) dX7_refusesStart_32
  · skip
    refine lv_bipush (v := (-104)) hx hb dX7_refusesStart_10 (by decide) ?_
    refine lv_goto (tgt := 32) hx hb dX7_refusesStart_12 (by decide) ?_
    exact r_reti M hW rfl ⟨by rw [rX7_refusesStart, if_neg c_7], rfl⟩ (Nat.zero_le _) (Nat.zero_le _) dX7_refusesStart_32

def rX7_refusesReset (u : Nat → Nat → Int32) : Int32 := if (u 1 16) = 0 then (-105) else if (u 1 16) = 1 then (if (u 1 1) < (rX7_load u) then (-104) else 0) else if (u 1 16) = 2 then (if 150 ≤ (u 1 5) then (-104) else 0) else if 50 ≤ (u 1 13) then (-104) else 0
set_option maxHeartbeats 4000000 in
set_option maxRecDepth 100000 in
/-- X7.refusesReset -/
theorem c_X7_refusesReset (l : Launch) (G : Gp) (b : Nat → Nat) (u : Nat → Nat → Int32) (Y : va_W) : Cn l G yX7_refusesReset cX7_refusesReset 1 (some .int) 1 [.ref (b 0)] (ModW G b u ++ Y) (some (.int (rX7_refusesReset u))) (ModW G b u ++ Y) := by
  refine CnE.of (by decide) (Nat.le_of_ble_eq_true rfl) ?_
  intro p e s m below meth c ls M hnm hl hW
  have hx := M.1
  have hb := M.2.1
  have hl : lv_has ls 1 [(0, .ref (b 0))] := hl
  refine lv_aload_n hx hb dX7_refusesReset_0 rfl (lv_at hl 0 rfl) ?_
  refine gt_Mod_0_1 M hW kw_392 dX7_refusesReset_1 ?_
  refine lv_bipush (v := 16) hx hb dX7_refusesReset_4 (by decide) ?_
  refine al_Mod_1 M hW 16 rfl (by decide) (x := u 1 16) rfl dX7_refusesReset_6 ?_
  by_cases c_7_0 : (u 1 16) = 0
  · skip
    refine lv_tableIn (off := 25) (tgt := 32) hx hb dX7_refusesReset_7 (by rw [c_7_0]; decide) (by rw [c_7_0]; decide) (by rw [c_7_0]; rfl) (by decide) ?_
    refine lv_bipush (v := (-105)) hx hb dX7_refusesReset_32 (by decide) ?_
    exact r_reti M hW rfl ⟨by rw [rX7_refusesReset, if_pos c_7_0], rfl⟩ (Nat.zero_le _) (Nat.zero_le _) dX7_refusesReset_34
  · skip
    by_cases c_7_1 : (u 1 16) = 1
    · skip
      refine lv_tableIn (off := 28) (tgt := 35) hx hb dX7_refusesReset_7 (by rw [c_7_1]; decide) (by rw [c_7_1]; decide) (by rw [c_7_1]; rfl) (by decide) ?_
      refine lv_aload_n hx hb dX7_refusesReset_35 rfl (lv_at hl 0 rfl) ?_
      refine r_callVi M hW (c_X7_load l G b u  (Y)) rfl kw_416 kw_417 kw_418 kw_412 kw_406 pl_X7_load 0 rfl rfl ⟨by decide, by decide⟩ ⟨Nat.zero_le _, Nat.zero_le _⟩ hl.1 rfl (Nat.le_of_ble_eq_true rfl) dX7_refusesReset_36 (fun H locs hW => ?_)
      refine lv_aload_n hx hb dX7_refusesReset_39 rfl (lv_at hl 0 rfl) ?_
      refine gt_Mod_0_1 M hW kw_392 dX7_refusesReset_40 ?_
      refine lv_iconst (v := 1) hx hb dX7_refusesReset_43 (by decide) ?_
      refine al_Mod_1 M hW 1 rfl (by decide) (x := u 1 1) rfl dX7_refusesReset_44 ?_
      refine lv_icmp_gt (tgt := 52) hx hb dX7_refusesReset_45 (by decide) (fun c_45 => ?_) (fun c_45 => ?_)
      · skip
        refine lv_bipush (v := (-104)) hx hb dX7_refusesReset_52 (by decide) ?_
        exact r_reti M hW rfl ⟨by rw [rX7_refusesReset, if_neg c_7_0, if_pos c_7_1, if_pos c_45], rfl⟩ (Nat.zero_le _) (Nat.zero_le _) dX7_refusesReset_54
      · skip
        refine lv_iconst (v := 0) hx hb dX7_refusesReset_48 (by decide) ?_
        refine lv_goto (tgt := 54) hx hb dX7_refusesReset_49 (by decide) ?_
        exact r_reti M hW rfl ⟨by rw [rX7_refusesReset, if_neg c_7_0, if_pos c_7_1, if_neg c_45], rfl⟩ (Nat.zero_le _) (Nat.zero_le _) dX7_refusesReset_54
    · skip
      by_cases c_7_2 : (u 1 16) = 2
      · skip
        refine lv_tableIn (off := 48) (tgt := 55) hx hb dX7_refusesReset_7 (by rw [c_7_2]; decide) (by rw [c_7_2]; decide) (by rw [c_7_2]; rfl) (by decide) ?_
        refine lv_aload_n hx hb dX7_refusesReset_55 rfl (lv_at hl 0 rfl) ?_
        refine gt_Mod_0_1 M hW kw_392 dX7_refusesReset_56 ?_
        refine lv_iconst (v := 5) hx hb dX7_refusesReset_59 (by decide) ?_
        refine al_Mod_1 M hW 5 rfl (by decide) (x := u 1 5) rfl dX7_refusesReset_60 ?_
        refine lv_sipush (v := 150) hx hb dX7_refusesReset_61 (by decide) ?_
        refine lv_icmp_ge (tgt := 71) hx hb dX7_refusesReset_64 (by decide) (fun c_64 => ?_) (fun c_64 => ?_)
        · skip
          refine lv_bipush (v := (-104)) hx hb dX7_refusesReset_71 (by decide) ?_
          exact r_reti M hW rfl ⟨by rw [rX7_refusesReset, if_neg c_7_0, if_neg c_7_1, if_pos c_7_2, if_pos c_64], rfl⟩ (Nat.zero_le _) (Nat.zero_le _) dX7_refusesReset_73
        · skip
          refine lv_iconst (v := 0) hx hb dX7_refusesReset_67 (by decide) ?_
          refine lv_goto (tgt := 73) hx hb dX7_refusesReset_68 (by decide) ?_
          exact r_reti M hW rfl ⟨by rw [rX7_refusesReset, if_neg c_7_0, if_neg c_7_1, if_pos c_7_2, if_neg c_64], rfl⟩ (Nat.zero_le _) (Nat.zero_le _) dX7_refusesReset_73
      · skip
        refine lv_tableOut (tgt := 74) hx hb dX7_refusesReset_7 (tbl_out (0) (2) (fun k h1 h2 => ?_)) (by decide) ?_
        · have h3 : k = 0 ∨ k = 1 ∨ k = 2 := by omega
          rcases h3 with rfl | rfl | rfl
          · exact c_7_0
          · exact c_7_1
          · exact c_7_2
        refine lv_aload_n hx hb dX7_refusesReset_74 rfl (lv_at hl 0 rfl) ?_
        refine gt_Mod_0_1 M hW kw_392 dX7_refusesReset_75 ?_
        refine lv_bipush (v := 13) hx hb dX7_refusesReset_78 (by decide) ?_
        refine al_Mod_1 M hW 13 rfl (by decide) (x := u 1 13) rfl dX7_refusesReset_80 ?_
        refine lv_bipush (v := 50) hx hb dX7_refusesReset_81 (by decide) ?_
        refine lv_icmp_ge (tgt := 90) hx hb dX7_refusesReset_83 (by decide) (fun c_83 => ?_) (fun c_83 => ?_)
        · skip
          refine lv_bipush (v := (-104)) hx hb dX7_refusesReset_90 (by decide) ?_
          exact r_reti M hW rfl ⟨by rw [rX7_refusesReset, if_neg c_7_0, if_neg c_7_1, if_neg c_7_2, if_pos c_83], rfl⟩ (Nat.zero_le _) (Nat.zero_le _) dX7_refusesReset_92
        · skip
          refine lv_iconst (v := 0) hx hb dX7_refusesReset_86 (by decide) ?_
          refine lv_goto (tgt := 92) hx hb dX7_refusesReset_87 (by decide) ?_
          exact r_reti M hW rfl ⟨by rw [rX7_refusesReset, if_neg c_7_0, if_neg c_7_1, if_neg c_7_2, if_neg c_83], rfl⟩ (Nat.zero_le _) (Nat.zero_le _) dX7_refusesReset_92

def rX7_refusesRun (u : Nat → Nat → Int32) (x : Int32) : Int32 := if (rX7_in x 1 200) = 0 then (-102) else if ((u 1 17) + x) ≤ 99999 then 0 else (-103)
set_option maxHeartbeats 4000000 in
set_option maxRecDepth 100000 in
/-- X7.refusesRun -/
theorem c_X7_refusesRun (l : Launch) (G : Gp) (b : Nat → Nat) (u : Nat → Nat → Int32) (x : Int32) (Y : va_W) : Cn l G yX7_refusesRun cX7_refusesRun 2 (some .int) 1 [.ref (b 0), .int x] (ModW G b u ++ Y) (some (.int (rX7_refusesRun u x))) (ModW G b u ++ Y) := by
  refine CnE.of (by decide) (Nat.le_of_ble_eq_true rfl) ?_
  intro p e s m below meth c ls M hnm hl hW
  have hx := M.1
  have hb := M.2.1
  have hl : lv_has ls 2 [(0, .ref (b 0)), (1, .int x)] := hl
  refine lv_iload_n hx hb dX7_refusesRun_0 rfl (lv_at hl 1 rfl) ?_
  refine lv_iconst (v := 1) hx hb dX7_refusesRun_1 (by decide) ?_
  refine lv_sipush (v := 200) hx hb dX7_refusesRun_2 (by decide) ?_
  refine r_callSi M hW (as := [.int x, .int 1, .int 200]) (c_X7_in l G x 1 200 (ModW G b u ++ Y)) rfl kw_441 kw_442 kw_412 kw_401 pl_X7_in ⟨by decide, by decide⟩ ⟨Nat.zero_le _, Nat.zero_le _⟩ hl.1 rfl (Nat.le_of_ble_eq_true rfl) dX7_refusesRun_5 (fun H locs hW => ?_)
  refine lv_if_ne (tgt := 16) hx hb dX7_refusesRun_8 (by decide) (fun c_8 => ?_) (fun c_8 => ?_)
  · skip
    refine lv_aload_n hx hb dX7_refusesRun_16 rfl (lv_at hl 0 rfl) ?_
    refine gt_Mod_0_1 M hW kw_392 dX7_refusesRun_17 ?_
    refine lv_bipush (v := 17) hx hb dX7_refusesRun_20 (by decide) ?_
    refine al_Mod_1 M hW 17 rfl (by decide) (x := u 1 17) rfl dX7_refusesRun_22 ?_
    refine lv_iload_n hx hb dX7_refusesRun_23 rfl (lv_at hl 1 rfl) ?_
    refine lv_iadd hx hb dX7_refusesRun_24 ?_
    refine lv_ldc (v := 99999) hx hb M.2.2.2.2.1 (M.2.2.2.2.2.1 _ kw_450) dX7_refusesRun_25 ?_
    refine lv_icmp_le (tgt := 35) hx hb dX7_refusesRun_27 (by decide) (fun c_27 => ?_) (fun c_27 => ?_)
    · skip
      refine lv_iconst (v := 0) hx hb dX7_refusesRun_35 (by decide) ?_
      exact r_reti M hW rfl ⟨by rw [rX7_refusesRun, if_neg c_8, if_pos c_27], rfl⟩ (Nat.zero_le _) (Nat.zero_le _) dX7_refusesRun_36
    · skip
      refine lv_bipush (v := (-103)) hx hb dX7_refusesRun_30 (by decide) ?_
      refine lv_goto (tgt := 36) hx hb dX7_refusesRun_32 (by decide) ?_
      exact r_reti M hW rfl ⟨by rw [rX7_refusesRun, if_neg c_8, if_neg c_27], rfl⟩ (Nat.zero_le _) (Nat.zero_le _) dX7_refusesRun_36
  · skip
    refine lv_bipush (v := (-102)) hx hb dX7_refusesRun_11 (by decide) ?_
    refine lv_goto (tgt := 36) hx hb dX7_refusesRun_13 (by decide) ?_
    exact r_reti M hW rfl ⟨by rw [rX7_refusesRun, if_pos c_8], rfl⟩ (Nat.zero_le _) (Nat.zero_le _) dX7_refusesRun_36
