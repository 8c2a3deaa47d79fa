def tripsA (u : Nat → Nat → Int32) (x : Int32) : Nat → Nat → Int32 := up2 (up2 (up2 (up2 u 1 14 0) 1 15 0) 1 16 (x + 1)) 1 (33 + x.toNatClampNeg) (((up2 (up2 (up2 u 1 14 0) 1 15 0) 1 16 (x + 1)) 1 (33 + x.toNatClampNeg)) + 1)
def sX7_trips (u : Nat → Nat → Int32) (x : Int32) : Nat → Nat → Int32 := up2 (up2 (up2 (up2 (up2 (up2 (up2 (up2 (up2 (up2 (up2 (up2 (up2 (up2 (up2 (up2 (up2 (up2 (up2 (tripsA u x) 1 54 ((tripsA u x) 1 51)) 1 53 ((tripsA u x) 1 50)) 1 52 ((tripsA u x) 1 49)) 1 51 ((tripsA u x) 1 48)) 1 50 ((tripsA u x) 1 47)) 1 49 ((tripsA u x) 1 46)) 1 48 ((tripsA u x) 1 45)) 1 47 ((tripsA u x) 1 44)) 1 46 ((tripsA u x) 1 43)) 1 45 ((tripsA u x) 1 42)) 1 44 ((tripsA u x) 1 41)) 1 43 ((tripsA u x) 1 40)) 1 42 ((tripsA u x) 1 39)) 1 41 ((tripsA u x) 1 38)) 1 40 ((tripsA u x) 1 37)) 1 37 (((tripsA u x) 1 17) + 1)) 1 38 x) 1 39 (rX7_load (up2 (up2 (up2 (up2 (up2 (up2 (up2 (up2 (up2 (up2 (up2 (up2 (up2 (up2 (up2 (up2 (up2 (tripsA u x) 1 54 ((tripsA u x) 1 51)) 1 53 ((tripsA u x) 1 50)) 1 52 ((tripsA u x) 1 49)) 1 51 ((tripsA u x) 1 48)) 1 50 ((tripsA u x) 1 47)) 1 49 ((tripsA u x) 1 46)) 1 48 ((tripsA u x) 1 45)) 1 47 ((tripsA u x) 1 44)) 1 46 ((tripsA u x) 1 43)) 1 45 ((tripsA u x) 1 42)) 1 44 ((tripsA u x) 1 41)) 1 43 ((tripsA u x) 1 40)) 1 42 ((tripsA u x) 1 39)) 1 41 ((tripsA u x) 1 38)) 1 40 ((tripsA u x) 1 37)) 1 37 (((tripsA u x) 1 17) + 1)) 1 38 x))) 1 36 (((tripsA u x) 1 36) + (if 6 ≤ ((tripsA u x) 1 36) then 0 else 1))
set_option maxHeartbeats 4000000 in
set_option maxRecDepth 100000 in
/-- X7.trips -/
theorem c_X7_trips (l : Launch) (G : Gp) (b : Nat → Nat) (u : Nat → Nat → Int32) (x : Int32) (Y : va_W) (hxn : x = nI x.toNatClampNeg ∧ x.toNatClampNeg ≤ 2) : Cn l G yX7_trips cX7_trips 3 none 1 [.ref (b 0), .int x] (ModW G b u ++ Y) none (ModW G b (sX7_trips u x) ++ Y) := by
  refine CnE.of (by decide) (Nat.le_of_ble_eq_true rfl) ?_
  intro p e s m below meth c ls M hnm hl hW
  have hx := M.1
  have hb := M.2.1
  have hl : lv_has ls 3 [(0, .ref (b 0)), (1, .int x)] := hl
  refine lv_aload_n hx hb dX7_trips_0 rfl (lv_at hl 0 rfl) ?_
  refine gt_Mod_0_1 M hW kw_392 dX7_trips_1 ?_
  refine lv_bipush (v := 14) hx hb dX7_trips_4 (by decide) ?_
  refine lv_iconst (v := 0) hx hb dX7_trips_6 (by decide) ?_
  refine as_Mod_1 M hW 14 rfl (by decide) dX7_trips_7 (fun H locs hW => ?_)
  refine lv_aload_n hx hb dX7_trips_8 rfl (lv_at hl 0 rfl) ?_
  refine gt_Mod_0_1 M hW kw_392 dX7_trips_9 ?_
  refine lv_bipush (v := 15) hx hb dX7_trips_12 (by decide) ?_
  refine lv_iconst (v := 0) hx hb dX7_trips_14 (by decide) ?_
  refine as_Mod_1 M hW 15 rfl (by decide) dX7_trips_15 (fun H locs hW => ?_)
  refine lv_aload_n hx hb dX7_trips_16 rfl (lv_at hl 0 rfl) ?_
  refine gt_Mod_0_1 M hW kw_392 dX7_trips_17 ?_
  refine lv_bipush (v := 16) hx hb dX7_trips_20 (by decide) ?_
  refine lv_iload_n hx hb dX7_trips_22 rfl (lv_at hl 1 rfl) ?_
  refine lv_iconst (v := 1) hx hb dX7_trips_23 (by decide) ?_
  refine lv_iadd hx hb dX7_trips_24 ?_
  refine as_Mod_1 M hW 16 rfl (by decide) dX7_trips_25 (fun H locs hW => ?_)
  refine lv_aload_n hx hb dX7_trips_26 rfl (lv_at hl 0 rfl) ?_
  refine gt_Mod_0_1 M hW kw_392 dX7_trips_27 ?_
  refine lv_bipush (v := 33) hx hb dX7_trips_30 (by decide) ?_
  refine lv_iload_n hx hb dX7_trips_32 rfl (lv_at hl 1 rfl) ?_
  refine lv_iadd hx hb dX7_trips_33 ?_
  refine r_top (y := nI (33 + x.toNatClampNeg)) (nI_addl 33 hxn.1) ?_
  refine lv_dup2_11 hx hb dX7_trips_34 rfl rfl ?_
  refine al_Mod_1 M hW (33 + x.toNatClampNeg) rfl (by omega) (x := (up2 (up2 (up2 u 1 14 0) 1 15 0) 1 16 (x + 1)) 1 (33 + x.toNatClampNeg)) rfl dX7_trips_35 ?_
  refine lv_iconst (v := 1) hx hb dX7_trips_36 (by decide) ?_
  refine lv_iadd hx hb dX7_trips_37 ?_
  refine as_Mod_1 M hW (33 + x.toNatClampNeg) rfl (by omega) dX7_trips_38 (fun H locs hW => ?_)
  have hW : Wd G s (ModW G b (tripsA u x) ++ Y) _ _ := hW
  refine lv_bipush (v := 17) hx hb dX7_trips_39 (by decide) ?_
  refine lv_istore_n (lv' := [(2, .int 17), (0, .ref (b 0)), (1, .int x)]) hx hb dX7_trips_41 rfl hl (by decide) rfl (fun ls hl => ?_)
  refine lv_iload_n hx hb dX7_trips_42 rfl (lv_at hl 0 rfl) ?_
  refine lv_iconst (v := 3) hx hb dX7_trips_43 (by decide) ?_
  refine lv_icmp_lt (tgt := 73) hx hb dX7_trips_44 (by decide) (fun c_44 => ?_) (fun c_44 => ?_)
  · skip
    exact absurd c_44 (by decide)
  · skip
    refine lv_aload_n hx hb dX7_trips_47 rfl (lv_at hl 1 rfl) ?_
    refine gt_Mod_0_1 M hW kw_392 dX7_trips_48 ?_
    refine lv_bipush (v := 37) hx hb dX7_trips_51 (by decide) ?_
    refine lv_iload_n hx hb dX7_trips_53 rfl (lv_at hl 0 rfl) ?_
    refine lv_iadd hx hb dX7_trips_54 ?_
    refine r_top (y := 54) (by decide) ?_
    refine lv_aload_n hx hb dX7_trips_55 rfl (lv_at hl 1 rfl) ?_
    refine gt_Mod_0_1 M hW kw_392 dX7_trips_56 ?_
    refine lv_bipush (v := 37) hx hb dX7_trips_59 (by decide) ?_
    refine lv_iload_n hx hb dX7_trips_61 rfl (lv_at hl 0 rfl) ?_
    refine lv_iadd hx hb dX7_trips_62 ?_
    refine r_top (y := 54) (by decide) ?_
    refine lv_iconst (v := 3) hx hb dX7_trips_63 (by decide) ?_
    refine lv_isub hx hb dX7_trips_64 ?_
    refine r_top (y := 51) (by decide) ?_
    refine al_Mod_1 M hW 51 rfl (by decide) (x := (tripsA u x) 1 51) rfl dX7_trips_65 ?_
    refine as_Mod_1 M hW 54 rfl (by decide) dX7_trips_66 (fun H locs hW => ?_)
    refine lv_iinc (v := 16) (lv' := [(2, .int 16), (0, .ref (b 0)), (1, .int x)]) hx hb dX7_trips_67 hl (k := 0) rfl (by decide) (by decide) rfl (fun ls hl => ?_)
    refine lv_goto (tgt := 42) hx hb dX7_trips_70 (by decide) ?_
    refine lv_iload_n hx hb dX7_trips_42 rfl (lv_at hl 0 rfl) ?_
    refine lv_iconst (v := 3) hx hb dX7_trips_43 (by decide) ?_
    refine lv_icmp_lt (tgt := 73) hx hb dX7_trips_44 (by decide) (fun c_44_2 => ?_) (fun c_44_2 => ?_)
    · skip
      exact absurd c_44_2 (by decide)
    · skip
      refine lv_aload_n hx hb dX7_trips_47 rfl (lv_at hl 1 rfl) ?_
      refine gt_Mod_0_1 M hW kw_392 dX7_trips_48 ?_
      refine lv_bipush (v := 37) hx hb dX7_trips_51 (by decide) ?_
      refine lv_iload_n hx hb dX7_trips_53 rfl (lv_at hl 0 rfl) ?_
      refine lv_iadd hx hb dX7_trips_54 ?_
      refine r_top (y := 53) (by decide) ?_
      refine lv_aload_n hx hb dX7_trips_55 rfl (lv_at hl 1 rfl) ?_
      refine gt_Mod_0_1 M hW kw_392 dX7_trips_56 ?_
      refine lv_bipush (v := 37) hx hb dX7_trips_59 (by decide) ?_
      refine lv_iload_n hx hb dX7_trips_61 rfl (lv_at hl 0 rfl) ?_
      refine lv_iadd hx hb dX7_trips_62 ?_
      refine r_top (y := 53) (by decide) ?_
      refine lv_iconst (v := 3) hx hb dX7_trips_63 (by decide) ?_
      refine lv_isub hx hb dX7_trips_64 ?_
      refine r_top (y := 50) (by decide) ?_
      refine al_Mod_1 M hW 50 rfl (by decide) (x := (tripsA u x) 1 50) (up2_k (by decide)) dX7_trips_65 ?_
      refine as_Mod_1 M hW 53 rfl (by decide) dX7_trips_66 (fun H locs hW => ?_)
      refine lv_iinc (v := 15) (lv' := [(2, .int 15), (0, .ref (b 0)), (1, .int x)]) hx hb dX7_trips_67 hl (k := 0) rfl (by decide) (by decide) rfl (fun ls hl => ?_)
      refine lv_goto (tgt := 42) hx hb dX7_trips_70 (by decide) ?_
      refine lv_iload_n hx hb dX7_trips_42 rfl (lv_at hl 0 rfl) ?_
      refine lv_iconst (v := 3) hx hb dX7_trips_43 (by decide) ?_
      refine lv_icmp_lt (tgt := 73) hx hb dX7_trips_44 (by decide) (fun c_44_3 => ?_) (fun c_44_3 => ?_)
      · skip
        exact absurd c_44_3 (by decide)
      · skip
        refine lv_aload_n hx hb dX7_trips_47 rfl (lv_at hl 1 rfl) ?_
        refine gt_Mod_0_1 M hW kw_392 dX7_trips_48 ?_
        refine lv_bipush (v := 37) hx hb dX7_trips_51 (by decide) ?_
        refine lv_iload_n hx hb dX7_trips_53 rfl (lv_at hl 0 rfl) ?_
        refine lv_iadd hx hb dX7_trips_54 ?_
        refine r_top (y := 52) (by decide) ?_
        refine lv_aload_n hx hb dX7_trips_55 rfl (lv_at hl 1 rfl) ?_
        refine gt_Mod_0_1 M hW kw_392 dX7_trips_56 ?_
        refine lv_bipush (v := 37) hx hb dX7_trips_59 (by decide) ?_
        refine lv_iload_n hx hb dX7_trips_61 rfl (lv_at hl 0 rfl) ?_
        refine lv_iadd hx hb dX7_trips_62 ?_
        refine r_top (y := 52) (by decide) ?_
        refine lv_iconst (v := 3) hx hb dX7_trips_63 (by decide) ?_
        refine lv_isub hx hb dX7_trips_64 ?_
        refine r_top (y := 49) (by decide) ?_
        refine al_Mod_1 M hW 49 rfl (by decide) (x := (tripsA u x) 1 49) ((up2_k (by decide)).trans (up2_k (by decide))) dX7_trips_65 ?_
        refine as_Mod_1 M hW 52 rfl (by decide) dX7_trips_66 (fun H locs hW => ?_)
        refine lv_iinc (v := 14) (lv' := [(2, .int 14), (0, .ref (b 0)), (1, .int x)]) hx hb dX7_trips_67 hl (k := 0) rfl (by decide) (by decide) rfl (fun ls hl => ?_)
        refine lv_goto (tgt := 42) hx hb dX7_trips_70 (by decide) ?_
        refine lv_iload_n hx hb dX7_trips_42 rfl (lv_at hl 0 rfl) ?_
        refine lv_iconst (v := 3) hx hb dX7_trips_43 (by decide) ?_
        refine lv_icmp_lt (tgt := 73) hx hb dX7_trips_44 (by decide) (fun c_44_4 => ?_) (fun c_44_4 => ?_)
        · skip
          exact absurd c_44_4 (by decide)
        · skip
          refine lv_aload_n hx hb dX7_trips_47 rfl (lv_at hl 1 rfl) ?_
          refine gt_Mod_0_1 M hW kw_392 dX7_trips_48 ?_
          refine lv_bipush (v := 37) hx hb dX7_trips_51 (by decide) ?_
          refine lv_iload_n hx hb dX7_trips_53 rfl (lv_at hl 0 rfl) ?_
          refine lv_iadd hx hb dX7_trips_54 ?_
          refine r_top (y := 51) (by decide) ?_
          refine lv_aload_n hx hb dX7_trips_55 rfl (lv_at hl 1 rfl) ?_
          refine gt_Mod_0_1 M hW kw_392 dX7_trips_56 ?_
          refine lv_bipush (v := 37) hx hb dX7_trips_59 (by decide) ?_
          refine lv_iload_n hx hb dX7_trips_61 rfl (lv_at hl 0 rfl) ?_
          refine lv_iadd hx hb dX7_trips_62 ?_
          refine r_top (y := 51) (by decide) ?_
          refine lv_iconst (v := 3) hx hb dX7_trips_63 (by decide) ?_
          refine lv_isub hx hb dX7_trips_64 ?_
          refine r_top (y := 48) (by decide) ?_
          refine al_Mod_1 M hW 48 rfl (by decide) (x := (tripsA u x) 1 48) ((up2_k (by decide)).trans ((up2_k (by decide)).trans (up2_k (by decide)))) dX7_trips_65 ?_
          refine as_Mod_1 M hW 51 rfl (by decide) dX7_trips_66 (fun H locs hW => ?_)
          refine lv_iinc (v := 13) (lv' := [(2, .int 13), (0, .ref (b 0)), (1, .int x)]) hx hb dX7_trips_67 hl (k := 0) rfl (by decide) (by decide) rfl (fun ls hl => ?_)
          refine lv_goto (tgt := 42) hx hb dX7_trips_70 (by decide) ?_
          refine lv_iload_n hx hb dX7_trips_42 rfl (lv_at hl 0 rfl) ?_
          refine lv_iconst (v := 3) hx hb dX7_trips_43 (by decide) ?_
          refine lv_icmp_lt (tgt := 73) hx hb dX7_trips_44 (by decide) (fun c_44_5 => ?_) (fun c_44_5 => ?_)
          · skip
            exact absurd c_44_5 (by decide)
          · skip
            refine lv_aload_n hx hb dX7_trips_47 rfl (lv_at hl 1 rfl) ?_
            refine gt_Mod_0_1 M hW kw_392 dX7_trips_48 ?_
            refine lv_bipush (v := 37) hx hb dX7_trips_51 (by decide) ?_
            refine lv_iload_n hx hb dX7_trips_53 rfl (lv_at hl 0 rfl) ?_
            refine lv_iadd hx hb dX7_trips_54 ?_
            refine r_top (y := 50) (by decide) ?_
            refine lv_aload_n hx hb dX7_trips_55 rfl (lv_at hl 1 rfl) ?_
            refine gt_Mod_0_1 M hW kw_392 dX7_trips_56 ?_
            refine lv_bipush (v := 37) hx hb dX7_trips_59 (by decide) ?_
            refine lv_iload_n hx hb dX7_trips_61 rfl (lv_at hl 0 rfl) ?_
            refine lv_iadd hx hb dX7_trips_62 ?_
            refine r_top (y := 50) (by decide) ?_
            refine lv_iconst (v := 3) hx hb dX7_trips_63 (by decide) ?_
            refine lv_isub hx hb dX7_trips_64 ?_
            refine r_top (y := 47) (by decide) ?_
            refine al_Mod_1 M hW 47 rfl (by decide) (x := (tripsA u x) 1 47) ((up2_k (by decide)).trans ((up2_k (by decide)).trans ((up2_k (by decide)).trans (up2_k (by decide))))) dX7_trips_65 ?_
            refine as_Mod_1 M hW 50 rfl (by decide) dX7_trips_66 (fun H locs hW => ?_)
            refine lv_iinc (v := 12) (lv' := [(2, .int 12), (0, .ref (b 0)), (1, .int x)]) hx hb dX7_trips_67 hl (k := 0) rfl (by decide) (by decide) rfl (fun ls hl => ?_)
            refine lv_goto (tgt := 42) hx hb dX7_trips_70 (by decide) ?_
            refine lv_iload_n hx hb dX7_trips_42 rfl (lv_at hl 0 rfl) ?_
            refine lv_iconst (v := 3) hx hb dX7_trips_43 (by decide) ?_
            refine lv_icmp_lt (tgt := 73) hx hb dX7_trips_44 (by decide) (fun c_44_6 => ?_) (fun c_44_6 => ?_)
            · skip
              exact absurd c_44_6 (by decide)
            · skip
              refine lv_aload_n hx hb dX7_trips_47 rfl (lv_at hl 1 rfl) ?_
              refine gt_Mod_0_1 M hW kw_392 dX7_trips_48 ?_
              refine lv_bipush (v := 37) hx hb dX7_trips_51 (by decide) ?_
              refine lv_iload_n hx hb dX7_trips_53 rfl (lv_at hl 0 rfl) ?_
              refine lv_iadd hx hb dX7_trips_54 ?_
              refine r_top (y := 49) (by decide) ?_
              refine lv_aload_n hx hb dX7_trips_55 rfl (lv_at hl 1 rfl) ?_
              refine gt_Mod_0_1 M hW kw_392 dX7_trips_56 ?_
              refine lv_bipush (v := 37) hx hb dX7_trips_59 (by decide) ?_
              refine lv_iload_n hx hb dX7_trips_61 rfl (lv_at hl 0 rfl) ?_
              refine lv_iadd hx hb dX7_trips_62 ?_
              refine r_top (y := 49) (by decide) ?_
              refine lv_iconst (v := 3) hx hb dX7_trips_63 (by decide) ?_
              refine lv_isub hx hb dX7_trips_64 ?_
              refine r_top (y := 46) (by decide) ?_
              refine al_Mod_1 M hW 46 rfl (by decide) (x := (tripsA u x) 1 46) ((up2_k (by decide)).trans ((up2_k (by decide)).trans ((up2_k (by decide)).trans ((up2_k (by decide)).trans (up2_k (by decide)))))) dX7_trips_65 ?_
              refine as_Mod_1 M hW 49 rfl (by decide) dX7_trips_66 (fun H locs hW => ?_)
              refine lv_iinc (v := 11) (lv' := [(2, .int 11), (0, .ref (b 0)), (1, .int x)]) hx hb dX7_trips_67 hl (k := 0) rfl (by decide) (by decide) rfl (fun ls hl => ?_)
              refine lv_goto (tgt := 42) hx hb dX7_trips_70 (by decide) ?_
              refine lv_iload_n hx hb dX7_trips_42 rfl (lv_at hl 0 rfl) ?_
              refine lv_iconst (v := 3) hx hb dX7_trips_43 (by decide) ?_
              refine lv_icmp_lt (tgt := 73) hx hb dX7_trips_44 (by decide) (fun c_44_7 => ?_) (fun c_44_7 => ?_)
              · skip
                exact absurd c_44_7 (by decide)
              · skip
                refine lv_aload_n hx hb dX7_trips_47 rfl (lv_at hl 1 rfl) ?_
                refine gt_Mod_0_1 M hW kw_392 dX7_trips_48 ?_
                refine lv_bipush (v := 37) hx hb dX7_trips_51 (by decide) ?_
                refine lv_iload_n hx hb dX7_trips_53 rfl (lv_at hl 0 rfl) ?_
                refine lv_iadd hx hb dX7_trips_54 ?_
                refine r_top (y := 48) (by decide) ?_
                refine lv_aload_n hx hb dX7_trips_55 rfl (lv_at hl 1 rfl) ?_
                refine gt_Mod_0_1 M hW kw_392 dX7_trips_56 ?_
                refine lv_bipush (v := 37) hx hb dX7_trips_59 (by decide) ?_
                refine lv_iload_n hx hb dX7_trips_61 rfl (lv_at hl 0 rfl) ?_
                refine lv_iadd hx hb dX7_trips_62 ?_
                refine r_top (y := 48) (by decide) ?_
                refine lv_iconst (v := 3) hx hb dX7_trips_63 (by decide) ?_
                refine lv_isub hx hb dX7_trips_64 ?_
                refine r_top (y := 45) (by decide) ?_
                refine al_Mod_1 M hW 45 rfl (by decide) (x := (tripsA u x) 1 45) ((up2_k (by decide)).trans ((up2_k (by decide)).trans ((up2_k (by decide)).trans ((up2_k (by decide)).trans ((up2_k (by decide)).trans (up2_k (by decide))))))) dX7_trips_65 ?_
                refine as_Mod_1 M hW 48 rfl (by decide) dX7_trips_66 (fun H locs hW => ?_)
                refine lv_iinc (v := 10) (lv' := [(2, .int 10), (0, .ref (b 0)), (1, .int x)]) hx hb dX7_trips_67 hl (k := 0) rfl (by decide) (by decide) rfl (fun ls hl => ?_)
                refine lv_goto (tgt := 42) hx hb dX7_trips_70 (by decide) ?_
                refine lv_iload_n hx hb dX7_trips_42 rfl (lv_at hl 0 rfl) ?_
                refine lv_iconst (v := 3) hx hb dX7_trips_43 (by decide) ?_
                refine lv_icmp_lt (tgt := 73) hx hb dX7_trips_44 (by decide) (fun c_44_8 => ?_) (fun c_44_8 => ?_)
                · skip
                  exact absurd c_44_8 (by decide)
                · skip
                  refine lv_aload_n hx hb dX7_trips_47 rfl (lv_at hl 1 rfl) ?_
                  refine gt_Mod_0_1 M hW kw_392 dX7_trips_48 ?_
                  refine lv_bipush (v := 37) hx hb dX7_trips_51 (by decide) ?_
                  refine lv_iload_n hx hb dX7_trips_53 rfl (lv_at hl 0 rfl) ?_
                  refine lv_iadd hx hb dX7_trips_54 ?_
                  refine r_top (y := 47) (by decide) ?_
                  refine lv_aload_n hx hb dX7_trips_55 rfl (lv_at hl 1 rfl) ?_
                  refine gt_Mod_0_1 M hW kw_392 dX7_trips_56 ?_
                  refine lv_bipush (v := 37) hx hb dX7_trips_59 (by decide) ?_
                  refine lv_iload_n hx hb dX7_trips_61 rfl (lv_at hl 0 rfl) ?_
                  refine lv_iadd hx hb dX7_trips_62 ?_
                  refine r_top (y := 47) (by decide) ?_
                  refine lv_iconst (v := 3) hx hb dX7_trips_63 (by decide) ?_
                  refine lv_isub hx hb dX7_trips_64 ?_
                  refine r_top (y := 44) (by decide) ?_
                  refine al_Mod_1 M hW 44 rfl (by decide) (x := (tripsA u x) 1 44) ((up2_k (by decide)).trans ((up2_k (by decide)).trans ((up2_k (by decide)).trans ((up2_k (by decide)).trans ((up2_k (by decide)).trans ((up2_k (by decide)).trans (up2_k (by decide)))))))) dX7_trips_65 ?_
                  refine as_Mod_1 M hW 47 rfl (by decide) dX7_trips_66 (fun H locs hW => ?_)
                  refine lv_iinc (v := 9) (lv' := [(2, .int 9), (0, .ref (b 0)), (1, .int x)]) hx hb dX7_trips_67 hl (k := 0) rfl (by decide) (by decide) rfl (fun ls hl => ?_)
                  refine lv_goto (tgt := 42) hx hb dX7_trips_70 (by decide) ?_
                  refine lv_iload_n hx hb dX7_trips_42 rfl (lv_at hl 0 rfl) ?_
                  refine lv_iconst (v := 3) hx hb dX7_trips_43 (by decide) ?_
                  refine lv_icmp_lt (tgt := 73) hx hb dX7_trips_44 (by decide) (fun c_44_9 => ?_) (fun c_44_9 => ?_)
                  · skip
                    exact absurd c_44_9 (by decide)
                  · skip
                    refine lv_aload_n hx hb dX7_trips_47 rfl (lv_at hl 1 rfl) ?_
                    refine gt_Mod_0_1 M hW kw_392 dX7_trips_48 ?_
                    refine lv_bipush (v := 37) hx hb dX7_trips_51 (by decide) ?_
                    refine lv_iload_n hx hb dX7_trips_53 rfl (lv_at hl 0 rfl) ?_
                    refine lv_iadd hx hb dX7_trips_54 ?_
                    refine r_top (y := 46) (by decide) ?_
                    refine lv_aload_n hx hb dX7_trips_55 rfl (lv_at hl 1 rfl) ?_
                    refine gt_Mod_0_1 M hW kw_392 dX7_trips_56 ?_
                    refine lv_bipush (v := 37) hx hb dX7_trips_59 (by decide) ?_
                    refine lv_iload_n hx hb dX7_trips_61 rfl (lv_at hl 0 rfl) ?_
                    refine lv_iadd hx hb dX7_trips_62 ?_
                    refine r_top (y := 46) (by decide) ?_
                    refine lv_iconst (v := 3) hx hb dX7_trips_63 (by decide) ?_
                    refine lv_isub hx hb dX7_trips_64 ?_
                    refine r_top (y := 43) (by decide) ?_
                    refine al_Mod_1 M hW 43 rfl (by decide) (x := (tripsA u x) 1 43) ((up2_k (by decide)).trans ((up2_k (by decide)).trans ((up2_k (by decide)).trans ((up2_k (by decide)).trans ((up2_k (by decide)).trans ((up2_k (by decide)).trans ((up2_k (by decide)).trans (up2_k (by decide))))))))) dX7_trips_65 ?_
                    refine as_Mod_1 M hW 46 rfl (by decide) dX7_trips_66 (fun H locs hW => ?_)
                    refine lv_iinc (v := 8) (lv' := [(2, .int 8), (0, .ref (b 0)), (1, .int x)]) hx hb dX7_trips_67 hl (k := 0) rfl (by decide) (by decide) rfl (fun ls hl => ?_)
                    refine lv_goto (tgt := 42) hx hb dX7_trips_70 (by decide) ?_
                    refine lv_iload_n hx hb dX7_trips_42 rfl (lv_at hl 0 rfl) ?_
                    refine lv_iconst (v := 3) hx hb dX7_trips_43 (by decide) ?_
                    refine lv_icmp_lt (tgt := 73) hx hb dX7_trips_44 (by decide) (fun c_44_10 => ?_) (fun c_44_10 => ?_)
                    · skip
                      exact absurd c_44_10 (by decide)
                    · skip
                      refine lv_aload_n hx hb dX7_trips_47 rfl (lv_at hl 1 rfl) ?_
                      refine gt_Mod_0_1 M hW kw_392 dX7_trips_48 ?_
                      refine lv_bipush (v := 37) hx hb dX7_trips_51 (by decide) ?_
                      refine lv_iload_n hx hb dX7_trips_53 rfl (lv_at hl 0 rfl) ?_
                      refine lv_iadd hx hb dX7_trips_54 ?_
                      refine r_top (y := 45) (by decide) ?_
                      refine lv_aload_n hx hb dX7_trips_55 rfl (lv_at hl 1 rfl) ?_
                      refine gt_Mod_0_1 M hW kw_392 dX7_trips_56 ?_
                      refine lv_bipush (v := 37) hx hb dX7_trips_59 (by decide) ?_
                      refine lv_iload_n hx hb dX7_trips_61 rfl (lv_at hl 0 rfl) ?_
                      refine lv_iadd hx hb dX7_trips_62 ?_
                      refine r_top (y := 45) (by decide) ?_
                      refine lv_iconst (v := 3) hx hb dX7_trips_63 (by decide) ?_
                      refine lv_isub hx hb dX7_trips_64 ?_
                      refine r_top (y := 42) (by decide) ?_
                      refine al_Mod_1 M hW 42 rfl (by decide) (x := (tripsA u x) 1 42) ((up2_k (by decide)).trans ((up2_k (by decide)).trans ((up2_k (by decide)).trans ((up2_k (by decide)).trans ((up2_k (by decide)).trans ((up2_k (by decide)).trans ((up2_k (by decide)).trans ((up2_k (by decide)).trans (up2_k (by decide)))))))))) dX7_trips_65 ?_
                      refine as_Mod_1 M hW 45 rfl (by decide) dX7_trips_66 (fun H locs hW => ?_)
                      refine lv_iinc (v := 7) (lv' := [(2, .int 7), (0, .ref (b 0)), (1, .int x)]) hx hb dX7_trips_67 hl (k := 0) rfl (by decide) (by decide) rfl (fun ls hl => ?_)
                      refine lv_goto (tgt := 42) hx hb dX7_trips_70 (by decide) ?_
                      refine lv_iload_n hx hb dX7_trips_42 rfl (lv_at hl 0 rfl) ?_
                      refine lv_iconst (v := 3) hx hb dX7_trips_43 (by decide) ?_
                      refine lv_icmp_lt (tgt := 73) hx hb dX7_trips_44 (by decide) (fun c_44_11 => ?_) (fun c_44_11 => ?_)
                      · skip
                        exact absurd c_44_11 (by decide)
                      · skip
                        refine lv_aload_n hx hb dX7_trips_47 rfl (lv_at hl 1 rfl) ?_
                        refine gt_Mod_0_1 M hW kw_392 dX7_trips_48 ?_
                        refine lv_bipush (v := 37) hx hb dX7_trips_51 (by decide) ?_
                        refine lv_iload_n hx hb dX7_trips_53 rfl (lv_at hl 0 rfl) ?_
                        refine lv_iadd hx hb dX7_trips_54 ?_
                        refine r_top (y := 44) (by decide) ?_
                        refine lv_aload_n hx hb dX7_trips_55 rfl (lv_at hl 1 rfl) ?_
                        refine gt_Mod_0_1 M hW kw_392 dX7_trips_56 ?_
                        refine lv_bipush (v := 37) hx hb dX7_trips_59 (by decide) ?_
                        refine lv_iload_n hx hb dX7_trips_61 rfl (lv_at hl 0 rfl) ?_
                        refine lv_iadd hx hb dX7_trips_62 ?_
                        refine r_top (y := 44) (by decide) ?_
                        refine lv_iconst (v := 3) hx hb dX7_trips_63 (by decide) ?_
                        refine lv_isub hx hb dX7_trips_64 ?_
                        refine r_top (y := 41) (by decide) ?_
                        refine al_Mod_1 M hW 41 rfl (by decide) (x := (tripsA u x) 1 41) ((up2_k (by decide)).trans ((up2_k (by decide)).trans ((up2_k (by decide)).trans ((up2_k (by decide)).trans ((up2_k (by decide)).trans ((up2_k (by decide)).trans ((up2_k (by decide)).trans ((up2_k (by decide)).trans ((up2_k (by decide)).trans (up2_k (by decide))))))))))) dX7_trips_65 ?_
                        refine as_Mod_1 M hW 44 rfl (by decide) dX7_trips_66 (fun H locs hW => ?_)
                        refine lv_iinc (v := 6) (lv' := [(2, .int 6), (0, .ref (b 0)), (1, .int x)]) hx hb dX7_trips_67 hl (k := 0) rfl (by decide) (by decide) rfl (fun ls hl => ?_)
                        refine lv_goto (tgt := 42) hx hb dX7_trips_70 (by decide) ?_
                        refine lv_iload_n hx hb dX7_trips_42 rfl (lv_at hl 0 rfl) ?_
                        refine lv_iconst (v := 3) hx hb dX7_trips_43 (by decide) ?_
                        refine lv_icmp_lt (tgt := 73) hx hb dX7_trips_44 (by decide) (fun c_44_12 => ?_) (fun c_44_12 => ?_)
                        · skip
                          exact absurd c_44_12 (by decide)
                        · skip
                          refine lv_aload_n hx hb dX7_trips_47 rfl (lv_at hl 1 rfl) ?_
                          refine gt_Mod_0_1 M hW kw_392 dX7_trips_48 ?_
                          refine lv_bipush (v := 37) hx hb dX7_trips_51 (by decide) ?_
                          refine lv_iload_n hx hb dX7_trips_53 rfl (lv_at hl 0 rfl) ?_
                          refine lv_iadd hx hb dX7_trips_54 ?_
                          refine r_top (y := 43) (by decide) ?_
                          refine lv_aload_n hx hb dX7_trips_55 rfl (lv_at hl 1 rfl) ?_
                          refine gt_Mod_0_1 M hW kw_392 dX7_trips_56 ?_
                          refine lv_bipush (v := 37) hx hb dX7_trips_59 (by decide) ?_
                          refine lv_iload_n hx hb dX7_trips_61 rfl (lv_at hl 0 rfl) ?_
                          refine lv_iadd hx hb dX7_trips_62 ?_
                          refine r_top (y := 43) (by decide) ?_
                          refine lv_iconst (v := 3) hx hb dX7_trips_63 (by decide) ?_
                          refine lv_isub hx hb dX7_trips_64 ?_
                          refine r_top (y := 40) (by decide) ?_
                          refine al_Mod_1 M hW 40 rfl (by decide) (x := (tripsA u x) 1 40) ((up2_k (by decide)).trans ((up2_k (by decide)).trans ((up2_k (by decide)).trans ((up2_k (by decide)).trans ((up2_k (by decide)).trans ((up2_k (by decide)).trans ((up2_k (by decide)).trans ((up2_k (by decide)).trans ((up2_k (by decide)).trans ((up2_k (by decide)).trans (up2_k (by decide)))))))))))) dX7_trips_65 ?_
                          refine as_Mod_1 M hW 43 rfl (by decide) dX7_trips_66 (fun H locs hW => ?_)
                          refine lv_iinc (v := 5) (lv' := [(2, .int 5), (0, .ref (b 0)), (1, .int x)]) hx hb dX7_trips_67 hl (k := 0) rfl (by decide) (by decide) rfl (fun ls hl => ?_)
                          refine lv_goto (tgt := 42) hx hb dX7_trips_70 (by decide) ?_
                          refine lv_iload_n hx hb dX7_trips_42 rfl (lv_at hl 0 rfl) ?_
                          refine lv_iconst (v := 3) hx hb dX7_trips_43 (by decide) ?_
                          refine lv_icmp_lt (tgt := 73) hx hb dX7_trips_44 (by decide) (fun c_44_13 => ?_) (fun c_44_13 => ?_)
                          · skip
                            exact absurd c_44_13 (by decide)
                          · skip
                            refine lv_aload_n hx hb dX7_trips_47 rfl (lv_at hl 1 rfl) ?_
                            refine gt_Mod_0_1 M hW kw_392 dX7_trips_48 ?_
                            refine lv_bipush (v := 37) hx hb dX7_trips_51 (by decide) ?_
                            refine lv_iload_n hx hb dX7_trips_53 rfl (lv_at hl 0 rfl) ?_
                            refine lv_iadd hx hb dX7_trips_54 ?_
                            refine r_top (y := 42) (by decide) ?_
                            refine lv_aload_n hx hb dX7_trips_55 rfl (lv_at hl 1 rfl) ?_
                            refine gt_Mod_0_1 M hW kw_392 dX7_trips_56 ?_
                            refine lv_bipush (v := 37) hx hb dX7_trips_59 (by decide) ?_
                            refine lv_iload_n hx hb dX7_trips_61 rfl (lv_at hl 0 rfl) ?_
                            refine lv_iadd hx hb dX7_trips_62 ?_
                            refine r_top (y := 42) (by decide) ?_
                            refine lv_iconst (v := 3) hx hb dX7_trips_63 (by decide) ?_
                            refine lv_isub hx hb dX7_trips_64 ?_
                            refine r_top (y := 39) (by decide) ?_
                            refine al_Mod_1 M hW 39 rfl (by decide) (x := (tripsA u x) 1 39) ((up2_k (by decide)).trans ((up2_k (by decide)).trans ((up2_k (by decide)).trans ((up2_k (by decide)).trans ((up2_k (by decide)).trans ((up2_k (by decide)).trans ((up2_k (by decide)).trans ((up2_k (by decide)).trans ((up2_k (by decide)).trans ((up2_k (by decide)).trans ((up2_k (by decide)).trans (up2_k (by decide))))))))))))) dX7_trips_65 ?_
                            refine as_Mod_1 M hW 42 rfl (by decide) dX7_trips_66 (fun H locs hW => ?_)
                            refine lv_iinc (v := 4) (lv' := [(2, .int 4), (0, .ref (b 0)), (1, .int x)]) hx hb dX7_trips_67 hl (k := 0) rfl (by decide) (by decide) rfl (fun ls hl => ?_)
                            refine lv_goto (tgt := 42) hx hb dX7_trips_70 (by decide) ?_
                            refine lv_iload_n hx hb dX7_trips_42 rfl (lv_at hl 0 rfl) ?_
                            refine lv_iconst (v := 3) hx hb dX7_trips_43 (by decide) ?_
                            refine lv_icmp_lt (tgt := 73) hx hb dX7_trips_44 (by decide) (fun c_44_14 => ?_) (fun c_44_14 => ?_)
                            · skip
                              exact absurd c_44_14 (by decide)
                            · skip
                              refine lv_aload_n hx hb dX7_trips_47 rfl (lv_at hl 1 rfl) ?_
                              refine gt_Mod_0_1 M hW kw_392 dX7_trips_48 ?_
                              refine lv_bipush (v := 37) hx hb dX7_trips_51 (by decide) ?_
                              refine lv_iload_n hx hb dX7_trips_53 rfl (lv_at hl 0 rfl) ?_
                              refine lv_iadd hx hb dX7_trips_54 ?_
                              refine r_top (y := 41) (by decide) ?_
                              refine lv_aload_n hx hb dX7_trips_55 rfl (lv_at hl 1 rfl) ?_
                              refine gt_Mod_0_1 M hW kw_392 dX7_trips_56 ?_
                              refine lv_bipush (v := 37) hx hb dX7_trips_59 (by decide) ?_
                              refine lv_iload_n hx hb dX7_trips_61 rfl (lv_at hl 0 rfl) ?_
                              refine lv_iadd hx hb dX7_trips_62 ?_
                              refine r_top (y := 41) (by decide) ?_
                              refine lv_iconst (v := 3) hx hb dX7_trips_63 (by decide) ?_
                              refine lv_isub hx hb dX7_trips_64 ?_
                              refine r_top (y := 38) (by decide) ?_
                              refine al_Mod_1 M hW 38 rfl (by decide) (x := (tripsA u x) 1 38) ((up2_k (by decide)).trans ((up2_k (by decide)).trans ((up2_k (by decide)).trans ((up2_k (by decide)).trans ((up2_k (by decide)).trans ((up2_k (by decide)).trans ((up2_k (by decide)).trans ((up2_k (by decide)).trans ((up2_k (by decide)).trans ((up2_k (by decide)).trans ((up2_k (by decide)).trans ((up2_k (by decide)).trans (up2_k (by decide)))))))))))))) dX7_trips_65 ?_
                              refine as_Mod_1 M hW 41 rfl (by decide) dX7_trips_66 (fun H locs hW => ?_)
                              refine lv_iinc (v := 3) (lv' := [(2, .int 3), (0, .ref (b 0)), (1, .int x)]) hx hb dX7_trips_67 hl (k := 0) rfl (by decide) (by decide) rfl (fun ls hl => ?_)
                              refine lv_goto (tgt := 42) hx hb dX7_trips_70 (by decide) ?_
                              refine lv_iload_n hx hb dX7_trips_42 rfl (lv_at hl 0 rfl) ?_
                              refine lv_iconst (v := 3) hx hb dX7_trips_43 (by decide) ?_
                              refine lv_icmp_lt (tgt := 73) hx hb dX7_trips_44 (by decide) (fun c_44_15 => ?_) (fun c_44_15 => ?_)
                              · skip
                                exact absurd c_44_15 (by decide)
                              · skip
                                refine lv_aload_n hx hb dX7_trips_47 rfl (lv_at hl 1 rfl) ?_
                                refine gt_Mod_0_1 M hW kw_392 dX7_trips_48 ?_
                                refine lv_bipush (v := 37) hx hb dX7_trips_51 (by decide) ?_
                                refine lv_iload_n hx hb dX7_trips_53 rfl (lv_at hl 0 rfl) ?_
                                refine lv_iadd hx hb dX7_trips_54 ?_
                                refine r_top (y := 40) (by decide) ?_
                                refine lv_aload_n hx hb dX7_trips_55 rfl (lv_at hl 1 rfl) ?_
                                refine gt_Mod_0_1 M hW kw_392 dX7_trips_56 ?_
                                refine lv_bipush (v := 37) hx hb dX7_trips_59 (by decide) ?_
                                refine lv_iload_n hx hb dX7_trips_61 rfl (lv_at hl 0 rfl) ?_
                                refine lv_iadd hx hb dX7_trips_62 ?_
                                refine r_top (y := 40) (by decide) ?_
                                refine lv_iconst (v := 3) hx hb dX7_trips_63 (by decide) ?_
                                refine lv_isub hx hb dX7_trips_64 ?_
                                refine r_top (y := 37) (by decide) ?_
                                refine al_Mod_1 M hW 37 rfl (by decide) (x := (tripsA u x) 1 37) ((up2_k (by decide)).trans ((up2_k (by decide)).trans ((up2_k (by decide)).trans ((up2_k (by decide)).trans ((up2_k (by decide)).trans ((up2_k (by decide)).trans ((up2_k (by decide)).trans ((up2_k (by decide)).trans ((up2_k (by decide)).trans ((up2_k (by decide)).trans ((up2_k (by decide)).trans ((up2_k (by decide)).trans ((up2_k (by decide)).trans (up2_k (by decide))))))))))))))) dX7_trips_65 ?_
                                refine as_Mod_1 M hW 40 rfl (by decide) dX7_trips_66 (fun H locs hW => ?_)
                                refine lv_iinc (v := 2) (lv' := [(2, .int 2), (0, .ref (b 0)), (1, .int x)]) hx hb dX7_trips_67 hl (k := 0) rfl (by decide) (by decide) rfl (fun ls hl => ?_)
                                refine lv_goto (tgt := 42) hx hb dX7_trips_70 (by decide) ?_
                                refine lv_iload_n hx hb dX7_trips_42 rfl (lv_at hl 0 rfl) ?_
                                refine lv_iconst (v := 3) hx hb dX7_trips_43 (by decide) ?_
                                refine lv_icmp_lt (tgt := 73) hx hb dX7_trips_44 (by decide) (fun c_44_16 => ?_) (fun c_44_16 => ?_)
                                · skip
                                  refine lv_aload_n hx hb dX7_trips_73 rfl (lv_at hl 1 rfl) ?_
                                  refine gt_Mod_0_1 M hW kw_392 dX7_trips_74 ?_
                                  refine lv_bipush (v := 37) hx hb dX7_trips_77 (by decide) ?_
                                  refine lv_aload_n hx hb dX7_trips_79 rfl (lv_at hl 1 rfl) ?_
                                  refine gt_Mod_0_1 M hW kw_392 dX7_trips_80 ?_
                                  refine lv_bipush (v := 17) hx hb dX7_trips_83 (by decide) ?_
                                  refine al_Mod_1 M hW 17 rfl (by decide) (x := (tripsA u x) 1 17) ((up2_k (by decide)).trans ((up2_k (by decide)).trans ((up2_k (by decide)).trans ((up2_k (by decide)).trans ((up2_k (by decide)).trans ((up2_k (by decide)).trans ((up2_k (by decide)).trans ((up2_k (by decide)).trans ((up2_k (by decide)).trans ((up2_k (by decide)).trans ((up2_k (by decide)).trans ((up2_k (by decide)).trans ((up2_k (by decide)).trans ((up2_k (by decide)).trans (up2_k (by decide)))))))))))))))) dX7_trips_85 ?_
                                  refine lv_iconst (v := 1) hx hb dX7_trips_86 (by decide) ?_
                                  refine lv_iadd hx hb dX7_trips_87 ?_
                                  refine as_Mod_1 M hW 37 rfl (by decide) dX7_trips_88 (fun H locs hW => ?_)
                                  refine lv_aload_n hx hb dX7_trips_89 rfl (lv_at hl 1 rfl) ?_
                                  refine gt_Mod_0_1 M hW kw_392 dX7_trips_90 ?_
                                  refine lv_bipush (v := 38) hx hb dX7_trips_93 (by decide) ?_
                                  refine lv_iload_n hx hb dX7_trips_95 rfl (lv_at hl 2 rfl) ?_
                                  refine as_Mod_1 M hW 38 rfl (by decide) dX7_trips_96 (fun H locs hW => ?_)
                                  refine lv_aload_n hx hb dX7_trips_97 rfl (lv_at hl 1 rfl) ?_
                                  refine gt_Mod_0_1 M hW kw_392 dX7_trips_98 ?_
                                  refine lv_bipush (v := 39) hx hb dX7_trips_101 (by decide) ?_
                                  refine lv_aload_n hx hb dX7_trips_103 rfl (lv_at hl 1 rfl) ?_
                                  refine r_callVi M hW (c_X7_load l G b (up2 (up2 (up2 (up2 (up2 (up2 (up2 (up2 (up2 (up2 (up2 (up2 (up2 (up2 (up2 (up2 (up2 (tripsA u x) 1 54 ((tripsA u x) 1 51)) 1 53 ((tripsA u x) 1 50)) 1 52 ((tripsA u x) 1 49)) 1 51 ((tripsA u x) 1 48)) 1 50 ((tripsA u x) 1 47)) 1 49 ((tripsA u x) 1 46)) 1 48 ((tripsA u x) 1 45)) 1 47 ((tripsA u x) 1 44)) 1 46 ((tripsA u x) 1 43)) 1 45 ((tripsA u x) 1 42)) 1 44 ((tripsA u x) 1 41)) 1 43 ((tripsA u x) 1 40)) 1 42 ((tripsA u x) 1 39)) 1 41 ((tripsA u x) 1 38)) 1 40 ((tripsA u x) 1 37)) 1 37 (((tripsA u x) 1 17) + 1)) 1 38 x)  (Y)) rfl kw_416 kw_417 kw_418 kw_412 kw_406 pl_X7_load 0 rfl rfl ⟨by decide, by decide⟩ ⟨Nat.zero_le _, Nat.zero_le _⟩ hl.1 rfl (Nat.le_of_ble_eq_true rfl) dX7_trips_104 (fun H locs hW => ?_)
                                  refine as_Mod_1 M hW 39 rfl (by decide) dX7_trips_107 (fun H locs hW => ?_)
                                  refine lv_aload_n hx hb dX7_trips_108 rfl (lv_at hl 1 rfl) ?_
                                  refine gt_Mod_0_1 M hW kw_392 dX7_trips_109 ?_
                                  refine lv_bipush (v := 36) hx hb dX7_trips_112 (by decide) ?_
                                  refine lv_dup2_11 hx hb dX7_trips_114 rfl rfl ?_
                                  refine al_Mod_1 M hW 36 rfl (by decide) (x := (tripsA u x) 1 36) ((up2_k (by decide)).trans ((up2_k (by decide)).trans ((up2_k (by decide)).trans ((up2_k (by decide)).trans ((up2_k (by decide)).trans ((up2_k (by decide)).trans ((up2_k (by decide)).trans ((up2_k (by decide)).trans ((up2_k (by decide)).trans ((up2_k (by decide)).trans ((up2_k (by decide)).trans ((up2_k (by decide)).trans ((up2_k (by decide)).trans ((up2_k (by decide)).trans ((up2_k (by decide)).trans ((up2_k (by decide)).trans ((up2_k (by decide)).trans (up2_k (by decide))))))))))))))))))) dX7_trips_115 ?_
                                  refine lv_aload_n hx hb dX7_trips_116 rfl (lv_at hl 1 rfl) ?_
                                  refine gt_Mod_0_1 M hW kw_392 dX7_trips_117 ?_
                                  refine lv_bipush (v := 36) hx hb dX7_trips_120 (by decide) ?_
                                  refine al_Mod_1 M hW 36 rfl (by decide) (x := (tripsA u x) 1 36) ((up2_k (by decide)).trans ((up2_k (by decide)).trans ((up2_k (by decide)).trans ((up2_k (by decide)).trans ((up2_k (by decide)).trans ((up2_k (by decide)).trans ((up2_k (by decide)).trans ((up2_k (by decide)).trans ((up2_k (by decide)).trans ((up2_k (by decide)).trans ((up2_k (by decide)).trans ((up2_k (by decide)).trans ((up2_k (by decide)).trans ((up2_k (by decide)).trans ((up2_k (by decide)).trans ((up2_k (by decide)).trans ((up2_k (by decide)).trans (up2_k (by decide))))))))))))))))))) dX7_trips_122 ?_
                                  refine lv_bipush (v := 6) hx hb dX7_trips_123 (by decide) ?_
                                  refine r_cuti (pc2 := 133) (ls2 := ls) (st := [.int ((tripsA u x) 1 36), .int 36, .ref (b 1)]) (if 6 ≤ ((tripsA u x) 1 36) then 0 else 1) (fun x_133 hx_133 => ?_) (fun hJ_133 => ?_)
                                  · skip
                                    subst hx_133
                                    refine lv_iadd hx hb dX7_trips_133 ?_
                                    refine as_Mod_1 M hW 36 rfl (by decide) dX7_trips_134 (fun H locs hW => ?_)
                                    exact r_retv M hW (by rw [sX7_trips]) ⟨rfl, rfl⟩ (Nat.zero_le _) (Nat.zero_le _) dX7_trips_135
                                  · skip
                                    refine lv_icmp_ge (tgt := 132) hx hb dX7_trips_125 (by decide) (fun c_125 => ?_) (fun c_125 => ?_)
                                    · skip
                                      refine lv_iconst (v := 0) hx hb dX7_trips_132 (by decide) ?_
                                      exact hJ_133 _ (by rw [if_pos c_125])
                                    · skip
                                      refine lv_iconst (v := 1) hx hb dX7_trips_128 (by decide) ?_
                                      refine lv_goto (tgt := 133) hx hb dX7_trips_129 (by decide) ?_
                                      exact hJ_133 _ (by rw [if_neg c_125])
                                · skip
                                  exact absurd c_44_16 (by decide)
