def at6 (l : List (Nat → Nat)) : Nat → Nat → Nat := fun i => l.getD i (fun _ => 0)
def modI : Nat → Nat → Int32 := fun c => match c with
  | 0 => fun k => if k = 9 then -105 else if k = 10 then -105 else 0
  | 1 => upd (upd (upd (upd (fun _ => 0) 0 3) 1 60) 2 6) 3 8
  | _ => fun _ => 0

set_option maxHeartbeats 4000000 in
set_option maxRecDepth 100000 in
/-- X3.<init> -/
theorem c_X3_init (l : Launch) (G : Gp) (b : Nat) (Y : va_W) : CnE l G yX3_init cX3_init 1 none 2 10 53 [.ref b] ([(b, .inr (3, [.null, .null, .null, .null, .null, .null, .int 0, .int 0, .int 0, .int 0, .int 0, .int 0, .int 0]))] ++ Y) (fun v w1 => v = none ∧ ∃ (a : Nat → Nat), a 0 = b ∧ w1 = LegW G a legI ++ Y) := by
  refine CnE.of (by decide) (Nat.le_of_ble_eq_true rfl) ?_
  intro p e s m below meth c ls M hnm hl hW
  have hx := M.1
  have hb := M.2.1
  have hl : lv_has ls 1 [(0, .ref b)] := hl
  refine lv_aload_n hx hb dX3_init_0 rfl (lv_at hl 0 rfl) ?_
  refine r_obj M kw_50 hl.1 ⟨by decide, by decide⟩ (Nat.le_of_ble_eq_true rfl) dX3_init_1 ?_
  refine lv_aload_n hx hb dX3_init_4 rfl (lv_at hl 0 rfl) ?_
  refine r_getsN M hW M.2.2.2.2.2.2.2.2.1.1 kn_X3_9 dX3_init_5 ?_
  refine r_clone M hW M.2.2.2.2.2.2.2.2.1.1 kw_51 hl.1 ⟨by decide, by decide⟩ (Nat.le_of_ble_eq_true rfl) ⟨Nat.le_of_ble_eq_true rfl, Nat.le_of_ble_eq_true rfl⟩ dX3_init_8 (fun n1 H hW => ?_)
  refine r_castI M hW kw_56 dX3_init_11 ?_
  have hW := Wd.f1 hW
  refine r_putF M hnm hW 0 (k := 0) (v := .ref n1) (ty := .array .int) rfl rfl kin_3 tyX3_ok nmX3 (by decide) kw_57 rfl rfl (by decide +kernel) rfl rfl (Nat.le_of_ble_eq_true rfl) ([(b, .inr (3, [.ref n1, .null, .null, .null, .null, .null, .int 0, .int 0, .int 0, .int 0, .int 0, .int 0, .int 0]))] ++ ([(n1, .inl (G.2.2.2 0, 5, .inl tFirst))] ++ Y)) rfl dX3_init_14 (fun H locs hW => ?_)
  refine lv_aload_n hx hb dX3_init_17 rfl (lv_at hl 0 rfl) ?_
  refine r_new (ci := 0) M hW kin_0 tyX0_ok kw_58 kw_59 kw_60 rfl [.null, .int 0] hfs_0 ⟨Nat.le_of_ble_eq_true rfl, Nat.le_of_ble_eq_true rfl⟩ dX3_init_18 (fun n2 H hW => ?_)
  refine lv_dup hx hb dX3_init_21 rfl ?_
  refine r_callIN M hW (c_X0_init l G n2 ([(b, .inr (3, [.ref n1, .null, .null, .null, .null, .null, .int 0, .int 0, .int 0, .int 0, .int 0, .int 0, .int 0]))] ++ ([(n1, .inl (G.2.2.2 0, 5, .inl tFirst))] ++ Y))) rfl kn_X3_25 kw_72 rfl kw_60 kw_0 pl_X0_init ⟨by decide, by decide⟩ ⟨Nat.le_of_ble_eq_true rfl, Nat.le_of_ble_eq_true rfl⟩ hl.1 rfl (Nat.le_of_ble_eq_true rfl) dX3_init_22 (fun v w1 H locs hQ hW2 => ?_)
  obtain ⟨rfl, n3, rfl⟩ := hQ
  have hW := hW2
  have hW := Wd.f2 hW
  refine r_putF M hnm hW 0 (k := 1) (v := .ref n2) (ty := .object "GrainLeg$Belt") rfl rfl kin_3 tyX3_ok nmX3 (by decide) kw_61 rfl rfl (by decide +kernel) rfl rfl (Nat.le_of_ble_eq_true rfl) ([(b, .inr (3, [.ref n1, .ref n2, .null, .null, .null, .null, .int 0, .int 0, .int 0, .int 0, .int 0, .int 0, .int 0]))] ++ ([(n2, .inr (0, [.ref n3, .int 0]))] ++ ([(n3, .inl (G.2.2.2 0, 12, .inl (fun _ => 0)))] ++ ([(n1, .inl (G.2.2.2 0, 5, .inl tFirst))] ++ Y)))) rfl dX3_init_25 (fun H locs hW => ?_)
  refine lv_aload_n hx hb dX3_init_28 rfl (lv_at hl 0 rfl) ?_
  refine r_new (ci := 1) M hW kin_1 tyX1_ok kw_62 kw_63 kw_43 rfl [.int 0, .int 0, .int 0, .int 0, .int 0, .int 0] hfs_1 ⟨Nat.le_of_ble_eq_true rfl, Nat.le_of_ble_eq_true rfl⟩ dX3_init_29 (fun n4 H hW => ?_)
  refine lv_dup hx hb dX3_init_32 rfl ?_
  refine r_callIN M hW (c_X1_init l G n4 ([(b, .inr (3, [.ref n1, .ref n2, .null, .null, .null, .null, .int 0, .int 0, .int 0, .int 0, .int 0, .int 0, .int 0]))] ++ ([(n2, .inr (0, [.ref n3, .int 0]))] ++ ([(n3, .inl (G.2.2.2 0, 12, .inl (fun _ => 0)))] ++ ([(n1, .inl (G.2.2.2 0, 5, .inl tFirst))] ++ Y))))) rfl kn_X3_32 kw_73 rfl kw_43 kw_28 pl_X1_init ⟨by decide, by decide⟩ ⟨Nat.le_of_ble_eq_true rfl, Nat.le_of_ble_eq_true rfl⟩ hl.1 rfl (Nat.le_of_ble_eq_true rfl) dX3_init_33 (fun v w1 H locs hQ hW2 => ?_)
  obtain ⟨rfl, rfl⟩ := hQ
  have hW := hW2
  have hW := Wd.f1 hW
  refine r_putF M hnm hW 0 (k := 2) (v := .ref n4) (ty := .object "GrainLeg$Grain") rfl rfl kin_3 tyX3_ok nmX3 (by decide) kw_64 rfl rfl (by decide +kernel) rfl rfl (Nat.le_of_ble_eq_true rfl) ([(b, .inr (3, [.ref n1, .ref n2, .ref n4, .null, .null, .null, .int 0, .int 0, .int 0, .int 0, .int 0, .int 0, .int 0]))] ++ ([(n4, .inr (1, [.int 0, .int 0, .int 0, .int 0, .int 0, .int 0]))] ++ ([(n2, .inr (0, [.ref n3, .int 0]))] ++ ([(n3, .inl (G.2.2.2 0, 12, .inl (fun _ => 0)))] ++ ([(n1, .inl (G.2.2.2 0, 5, .inl tFirst))] ++ Y))))) rfl dX3_init_36 (fun H locs hW => ?_)
  refine lv_aload_n hx hb dX3_init_39 rfl (lv_at hl 0 rfl) ?_
  refine r_new (ci := 5) M hW kin_5 tyX5_ok kw_65 kw_66 kw_67 rfl [.null, .null, .null, .int 0] hfs_5 ⟨Nat.le_of_ble_eq_true rfl, Nat.le_of_ble_eq_true rfl⟩ dX3_init_40 (fun n5 H hW => ?_)
  refine lv_dup hx hb dX3_init_43 rfl ?_
  refine r_callIN M hW (c_X5_init l G n5 ([(b, .inr (3, [.ref n1, .ref n2, .ref n4, .null, .null, .null, .int 0, .int 0, .int 0, .int 0, .int 0, .int 0, .int 0]))] ++ ([(n4, .inr (1, [.int 0, .int 0, .int 0, .int 0, .int 0, .int 0]))] ++ ([(n2, .inr (0, [.ref n3, .int 0]))] ++ ([(n3, .inl (G.2.2.2 0, 12, .inl (fun _ => 0)))] ++ ([(n1, .inl (G.2.2.2 0, 5, .inl tFirst))] ++ Y)))))) rfl kn_X3_39 kw_74 rfl kw_67 kw_45 pl_X5_init ⟨by decide, by decide⟩ ⟨Nat.le_of_ble_eq_true rfl, Nat.le_of_ble_eq_true rfl⟩ hl.1 rfl (Nat.le_of_ble_eq_true rfl) dX3_init_44 (fun v w1 H locs hQ hW2 => ?_)
  obtain ⟨rfl, n6, n7, n8, rfl⟩ := hQ
  have hW := hW2
  have hW := Wd.f4 hW
  refine r_putF M hnm hW 0 (k := 3) (v := .ref n5) (ty := .object "GrainLeg$Trips") rfl rfl kin_3 tyX3_ok nmX3 (by decide) kw_68 rfl rfl (by decide +kernel) rfl rfl (Nat.le_of_ble_eq_true rfl) ([(b, .inr (3, [.ref n1, .ref n2, .ref n4, .ref n5, .null, .null, .int 0, .int 0, .int 0, .int 0, .int 0, .int 0, .int 0]))] ++ ([(n5, .inr (5, [.ref n6, .ref n7, .ref n8, .int 0]))] ++ ([(n6, .inl (G.2.2.2 0, 6, .inl (fun _ => 0)))] ++ ([(n7, .inl (G.2.2.2 0, 6, .inl (fun _ => 0)))] ++ ([(n8, .inl (G.2.2.2 0, 6, .inl (fun _ => 0)))] ++ ([(n4, .inr (1, [.int 0, .int 0, .int 0, .int 0, .int 0, .int 0]))] ++ ([(n2, .inr (0, [.ref n3, .int 0]))] ++ ([(n3, .inl (G.2.2.2 0, 12, .inl (fun _ => 0)))] ++ ([(n1, .inl (G.2.2.2 0, 5, .inl tFirst))] ++ Y))))))))) rfl dX3_init_47 (fun H locs hW => ?_)
  refine lv_aload_n hx hb dX3_init_50 rfl (lv_at hl 0 rfl) ?_
  refine lv_iconst (v := 3) hx hb dX3_init_51 (by decide) ?_
  refine r_newI M hW 3 (by decide) rfl (by decide) ⟨Nat.le_of_ble_eq_true rfl, Nat.le_of_ble_eq_true rfl⟩ dX3_init_52 (fun n9 H hW => ?_)
  have hW := Wd.f1 hW
  refine r_putF M hnm hW 0 (k := 4) (v := .ref n9) (ty := .array .int) rfl rfl kin_3 tyX3_ok nmX3 (by decide) kw_69 rfl rfl (by decide +kernel) rfl rfl (Nat.le_of_ble_eq_true rfl) ([(b, .inr (3, [.ref n1, .ref n2, .ref n4, .ref n5, .ref n9, .null, .int 0, .int 0, .int 0, .int 0, .int 0, .int 0, .int 0]))] ++ ([(n9, .inl (G.2.2.2 0, 3, .inl (fun _ => 0)))] ++ ([(n5, .inr (5, [.ref n6, .ref n7, .ref n8, .int 0]))] ++ ([(n6, .inl (G.2.2.2 0, 6, .inl (fun _ => 0)))] ++ ([(n7, .inl (G.2.2.2 0, 6, .inl (fun _ => 0)))] ++ ([(n8, .inl (G.2.2.2 0, 6, .inl (fun _ => 0)))] ++ ([(n4, .inr (1, [.int 0, .int 0, .int 0, .int 0, .int 0, .int 0]))] ++ ([(n2, .inr (0, [.ref n3, .int 0]))] ++ ([(n3, .inl (G.2.2.2 0, 12, .inl (fun _ => 0)))] ++ ([(n1, .inl (G.2.2.2 0, 5, .inl tFirst))] ++ Y)))))))))) rfl dX3_init_54 (fun H locs hW => ?_)
  refine lv_aload_n hx hb dX3_init_57 rfl (lv_at hl 0 rfl) ?_
  refine lv_iconst (v := 3) hx hb dX3_init_58 (by decide) ?_
  refine r_newI M hW 3 (by decide) rfl (by decide) ⟨Nat.le_of_ble_eq_true rfl, Nat.le_of_ble_eq_true rfl⟩ dX3_init_59 (fun n10 H hW => ?_)
  have hW := Wd.f1 hW
  refine r_putF M hnm hW 0 (k := 5) (v := .ref n10) (ty := .array .int) rfl rfl kin_3 tyX3_ok nmX3 (by decide) kw_70 rfl rfl (by decide +kernel) rfl rfl (Nat.le_of_ble_eq_true rfl) ([(b, .inr (3, [.ref n1, .ref n2, .ref n4, .ref n5, .ref n9, .ref n10, .int 0, .int 0, .int 0, .int 0, .int 0, .int 0, .int 0]))] ++ ([(n10, .inl (G.2.2.2 0, 3, .inl (fun _ => 0)))] ++ ([(n9, .inl (G.2.2.2 0, 3, .inl (fun _ => 0)))] ++ ([(n5, .inr (5, [.ref n6, .ref n7, .ref n8, .int 0]))] ++ ([(n6, .inl (G.2.2.2 0, 6, .inl (fun _ => 0)))] ++ ([(n7, .inl (G.2.2.2 0, 6, .inl (fun _ => 0)))] ++ ([(n8, .inl (G.2.2.2 0, 6, .inl (fun _ => 0)))] ++ ([(n4, .inr (1, [.int 0, .int 0, .int 0, .int 0, .int 0, .int 0]))] ++ ([(n2, .inr (0, [.ref n3, .int 0]))] ++ ([(n3, .inl (G.2.2.2 0, 12, .inl (fun _ => 0)))] ++ ([(n1, .inl (G.2.2.2 0, 5, .inl tFirst))] ++ Y))))))))))) rfl dX3_init_61 (fun H locs hW => ?_)
  refine lv_aload_n hx hb dX3_init_64 rfl (lv_at hl 0 rfl) ?_
  refine lv_bipush (v := (-105)) hx hb dX3_init_65 (by decide) ?_
  refine r_put M hW 0 (k := 11) (v := .int (-105)) rfl rfl kin_3 tyX3_ok nmX3 (by decide) kw_71 rfl pfI rfl rfl (Nat.le_of_ble_eq_true rfl) ([(b, .inr (3, [.ref n1, .ref n2, .ref n4, .ref n5, .ref n9, .ref n10, .int 0, .int 0, .int 0, .int 0, .int 0, .int (-105), .int 0]))] ++ ([(n10, .inl (G.2.2.2 0, 3, .inl (fun _ => 0)))] ++ ([(n9, .inl (G.2.2.2 0, 3, .inl (fun _ => 0)))] ++ ([(n5, .inr (5, [.ref n6, .ref n7, .ref n8, .int 0]))] ++ ([(n6, .inl (G.2.2.2 0, 6, .inl (fun _ => 0)))] ++ ([(n7, .inl (G.2.2.2 0, 6, .inl (fun _ => 0)))] ++ ([(n8, .inl (G.2.2.2 0, 6, .inl (fun _ => 0)))] ++ ([(n4, .inr (1, [.int 0, .int 0, .int 0, .int 0, .int 0, .int 0]))] ++ ([(n2, .inr (0, [.ref n3, .int 0]))] ++ ([(n3, .inl (G.2.2.2 0, 12, .inl (fun _ => 0)))] ++ ([(n1, .inl (G.2.2.2 0, 5, .inl tFirst))] ++ Y))))))))))) rfl dX3_init_67 (fun H locs hW => ?_)
  have hW := Wd.f1 hW
  have hW := Wd.f2 hW
  have hW := Wd.f6 hW
  have hW := Wd.f6 hW
  have hW := Wd.f6 hW
  have hW := Wd.f6 hW
  have hW := Wd.f7 hW
  have hW := Wd.f9 hW
  have hW := Wd.f9 hW
  have hW := Wd.f10 hW
  have hW := Wd.f10 hW
  have hW : Wd G s (LegW G (at5 [b, n1, n2, n3, n4, n5, n6, n7, n8, n9, n10]) legI ++ Y) _ _ := hW
  exact r_retv M hW rfl ⟨rfl, at5 [b, n1, n2, n3, n4, n5, n6, n7, n8, n9, n10], rfl, rfl⟩ (Nat.le_of_ble_eq_true rfl) (Nat.le_of_ble_eq_true rfl) dX3_init_70

set_option maxHeartbeats 4000000 in
set_option maxRecDepth 100000 in
/-- X4.<init> -/
theorem c_X4_init (l : Launch) (G : Gp) (b : Nat) (Y : va_W) : CnE l G yX4_init cX4_init 1 none 1 3 180 [.ref b] ([(b, .inr (4, [.null, .int 0, .null, .null, .int 0, .int 0]))] ++ Y) (fun v w1 => v = none ∧ ∃ (a : Nat → Nat), a 0 = b ∧ w1 = TextW G a zeroI ++ Y) := by
  refine CnE.of (by decide) (Nat.le_of_ble_eq_true rfl) ?_
  intro p e s m below meth c ls M hnm hl hW
  have hx := M.1
  have hb := M.2.1
  have hl : lv_has ls 1 [(0, .ref b)] := hl
  refine lv_aload_n hx hb dX4_init_0 rfl (lv_at hl 0 rfl) ?_
  refine r_obj M kw_199 hl.1 ⟨by decide, by decide⟩ (Nat.le_of_ble_eq_true rfl) dX4_init_1 ?_
  refine lv_aload_n hx hb dX4_init_4 rfl (lv_at hl 0 rfl) ?_
  refine lv_bipush (v := 60) hx hb dX4_init_5 (by decide) ?_
  refine r_newC M hW 60 (by decide) rfl (by decide) ⟨Nat.le_of_ble_eq_true rfl, Nat.le_of_ble_eq_true rfl⟩ dX4_init_7 (fun n1 H hW => ?_)
  have hW := Wd.f1 hW
  refine r_putF M hnm hW 0 (k := 0) (v := .ref n1) (ty := .array .char) rfl rfl kin_4 tyX4_ok nmX4 (by decide) kw_201 rfl rfl (by decide +kernel) rfl rfl (Nat.le_of_ble_eq_true rfl) ([(b, .inr (4, [.ref n1, .int 0, .null, .null, .int 0, .int 0]))] ++ ([(n1, .inl (G.2.2.2 1, 60, .inl (fun _ => 0)))] ++ Y)) rfl dX4_init_9 (fun H locs hW => ?_)
  refine lv_aload_n hx hb dX4_init_12 rfl (lv_at hl 0 rfl) ?_
  refine lv_bipush (v := 60) hx hb dX4_init_13 (by decide) ?_
  refine r_newC M hW 60 (by decide) rfl (by decide) ⟨Nat.le_of_ble_eq_true rfl, Nat.le_of_ble_eq_true rfl⟩ dX4_init_15 (fun n2 H hW => ?_)
  have hW := Wd.f1 hW
  refine r_putF M hnm hW 0 (k := 2) (v := .ref n2) (ty := .array .char) rfl rfl kin_4 tyX4_ok nmX4 (by decide) kw_202 rfl rfl (by decide +kernel) rfl rfl (Nat.le_of_ble_eq_true rfl) ([(b, .inr (4, [.ref n1, .int 0, .ref n2, .null, .int 0, .int 0]))] ++ ([(n2, .inl (G.2.2.2 1, 60, .inl (fun _ => 0)))] ++ ([(n1, .inl (G.2.2.2 1, 60, .inl (fun _ => 0)))] ++ Y))) rfl dX4_init_17 (fun H locs hW => ?_)
  refine lv_aload_n hx hb dX4_init_20 rfl (lv_at hl 0 rfl) ?_
  refine lv_bipush (v := 60) hx hb dX4_init_21 (by decide) ?_
  refine r_newI M hW 60 (by decide) rfl (by decide) ⟨Nat.le_of_ble_eq_true rfl, Nat.le_of_ble_eq_true rfl⟩ dX4_init_23 (fun n3 H hW => ?_)
  have hW := Wd.f1 hW
  refine r_putF M hnm hW 0 (k := 3) (v := .ref n3) (ty := .array .int) rfl rfl kin_4 tyX4_ok nmX4 (by decide) kw_203 rfl rfl (by decide +kernel) rfl rfl (Nat.le_of_ble_eq_true rfl) ([(b, .inr (4, [.ref n1, .int 0, .ref n2, .ref n3, .int 0, .int 0]))] ++ ([(n3, .inl (G.2.2.2 0, 60, .inl (fun _ => 0)))] ++ ([(n2, .inl (G.2.2.2 1, 60, .inl (fun _ => 0)))] ++ ([(n1, .inl (G.2.2.2 1, 60, .inl (fun _ => 0)))] ++ Y)))) rfl dX4_init_25 (fun H locs hW => ?_)
  have hW := Wd.f1 hW
  have hW := Wd.f2 hW
  have hW := Wd.f3 hW
  have hW := Wd.f3 hW
  have hW : Wd G s (TextW G (at5 [b, n1, n2, n3]) zeroI ++ Y) _ _ := hW
  exact r_retv M hW rfl ⟨rfl, at5 [b, n1, n2, n3], rfl, rfl⟩ (Nat.le_of_ble_eq_true rfl) (Nat.le_of_ble_eq_true rfl) dX4_init_28

set_option maxHeartbeats 4000000 in
set_option maxRecDepth 100000 in
/-- X7.<init> -/
theorem c_X7_init (l : Launch) (G : Gp) (b : Nat) (Y : va_W) : CnE l G yX7_init cX7_init 1 none 1 6 516 [.ref b] ([(b, .inr (7, [.int 0, .null, .null, .null, .int 0, .null, .int 0, .null, .int 0, .int 0, .int 0, .int 0, .int 0, .null, .int 0]))] ++ Y) (fun v w1 => v = none ∧ ∃ (a : Nat → Nat), a 0 = b ∧ w1 = ModW G a modI ++ Y) := by
  refine CnE.of (by decide) (Nat.le_of_ble_eq_true rfl) ?_
  intro p e s m below meth c ls M hnm hl hW
  have hx := M.1
  have hb := M.2.1
  have hl : lv_has ls 1 [(0, .ref b)] := hl
  refine lv_aload_n hx hb dX7_init_0 rfl (lv_at hl 0 rfl) ?_
  refine r_obj M kw_391 hl.1 ⟨by decide, by decide⟩ (Nat.le_of_ble_eq_true rfl) dX7_init_1 ?_
  refine lv_aload_n hx hb dX7_init_4 rfl (lv_at hl 0 rfl) ?_
  refine lv_bipush (v := 56) hx hb dX7_init_5 (by decide) ?_
  refine r_newI M hW 56 (by decide) rfl (by decide) ⟨Nat.le_of_ble_eq_true rfl, Nat.le_of_ble_eq_true rfl⟩ dX7_init_7 (fun n1 H hW => ?_)
  have hW := Wd.f1 hW
  refine r_putF M hnm hW 0 (k := 1) (v := .ref n1) (ty := .array .int) rfl rfl kin_7 tyX7_ok nmX7 (by decide) kw_392 rfl rfl (by decide +kernel) rfl rfl (Nat.le_of_ble_eq_true rfl) ([(b, .inr (7, [.int 0, .ref n1, .null, .null, .int 0, .null, .int 0, .null, .int 0, .int 0, .int 0, .int 0, .int 0, .null, .int 0]))] ++ ([(n1, .inl (G.2.2.2 0, 56, .inl (fun _ => 0)))] ++ Y)) rfl dX7_init_9 (fun H locs hW => ?_)
  refine lv_aload_n hx hb dX7_init_12 rfl (lv_at hl 0 rfl) ?_
  refine lv_bipush (v := 56) hx hb dX7_init_13 (by decide) ?_
  refine r_newI M hW 56 (by decide) rfl (by decide) ⟨Nat.le_of_ble_eq_true rfl, Nat.le_of_ble_eq_true rfl⟩ dX7_init_15 (fun n2 H hW => ?_)
  have hW := Wd.f1 hW
  refine r_putF M hnm hW 0 (k := 2) (v := .ref n2) (ty := .array .int) rfl rfl kin_7 tyX7_ok nmX7 (by decide) kw_393 rfl rfl (by decide +kernel) rfl rfl (Nat.le_of_ble_eq_true rfl) ([(b, .inr (7, [.int 0, .ref n1, .ref n2, .null, .int 0, .null, .int 0, .null, .int 0, .int 0, .int 0, .int 0, .int 0, .null, .int 0]))] ++ ([(n2, .inl (G.2.2.2 0, 56, .inl (fun _ => 0)))] ++ ([(n1, .inl (G.2.2.2 0, 56, .inl (fun _ => 0)))] ++ Y))) rfl dX7_init_17 (fun H locs hW => ?_)
  refine lv_aload_n hx hb dX7_init_20 rfl (lv_at hl 0 rfl) ?_
  refine lv_sipush (v := 224) hx hb dX7_init_21 (by decide) ?_
  refine r_newI M hW 224 (by decide) rfl (by decide) ⟨Nat.le_of_ble_eq_true rfl, Nat.le_of_ble_eq_true rfl⟩ dX7_init_24 (fun n3 H hW => ?_)
  have hW := Wd.f1 hW
  refine r_putF M hnm hW 0 (k := 3) (v := .ref n3) (ty := .array .int) rfl rfl kin_7 tyX7_ok nmX7 (by decide) kw_394 rfl rfl (by decide +kernel) rfl rfl (Nat.le_of_ble_eq_true rfl) ([(b, .inr (7, [.int 0, .ref n1, .ref n2, .ref n3, .int 0, .null, .int 0, .null, .int 0, .int 0, .int 0, .int 0, .int 0, .null, .int 0]))] ++ ([(n3, .inl (G.2.2.2 0, 224, .inl (fun _ => 0)))] ++ ([(n2, .inl (G.2.2.2 0, 56, .inl (fun _ => 0)))] ++ ([(n1, .inl (G.2.2.2 0, 56, .inl (fun _ => 0)))] ++ Y)))) rfl dX7_init_26 (fun H locs hW => ?_)
  refine lv_aload_n hx hb dX7_init_29 rfl (lv_at hl 0 rfl) ?_
  refine lv_bipush (v := 56) hx hb dX7_init_30 (by decide) ?_
  refine r_newI M hW 56 (by decide) rfl (by decide) ⟨Nat.le_of_ble_eq_true rfl, Nat.le_of_ble_eq_true rfl⟩ dX7_init_32 (fun n4 H hW => ?_)
  have hW := Wd.f1 hW
  refine r_putF M hnm hW 0 (k := 5) (v := .ref n4) (ty := .array .int) rfl rfl kin_7 tyX7_ok nmX7 (by decide) kw_395 rfl rfl (by decide +kernel) rfl rfl (Nat.le_of_ble_eq_true rfl) ([(b, .inr (7, [.int 0, .ref n1, .ref n2, .ref n3, .int 0, .ref n4, .int 0, .null, .int 0, .int 0, .int 0, .int 0, .int 0, .null, .int 0]))] ++ ([(n4, .inl (G.2.2.2 0, 56, .inl (fun _ => 0)))] ++ ([(n3, .inl (G.2.2.2 0, 224, .inl (fun _ => 0)))] ++ ([(n2, .inl (G.2.2.2 0, 56, .inl (fun _ => 0)))] ++ ([(n1, .inl (G.2.2.2 0, 56, .inl (fun _ => 0)))] ++ Y))))) rfl dX7_init_34 (fun H locs hW => ?_)
  refine lv_aload_n hx hb dX7_init_37 rfl (lv_at hl 0 rfl) ?_
  refine lv_bipush (v := 60) hx hb dX7_init_38 (by decide) ?_
  refine r_newI M hW 60 (by decide) rfl (by decide) ⟨Nat.le_of_ble_eq_true rfl, Nat.le_of_ble_eq_true rfl⟩ dX7_init_40 (fun n5 H hW => ?_)
  have hW := Wd.f1 hW
  refine r_putF M hnm hW 0 (k := 7) (v := .ref n5) (ty := .array .int) rfl rfl kin_7 tyX7_ok nmX7 (by decide) kw_396 rfl rfl (by decide +kernel) rfl rfl (Nat.le_of_ble_eq_true rfl) ([(b, .inr (7, [.int 0, .ref n1, .ref n2, .ref n3, .int 0, .ref n4, .int 0, .ref n5, .int 0, .int 0, .int 0, .int 0, .int 0, .null, .int 0]))] ++ ([(n5, .inl (G.2.2.2 0, 60, .inl (fun _ => 0)))] ++ ([(n4, .inl (G.2.2.2 0, 56, .inl (fun _ => 0)))] ++ ([(n3, .inl (G.2.2.2 0, 224, .inl (fun _ => 0)))] ++ ([(n2, .inl (G.2.2.2 0, 56, .inl (fun _ => 0)))] ++ ([(n1, .inl (G.2.2.2 0, 56, .inl (fun _ => 0)))] ++ Y)))))) rfl dX7_init_42 (fun H locs hW => ?_)
  refine lv_aload_n hx hb dX7_init_45 rfl (lv_at hl 0 rfl) ?_
  refine lv_bipush (v := 64) hx hb dX7_init_46 (by decide) ?_
  refine r_newI M hW 64 (by decide) rfl (by decide) ⟨Nat.le_of_ble_eq_true rfl, Nat.le_of_ble_eq_true rfl⟩ dX7_init_48 (fun n6 H hW => ?_)
  have hW := Wd.f1 hW
  refine r_putF M hnm hW 0 (k := 13) (v := .ref n6) (ty := .array .int) rfl rfl kin_7 tyX7_ok nmX7 (by decide) kw_397 rfl rfl (by decide +kernel) rfl rfl (Nat.le_of_ble_eq_true rfl) ([(b, .inr (7, [.int 0, .ref n1, .ref n2, .ref n3, .int 0, .ref n4, .int 0, .ref n5, .int 0, .int 0, .int 0, .int 0, .int 0, .ref n6, .int 0]))] ++ ([(n6, .inl (G.2.2.2 0, 64, .inl (fun _ => 0)))] ++ ([(n5, .inl (G.2.2.2 0, 60, .inl (fun _ => 0)))] ++ ([(n4, .inl (G.2.2.2 0, 56, .inl (fun _ => 0)))] ++ ([(n3, .inl (G.2.2.2 0, 224, .inl (fun _ => 0)))] ++ ([(n2, .inl (G.2.2.2 0, 56, .inl (fun _ => 0)))] ++ ([(n1, .inl (G.2.2.2 0, 56, .inl (fun _ => 0)))] ++ Y))))))) rfl dX7_init_50 (fun H locs hW => ?_)
  refine lv_aload_n hx hb dX7_init_53 rfl (lv_at hl 0 rfl) ?_
  refine lv_iconst (v := 0) hx hb dX7_init_54 (by decide) ?_
  refine r_put M hW 0 (k := 0) (v := .int 0) rfl rfl kin_7 tyX7_ok nmX7 (by decide) kw_398 rfl pfI rfl rfl (Nat.le_of_ble_eq_true rfl) ([(b, .inr (7, [.int 0, .ref n1, .ref n2, .ref n3, .int 0, .ref n4, .int 0, .ref n5, .int 0, .int 0, .int 0, .int 0, .int 0, .ref n6, .int 0]))] ++ ([(n6, .inl (G.2.2.2 0, 64, .inl (fun _ => 0)))] ++ ([(n5, .inl (G.2.2.2 0, 60, .inl (fun _ => 0)))] ++ ([(n4, .inl (G.2.2.2 0, 56, .inl (fun _ => 0)))] ++ ([(n3, .inl (G.2.2.2 0, 224, .inl (fun _ => 0)))] ++ ([(n2, .inl (G.2.2.2 0, 56, .inl (fun _ => 0)))] ++ ([(n1, .inl (G.2.2.2 0, 56, .inl (fun _ => 0)))] ++ Y))))))) rfl dX7_init_55 (fun H locs hW => ?_)
  refine lv_aload_n hx hb dX7_init_58 rfl (lv_at hl 0 rfl) ?_
  refine lv_bipush (v := (-105)) hx hb dX7_init_59 (by decide) ?_
  refine r_put M hW 0 (k := 9) (v := .int (-105)) rfl rfl kin_7 tyX7_ok nmX7 (by decide) kw_399 rfl pfI rfl rfl (Nat.le_of_ble_eq_true rfl) ([(b, .inr (7, [.int 0, .ref n1, .ref n2, .ref n3, .int 0, .ref n4, .int 0, .ref n5, .int 0, .int (-105), .int 0, .int 0, .int 0, .ref n6, .int 0]))] ++ ([(n6, .inl (G.2.2.2 0, 64, .inl (fun _ => 0)))] ++ ([(n5, .inl (G.2.2.2 0, 60, .inl (fun _ => 0)))] ++ ([(n4, .inl (G.2.2.2 0, 56, .inl (fun _ => 0)))] ++ ([(n3, .inl (G.2.2.2 0, 224, .inl (fun _ => 0)))] ++ ([(n2, .inl (G.2.2.2 0, 56, .inl (fun _ => 0)))] ++ ([(n1, .inl (G.2.2.2 0, 56, .inl (fun _ => 0)))] ++ Y))))))) rfl dX7_init_61 (fun H locs hW => ?_)
  refine lv_aload_n hx hb dX7_init_64 rfl (lv_at hl 0 rfl) ?_
  refine lv_bipush (v := (-105)) hx hb dX7_init_65 (by decide) ?_
  refine r_put M hW 0 (k := 10) (v := .int (-105)) rfl rfl kin_7 tyX7_ok nmX7 (by decide) kw_400 rfl pfI rfl rfl (Nat.le_of_ble_eq_true rfl) ([(b, .inr (7, [.int 0, .ref n1, .ref n2, .ref n3, .int 0, .ref n4, .int 0, .ref n5, .int 0, .int (-105), .int (-105), .int 0, .int 0, .ref n6, .int 0]))] ++ ([(n6, .inl (G.2.2.2 0, 64, .inl (fun _ => 0)))] ++ ([(n5, .inl (G.2.2.2 0, 60, .inl (fun _ => 0)))] ++ ([(n4, .inl (G.2.2.2 0, 56, .inl (fun _ => 0)))] ++ ([(n3, .inl (G.2.2.2 0, 224, .inl (fun _ => 0)))] ++ ([(n2, .inl (G.2.2.2 0, 56, .inl (fun _ => 0)))] ++ ([(n1, .inl (G.2.2.2 0, 56, .inl (fun _ => 0)))] ++ Y))))))) rfl dX7_init_67 (fun H locs hW => ?_)
  refine lv_aload_n hx hb dX7_init_70 rfl (lv_at hl 0 rfl) ?_
  refine r_get M hW 0 (k := 1) (v := .ref n1) rfl rfl kin_7 (by decide) kw_392 rfl dX7_init_71 ?_
  refine lv_iconst (v := 0) hx hb dX7_init_74 (by decide) ?_
  refine lv_iconst (v := 3) hx hb dX7_init_75 (by decide) ?_
  have hW := Wd.f6 hW
  refine r_iast M hW 0 rfl 0 rfl (by decide) (by decide) ([(n1, .inl (G.2.2.2 0, 56, .inl (upd (fun _ => 0) 0 3)))] ++ ([(b, .inr (7, [.int 0, .ref n1, .ref n2, .ref n3, .int 0, .ref n4, .int 0, .ref n5, .int 0, .int (-105), .int (-105), .int 0, .int 0, .ref n6, .int 0]))] ++ ([(n6, .inl (G.2.2.2 0, 64, .inl (fun _ => 0)))] ++ ([(n5, .inl (G.2.2.2 0, 60, .inl (fun _ => 0)))] ++ ([(n4, .inl (G.2.2.2 0, 56, .inl (fun _ => 0)))] ++ ([(n3, .inl (G.2.2.2 0, 224, .inl (fun _ => 0)))] ++ ([(n2, .inl (G.2.2.2 0, 56, .inl (fun _ => 0)))] ++ Y))))))) rfl dX7_init_76 (fun H locs hW => ?_)
  refine lv_aload_n hx hb dX7_init_77 rfl (lv_at hl 0 rfl) ?_
  have hW := Wd.f1 hW
  refine r_get M hW 0 (k := 1) (v := .ref n1) rfl rfl kin_7 (by decide) kw_392 rfl dX7_init_78 ?_
  refine lv_iconst (v := 1) hx hb dX7_init_81 (by decide) ?_
  refine lv_bipush (v := 60) hx hb dX7_init_82 (by decide) ?_
  have hW := Wd.f1 hW
  refine r_iast M hW 0 rfl 1 rfl (by decide) (by decide) ([(n1, .inl (G.2.2.2 0, 56, .inl (upd (upd (fun _ => 0) 0 3) 1 60)))] ++ ([(b, .inr (7, [.int 0, .ref n1, .ref n2, .ref n3, .int 0, .ref n4, .int 0, .ref n5, .int 0, .int (-105), .int (-105), .int 0, .int 0, .ref n6, .int 0]))] ++ ([(n6, .inl (G.2.2.2 0, 64, .inl (fun _ => 0)))] ++ ([(n5, .inl (G.2.2.2 0, 60, .inl (fun _ => 0)))] ++ ([(n4, .inl (G.2.2.2 0, 56, .inl (fun _ => 0)))] ++ ([(n3, .inl (G.2.2.2 0, 224, .inl (fun _ => 0)))] ++ ([(n2, .inl (G.2.2.2 0, 56, .inl (fun _ => 0)))] ++ Y))))))) rfl dX7_init_84 (fun H locs hW => ?_)
  refine lv_aload_n hx hb dX7_init_85 rfl (lv_at hl 0 rfl) ?_
  have hW := Wd.f1 hW
  refine r_get M hW 0 (k := 1) (v := .ref n1) rfl rfl kin_7 (by decide) kw_392 rfl dX7_init_86 ?_
  refine lv_iconst (v := 2) hx hb dX7_init_89 (by decide) ?_
  refine lv_bipush (v := 6) hx hb dX7_init_90 (by decide) ?_
  have hW := Wd.f1 hW
  refine r_iast M hW 0 rfl 2 rfl (by decide) (by decide) ([(n1, .inl (G.2.2.2 0, 56, .inl (upd (upd (upd (fun _ => 0) 0 3) 1 60) 2 6)))] ++ ([(b, .inr (7, [.int 0, .ref n1, .ref n2, .ref n3, .int 0, .ref n4, .int 0, .ref n5, .int 0, .int (-105), .int (-105), .int 0, .int 0, .ref n6, .int 0]))] ++ ([(n6, .inl (G.2.2.2 0, 64, .inl (fun _ => 0)))] ++ ([(n5, .inl (G.2.2.2 0, 60, .inl (fun _ => 0)))] ++ ([(n4, .inl (G.2.2.2 0, 56, .inl (fun _ => 0)))] ++ ([(n3, .inl (G.2.2.2 0, 224, .inl (fun _ => 0)))] ++ ([(n2, .inl (G.2.2.2 0, 56, .inl (fun _ => 0)))] ++ Y))))))) rfl dX7_init_92 (fun H locs hW => ?_)
  refine lv_aload_n hx hb dX7_init_93 rfl (lv_at hl 0 rfl) ?_
  have hW := Wd.f1 hW
  refine r_get M hW 0 (k := 1) (v := .ref n1) rfl rfl kin_7 (by decide) kw_392 rfl dX7_init_94 ?_
  refine lv_iconst (v := 3) hx hb dX7_init_97 (by decide) ?_
  refine lv_bipush (v := 8) hx hb dX7_init_98 (by decide) ?_
  have hW := Wd.f1 hW
  refine r_iast M hW 0 rfl 3 rfl (by decide) (by decide) ([(n1, .inl (G.2.2.2 0, 56, .inl (upd (upd (upd (upd (fun _ => 0) 0 3) 1 60) 2 6) 3 8)))] ++ ([(b, .inr (7, [.int 0, .ref n1, .ref n2, .ref n3, .int 0, .ref n4, .int 0, .ref n5, .int 0, .int (-105), .int (-105), .int 0, .int 0, .ref n6, .int 0]))] ++ ([(n6, .inl (G.2.2.2 0, 64, .inl (fun _ => 0)))] ++ ([(n5, .inl (G.2.2.2 0, 60, .inl (fun _ => 0)))] ++ ([(n4, .inl (G.2.2.2 0, 56, .inl (fun _ => 0)))] ++ ([(n3, .inl (G.2.2.2 0, 224, .inl (fun _ => 0)))] ++ ([(n2, .inl (G.2.2.2 0, 56, .inl (fun _ => 0)))] ++ Y))))))) rfl dX7_init_100 (fun H locs hW => ?_)
  have hW := Wd.f2 hW
  have hW := Wd.f3 hW
  have hW := Wd.f4 hW
  have hW := Wd.f5 hW
  have hW := Wd.f6 hW
  have hW := Wd.f5 hW
  have hW := Wd.f6 hW
  have hW : Wd G s (ModW G (at5 [b, n1, n2, n3, n4, n5, n6]) modI ++ Y) _ _ := hW
  exact r_retv M hW rfl ⟨rfl, at5 [b, n1, n2, n3, n4, n5, n6], rfl, rfl⟩ (Nat.le_of_ble_eq_true rfl) (Nat.le_of_ble_eq_true rfl) dX7_init_101
