set_option maxHeartbeats 4000000 in
set_option maxRecDepth 100000 in
/-- X2.<init> -/
theorem c_X2_init (l : Launch) (G : Gp) (b : Nat) (Y : va_W) : CnE l G yX2_init cX2_init 2 none 3 45 268 [.ref b] ([(b, .inr (2, [.null, .int 0, .int 0]))] ++ Y) (fun v w1 => v = none ∧ ∃ (r : Nat), ∃ (y : Nat → Nat → Nat), w1 = [(b, .inr (2, [.ref r, .int 0, .int 0]))] ++ ([(r, .inl (G.2.2.2 2, 4, .inr (.inr (.inr (.inr (fun i => some (y i 0)))))))] ++ (LegW G (y 0) legI ++ (LegW G (y 1) legI ++ (LegW G (y 2) legI ++ (LegW G (y 3) legI ++ Y)))))) := by
  refine CnE.of (by decide) (Nat.le_of_ble_eq_true rfl) ?_
  intro p e s m below meth c ls M hnm hl hW
  have hx := M.1
  have hb := M.2.1
  have hl : lv_has ls 2 [(0, .ref b)] := hl
  refine lv_aload_n hx hb dX2_init_0 rfl (lv_at hl 0 rfl) ?_
  refine r_obj M kw_76 hl.1 ⟨by decide, by decide⟩ (Nat.le_of_ble_eq_true rfl) dX2_init_1 ?_
  refine lv_aload_n hx hb dX2_init_4 rfl (lv_at hl 0 rfl) ?_
  refine lv_iconst (v := 4) hx hb dX2_init_5 (by decide) ?_
  refine r_newQ M hW 4 kw_77 (by decide) rfl (by decide) ⟨Nat.le_of_ble_eq_true rfl, Nat.le_of_ble_eq_true rfl⟩ dX2_init_6 (fun n1 H hW => ?_)
  have hW := Wd.f1 hW
  refine r_putF M hnm hW 0 (k := 0) (v := .ref n1) (ty := .array (.object "GrainLeg$Leg")) rfl rfl kin_2 tyX2_ok nmX2 (by decide) kw_78 rfl rfl (by decide +kernel) rfl rfl (Nat.le_of_ble_eq_true rfl) ([(b, .inr (2, [.ref n1, .int 0, .int 0]))] ++ ([(n1, .inl (G.2.2.2 2, 4, .inr (.inr (.inr (.inr (fun _ => none))))))] ++ Y)) rfl dX2_init_9 (fun H locs hW => ?_)
  refine lv_iconst (v := 0) hx hb dX2_init_12 (by decide) ?_
  refine lv_istore_n (lv' := [(1, .int 0), (0, .ref b)]) hx hb dX2_init_13 rfl hl (by decide) rfl (fun ls hl => ?_)
  refine lv_iload_n hx hb dX2_init_14 rfl (lv_at hl 0 rfl) ?_
  refine lv_iconst (v := 4) hx hb dX2_init_15 (by decide) ?_
  refine lv_icmp_ge (tgt := 38) hx hb dX2_init_16 (by decide) (fun q => absurd q (by decide)) (fun _ => ?_)
  refine lv_aload_n hx hb dX2_init_19 rfl (lv_at hl 1 rfl) ?_
  refine r_get M hW 0 (k := 0) (v := .ref n1) rfl rfl kin_2 (by decide) kw_78 rfl dX2_init_20 ?_
  refine lv_iload_n hx hb dX2_init_23 rfl (lv_at hl 0 rfl) ?_
  refine r_new (ci := 3) M hW kin_3 tyX3_ok kw_77 kw_79 kw_80 rfl [.null, .null, .null, .null, .null, .null, .int 0, .int 0, .int 0, .int 0, .int 0, .int 0, .int 0] hfs_3 ⟨Nat.le_of_ble_eq_true rfl, Nat.le_of_ble_eq_true rfl⟩ dX2_init_24 (fun n2 H hW => ?_)
  refine lv_dup hx hb dX2_init_27 rfl ?_
  refine r_callIN M hW (c_X3_init l G n2 ([(b, .inr (2, [.ref n1, .int 0, .int 0]))] ++ ([(n1, .inl (G.2.2.2 2, 4, .inr (.inr (.inr (.inr (fun _ => none))))))] ++ Y))) rfl kn_X2_17 kw_81 rfl kw_80 kw_75 pl_X3_init ⟨by decide, by decide⟩ ⟨Nat.le_of_ble_eq_true rfl, Nat.le_of_ble_eq_true rfl⟩ hl.1 rfl (Nat.le_of_ble_eq_true rfl) dX2_init_28 (fun v w1 H locs hQ hW2 => ?_)
  obtain ⟨rfl, n3, ha, rfl⟩ := hQ
  subst ha
  have hW := hW2
  have hW := Wd.f2 hW
  refine r_astq M 0 hW rfl 0 rfl (by decide) (by decide) dX2_init_31 (fun H locs hW => ?_)
  refine lv_iinc (v := 1) (lv' := [(1, .int 1), (0, .ref b)]) hx hb dX2_init_32 hl (k := 0) rfl (by decide) (by decide) rfl (fun ls hl => ?_)
  refine lv_goto (tgt := 14) hx hb dX2_init_35 (by decide) ?_
  refine lv_iload_n hx hb dX2_init_14 rfl (lv_at hl 0 rfl) ?_
  refine lv_iconst (v := 4) hx hb dX2_init_15 (by decide) ?_
  refine lv_icmp_ge (tgt := 38) hx hb dX2_init_16 (by decide) (fun q => absurd q (by decide)) (fun _ => ?_)
  refine lv_aload_n hx hb dX2_init_19 rfl (lv_at hl 1 rfl) ?_
  have hW := Wd.f2 hW
  refine r_get M hW 0 (k := 0) (v := .ref n1) rfl rfl kin_2 (by decide) kw_78 rfl dX2_init_20 ?_
  refine lv_iload_n hx hb dX2_init_23 rfl (lv_at hl 0 rfl) ?_
  refine r_new (ci := 3) M hW kin_3 tyX3_ok kw_77 kw_79 kw_80 rfl [.null, .null, .null, .null, .null, .null, .int 0, .int 0, .int 0, .int 0, .int 0, .int 0, .int 0] hfs_3 ⟨Nat.le_of_ble_eq_true rfl, Nat.le_of_ble_eq_true rfl⟩ dX2_init_24 (fun n4 H hW => ?_)
  refine lv_dup hx hb dX2_init_27 rfl ?_
  refine r_callIN M hW (c_X3_init l G n4 ([(b, .inr (2, [.ref n1, .int 0, .int 0]))] ++ ([(n1, .inl (G.2.2.2 2, 4, .inr (.inr (.inr (.inr (va_up (fun _ => none) 0 (some (n3 0))))))))] ++ (LegW G n3 legI ++ Y)))) rfl kn_X2_17 kw_81 rfl kw_80 kw_75 pl_X3_init ⟨by decide, by decide⟩ ⟨Nat.le_of_ble_eq_true rfl, Nat.le_of_ble_eq_true rfl⟩ hl.1 rfl (Nat.le_of_ble_eq_true rfl) dX2_init_28 (fun v w1 H locs hQ hW2 => ?_)
  obtain ⟨rfl, n5, ha, rfl⟩ := hQ
  subst ha
  have hW := hW2
  have hW := Wd.f2 hW
  refine r_astq M 0 hW rfl 1 rfl (by decide) (by decide) dX2_init_31 (fun H locs hW => ?_)
  refine lv_iinc (v := 2) (lv' := [(1, .int 2), (0, .ref b)]) hx hb dX2_init_32 hl (k := 0) rfl (by decide) (by decide) rfl (fun ls hl => ?_)
  refine lv_goto (tgt := 14) hx hb dX2_init_35 (by decide) ?_
  refine lv_iload_n hx hb dX2_init_14 rfl (lv_at hl 0 rfl) ?_
  refine lv_iconst (v := 4) hx hb dX2_init_15 (by decide) ?_
  refine lv_icmp_ge (tgt := 38) hx hb dX2_init_16 (by decide) (fun q => absurd q (by decide)) (fun _ => ?_)
  refine lv_aload_n hx hb dX2_init_19 rfl (lv_at hl 1 rfl) ?_
  have hW := Wd.f2 hW
  refine r_get M hW 0 (k := 0) (v := .ref n1) rfl rfl kin_2 (by decide) kw_78 rfl dX2_init_20 ?_
  refine lv_iload_n hx hb dX2_init_23 rfl (lv_at hl 0 rfl) ?_
  refine r_new (ci := 3) M hW kin_3 tyX3_ok kw_77 kw_79 kw_80 rfl [.null, .null, .null, .null, .null, .null, .int 0, .int 0, .int 0, .int 0, .int 0, .int 0, .int 0] hfs_3 ⟨Nat.le_of_ble_eq_true rfl, Nat.le_of_ble_eq_true rfl⟩ dX2_init_24 (fun n6 H hW => ?_)
  refine lv_dup hx hb dX2_init_27 rfl ?_
  refine r_callIN M hW (c_X3_init l G n6 ([(b, .inr (2, [.ref n1, .int 0, .int 0]))] ++ ([(n1, .inl (G.2.2.2 2, 4, .inr (.inr (.inr (.inr (va_up (va_up (fun _ => none) 0 (some (n3 0))) 1 (some (n5 0))))))))] ++ (LegW G n5 legI ++ (LegW G n3 legI ++ Y))))) rfl kn_X2_17 kw_81 rfl kw_80 kw_75 pl_X3_init ⟨by decide, by decide⟩ ⟨Nat.le_of_ble_eq_true rfl, Nat.le_of_ble_eq_true rfl⟩ hl.1 rfl (Nat.le_of_ble_eq_true rfl) dX2_init_28 (fun v w1 H locs hQ hW2 => ?_)
  obtain ⟨rfl, n7, ha, rfl⟩ := hQ
  subst ha
  have hW := hW2
  have hW := Wd.f2 hW
  refine r_astq M 0 hW rfl 2 rfl (by decide) (by decide) dX2_init_31 (fun H locs hW => ?_)
  refine lv_iinc (v := 3) (lv' := [(1, .int 3), (0, .ref b)]) hx hb dX2_init_32 hl (k := 0) rfl (by decide) (by decide) rfl (fun ls hl => ?_)
  refine lv_goto (tgt := 14) hx hb dX2_init_35 (by decide) ?_
  refine lv_iload_n hx hb dX2_init_14 rfl (lv_at hl 0 rfl) ?_
  refine lv_iconst (v := 4) hx hb dX2_init_15 (by decide) ?_
  refine lv_icmp_ge (tgt := 38) hx hb dX2_init_16 (by decide) (fun q => absurd q (by decide)) (fun _ => ?_)
  refine lv_aload_n hx hb dX2_init_19 rfl (lv_at hl 1 rfl) ?_
  have hW := Wd.f2 hW
  refine r_get M hW 0 (k := 0) (v := .ref n1) rfl rfl kin_2 (by decide) kw_78 rfl dX2_init_20 ?_
  refine lv_iload_n hx hb dX2_init_23 rfl (lv_at hl 0 rfl) ?_
  refine r_new (ci := 3) M hW kin_3 tyX3_ok kw_77 kw_79 kw_80 rfl [.null, .null, .null, .null, .null, .null, .int 0, .int 0, .int 0, .int 0, .int 0, .int 0, .int 0] hfs_3 ⟨Nat.le_of_ble_eq_true rfl, Nat.le_of_ble_eq_true rfl⟩ dX2_init_24 (fun n8 H hW => ?_)
  refine lv_dup hx hb dX2_init_27 rfl ?_
  refine r_callIN M hW (c_X3_init l G n8 ([(b, .inr (2, [.ref n1, .int 0, .int 0]))] ++ ([(n1, .inl (G.2.2.2 2, 4, .inr (.inr (.inr (.inr (va_up (va_up (va_up (fun _ => none) 0 (some (n3 0))) 1 (some (n5 0))) 2 (some (n7 0))))))))] ++ (LegW G n7 legI ++ (LegW G n5 legI ++ (LegW G n3 legI ++ Y)))))) rfl kn_X2_17 kw_81 rfl kw_80 kw_75 pl_X3_init ⟨by decide, by decide⟩ ⟨Nat.le_of_ble_eq_true rfl, Nat.le_of_ble_eq_true rfl⟩ hl.1 rfl (Nat.le_of_ble_eq_true rfl) dX2_init_28 (fun v w1 H locs hQ hW2 => ?_)
  obtain ⟨rfl, n9, ha, rfl⟩ := hQ
  subst ha
  have hW := hW2
  have hW := Wd.f2 hW
  refine r_astq M 0 hW rfl 3 rfl (by decide) (by decide) dX2_init_31 (fun H locs hW => ?_)
  refine lv_iinc (v := 4) (lv' := [(1, .int 4), (0, .ref b)]) hx hb dX2_init_32 hl (k := 0) rfl (by decide) (by decide) rfl (fun ls hl => ?_)
  refine lv_goto (tgt := 14) hx hb dX2_init_35 (by decide) ?_
  refine lv_iload_n hx hb dX2_init_14 rfl (lv_at hl 0 rfl) ?_
  refine lv_iconst (v := 4) hx hb dX2_init_15 (by decide) ?_
  refine lv_icmp_ge (tgt := 38) hx hb dX2_init_16 (by decide) (fun _ => ?_) (fun q => absurd (by decide) q)
  have hW := Wd.f1 hW
  have hW := Wd.f3 hW
  have hW := Wd.f4 hW
  have hW := Wd.f5 hW
  have hW := Wd.f4 hW
  have hW := Wd.f5 hW
  have hW := Wd.f1 hW
  have hW := Wd.refs (f' := fun i => some ((at6 [n3, n5, n7, n9]) i 0)) hW (fun i hi => by rcases (show i = 0 ∨ i = 1 ∨ i = 2 ∨ i = 3 by omega) with rfl | rfl | rfl | rfl <;> rfl)
  have hW := Wd.f1 hW
  have hW : Wd G s ([(b, .inr (2, [.ref n1, .int 0, .int 0]))] ++ ([(n1, .inl (G.2.2.2 2, 4, .inr (.inr (.inr (.inr (fun i => some ((at6 [n3, n5, n7, n9]) i 0)))))))] ++ (LegW G ((at6 [n3, n5, n7, n9]) 0) legI ++ (LegW G ((at6 [n3, n5, n7, n9]) 1) legI ++ (LegW G ((at6 [n3, n5, n7, n9]) 2) legI ++ (LegW G ((at6 [n3, n5, n7, n9]) 3) legI ++ Y)))))) _ _ := hW
  exact r_retv M hW rfl ⟨rfl, n1, (at6 [n3, n5, n7, n9]), rfl⟩ (Nat.le_of_ble_eq_true rfl) (Nat.le_of_ble_eq_true rfl) dX2_init_38

def zI (b : Nat) (a1 a2 a3 a4 : Nat → Nat) (h r : Nat) (y : Nat → Nat → Nat) (t : Nat → Nat) : Nat → Nat → Nat := fun i => match i with
  | 0 => fun _ => b
  | 1 => a1
  | 2 => a2
  | 3 => a3
  | 4 => a4
  | 5 => fun j => if j = 0 then h else r
  | 10 => t
  | k => y (k - 6)

set_option maxHeartbeats 4000000 in
set_option maxRecDepth 100000 in
/-- X6.<init> -/
theorem c_X6_init (l : Launch) (G : Gp) (b : Nat) (Y : va_W) : CnE l G yX6_init cX6_init 1 none 4 94 721 [.ref b] ([(b, .inr (6, [.null, .null, .null, .null, .null, .int 0, .null, .int 0, .int 0]))] ++ Y) (fun v w1 => v = none ∧ ∃ (z : Nat → Nat → Nat), z 0 0 = b ∧ w1 = SysW G z sysI ++ (LegW G (z 1) legI ++ (LegW G (z 2) legI ++ (LegW G (z 3) legI ++ (LegW G (z 4) legI ++ (HistW G z zeroI ++ (LegW G (z 6) legI ++ (LegW G (z 7) legI ++ (LegW G (z 8) legI ++ (LegW G (z 9) legI ++ (TextW G (z 10) zeroI ++ Y))))))))))) := by
  refine CnE.of (by decide) (Nat.le_of_ble_eq_true rfl) ?_
  intro p e s m below meth c ls M hnm hl hW
  have hx := M.1
  have hb := M.2.1
  have hl : lv_has ls 1 [(0, .ref b)] := hl
  refine lv_aload_n hx hb dX6_init_0 rfl (lv_at hl 0 rfl) ?_
  refine r_obj M kw_252 hl.1 ⟨by decide, by decide⟩ (Nat.le_of_ble_eq_true rfl) dX6_init_1 ?_
  refine lv_aload_n hx hb dX6_init_4 rfl (lv_at hl 0 rfl) ?_
  refine r_new (ci := 3) M hW kin_3 tyX3_ok kw_253 kw_79 kw_80 rfl [.null, .null, .null, .null, .null, .null, .int 0, .int 0, .int 0, .int 0, .int 0, .int 0, .int 0] hfs_3 ⟨Nat.le_of_ble_eq_true rfl, Nat.le_of_ble_eq_true rfl⟩ dX6_init_5 (fun n1 H hW => ?_)
  refine lv_dup hx hb dX6_init_8 rfl ?_
  refine r_callIN M hW (c_X3_init l G n1 ([(b, .inr (6, [.null, .null, .null, .null, .null, .int 0, .null, .int 0, .int 0]))] ++ Y)) rfl kn_X6_9 kw_81 rfl kw_80 kw_75 pl_X3_init ⟨by decide, by decide⟩ ⟨Nat.le_of_ble_eq_true rfl, Nat.le_of_ble_eq_true rfl⟩ hl.1 rfl (Nat.le_of_ble_eq_true rfl) dX6_init_9 (fun v w1 H locs hQ hW2 => ?_)
  obtain ⟨rfl, n2, ha, rfl⟩ := hQ
  subst ha
  have hW := hW2
  have hW := Wd.f1 hW
  refine r_putF M hnm hW 0 (k := 0) (v := .ref (n2 0)) (ty := .object "GrainLeg$Leg") rfl rfl kin_6 tyX6_ok nmX6 (by decide) kw_254 rfl rfl (by decide +kernel) rfl rfl (Nat.le_of_ble_eq_true rfl) ([(b, .inr (6, [.ref (n2 0), .null, .null, .null, .null, .int 0, .null, .int 0, .int 0]))] ++ (LegW G n2 legI ++ Y)) rfl dX6_init_12 (fun H locs hW => ?_)
  refine lv_aload_n hx hb dX6_init_15 rfl (lv_at hl 0 rfl) ?_
  refine r_new (ci := 3) M hW kin_3 tyX3_ok kw_253 kw_79 kw_80 rfl [.null, .null, .null, .null, .null, .null, .int 0, .int 0, .int 0, .int 0, .int 0, .int 0, .int 0] hfs_3 ⟨Nat.le_of_ble_eq_true rfl, Nat.le_of_ble_eq_true rfl⟩ dX6_init_16 (fun n3 H hW => ?_)
  refine lv_dup hx hb dX6_init_19 rfl ?_
  refine r_callIN M hW (c_X3_init l G n3 ([(b, .inr (6, [.ref (n2 0), .null, .null, .null, .null, .int 0, .null, .int 0, .int 0]))] ++ (LegW G n2 legI ++ Y))) rfl kn_X6_9 kw_81 rfl kw_80 kw_75 pl_X3_init ⟨by decide, by decide⟩ ⟨Nat.le_of_ble_eq_true rfl, Nat.le_of_ble_eq_true rfl⟩ hl.1 rfl (Nat.le_of_ble_eq_true rfl) dX6_init_20 (fun v w1 H locs hQ hW2 => ?_)
  obtain ⟨rfl, n4, ha, rfl⟩ := hQ
  subst ha
  have hW := hW2
  have hW := Wd.f1 hW
  refine r_putF M hnm hW 0 (k := 1) (v := .ref (n4 0)) (ty := .object "GrainLeg$Leg") rfl rfl kin_6 tyX6_ok nmX6 (by decide) kw_255 rfl rfl (by decide +kernel) rfl rfl (Nat.le_of_ble_eq_true rfl) ([(b, .inr (6, [.ref (n2 0), .ref (n4 0), .null, .null, .null, .int 0, .null, .int 0, .int 0]))] ++ (LegW G n4 legI ++ (LegW G n2 legI ++ Y))) rfl dX6_init_23 (fun H locs hW => ?_)
  refine lv_aload_n hx hb dX6_init_26 rfl (lv_at hl 0 rfl) ?_
  refine r_new (ci := 3) M hW kin_3 tyX3_ok kw_253 kw_79 kw_80 rfl [.null, .null, .null, .null, .null, .null, .int 0, .int 0, .int 0, .int 0, .int 0, .int 0, .int 0] hfs_3 ⟨Nat.le_of_ble_eq_true rfl, Nat.le_of_ble_eq_true rfl⟩ dX6_init_27 (fun n5 H hW => ?_)
  refine lv_dup hx hb dX6_init_30 rfl ?_
  refine r_callIN M hW (c_X3_init l G n5 ([(b, .inr (6, [.ref (n2 0), .ref (n4 0), .null, .null, .null, .int 0, .null, .int 0, .int 0]))] ++ (LegW G n4 legI ++ (LegW G n2 legI ++ Y)))) rfl kn_X6_9 kw_81 rfl kw_80 kw_75 pl_X3_init ⟨by decide, by decide⟩ ⟨Nat.le_of_ble_eq_true rfl, Nat.le_of_ble_eq_true rfl⟩ hl.1 rfl (Nat.le_of_ble_eq_true rfl) dX6_init_31 (fun v w1 H locs hQ hW2 => ?_)
  obtain ⟨rfl, n6, ha, rfl⟩ := hQ
  subst ha
  have hW := hW2
  have hW := Wd.f1 hW
  refine r_putF M hnm hW 0 (k := 2) (v := .ref (n6 0)) (ty := .object "GrainLeg$Leg") rfl rfl kin_6 tyX6_ok nmX6 (by decide) kw_256 rfl rfl (by decide +kernel) rfl rfl (Nat.le_of_ble_eq_true rfl) ([(b, .inr (6, [.ref (n2 0), .ref (n4 0), .ref (n6 0), .null, .null, .int 0, .null, .int 0, .int 0]))] ++ (LegW G n6 legI ++ (LegW G n4 legI ++ (LegW G n2 legI ++ Y)))) rfl dX6_init_34 (fun H locs hW => ?_)
  refine lv_aload_n hx hb dX6_init_37 rfl (lv_at hl 0 rfl) ?_
  refine r_new (ci := 2) M hW kin_2 tyX2_ok kw_257 kw_258 kw_113 rfl [.null, .int 0, .int 0] hfs_2 ⟨Nat.le_of_ble_eq_true rfl, Nat.le_of_ble_eq_true rfl⟩ dX6_init_38 (fun n7 H hW => ?_)
  refine lv_dup hx hb dX6_init_41 rfl ?_
  refine r_callI M hW (c_X2_init l G n7 ([(b, .inr (6, [.ref (n2 0), .ref (n4 0), .ref (n6 0), .null, .null, .int 0, .null, .int 0, .int 0]))] ++ (LegW G n6 legI ++ (LegW G n4 legI ++ (LegW G n2 legI ++ Y))))) rfl kw_266 kw_267 rfl kw_113 kw_82 pl_X2_init ⟨by decide, by decide⟩ ⟨Nat.le_of_ble_eq_true rfl, Nat.le_of_ble_eq_true rfl⟩ hl.1 rfl (Nat.le_of_ble_eq_true rfl) dX6_init_42 (fun v w1 H locs hQ hW2 => ?_)
  obtain ⟨rfl, n8, n9, rfl⟩ := hQ
  have hW := hW2
  have hW := Wd.f6 hW
  refine r_putF M hnm hW 0 (k := 3) (v := .ref n7) (ty := .object "GrainLeg$History") rfl rfl kin_6 tyX6_ok nmX6 (by decide) kw_259 rfl rfl (by decide +kernel) rfl rfl (Nat.le_of_ble_eq_true rfl) ([(b, .inr (6, [.ref (n2 0), .ref (n4 0), .ref (n6 0), .ref n7, .null, .int 0, .null, .int 0, .int 0]))] ++ ([(n7, .inr (2, [.ref n8, .int 0, .int 0]))] ++ ([(n8, .inl (G.2.2.2 2, 4, .inr (.inr (.inr (.inr (fun i => some (n9 i 0)))))))] ++ (LegW G (n9 0) legI ++ (LegW G (n9 1) legI ++ (LegW G (n9 2) legI ++ (LegW G (n9 3) legI ++ (LegW G n6 legI ++ (LegW G n4 legI ++ (LegW G n2 legI ++ Y)))))))))) rfl dX6_init_45 (fun H locs hW => ?_)
  refine lv_aload_n hx hb dX6_init_48 rfl (lv_at hl 0 rfl) ?_
  refine r_new (ci := 3) M hW kin_3 tyX3_ok kw_253 kw_79 kw_80 rfl [.null, .null, .null, .null, .null, .null, .int 0, .int 0, .int 0, .int 0, .int 0, .int 0, .int 0] hfs_3 ⟨Nat.le_of_ble_eq_true rfl, Nat.le_of_ble_eq_true rfl⟩ dX6_init_49 (fun n10 H hW => ?_)
  refine lv_dup hx hb dX6_init_52 rfl ?_
  refine r_callIN M hW (c_X3_init l G n10 ([(b, .inr (6, [.ref (n2 0), .ref (n4 0), .ref (n6 0), .ref n7, .null, .int 0, .null, .int 0, .int 0]))] ++ ([(n7, .inr (2, [.ref n8, .int 0, .int 0]))] ++ ([(n8, .inl (G.2.2.2 2, 4, .inr (.inr (.inr (.inr (fun i => some (n9 i 0)))))))] ++ (LegW G (n9 0) legI ++ (LegW G (n9 1) legI ++ (LegW G (n9 2) legI ++ (LegW G (n9 3) legI ++ (LegW G n6 legI ++ (LegW G n4 legI ++ (LegW G n2 legI ++ Y))))))))))) rfl kn_X6_9 kw_81 rfl kw_80 kw_75 pl_X3_init ⟨by decide, by decide⟩ ⟨Nat.le_of_ble_eq_true rfl, Nat.le_of_ble_eq_true rfl⟩ hl.1 rfl (Nat.le_of_ble_eq_true rfl) dX6_init_53 (fun v w1 H locs hQ hW2 => ?_)
  obtain ⟨rfl, n11, ha, rfl⟩ := hQ
  subst ha
  have hW := hW2
  have hW := Wd.f1 hW
  refine r_putF M hnm hW 0 (k := 4) (v := .ref (n11 0)) (ty := .object "GrainLeg$Leg") rfl rfl kin_6 tyX6_ok nmX6 (by decide) kw_260 rfl rfl (by decide +kernel) rfl rfl (Nat.le_of_ble_eq_true rfl) ([(b, .inr (6, [.ref (n2 0), .ref (n4 0), .ref (n6 0), .ref n7, .ref (n11 0), .int 0, .null, .int 0, .int 0]))] ++ (LegW G n11 legI ++ ([(n7, .inr (2, [.ref n8, .int 0, .int 0]))] ++ ([(n8, .inl (G.2.2.2 2, 4, .inr (.inr (.inr (.inr (fun i => some (n9 i 0)))))))] ++ (LegW G (n9 0) legI ++ (LegW G (n9 1) legI ++ (LegW G (n9 2) legI ++ (LegW G (n9 3) legI ++ (LegW G n6 legI ++ (LegW G n4 legI ++ (LegW G n2 legI ++ Y))))))))))) rfl dX6_init_56 (fun H locs hW => ?_)
  refine lv_aload_n hx hb dX6_init_59 rfl (lv_at hl 0 rfl) ?_
  refine r_new (ci := 4) M hW kin_4 tyX4_ok kw_261 kw_262 kw_218 rfl [.null, .int 0, .null, .null, .int 0, .int 0] hfs_4 ⟨Nat.le_of_ble_eq_true rfl, Nat.le_of_ble_eq_true rfl⟩ dX6_init_60 (fun n12 H hW => ?_)
  refine lv_dup hx hb dX6_init_63 rfl ?_
  refine r_callIN M hW (c_X4_init l G n12 ([(b, .inr (6, [.ref (n2 0), .ref (n4 0), .ref (n6 0), .ref n7, .ref (n11 0), .int 0, .null, .int 0, .int 0]))] ++ (LegW G n11 legI ++ ([(n7, .inr (2, [.ref n8, .int 0, .int 0]))] ++ ([(n8, .inl (G.2.2.2 2, 4, .inr (.inr (.inr (.inr (fun i => some (n9 i 0)))))))] ++ (LegW G (n9 0) legI ++ (LegW G (n9 1) legI ++ (LegW G (n9 2) legI ++ (LegW G (n9 3) legI ++ (LegW G n6 legI ++ (LegW G n4 legI ++ (LegW G n2 legI ++ Y)))))))))))) rfl kn_X6_34 kw_268 rfl kw_218 kw_198 pl_X4_init ⟨by decide, by decide⟩ ⟨Nat.le_of_ble_eq_true rfl, Nat.le_of_ble_eq_true rfl⟩ hl.1 rfl (Nat.le_of_ble_eq_true rfl) dX6_init_64 (fun v w1 H locs hQ hW2 => ?_)
  obtain ⟨rfl, n13, ha, rfl⟩ := hQ
  subst ha
  have hW := hW2
  have hW := Wd.f1 hW
  refine r_putF M hnm hW 0 (k := 6) (v := .ref (n13 0)) (ty := .object "GrainLeg$Text") rfl rfl kin_6 tyX6_ok nmX6 (by decide) kw_263 rfl rfl (by decide +kernel) rfl rfl (Nat.le_of_ble_eq_true rfl) ([(b, .inr (6, [.ref (n2 0), .ref (n4 0), .ref (n6 0), .ref n7, .ref (n11 0), .int 0, .ref (n13 0), .int 0, .int 0]))] ++ (TextW G n13 zeroI ++ (LegW G n11 legI ++ ([(n7, .inr (2, [.ref n8, .int 0, .int 0]))] ++ ([(n8, .inl (G.2.2.2 2, 4, .inr (.inr (.inr (.inr (fun i => some (n9 i 0)))))))] ++ (LegW G (n9 0) legI ++ (LegW G (n9 1) legI ++ (LegW G (n9 2) legI ++ (LegW G (n9 3) legI ++ (LegW G n6 legI ++ (LegW G n4 legI ++ (LegW G n2 legI ++ Y)))))))))))) rfl dX6_init_67 (fun H locs hW => ?_)
  refine lv_aload_n hx hb dX6_init_70 rfl (lv_at hl 0 rfl) ?_
  refine lv_bipush (v := (-105)) hx hb dX6_init_71 (by decide) ?_
  refine r_put M hW 0 (k := 7) (v := .int (-105)) rfl rfl kin_6 tyX6_ok nmX6 (by decide) kw_264 rfl pfI rfl rfl (Nat.le_of_ble_eq_true rfl) ([(b, .inr (6, [.ref (n2 0), .ref (n4 0), .ref (n6 0), .ref n7, .ref (n11 0), .int 0, .ref (n13 0), .int (-105), .int 0]))] ++ (TextW G n13 zeroI ++ (LegW G n11 legI ++ ([(n7, .inr (2, [.ref n8, .int 0, .int 0]))] ++ ([(n8, .inl (G.2.2.2 2, 4, .inr (.inr (.inr (.inr (fun i => some (n9 i 0)))))))] ++ (LegW G (n9 0) legI ++ (LegW G (n9 1) legI ++ (LegW G (n9 2) legI ++ (LegW G (n9 3) legI ++ (LegW G n6 legI ++ (LegW G n4 legI ++ (LegW G n2 legI ++ Y)))))))))))) rfl dX6_init_73 (fun H locs hW => ?_)
  refine lv_aload_n hx hb dX6_init_76 rfl (lv_at hl 0 rfl) ?_
  refine lv_bipush (v := (-105)) hx hb dX6_init_77 (by decide) ?_
  refine r_put M hW 0 (k := 8) (v := .int (-105)) rfl rfl kin_6 tyX6_ok nmX6 (by decide) kw_265 rfl pfI rfl rfl (Nat.le_of_ble_eq_true rfl) ([(b, .inr (6, [.ref (n2 0), .ref (n4 0), .ref (n6 0), .ref n7, .ref (n11 0), .int 0, .ref (n13 0), .int (-105), .int (-105)]))] ++ (TextW G n13 zeroI ++ (LegW G n11 legI ++ ([(n7, .inr (2, [.ref n8, .int 0, .int 0]))] ++ ([(n8, .inl (G.2.2.2 2, 4, .inr (.inr (.inr (.inr (fun i => some (n9 i 0)))))))] ++ (LegW G (n9 0) legI ++ (LegW G (n9 1) legI ++ (LegW G (n9 2) legI ++ (LegW G (n9 3) legI ++ (LegW G n6 legI ++ (LegW G n4 legI ++ (LegW G n2 legI ++ Y)))))))))))) rfl dX6_init_79 (fun H locs hW => ?_)
  have hW := Wd.f1 hW
  have hW := Wd.f8 hW
  have hW := Wd.f8 hW
  have hW := Wd.f8 hW
  have hW := Wd.f8 hW
  have hW := Wd.f8 hW
  have hW := Wd.f8 hW
  have hW := Wd.f8 hW
  have hW := Wd.f9 hW
  have hW := Wd.f10 hW
  have hW := Wd.f11 hW
  have hW := Wd.f11 hW
  have hW := Wd.f6 hW
  have hW := Wd.refs (f' := fun i => some ((zI b n2 n4 n6 n11 n7 n8 n9 n13) (6 + i) 0)) hW (fun i hi => by rcases (show i = 0 ∨ i = 1 ∨ i = 2 ∨ i = 3 by omega) with rfl | rfl | rfl | rfl <;> rfl)
  have hW := Wd.f6 hW
  have hW := Wd.f6 hW
  have hW := Wd.f6 hW
  have hW := Wd.f6 hW
  have hW := Wd.f6 hW
  have hW := Wd.f6 hW
  have hW : Wd G s (SysW G (zI b n2 n4 n6 n11 n7 n8 n9 n13) sysI ++ (LegW G ((zI b n2 n4 n6 n11 n7 n8 n9 n13) 1) legI ++ (LegW G ((zI b n2 n4 n6 n11 n7 n8 n9 n13) 2) legI ++ (LegW G ((zI b n2 n4 n6 n11 n7 n8 n9 n13) 3) legI ++ (LegW G ((zI b n2 n4 n6 n11 n7 n8 n9 n13) 4) legI ++ (HistW G (zI b n2 n4 n6 n11 n7 n8 n9 n13) zeroI ++ (LegW G ((zI b n2 n4 n6 n11 n7 n8 n9 n13) 6) legI ++ (LegW G ((zI b n2 n4 n6 n11 n7 n8 n9 n13) 7) legI ++ (LegW G ((zI b n2 n4 n6 n11 n7 n8 n9 n13) 8) legI ++ (LegW G ((zI b n2 n4 n6 n11 n7 n8 n9 n13) 9) legI ++ (TextW G ((zI b n2 n4 n6 n11 n7 n8 n9 n13) 10) zeroI ++ Y))))))))))) _ _ := hW
  exact r_retv M hW rfl ⟨rfl, (zI b n2 n4 n6 n11 n7 n8 n9 n13), rfl, rfl⟩ (Nat.le_of_ble_eq_true rfl) (Nat.le_of_ble_eq_true rfl) dX6_init_82
