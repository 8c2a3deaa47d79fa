def legI : Nat → Nat → Int32 := fun c k => match c with
  | 0 => if k = 11 then -105 else 0
  | 1 => tFirst k
  | _ => 0
def zeroI : Nat → Nat → Int32 := fun _ _ => 0
def sysI : Nat → Nat → Int32 := fun _ k => if k = 7 then -105 else if k = 8 then -105 else 0
def at5 (l : List Nat) : Nat → Nat := fun i => l.getD i 0
theorem hfs_0 : ∀ j, j < 2 → defaultValue (tyX0 j) = vp_V [.null, .int 0] j := fun j hj => by rcases (show j = 0 ∨ j = 1 by omega) with rfl | rfl <;> rfl
theorem hfs_1 : ∀ j, j < 6 → defaultValue (tyX1 j) = vp_V [.int 0, .int 0, .int 0, .int 0, .int 0, .int 0] j := fun j hj => by rcases (show j = 0 ∨ j = 1 ∨ j = 2 ∨ j = 3 ∨ j = 4 ∨ j = 5 by omega) with rfl | rfl | rfl | rfl | rfl | rfl <;> rfl
theorem hfs_2 : ∀ j, j < 3 → defaultValue (tyX2 j) = vp_V [.null, .int 0, .int 0] j := fun j hj => by rcases (show j = 0 ∨ j = 1 ∨ j = 2 by omega) with rfl | rfl | rfl <;> rfl
theorem hfs_3 : ∀ j, j < 13 → defaultValue (tyX3 j) = vp_V [.null, .null, .null, .null, .null, .null, .int 0, .int 0, .int 0, .int 0, .int 0, .int 0, .int 0] j := fun j hj => by rcases (show j = 0 ∨ j = 1 ∨ j = 2 ∨ j = 3 ∨ j = 4 ∨ j = 5 ∨ j = 6 ∨ j = 7 ∨ j = 8 ∨ j = 9 ∨ j = 10 ∨ j = 11 ∨ j = 12 by omega) with rfl | rfl | rfl | rfl | rfl | rfl | rfl | rfl | rfl | rfl | rfl | rfl | rfl <;> rfl
theorem hfs_4 : ∀ j, j < 6 → defaultValue (tyX4 j) = vp_V [.null, .int 0, .null, .null, .int 0, .int 0] j := fun j hj => by rcases (show j = 0 ∨ j = 1 ∨ j = 2 ∨ j = 3 ∨ j = 4 ∨ j = 5 by omega) with rfl | rfl | rfl | rfl | rfl | rfl <;> rfl
theorem hfs_5 : ∀ j, j < 4 → defaultValue (tyX5 j) = vp_V [.null, .null, .null, .int 0] j := fun j hj => by rcases (show j = 0 ∨ j = 1 ∨ j = 2 ∨ j = 3 by omega) with rfl | rfl | rfl | rfl <;> rfl

set_option maxHeartbeats 4000000 in
set_option maxRecDepth 100000 in
/-- X1.<init> -/
theorem c_X1_init (l : Launch) (G : Gp) (b : Nat) (Y : va_W) : CnE l G yX1_init cX1_init 1 none 1 0 0 [.ref b] ([(b, .inr (1, [.int 0, .int 0, .int 0, .int 0, .int 0, .int 0]))] ++ Y) (fun v w1 => v = none ∧ w1 = [(b, .inr (1, [.int 0, .int 0, .int 0, .int 0, .int 0, .int 0]))] ++ Y) := by
  refine CnE.of (by decide) (Nat.le_of_ble_eq_true rfl) ?_
  intro p e s m below meth c ls M hnm hl hW
  have hx := M.1
  have hb := M.2.1
  have hl : lv_has ls 1 [(0, .ref b)] := hl
  refine lv_aload_n hx hb dX1_init_0 rfl (lv_at hl 0 rfl) ?_
  refine r_obj M kw_29 hl.1 ⟨by decide, by decide⟩ (Nat.le_of_ble_eq_true rfl) dX1_init_1 ?_
  exact r_retv M hW rfl ⟨rfl, rfl⟩ (Nat.le_of_ble_eq_true rfl) (Nat.le_of_ble_eq_true rfl) dX1_init_4

set_option maxHeartbeats 4000000 in
set_option maxRecDepth 100000 in
/-- X0.<init> -/
theorem c_X0_init (l : Launch) (G : Gp) (b : Nat) (Y : va_W) : CnE l G yX0_init cX0_init 1 none 1 1 12 [.ref b] ([(b, .inr (0, [.null, .int 0]))] ++ Y) (fun v w1 => v = none ∧ ∃ (r : Nat), w1 = [(b, .inr (0, [.ref r, .int 0]))] ++ ([(r, .inl (G.2.2.2 0, 12, .inl (fun _ => 0)))] ++ Y)) := by
  refine CnE.of (by decide) (Nat.le_of_ble_eq_true rfl) ?_
  intro p e s m below meth c ls M hnm hl hW
  have hx := M.1
  have hb := M.2.1
  have hl : lv_has ls 1 [(0, .ref b)] := hl
  refine lv_aload_n hx hb dX0_init_0 rfl (lv_at hl 0 rfl) ?_
  refine r_obj M kw_1 hl.1 ⟨by decide, by decide⟩ (Nat.le_of_ble_eq_true rfl) dX0_init_1 ?_
  refine lv_aload_n hx hb dX0_init_4 rfl (lv_at hl 0 rfl) ?_
  refine lv_bipush (v := 12) hx hb dX0_init_5 (by decide) ?_
  refine r_newI M hW 12 (by decide) rfl (by decide) ⟨Nat.le_of_ble_eq_true rfl, Nat.le_of_ble_eq_true rfl⟩ dX0_init_7 (fun n1 H hW => ?_)
  have hW := Wd.f1 hW
  refine r_putF M hnm hW 0 (k := 0) (v := .ref n1) (ty := .array .int) rfl rfl kin_0 tyX0_ok nmX0 (by decide) kw_5 rfl rfl (by decide +kernel) rfl rfl (Nat.le_of_ble_eq_true rfl) ([(b, .inr (0, [.ref n1, .int 0]))] ++ ([(n1, .inl (G.2.2.2 0, 12, .inl (fun _ => 0)))] ++ Y)) rfl dX0_init_9 (fun H locs hW => ?_)
  have hW := Wd.f1 hW
  have hW := Wd.f1 hW
  exact r_retv M hW rfl ⟨rfl, n1, rfl⟩ (Nat.le_of_ble_eq_true rfl) (Nat.le_of_ble_eq_true rfl) dX0_init_12

set_option maxHeartbeats 4000000 in
set_option maxRecDepth 100000 in
/-- X5.<init> -/
theorem c_X5_init (l : Launch) (G : Gp) (b : Nat) (Y : va_W) : CnE l G yX5_init cX5_init 1 none 1 3 18 [.ref b] ([(b, .inr (5, [.null, .null, .null, .int 0]))] ++ Y) (fun v w1 => v = none ∧ ∃ (r1 : Nat), ∃ (r2 : Nat), ∃ (r3 : Nat), w1 = [(b, .inr (5, [.ref r1, .ref r2, .ref r3, .int 0]))] ++ ([(r1, .inl (G.2.2.2 0, 6, .inl (fun _ => 0)))] ++ ([(r2, .inl (G.2.2.2 0, 6, .inl (fun _ => 0)))] ++ ([(r3, .inl (G.2.2.2 0, 6, .inl (fun _ => 0)))] ++ Y)))) := by
  refine CnE.of (by decide) (Nat.le_of_ble_eq_true rfl) ?_
  intro p e s m below meth c ls M hnm hl hW
  have hx := M.1
  have hb := M.2.1
  have hl : lv_has ls 1 [(0, .ref b)] := hl
  refine lv_aload_n hx hb dX5_init_0 rfl (lv_at hl 0 rfl) ?_
  refine r_obj M kw_46 hl.1 ⟨by decide, by decide⟩ (Nat.le_of_ble_eq_true rfl) dX5_init_1 ?_
  refine lv_aload_n hx hb dX5_init_4 rfl (lv_at hl 0 rfl) ?_
  refine lv_bipush (v := 6) hx hb dX5_init_5 (by decide) ?_
  refine r_newI M hW 6 (by decide) rfl (by decide) ⟨Nat.le_of_ble_eq_true rfl, Nat.le_of_ble_eq_true rfl⟩ dX5_init_7 (fun n1 H hW => ?_)
  have hW := Wd.f1 hW
  refine r_putF M hnm hW 0 (k := 0) (v := .ref n1) (ty := .array .int) rfl rfl kin_5 tyX5_ok nmX5 (by decide) kw_47 rfl rfl (by decide +kernel) rfl rfl (Nat.le_of_ble_eq_true rfl) ([(b, .inr (5, [.ref n1, .null, .null, .int 0]))] ++ ([(n1, .inl (G.2.2.2 0, 6, .inl (fun _ => 0)))] ++ Y)) rfl dX5_init_9 (fun H locs hW => ?_)
  refine lv_aload_n hx hb dX5_init_12 rfl (lv_at hl 0 rfl) ?_
  refine lv_bipush (v := 6) hx hb dX5_init_13 (by decide) ?_
  refine r_newI M hW 6 (by decide) rfl (by decide) ⟨Nat.le_of_ble_eq_true rfl, Nat.le_of_ble_eq_true rfl⟩ dX5_init_15 (fun n2 H hW => ?_)
  have hW := Wd.f1 hW
  refine r_putF M hnm hW 0 (k := 1) (v := .ref n2) (ty := .array .int) rfl rfl kin_5 tyX5_ok nmX5 (by decide) kw_48 rfl rfl (by decide +kernel) rfl rfl (Nat.le_of_ble_eq_true rfl) ([(b, .inr (5, [.ref n1, .ref n2, .null, .int 0]))] ++ ([(n2, .inl (G.2.2.2 0, 6, .inl (fun _ => 0)))] ++ ([(n1, .inl (G.2.2.2 0, 6, .inl (fun _ => 0)))] ++ Y))) rfl dX5_init_17 (fun H locs hW => ?_)
  refine lv_aload_n hx hb dX5_init_20 rfl (lv_at hl 0 rfl) ?_
  refine lv_bipush (v := 6) hx hb dX5_init_21 (by decide) ?_
  refine r_newI M hW 6 (by decide) rfl (by decide) ⟨Nat.le_of_ble_eq_true rfl, Nat.le_of_ble_eq_true rfl⟩ dX5_init_23 (fun n3 H hW => ?_)
  have hW := Wd.f1 hW
  refine r_putF M hnm hW 0 (k := 2) (v := .ref n3) (ty := .array .int) rfl rfl kin_5 tyX5_ok nmX5 (by decide) kw_49 rfl rfl (by decide +kernel) rfl rfl (Nat.le_of_ble_eq_true rfl) ([(b, .inr (5, [.ref n1, .ref n2, .ref n3, .int 0]))] ++ ([(n3, .inl (G.2.2.2 0, 6, .inl (fun _ => 0)))] ++ ([(n2, .inl (G.2.2.2 0, 6, .inl (fun _ => 0)))] ++ ([(n1, .inl (G.2.2.2 0, 6, .inl (fun _ => 0)))] ++ Y)))) rfl dX5_init_25 (fun H locs hW => ?_)
  have hW := Wd.f1 hW
  have hW := Wd.f2 hW
  have hW := Wd.f3 hW
  have hW := Wd.f3 hW
  exact r_retv M hW rfl ⟨rfl, n1, n2, n3, rfl⟩ (Nat.le_of_ble_eq_true rfl) (Nat.le_of_ble_eq_true rfl) dX5_init_28
