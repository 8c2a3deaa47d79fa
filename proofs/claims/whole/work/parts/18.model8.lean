theorem set_ix {u : Nat → Nat → Int32} {x y : Int32} (h : rX7_refusesSet u x y = 0) : x = nI x.toNatClampNeg ∧ x.toNatClampNeg ≤ 4 := by
  unfold rX7_refusesSet at h
  by_cases c : rX7_in x 0 4 = 0
  · rw [if_pos c] at h; exact absurd h (by decide)
  · exact iw_c (n := 4) rfl (by decide) c
def mL (u : Nat → Nat → Int32) : Nat := (u 0 8).toNatClampNeg
def MLen (u : Nat → Nat → Int32) : Prop := ∃ n : Nat, n ≤ 60 ∧ u 0 8 = nI n
theorem MLen.eq {u : Nat → Nat → Int32} (h : MLen u) : u 0 8 = nI (mL u) ∧ mL u ≤ 60 := by
  obtain ⟨n, h1, h2⟩ := h
  have e : mL u = n := by rw [mL, h2]; exact nI_clamp (by omega)
  rw [e]
  exact ⟨h2, h1⟩
theorem MLen.lt {u : Nat → Nat → Int32} (h : MLen u) (c : ¬ u 0 8 = 60) : mL u < 60 := by
  have h2 := h.eq
  by_cases c2 : mL u = 60
  · exact absurd (by rw [h2.1, c2]; rfl) c
  · omega
def MLog (u : Nat → Nat → Int32) : Prop := ∃ n : Nat, n ≤ 6 ∧ u 1 36 = nI n
theorem MLog.ix {u : Nat → Nat → Int32} (h : MLog u) {x : Int32} (c : ¬ x < 0) (d : ¬ u 1 36 ≤ x) : x = nI x.toNatClampNeg ∧ x.toNatClampNeg < 6 := by
  obtain ⟨n, hn, e⟩ := h
  obtain ⟨k, hk, e2⟩ := nI_of c
  have ek : x.toNatClampNeg = k := by rw [e2]; exact nI_clamp hk
  rw [ek]
  refine ⟨e2, ?_⟩
  rw [e, e2, Int32.le_iff_toInt_le, nI_toInt hk, nI_toInt (by omega)] at d
  omega
theorem sub_of {x : Int32} {k c : Nat} (h : x = nI k) (hc : c ≤ k) : x - nI c = nI (k - c) := by rw [h]; exact pk_sub hc
theorem in_c {x lo hi : Int32} {a b : Nat} (ha : lo = nI a) (hb : hi = nI b) (hn : b < 1000000) (hab : a ≤ b) (h : ¬ rX7_in x lo hi = 0) : x = nI x.toNatClampNeg ∧ a ≤ x.toNatClampNeg ∧ x.toNatClampNeg ≤ b := by
  obtain ⟨h1, h2⟩ := iw_1 h
  rw [ha, Int32.lt_iff_toInt_lt, nI_toInt (by omega)] at h1
  obtain ⟨k, hk, e⟩ := nI_of2 (by rw [hb]; exact nI_toInt (by omega)) (show ¬ x < 0 by rw [Int32.lt_iff_toInt_lt, Int32.toInt_zero]; omega) (Int32.not_lt.mp h2)
  have e2 : x.toNatClampNeg = k := by rw [e]; exact nI_clamp (by omega)
  rw [e2]
  refine ⟨e, ?_, hk⟩
  rw [e, nI_toInt (by omega)] at h1
  omega

def rX7_set (u : Nat → Nat → Int32) (x : Int32) (y : Int32) : Int32 := if (rX7_refusesSet (thr u) x y) = 0 then (sX7_records (thr u)) 1 x.toNatClampNeg else rX7_refusesSet (thr u) x y
def sX7_set (u : Nat → Nat → Int32) (x : Int32) (y : Int32) : Nat → Nat → Int32 := if (rX7_refusesSet (thr u) x y) = 0 then up2 (sX7_records (thr u)) 1 x.toNatClampNeg y else thr u
set_option maxHeartbeats 4000000 in
set_option maxRecDepth 100000 in
/-- X7.set -/
theorem c_X7_set (l : Launch) (G : Gp) (b : Nat → Nat) (u : Nat → Nat → Int32) (x : Int32) (y : Int32) (Y : va_W) (hn : MSz u) : Cn l G yX7_set cX7_set 5 (some .int) 3 [.ref (b 0), .int x, .int y] (ModW G b u ++ Y) (some (.int (rX7_set u x y))) (ModW G b (sX7_set u x y) ++ Y) := by
  refine CnE.of (by decide) (Nat.le_of_ble_eq_true rfl) ?_
  intro p e s m below meth c ls M hnm hl hW
  have hx := M.1
  have hb := M.2.1
  have hl : lv_has ls 5 [(0, .ref (b 0)), (1, .int x), (2, .int y)] := hl
  refine lv_aload_n hx hb dX7_set_0 rfl (lv_at hl 0 rfl) ?_
  refine lv_iconst (v := 0) hx hb dX7_set_1 (by decide) ?_
  refine pt_Mod_0_0 M hW kw_398 dX7_set_2 (fun H locs hW => ?_)
  have hW : Wd G s (ModW G b (thr u) ++ Y) _ _ := hW
  refine lv_aload_n hx hb dX7_set_5 rfl (lv_at hl 0 rfl) ?_
  refine lv_iload_n hx hb dX7_set_6 rfl (lv_at hl 1 rfl) ?_
  refine lv_iload_n hx hb dX7_set_7 rfl (lv_at hl 2 rfl) ?_
  refine r_callVi M hW (c_X7_refusesSet l G b (thr u) x y (Y)) rfl kw_453 kw_454 kw_455 kw_412 kw_443 pl_X7_refusesSet 0 rfl rfl ⟨by decide, by decide⟩ ⟨Nat.zero_le _, Nat.zero_le _⟩ hl.1 rfl (Nat.le_of_ble_eq_true rfl) dX7_set_8 (fun H locs hW => ?_)
  refine lv_istore_n (lv' := [(3, .int (rX7_refusesSet (thr u) x y)), (0, .ref (b 0)), (1, .int x), (2, .int y)]) hx hb dX7_set_11 rfl hl (by decide) rfl (fun ls hl => ?_)
  refine lv_iload_n hx hb dX7_set_12 rfl (lv_at hl 0 rfl) ?_
  refine lv_if_eq (tgt := 18) hx hb dX7_set_13 (by decide) (fun c_13 => ?_) (fun c_13 => ?_)
  · skip
    have hk := set_ix c_13
    refine lv_aload_n hx hb dX7_set_18 rfl (lv_at hl 1 rfl) ?_
    refine r_callVv M hW (c_X7_records l G b (thr u)  (Y) hn) rfl kw_456 kw_457 kw_458 kw_412 kw_402 pl_X7_records 0 rfl rfl ⟨by decide, by decide⟩ ⟨Nat.zero_le _, Nat.zero_le _⟩ hl.1 rfl (Nat.le_of_ble_eq_true rfl) dX7_set_19 (fun H locs hW => ?_)
    refine lv_aload_n hx hb dX7_set_22 rfl (lv_at hl 1 rfl) ?_
    refine gt_Mod_0_1 M hW kw_392 dX7_set_23 ?_
    refine lv_iload_n hx hb dX7_set_26 rfl (lv_at hl 2 rfl) ?_
    refine al_Mod_1 M hW x.toNatClampNeg hk.1 (by omega) (x := (sX7_records (thr u)) 1 x.toNatClampNeg) rfl dX7_set_27 ?_
    refine lv_istore (lv' := [(4, .int ((sX7_records (thr u)) 1 x.toNatClampNeg)), (3, .int (rX7_refusesSet (thr u) x y)), (0, .ref (b 0)), (1, .int x), (2, .int y)]) hx hb dX7_set_28 hl (by decide) rfl (fun ls hl => ?_)
    refine lv_aload_n hx hb dX7_set_30 rfl (lv_at hl 2 rfl) ?_
    refine gt_Mod_0_1 M hW kw_392 dX7_set_31 ?_
    refine lv_iload_n hx hb dX7_set_34 rfl (lv_at hl 3 rfl) ?_
    refine lv_iload_n hx hb dX7_set_35 rfl (lv_at hl 4 rfl) ?_
    refine as_Mod_1 M hW x.toNatClampNeg hk.1 (by omega) dX7_set_36 (fun H locs hW => ?_)
    refine lv_iload hx hb dX7_set_37 (lv_at hl 0 rfl) ?_
    exact r_reti M hW (by rw [sX7_set, if_pos c_13]) ⟨by rw [rX7_set, if_pos c_13], rfl⟩ (Nat.zero_le _) (Nat.zero_le _) dX7_set_39
  · skip
    refine lv_iload_n hx hb dX7_set_16 rfl (lv_at hl 0 rfl) ?_
    exact r_reti M hW (by rw [sX7_set, if_neg c_13]) ⟨by rw [rX7_set, if_neg c_13], rfl⟩ (Nat.zero_le _) (Nat.zero_le _) dX7_set_17

def rX7_gate (u : Nat → Nat → Int32) (x : Int32) : Int32 := if (rX7_refusesGate (thr u) x) = 0 then (sX7_records (thr u)) 1 5 else rX7_refusesGate (thr u) x
def sX7_gate (u : Nat → Nat → Int32) (x : Int32) : Nat → Nat → Int32 := if (rX7_refusesGate (thr u) x) = 0 then up2 (sX7_records (thr u)) 1 15 (if x = 0 then 0 else 1) else thr u
set_option maxHeartbeats 4000000 in
set_option maxRecDepth 100000 in
/-- X7.gate -/
theorem c_X7_gate (l : Launch) (G : Gp) (b : Nat → Nat) (u : Nat → Nat → Int32) (x : Int32) (Y : va_W) (hn : MSz u) : Cn l G yX7_gate cX7_gate 3 (some .int) 1 [.ref (b 0), .int x] (ModW G b u ++ Y) (some (.int (rX7_gate u x))) (ModW G b (sX7_gate u x) ++ Y) := by
  refine CnE.of (by decide) (Nat.le_of_ble_eq_true rfl) ?_
  intro p e s m below meth c ls M hnm hl hW
  have hx := M.1
  have hb := M.2.1
  have hl : lv_has ls 3 [(0, .ref (b 0)), (1, .int x)] := hl
  refine lv_aload_n hx hb dX7_gate_0 rfl (lv_at hl 0 rfl) ?_
  refine lv_iconst (v := 0) hx hb dX7_gate_1 (by decide) ?_
  refine pt_Mod_0_0 M hW kw_398 dX7_gate_2 (fun H locs hW => ?_)
  have hW : Wd G s (ModW G b (thr u) ++ Y) _ _ := hW
  refine lv_aload_n hx hb dX7_gate_5 rfl (lv_at hl 0 rfl) ?_
  refine lv_iload_n hx hb dX7_gate_6 rfl (lv_at hl 1 rfl) ?_
  refine r_callVi M hW (c_X7_refusesGate l G b (thr u) x (Y)) rfl kw_460 kw_461 kw_462 kw_412 kw_446 pl_X7_refusesGate 0 rfl rfl ⟨by decide, by decide⟩ ⟨Nat.zero_le _, Nat.zero_le _⟩ hl.1 rfl (Nat.le_of_ble_eq_true rfl) dX7_gate_7 (fun H locs hW => ?_)
  refine lv_istore_n (lv' := [(2, .int (rX7_refusesGate (thr u) x)), (0, .ref (b 0)), (1, .int x)]) hx hb dX7_gate_10 rfl hl (by decide) rfl (fun ls hl => ?_)
  refine lv_iload_n hx hb dX7_gate_11 rfl (lv_at hl 0 rfl) ?_
  refine lv_if_eq (tgt := 17) hx hb dX7_gate_12 (by decide) (fun c_12 => ?_) (fun c_12 => ?_)
  · skip
    refine lv_aload_n hx hb dX7_gate_17 rfl (lv_at hl 1 rfl) ?_
    refine r_callVv M hW (c_X7_records l G b (thr u)  (Y) hn) rfl kw_456 kw_457 kw_458 kw_412 kw_402 pl_X7_records 0 rfl rfl ⟨by decide, by decide⟩ ⟨Nat.zero_le _, Nat.zero_le _⟩ hl.1 rfl (Nat.le_of_ble_eq_true rfl) dX7_gate_18 (fun H locs hW => ?_)
    refine lv_aload_n hx hb dX7_gate_21 rfl (lv_at hl 1 rfl) ?_
    refine gt_Mod_0_1 M hW kw_392 dX7_gate_22 ?_
    refine lv_bipush (v := 15) hx hb dX7_gate_25 (by decide) ?_
    refine lv_iload_n hx hb dX7_gate_27 rfl (lv_at hl 2 rfl) ?_
    refine r_cuti (pc2 := 36) (ls2 := ls) (st := [.int 15, .ref (b 1)]) (if x = 0 then 0 else 1) (fun x_36 hx_36 => ?_) (fun hJ_36 => ?_)
    · skip
      rewrite [hx_36]
      refine as_Mod_1 M hW 15 rfl (by decide) dX7_gate_36 (fun H locs hW => ?_)
      refine lv_aload_n hx hb dX7_gate_37 rfl (lv_at hl 1 rfl) ?_
      refine gt_Mod_0_1 M hW kw_392 dX7_gate_38 ?_
      refine lv_iconst (v := 5) hx hb dX7_gate_41 (by decide) ?_
      refine al_Mod_1 M hW 5 rfl (by decide) (x := (sX7_records (thr u)) 1 5) (up2_k (by decide)) dX7_gate_42 ?_
      exact r_reti M hW (by rw [sX7_gate, if_pos c_12]) ⟨by rw [rX7_gate, if_pos c_12], rfl⟩ (Nat.zero_le _) (Nat.zero_le _) dX7_gate_43
    · skip
      refine lv_if_eq (tgt := 35) hx hb dX7_gate_28 (by decide) (fun c_28 => ?_) (fun c_28 => ?_)
      · skip
        refine lv_iconst (v := 0) hx hb dX7_gate_35 (by decide) ?_
        exact hJ_36 _ (by rw [if_pos c_28])
      · skip
        refine lv_iconst (v := 1) hx hb dX7_gate_31 (by decide) ?_
        refine lv_goto (tgt := 36) hx hb dX7_gate_32 (by decide) ?_
        exact hJ_36 _ (by rw [if_neg c_28])
  · skip
    refine lv_iload_n hx hb dX7_gate_15 rfl (lv_at hl 0 rfl) ?_
    exact r_reti M hW (by rw [sX7_gate, if_neg c_12]) ⟨by rw [rX7_gate, if_neg c_12], rfl⟩ (Nat.zero_le _) (Nat.zero_le _) dX7_gate_16

def rX7_start (u : Nat → Nat → Int32) : Int32 := if (rX7_refusesStart (thr u)) = 0 then rX7_load (up2 (sX7_records (thr u)) 1 14 1) else rX7_refusesStart (thr u)
def sX7_start (u : Nat → Nat → Int32) : Nat → Nat → Int32 := if (rX7_refusesStart (thr u)) = 0 then up2 (sX7_records (thr u)) 1 14 1 else thr u
set_option maxHeartbeats 4000000 in
set_option maxRecDepth 100000 in
/-- X7.start -/
theorem c_X7_start (l : Launch) (G : Gp) (b : Nat → Nat) (u : Nat → Nat → Int32) (Y : va_W) (hn : MSz u) : Cn l G yX7_start cX7_start 2 (some .int) 1 [.ref (b 0)] (ModW G b u ++ Y) (some (.int (rX7_start u))) (ModW G b (sX7_start u) ++ Y) := by
  refine CnE.of (by decide) (Nat.le_of_ble_eq_true rfl) ?_
  intro p e s m below meth c ls M hnm hl hW
  have hx := M.1
  have hb := M.2.1
  have hl : lv_has ls 2 [(0, .ref (b 0))] := hl
  refine lv_aload_n hx hb dX7_start_0 rfl (lv_at hl 0 rfl) ?_
  refine lv_iconst (v := 0) hx hb dX7_start_1 (by decide) ?_
  refine pt_Mod_0_0 M hW kw_398 dX7_start_2 (fun H locs hW => ?_)
  have hW : Wd G s (ModW G b (thr u) ++ Y) _ _ := hW
  refine lv_aload_n hx hb dX7_start_5 rfl (lv_at hl 0 rfl) ?_
  refine r_callVi M hW (c_X7_refusesStart l G b (thr u)  (Y)) rfl kw_464 kw_465 kw_466 kw_412 kw_447 pl_X7_refusesStart 0 rfl rfl ⟨by decide, by decide⟩ ⟨Nat.zero_le _, Nat.zero_le _⟩ hl.1 rfl (Nat.le_of_ble_eq_true rfl) dX7_start_6 (fun H locs hW => ?_)
  refine lv_istore_n (lv' := [(1, .int (rX7_refusesStart (thr u))), (0, .ref (b 0))]) hx hb dX7_start_9 rfl hl (by decide) rfl (fun ls hl => ?_)
  refine lv_iload_n hx hb dX7_start_10 rfl (lv_at hl 0 rfl) ?_
  refine lv_if_eq (tgt := 16) hx hb dX7_start_11 (by decide) (fun c_11 => ?_) (fun c_11 => ?_)
  · skip
    refine lv_aload_n hx hb dX7_start_16 rfl (lv_at hl 1 rfl) ?_
    refine r_callVv M hW (c_X7_records l G b (thr u)  (Y) hn) rfl kw_456 kw_457 kw_458 kw_412 kw_402 pl_X7_records 0 rfl rfl ⟨by decide, by decide⟩ ⟨Nat.zero_le _, Nat.zero_le _⟩ hl.1 rfl (Nat.le_of_ble_eq_true rfl) dX7_start_17 (fun H locs hW => ?_)
    refine lv_aload_n hx hb dX7_start_20 rfl (lv_at hl 1 rfl) ?_
    refine gt_Mod_0_1 M hW kw_392 dX7_start_21 ?_
    refine lv_bipush (v := 14) hx hb dX7_start_24 (by decide) ?_
    refine lv_iconst (v := 1) hx hb dX7_start_26 (by decide) ?_
    refine as_Mod_1 M hW 14 rfl (by decide) dX7_start_27 (fun H locs hW => ?_)
    refine lv_aload_n hx hb dX7_start_28 rfl (lv_at hl 1 rfl) ?_
    refine r_callVi M hW (c_X7_load l G b (up2 (sX7_records (thr u)) 1 14 1)  (Y)) rfl kw_416 kw_417 kw_418 kw_412 kw_406 pl_X7_load 0 rfl rfl ⟨by decide, by decide⟩ ⟨Nat.zero_le _, Nat.zero_le _⟩ hl.1 rfl (Nat.le_of_ble_eq_true rfl) dX7_start_29 (fun H locs hW => ?_)
    exact r_reti M hW (by rw [sX7_start, if_pos c_11]) ⟨by rw [rX7_start, if_pos c_11], rfl⟩ (Nat.zero_le _) (Nat.zero_le _) dX7_start_32
  · skip
    refine lv_iload_n hx hb dX7_start_14 rfl (lv_at hl 0 rfl) ?_
    exact r_reti M hW (by rw [sX7_start, if_neg c_11]) ⟨by rw [rX7_start, if_neg c_11], rfl⟩ (Nat.zero_le _) (Nat.zero_le _) dX7_start_15

def rX7_stop (u : Nat → Nat → Int32) : Int32 := if ((thr u) 1 14) = 0 then (-105) else rX7_inBuckets (up2 (sX7_records (thr u)) 1 14 0)
def sX7_stop (u : Nat → Nat → Int32) : Nat → Nat → Int32 := if ((thr u) 1 14) = 0 then thr u else up2 (sX7_records (thr u)) 1 14 0
set_option maxHeartbeats 4000000 in
set_option maxRecDepth 100000 in
/-- X7.stop -/
theorem c_X7_stop (l : Launch) (G : Gp) (b : Nat → Nat) (u : Nat → Nat → Int32) (Y : va_W) (hn : MSz u) : Cn l G yX7_stop cX7_stop 1 (some .int) 1 [.ref (b 0)] (ModW G b u ++ Y) (some (.int (rX7_stop u))) (ModW G b (sX7_stop u) ++ Y) := by
  refine CnE.of (by decide) (Nat.le_of_ble_eq_true rfl) ?_
  intro p e s m below meth c ls M hnm hl hW
  have hx := M.1
  have hb := M.2.1
  have hl : lv_has ls 1 [(0, .ref (b 0))] := hl
  refine lv_aload_n hx hb dX7_stop_0 rfl (lv_at hl 0 rfl) ?_
  refine lv_iconst (v := 0) hx hb dX7_stop_1 (by decide) ?_
  refine pt_Mod_0_0 M hW kw_398 dX7_stop_2 (fun H locs hW => ?_)
  have hW : Wd G s (ModW G b (thr u) ++ Y) _ _ := hW
  refine lv_aload_n hx hb dX7_stop_5 rfl (lv_at hl 0 rfl) ?_
  refine gt_Mod_0_1 M hW kw_392 dX7_stop_6 ?_
  refine lv_bipush (v := 14) hx hb dX7_stop_9 (by decide) ?_
  refine al_Mod_1 M hW 14 rfl (by decide) (x := (thr u) 1 14) rfl dX7_stop_11 ?_
  refine lv_if_ne (tgt := 18) hx hb dX7_stop_12 (by decide) (fun c_12 => ?_) (fun c_12 => ?_)
  · skip
    refine lv_aload_n hx hb dX7_stop_18 rfl (lv_at hl 0 rfl) ?_
    refine r_callVv M hW (c_X7_records l G b (thr u)  (Y) hn) rfl kw_456 kw_457 kw_458 kw_412 kw_402 pl_X7_records 0 rfl rfl ⟨by decide, by decide⟩ ⟨Nat.zero_le _, Nat.zero_le _⟩ hl.1 rfl (Nat.le_of_ble_eq_true rfl) dX7_stop_19 (fun H locs hW => ?_)
    refine lv_aload_n hx hb dX7_stop_22 rfl (lv_at hl 0 rfl) ?_
    refine gt_Mod_0_1 M hW kw_392 dX7_stop_23 ?_
    refine lv_bipush (v := 14) hx hb dX7_stop_26 (by decide) ?_
    refine lv_iconst (v := 0) hx hb dX7_stop_28 (by decide) ?_
    refine as_Mod_1 M hW 14 rfl (by decide) dX7_stop_29 (fun H locs hW => ?_)
    refine lv_aload_n hx hb dX7_stop_30 rfl (lv_at hl 0 rfl) ?_
    refine r_callVi M hW (c_X7_inBuckets l G b (up2 (sX7_records (thr u)) 1 14 0)  (Y)) rfl kw_468 kw_469 kw_470 kw_412 kw_451 pl_X7_inBuckets 0 rfl rfl ⟨by decide, by decide⟩ ⟨Nat.zero_le _, Nat.zero_le _⟩ hl.1 rfl (Nat.le_of_ble_eq_true rfl) dX7_stop_31 (fun H locs hW => ?_)
    exact r_reti M hW (by rw [sX7_stop, if_neg c_12]) ⟨by rw [rX7_stop, if_neg c_12], rfl⟩ (Nat.zero_le _) (Nat.zero_le _) dX7_stop_34
  · skip
    refine lv_bipush (v := (-105)) hx hb dX7_stop_15 (by decide) ?_
    exact r_reti M hW (by rw [sX7_stop, if_pos c_12]) ⟨by rw [rX7_stop, if_pos c_12], rfl⟩ (Nat.zero_le _) (Nat.zero_le _) dX7_stop_17

def rX7_reset (u : Nat → Nat → Int32) : Int32 := if (rX7_refusesReset (thr u)) = 0 then ((sX7_records (thr u)) 1 16) - 1 else rX7_refusesReset (thr u)
def sX7_reset (u : Nat → Nat → Int32) : Nat → Nat → Int32 := if (rX7_refusesReset (thr u)) = 0 then up2 (sX7_records (thr u)) 1 16 0 else thr u
set_option maxHeartbeats 4000000 in
set_option maxRecDepth 100000 in
/-- X7.reset -/
theorem c_X7_reset (l : Launch) (G : Gp) (b : Nat → Nat) (u : Nat → Nat → Int32) (Y : va_W) (hn : MSz u) : Cn l G yX7_reset cX7_reset 3 (some .int) 2 [.ref (b 0)] (ModW G b u ++ Y) (some (.int (rX7_reset u))) (ModW G b (sX7_reset u) ++ Y) := by
  refine CnE.of (by decide) (Nat.le_of_ble_eq_true rfl) ?_
  intro p e s m below meth c ls M hnm hl hW
  have hx := M.1
  have hb := M.2.1
  have hl : lv_has ls 3 [(0, .ref (b 0))] := hl
  refine lv_aload_n hx hb dX7_reset_0 rfl (lv_at hl 0 rfl) ?_
  refine lv_iconst (v := 0) hx hb dX7_reset_1 (by decide) ?_
  refine pt_Mod_0_0 M hW kw_398 dX7_reset_2 (fun H locs hW => ?_)
  have hW : Wd G s (ModW G b (thr u) ++ Y) _ _ := hW
  refine lv_aload_n hx hb dX7_reset_5 rfl (lv_at hl 0 rfl) ?_
  refine r_callVi M hW (c_X7_refusesReset l G b (thr u)  (Y)) rfl kw_472 kw_473 kw_474 kw_412 kw_448 pl_X7_refusesReset 0 rfl rfl ⟨by decide, by decide⟩ ⟨Nat.zero_le _, Nat.zero_le _⟩ hl.1 rfl (Nat.le_of_ble_eq_true rfl) dX7_reset_6 (fun H locs hW => ?_)
  refine lv_istore_n (lv' := [(1, .int (rX7_refusesReset (thr u))), (0, .ref (b 0))]) hx hb dX7_reset_9 rfl hl (by decide) rfl (fun ls hl => ?_)
  refine lv_iload_n hx hb dX7_reset_10 rfl (lv_at hl 0 rfl) ?_
  refine lv_if_eq (tgt := 16) hx hb dX7_reset_11 (by decide) (fun c_11 => ?_) (fun c_11 => ?_)
  · skip
    refine lv_aload_n hx hb dX7_reset_16 rfl (lv_at hl 1 rfl) ?_
    refine r_callVv M hW (c_X7_records l G b (thr u)  (Y) hn) rfl kw_456 kw_457 kw_458 kw_412 kw_402 pl_X7_records 0 rfl rfl ⟨by decide, by decide⟩ ⟨Nat.zero_le _, Nat.zero_le _⟩ hl.1 rfl (Nat.le_of_ble_eq_true rfl) dX7_reset_17 (fun H locs hW => ?_)
    refine lv_aload_n hx hb dX7_reset_20 rfl (lv_at hl 1 rfl) ?_
    refine gt_Mod_0_1 M hW kw_392 dX7_reset_21 ?_
    refine lv_bipush (v := 16) hx hb dX7_reset_24 (by decide) ?_
    refine al_Mod_1 M hW 16 rfl (by decide) (x := (sX7_records (thr u)) 1 16) rfl dX7_reset_26 ?_
    refine lv_iconst (v := 1) hx hb dX7_reset_27 (by decide) ?_
    refine lv_isub hx hb dX7_reset_28 ?_
    refine lv_istore_n (lv' := [(2, .int (((sX7_records (thr u)) 1 16) - 1)), (1, .int (rX7_refusesReset (thr u))), (0, .ref (b 0))]) hx hb dX7_reset_29 rfl hl (by decide) rfl (fun ls hl => ?_)
    refine lv_aload_n hx hb dX7_reset_30 rfl (lv_at hl 2 rfl) ?_
    refine gt_Mod_0_1 M hW kw_392 dX7_reset_31 ?_
    refine lv_bipush (v := 16) hx hb dX7_reset_34 (by decide) ?_
    refine lv_iconst (v := 0) hx hb dX7_reset_36 (by decide) ?_
    refine as_Mod_1 M hW 16 rfl (by decide) dX7_reset_37 (fun H locs hW => ?_)
    refine lv_iload_n hx hb dX7_reset_38 rfl (lv_at hl 0 rfl) ?_
    exact r_reti M hW (by rw [sX7_reset, if_pos c_11]) ⟨by rw [rX7_reset, if_pos c_11], rfl⟩ (Nat.zero_le _) (Nat.zero_le _) dX7_reset_39
  · skip
    refine lv_iload_n hx hb dX7_reset_14 rfl (lv_at hl 0 rfl) ?_
    exact r_reti M hW (by rw [sX7_reset, if_neg c_11]) ⟨by rw [rX7_reset, if_neg c_11], rfl⟩ (Nat.zero_le _) (Nat.zero_le _) dX7_reset_15

def rX7_clean (u : Nat → Nat → Int32) (x : Int32) : Int32 := if (rX7_in x 1 300) = 0 then (-102) else if ((thr u) 1 14) = 1 then (-104) else if x ≤ ((thr u) 1 5) then ((sX7_records (thr u)) 1 5) - x else (-104)
def sX7_clean (u : Nat → Nat → Int32) (x : Int32) : Nat → Nat → Int32 := if (rX7_in x 1 300) = 0 then thr u else if ((thr u) 1 14) = 1 then thr u else if x ≤ ((thr u) 1 5) then up2 (up2 (sX7_records (thr u)) 1 5 (((sX7_records (thr u)) 1 5) - x)) 1 9 (((sX7_records (thr u)) 1 9) + x) else thr u
set_option maxHeartbeats 4000000 in
set_option maxRecDepth 100000 in
/-- X7.clean -/
theorem c_X7_clean (l : Launch) (G : Gp) (b : Nat → Nat) (u : Nat → Nat → Int32) (x : Int32) (Y : va_W) (hn : MSz u) : Cn l G yX7_clean cX7_clean 2 (some .int) 1 [.ref (b 0), .int x] (ModW G b u ++ Y) (some (.int (rX7_clean u x))) (ModW G b (sX7_clean u x) ++ Y) := by
  refine CnE.of (by decide) (Nat.le_of_ble_eq_true rfl) ?_
  intro p e s m below meth c ls M hnm hl hW
  have hx := M.1
  have hb := M.2.1
  have hl : lv_has ls 2 [(0, .ref (b 0)), (1, .int x)] := hl
  refine lv_aload_n hx hb dX7_clean_0 rfl (lv_at hl 0 rfl) ?_
  refine lv_iconst (v := 0) hx hb dX7_clean_1 (by decide) ?_
  refine pt_Mod_0_0 M hW kw_398 dX7_clean_2 (fun H locs hW => ?_)
  have hW : Wd G s (ModW G b (thr u) ++ Y) _ _ := hW
  refine lv_iload_n hx hb dX7_clean_5 rfl (lv_at hl 1 rfl) ?_
  refine lv_iconst (v := 1) hx hb dX7_clean_6 (by decide) ?_
  refine lv_sipush (v := 300) hx hb dX7_clean_7 (by decide) ?_
  refine r_callSi M hW (as := [.int x, .int 1, .int 300]) (c_X7_in l G x 1 300 (ModW G b (thr u) ++ Y)) rfl kw_441 kw_442 kw_412 kw_401 pl_X7_in ⟨by decide, by decide⟩ ⟨Nat.zero_le _, Nat.zero_le _⟩ hl.1 rfl (Nat.le_of_ble_eq_true rfl) dX7_clean_10 (fun H locs hW => ?_)
  refine lv_if_ne (tgt := 19) hx hb dX7_clean_13 (by decide) (fun c_13 => ?_) (fun c_13 => ?_)
  · skip
    refine lv_aload_n hx hb dX7_clean_19 rfl (lv_at hl 0 rfl) ?_
    refine gt_Mod_0_1 M hW kw_392 dX7_clean_20 ?_
    refine lv_bipush (v := 14) hx hb dX7_clean_23 (by decide) ?_
    refine al_Mod_1 M hW 14 rfl (by decide) (x := (thr u) 1 14) rfl dX7_clean_25 ?_
    refine lv_iconst (v := 1) hx hb dX7_clean_26 (by decide) ?_
    refine lv_icmp_eq (tgt := 40) hx hb dX7_clean_27 (by decide) (fun c_27 => ?_) (fun c_27 => ?_)
    · skip
      refine lv_bipush (v := (-104)) hx hb dX7_clean_40 (by decide) ?_
      exact r_reti M hW (by rw [sX7_clean, if_neg c_13, if_pos c_27]) ⟨by rw [rX7_clean, if_neg c_13, if_pos c_27], rfl⟩ (Nat.zero_le _) (Nat.zero_le _) dX7_clean_42
    · skip
      refine lv_iload_n hx hb dX7_clean_30 rfl (lv_at hl 1 rfl) ?_
      refine lv_aload_n hx hb dX7_clean_31 rfl (lv_at hl 0 rfl) ?_
      refine gt_Mod_0_1 M hW kw_392 dX7_clean_32 ?_
      refine lv_iconst (v := 5) hx hb dX7_clean_35 (by decide) ?_
      refine al_Mod_1 M hW 5 rfl (by decide) (x := (thr u) 1 5) rfl dX7_clean_36 ?_
      refine lv_icmp_le (tgt := 43) hx hb dX7_clean_37 (by decide) (fun c_37 => ?_) (fun c_37 => ?_)
      · skip
        refine lv_aload_n hx hb dX7_clean_43 rfl (lv_at hl 0 rfl) ?_
        refine r_callVv M hW (c_X7_records l G b (thr u)  (Y) hn) rfl kw_456 kw_457 kw_458 kw_412 kw_402 pl_X7_records 0 rfl rfl ⟨by decide, by decide⟩ ⟨Nat.zero_le _, Nat.zero_le _⟩ hl.1 rfl (Nat.le_of_ble_eq_true rfl) dX7_clean_44 (fun H locs hW => ?_)
        refine lv_aload_n hx hb dX7_clean_47 rfl (lv_at hl 0 rfl) ?_
        refine gt_Mod_0_1 M hW kw_392 dX7_clean_48 ?_
        refine lv_iconst (v := 5) hx hb dX7_clean_51 (by decide) ?_
        refine lv_dup2_11 hx hb dX7_clean_52 rfl rfl ?_
        refine al_Mod_1 M hW 5 rfl (by decide) (x := (sX7_records (thr u)) 1 5) rfl dX7_clean_53 ?_
        refine lv_iload_n hx hb dX7_clean_54 rfl (lv_at hl 1 rfl) ?_
        refine lv_isub hx hb dX7_clean_55 ?_
        refine as_Mod_1 M hW 5 rfl (by decide) dX7_clean_56 (fun H locs hW => ?_)
        refine lv_aload_n hx hb dX7_clean_57 rfl (lv_at hl 0 rfl) ?_
        refine gt_Mod_0_1 M hW kw_392 dX7_clean_58 ?_
        refine lv_bipush (v := 9) hx hb dX7_clean_61 (by decide) ?_
        refine lv_dup2_11 hx hb dX7_clean_63 rfl rfl ?_
        refine al_Mod_1 M hW 9 rfl (by decide) (x := (sX7_records (thr u)) 1 9) (up2_k (by decide)) dX7_clean_64 ?_
        refine lv_iload_n hx hb dX7_clean_65 rfl (lv_at hl 1 rfl) ?_
        refine lv_iadd hx hb dX7_clean_66 ?_
        refine as_Mod_1 M hW 9 rfl (by decide) dX7_clean_67 (fun H locs hW => ?_)
        refine lv_aload_n hx hb dX7_clean_68 rfl (lv_at hl 0 rfl) ?_
        refine gt_Mod_0_1 M hW kw_392 dX7_clean_69 ?_
        refine lv_iconst (v := 5) hx hb dX7_clean_72 (by decide) ?_
        refine al_Mod_1 M hW 5 rfl (by decide) (x := ((sX7_records (thr u)) 1 5) - x) ((up2_k (by decide)).trans up2_s) dX7_clean_73 ?_
        exact r_reti M hW (by rw [sX7_clean, if_neg c_13, if_neg c_27, if_pos c_37]) ⟨by rw [rX7_clean, if_neg c_13, if_neg c_27, if_pos c_37], rfl⟩ (Nat.zero_le _) (Nat.zero_le _) dX7_clean_74
      · skip
        refine lv_bipush (v := (-104)) hx hb dX7_clean_40 (by decide) ?_
        exact r_reti M hW (by rw [sX7_clean, if_neg c_13, if_neg c_27, if_neg c_37]) ⟨by rw [rX7_clean, if_neg c_13, if_neg c_27, if_neg c_37], rfl⟩ (Nat.zero_le _) (Nat.zero_le _) dX7_clean_42
  · skip
    refine lv_bipush (v := (-102)) hx hb dX7_clean_16 (by decide) ?_
    exact r_reti M hW (by rw [sX7_clean, if_pos c_13]) ⟨by rw [rX7_clean, if_pos c_13], rfl⟩ (Nat.zero_le _) (Nat.zero_le _) dX7_clean_18

def rX7_run (u : Nat → Nat → Int32) (x : Int32) : Int32 := if (rX7_refusesRun (thr u) x) = 0 then rX7_ticks (sX7_records (thr u)) x else rX7_refusesRun (thr u) x
def sX7_run (u : Nat → Nat → Int32) (x : Int32) : Nat → Nat → Int32 := if (rX7_refusesRun (thr u) x) = 0 then sX7_ticks (sX7_records (thr u)) x else thr u
set_option maxHeartbeats 4000000 in
set_option maxRecDepth 100000 in
/-- X7.run -/
theorem c_X7_run (l : Launch) (G : Gp) (b : Nat → Nat) (u : Nat → Nat → Int32) (x : Int32) (Y : va_W) (hn : MSz u) : Cn l G yX7_run cX7_run 3 (some .int) 5 [.ref (b 0), .int x] (ModW G b u ++ Y) (some (.int (rX7_run u x))) (ModW G b (sX7_run u x) ++ Y) := by
  refine CnE.of (by decide) (Nat.le_of_ble_eq_true rfl) ?_
  intro p e s m below meth c ls M hnm hl hW
  have hx := M.1
  have hb := M.2.1
  have hl : lv_has ls 3 [(0, .ref (b 0)), (1, .int x)] := hl
  refine lv_aload_n hx hb dX7_run_0 rfl (lv_at hl 0 rfl) ?_
  refine lv_iconst (v := 0) hx hb dX7_run_1 (by decide) ?_
  refine pt_Mod_0_0 M hW kw_398 dX7_run_2 (fun H locs hW => ?_)
  have hW : Wd G s (ModW G b (thr u) ++ Y) _ _ := hW
  refine lv_aload_n hx hb dX7_run_5 rfl (lv_at hl 0 rfl) ?_
  refine lv_iload_n hx hb dX7_run_6 rfl (lv_at hl 1 rfl) ?_
  refine r_callVi M hW (c_X7_refusesRun l G b (thr u) x (Y)) rfl kw_476 kw_477 kw_478 kw_412 kw_449 pl_X7_refusesRun 0 rfl rfl ⟨by decide, by decide⟩ ⟨Nat.zero_le _, Nat.zero_le _⟩ hl.1 rfl (Nat.le_of_ble_eq_true rfl) dX7_run_7 (fun H locs hW => ?_)
  refine lv_istore_n (lv' := [(2, .int (rX7_refusesRun (thr u) x)), (0, .ref (b 0)), (1, .int x)]) hx hb dX7_run_10 rfl hl (by decide) rfl (fun ls hl => ?_)
  refine lv_iload_n hx hb dX7_run_11 rfl (lv_at hl 0 rfl) ?_
  refine lv_if_eq (tgt := 17) hx hb dX7_run_12 (by decide) (fun c_12 => ?_) (fun c_12 => ?_)
  · skip
    refine lv_aload_n hx hb dX7_run_17 rfl (lv_at hl 1 rfl) ?_
    refine r_callVv M hW (c_X7_records l G b (thr u)  (Y) hn) rfl kw_456 kw_457 kw_458 kw_412 kw_402 pl_X7_records 0 rfl rfl ⟨by decide, by decide⟩ ⟨Nat.zero_le _, Nat.zero_le _⟩ hl.1 rfl (Nat.le_of_ble_eq_true rfl) dX7_run_18 (fun H locs hW => ?_)
    refine lv_aload_n hx hb dX7_run_21 rfl (lv_at hl 1 rfl) ?_
    refine lv_iload_n hx hb dX7_run_22 rfl (lv_at hl 2 rfl) ?_
    refine r_callVi M hW (c_X7_ticks l G b (sX7_records (thr u)) x (Y)) rfl kw_479 kw_480 kw_481 kw_412 kw_439 pl_X7_ticks 0 rfl rfl ⟨by decide, by decide⟩ ⟨Nat.zero_le _, Nat.zero_le _⟩ hl.1 rfl (Nat.le_of_ble_eq_true rfl) dX7_run_23 (fun H locs hW => ?_)
    exact r_reti M hW (by rw [sX7_run, if_pos c_12]) ⟨by rw [rX7_run, if_pos c_12], rfl⟩ (Nat.zero_le _) (Nat.zero_le _) dX7_run_26
  · skip
    refine lv_iload_n hx hb dX7_run_15 rfl (lv_at hl 0 rfl) ?_
    exact r_reti M hW (by rw [sX7_run, if_neg c_12]) ⟨by rw [rX7_run, if_neg c_12], rfl⟩ (Nat.zero_le _) (Nat.zero_le _) dX7_run_16

def rX7_type (u : Nat → Nat → Int32) : Int32 := if ((thr u) 0 8) = 60 then (-103) else ((thr u) 0 8) + 1
def sX7_type (u : Nat → Nat → Int32) (x : Int32) : Nat → Nat → Int32 := if ((thr u) 0 8) = 60 then thr u else up2 (up2 (thr u) 5 (mL u) x) 0 8 (((thr u) 0 8) + 1)
set_option maxHeartbeats 4000000 in
set_option maxRecDepth 100000 in
/-- X7.type -/
theorem c_X7_type (l : Launch) (G : Gp) (b : Nat → Nat) (u : Nat → Nat → Int32) (x : Int32) (Y : va_W) (hl0 : MLen u) : Cn l G yX7_type cX7_type 2 (some .int) 0 [.ref (b 0), .int x] (ModW G b u ++ Y) (some (.int (rX7_type u))) (ModW G b (sX7_type u x) ++ Y) := by
  refine CnE.of (by decide) (Nat.le_of_ble_eq_true rfl) ?_
  intro p e s m below meth c ls M hnm hl hW
  have hx := M.1
  have hb := M.2.1
  have hl : lv_has ls 2 [(0, .ref (b 0)), (1, .int x)] := hl
  refine lv_aload_n hx hb dX7_type_0 rfl (lv_at hl 0 rfl) ?_
  refine lv_iconst (v := 0) hx hb dX7_type_1 (by decide) ?_
  refine pt_Mod_0_0 M hW kw_398 dX7_type_2 (fun H locs hW => ?_)
  have hW : Wd G s (ModW G b (thr u) ++ Y) _ _ := hW
  refine lv_aload_n hx hb dX7_type_5 rfl (lv_at hl 0 rfl) ?_
  refine gt_Mod_0_8 M hW kw_484 (x := (thr u) 0 8) rfl dX7_type_6 ?_
  refine lv_bipush (v := 60) hx hb dX7_type_9 (by decide) ?_
  refine lv_icmp_ne (tgt := 17) hx hb dX7_type_11 (by decide) (fun c_11 => ?_) (fun c_11 => ?_)
  · skip
    have hm := hl0.lt c_11
    refine lv_aload_n hx hb dX7_type_17 rfl (lv_at hl 0 rfl) ?_
    refine gt_Mod_0_7 M hW kw_396 dX7_type_18 ?_
    refine lv_aload_n hx hb dX7_type_21 rfl (lv_at hl 0 rfl) ?_
    refine gt_Mod_0_8 M hW kw_484 (x := (thr u) 0 8) rfl dX7_type_22 ?_
    refine lv_iload_n hx hb dX7_type_25 rfl (lv_at hl 1 rfl) ?_
    refine as_Mod_5 M hW (mL u) hl0.eq.1 hm dX7_type_26 (fun H locs hW => ?_)
    refine lv_aload_n hx hb dX7_type_27 rfl (lv_at hl 0 rfl) ?_
    refine lv_dup hx hb dX7_type_28 rfl ?_
    refine gt_Mod_0_8 M hW kw_484 (x := (thr u) 0 8) (up2_d (by decide)) dX7_type_29 ?_
    refine lv_iconst (v := 1) hx hb dX7_type_32 (by decide) ?_
    refine lv_iadd hx hb dX7_type_33 ?_
    refine pt_Mod_0_8 M hW kw_484 dX7_type_34 (fun H locs hW => ?_)
    refine lv_aload_n hx hb dX7_type_37 rfl (lv_at hl 0 rfl) ?_
    refine gt_Mod_0_8 M hW kw_484 (x := ((thr u) 0 8) + 1) up2_s dX7_type_38 ?_
    exact r_reti M hW (by rw [sX7_type, if_neg c_11]) ⟨by rw [rX7_type, if_neg c_11], rfl⟩ (Nat.zero_le _) (Nat.zero_le _) dX7_type_41
  · skip
    refine lv_bipush (v := (-103)) hx hb dX7_type_14 (by decide) ?_
    exact r_reti M hW (by rw [sX7_type, if_pos c_11]) ⟨by rw [rX7_type, if_pos c_11], rfl⟩ (Nat.zero_le _) (Nat.zero_le _) dX7_type_16

def rX7_clearText (u : Nat → Nat → Int32) : Int32 := (thr u) 0 8
def sX7_clearText (u : Nat → Nat → Int32) : Nat → Nat → Int32 := up2 (thr u) 0 8 0
set_option maxHeartbeats 4000000 in
set_option maxRecDepth 100000 in
/-- X7.clearText -/
theorem c_X7_clearText (l : Launch) (G : Gp) (b : Nat → Nat) (u : Nat → Nat → Int32) (Y : va_W) : Cn l G yX7_clearText cX7_clearText 2 (some .int) 0 [.ref (b 0)] (ModW G b u ++ Y) (some (.int (rX7_clearText u))) (ModW G b (sX7_clearText u) ++ Y) := by
  refine CnE.of (by decide) (Nat.le_of_ble_eq_true rfl) ?_
  intro p e s m below meth c ls M hnm hl hW
  have hx := M.1
  have hb := M.2.1
  have hl : lv_has ls 2 [(0, .ref (b 0))] := hl
  refine lv_aload_n hx hb dX7_clearText_0 rfl (lv_at hl 0 rfl) ?_
  refine lv_iconst (v := 0) hx hb dX7_clearText_1 (by decide) ?_
  refine pt_Mod_0_0 M hW kw_398 dX7_clearText_2 (fun H locs hW => ?_)
  have hW : Wd G s (ModW G b (thr u) ++ Y) _ _ := hW
  refine lv_aload_n hx hb dX7_clearText_5 rfl (lv_at hl 0 rfl) ?_
  refine gt_Mod_0_8 M hW kw_484 (x := (thr u) 0 8) rfl dX7_clearText_6 ?_
  refine lv_istore_n (lv' := [(1, .int ((thr u) 0 8)), (0, .ref (b 0))]) hx hb dX7_clearText_9 rfl hl (by decide) rfl (fun ls hl => ?_)
  refine lv_aload_n hx hb dX7_clearText_10 rfl (lv_at hl 1 rfl) ?_
  refine lv_iconst (v := 0) hx hb dX7_clearText_11 (by decide) ?_
  refine pt_Mod_0_8 M hW kw_484 dX7_clearText_12 (fun H locs hW => ?_)
  refine lv_iload_n hx hb dX7_clearText_15 rfl (lv_at hl 0 rfl) ?_
  exact r_reti M hW (by rw [sX7_clearText]) ⟨by rw [rX7_clearText], rfl⟩ (Nat.zero_le _) (Nat.zero_le _) dX7_clearText_16

def rX7_stopped (u : Nat → Nat → Int32) (x : Int32) : Int32 := if x = 0 then (thr u) 0 9 else if x = 1 then (thr u) 0 10 else (-102)
def sX7_stopped (u : Nat → Nat → Int32) : Nat → Nat → Int32 := thr u
set_option maxHeartbeats 4000000 in
set_option maxRecDepth 100000 in
/-- X7.stopped -/
theorem c_X7_stopped (l : Launch) (G : Gp) (b : Nat → Nat) (u : Nat → Nat → Int32) (x : Int32) (Y : va_W) : Cn l G yX7_stopped cX7_stopped 2 (some .int) 0 [.ref (b 0), .int x] (ModW G b u ++ Y) (some (.int (rX7_stopped u x))) (ModW G b (sX7_stopped u) ++ Y) := by
  refine CnE.of (by decide) (Nat.le_of_ble_eq_true rfl) ?_
  intro p e s m below meth c ls M hnm hl hW
  have hx := M.1
  have hb := M.2.1
  have hl : lv_has ls 2 [(0, .ref (b 0)), (1, .int x)] := hl
  refine lv_aload_n hx hb dX7_stopped_0 rfl (lv_at hl 0 rfl) ?_
  refine lv_iconst (v := 0) hx hb dX7_stopped_1 (by decide) ?_
  refine pt_Mod_0_0 M hW kw_398 dX7_stopped_2 (fun H locs hW => ?_)
  have hW : Wd G s (ModW G b (thr u) ++ Y) _ _ := hW
  refine lv_iload_n hx hb dX7_stopped_5 rfl (lv_at hl 1 rfl) ?_
  refine lv_if_ne (tgt := 16) hx hb dX7_stopped_6 (by decide) (fun c_6 => ?_) (fun c_6 => ?_)
  · skip
    refine lv_iload_n hx hb dX7_stopped_16 rfl (lv_at hl 1 rfl) ?_
    refine lv_iconst (v := 1) hx hb dX7_stopped_17 (by decide) ?_
    refine lv_icmp_ne (tgt := 28) hx hb dX7_stopped_18 (by decide) (fun c_18 => ?_) (fun c_18 => ?_)
    · skip
      refine lv_bipush (v := (-102)) hx hb dX7_stopped_28 (by decide) ?_
      exact r_reti M hW (by rw [sX7_stopped]) ⟨by rw [rX7_stopped, if_neg c_6, if_neg c_18], rfl⟩ (Nat.zero_le _) (Nat.zero_le _) dX7_stopped_30
    · skip
      refine lv_aload_n hx hb dX7_stopped_21 rfl (lv_at hl 0 rfl) ?_
      refine gt_Mod_0_10 M hW kw_400 (x := (thr u) 0 10) rfl dX7_stopped_22 ?_
      refine lv_goto (tgt := 30) hx hb dX7_stopped_25 (by decide) ?_
      exact r_reti M hW (by rw [sX7_stopped]) ⟨by rw [rX7_stopped, if_neg c_6, if_pos c_18], rfl⟩ (Nat.zero_le _) (Nat.zero_le _) dX7_stopped_30
  · skip
    refine lv_aload_n hx hb dX7_stopped_9 rfl (lv_at hl 0 rfl) ?_
    refine gt_Mod_0_9 M hW kw_399 (x := (thr u) 0 9) rfl dX7_stopped_10 ?_
    refine lv_goto (tgt := 30) hx hb dX7_stopped_13 (by decide) ?_
    exact r_reti M hW (by rw [sX7_stopped]) ⟨by rw [rX7_stopped, if_pos c_6], rfl⟩ (Nat.zero_le _) (Nat.zero_le _) dX7_stopped_30

theorem undo04 (u : Nat → Nat → Int32) (n : Nat) : (iterN (fun k h => up2 h 1 k (h 3 (56 * (mS u - 1) + k))) n (up2 (thr u) 0 4 (nI (mS u - 1)))) 0 4 = nI (mS u - 1) := (congrFun (iter_at (F := fun k h => up2 h 1 k (h 3 (56 * (mS u - 1) + k))) 0 (fun _ _ => up2_ne (by decide)) n (up2 (thr u) 0 4 (nI (mS u - 1)))) 4).trans up2_s
