def TLen (t : Nat → Nat → Int32) : Prop := ∃ n : Nat, n ≤ 60 ∧ t 0 1 = nI n
def TCm (t : Nat → Nat → Int32) : Prop := ∃ k : Nat, k ≤ 60 ∧ t 0 4 = nI k
def tK (t : Nat → Nat → Int32) : Nat := (t 0 4).toNatClampNeg
def tR (t : Nat → Nat → Int32) : Nat := (t 0 5).toNatClampNeg
/-- inside 0 .. y - 1, where y is a natural -/
theorem iw_m {x y : Int32} {k : Nat} (hy : y = nI k) (hk : k < 1000000) (h : ¬ rX6_isWithin x 0 (y - 1) = 0) : x = nI x.toNatClampNeg ∧ x.toNatClampNeg < k := by
  obtain ⟨h1, h2⟩ := iw_1 h
  obtain ⟨j, hj, e2⟩ := nI_of h1
  have ek : x.toNatClampNeg = j := by rw [e2]; exact nI_clamp hj
  rw [ek]
  refine ⟨e2, ?_⟩
  rw [hy, e2] at h2
  by_cases hz : k = 0
  · subst hz
    exact absurd (by rw [Int32.lt_iff_toInt_lt, nI_toInt hj]; show (-1 : Int) < _; omega) h2
  · obtain ⟨q, rfl⟩ := Nat.exists_eq_succ_of_ne_zero hz
    rw [show nI (q.succ) - 1 = nI q from nI_pred q, Int32.lt_iff_toInt_lt, nI_toInt hj, nI_toInt (by omega)] at h2
    omega
theorem TLen.min {t : Nat → Nat → Int32} (h : TLen t) : ∃ n : Nat, n ≤ 60 ∧ imin (t 0 1) 60 = nI n := by
  obtain ⟨n, h1, h2⟩ := h
  refine ⟨n, h1, ?_⟩
  unfold imin
  rw [h2]
  by_cases c : (60 : Int32) < nI n
  · exact absurd c (nI_nlt (a := 60) h1 (by decide))
  · rw [if_neg c]
theorem TLen.ix {t : Nat → Nat → Int32} (h : TLen t) {x : Int32} (c : ¬ rX6_isWithin x 0 (imin (t 0 1) 60 - 1) = 0) : x = nI x.toNatClampNeg ∧ x.toNatClampNeg < 60 := by
  obtain ⟨n, h1, h2⟩ := h.min
  obtain ⟨a, b⟩ := iw_m h2 (by omega) c
  exact ⟨a, by omega⟩
theorem TCm.ix {t : Nat → Nat → Int32} (h : TCm t) {x : Int32} (c : ¬ rX6_isWithin x 0 (t 0 4 - 1) = 0) : x = nI x.toNatClampNeg ∧ x.toNatClampNeg < 60 := by
  obtain ⟨n, h1, h2⟩ := h
  obtain ⟨a, b⟩ := iw_m h2 (by omega) c
  exact ⟨a, by omega⟩

def rX4_append (t : Nat → Nat → Int32) : Int32 := if (rX6_isWithin (t 0 1) 0 59) = 0 then (-103) else (t 0 1) + 1
def sX4_append (t : Nat → Nat → Int32) (x : Int32) : Nat → Nat → Int32 := if (rX6_isWithin (t 0 1) 0 59) = 0 then t else up2 (up2 t 1 ((t 0 1).toNatClampNeg) x) 0 1 ((t 0 1) + 1)
set_option maxHeartbeats 4000000 in
set_option maxRecDepth 100000 in
/-- X4.append -/
theorem c_X4_append (l : Launch) (G : Gp) (d : Nat → Nat) (t : Nat → Nat → Int32) (x : Int32) (Y : va_W) (hch : vp_nar .char x = x) : Cn l G yX4_append cX4_append 2 (some .int) 1 [.ref (d 0), .int x] (TextW G d t ++ Y) (some (.int (rX4_append t))) (TextW G d (sX4_append t x) ++ Y) := by
  refine CnE.of (by decide) (Nat.le_of_ble_eq_true rfl) ?_
  intro p e s m below meth c ls M hnm hl hW
  have hx := M.1
  have hb := M.2.1
  have hl : lv_has ls 2 [(0, .ref (d 0)), (1, .int x)] := hl
  refine lv_aload_n hx hb dX4_append_0 rfl (lv_at hl 0 rfl) ?_
  refine gt_Text_0_1 M hW kw_205 (x := t 0 1) rfl dX4_append_1 ?_
  refine lv_iconst (v := 0) hx hb dX4_append_4 (by decide) ?_
  refine lv_bipush (v := 59) hx hb dX4_append_5 (by decide) ?_
  refine r_callSNi M hW (as := [.int (t 0 1), .int 0, .int 59]) (c_X6_isWithin l G (t 0 1) 0 59 (TextW G d t ++ Y)) rfl kn_X4_26 kw_14 kw_15 kw_12 pl_X6_isWithin ⟨by decide, by decide⟩ ⟨Nat.zero_le _, Nat.zero_le _⟩ hl.1 rfl (Nat.le_of_ble_eq_true rfl) dX4_append_7 (fun H locs hW => ?_)
  refine lv_if_ne (tgt := 16) hx hb dX4_append_10 (by decide) (fun c_10 => ?_) (fun c_10 => ?_)
  · skip
    have hk := iw_c (n := 59) rfl (by decide) c_10
    refine lv_aload_n hx hb dX4_append_16 rfl (lv_at hl 0 rfl) ?_
    refine gt_Text_0_0 M hW kw_201 dX4_append_17 ?_
    refine lv_aload_n hx hb dX4_append_20 rfl (lv_at hl 0 rfl) ?_
    refine gt_Text_0_1 M hW kw_205 (x := t 0 1) rfl dX4_append_21 ?_
    refine lv_iload_n hx hb dX4_append_24 rfl (lv_at hl 1 rfl) ?_
    refine as_Text_1 M hW ((t 0 1).toNatClampNeg) hk.1 (by omega) hch dX4_append_25 (fun H locs hW => ?_)
    refine lv_aload_n hx hb dX4_append_26 rfl (lv_at hl 0 rfl) ?_
    refine lv_dup hx hb dX4_append_27 rfl ?_
    refine gt_Text_0_1 M hW kw_205 (x := t 0 1) (up2_d (by decide)) dX4_append_28 ?_
    refine lv_iconst (v := 1) hx hb dX4_append_31 (by decide) ?_
    refine lv_iadd hx hb dX4_append_32 ?_
    refine pt_Text_0_1 M hW kw_205 dX4_append_33 (fun H locs hW => ?_)
    refine lv_aload_n hx hb dX4_append_36 rfl (lv_at hl 0 rfl) ?_
    refine gt_Text_0_1 M hW kw_205 (x := (t 0 1) + 1) up2_s dX4_append_37 ?_
    exact r_reti M hW (by rw [sX4_append, if_neg c_10]) ⟨by rw [rX4_append, if_neg c_10], rfl⟩ (Nat.zero_le _) (Nat.zero_le _) dX4_append_40
  · skip
    refine lv_bipush (v := (-103)) hx hb dX4_append_13 (by decide) ?_
    exact r_reti M hW (by rw [sX4_append, if_pos c_10]) ⟨by rw [rX4_append, if_pos c_10], rfl⟩ (Nat.zero_le _) (Nat.zero_le _) dX4_append_15

def rX4_empty (t : Nat → Nat → Int32) : Int32 := t 0 1
def sX4_empty (t : Nat → Nat → Int32) : Nat → Nat → Int32 := up2 t 0 1 0
set_option maxHeartbeats 4000000 in
set_option maxRecDepth 100000 in
/-- X4.empty -/
theorem c_X4_empty (l : Launch) (G : Gp) (d : Nat → Nat) (t : Nat → Nat → Int32) (Y : va_W) : Cn l G yX4_empty cX4_empty 2 (some .int) 0 [.ref (d 0)] (TextW G d t ++ Y) (some (.int (rX4_empty t))) (TextW G d (sX4_empty t) ++ Y) := by
  refine CnE.of (by decide) (Nat.le_of_ble_eq_true rfl) ?_
  intro p e s m below meth c ls M hnm hl hW
  have hx := M.1
  have hb := M.2.1
  have hl : lv_has ls 2 [(0, .ref (d 0))] := hl
  refine lv_aload_n hx hb dX4_empty_0 rfl (lv_at hl 0 rfl) ?_
  refine gt_Text_0_1 M hW kw_205 (x := t 0 1) rfl dX4_empty_1 ?_
  refine lv_istore_n (lv' := [(1, .int (t 0 1)), (0, .ref (d 0))]) hx hb dX4_empty_4 rfl hl (by decide) rfl (fun ls hl => ?_)
  refine lv_aload_n hx hb dX4_empty_5 rfl (lv_at hl 1 rfl) ?_
  refine lv_iconst (v := 0) hx hb dX4_empty_6 (by decide) ?_
  refine pt_Text_0_1 M hW kw_205 dX4_empty_7 (fun H locs hW => ?_)
  refine lv_iload_n hx hb dX4_empty_10 rfl (lv_at hl 0 rfl) ?_
  exact r_reti M hW (by rw [sX4_empty]) ⟨by rw [rX4_empty], rfl⟩ (Nat.zero_le _) (Nat.zero_le _) dX4_empty_11

def rX4_letterOf (t : Nat → Nat → Int32) (x : Int32) : Int32 := if (rX6_isWithin x 0 ((t 0 4) - 1)) = 0 then 0 else t 2 x.toNatClampNeg
set_option maxHeartbeats 4000000 in
set_option maxRecDepth 100000 in
/-- X4.letterOf -/
theorem c_X4_letterOf (l : Launch) (G : Gp) (d : Nat → Nat) (t : Nat → Nat → Int32) (x : Int32) (Y : va_W) (hm : TCm t) (hc2 : ∀ i, i < 60 → narrow .char (.int (t 2 i)) = .int (t 2 i)) : Cn l G yX4_letterOf cX4_letterOf 2 (some .char) 1 [.ref (d 0), .int x] (TextW G d t ++ Y) (some (.int (rX4_letterOf t x))) (TextW G d t ++ Y) := by
  refine CnE.of (by decide) (Nat.le_of_ble_eq_true rfl) ?_
  intro p e s m below meth c ls M hnm hl hW
  have hx := M.1
  have hb := M.2.1
  have hl : lv_has ls 2 [(0, .ref (d 0)), (1, .int x)] := hl
  refine lv_iload_n hx hb dX4_letterOf_0 rfl (lv_at hl 1 rfl) ?_
  refine lv_iconst (v := 0) hx hb dX4_letterOf_1 (by decide) ?_
  refine lv_aload_n hx hb dX4_letterOf_2 rfl (lv_at hl 0 rfl) ?_
  refine gt_Text_0_4 M hW kw_208 (x := t 0 4) rfl dX4_letterOf_3 ?_
  refine lv_iconst (v := 1) hx hb dX4_letterOf_6 (by decide) ?_
  refine lv_isub hx hb dX4_letterOf_7 ?_
  refine r_callSNi M hW (as := [.int x, .int 0, .int ((t 0 4) - 1)]) (c_X6_isWithin l G x 0 ((t 0 4) - 1) (TextW G d t ++ Y)) rfl kn_X4_26 kw_14 kw_15 kw_12 pl_X6_isWithin ⟨by decide, by decide⟩ ⟨Nat.zero_le _, Nat.zero_le _⟩ hl.1 rfl (Nat.le_of_ble_eq_true rfl) dX4_letterOf_8 (fun H locs hW => ?_)
  refine lv_if_eq (tgt := 23) hx hb dX4_letterOf_11 (by decide) (fun c_11 => ?_) (fun c_11 => ?_)
  · skip
    refine lv_iconst (v := 0) hx hb dX4_letterOf_23 (by decide) ?_
    exact r_retz M rfl hW rfl ⟨by rw [rX4_letterOf, if_pos c_11], rfl⟩ (Nat.zero_le _) (Nat.zero_le _) dX4_letterOf_24
  · skip
    have hk := hm.ix c_11
    refine lv_aload_n hx hb dX4_letterOf_14 rfl (lv_at hl 0 rfl) ?_
    refine gt_Text_0_2 M hW kw_202 dX4_letterOf_15 ?_
    refine lv_iload_n hx hb dX4_letterOf_18 rfl (lv_at hl 1 rfl) ?_
    refine al_Text_2 M hW x.toNatClampNeg hk.1 hk.2 (x := t 2 x.toNatClampNeg) rfl dX4_letterOf_19 ?_
    refine lv_goto (tgt := 24) hx hb dX4_letterOf_20 (by decide) ?_
    exact r_retz M (hc2 _ hk.2) hW rfl ⟨by rw [rX4_letterOf, if_neg c_11], rfl⟩ (Nat.zero_le _) (Nat.zero_le _) dX4_letterOf_24

def rX4_valueOf (t : Nat → Nat → Int32) (x : Int32) : Int32 := if (rX6_isWithin x 0 ((t 0 4) - 1)) = 0 then 0 else t 3 x.toNatClampNeg
set_option maxHeartbeats 4000000 in
set_option maxRecDepth 100000 in
/-- X4.valueOf -/
theorem c_X4_valueOf (l : Launch) (G : Gp) (d : Nat → Nat) (t : Nat → Nat → Int32) (x : Int32) (Y : va_W) (hm : TCm t) : Cn l G yX4_valueOf cX4_valueOf 2 (some .int) 1 [.ref (d 0), .int x] (TextW G d t ++ Y) (some (.int (rX4_valueOf t x))) (TextW G d t ++ Y) := by
  refine CnE.of (by decide) (Nat.le_of_ble_eq_true rfl) ?_
  intro p e s m below meth c ls M hnm hl hW
  have hx := M.1
  have hb := M.2.1
  have hl : lv_has ls 2 [(0, .ref (d 0)), (1, .int x)] := hl
  refine lv_iload_n hx hb dX4_valueOf_0 rfl (lv_at hl 1 rfl) ?_
  refine lv_iconst (v := 0) hx hb dX4_valueOf_1 (by decide) ?_
  refine lv_aload_n hx hb dX4_valueOf_2 rfl (lv_at hl 0 rfl) ?_
  refine gt_Text_0_4 M hW kw_208 (x := t 0 4) rfl dX4_valueOf_3 ?_
  refine lv_iconst (v := 1) hx hb dX4_valueOf_6 (by decide) ?_
  refine lv_isub hx hb dX4_valueOf_7 ?_
  refine r_callSNi M hW (as := [.int x, .int 0, .int ((t 0 4) - 1)]) (c_X6_isWithin l G x 0 ((t 0 4) - 1) (TextW G d t ++ Y)) rfl kn_X4_26 kw_14 kw_15 kw_12 pl_X6_isWithin ⟨by decide, by decide⟩ ⟨Nat.zero_le _, Nat.zero_le _⟩ hl.1 rfl (Nat.le_of_ble_eq_true rfl) dX4_valueOf_8 (fun H locs hW => ?_)
  refine lv_if_eq (tgt := 23) hx hb dX4_valueOf_11 (by decide) (fun c_11 => ?_) (fun c_11 => ?_)
  · skip
    refine lv_iconst (v := 0) hx hb dX4_valueOf_23 (by decide) ?_
    exact r_reti M hW rfl ⟨by rw [rX4_valueOf, if_pos c_11], rfl⟩ (Nat.zero_le _) (Nat.zero_le _) dX4_valueOf_24
  · skip
    have hk := hm.ix c_11
    refine lv_aload_n hx hb dX4_valueOf_14 rfl (lv_at hl 0 rfl) ?_
    refine gt_Text_0_3 M hW kw_203 dX4_valueOf_15 ?_
    refine lv_iload_n hx hb dX4_valueOf_18 rfl (lv_at hl 1 rfl) ?_
    refine al_Text_3 M hW x.toNatClampNeg hk.1 hk.2 (x := t 3 x.toNatClampNeg) rfl dX4_valueOf_19 ?_
    refine lv_goto (tgt := 24) hx hb dX4_valueOf_20 (by decide) ?_
    exact r_reti M hW rfl ⟨by rw [rX4_valueOf, if_neg c_11], rfl⟩ (Nat.zero_le _) (Nat.zero_le _) dX4_valueOf_24

def rX4_next (t : Nat → Nat → Int32) : Int32 := if (rX6_isWithin (t 0 5) 0 ((imin (t 0 1) 60) - 1)) = 0 then (-1) else t 1 (tR t)
set_option maxHeartbeats 4000000 in
set_option maxRecDepth 100000 in
/-- X4.next -/
theorem c_X4_next (l : Launch) (G : Gp) (d : Nat → Nat) (t : Nat → Nat → Int32) (Y : va_W) (ht : TLen t) : Cn l G yX4_next cX4_next 1 (some .int) 1 [.ref (d 0)] (TextW G d t ++ Y) (some (.int (rX4_next t))) (TextW G d t ++ Y) := by
  refine CnE.of (by decide) (Nat.le_of_ble_eq_true rfl) ?_
  intro p e s m below meth c ls M hnm hl hW
  have hx := M.1
  have hb := M.2.1
  have hl : lv_has ls 1 [(0, .ref (d 0))] := hl
  refine lv_aload_n hx hb dX4_next_0 rfl (lv_at hl 0 rfl) ?_
  refine gt_Text_0_5 M hW kw_211 (x := t 0 5) rfl dX4_next_1 ?_
  refine lv_iconst (v := 0) hx hb dX4_next_4 (by decide) ?_
  refine lv_aload_n hx hb dX4_next_5 rfl (lv_at hl 0 rfl) ?_
  refine gt_Text_0_1 M hW kw_205 (x := t 0 1) rfl dX4_next_6 ?_
  refine lv_bipush (v := 60) hx hb dX4_next_9 (by decide) ?_
  refine r_min M kw_212 kw_24 kw_21 kw_25 hl.1 (by decide) (Nat.le_of_ble_eq_true rfl) ⟨Nat.zero_le _, Nat.zero_le _⟩ dX4_next_11 ?_
  refine lv_iconst (v := 1) hx hb dX4_next_14 (by decide) ?_
  refine lv_isub hx hb dX4_next_15 ?_
  refine r_callSNi M hW (as := [.int (t 0 5), .int 0, .int ((imin (t 0 1) 60) - 1)]) (c_X6_isWithin l G (t 0 5) 0 ((imin (t 0 1) 60) - 1) (TextW G d t ++ Y)) rfl kn_X4_26 kw_14 kw_15 kw_12 pl_X6_isWithin ⟨by decide, by decide⟩ ⟨Nat.zero_le _, Nat.zero_le _⟩ hl.1 rfl (Nat.le_of_ble_eq_true rfl) dX4_next_16 (fun H locs hW => ?_)
  refine lv_if_eq (tgt := 34) hx hb dX4_next_19 (by decide) (fun c_19 => ?_) (fun c_19 => ?_)
  · skip
    refine lv_iconst (v := (-1)) hx hb dX4_next_34 (by decide) ?_
    exact r_reti M hW rfl ⟨by rw [rX4_next, if_pos c_19], rfl⟩ (Nat.zero_le _) (Nat.zero_le _) dX4_next_35
  · skip
    have hk := ht.ix c_19
    refine lv_aload_n hx hb dX4_next_22 rfl (lv_at hl 0 rfl) ?_
    refine gt_Text_0_0 M hW kw_201 dX4_next_23 ?_
    refine lv_aload_n hx hb dX4_next_26 rfl (lv_at hl 0 rfl) ?_
    refine gt_Text_0_5 M hW kw_211 (x := t 0 5) rfl dX4_next_27 ?_
    refine al_Text_1 M hW (tR t) hk.1 hk.2 (x := t 1 (tR t)) rfl dX4_next_30 ?_
    refine lv_goto (tgt := 35) hx hb dX4_next_31 (by decide) ?_
    exact r_reti M hW rfl ⟨by rw [rX4_next, if_neg c_19], rfl⟩ (Nat.zero_le _) (Nat.zero_le _) dX4_next_35

def rX4_nextDigit (t : Nat → Nat → Int32) : Int32 := if (rX6_isWithin (rX4_next t) 48 57) = 0 then (-1) else (rX4_next t) - 48
set_option maxHeartbeats 4000000 in
set_option maxRecDepth 100000 in
/-- X4.nextDigit -/
theorem c_X4_nextDigit (l : Launch) (G : Gp) (d : Nat → Nat) (t : Nat → Nat → Int32) (Y : va_W) (ht : TLen t) : Cn l G yX4_nextDigit cX4_nextDigit 2 (some .int) 2 [.ref (d 0)] (TextW G d t ++ Y) (some (.int (rX4_nextDigit t))) (TextW G d t ++ Y) := by
  refine CnE.of (by decide) (Nat.le_of_ble_eq_true rfl) ?_
  intro p e s m below meth c ls M hnm hl hW
  have hx := M.1
  have hb := M.2.1
  have hl : lv_has ls 2 [(0, .ref (d 0))] := hl
  refine lv_aload_n hx hb dX4_nextDigit_0 rfl (lv_at hl 0 rfl) ?_
  refine r_callVi M hW (c_X4_next l G d t  (Y) ht) rfl kw_215 kw_216 kw_217 kw_218 kw_210 pl_X4_next 0 rfl rfl ⟨by decide, by decide⟩ ⟨Nat.zero_le _, Nat.zero_le _⟩ hl.1 rfl (Nat.le_of_ble_eq_true rfl) dX4_nextDigit_1 (fun H locs hW => ?_)
  refine lv_istore_n (lv' := [(1, .int (rX4_next t)), (0, .ref (d 0))]) hx hb dX4_nextDigit_4 rfl hl (by decide) rfl (fun ls hl => ?_)
  refine lv_iload_n hx hb dX4_nextDigit_5 rfl (lv_at hl 0 rfl) ?_
  refine lv_bipush (v := 48) hx hb dX4_nextDigit_6 (by decide) ?_
  refine lv_bipush (v := 57) hx hb dX4_nextDigit_8 (by decide) ?_
  refine r_callSNi M hW (as := [.int (rX4_next t), .int 48, .int 57]) (c_X6_isWithin l G (rX4_next t) 48 57 (TextW G d t ++ Y)) rfl kn_X4_26 kw_14 kw_15 kw_12 pl_X6_isWithin ⟨by decide, by decide⟩ ⟨Nat.zero_le _, Nat.zero_le _⟩ hl.1 rfl (Nat.le_of_ble_eq_true rfl) dX4_nextDigit_10 (fun H locs hW => ?_)
  refine lv_if_eq (tgt := 23) hx hb dX4_nextDigit_13 (by decide) (fun c_13 => ?_) (fun c_13 => ?_)
  · skip
    refine lv_iconst (v := (-1)) hx hb dX4_nextDigit_23 (by decide) ?_
    exact r_reti M hW rfl ⟨by rw [rX4_nextDigit, if_pos c_13], rfl⟩ (Nat.zero_le _) (Nat.zero_le _) dX4_nextDigit_24
  · skip
    refine lv_iload_n hx hb dX4_nextDigit_16 rfl (lv_at hl 0 rfl) ?_
    refine lv_bipush (v := 48) hx hb dX4_nextDigit_17 (by decide) ?_
    refine lv_isub hx hb dX4_nextDigit_19 ?_
    refine lv_goto (tgt := 24) hx hb dX4_nextDigit_20 (by decide) ?_
    exact r_reti M hW rfl ⟨by rw [rX4_nextDigit, if_neg c_13], rfl⟩ (Nat.zero_le _) (Nat.zero_le _) dX4_nextDigit_24

def rX4_readComma (t : Nat → Nat → Int32) : Int32 := if (rX4_next t) = 44 then 1 else 0
def sX4_readComma (t : Nat → Nat → Int32) : Nat → Nat → Int32 := if (rX4_next t) = 44 then up2 t 0 5 ((t 0 5) + 1) else t
set_option maxHeartbeats 4000000 in
set_option maxRecDepth 100000 in
/-- X4.readComma -/
theorem c_X4_readComma (l : Launch) (G : Gp) (d : Nat → Nat) (t : Nat → Nat → Int32) (Y : va_W) (ht : TLen t) : Cn l G yX4_readComma cX4_readComma 1 (some .boolean) 2 [.ref (d 0)] (TextW G d t ++ Y) (some (.int (rX4_readComma t))) (TextW G d (sX4_readComma t) ++ Y) := by
  refine CnE.of (by decide) (Nat.le_of_ble_eq_true rfl) ?_
  intro p e s m below meth c ls M hnm hl hW
  have hx := M.1
  have hb := M.2.1
  have hl : lv_has ls 1 [(0, .ref (d 0))] := hl
  refine lv_aload_n hx hb dX4_readComma_0 rfl (lv_at hl 0 rfl) ?_
  refine r_callVi M hW (c_X4_next l G d t  (Y) ht) rfl kw_215 kw_216 kw_217 kw_218 kw_210 pl_X4_next 0 rfl rfl ⟨by decide, by decide⟩ ⟨Nat.zero_le _, Nat.zero_le _⟩ hl.1 rfl (Nat.le_of_ble_eq_true rfl) dX4_readComma_1 (fun H locs hW => ?_)
  refine lv_bipush (v := 44) hx hb dX4_readComma_4 (by decide) ?_
  refine lv_icmp_eq (tgt := 11) hx hb dX4_readComma_6 (by decide) (fun c_6 => ?_) (fun c_6 => ?_)
  · skip
    refine lv_aload_n hx hb dX4_readComma_11 rfl (lv_at hl 0 rfl) ?_
    refine lv_dup hx hb dX4_readComma_12 rfl ?_
    refine gt_Text_0_5 M hW kw_211 (x := t 0 5) rfl dX4_readComma_13 ?_
    refine lv_iconst (v := 1) hx hb dX4_readComma_16 (by decide) ?_
    refine lv_iadd hx hb dX4_readComma_17 ?_
    refine pt_Text_0_5 M hW kw_211 dX4_readComma_18 (fun H locs hW => ?_)
    refine lv_iconst (v := 1) hx hb dX4_readComma_21 (by decide) ?_
    exact r_retz M rfl hW (by rw [sX4_readComma, if_pos c_6]) ⟨by rw [rX4_readComma, if_pos c_6], rfl⟩ (Nat.zero_le _) (Nat.zero_le _) dX4_readComma_22
  · skip
    refine lv_iconst (v := 0) hx hb dX4_readComma_9 (by decide) ?_
    exact r_retz M rfl hW (by rw [sX4_readComma, if_neg c_6]) ⟨by rw [rX4_readComma, if_neg c_6], rfl⟩ (Nat.zero_le _) (Nat.zero_le _) dX4_readComma_10

def rX4_isLetterOfCommand (x : Int32) : Int32 := if x = 97 then 1 else if x = 98 then 0 else if x = 99 then 1 else if x = 100 then 1 else if x = 101 then 0 else if x = 102 then 1 else if x = 103 then 1 else if x = 104 then 0 else if x = 105 then 0 else if x = 106 then 0 else if x = 107 then 0 else if x = 108 then 0 else if x = 109 then 0 else if x = 110 then 0 else if x = 111 then 1 else if x = 112 then 0 else if x = 113 then 0 else if x = 114 then 1 else if x = 115 then 1 else if x = 116 then 1 else if x = 117 then 0 else if x = 118 then 0 else if x = 119 then 1 else if x = 120 then 1 else 0
set_option maxHeartbeats 4000000 in
set_option maxRecDepth 100000 in
/-- X4.isLetterOfCommand -/
theorem c_X4_isLetterOfCommand (l : Launch) (G : Gp) (x : Int32) (Y : va_W) : Cn l G yX4_isLetterOfCommand cX4_isLetterOfCommand 1 (some .boolean) 0 [.int x] (Y) (some (.int (rX4_isLetterOfCommand x))) (Y) := by
  refine CnE.of (by decide) (Nat.le_of_ble_eq_true rfl) ?_
  intro p e s m below meth c ls M hnm hl hW
  have hx := M.1
  have hb := M.2.1
  have hl : lv_has ls 1 [(0, .int x)] := hl
  refine lv_iload_n hx hb dX4_isLetterOfCommand_0 rfl (lv_at hl 0 rfl) ?_
  by_cases c_1_97 : x = 97
  · skip
    refine lv_tableIn (off := 111) (tgt := 112) hx hb dX4_isLetterOfCommand_1 (by rw [c_1_97]; decide) (by rw [c_1_97]; decide) (by rw [c_1_97]; rfl) (by decide) ?_
    refine lv_iconst (v := 1) hx hb dX4_isLetterOfCommand_112 (by decide) ?_
    exact r_retz M rfl hW rfl ⟨by rw [rX4_isLetterOfCommand, if_pos c_1_97], rfl⟩ (Nat.zero_le _) (Nat.zero_le _) dX4_isLetterOfCommand_113
  · skip
    by_cases c_1_98 : x = 98
    · skip
      refine lv_tableIn (off := 113) (tgt := 114) hx hb dX4_isLetterOfCommand_1 (by rw [c_1_98]; decide) (by rw [c_1_98]; decide) (by rw [c_1_98]; rfl) (by decide) ?_
      refine lv_iconst (v := 0) hx hb dX4_isLetterOfCommand_114 (by decide) ?_
      exact r_retz M rfl hW rfl ⟨by rw [rX4_isLetterOfCommand, if_neg c_1_97, if_pos c_1_98], rfl⟩ (Nat.zero_le _) (Nat.zero_le _) dX4_isLetterOfCommand_115
    · skip
      by_cases c_1_99 : x = 99
      · skip
        refine lv_tableIn (off := 111) (tgt := 112) hx hb dX4_isLetterOfCommand_1 (by rw [c_1_99]; decide) (by rw [c_1_99]; decide) (by rw [c_1_99]; rfl) (by decide) ?_
        refine lv_iconst (v := 1) hx hb dX4_isLetterOfCommand_112 (by decide) ?_
        exact r_retz M rfl hW rfl ⟨by rw [rX4_isLetterOfCommand, if_neg c_1_97, if_neg c_1_98, if_pos c_1_99], rfl⟩ (Nat.zero_le _) (Nat.zero_le _) dX4_isLetterOfCommand_113
      · skip
        by_cases c_1_100 : x = 100
        · skip
          refine lv_tableIn (off := 111) (tgt := 112) hx hb dX4_isLetterOfCommand_1 (by rw [c_1_100]; decide) (by rw [c_1_100]; decide) (by rw [c_1_100]; rfl) (by decide) ?_
          refine lv_iconst (v := 1) hx hb dX4_isLetterOfCommand_112 (by decide) ?_
          exact r_retz M rfl hW rfl ⟨by rw [rX4_isLetterOfCommand, if_neg c_1_97, if_neg c_1_98, if_neg c_1_99, if_pos c_1_100], rfl⟩ (Nat.zero_le _) (Nat.zero_le _) dX4_isLetterOfCommand_113
        · skip
          by_cases c_1_101 : x = 101
          · skip
            refine lv_tableIn (off := 113) (tgt := 114) hx hb dX4_isLetterOfCommand_1 (by rw [c_1_101]; decide) (by rw [c_1_101]; decide) (by rw [c_1_101]; rfl) (by decide) ?_
            refine lv_iconst (v := 0) hx hb dX4_isLetterOfCommand_114 (by decide) ?_
            exact r_retz M rfl hW rfl ⟨by rw [rX4_isLetterOfCommand, if_neg c_1_97, if_neg c_1_98, if_neg c_1_99, if_neg c_1_100, if_pos c_1_101], rfl⟩ (Nat.zero_le _) (Nat.zero_le _) dX4_isLetterOfCommand_115
          · skip
            by_cases c_1_102 : x = 102
            · skip
              refine lv_tableIn (off := 111) (tgt := 112) hx hb dX4_isLetterOfCommand_1 (by rw [c_1_102]; decide) (by rw [c_1_102]; decide) (by rw [c_1_102]; rfl) (by decide) ?_
              refine lv_iconst (v := 1) hx hb dX4_isLetterOfCommand_112 (by decide) ?_
              exact r_retz M rfl hW rfl ⟨by rw [rX4_isLetterOfCommand, if_neg c_1_97, if_neg c_1_98, if_neg c_1_99, if_neg c_1_100, if_neg c_1_101, if_pos c_1_102], rfl⟩ (Nat.zero_le _) (Nat.zero_le _) dX4_isLetterOfCommand_113
            · skip
              by_cases c_1_103 : x = 103
              · skip
                refine lv_tableIn (off := 111) (tgt := 112) hx hb dX4_isLetterOfCommand_1 (by rw [c_1_103]; decide) (by rw [c_1_103]; decide) (by rw [c_1_103]; rfl) (by decide) ?_
                refine lv_iconst (v := 1) hx hb dX4_isLetterOfCommand_112 (by decide) ?_
                exact r_retz M rfl hW rfl ⟨by rw [rX4_isLetterOfCommand, if_neg c_1_97, if_neg c_1_98, if_neg c_1_99, if_neg c_1_100, if_neg c_1_101, if_neg c_1_102, if_pos c_1_103], rfl⟩ (Nat.zero_le _) (Nat.zero_le _) dX4_isLetterOfCommand_113
              · skip
                by_cases c_1_104 : x = 104
                · skip
                  refine lv_tableIn (off := 113) (tgt := 114) hx hb dX4_isLetterOfCommand_1 (by rw [c_1_104]; decide) (by rw [c_1_104]; decide) (by rw [c_1_104]; rfl) (by decide) ?_
                  refine lv_iconst (v := 0) hx hb dX4_isLetterOfCommand_114 (by decide) ?_
                  exact r_retz M rfl hW rfl ⟨by rw [rX4_isLetterOfCommand, if_neg c_1_97, if_neg c_1_98, if_neg c_1_99, if_neg c_1_100, if_neg c_1_101, if_neg c_1_102, if_neg c_1_103, if_pos c_1_104], rfl⟩ (Nat.zero_le _) (Nat.zero_le _) dX4_isLetterOfCommand_115
                · skip
                  by_cases c_1_105 : x = 105
                  · skip
                    refine lv_tableIn (off := 113) (tgt := 114) hx hb dX4_isLetterOfCommand_1 (by rw [c_1_105]; decide) (by rw [c_1_105]; decide) (by rw [c_1_105]; rfl) (by decide) ?_
                    refine lv_iconst (v := 0) hx hb dX4_isLetterOfCommand_114 (by decide) ?_
                    exact r_retz M rfl hW rfl ⟨by rw [rX4_isLetterOfCommand, if_neg c_1_97, if_neg c_1_98, if_neg c_1_99, if_neg c_1_100, if_neg c_1_101, if_neg c_1_102, if_neg c_1_103, if_neg c_1_104, if_pos c_1_105], rfl⟩ (Nat.zero_le _) (Nat.zero_le _) dX4_isLetterOfCommand_115
                  · skip
                    by_cases c_1_106 : x = 106
                    · skip
                      refine lv_tableIn (off := 113) (tgt := 114) hx hb dX4_isLetterOfCommand_1 (by rw [c_1_106]; decide) (by rw [c_1_106]; decide) (by rw [c_1_106]; rfl) (by decide) ?_
                      refine lv_iconst (v := 0) hx hb dX4_isLetterOfCommand_114 (by decide) ?_
                      exact r_retz M rfl hW rfl ⟨by rw [rX4_isLetterOfCommand, if_neg c_1_97, if_neg c_1_98, if_neg c_1_99, if_neg c_1_100, if_neg c_1_101, if_neg c_1_102, if_neg c_1_103, if_neg c_1_104, if_neg c_1_105, if_pos c_1_106], rfl⟩ (Nat.zero_le _) (Nat.zero_le _) dX4_isLetterOfCommand_115
                    · skip
                      by_cases c_1_107 : x = 107
                      · skip
                        refine lv_tableIn (off := 113) (tgt := 114) hx hb dX4_isLetterOfCommand_1 (by rw [c_1_107]; decide) (by rw [c_1_107]; decide) (by rw [c_1_107]; rfl) (by decide) ?_
                        refine lv_iconst (v := 0) hx hb dX4_isLetterOfCommand_114 (by decide) ?_
                        exact r_retz M rfl hW rfl ⟨by rw [rX4_isLetterOfCommand, if_neg c_1_97, if_neg c_1_98, if_neg c_1_99, if_neg c_1_100, if_neg c_1_101, if_neg c_1_102, if_neg c_1_103, if_neg c_1_104, if_neg c_1_105, if_neg c_1_106, if_pos c_1_107], rfl⟩ (Nat.zero_le _) (Nat.zero_le _) dX4_isLetterOfCommand_115
                      · skip
                        by_cases c_1_108 : x = 108
                        · skip
                          refine lv_tableIn (off := 113) (tgt := 114) hx hb dX4_isLetterOfCommand_1 (by rw [c_1_108]; decide) (by rw [c_1_108]; decide) (by rw [c_1_108]; rfl) (by decide) ?_
                          refine lv_iconst (v := 0) hx hb dX4_isLetterOfCommand_114 (by decide) ?_
                          exact r_retz M rfl hW rfl ⟨by rw [rX4_isLetterOfCommand, if_neg c_1_97, if_neg c_1_98, if_neg c_1_99, if_neg c_1_100, if_neg c_1_101, if_neg c_1_102, if_neg c_1_103, if_neg c_1_104, if_neg c_1_105, if_neg c_1_106, if_neg c_1_107, if_pos c_1_108], rfl⟩ (Nat.zero_le _) (Nat.zero_le _) dX4_isLetterOfCommand_115
                        · skip
                          by_cases c_1_109 : x = 109
                          · skip
                            refine lv_tableIn (off := 113) (tgt := 114) hx hb dX4_isLetterOfCommand_1 (by rw [c_1_109]; decide) (by rw [c_1_109]; decide) (by rw [c_1_109]; rfl) (by decide) ?_
                            refine lv_iconst (v := 0) hx hb dX4_isLetterOfCommand_114 (by decide) ?_
                            exact r_retz M rfl hW rfl ⟨by rw [rX4_isLetterOfCommand, if_neg c_1_97, if_neg c_1_98, if_neg c_1_99, if_neg c_1_100, if_neg c_1_101, if_neg c_1_102, if_neg c_1_103, if_neg c_1_104, if_neg c_1_105, if_neg c_1_106, if_neg c_1_107, if_neg c_1_108, if_pos c_1_109], rfl⟩ (Nat.zero_le _) (Nat.zero_le _) dX4_isLetterOfCommand_115
                          · skip
                            by_cases c_1_110 : x = 110
                            · skip
                              refine lv_tableIn (off := 113) (tgt := 114) hx hb dX4_isLetterOfCommand_1 (by rw [c_1_110]; decide) (by rw [c_1_110]; decide) (by rw [c_1_110]; rfl) (by decide) ?_
                              refine lv_iconst (v := 0) hx hb dX4_isLetterOfCommand_114 (by decide) ?_
                              exact r_retz M rfl hW rfl ⟨by rw [rX4_isLetterOfCommand, if_neg c_1_97, if_neg c_1_98, if_neg c_1_99, if_neg c_1_100, if_neg c_1_101, if_neg c_1_102, if_neg c_1_103, if_neg c_1_104, if_neg c_1_105, if_neg c_1_106, if_neg c_1_107, if_neg c_1_108, if_neg c_1_109, if_pos c_1_110], rfl⟩ (Nat.zero_le _) (Nat.zero_le _) dX4_isLetterOfCommand_115
                            · skip
                              by_cases c_1_111 : x = 111
                              · skip
                                refine lv_tableIn (off := 111) (tgt := 112) hx hb dX4_isLetterOfCommand_1 (by rw [c_1_111]; decide) (by rw [c_1_111]; decide) (by rw [c_1_111]; rfl) (by decide) ?_
                                refine lv_iconst (v := 1) hx hb dX4_isLetterOfCommand_112 (by decide) ?_
                                exact r_retz M rfl hW rfl ⟨by rw [rX4_isLetterOfCommand, if_neg c_1_97, if_neg c_1_98, if_neg c_1_99, if_neg c_1_100, if_neg c_1_101, if_neg c_1_102, if_neg c_1_103, if_neg c_1_104, if_neg c_1_105, if_neg c_1_106, if_neg c_1_107, if_neg c_1_108, if_neg c_1_109, if_neg c_1_110, if_pos c_1_111], rfl⟩ (Nat.zero_le _) (Nat.zero_le _) dX4_isLetterOfCommand_113
                              · skip
                                by_cases c_1_112 : x = 112
                                · skip
                                  refine lv_tableIn (off := 113) (tgt := 114) hx hb dX4_isLetterOfCommand_1 (by rw [c_1_112]; decide) (by rw [c_1_112]; decide) (by rw [c_1_112]; rfl) (by decide) ?_
                                  refine lv_iconst (v := 0) hx hb dX4_isLetterOfCommand_114 (by decide) ?_
                                  exact r_retz M rfl hW rfl ⟨by rw [rX4_isLetterOfCommand, if_neg c_1_97, if_neg c_1_98, if_neg c_1_99, if_neg c_1_100, if_neg c_1_101, if_neg c_1_102, if_neg c_1_103, if_neg c_1_104, if_neg c_1_105, if_neg c_1_106, if_neg c_1_107, if_neg c_1_108, if_neg c_1_109, if_neg c_1_110, if_neg c_1_111, if_pos c_1_112], rfl⟩ (Nat.zero_le _) (Nat.zero_le _) dX4_isLetterOfCommand_115
                                · skip
                                  by_cases c_1_113 : x = 113
                                  · skip
                                    refine lv_tableIn (off := 113) (tgt := 114) hx hb dX4_isLetterOfCommand_1 (by rw [c_1_113]; decide) (by rw [c_1_113]; decide) (by rw [c_1_113]; rfl) (by decide) ?_
                                    refine lv_iconst (v := 0) hx hb dX4_isLetterOfCommand_114 (by decide) ?_
                                    exact r_retz M rfl hW rfl ⟨by rw [rX4_isLetterOfCommand, if_neg c_1_97, if_neg c_1_98, if_neg c_1_99, if_neg c_1_100, if_neg c_1_101, if_neg c_1_102, if_neg c_1_103, if_neg c_1_104, if_neg c_1_105, if_neg c_1_106, if_neg c_1_107, if_neg c_1_108, if_neg c_1_109, if_neg c_1_110, if_neg c_1_111, if_neg c_1_112, if_pos c_1_113], rfl⟩ (Nat.zero_le _) (Nat.zero_le _) dX4_isLetterOfCommand_115
                                  · skip
                                    by_cases c_1_114 : x = 114
                                    · skip
                                      refine lv_tableIn (off := 111) (tgt := 112) hx hb dX4_isLetterOfCommand_1 (by rw [c_1_114]; decide) (by rw [c_1_114]; decide) (by rw [c_1_114]; rfl) (by decide) ?_
                                      refine lv_iconst (v := 1) hx hb dX4_isLetterOfCommand_112 (by decide) ?_
                                      exact r_retz M rfl hW rfl ⟨by rw [rX4_isLetterOfCommand, if_neg c_1_97, if_neg c_1_98, if_neg c_1_99, if_neg c_1_100, if_neg c_1_101, if_neg c_1_102, if_neg c_1_103, if_neg c_1_104, if_neg c_1_105, if_neg c_1_106, if_neg c_1_107, if_neg c_1_108, if_neg c_1_109, if_neg c_1_110, if_neg c_1_111, if_neg c_1_112, if_neg c_1_113, if_pos c_1_114], rfl⟩ (Nat.zero_le _) (Nat.zero_le _) dX4_isLetterOfCommand_113
                                    · skip
                                      by_cases c_1_115 : x = 115
                                      · skip
                                        refine lv_tableIn (off := 111) (tgt := 112) hx hb dX4_isLetterOfCommand_1 (by rw [c_1_115]; decide) (by rw [c_1_115]; decide) (by rw [c_1_115]; rfl) (by decide) ?_
                                        refine lv_iconst (v := 1) hx hb dX4_isLetterOfCommand_112 (by decide) ?_
                                        exact r_retz M rfl hW rfl ⟨by rw [rX4_isLetterOfCommand, if_neg c_1_97, if_neg c_1_98, if_neg c_1_99, if_neg c_1_100, if_neg c_1_101, if_neg c_1_102, if_neg c_1_103, if_neg c_1_104, if_neg c_1_105, if_neg c_1_106, if_neg c_1_107, if_neg c_1_108, if_neg c_1_109, if_neg c_1_110, if_neg c_1_111, if_neg c_1_112, if_neg c_1_113, if_neg c_1_114, if_pos c_1_115], rfl⟩ (Nat.zero_le _) (Nat.zero_le _) dX4_isLetterOfCommand_113
                                      · skip
                                        by_cases c_1_116 : x = 116
                                        · skip
                                          refine lv_tableIn (off := 111) (tgt := 112) hx hb dX4_isLetterOfCommand_1 (by rw [c_1_116]; decide) (by rw [c_1_116]; decide) (by rw [c_1_116]; rfl) (by decide) ?_
                                          refine lv_iconst (v := 1) hx hb dX4_isLetterOfCommand_112 (by decide) ?_
                                          exact r_retz M rfl hW rfl ⟨by rw [rX4_isLetterOfCommand, if_neg c_1_97, if_neg c_1_98, if_neg c_1_99, if_neg c_1_100, if_neg c_1_101, if_neg c_1_102, if_neg c_1_103, if_neg c_1_104, if_neg c_1_105, if_neg c_1_106, if_neg c_1_107, if_neg c_1_108, if_neg c_1_109, if_neg c_1_110, if_neg c_1_111, if_neg c_1_112, if_neg c_1_113, if_neg c_1_114, if_neg c_1_115, if_pos c_1_116], rfl⟩ (Nat.zero_le _) (Nat.zero_le _) dX4_isLetterOfCommand_113
                                        · skip
                                          by_cases c_1_117 : x = 117
                                          · skip
                                            refine lv_tableIn (off := 113) (tgt := 114) hx hb dX4_isLetterOfCommand_1 (by rw [c_1_117]; decide) (by rw [c_1_117]; decide) (by rw [c_1_117]; rfl) (by decide) ?_
                                            refine lv_iconst (v := 0) hx hb dX4_isLetterOfCommand_114 (by decide) ?_
                                            exact r_retz M rfl hW rfl ⟨by rw [rX4_isLetterOfCommand, if_neg c_1_97, if_neg c_1_98, if_neg c_1_99, if_neg c_1_100, if_neg c_1_101, if_neg c_1_102, if_neg c_1_103, if_neg c_1_104, if_neg c_1_105, if_neg c_1_106, if_neg c_1_107, if_neg c_1_108, if_neg c_1_109, if_neg c_1_110, if_neg c_1_111, if_neg c_1_112, if_neg c_1_113, if_neg c_1_114, if_neg c_1_115, if_neg c_1_116, if_pos c_1_117], rfl⟩ (Nat.zero_le _) (Nat.zero_le _) dX4_isLetterOfCommand_115
                                          · skip
                                            by_cases c_1_118 : x = 118
                                            · skip
                                              refine lv_tableIn (off := 113) (tgt := 114) hx hb dX4_isLetterOfCommand_1 (by rw [c_1_118]; decide) (by rw [c_1_118]; decide) (by rw [c_1_118]; rfl) (by decide) ?_
                                              refine lv_iconst (v := 0) hx hb dX4_isLetterOfCommand_114 (by decide) ?_
                                              exact r_retz M rfl hW rfl ⟨by rw [rX4_isLetterOfCommand, if_neg c_1_97, if_neg c_1_98, if_neg c_1_99, if_neg c_1_100, if_neg c_1_101, if_neg c_1_102, if_neg c_1_103, if_neg c_1_104, if_neg c_1_105, if_neg c_1_106, if_neg c_1_107, if_neg c_1_108, if_neg c_1_109, if_neg c_1_110, if_neg c_1_111, if_neg c_1_112, if_neg c_1_113, if_neg c_1_114, if_neg c_1_115, if_neg c_1_116, if_neg c_1_117, if_pos c_1_118], rfl⟩ (Nat.zero_le _) (Nat.zero_le _) dX4_isLetterOfCommand_115
                                            · skip
                                              by_cases c_1_119 : x = 119
                                              · skip
                                                refine lv_tableIn (off := 111) (tgt := 112) hx hb dX4_isLetterOfCommand_1 (by rw [c_1_119]; decide) (by rw [c_1_119]; decide) (by rw [c_1_119]; rfl) (by decide) ?_
                                                refine lv_iconst (v := 1) hx hb dX4_isLetterOfCommand_112 (by decide) ?_
                                                exact r_retz M rfl hW rfl ⟨by rw [rX4_isLetterOfCommand, if_neg c_1_97, if_neg c_1_98, if_neg c_1_99, if_neg c_1_100, if_neg c_1_101, if_neg c_1_102, if_neg c_1_103, if_neg c_1_104, if_neg c_1_105, if_neg c_1_106, if_neg c_1_107, if_neg c_1_108, if_neg c_1_109, if_neg c_1_110, if_neg c_1_111, if_neg c_1_112, if_neg c_1_113, if_neg c_1_114, if_neg c_1_115, if_neg c_1_116, if_neg c_1_117, if_neg c_1_118, if_pos c_1_119], rfl⟩ (Nat.zero_le _) (Nat.zero_le _) dX4_isLetterOfCommand_113
                                              · skip
                                                by_cases c_1_120 : x = 120
                                                · skip
                                                  refine lv_tableIn (off := 111) (tgt := 112) hx hb dX4_isLetterOfCommand_1 (by rw [c_1_120]; decide) (by rw [c_1_120]; decide) (by rw [c_1_120]; rfl) (by decide) ?_
                                                  refine lv_iconst (v := 1) hx hb dX4_isLetterOfCommand_112 (by decide) ?_
                                                  exact r_retz M rfl hW rfl ⟨by rw [rX4_isLetterOfCommand, if_neg c_1_97, if_neg c_1_98, if_neg c_1_99, if_neg c_1_100, if_neg c_1_101, if_neg c_1_102, if_neg c_1_103, if_neg c_1_104, if_neg c_1_105, if_neg c_1_106, if_neg c_1_107, if_neg c_1_108, if_neg c_1_109, if_neg c_1_110, if_neg c_1_111, if_neg c_1_112, if_neg c_1_113, if_neg c_1_114, if_neg c_1_115, if_neg c_1_116, if_neg c_1_117, if_neg c_1_118, if_neg c_1_119, if_pos c_1_120], rfl⟩ (Nat.zero_le _) (Nat.zero_le _) dX4_isLetterOfCommand_113
                                                · skip
                                                  refine lv_tableOut (tgt := 114) hx hb dX4_isLetterOfCommand_1 (tbl_out (97) (120) (fun k h1 h2 => ?_)) (by decide) ?_
                                                  · have h3 : k = 97 ∨ k = 98 ∨ k = 99 ∨ k = 100 ∨ k = 101 ∨ k = 102 ∨ k = 103 ∨ k = 104 ∨ k = 105 ∨ k = 106 ∨ k = 107 ∨ k = 108 ∨ k = 109 ∨ k = 110 ∨ k = 111 ∨ k = 112 ∨ k = 113 ∨ k = 114 ∨ k = 115 ∨ k = 116 ∨ k = 117 ∨ k = 118 ∨ k = 119 ∨ k = 120 := by omega
                                                    rcases h3 with rfl | rfl | rfl | rfl | rfl | rfl | rfl | rfl | rfl | rfl | rfl | rfl | rfl | rfl | rfl | rfl | rfl | rfl | rfl | rfl | rfl | rfl | rfl | rfl
                                                    · exact c_1_97
                                                    · exact c_1_98
                                                    · exact c_1_99
                                                    · exact c_1_100
                                                    · exact c_1_101
                                                    · exact c_1_102
                                                    · exact c_1_103
                                                    · exact c_1_104
                                                    · exact c_1_105
                                                    · exact c_1_106
                                                    · exact c_1_107
                                                    · exact c_1_108
                                                    · exact c_1_109
                                                    · exact c_1_110
                                                    · exact c_1_111
                                                    · exact c_1_112
                                                    · exact c_1_113
                                                    · exact c_1_114
                                                    · exact c_1_115
                                                    · exact c_1_116
                                                    · exact c_1_117
                                                    · exact c_1_118
                                                    · exact c_1_119
                                                    · exact c_1_120
                                                  refine lv_iconst (v := 0) hx hb dX4_isLetterOfCommand_114 (by decide) ?_
                                                  exact r_retz M rfl hW rfl ⟨by rw [rX4_isLetterOfCommand, if_neg c_1_97, if_neg c_1_98, if_neg c_1_99, if_neg c_1_100, if_neg c_1_101, if_neg c_1_102, if_neg c_1_103, if_neg c_1_104, if_neg c_1_105, if_neg c_1_106, if_neg c_1_107, if_neg c_1_108, if_neg c_1_109, if_neg c_1_110, if_neg c_1_111, if_neg c_1_112, if_neg c_1_113, if_neg c_1_114, if_neg c_1_115, if_neg c_1_116, if_neg c_1_117, if_neg c_1_118, if_neg c_1_119, if_neg c_1_120], rfl⟩ (Nat.zero_le _) (Nat.zero_le _) dX4_isLetterOfCommand_115
