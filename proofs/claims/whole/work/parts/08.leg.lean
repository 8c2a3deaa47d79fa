theorem up2_ne {g : Nat → Nat → Int32} {c i a : Nat} {v : Int32} (h : a ≠ c) : up2 g c i v a = g a := if_neg h
theorem up2_d {g : Nat → Nat → Int32} {c i a j : Nat} {v : Int32} (h : a ≠ c) : up2 g c i v a j = g a j := congrFun (if_neg h) j
theorem up2_k {g : Nat → Nat → Int32} {c i j : Nat} {v : Int32} (h : j ≠ i) : up2 g c i v c j = g c j := (congrFun (if_pos rfl : up2 g c i v c = upd (g c) i v) j).trans (if_neg h)
theorem up2_s {g : Nat → Nat → Int32} {c i : Nat} {v : Int32} : up2 g c i v c i = v := (congrFun (if_pos rfl : up2 g c i v c = upd (g c) i v) i).trans (if_pos rfl)
theorem cp2_d {g : Nat → Nat → Int32} {c a j : Nat} {f : Nat → Int32} (h : a ≠ c) : cp2 g c f a j = g a j := congrFun (if_neg h) j
theorem cp2_s {g : Nat → Nat → Int32} {c j : Nat} {f : Nat → Int32} : cp2 g c f c j = f j := congrFun (if_pos rfl) j
theorem up2_eq {g : Nat → Nat → Int32} {c i : Nat} {v : Int32} : up2 g c i v c = upd (g c) i v := if_pos rfl
/-- the place of the bucket that is in the boot -/
def jB (g : Nat → Nat → Int32) : Nat := (g 2 1).toNatClampNeg
def LegOK (g : Nat → Nat → Int32) : Prop := ∃ j : Nat, j < 12 ∧ g 2 1 = nI j
theorem LegOK.eq {g : Nat → Nat → Int32} (h : LegOK g) : g 2 1 = nI (jB g) ∧ jB g < 12 := by
  obtain ⟨j, h1, h2⟩ := h
  have e : jB g = j := by rw [jB, h2]; exact nI_clamp (by omega)
  rw [e]
  exact ⟨h2, h1⟩
theorem LegOK.ix {g : Nat → Nat → Int32} (h : LegOK g) (k : Nat) (hk : k < 1000) : (g 2 1 + nI k) - (g 2 1 + nI k) / 12 * 12 = nI ((jB g + k) % 12) := by
  have h2 := h.eq
  rw [h2.1, nI_add]
  exact pk_rem (d := 12) (by omega) (by decide) (by decide)
theorem LegOK.ixm {g : Nat → Nat → Int32} (h : LegOK g) : ((g 2 1 + 12) - 1) - ((g 2 1 + 12) - 1) / 12 * 12 = nI ((jB g + 11) % 12) := by
  have e : (g 2 1 + 12) - 1 = g 2 1 + nI 11 := by rw [h.eq.1, show (12 : Int32) = nI 12 from rfl, nI_add, nI_add]; exact nI_pred (jB g + 11)
  rw [e]
  exact h.ix 11 (by decide)
theorem LegOK.ixx {g : Nat → Nat → Int32} (h : LegOK g) {y : Int32} {k : Nat} (hy : y = nI k) (hk : k < 1000) : (g 2 1 + y) - (g 2 1 + y) / 12 * 12 = nI ((jB g + k) % 12) := by
  rw [hy]
  exact h.ix k hk

def rX6_isWithin (x : Int32) (lo : Int32) (hi : Int32) : Int32 := if x < lo then 0 else if hi < x then 0 else 1
set_option maxHeartbeats 4000000 in
set_option maxRecDepth 100000 in
/-- X6.isWithin -/
theorem c_X6_isWithin (l : Launch) (G : Gp) (x : Int32) (lo : Int32) (hi : Int32) (Y : va_W) : Cn l G yX6_isWithin cX6_isWithin 3 (some .boolean) 0 [.int x, .int lo, .int hi] (Y) (some (.int (rX6_isWithin x lo hi))) (Y) := by
  refine CnE.of (by decide) (Nat.le_of_ble_eq_true rfl) ?_
  intro p e s m below meth c ls M hnm hl hW
  have hx := M.1
  have hb := M.2.1
  have hl : lv_has ls 3 [(0, .int x), (1, .int lo), (2, .int hi)] := hl
  refine lv_iload_n hx hb dX6_isWithin_0 rfl (lv_at hl 0 rfl) ?_
  refine lv_iload_n hx hb dX6_isWithin_1 rfl (lv_at hl 1 rfl) ?_
  refine lv_icmp_lt (tgt := 14) hx hb dX6_isWithin_2 (by decide) (fun c_2 => ?_) (fun c_2 => ?_)
  · skip
    refine lv_iconst (v := 0) hx hb dX6_isWithin_14 (by decide) ?_
    exact r_retz M rfl hW rfl ⟨by rw [rX6_isWithin, if_pos c_2], rfl⟩ (Nat.zero_le _) (Nat.zero_le _) dX6_isWithin_15
  · skip
    refine lv_iload_n hx hb dX6_isWithin_5 rfl (lv_at hl 0 rfl) ?_
    refine lv_iload_n hx hb dX6_isWithin_6 rfl (lv_at hl 2 rfl) ?_
    refine lv_icmp_gt (tgt := 14) hx hb dX6_isWithin_7 (by decide) (fun c_7 => ?_) (fun c_7 => ?_)
    · skip
      refine lv_iconst (v := 0) hx hb dX6_isWithin_14 (by decide) ?_
      exact r_retz M rfl hW rfl ⟨by rw [rX6_isWithin, if_neg c_2, if_pos c_7], rfl⟩ (Nat.zero_le _) (Nat.zero_le _) dX6_isWithin_15
    · skip
      refine lv_iconst (v := 1) hx hb dX6_isWithin_10 (by decide) ?_
      refine lv_goto (tgt := 15) hx hb dX6_isWithin_11 (by decide) ?_
      exact r_retz M rfl hW rfl ⟨by rw [rX6_isWithin, if_neg c_2, if_neg c_7], rfl⟩ (Nat.zero_le _) (Nat.zero_le _) dX6_isWithin_15

theorem iw_0 {x lo hi : Int32} (h : rX6_isWithin x lo hi = 0) : x < lo ∨ hi < x := by
  unfold rX6_isWithin at h
  by_cases h1 : x < lo
  · exact Or.inl h1
  · by_cases h2 : hi < x
    · exact Or.inr h2
    · rw [if_neg h1, if_neg h2] at h; exact absurd h (by decide)
theorem iw_1 {x lo hi : Int32} (h : ¬ rX6_isWithin x lo hi = 0) : ¬ x < lo ∧ ¬ hi < x := by
  unfold rX6_isWithin at h
  by_cases h1 : x < lo
  · rw [if_pos h1] at h; exact absurd rfl h
  · by_cases h2 : hi < x
    · rw [if_neg h1, if_pos h2] at h; exact absurd rfl h
    · exact ⟨h1, h2⟩
/-- inside 0 .. n: it is its natural -/
theorem iw_c {x hi : Int32} {n : Nat} (hn : hi = nI n) (hb : n < 1000000) (h : ¬ rX6_isWithin x 0 hi = 0) : x = nI x.toNatClampNeg ∧ x.toNatClampNeg ≤ n := by
  obtain ⟨h1, h2⟩ := iw_1 h
  obtain ⟨k, hk, e⟩ := nI_of2 (by rw [hn]; exact nI_toInt (by omega)) h1 (Int32.not_lt.mp h2)
  have e2 : x.toNatClampNeg = k := by rw [e]; exact nI_clamp (by omega)
  rw [e2]
  exact ⟨e, hk⟩
/-- inside 0 .. n: a natural -/
theorem iw_n {x hi : Int32} {n : Nat} (hn : hi = nI n) (hb : n < 1000000) (h : ¬ rX6_isWithin x 0 hi = 0) : ∃ k : Nat, k ≤ n ∧ x = nI k := by
  obtain ⟨h1, h2⟩ := iw_1 h
  exact nI_of2 (by rw [hn]; exact nI_toInt (by omega)) h1 (Int32.not_lt.mp h2)

def sX1_pourIntoBoot (g : Nat → Nat → Int32) (x : Int32) : Nat → Nat → Int32 := up2 (up2 g 4 0 ((g 4 0) + (imin x (300 - (g 4 0))))) 4 2 ((g 4 2) + (x - (imin x (300 - (g 4 0)))))
set_option maxHeartbeats 4000000 in
set_option maxRecDepth 100000 in
/-- X1.pourIntoBoot -/
theorem c_X1_pourIntoBoot (l : Launch) (G : Gp) (a : Nat → Nat) (g : Nat → Nat → Int32) (x : Int32) (Y : va_W) : Cn l G yX1_pourIntoBoot cX1_pourIntoBoot 3 none 1 [.ref (a 4), .int x] (LegW G a g ++ Y) none (LegW G a (sX1_pourIntoBoot g x) ++ Y) := by
  refine CnE.of (by decide) (Nat.le_of_ble_eq_true rfl) ?_
  intro p e s m below meth c ls M hnm hl hW
  have hx := M.1
  have hb := M.2.1
  have hl : lv_has ls 3 [(0, .ref (a 4)), (1, .int x)] := hl
  refine lv_iload_n hx hb dX1_pourIntoBoot_0 rfl (lv_at hl 1 rfl) ?_
  refine lv_sipush (v := 300) hx hb dX1_pourIntoBoot_1 (by decide) ?_
  refine lv_aload_n hx hb dX1_pourIntoBoot_4 rfl (lv_at hl 0 rfl) ?_
  refine gt_Leg_4_0 M hW kw_31 (x := g 4 0) rfl dX1_pourIntoBoot_5 ?_
  refine lv_isub hx hb dX1_pourIntoBoot_8 ?_
  refine r_min M kw_38 kw_24 kw_21 kw_25 hl.1 (by decide) (Nat.le_of_ble_eq_true rfl) ⟨Nat.zero_le _, Nat.zero_le _⟩ dX1_pourIntoBoot_9 ?_
  refine lv_istore_n (lv' := [(2, .int (imin x (300 - (g 4 0)))), (0, .ref (a 4)), (1, .int x)]) hx hb dX1_pourIntoBoot_12 rfl hl (by decide) rfl (fun ls hl => ?_)
  refine lv_aload_n hx hb dX1_pourIntoBoot_13 rfl (lv_at hl 1 rfl) ?_
  refine lv_dup hx hb dX1_pourIntoBoot_14 rfl ?_
  refine gt_Leg_4_0 M hW kw_31 (x := g 4 0) rfl dX1_pourIntoBoot_15 ?_
  refine lv_iload_n hx hb dX1_pourIntoBoot_18 rfl (lv_at hl 0 rfl) ?_
  refine lv_iadd hx hb dX1_pourIntoBoot_19 ?_
  refine pt_Leg_4_0 M hW kw_31 dX1_pourIntoBoot_20 (fun H locs hW => ?_)
  refine lv_aload_n hx hb dX1_pourIntoBoot_23 rfl (lv_at hl 1 rfl) ?_
  refine lv_dup hx hb dX1_pourIntoBoot_24 rfl ?_
  refine gt_Leg_4_2 M hW kw_33 (x := g 4 2) (up2_k (by decide)) dX1_pourIntoBoot_25 ?_
  refine lv_iload_n hx hb dX1_pourIntoBoot_28 rfl (lv_at hl 2 rfl) ?_
  refine lv_iload_n hx hb dX1_pourIntoBoot_29 rfl (lv_at hl 0 rfl) ?_
  refine lv_isub hx hb dX1_pourIntoBoot_30 ?_
  refine lv_iadd hx hb dX1_pourIntoBoot_31 ?_
  refine pt_Leg_4_2 M hW kw_33 dX1_pourIntoBoot_32 (fun H locs hW => ?_)
  exact r_retv M hW (by rw [sX1_pourIntoBoot]) ⟨rfl, rfl⟩ (Nat.zero_le _) (Nat.zero_le _) dX1_pourIntoBoot_35

def sX1_feedIn (g : Nat → Nat → Int32) (x : Int32) : Nat → Nat → Int32 := sX1_pourIntoBoot (up2 g 4 3 ((g 4 3) + x)) x
set_option maxHeartbeats 4000000 in
set_option maxRecDepth 100000 in
/-- X1.feedIn -/
theorem c_X1_feedIn (l : Launch) (G : Gp) (a : Nat → Nat) (g : Nat → Nat → Int32) (x : Int32) (Y : va_W) : Cn l G yX1_feedIn cX1_feedIn 2 none 2 [.ref (a 4), .int x] (LegW G a g ++ Y) none (LegW G a (sX1_feedIn g x) ++ Y) := by
  refine CnE.of (by decide) (Nat.le_of_ble_eq_true rfl) ?_
  intro p e s m below meth c ls M hnm hl hW
  have hx := M.1
  have hb := M.2.1
  have hl : lv_has ls 2 [(0, .ref (a 4)), (1, .int x)] := hl
  refine lv_aload_n hx hb dX1_feedIn_0 rfl (lv_at hl 0 rfl) ?_
  refine lv_dup hx hb dX1_feedIn_1 rfl ?_
  refine gt_Leg_4_3 M hW kw_34 (x := g 4 3) rfl dX1_feedIn_2 ?_
  refine lv_iload_n hx hb dX1_feedIn_5 rfl (lv_at hl 1 rfl) ?_
  refine lv_iadd hx hb dX1_feedIn_6 ?_
  refine pt_Leg_4_3 M hW kw_34 dX1_feedIn_7 (fun H locs hW => ?_)
  refine lv_aload_n hx hb dX1_feedIn_10 rfl (lv_at hl 0 rfl) ?_
  refine lv_iload_n hx hb dX1_feedIn_11 rfl (lv_at hl 1 rfl) ?_
  refine r_callVv M hW (c_X1_pourIntoBoot l G a (up2 g 4 3 ((g 4 3) + x)) x (Y)) rfl kw_40 kw_41 kw_42 kw_43 kw_37 pl_X1_pourIntoBoot 4 rfl rfl ⟨by decide, by decide⟩ ⟨Nat.zero_le _, Nat.zero_le _⟩ hl.1 rfl (Nat.le_of_ble_eq_true rfl) dX1_feedIn_12 (fun H locs hW => ?_)
  exact r_retv M hW (by rw [sX1_feedIn]) ⟨rfl, rfl⟩ (Nat.zero_le _) (Nat.zero_le _) dX1_feedIn_15

def sX1_fallBack (g : Nat → Nat → Int32) (x : Int32) : Nat → Nat → Int32 := sX1_pourIntoBoot (up2 g 4 5 ((g 4 5) + x)) x
set_option maxHeartbeats 4000000 in
set_option maxRecDepth 100000 in
/-- X1.fallBack -/
theorem c_X1_fallBack (l : Launch) (G : Gp) (a : Nat → Nat) (g : Nat → Nat → Int32) (x : Int32) (Y : va_W) : Cn l G yX1_fallBack cX1_fallBack 2 none 2 [.ref (a 4), .int x] (LegW G a g ++ Y) none (LegW G a (sX1_fallBack g x) ++ Y) := by
  refine CnE.of (by decide) (Nat.le_of_ble_eq_true rfl) ?_
  intro p e s m below meth c ls M hnm hl hW
  have hx := M.1
  have hb := M.2.1
  have hl : lv_has ls 2 [(0, .ref (a 4)), (1, .int x)] := hl
  refine lv_aload_n hx hb dX1_fallBack_0 rfl (lv_at hl 0 rfl) ?_
  refine lv_dup hx hb dX1_fallBack_1 rfl ?_
  refine gt_Leg_4_5 M hW kw_36 (x := g 4 5) rfl dX1_fallBack_2 ?_
  refine lv_iload_n hx hb dX1_fallBack_5 rfl (lv_at hl 1 rfl) ?_
  refine lv_iadd hx hb dX1_fallBack_6 ?_
  refine pt_Leg_4_5 M hW kw_36 dX1_fallBack_7 (fun H locs hW => ?_)
  refine lv_aload_n hx hb dX1_fallBack_10 rfl (lv_at hl 0 rfl) ?_
  refine lv_iload_n hx hb dX1_fallBack_11 rfl (lv_at hl 1 rfl) ?_
  refine r_callVv M hW (c_X1_pourIntoBoot l G a (up2 g 4 5 ((g 4 5) + x)) x (Y)) rfl kw_40 kw_41 kw_42 kw_43 kw_37 pl_X1_pourIntoBoot 4 rfl rfl ⟨by decide, by decide⟩ ⟨Nat.zero_le _, Nat.zero_le _⟩ hl.1 rfl (Nat.le_of_ble_eq_true rfl) dX1_fallBack_12 (fun H locs hW => ?_)
  exact r_retv M hW (by rw [sX1_fallBack]) ⟨rfl, rfl⟩ (Nat.zero_le _) (Nat.zero_le _) dX1_fallBack_15

def sX1_become (g : Nat → Nat → Int32) (g2 : Nat → Nat → Int32) : Nat → Nat → Int32 := up2 (up2 (up2 (up2 (up2 (up2 g 4 0 (g2 4 0)) 4 1 (g2 4 1)) 4 2 (g2 4 2)) 4 3 (g2 4 3)) 4 4 (g2 4 4)) 4 5 (g2 4 5)
set_option maxHeartbeats 4000000 in
set_option maxRecDepth 100000 in
/-- X1.become -/
theorem c_X1_become (l : Launch) (G : Gp) (a : Nat → Nat) (a2 : Nat → Nat) (g : Nat → Nat → Int32) (g2 : Nat → Nat → Int32) (Y : va_W) : Cn l G yX1_become cX1_become 2 none 0 [.ref (a 4), .ref (a2 4)] (LegW G a g ++ (LegW G a2 g2 ++ Y)) none (LegW G a (sX1_become g g2) ++ (LegW G a2 g2 ++ Y)) := by
  refine CnE.of (by decide) (Nat.le_of_ble_eq_true rfl) ?_
  intro p e s m below meth c ls M hnm hl hW
  have hx := M.1
  have hb := M.2.1
  have hl : lv_has ls 2 [(0, .ref (a 4)), (1, .ref (a2 4))] := hl
  refine lv_aload_n hx hb dX1_become_0 rfl (lv_at hl 0 rfl) ?_
  refine lv_aload_n hx hb dX1_become_1 rfl (lv_at hl 1 rfl) ?_
  refine gt_Leg_4_0 M hW.drop kw_31 (x := g2 4 0) rfl dX1_become_2 ?_
  refine pt_Leg_4_0 M hW kw_31 dX1_become_5 (fun H locs hW => ?_)
  refine lv_aload_n hx hb dX1_become_8 rfl (lv_at hl 0 rfl) ?_
  refine lv_aload_n hx hb dX1_become_9 rfl (lv_at hl 1 rfl) ?_
  refine gt_Leg_4_1 M hW.drop kw_32 (x := g2 4 1) rfl dX1_become_10 ?_
  refine pt_Leg_4_1 M hW kw_32 dX1_become_13 (fun H locs hW => ?_)
  refine lv_aload_n hx hb dX1_become_16 rfl (lv_at hl 0 rfl) ?_
  refine lv_aload_n hx hb dX1_become_17 rfl (lv_at hl 1 rfl) ?_
  refine gt_Leg_4_2 M hW.drop kw_33 (x := g2 4 2) rfl dX1_become_18 ?_
  refine pt_Leg_4_2 M hW kw_33 dX1_become_21 (fun H locs hW => ?_)
  refine lv_aload_n hx hb dX1_become_24 rfl (lv_at hl 0 rfl) ?_
  refine lv_aload_n hx hb dX1_become_25 rfl (lv_at hl 1 rfl) ?_
  refine gt_Leg_4_3 M hW.drop kw_34 (x := g2 4 3) rfl dX1_become_26 ?_
  refine pt_Leg_4_3 M hW kw_34 dX1_become_29 (fun H locs hW => ?_)
  refine lv_aload_n hx hb dX1_become_32 rfl (lv_at hl 0 rfl) ?_
  refine lv_aload_n hx hb dX1_become_33 rfl (lv_at hl 1 rfl) ?_
  refine gt_Leg_4_4 M hW.drop kw_35 (x := g2 4 4) rfl dX1_become_34 ?_
  refine pt_Leg_4_4 M hW kw_35 dX1_become_37 (fun H locs hW => ?_)
  refine lv_aload_n hx hb dX1_become_40 rfl (lv_at hl 0 rfl) ?_
  refine lv_aload_n hx hb dX1_become_41 rfl (lv_at hl 1 rfl) ?_
  refine gt_Leg_4_5 M hW.drop kw_36 (x := g2 4 5) rfl dX1_become_42 ?_
  refine pt_Leg_4_5 M hW kw_36 dX1_become_45 (fun H locs hW => ?_)
  exact r_retv M hW (by rw [sX1_become]) ⟨rfl, rfl⟩ (Nat.zero_le _) (Nat.zero_le _) dX1_become_48

def sX0_become (g : Nat → Nat → Int32) (g2 : Nat → Nat → Int32) : Nat → Nat → Int32 := up2 (cp2 g 3 (g2 3)) 2 1 (g2 2 1)
set_option maxHeartbeats 4000000 in
set_option maxRecDepth 100000 in
/-- X0.become -/
theorem c_X0_become (l : Launch) (G : Gp) (a : Nat → Nat) (a2 : Nat → Nat) (g : Nat → Nat → Int32) (g2 : Nat → Nat → Int32) (Y : va_W) : Cn l G yX0_become cX0_become 2 none 2 [.ref (a 2), .ref (a2 2)] (LegW G a g ++ (LegW G a2 g2 ++ Y)) none (LegW G a (sX0_become g g2) ++ (LegW G a2 g2 ++ Y)) := by
  refine CnE.of (by decide) (Nat.le_of_ble_eq_true rfl) ?_
  intro p e s m below meth c ls M hnm hl hW
  have hx := M.1
  have hb := M.2.1
  have hl : lv_has ls 2 [(0, .ref (a 2)), (1, .ref (a2 2))] := hl
  refine lv_aload_n hx hb dX0_become_0 rfl (lv_at hl 1 rfl) ?_
  refine gt_Leg_2_0 M hW.drop kw_5 dX0_become_1 ?_
  refine lv_iconst (v := 0) hx hb dX0_become_4 (by decide) ?_
  refine lv_aload_n hx hb dX0_become_5 rfl (lv_at hl 0 rfl) ?_
  refine gt_Leg_2_0 M hW kw_5 dX0_become_6 ?_
  refine lv_iconst (v := 0) hx hb dX0_become_9 (by decide) ?_
  refine lv_bipush (v := 12) hx hb dX0_become_10 (by decide) ?_
  refine cpy_Leg_3 M hW kw_7 hl.1 (by decide) (Nat.le_of_ble_eq_true rfl) dX0_become_12 (fun H locs hW => ?_)
  refine lv_aload_n hx hb dX0_become_15 rfl (lv_at hl 0 rfl) ?_
  refine lv_aload_n hx hb dX0_become_16 rfl (lv_at hl 1 rfl) ?_
  refine gt_Leg_2_1 M hW.drop kw_11 (x := g2 2 1) rfl dX0_become_17 ?_
  refine pt_Leg_2_1 M hW kw_11 dX0_become_20 (fun H locs hW => ?_)
  exact r_retv M hW (by rw [sX0_become]) ⟨rfl, rfl⟩ (Nat.zero_le _) (Nat.zero_le _) dX0_become_23

def rX0_at (g : Nat → Nat → Int32) (x : Int32) : Int32 := if (rX6_isWithin x 0 11) = 0 then (-101) else g 3 ((jB g + x.toNatClampNeg) % 12)
set_option maxHeartbeats 4000000 in
set_option maxRecDepth 100000 in
/-- X0.at -/
theorem c_X0_at (l : Launch) (G : Gp) (a : Nat → Nat) (g : Nat → Nat → Int32) (x : Int32) (Y : va_W) (hOK : LegOK g) : Cn l G yX0_at cX0_at 2 (some .int) 1 [.ref (a 2), .int x] (LegW G a g ++ Y) (some (.int (rX0_at g x))) (LegW G a g ++ Y) := by
  refine CnE.of (by decide) (Nat.le_of_ble_eq_true rfl) ?_
  intro p e s m below meth c ls M hnm hl hW
  have hx := M.1
  have hb := M.2.1
  have hl : lv_has ls 2 [(0, .ref (a 2)), (1, .int x)] := hl
  refine lv_iload_n hx hb dX0_at_0 rfl (lv_at hl 1 rfl) ?_
  refine lv_iconst (v := 0) hx hb dX0_at_1 (by decide) ?_
  refine lv_bipush (v := 11) hx hb dX0_at_2 (by decide) ?_
  refine r_callSNi M hW (as := [.int x, .int 0, .int 11]) (c_X6_isWithin l G x 0 11 (LegW G a g ++ Y)) rfl kn_X0_25 kw_14 kw_15 kw_12 pl_X6_isWithin ⟨by decide, by decide⟩ ⟨Nat.zero_le _, Nat.zero_le _⟩ hl.1 rfl (Nat.le_of_ble_eq_true rfl) dX0_at_4 (fun H locs hW => ?_)
  refine lv_if_eq (tgt := 27) hx hb dX0_at_7 (by decide) (fun c_7 => ?_) (fun c_7 => ?_)
  · skip
    refine lv_bipush (v := (-101)) hx hb dX0_at_27 (by decide) ?_
    exact r_reti M hW rfl ⟨by rw [rX0_at, if_pos c_7], rfl⟩ (Nat.zero_le _) (Nat.zero_le _) dX0_at_29
  · skip
    have hk := iw_c (n := 11) rfl (by decide) c_7
    refine lv_aload_n hx hb dX0_at_10 rfl (lv_at hl 0 rfl) ?_
    refine gt_Leg_2_0 M hW kw_5 dX0_at_11 ?_
    refine lv_aload_n hx hb dX0_at_14 rfl (lv_at hl 0 rfl) ?_
    refine gt_Leg_2_1 M hW kw_11 (x := g 2 1) rfl dX0_at_15 ?_
    refine lv_iload_n hx hb dX0_at_18 rfl (lv_at hl 1 rfl) ?_
    refine lv_iadd hx hb dX0_at_19 ?_
    refine lv_bipush (v := 12) hx hb dX0_at_20 (by decide) ?_
    refine lv_irem hx hb dX0_at_22 (by decide) ?_
    refine r_top (y := nI ((jB g + x.toNatClampNeg) % 12)) (hOK.ixx hk.1 (by omega)) ?_
    refine al_Leg_3 M hW ((jB g + x.toNatClampNeg) % 12) rfl (Nat.mod_lt _ (by decide)) (x := g 3 ((jB g + x.toNatClampNeg) % 12)) rfl dX0_at_23 ?_
    refine lv_goto (tgt := 29) hx hb dX0_at_24 (by decide) ?_
    exact r_reti M hW rfl ⟨by rw [rX0_at, if_neg c_7], rfl⟩ (Nat.zero_le _) (Nat.zero_le _) dX0_at_29

def sX0_moveOn (g : Nat → Nat → Int32) : Nat → Nat → Int32 := up2 g 2 1 (nI ((jB g + 11) % 12))
set_option maxHeartbeats 4000000 in
set_option maxRecDepth 100000 in
/-- X0.moveOn -/
theorem c_X0_moveOn (l : Launch) (G : Gp) (a : Nat → Nat) (g : Nat → Nat → Int32) (Y : va_W) (hOK : LegOK g) : Cn l G yX0_moveOn cX0_moveOn 1 none 0 [.ref (a 2)] (LegW G a g ++ Y) none (LegW G a (sX0_moveOn g) ++ Y) := by
  refine CnE.of (by decide) (Nat.le_of_ble_eq_true rfl) ?_
  intro p e s m below meth c ls M hnm hl hW
  have hx := M.1
  have hb := M.2.1
  have hl : lv_has ls 1 [(0, .ref (a 2))] := hl
  refine lv_aload_n hx hb dX0_moveOn_0 rfl (lv_at hl 0 rfl) ?_
  refine lv_aload_n hx hb dX0_moveOn_1 rfl (lv_at hl 0 rfl) ?_
  refine gt_Leg_2_1 M hW kw_11 (x := g 2 1) rfl dX0_moveOn_2 ?_
  refine lv_bipush (v := 12) hx hb dX0_moveOn_5 (by decide) ?_
  refine lv_iadd hx hb dX0_moveOn_7 ?_
  refine lv_iconst (v := 1) hx hb dX0_moveOn_8 (by decide) ?_
  refine lv_isub hx hb dX0_moveOn_9 ?_
  refine lv_bipush (v := 12) hx hb dX0_moveOn_10 (by decide) ?_
  refine lv_irem hx hb dX0_moveOn_12 (by decide) ?_
  refine r_top (y := nI ((jB g + 11) % 12)) (hOK.ixm) ?_
  refine pt_Leg_2_1 M hW kw_11 dX0_moveOn_13 (fun H locs hW => ?_)
  exact r_retv M hW (by rw [sX0_moveOn]) ⟨rfl, rfl⟩ (Nat.zero_le _) (Nat.zero_le _) dX0_moveOn_16

def rX0_emptyAtHead (g : Nat → Nat → Int32) : Int32 := g 3 ((jB g + 6) % 12)
def sX0_emptyAtHead (g : Nat → Nat → Int32) : Nat → Nat → Int32 := up2 g 3 ((jB g + 6) % 12) 0
set_option maxHeartbeats 4000000 in
set_option maxRecDepth 100000 in
/-- X0.emptyAtHead -/
theorem c_X0_emptyAtHead (l : Launch) (G : Gp) (a : Nat → Nat) (g : Nat → Nat → Int32) (Y : va_W) (hOK : LegOK g) : Cn l G yX0_emptyAtHead cX0_emptyAtHead 3 (some .int) 0 [.ref (a 2)] (LegW G a g ++ Y) (some (.int (rX0_emptyAtHead g))) (LegW G a (sX0_emptyAtHead g) ++ Y) := by
  refine CnE.of (by decide) (Nat.le_of_ble_eq_true rfl) ?_
  intro p e s m below meth c ls M hnm hl hW
  have hx := M.1
  have hb := M.2.1
  have hl : lv_has ls 3 [(0, .ref (a 2))] := hl
  refine lv_aload_n hx hb dX0_emptyAtHead_0 rfl (lv_at hl 0 rfl) ?_
  refine gt_Leg_2_1 M hW kw_11 (x := g 2 1) rfl dX0_emptyAtHead_1 ?_
  refine lv_bipush (v := 6) hx hb dX0_emptyAtHead_4 (by decide) ?_
  refine lv_iadd hx hb dX0_emptyAtHead_6 ?_
  refine lv_bipush (v := 12) hx hb dX0_emptyAtHead_7 (by decide) ?_
  refine lv_irem hx hb dX0_emptyAtHead_9 (by decide) ?_
  refine r_top (y := nI ((jB g + 6) % 12)) (hOK.ix 6 (by decide)) ?_
  refine lv_istore_n (lv' := [(1, .int (nI ((jB g + 6) % 12))), (0, .ref (a 2))]) hx hb dX0_emptyAtHead_10 rfl hl (by decide) rfl (fun ls hl => ?_)
  refine lv_aload_n hx hb dX0_emptyAtHead_11 rfl (lv_at hl 1 rfl) ?_
  refine gt_Leg_2_0 M hW kw_5 dX0_emptyAtHead_12 ?_
  refine lv_iload_n hx hb dX0_emptyAtHead_15 rfl (lv_at hl 0 rfl) ?_
  refine al_Leg_3 M hW ((jB g + 6) % 12) rfl (Nat.mod_lt _ (by decide)) (x := g 3 ((jB g + 6) % 12)) rfl dX0_emptyAtHead_16 ?_
  refine lv_istore_n (lv' := [(2, .int (g 3 ((jB g + 6) % 12))), (1, .int (nI ((jB g + 6) % 12))), (0, .ref (a 2))]) hx hb dX0_emptyAtHead_17 rfl hl (by decide) rfl (fun ls hl => ?_)
  refine lv_aload_n hx hb dX0_emptyAtHead_18 rfl (lv_at hl 2 rfl) ?_
  refine gt_Leg_2_0 M hW kw_5 dX0_emptyAtHead_19 ?_
  refine lv_iload_n hx hb dX0_emptyAtHead_22 rfl (lv_at hl 1 rfl) ?_
  refine lv_iconst (v := 0) hx hb dX0_emptyAtHead_23 (by decide) ?_
  refine as_Leg_3 M hW ((jB g + 6) % 12) rfl (Nat.mod_lt _ (by decide)) dX0_emptyAtHead_24 (fun H locs hW => ?_)
  refine lv_iload_n hx hb dX0_emptyAtHead_25 rfl (lv_at hl 0 rfl) ?_
  exact r_reti M hW (by rw [sX0_emptyAtHead]) ⟨by rw [rX0_emptyAtHead], rfl⟩ (Nat.zero_le _) (Nat.zero_le _) dX0_emptyAtHead_26

def rX0_fillInBoot (g : Nat → Nat → Int32) (x : Int32) (y : Int32) : Int32 := imin x (imax 0 (y - (g 3 (jB g))))
def sX0_fillInBoot (g : Nat → Nat → Int32) (x : Int32) (y : Int32) : Nat → Nat → Int32 := up2 g 3 (jB g) ((g 3 (jB g)) + (imin x (imax 0 (y - (g 3 (jB g))))))
set_option maxHeartbeats 4000000 in
set_option maxRecDepth 100000 in
/-- X0.fillInBoot -/
theorem c_X0_fillInBoot (l : Launch) (G : Gp) (a : Nat → Nat) (g : Nat → Nat → Int32) (x : Int32) (y : Int32) (Y : va_W) (hOK : LegOK g) : Cn l G yX0_fillInBoot cX0_fillInBoot 4 (some .int) 1 [.ref (a 2), .int x, .int y] (LegW G a g ++ Y) (some (.int (rX0_fillInBoot g x y))) (LegW G a (sX0_fillInBoot g x y) ++ Y) := by
  refine CnE.of (by decide) (Nat.le_of_ble_eq_true rfl) ?_
  intro p e s m below meth c ls M hnm hl hW
  have hx := M.1
  have hb := M.2.1
  have hl : lv_has ls 4 [(0, .ref (a 2)), (1, .int x), (2, .int y)] := hl
  refine lv_iload_n hx hb dX0_fillInBoot_0 rfl (lv_at hl 1 rfl) ?_
  refine lv_iconst (v := 0) hx hb dX0_fillInBoot_1 (by decide) ?_
  refine lv_iload_n hx hb dX0_fillInBoot_2 rfl (lv_at hl 2 rfl) ?_
  refine lv_aload_n hx hb dX0_fillInBoot_3 rfl (lv_at hl 0 rfl) ?_
  refine gt_Leg_2_0 M hW kw_5 dX0_fillInBoot_4 ?_
  refine lv_aload_n hx hb dX0_fillInBoot_7 rfl (lv_at hl 0 rfl) ?_
  refine gt_Leg_2_1 M hW kw_11 (x := g 2 1) rfl dX0_fillInBoot_8 ?_
  refine al_Leg_3 M hW (jB g) hOK.eq.1 hOK.eq.2 (x := g 3 (jB g)) rfl dX0_fillInBoot_11 ?_
  refine lv_isub hx hb dX0_fillInBoot_12 ?_
  refine r_max M kw_19 kw_20 kw_21 kw_22 hl.1 (by decide) (Nat.le_of_ble_eq_true rfl) ⟨Nat.zero_le _, Nat.zero_le _⟩ dX0_fillInBoot_13 ?_
  refine r_min M kw_23 kw_24 kw_21 kw_25 hl.1 (by decide) (Nat.le_of_ble_eq_true rfl) ⟨Nat.zero_le _, Nat.zero_le _⟩ dX0_fillInBoot_16 ?_
  refine lv_istore_n (lv' := [(3, .int (imin x (imax 0 (y - (g 3 (jB g)))))), (0, .ref (a 2)), (1, .int x), (2, .int y)]) hx hb dX0_fillInBoot_19 rfl hl (by decide) rfl (fun ls hl => ?_)
  refine lv_aload_n hx hb dX0_fillInBoot_20 rfl (lv_at hl 1 rfl) ?_
  refine gt_Leg_2_0 M hW kw_5 dX0_fillInBoot_21 ?_
  refine lv_aload_n hx hb dX0_fillInBoot_24 rfl (lv_at hl 1 rfl) ?_
  refine gt_Leg_2_1 M hW kw_11 (x := g 2 1) rfl dX0_fillInBoot_25 ?_
  refine lv_dup2_11 hx hb dX0_fillInBoot_28 rfl rfl ?_
  refine al_Leg_3 M hW (jB g) hOK.eq.1 hOK.eq.2 (x := g 3 (jB g)) rfl dX0_fillInBoot_29 ?_
  refine lv_iload_n hx hb dX0_fillInBoot_30 rfl (lv_at hl 0 rfl) ?_
  refine lv_iadd hx hb dX0_fillInBoot_31 ?_
  refine as_Leg_3 M hW (jB g) hOK.eq.1 hOK.eq.2 dX0_fillInBoot_32 (fun H locs hW => ?_)
  refine lv_iload_n hx hb dX0_fillInBoot_33 rfl (lv_at hl 0 rfl) ?_
  exact r_reti M hW (by rw [sX0_fillInBoot]) ⟨by rw [rX0_fillInBoot], rfl⟩ (Nat.zero_le _) (Nat.zero_le _) dX0_fillInBoot_34

def rX0_onTheWayUp (g : Nat → Nat → Int32) : Int32 := (((((0 + (g 3 ((jB g + 1) % 12))) + (g 3 ((jB g + 2) % 12))) + (g 3 ((jB g + 3) % 12))) + (g 3 ((jB g + 4) % 12))) + (g 3 ((jB g + 5) % 12))) + (g 3 ((jB g + 6) % 12))
set_option maxHeartbeats 4000000 in
set_option maxRecDepth 100000 in
/-- X0.onTheWayUp -/
theorem c_X0_onTheWayUp (l : Launch) (G : Gp) (a : Nat → Nat) (g : Nat → Nat → Int32) (Y : va_W) (hOK : LegOK g) : Cn l G yX0_onTheWayUp cX0_onTheWayUp 3 (some .int) 0 [.ref (a 2)] (LegW G a g ++ Y) (some (.int (rX0_onTheWayUp g))) (LegW G a g ++ Y) := by
  refine CnE.of (by decide) (Nat.le_of_ble_eq_true rfl) ?_
  intro p e s m below meth c ls M hnm hl hW
  have hx := M.1
  have hb := M.2.1
  have hl : lv_has ls 3 [(0, .ref (a 2))] := hl
  refine lv_iconst (v := 0) hx hb dX0_onTheWayUp_0 (by decide) ?_
  refine lv_istore_n (lv' := [(1, .int 0), (0, .ref (a 2))]) hx hb dX0_onTheWayUp_1 rfl hl (by decide) rfl (fun ls hl => ?_)
  refine lv_iconst (v := 1) hx hb dX0_onTheWayUp_2 (by decide) ?_
  refine lv_istore_n (lv' := [(2, .int 1), (1, .int 0), (0, .ref (a 2))]) hx hb dX0_onTheWayUp_3 rfl hl (by decide) rfl (fun ls hl => ?_)
  refine lv_iload_n hx hb dX0_onTheWayUp_4 rfl (lv_at hl 0 rfl) ?_
  refine lv_bipush (v := 6) hx hb dX0_onTheWayUp_5 (by decide) ?_
  refine lv_icmp_gt (tgt := 33) hx hb dX0_onTheWayUp_7 (by decide) (fun c_7 => ?_) (fun c_7 => ?_)
  · skip
    exact absurd c_7 (by decide)
  · skip
    refine lv_iload_n hx hb dX0_onTheWayUp_10 rfl (lv_at hl 1 rfl) ?_
    refine lv_aload_n hx hb dX0_onTheWayUp_11 rfl (lv_at hl 2 rfl) ?_
    refine gt_Leg_2_0 M hW kw_5 dX0_onTheWayUp_12 ?_
    refine lv_aload_n hx hb dX0_onTheWayUp_15 rfl (lv_at hl 2 rfl) ?_
    refine gt_Leg_2_1 M hW kw_11 (x := g 2 1) rfl dX0_onTheWayUp_16 ?_
    refine lv_iload_n hx hb dX0_onTheWayUp_19 rfl (lv_at hl 0 rfl) ?_
    refine lv_iadd hx hb dX0_onTheWayUp_20 ?_
    refine lv_bipush (v := 12) hx hb dX0_onTheWayUp_21 (by decide) ?_
    refine lv_irem hx hb dX0_onTheWayUp_23 (by decide) ?_
    refine r_top (y := nI ((jB g + 1) % 12)) (hOK.ix 1 (by decide)) ?_
    refine al_Leg_3 M hW ((jB g + 1) % 12) rfl (Nat.mod_lt _ (by decide)) (x := g 3 ((jB g + 1) % 12)) rfl dX0_onTheWayUp_24 ?_
    refine lv_iadd hx hb dX0_onTheWayUp_25 ?_
    refine lv_istore_n (lv' := [(1, .int (0 + (g 3 ((jB g + 1) % 12)))), (2, .int 1), (0, .ref (a 2))]) hx hb dX0_onTheWayUp_26 rfl hl (by decide) rfl (fun ls hl => ?_)
    refine lv_iinc (v := 2) (lv' := [(2, .int 2), (1, .int (0 + (g 3 ((jB g + 1) % 12)))), (0, .ref (a 2))]) hx hb dX0_onTheWayUp_27 hl (k := 1) rfl (by decide) (by decide) rfl (fun ls hl => ?_)
    refine lv_goto (tgt := 4) hx hb dX0_onTheWayUp_30 (by decide) ?_
    refine lv_iload_n hx hb dX0_onTheWayUp_4 rfl (lv_at hl 0 rfl) ?_
    refine lv_bipush (v := 6) hx hb dX0_onTheWayUp_5 (by decide) ?_
    refine lv_icmp_gt (tgt := 33) hx hb dX0_onTheWayUp_7 (by decide) (fun c_7_2 => ?_) (fun c_7_2 => ?_)
    · skip
      exact absurd c_7_2 (by decide)
    · skip
      refine lv_iload_n hx hb dX0_onTheWayUp_10 rfl (lv_at hl 1 rfl) ?_
      refine lv_aload_n hx hb dX0_onTheWayUp_11 rfl (lv_at hl 2 rfl) ?_
      refine gt_Leg_2_0 M hW kw_5 dX0_onTheWayUp_12 ?_
      refine lv_aload_n hx hb dX0_onTheWayUp_15 rfl (lv_at hl 2 rfl) ?_
      refine gt_Leg_2_1 M hW kw_11 (x := g 2 1) rfl dX0_onTheWayUp_16 ?_
      refine lv_iload_n hx hb dX0_onTheWayUp_19 rfl (lv_at hl 0 rfl) ?_
      refine lv_iadd hx hb dX0_onTheWayUp_20 ?_
      refine lv_bipush (v := 12) hx hb dX0_onTheWayUp_21 (by decide) ?_
      refine lv_irem hx hb dX0_onTheWayUp_23 (by decide) ?_
      refine r_top (y := nI ((jB g + 2) % 12)) (hOK.ix 2 (by decide)) ?_
      refine al_Leg_3 M hW ((jB g + 2) % 12) rfl (Nat.mod_lt _ (by decide)) (x := g 3 ((jB g + 2) % 12)) rfl dX0_onTheWayUp_24 ?_
      refine lv_iadd hx hb dX0_onTheWayUp_25 ?_
      refine lv_istore_n (lv' := [(1, .int ((0 + (g 3 ((jB g + 1) % 12))) + (g 3 ((jB g + 2) % 12)))), (2, .int 2), (0, .ref (a 2))]) hx hb dX0_onTheWayUp_26 rfl hl (by decide) rfl (fun ls hl => ?_)
      refine lv_iinc (v := 3) (lv' := [(2, .int 3), (1, .int ((0 + (g 3 ((jB g + 1) % 12))) + (g 3 ((jB g + 2) % 12)))), (0, .ref (a 2))]) hx hb dX0_onTheWayUp_27 hl (k := 1) rfl (by decide) (by decide) rfl (fun ls hl => ?_)
      refine lv_goto (tgt := 4) hx hb dX0_onTheWayUp_30 (by decide) ?_
      refine lv_iload_n hx hb dX0_onTheWayUp_4 rfl (lv_at hl 0 rfl) ?_
      refine lv_bipush (v := 6) hx hb dX0_onTheWayUp_5 (by decide) ?_
      refine lv_icmp_gt (tgt := 33) hx hb dX0_onTheWayUp_7 (by decide) (fun c_7_3 => ?_) (fun c_7_3 => ?_)
      · skip
        exact absurd c_7_3 (by decide)
      · skip
        refine lv_iload_n hx hb dX0_onTheWayUp_10 rfl (lv_at hl 1 rfl) ?_
        refine lv_aload_n hx hb dX0_onTheWayUp_11 rfl (lv_at hl 2 rfl) ?_
        refine gt_Leg_2_0 M hW kw_5 dX0_onTheWayUp_12 ?_
        refine lv_aload_n hx hb dX0_onTheWayUp_15 rfl (lv_at hl 2 rfl) ?_
        refine gt_Leg_2_1 M hW kw_11 (x := g 2 1) rfl dX0_onTheWayUp_16 ?_
        refine lv_iload_n hx hb dX0_onTheWayUp_19 rfl (lv_at hl 0 rfl) ?_
        refine lv_iadd hx hb dX0_onTheWayUp_20 ?_
        refine lv_bipush (v := 12) hx hb dX0_onTheWayUp_21 (by decide) ?_
        refine lv_irem hx hb dX0_onTheWayUp_23 (by decide) ?_
        refine r_top (y := nI ((jB g + 3) % 12)) (hOK.ix 3 (by decide)) ?_
        refine al_Leg_3 M hW ((jB g + 3) % 12) rfl (Nat.mod_lt _ (by decide)) (x := g 3 ((jB g + 3) % 12)) rfl dX0_onTheWayUp_24 ?_
        refine lv_iadd hx hb dX0_onTheWayUp_25 ?_
        refine lv_istore_n (lv' := [(1, .int (((0 + (g 3 ((jB g + 1) % 12))) + (g 3 ((jB g + 2) % 12))) + (g 3 ((jB g + 3) % 12)))), (2, .int 3), (0, .ref (a 2))]) hx hb dX0_onTheWayUp_26 rfl hl (by decide) rfl (fun ls hl => ?_)
        refine lv_iinc (v := 4) (lv' := [(2, .int 4), (1, .int (((0 + (g 3 ((jB g + 1) % 12))) + (g 3 ((jB g + 2) % 12))) + (g 3 ((jB g + 3) % 12)))), (0, .ref (a 2))]) hx hb dX0_onTheWayUp_27 hl (k := 1) rfl (by decide) (by decide) rfl (fun ls hl => ?_)
        refine lv_goto (tgt := 4) hx hb dX0_onTheWayUp_30 (by decide) ?_
        refine lv_iload_n hx hb dX0_onTheWayUp_4 rfl (lv_at hl 0 rfl) ?_
        refine lv_bipush (v := 6) hx hb dX0_onTheWayUp_5 (by decide) ?_
        refine lv_icmp_gt (tgt := 33) hx hb dX0_onTheWayUp_7 (by decide) (fun c_7_4 => ?_) (fun c_7_4 => ?_)
        · skip
          exact absurd c_7_4 (by decide)
        · skip
          refine lv_iload_n hx hb dX0_onTheWayUp_10 rfl (lv_at hl 1 rfl) ?_
          refine lv_aload_n hx hb dX0_onTheWayUp_11 rfl (lv_at hl 2 rfl) ?_
          refine gt_Leg_2_0 M hW kw_5 dX0_onTheWayUp_12 ?_
          refine lv_aload_n hx hb dX0_onTheWayUp_15 rfl (lv_at hl 2 rfl) ?_
          refine gt_Leg_2_1 M hW kw_11 (x := g 2 1) rfl dX0_onTheWayUp_16 ?_
          refine lv_iload_n hx hb dX0_onTheWayUp_19 rfl (lv_at hl 0 rfl) ?_
          refine lv_iadd hx hb dX0_onTheWayUp_20 ?_
          refine lv_bipush (v := 12) hx hb dX0_onTheWayUp_21 (by decide) ?_
          refine lv_irem hx hb dX0_onTheWayUp_23 (by decide) ?_
          refine r_top (y := nI ((jB g + 4) % 12)) (hOK.ix 4 (by decide)) ?_
          refine al_Leg_3 M hW ((jB g + 4) % 12) rfl (Nat.mod_lt _ (by decide)) (x := g 3 ((jB g + 4) % 12)) rfl dX0_onTheWayUp_24 ?_
          refine lv_iadd hx hb dX0_onTheWayUp_25 ?_
          refine lv_istore_n (lv' := [(1, .int ((((0 + (g 3 ((jB g + 1) % 12))) + (g 3 ((jB g + 2) % 12))) + (g 3 ((jB g + 3) % 12))) + (g 3 ((jB g + 4) % 12)))), (2, .int 4), (0, .ref (a 2))]) hx hb dX0_onTheWayUp_26 rfl hl (by decide) rfl (fun ls hl => ?_)
          refine lv_iinc (v := 5) (lv' := [(2, .int 5), (1, .int ((((0 + (g 3 ((jB g + 1) % 12))) + (g 3 ((jB g + 2) % 12))) + (g 3 ((jB g + 3) % 12))) + (g 3 ((jB g + 4) % 12)))), (0, .ref (a 2))]) hx hb dX0_onTheWayUp_27 hl (k := 1) rfl (by decide) (by decide) rfl (fun ls hl => ?_)
          refine lv_goto (tgt := 4) hx hb dX0_onTheWayUp_30 (by decide) ?_
          refine lv_iload_n hx hb dX0_onTheWayUp_4 rfl (lv_at hl 0 rfl) ?_
          refine lv_bipush (v := 6) hx hb dX0_onTheWayUp_5 (by decide) ?_
          refine lv_icmp_gt (tgt := 33) hx hb dX0_onTheWayUp_7 (by decide) (fun c_7_5 => ?_) (fun c_7_5 => ?_)
          · skip
            exact absurd c_7_5 (by decide)
          · skip
            refine lv_iload_n hx hb dX0_onTheWayUp_10 rfl (lv_at hl 1 rfl) ?_
            refine lv_aload_n hx hb dX0_onTheWayUp_11 rfl (lv_at hl 2 rfl) ?_
            refine gt_Leg_2_0 M hW kw_5 dX0_onTheWayUp_12 ?_
            refine lv_aload_n hx hb dX0_onTheWayUp_15 rfl (lv_at hl 2 rfl) ?_
            refine gt_Leg_2_1 M hW kw_11 (x := g 2 1) rfl dX0_onTheWayUp_16 ?_
            refine lv_iload_n hx hb dX0_onTheWayUp_19 rfl (lv_at hl 0 rfl) ?_
            refine lv_iadd hx hb dX0_onTheWayUp_20 ?_
            refine lv_bipush (v := 12) hx hb dX0_onTheWayUp_21 (by decide) ?_
            refine lv_irem hx hb dX0_onTheWayUp_23 (by decide) ?_
            refine r_top (y := nI ((jB g + 5) % 12)) (hOK.ix 5 (by decide)) ?_
            refine al_Leg_3 M hW ((jB g + 5) % 12) rfl (Nat.mod_lt _ (by decide)) (x := g 3 ((jB g + 5) % 12)) rfl dX0_onTheWayUp_24 ?_
            refine lv_iadd hx hb dX0_onTheWayUp_25 ?_
            refine lv_istore_n (lv' := [(1, .int (((((0 + (g 3 ((jB g + 1) % 12))) + (g 3 ((jB g + 2) % 12))) + (g 3 ((jB g + 3) % 12))) + (g 3 ((jB g + 4) % 12))) + (g 3 ((jB g + 5) % 12)))), (2, .int 5), (0, .ref (a 2))]) hx hb dX0_onTheWayUp_26 rfl hl (by decide) rfl (fun ls hl => ?_)
            refine lv_iinc (v := 6) (lv' := [(2, .int 6), (1, .int (((((0 + (g 3 ((jB g + 1) % 12))) + (g 3 ((jB g + 2) % 12))) + (g 3 ((jB g + 3) % 12))) + (g 3 ((jB g + 4) % 12))) + (g 3 ((jB g + 5) % 12)))), (0, .ref (a 2))]) hx hb dX0_onTheWayUp_27 hl (k := 1) rfl (by decide) (by decide) rfl (fun ls hl => ?_)
            refine lv_goto (tgt := 4) hx hb dX0_onTheWayUp_30 (by decide) ?_
            refine lv_iload_n hx hb dX0_onTheWayUp_4 rfl (lv_at hl 0 rfl) ?_
            refine lv_bipush (v := 6) hx hb dX0_onTheWayUp_5 (by decide) ?_
            refine lv_icmp_gt (tgt := 33) hx hb dX0_onTheWayUp_7 (by decide) (fun c_7_6 => ?_) (fun c_7_6 => ?_)
            · skip
              exact absurd c_7_6 (by decide)
            · skip
              refine lv_iload_n hx hb dX0_onTheWayUp_10 rfl (lv_at hl 1 rfl) ?_
              refine lv_aload_n hx hb dX0_onTheWayUp_11 rfl (lv_at hl 2 rfl) ?_
              refine gt_Leg_2_0 M hW kw_5 dX0_onTheWayUp_12 ?_
              refine lv_aload_n hx hb dX0_onTheWayUp_15 rfl (lv_at hl 2 rfl) ?_
              refine gt_Leg_2_1 M hW kw_11 (x := g 2 1) rfl dX0_onTheWayUp_16 ?_
              refine lv_iload_n hx hb dX0_onTheWayUp_19 rfl (lv_at hl 0 rfl) ?_
              refine lv_iadd hx hb dX0_onTheWayUp_20 ?_
              refine lv_bipush (v := 12) hx hb dX0_onTheWayUp_21 (by decide) ?_
              refine lv_irem hx hb dX0_onTheWayUp_23 (by decide) ?_
              refine r_top (y := nI ((jB g + 6) % 12)) (hOK.ix 6 (by decide)) ?_
              refine al_Leg_3 M hW ((jB g + 6) % 12) rfl (Nat.mod_lt _ (by decide)) (x := g 3 ((jB g + 6) % 12)) rfl dX0_onTheWayUp_24 ?_
              refine lv_iadd hx hb dX0_onTheWayUp_25 ?_
              refine lv_istore_n (lv' := [(1, .int ((((((0 + (g 3 ((jB g + 1) % 12))) + (g 3 ((jB g + 2) % 12))) + (g 3 ((jB g + 3) % 12))) + (g 3 ((jB g + 4) % 12))) + (g 3 ((jB g + 5) % 12))) + (g 3 ((jB g + 6) % 12)))), (2, .int 6), (0, .ref (a 2))]) hx hb dX0_onTheWayUp_26 rfl hl (by decide) rfl (fun ls hl => ?_)
              refine lv_iinc (v := 7) (lv' := [(2, .int 7), (1, .int ((((((0 + (g 3 ((jB g + 1) % 12))) + (g 3 ((jB g + 2) % 12))) + (g 3 ((jB g + 3) % 12))) + (g 3 ((jB g + 4) % 12))) + (g 3 ((jB g + 5) % 12))) + (g 3 ((jB g + 6) % 12)))), (0, .ref (a 2))]) hx hb dX0_onTheWayUp_27 hl (k := 1) rfl (by decide) (by decide) rfl (fun ls hl => ?_)
              refine lv_goto (tgt := 4) hx hb dX0_onTheWayUp_30 (by decide) ?_
              refine lv_iload_n hx hb dX0_onTheWayUp_4 rfl (lv_at hl 0 rfl) ?_
              refine lv_bipush (v := 6) hx hb dX0_onTheWayUp_5 (by decide) ?_
              refine lv_icmp_gt (tgt := 33) hx hb dX0_onTheWayUp_7 (by decide) (fun c_7_7 => ?_) (fun c_7_7 => ?_)
              · skip
                refine lv_iload_n hx hb dX0_onTheWayUp_33 rfl (lv_at hl 1 rfl) ?_
                exact r_reti M hW rfl ⟨by rw [rX0_onTheWayUp], rfl⟩ (Nat.zero_le _) (Nat.zero_le _) dX0_onTheWayUp_34
              · skip
                exact absurd c_7_7 (by decide)

def rX0_onAll (g : Nat → Nat → Int32) : Int32 := (((((((((((0 + (g 3 0)) + (g 3 1)) + (g 3 2)) + (g 3 3)) + (g 3 4)) + (g 3 5)) + (g 3 6)) + (g 3 7)) + (g 3 8)) + (g 3 9)) + (g 3 10)) + (g 3 11)
set_option maxHeartbeats 4000000 in
set_option maxRecDepth 100000 in
/-- X0.onAll -/
theorem c_X0_onAll (l : Launch) (G : Gp) (a : Nat → Nat) (g : Nat → Nat → Int32) (Y : va_W) : Cn l G yX0_onAll cX0_onAll 3 (some .int) 0 [.ref (a 2)] (LegW G a g ++ Y) (some (.int (rX0_onAll g))) (LegW G a g ++ Y) := by
  refine CnE.of (by decide) (Nat.le_of_ble_eq_true rfl) ?_
  intro p e s m below meth c ls M hnm hl hW
  have hx := M.1
  have hb := M.2.1
  have hl : lv_has ls 3 [(0, .ref (a 2))] := hl
  refine lv_iconst (v := 0) hx hb dX0_onAll_0 (by decide) ?_
  refine lv_istore_n (lv' := [(1, .int 0), (0, .ref (a 2))]) hx hb dX0_onAll_1 rfl hl (by decide) rfl (fun ls hl => ?_)
  refine lv_iconst (v := 0) hx hb dX0_onAll_2 (by decide) ?_
  refine lv_istore_n (lv' := [(2, .int 0), (1, .int 0), (0, .ref (a 2))]) hx hb dX0_onAll_3 rfl hl (by decide) rfl (fun ls hl => ?_)
  refine lv_iload_n hx hb dX0_onAll_4 rfl (lv_at hl 0 rfl) ?_
  refine lv_bipush (v := 12) hx hb dX0_onAll_5 (by decide) ?_
  refine lv_icmp_ge (tgt := 25) hx hb dX0_onAll_7 (by decide) (fun c_7 => ?_) (fun c_7 => ?_)
  · skip
    exact absurd c_7 (by decide)
  · skip
    refine lv_iload_n hx hb dX0_onAll_10 rfl (lv_at hl 1 rfl) ?_
    refine lv_aload_n hx hb dX0_onAll_11 rfl (lv_at hl 2 rfl) ?_
    refine gt_Leg_2_0 M hW kw_5 dX0_onAll_12 ?_
    refine lv_iload_n hx hb dX0_onAll_15 rfl (lv_at hl 0 rfl) ?_
    refine al_Leg_3 M hW 0 rfl (by decide) (x := g 3 0) rfl dX0_onAll_16 ?_
    refine lv_iadd hx hb dX0_onAll_17 ?_
    refine lv_istore_n (lv' := [(1, .int (0 + (g 3 0))), (2, .int 0), (0, .ref (a 2))]) hx hb dX0_onAll_18 rfl hl (by decide) rfl (fun ls hl => ?_)
    refine lv_iinc (v := 1) (lv' := [(2, .int 1), (1, .int (0 + (g 3 0))), (0, .ref (a 2))]) hx hb dX0_onAll_19 hl (k := 1) rfl (by decide) (by decide) rfl (fun ls hl => ?_)
    refine lv_goto (tgt := 4) hx hb dX0_onAll_22 (by decide) ?_
    refine lv_iload_n hx hb dX0_onAll_4 rfl (lv_at hl 0 rfl) ?_
    refine lv_bipush (v := 12) hx hb dX0_onAll_5 (by decide) ?_
    refine lv_icmp_ge (tgt := 25) hx hb dX0_onAll_7 (by decide) (fun c_7_2 => ?_) (fun c_7_2 => ?_)
    · skip
      exact absurd c_7_2 (by decide)
    · skip
      refine lv_iload_n hx hb dX0_onAll_10 rfl (lv_at hl 1 rfl) ?_
      refine lv_aload_n hx hb dX0_onAll_11 rfl (lv_at hl 2 rfl) ?_
      refine gt_Leg_2_0 M hW kw_5 dX0_onAll_12 ?_
      refine lv_iload_n hx hb dX0_onAll_15 rfl (lv_at hl 0 rfl) ?_
      refine al_Leg_3 M hW 1 rfl (by decide) (x := g 3 1) rfl dX0_onAll_16 ?_
      refine lv_iadd hx hb dX0_onAll_17 ?_
      refine lv_istore_n (lv' := [(1, .int ((0 + (g 3 0)) + (g 3 1))), (2, .int 1), (0, .ref (a 2))]) hx hb dX0_onAll_18 rfl hl (by decide) rfl (fun ls hl => ?_)
      refine lv_iinc (v := 2) (lv' := [(2, .int 2), (1, .int ((0 + (g 3 0)) + (g 3 1))), (0, .ref (a 2))]) hx hb dX0_onAll_19 hl (k := 1) rfl (by decide) (by decide) rfl (fun ls hl => ?_)
      refine lv_goto (tgt := 4) hx hb dX0_onAll_22 (by decide) ?_
      refine lv_iload_n hx hb dX0_onAll_4 rfl (lv_at hl 0 rfl) ?_
      refine lv_bipush (v := 12) hx hb dX0_onAll_5 (by decide) ?_
      refine lv_icmp_ge (tgt := 25) hx hb dX0_onAll_7 (by decide) (fun c_7_3 => ?_) (fun c_7_3 => ?_)
      · skip
        exact absurd c_7_3 (by decide)
      · skip
        refine lv_iload_n hx hb dX0_onAll_10 rfl (lv_at hl 1 rfl) ?_
        refine lv_aload_n hx hb dX0_onAll_11 rfl (lv_at hl 2 rfl) ?_
        refine gt_Leg_2_0 M hW kw_5 dX0_onAll_12 ?_
        refine lv_iload_n hx hb dX0_onAll_15 rfl (lv_at hl 0 rfl) ?_
        refine al_Leg_3 M hW 2 rfl (by decide) (x := g 3 2) rfl dX0_onAll_16 ?_
        refine lv_iadd hx hb dX0_onAll_17 ?_
        refine lv_istore_n (lv' := [(1, .int (((0 + (g 3 0)) + (g 3 1)) + (g 3 2))), (2, .int 2), (0, .ref (a 2))]) hx hb dX0_onAll_18 rfl hl (by decide) rfl (fun ls hl => ?_)
        refine lv_iinc (v := 3) (lv' := [(2, .int 3), (1, .int (((0 + (g 3 0)) + (g 3 1)) + (g 3 2))), (0, .ref (a 2))]) hx hb dX0_onAll_19 hl (k := 1) rfl (by decide) (by decide) rfl (fun ls hl => ?_)
        refine lv_goto (tgt := 4) hx hb dX0_onAll_22 (by decide) ?_
        refine lv_iload_n hx hb dX0_onAll_4 rfl (lv_at hl 0 rfl) ?_
        refine lv_bipush (v := 12) hx hb dX0_onAll_5 (by decide) ?_
        refine lv_icmp_ge (tgt := 25) hx hb dX0_onAll_7 (by decide) (fun c_7_4 => ?_) (fun c_7_4 => ?_)
        · skip
          exact absurd c_7_4 (by decide)
        · skip
          refine lv_iload_n hx hb dX0_onAll_10 rfl (lv_at hl 1 rfl) ?_
          refine lv_aload_n hx hb dX0_onAll_11 rfl (lv_at hl 2 rfl) ?_
          refine gt_Leg_2_0 M hW kw_5 dX0_onAll_12 ?_
          refine lv_iload_n hx hb dX0_onAll_15 rfl (lv_at hl 0 rfl) ?_
          refine al_Leg_3 M hW 3 rfl (by decide) (x := g 3 3) rfl dX0_onAll_16 ?_
          refine lv_iadd hx hb dX0_onAll_17 ?_
          refine lv_istore_n (lv' := [(1, .int ((((0 + (g 3 0)) + (g 3 1)) + (g 3 2)) + (g 3 3))), (2, .int 3), (0, .ref (a 2))]) hx hb dX0_onAll_18 rfl hl (by decide) rfl (fun ls hl => ?_)
          refine lv_iinc (v := 4) (lv' := [(2, .int 4), (1, .int ((((0 + (g 3 0)) + (g 3 1)) + (g 3 2)) + (g 3 3))), (0, .ref (a 2))]) hx hb dX0_onAll_19 hl (k := 1) rfl (by decide) (by decide) rfl (fun ls hl => ?_)
          refine lv_goto (tgt := 4) hx hb dX0_onAll_22 (by decide) ?_
          refine lv_iload_n hx hb dX0_onAll_4 rfl (lv_at hl 0 rfl) ?_
          refine lv_bipush (v := 12) hx hb dX0_onAll_5 (by decide) ?_
          refine lv_icmp_ge (tgt := 25) hx hb dX0_onAll_7 (by decide) (fun c_7_5 => ?_) (fun c_7_5 => ?_)
          · skip
            exact absurd c_7_5 (by decide)
          · skip
            refine lv_iload_n hx hb dX0_onAll_10 rfl (lv_at hl 1 rfl) ?_
            refine lv_aload_n hx hb dX0_onAll_11 rfl (lv_at hl 2 rfl) ?_
            refine gt_Leg_2_0 M hW kw_5 dX0_onAll_12 ?_
            refine lv_iload_n hx hb dX0_onAll_15 rfl (lv_at hl 0 rfl) ?_
            refine al_Leg_3 M hW 4 rfl (by decide) (x := g 3 4) rfl dX0_onAll_16 ?_
            refine lv_iadd hx hb dX0_onAll_17 ?_
            refine lv_istore_n (lv' := [(1, .int (((((0 + (g 3 0)) + (g 3 1)) + (g 3 2)) + (g 3 3)) + (g 3 4))), (2, .int 4), (0, .ref (a 2))]) hx hb dX0_onAll_18 rfl hl (by decide) rfl (fun ls hl => ?_)
            refine lv_iinc (v := 5) (lv' := [(2, .int 5), (1, .int (((((0 + (g 3 0)) + (g 3 1)) + (g 3 2)) + (g 3 3)) + (g 3 4))), (0, .ref (a 2))]) hx hb dX0_onAll_19 hl (k := 1) rfl (by decide) (by decide) rfl (fun ls hl => ?_)
            refine lv_goto (tgt := 4) hx hb dX0_onAll_22 (by decide) ?_
            refine lv_iload_n hx hb dX0_onAll_4 rfl (lv_at hl 0 rfl) ?_
            refine lv_bipush (v := 12) hx hb dX0_onAll_5 (by decide) ?_
            refine lv_icmp_ge (tgt := 25) hx hb dX0_onAll_7 (by decide) (fun c_7_6 => ?_) (fun c_7_6 => ?_)
            · skip
              exact absurd c_7_6 (by decide)
            · skip
              refine lv_iload_n hx hb dX0_onAll_10 rfl (lv_at hl 1 rfl) ?_
              refine lv_aload_n hx hb dX0_onAll_11 rfl (lv_at hl 2 rfl) ?_
              refine gt_Leg_2_0 M hW kw_5 dX0_onAll_12 ?_
              refine lv_iload_n hx hb dX0_onAll_15 rfl (lv_at hl 0 rfl) ?_
              refine al_Leg_3 M hW 5 rfl (by decide) (x := g 3 5) rfl dX0_onAll_16 ?_
              refine lv_iadd hx hb dX0_onAll_17 ?_
              refine lv_istore_n (lv' := [(1, .int ((((((0 + (g 3 0)) + (g 3 1)) + (g 3 2)) + (g 3 3)) + (g 3 4)) + (g 3 5))), (2, .int 5), (0, .ref (a 2))]) hx hb dX0_onAll_18 rfl hl (by decide) rfl (fun ls hl => ?_)
              refine lv_iinc (v := 6) (lv' := [(2, .int 6), (1, .int ((((((0 + (g 3 0)) + (g 3 1)) + (g 3 2)) + (g 3 3)) + (g 3 4)) + (g 3 5))), (0, .ref (a 2))]) hx hb dX0_onAll_19 hl (k := 1) rfl (by decide) (by decide) rfl (fun ls hl => ?_)
              refine lv_goto (tgt := 4) hx hb dX0_onAll_22 (by decide) ?_
              refine lv_iload_n hx hb dX0_onAll_4 rfl (lv_at hl 0 rfl) ?_
              refine lv_bipush (v := 12) hx hb dX0_onAll_5 (by decide) ?_
              refine lv_icmp_ge (tgt := 25) hx hb dX0_onAll_7 (by decide) (fun c_7_7 => ?_) (fun c_7_7 => ?_)
              · skip
                exact absurd c_7_7 (by decide)
              · skip
                refine lv_iload_n hx hb dX0_onAll_10 rfl (lv_at hl 1 rfl) ?_
                refine lv_aload_n hx hb dX0_onAll_11 rfl (lv_at hl 2 rfl) ?_
                refine gt_Leg_2_0 M hW kw_5 dX0_onAll_12 ?_
                refine lv_iload_n hx hb dX0_onAll_15 rfl (lv_at hl 0 rfl) ?_
                refine al_Leg_3 M hW 6 rfl (by decide) (x := g 3 6) rfl dX0_onAll_16 ?_
                refine lv_iadd hx hb dX0_onAll_17 ?_
                refine lv_istore_n (lv' := [(1, .int (((((((0 + (g 3 0)) + (g 3 1)) + (g 3 2)) + (g 3 3)) + (g 3 4)) + (g 3 5)) + (g 3 6))), (2, .int 6), (0, .ref (a 2))]) hx hb dX0_onAll_18 rfl hl (by decide) rfl (fun ls hl => ?_)
                refine lv_iinc (v := 7) (lv' := [(2, .int 7), (1, .int (((((((0 + (g 3 0)) + (g 3 1)) + (g 3 2)) + (g 3 3)) + (g 3 4)) + (g 3 5)) + (g 3 6))), (0, .ref (a 2))]) hx hb dX0_onAll_19 hl (k := 1) rfl (by decide) (by decide) rfl (fun ls hl => ?_)
                refine lv_goto (tgt := 4) hx hb dX0_onAll_22 (by decide) ?_
                refine lv_iload_n hx hb dX0_onAll_4 rfl (lv_at hl 0 rfl) ?_
                refine lv_bipush (v := 12) hx hb dX0_onAll_5 (by decide) ?_
                refine lv_icmp_ge (tgt := 25) hx hb dX0_onAll_7 (by decide) (fun c_7_8 => ?_) (fun c_7_8 => ?_)
                · skip
                  exact absurd c_7_8 (by decide)
                · skip
                  refine lv_iload_n hx hb dX0_onAll_10 rfl (lv_at hl 1 rfl) ?_
                  refine lv_aload_n hx hb dX0_onAll_11 rfl (lv_at hl 2 rfl) ?_
                  refine gt_Leg_2_0 M hW kw_5 dX0_onAll_12 ?_
                  refine lv_iload_n hx hb dX0_onAll_15 rfl (lv_at hl 0 rfl) ?_
                  refine al_Leg_3 M hW 7 rfl (by decide) (x := g 3 7) rfl dX0_onAll_16 ?_
                  refine lv_iadd hx hb dX0_onAll_17 ?_
                  refine lv_istore_n (lv' := [(1, .int ((((((((0 + (g 3 0)) + (g 3 1)) + (g 3 2)) + (g 3 3)) + (g 3 4)) + (g 3 5)) + (g 3 6)) + (g 3 7))), (2, .int 7), (0, .ref (a 2))]) hx hb dX0_onAll_18 rfl hl (by decide) rfl (fun ls hl => ?_)
                  refine lv_iinc (v := 8) (lv' := [(2, .int 8), (1, .int ((((((((0 + (g 3 0)) + (g 3 1)) + (g 3 2)) + (g 3 3)) + (g 3 4)) + (g 3 5)) + (g 3 6)) + (g 3 7))), (0, .ref (a 2))]) hx hb dX0_onAll_19 hl (k := 1) rfl (by decide) (by decide) rfl (fun ls hl => ?_)
                  refine lv_goto (tgt := 4) hx hb dX0_onAll_22 (by decide) ?_
                  refine lv_iload_n hx hb dX0_onAll_4 rfl (lv_at hl 0 rfl) ?_
                  refine lv_bipush (v := 12) hx hb dX0_onAll_5 (by decide) ?_
                  refine lv_icmp_ge (tgt := 25) hx hb dX0_onAll_7 (by decide) (fun c_7_9 => ?_) (fun c_7_9 => ?_)
                  · skip
                    exact absurd c_7_9 (by decide)
                  · skip
                    refine lv_iload_n hx hb dX0_onAll_10 rfl (lv_at hl 1 rfl) ?_
                    refine lv_aload_n hx hb dX0_onAll_11 rfl (lv_at hl 2 rfl) ?_
                    refine gt_Leg_2_0 M hW kw_5 dX0_onAll_12 ?_
                    refine lv_iload_n hx hb dX0_onAll_15 rfl (lv_at hl 0 rfl) ?_
                    refine al_Leg_3 M hW 8 rfl (by decide) (x := g 3 8) rfl dX0_onAll_16 ?_
                    refine lv_iadd hx hb dX0_onAll_17 ?_
                    refine lv_istore_n (lv' := [(1, .int (((((((((0 + (g 3 0)) + (g 3 1)) + (g 3 2)) + (g 3 3)) + (g 3 4)) + (g 3 5)) + (g 3 6)) + (g 3 7)) + (g 3 8))), (2, .int 8), (0, .ref (a 2))]) hx hb dX0_onAll_18 rfl hl (by decide) rfl (fun ls hl => ?_)
                    refine lv_iinc (v := 9) (lv' := [(2, .int 9), (1, .int (((((((((0 + (g 3 0)) + (g 3 1)) + (g 3 2)) + (g 3 3)) + (g 3 4)) + (g 3 5)) + (g 3 6)) + (g 3 7)) + (g 3 8))), (0, .ref (a 2))]) hx hb dX0_onAll_19 hl (k := 1) rfl (by decide) (by decide) rfl (fun ls hl => ?_)
                    refine lv_goto (tgt := 4) hx hb dX0_onAll_22 (by decide) ?_
                    refine lv_iload_n hx hb dX0_onAll_4 rfl (lv_at hl 0 rfl) ?_
                    refine lv_bipush (v := 12) hx hb dX0_onAll_5 (by decide) ?_
                    refine lv_icmp_ge (tgt := 25) hx hb dX0_onAll_7 (by decide) (fun c_7_10 => ?_) (fun c_7_10 => ?_)
                    · skip
                      exact absurd c_7_10 (by decide)
                    · skip
                      refine lv_iload_n hx hb dX0_onAll_10 rfl (lv_at hl 1 rfl) ?_
                      refine lv_aload_n hx hb dX0_onAll_11 rfl (lv_at hl 2 rfl) ?_
                      refine gt_Leg_2_0 M hW kw_5 dX0_onAll_12 ?_
                      refine lv_iload_n hx hb dX0_onAll_15 rfl (lv_at hl 0 rfl) ?_
                      refine al_Leg_3 M hW 9 rfl (by decide) (x := g 3 9) rfl dX0_onAll_16 ?_
                      refine lv_iadd hx hb dX0_onAll_17 ?_
                      refine lv_istore_n (lv' := [(1, .int ((((((((((0 + (g 3 0)) + (g 3 1)) + (g 3 2)) + (g 3 3)) + (g 3 4)) + (g 3 5)) + (g 3 6)) + (g 3 7)) + (g 3 8)) + (g 3 9))), (2, .int 9), (0, .ref (a 2))]) hx hb dX0_onAll_18 rfl hl (by decide) rfl (fun ls hl => ?_)
                      refine lv_iinc (v := 10) (lv' := [(2, .int 10), (1, .int ((((((((((0 + (g 3 0)) + (g 3 1)) + (g 3 2)) + (g 3 3)) + (g 3 4)) + (g 3 5)) + (g 3 6)) + (g 3 7)) + (g 3 8)) + (g 3 9))), (0, .ref (a 2))]) hx hb dX0_onAll_19 hl (k := 1) rfl (by decide) (by decide) rfl (fun ls hl => ?_)
                      refine lv_goto (tgt := 4) hx hb dX0_onAll_22 (by decide) ?_
                      refine lv_iload_n hx hb dX0_onAll_4 rfl (lv_at hl 0 rfl) ?_
                      refine lv_bipush (v := 12) hx hb dX0_onAll_5 (by decide) ?_
                      refine lv_icmp_ge (tgt := 25) hx hb dX0_onAll_7 (by decide) (fun c_7_11 => ?_) (fun c_7_11 => ?_)
                      · skip
                        exact absurd c_7_11 (by decide)
                      · skip
                        refine lv_iload_n hx hb dX0_onAll_10 rfl (lv_at hl 1 rfl) ?_
                        refine lv_aload_n hx hb dX0_onAll_11 rfl (lv_at hl 2 rfl) ?_
                        refine gt_Leg_2_0 M hW kw_5 dX0_onAll_12 ?_
                        refine lv_iload_n hx hb dX0_onAll_15 rfl (lv_at hl 0 rfl) ?_
                        refine al_Leg_3 M hW 10 rfl (by decide) (x := g 3 10) rfl dX0_onAll_16 ?_
                        refine lv_iadd hx hb dX0_onAll_17 ?_
                        refine lv_istore_n (lv' := [(1, .int (((((((((((0 + (g 3 0)) + (g 3 1)) + (g 3 2)) + (g 3 3)) + (g 3 4)) + (g 3 5)) + (g 3 6)) + (g 3 7)) + (g 3 8)) + (g 3 9)) + (g 3 10))), (2, .int 10), (0, .ref (a 2))]) hx hb dX0_onAll_18 rfl hl (by decide) rfl (fun ls hl => ?_)
                        refine lv_iinc (v := 11) (lv' := [(2, .int 11), (1, .int (((((((((((0 + (g 3 0)) + (g 3 1)) + (g 3 2)) + (g 3 3)) + (g 3 4)) + (g 3 5)) + (g 3 6)) + (g 3 7)) + (g 3 8)) + (g 3 9)) + (g 3 10))), (0, .ref (a 2))]) hx hb dX0_onAll_19 hl (k := 1) rfl (by decide) (by decide) rfl (fun ls hl => ?_)
                        refine lv_goto (tgt := 4) hx hb dX0_onAll_22 (by decide) ?_
                        refine lv_iload_n hx hb dX0_onAll_4 rfl (lv_at hl 0 rfl) ?_
                        refine lv_bipush (v := 12) hx hb dX0_onAll_5 (by decide) ?_
                        refine lv_icmp_ge (tgt := 25) hx hb dX0_onAll_7 (by decide) (fun c_7_12 => ?_) (fun c_7_12 => ?_)
                        · skip
                          exact absurd c_7_12 (by decide)
                        · skip
                          refine lv_iload_n hx hb dX0_onAll_10 rfl (lv_at hl 1 rfl) ?_
                          refine lv_aload_n hx hb dX0_onAll_11 rfl (lv_at hl 2 rfl) ?_
                          refine gt_Leg_2_0 M hW kw_5 dX0_onAll_12 ?_
                          refine lv_iload_n hx hb dX0_onAll_15 rfl (lv_at hl 0 rfl) ?_
                          refine al_Leg_3 M hW 11 rfl (by decide) (x := g 3 11) rfl dX0_onAll_16 ?_
                          refine lv_iadd hx hb dX0_onAll_17 ?_
                          refine lv_istore_n (lv' := [(1, .int ((((((((((((0 + (g 3 0)) + (g 3 1)) + (g 3 2)) + (g 3 3)) + (g 3 4)) + (g 3 5)) + (g 3 6)) + (g 3 7)) + (g 3 8)) + (g 3 9)) + (g 3 10)) + (g 3 11))), (2, .int 11), (0, .ref (a 2))]) hx hb dX0_onAll_18 rfl hl (by decide) rfl (fun ls hl => ?_)
                          refine lv_iinc (v := 12) (lv' := [(2, .int 12), (1, .int ((((((((((((0 + (g 3 0)) + (g 3 1)) + (g 3 2)) + (g 3 3)) + (g 3 4)) + (g 3 5)) + (g 3 6)) + (g 3 7)) + (g 3 8)) + (g 3 9)) + (g 3 10)) + (g 3 11))), (0, .ref (a 2))]) hx hb dX0_onAll_19 hl (k := 1) rfl (by decide) (by decide) rfl (fun ls hl => ?_)
                          refine lv_goto (tgt := 4) hx hb dX0_onAll_22 (by decide) ?_
                          refine lv_iload_n hx hb dX0_onAll_4 rfl (lv_at hl 0 rfl) ?_
                          refine lv_bipush (v := 12) hx hb dX0_onAll_5 (by decide) ?_
                          refine lv_icmp_ge (tgt := 25) hx hb dX0_onAll_7 (by decide) (fun c_7_13 => ?_) (fun c_7_13 => ?_)
                          · skip
                            refine lv_iload_n hx hb dX0_onAll_25 rfl (lv_at hl 1 rfl) ?_
                            exact r_reti M hW rfl ⟨by rw [rX0_onAll], rfl⟩ (Nat.zero_le _) (Nat.zero_le _) dX0_onAll_26
                          · skip
                            exact absurd c_7_13 (by decide)

def sX5_become (g : Nat → Nat → Int32) (g2 : Nat → Nat → Int32) : Nat → Nat → Int32 := up2 (cp2 (cp2 (cp2 g 6 (g2 6)) 7 (g2 7)) 8 (g2 8)) 5 3 (g2 5 3)
set_option maxHeartbeats 4000000 in
set_option maxRecDepth 100000 in
/-- X5.become -/
theorem c_X5_become (l : Launch) (G : Gp) (a : Nat → Nat) (a2 : Nat → Nat) (g : Nat → Nat → Int32) (g2 : Nat → Nat → Int32) (Y : va_W) : Cn l G yX5_become cX5_become 2 none 2 [.ref (a 5), .ref (a2 5)] (LegW G a g ++ (LegW G a2 g2 ++ Y)) none (LegW G a (sX5_become g g2) ++ (LegW G a2 g2 ++ Y)) := by
  refine CnE.of (by decide) (Nat.le_of_ble_eq_true rfl) ?_
  intro p e s m below meth c ls M hnm hl hW
  have hx := M.1
  have hb := M.2.1
  have hl : lv_has ls 2 [(0, .ref (a 5)), (1, .ref (a2 5))] := hl
  refine lv_aload_n hx hb dX5_become_0 rfl (lv_at hl 1 rfl) ?_
  refine gt_Leg_5_0 M hW.drop kw_47 dX5_become_1 ?_
  refine lv_iconst (v := 0) hx hb dX5_become_4 (by decide) ?_
  refine lv_aload_n hx hb dX5_become_5 rfl (lv_at hl 0 rfl) ?_
  refine gt_Leg_5_0 M hW kw_47 dX5_become_6 ?_
  refine lv_iconst (v := 0) hx hb dX5_become_9 (by decide) ?_
  refine lv_bipush (v := 6) hx hb dX5_become_10 (by decide) ?_
  refine cpy_Leg_6 M hW kw_90 hl.1 (by decide) (Nat.le_of_ble_eq_true rfl) dX5_become_12 (fun H locs hW => ?_)
  refine lv_aload_n hx hb dX5_become_15 rfl (lv_at hl 1 rfl) ?_
  refine gt_Leg_5_1 M hW.drop kw_48 dX5_become_16 ?_
  refine lv_iconst (v := 0) hx hb dX5_become_19 (by decide) ?_
  refine lv_aload_n hx hb dX5_become_20 rfl (lv_at hl 0 rfl) ?_
  refine gt_Leg_5_1 M hW kw_48 dX5_become_21 ?_
  refine lv_iconst (v := 0) hx hb dX5_become_24 (by decide) ?_
  refine lv_bipush (v := 6) hx hb dX5_become_25 (by decide) ?_
  refine cpy_Leg_7 M hW kw_90 hl.1 (by decide) (Nat.le_of_ble_eq_true rfl) dX5_become_27 (fun H locs hW => ?_)
  refine lv_aload_n hx hb dX5_become_30 rfl (lv_at hl 1 rfl) ?_
  refine gt_Leg_5_2 M hW.drop kw_49 dX5_become_31 ?_
  refine lv_iconst (v := 0) hx hb dX5_become_34 (by decide) ?_
  refine lv_aload_n hx hb dX5_become_35 rfl (lv_at hl 0 rfl) ?_
  refine gt_Leg_5_2 M hW kw_49 dX5_become_36 ?_
  refine lv_iconst (v := 0) hx hb dX5_become_39 (by decide) ?_
  refine lv_bipush (v := 6) hx hb dX5_become_40 (by decide) ?_
  refine cpy_Leg_8 M hW kw_90 hl.1 (by decide) (Nat.le_of_ble_eq_true rfl) dX5_become_42 (fun H locs hW => ?_)
  refine lv_aload_n hx hb dX5_become_45 rfl (lv_at hl 0 rfl) ?_
  refine lv_aload_n hx hb dX5_become_46 rfl (lv_at hl 1 rfl) ?_
  refine gt_Leg_5_3 M hW.drop kw_91 (x := g2 5 3) rfl dX5_become_47 ?_
  refine pt_Leg_5_3 M hW kw_91 dX5_become_50 (fun H locs hW => ?_)
  exact r_retv M hW (by rw [sX5_become]) ⟨rfl, rfl⟩ (Nat.zero_le _) (Nat.zero_le _) dX5_become_53

def sX5_note (g : Nat → Nat → Int32) (x : Int32) (y : Int32) (z : Int32) : Nat → Nat → Int32 := up2 (up2 (up2 (up2 (up2 (up2 (up2 (up2 (up2 (up2 (up2 (up2 (up2 (up2 (up2 (up2 (up2 (up2 (up2 g 6 5 (g 6 4)) 7 5 (g 7 4)) 8 5 (g 8 4)) 6 4 (g 6 3)) 7 4 (g 7 3)) 8 4 (g 8 3)) 6 3 (g 6 2)) 7 3 (g 7 2)) 8 3 (g 8 2)) 6 2 (g 6 1)) 7 2 (g 7 1)) 8 2 (g 8 1)) 6 1 (g 6 0)) 7 1 (g 7 0)) 8 1 (g 8 0)) 6 0 x) 7 0 y) 8 0 z) 5 3 (imin 6 ((g 5 3) + 1))
set_option maxHeartbeats 4000000 in
set_option maxRecDepth 100000 in
/-- X5.note -/
theorem c_X5_note (l : Launch) (G : Gp) (a : Nat → Nat) (g : Nat → Nat → Int32) (x : Int32) (y : Int32) (z : Int32) (Y : va_W) : Cn l G yX5_note cX5_note 5 none 1 [.ref (a 5), .int x, .int y, .int z] (LegW G a g ++ Y) none (LegW G a (sX5_note g x y z) ++ Y) := by
  refine CnE.of (by decide) (Nat.le_of_ble_eq_true rfl) ?_
  intro p e s m below meth c ls M hnm hl hW
  have hx := M.1
  have hb := M.2.1
  have hl : lv_has ls 5 [(0, .ref (a 5)), (1, .int x), (2, .int y), (3, .int z)] := hl
  refine lv_iconst (v := 5) hx hb dX5_note_0 (by decide) ?_
  refine lv_istore (lv' := [(4, .int 5), (0, .ref (a 5)), (1, .int x), (2, .int y), (3, .int z)]) hx hb dX5_note_1 hl (by decide) rfl (fun ls hl => ?_)
  refine lv_iload hx hb dX5_note_3 (lv_at hl 0 rfl) ?_
  refine lv_if_le (tgt := 62) hx hb dX5_note_5 (by decide) (fun c_5 => ?_) (fun c_5 => ?_)
  · skip
    exact absurd c_5 (by decide)
  · skip
    refine lv_aload_n hx hb dX5_note_8 rfl (lv_at hl 1 rfl) ?_
    refine gt_Leg_5_0 M hW kw_47 dX5_note_9 ?_
    refine lv_iload hx hb dX5_note_12 (lv_at hl 0 rfl) ?_
    refine lv_aload_n hx hb dX5_note_14 rfl (lv_at hl 1 rfl) ?_
    refine gt_Leg_5_0 M hW kw_47 dX5_note_15 ?_
    refine lv_iload hx hb dX5_note_18 (lv_at hl 0 rfl) ?_
    refine lv_iconst (v := 1) hx hb dX5_note_20 (by decide) ?_
    refine lv_isub hx hb dX5_note_21 ?_
    refine r_top (y := 4) (by decide) ?_
    refine al_Leg_6 M hW 4 rfl (by decide) (x := g 6 4) rfl dX5_note_22 ?_
    refine as_Leg_6 M hW 5 rfl (by decide) dX5_note_23 (fun H locs hW => ?_)
    refine lv_aload_n hx hb dX5_note_24 rfl (lv_at hl 1 rfl) ?_
    refine gt_Leg_5_1 M hW kw_48 dX5_note_25 ?_
    refine lv_iload hx hb dX5_note_28 (lv_at hl 0 rfl) ?_
    refine lv_aload_n hx hb dX5_note_30 rfl (lv_at hl 1 rfl) ?_
    refine gt_Leg_5_1 M hW kw_48 dX5_note_31 ?_
    refine lv_iload hx hb dX5_note_34 (lv_at hl 0 rfl) ?_
    refine lv_iconst (v := 1) hx hb dX5_note_36 (by decide) ?_
    refine lv_isub hx hb dX5_note_37 ?_
    refine r_top (y := 4) (by decide) ?_
    refine al_Leg_7 M hW 4 rfl (by decide) (x := g 7 4) (up2_d (by decide)) dX5_note_38 ?_
    refine as_Leg_7 M hW 5 rfl (by decide) dX5_note_39 (fun H locs hW => ?_)
    refine lv_aload_n hx hb dX5_note_40 rfl (lv_at hl 1 rfl) ?_
    refine gt_Leg_5_2 M hW kw_49 dX5_note_41 ?_
    refine lv_iload hx hb dX5_note_44 (lv_at hl 0 rfl) ?_
    refine lv_aload_n hx hb dX5_note_46 rfl (lv_at hl 1 rfl) ?_
    refine gt_Leg_5_2 M hW kw_49 dX5_note_47 ?_
    refine lv_iload hx hb dX5_note_50 (lv_at hl 0 rfl) ?_
    refine lv_iconst (v := 1) hx hb dX5_note_52 (by decide) ?_
    refine lv_isub hx hb dX5_note_53 ?_
    refine r_top (y := 4) (by decide) ?_
    refine al_Leg_8 M hW 4 rfl (by decide) (x := g 8 4) ((up2_d (by decide)).trans (up2_d (by decide))) dX5_note_54 ?_
    refine as_Leg_8 M hW 5 rfl (by decide) dX5_note_55 (fun H locs hW => ?_)
    refine lv_iinc (v := 4) (lv' := [(4, .int 4), (0, .ref (a 5)), (1, .int x), (2, .int y), (3, .int z)]) hx hb dX5_note_56 hl (k := 0) rfl (by decide) (by decide) rfl (fun ls hl => ?_)
    refine lv_goto (tgt := 3) hx hb dX5_note_59 (by decide) ?_
    refine lv_iload hx hb dX5_note_3 (lv_at hl 0 rfl) ?_
    refine lv_if_le (tgt := 62) hx hb dX5_note_5 (by decide) (fun c_5_2 => ?_) (fun c_5_2 => ?_)
    · skip
      exact absurd c_5_2 (by decide)
    · skip
      refine lv_aload_n hx hb dX5_note_8 rfl (lv_at hl 1 rfl) ?_
      refine gt_Leg_5_0 M hW kw_47 dX5_note_9 ?_
      refine lv_iload hx hb dX5_note_12 (lv_at hl 0 rfl) ?_
      refine lv_aload_n hx hb dX5_note_14 rfl (lv_at hl 1 rfl) ?_
      refine gt_Leg_5_0 M hW kw_47 dX5_note_15 ?_
      refine lv_iload hx hb dX5_note_18 (lv_at hl 0 rfl) ?_
      refine lv_iconst (v := 1) hx hb dX5_note_20 (by decide) ?_
      refine lv_isub hx hb dX5_note_21 ?_
      refine r_top (y := 3) (by decide) ?_
      refine al_Leg_6 M hW 3 rfl (by decide) (x := g 6 3) ((up2_d (by decide)).trans ((up2_d (by decide)).trans (up2_k (by decide)))) dX5_note_22 ?_
      refine as_Leg_6 M hW 4 rfl (by decide) dX5_note_23 (fun H locs hW => ?_)
      refine lv_aload_n hx hb dX5_note_24 rfl (lv_at hl 1 rfl) ?_
      refine gt_Leg_5_1 M hW kw_48 dX5_note_25 ?_
      refine lv_iload hx hb dX5_note_28 (lv_at hl 0 rfl) ?_
      refine lv_aload_n hx hb dX5_note_30 rfl (lv_at hl 1 rfl) ?_
      refine gt_Leg_5_1 M hW kw_48 dX5_note_31 ?_
      refine lv_iload hx hb dX5_note_34 (lv_at hl 0 rfl) ?_
      refine lv_iconst (v := 1) hx hb dX5_note_36 (by decide) ?_
      refine lv_isub hx hb dX5_note_37 ?_
      refine r_top (y := 3) (by decide) ?_
      refine al_Leg_7 M hW 3 rfl (by decide) (x := g 7 3) ((up2_d (by decide)).trans ((up2_d (by decide)).trans ((up2_k (by decide)).trans (up2_d (by decide))))) dX5_note_38 ?_
      refine as_Leg_7 M hW 4 rfl (by decide) dX5_note_39 (fun H locs hW => ?_)
      refine lv_aload_n hx hb dX5_note_40 rfl (lv_at hl 1 rfl) ?_
      refine gt_Leg_5_2 M hW kw_49 dX5_note_41 ?_
      refine lv_iload hx hb dX5_note_44 (lv_at hl 0 rfl) ?_
      refine lv_aload_n hx hb dX5_note_46 rfl (lv_at hl 1 rfl) ?_
      refine gt_Leg_5_2 M hW kw_49 dX5_note_47 ?_
      refine lv_iload hx hb dX5_note_50 (lv_at hl 0 rfl) ?_
      refine lv_iconst (v := 1) hx hb dX5_note_52 (by decide) ?_
      refine lv_isub hx hb dX5_note_53 ?_
      refine r_top (y := 3) (by decide) ?_
      refine al_Leg_8 M hW 3 rfl (by decide) (x := g 8 3) ((up2_d (by decide)).trans ((up2_d (by decide)).trans ((up2_k (by decide)).trans ((up2_d (by decide)).trans (up2_d (by decide)))))) dX5_note_54 ?_
      refine as_Leg_8 M hW 4 rfl (by decide) dX5_note_55 (fun H locs hW => ?_)
      refine lv_iinc (v := 3) (lv' := [(4, .int 3), (0, .ref (a 5)), (1, .int x), (2, .int y), (3, .int z)]) hx hb dX5_note_56 hl (k := 0) rfl (by decide) (by decide) rfl (fun ls hl => ?_)
      refine lv_goto (tgt := 3) hx hb dX5_note_59 (by decide) ?_
      refine lv_iload hx hb dX5_note_3 (lv_at hl 0 rfl) ?_
      refine lv_if_le (tgt := 62) hx hb dX5_note_5 (by decide) (fun c_5_3 => ?_) (fun c_5_3 => ?_)
      · skip
        exact absurd c_5_3 (by decide)
      · skip
        refine lv_aload_n hx hb dX5_note_8 rfl (lv_at hl 1 rfl) ?_
        refine gt_Leg_5_0 M hW kw_47 dX5_note_9 ?_
        refine lv_iload hx hb dX5_note_12 (lv_at hl 0 rfl) ?_
        refine lv_aload_n hx hb dX5_note_14 rfl (lv_at hl 1 rfl) ?_
        refine gt_Leg_5_0 M hW kw_47 dX5_note_15 ?_
        refine lv_iload hx hb dX5_note_18 (lv_at hl 0 rfl) ?_
        refine lv_iconst (v := 1) hx hb dX5_note_20 (by decide) ?_
        refine lv_isub hx hb dX5_note_21 ?_
        refine r_top (y := 2) (by decide) ?_
        refine al_Leg_6 M hW 2 rfl (by decide) (x := g 6 2) ((up2_d (by decide)).trans ((up2_d (by decide)).trans ((up2_k (by decide)).trans ((up2_d (by decide)).trans ((up2_d (by decide)).trans (up2_k (by decide))))))) dX5_note_22 ?_
        refine as_Leg_6 M hW 3 rfl (by decide) dX5_note_23 (fun H locs hW => ?_)
        refine lv_aload_n hx hb dX5_note_24 rfl (lv_at hl 1 rfl) ?_
        refine gt_Leg_5_1 M hW kw_48 dX5_note_25 ?_
        refine lv_iload hx hb dX5_note_28 (lv_at hl 0 rfl) ?_
        refine lv_aload_n hx hb dX5_note_30 rfl (lv_at hl 1 rfl) ?_
        refine gt_Leg_5_1 M hW kw_48 dX5_note_31 ?_
        refine lv_iload hx hb dX5_note_34 (lv_at hl 0 rfl) ?_
        refine lv_iconst (v := 1) hx hb dX5_note_36 (by decide) ?_
        refine lv_isub hx hb dX5_note_37 ?_
        refine r_top (y := 2) (by decide) ?_
        refine al_Leg_7 M hW 2 rfl (by decide) (x := g 7 2) ((up2_d (by decide)).trans ((up2_d (by decide)).trans ((up2_k (by decide)).trans ((up2_d (by decide)).trans ((up2_d (by decide)).trans ((up2_k (by decide)).trans (up2_d (by decide)))))))) dX5_note_38 ?_
        refine as_Leg_7 M hW 3 rfl (by decide) dX5_note_39 (fun H locs hW => ?_)
        refine lv_aload_n hx hb dX5_note_40 rfl (lv_at hl 1 rfl) ?_
        refine gt_Leg_5_2 M hW kw_49 dX5_note_41 ?_
        refine lv_iload hx hb dX5_note_44 (lv_at hl 0 rfl) ?_
        refine lv_aload_n hx hb dX5_note_46 rfl (lv_at hl 1 rfl) ?_
        refine gt_Leg_5_2 M hW kw_49 dX5_note_47 ?_
        refine lv_iload hx hb dX5_note_50 (lv_at hl 0 rfl) ?_
        refine lv_iconst (v := 1) hx hb dX5_note_52 (by decide) ?_
        refine lv_isub hx hb dX5_note_53 ?_
        refine r_top (y := 2) (by decide) ?_
        refine al_Leg_8 M hW 2 rfl (by decide) (x := g 8 2) ((up2_d (by decide)).trans ((up2_d (by decide)).trans ((up2_k (by decide)).trans ((up2_d (by decide)).trans ((up2_d (by decide)).trans ((up2_k (by decide)).trans ((up2_d (by decide)).trans (up2_d (by decide))))))))) dX5_note_54 ?_
        refine as_Leg_8 M hW 3 rfl (by decide) dX5_note_55 (fun H locs hW => ?_)
        refine lv_iinc (v := 2) (lv' := [(4, .int 2), (0, .ref (a 5)), (1, .int x), (2, .int y), (3, .int z)]) hx hb dX5_note_56 hl (k := 0) rfl (by decide) (by decide) rfl (fun ls hl => ?_)
        refine lv_goto (tgt := 3) hx hb dX5_note_59 (by decide) ?_
        refine lv_iload hx hb dX5_note_3 (lv_at hl 0 rfl) ?_
        refine lv_if_le (tgt := 62) hx hb dX5_note_5 (by decide) (fun c_5_4 => ?_) (fun c_5_4 => ?_)
        · skip
          exact absurd c_5_4 (by decide)
        · skip
          refine lv_aload_n hx hb dX5_note_8 rfl (lv_at hl 1 rfl) ?_
          refine gt_Leg_5_0 M hW kw_47 dX5_note_9 ?_
          refine lv_iload hx hb dX5_note_12 (lv_at hl 0 rfl) ?_
          refine lv_aload_n hx hb dX5_note_14 rfl (lv_at hl 1 rfl) ?_
          refine gt_Leg_5_0 M hW kw_47 dX5_note_15 ?_
          refine lv_iload hx hb dX5_note_18 (lv_at hl 0 rfl) ?_
          refine lv_iconst (v := 1) hx hb dX5_note_20 (by decide) ?_
          refine lv_isub hx hb dX5_note_21 ?_
          refine r_top (y := 1) (by decide) ?_
          refine al_Leg_6 M hW 1 rfl (by decide) (x := g 6 1) ((up2_d (by decide)).trans ((up2_d (by decide)).trans ((up2_k (by decide)).trans ((up2_d (by decide)).trans ((up2_d (by decide)).trans ((up2_k (by decide)).trans ((up2_d (by decide)).trans ((up2_d (by decide)).trans (up2_k (by decide)))))))))) dX5_note_22 ?_
          refine as_Leg_6 M hW 2 rfl (by decide) dX5_note_23 (fun H locs hW => ?_)
          refine lv_aload_n hx hb dX5_note_24 rfl (lv_at hl 1 rfl) ?_
          refine gt_Leg_5_1 M hW kw_48 dX5_note_25 ?_
          refine lv_iload hx hb dX5_note_28 (lv_at hl 0 rfl) ?_
          refine lv_aload_n hx hb dX5_note_30 rfl (lv_at hl 1 rfl) ?_
          refine gt_Leg_5_1 M hW kw_48 dX5_note_31 ?_
          refine lv_iload hx hb dX5_note_34 (lv_at hl 0 rfl) ?_
          refine lv_iconst (v := 1) hx hb dX5_note_36 (by decide) ?_
          refine lv_isub hx hb dX5_note_37 ?_
          refine r_top (y := 1) (by decide) ?_
          refine al_Leg_7 M hW 1 rfl (by decide) (x := g 7 1) ((up2_d (by decide)).trans ((up2_d (by decide)).trans ((up2_k (by decide)).trans ((up2_d (by decide)).trans ((up2_d (by decide)).trans ((up2_k (by decide)).trans ((up2_d (by decide)).trans ((up2_d (by decide)).trans ((up2_k (by decide)).trans (up2_d (by decide))))))))))) dX5_note_38 ?_
          refine as_Leg_7 M hW 2 rfl (by decide) dX5_note_39 (fun H locs hW => ?_)
          refine lv_aload_n hx hb dX5_note_40 rfl (lv_at hl 1 rfl) ?_
          refine gt_Leg_5_2 M hW kw_49 dX5_note_41 ?_
          refine lv_iload hx hb dX5_note_44 (lv_at hl 0 rfl) ?_
          refine lv_aload_n hx hb dX5_note_46 rfl (lv_at hl 1 rfl) ?_
          refine gt_Leg_5_2 M hW kw_49 dX5_note_47 ?_
          refine lv_iload hx hb dX5_note_50 (lv_at hl 0 rfl) ?_
          refine lv_iconst (v := 1) hx hb dX5_note_52 (by decide) ?_
          refine lv_isub hx hb dX5_note_53 ?_
          refine r_top (y := 1) (by decide) ?_
          refine al_Leg_8 M hW 1 rfl (by decide) (x := g 8 1) ((up2_d (by decide)).trans ((up2_d (by decide)).trans ((up2_k (by decide)).trans ((up2_d (by decide)).trans ((up2_d (by decide)).trans ((up2_k (by decide)).trans ((up2_d (by decide)).trans ((up2_d (by decide)).trans ((up2_k (by decide)).trans ((up2_d (by decide)).trans (up2_d (by decide)))))))))))) dX5_note_54 ?_
          refine as_Leg_8 M hW 2 rfl (by decide) dX5_note_55 (fun H locs hW => ?_)
          refine lv_iinc (v := 1) (lv' := [(4, .int 1), (0, .ref (a 5)), (1, .int x), (2, .int y), (3, .int z)]) hx hb dX5_note_56 hl (k := 0) rfl (by decide) (by decide) rfl (fun ls hl => ?_)
          refine lv_goto (tgt := 3) hx hb dX5_note_59 (by decide) ?_
          refine lv_iload hx hb dX5_note_3 (lv_at hl 0 rfl) ?_
          refine lv_if_le (tgt := 62) hx hb dX5_note_5 (by decide) (fun c_5_5 => ?_) (fun c_5_5 => ?_)
          · skip
            exact absurd c_5_5 (by decide)
          · skip
            refine lv_aload_n hx hb dX5_note_8 rfl (lv_at hl 1 rfl) ?_
            refine gt_Leg_5_0 M hW kw_47 dX5_note_9 ?_
            refine lv_iload hx hb dX5_note_12 (lv_at hl 0 rfl) ?_
            refine lv_aload_n hx hb dX5_note_14 rfl (lv_at hl 1 rfl) ?_
            refine gt_Leg_5_0 M hW kw_47 dX5_note_15 ?_
            refine lv_iload hx hb dX5_note_18 (lv_at hl 0 rfl) ?_
            refine lv_iconst (v := 1) hx hb dX5_note_20 (by decide) ?_
            refine lv_isub hx hb dX5_note_21 ?_
            refine r_top (y := 0) (by decide) ?_
            refine al_Leg_6 M hW 0 rfl (by decide) (x := g 6 0) ((up2_d (by decide)).trans ((up2_d (by decide)).trans ((up2_k (by decide)).trans ((up2_d (by decide)).trans ((up2_d (by decide)).trans ((up2_k (by decide)).trans ((up2_d (by decide)).trans ((up2_d (by decide)).trans ((up2_k (by decide)).trans ((up2_d (by decide)).trans ((up2_d (by decide)).trans (up2_k (by decide))))))))))))) dX5_note_22 ?_
            refine as_Leg_6 M hW 1 rfl (by decide) dX5_note_23 (fun H locs hW => ?_)
            refine lv_aload_n hx hb dX5_note_24 rfl (lv_at hl 1 rfl) ?_
            refine gt_Leg_5_1 M hW kw_48 dX5_note_25 ?_
            refine lv_iload hx hb dX5_note_28 (lv_at hl 0 rfl) ?_
            refine lv_aload_n hx hb dX5_note_30 rfl (lv_at hl 1 rfl) ?_
            refine gt_Leg_5_1 M hW kw_48 dX5_note_31 ?_
            refine lv_iload hx hb dX5_note_34 (lv_at hl 0 rfl) ?_
            refine lv_iconst (v := 1) hx hb dX5_note_36 (by decide) ?_
            refine lv_isub hx hb dX5_note_37 ?_
            refine r_top (y := 0) (by decide) ?_
            refine al_Leg_7 M hW 0 rfl (by decide) (x := g 7 0) ((up2_d (by decide)).trans ((up2_d (by decide)).trans ((up2_k (by decide)).trans ((up2_d (by decide)).trans ((up2_d (by decide)).trans ((up2_k (by decide)).trans ((up2_d (by decide)).trans ((up2_d (by decide)).trans ((up2_k (by decide)).trans ((up2_d (by decide)).trans ((up2_d (by decide)).trans ((up2_k (by decide)).trans (up2_d (by decide)))))))))))))) dX5_note_38 ?_
            refine as_Leg_7 M hW 1 rfl (by decide) dX5_note_39 (fun H locs hW => ?_)
            refine lv_aload_n hx hb dX5_note_40 rfl (lv_at hl 1 rfl) ?_
            refine gt_Leg_5_2 M hW kw_49 dX5_note_41 ?_
            refine lv_iload hx hb dX5_note_44 (lv_at hl 0 rfl) ?_
            refine lv_aload_n hx hb dX5_note_46 rfl (lv_at hl 1 rfl) ?_
            refine gt_Leg_5_2 M hW kw_49 dX5_note_47 ?_
            refine lv_iload hx hb dX5_note_50 (lv_at hl 0 rfl) ?_
            refine lv_iconst (v := 1) hx hb dX5_note_52 (by decide) ?_
            refine lv_isub hx hb dX5_note_53 ?_
            refine r_top (y := 0) (by decide) ?_
            refine al_Leg_8 M hW 0 rfl (by decide) (x := g 8 0) ((up2_d (by decide)).trans ((up2_d (by decide)).trans ((up2_k (by decide)).trans ((up2_d (by decide)).trans ((up2_d (by decide)).trans ((up2_k (by decide)).trans ((up2_d (by decide)).trans ((up2_d (by decide)).trans ((up2_k (by decide)).trans ((up2_d (by decide)).trans ((up2_d (by decide)).trans ((up2_k (by decide)).trans ((up2_d (by decide)).trans (up2_d (by decide))))))))))))))) dX5_note_54 ?_
            refine as_Leg_8 M hW 1 rfl (by decide) dX5_note_55 (fun H locs hW => ?_)
            refine lv_iinc (v := 0) (lv' := [(4, .int 0), (0, .ref (a 5)), (1, .int x), (2, .int y), (3, .int z)]) hx hb dX5_note_56 hl (k := 0) rfl (by decide) (by decide) rfl (fun ls hl => ?_)
            refine lv_goto (tgt := 3) hx hb dX5_note_59 (by decide) ?_
            refine lv_iload hx hb dX5_note_3 (lv_at hl 0 rfl) ?_
            refine lv_if_le (tgt := 62) hx hb dX5_note_5 (by decide) (fun c_5_6 => ?_) (fun c_5_6 => ?_)
            · skip
              refine lv_aload_n hx hb dX5_note_62 rfl (lv_at hl 1 rfl) ?_
              refine gt_Leg_5_0 M hW kw_47 dX5_note_63 ?_
              refine lv_iconst (v := 0) hx hb dX5_note_66 (by decide) ?_
              refine lv_iload_n hx hb dX5_note_67 rfl (lv_at hl 2 rfl) ?_
              refine as_Leg_6 M hW 0 rfl (by decide) dX5_note_68 (fun H locs hW => ?_)
              refine lv_aload_n hx hb dX5_note_69 rfl (lv_at hl 1 rfl) ?_
              refine gt_Leg_5_1 M hW kw_48 dX5_note_70 ?_
              refine lv_iconst (v := 0) hx hb dX5_note_73 (by decide) ?_
              refine lv_iload_n hx hb dX5_note_74 rfl (lv_at hl 3 rfl) ?_
              refine as_Leg_7 M hW 0 rfl (by decide) dX5_note_75 (fun H locs hW => ?_)
              refine lv_aload_n hx hb dX5_note_76 rfl (lv_at hl 1 rfl) ?_
              refine gt_Leg_5_2 M hW kw_49 dX5_note_77 ?_
              refine lv_iconst (v := 0) hx hb dX5_note_80 (by decide) ?_
              refine lv_iload_n hx hb dX5_note_81 rfl (lv_at hl 4 rfl) ?_
              refine as_Leg_8 M hW 0 rfl (by decide) dX5_note_82 (fun H locs hW => ?_)
              refine lv_aload_n hx hb dX5_note_83 rfl (lv_at hl 1 rfl) ?_
              refine lv_bipush (v := 6) hx hb dX5_note_84 (by decide) ?_
              refine lv_aload_n hx hb dX5_note_86 rfl (lv_at hl 1 rfl) ?_
              refine gt_Leg_5_3 M hW kw_91 (x := g 5 3) ((up2_d (by decide)).trans ((up2_d (by decide)).trans ((up2_d (by decide)).trans ((up2_d (by decide)).trans ((up2_d (by decide)).trans ((up2_d (by decide)).trans ((up2_d (by decide)).trans ((up2_d (by decide)).trans ((up2_d (by decide)).trans ((up2_d (by decide)).trans ((up2_d (by decide)).trans ((up2_d (by decide)).trans ((up2_d (by decide)).trans ((up2_d (by decide)).trans ((up2_d (by decide)).trans ((up2_d (by decide)).trans ((up2_d (by decide)).trans (up2_d (by decide))))))))))))))))))) dX5_note_87 ?_
              refine lv_iconst (v := 1) hx hb dX5_note_90 (by decide) ?_
              refine lv_iadd hx hb dX5_note_91 ?_
              refine r_min M kw_164 kw_24 kw_21 kw_25 hl.1 (by decide) (Nat.le_of_ble_eq_true rfl) ⟨Nat.zero_le _, Nat.zero_le _⟩ dX5_note_92 ?_
              refine pt_Leg_5_3 M hW kw_91 dX5_note_95 (fun H locs hW => ?_)
              exact r_retv M hW (by rw [sX5_note]) ⟨rfl, rfl⟩ (Nat.zero_le _) (Nat.zero_le _) dX5_note_98
            · skip
              exact absurd c_5_6 (by decide)

def iterN {S : Type} (F : Nat → S → S) : Nat → S → S
  | 0, s => s
  | n + 1, s => F n (iterN F n s)
theorem iterN_succ {S : Type} (F : Nat → S → S) (n : Nat) (s : S) : iterN F (n + 1) s = F n (iterN F n s) := rfl
theorem clamp_lt31 (C : Int32) : C.toNatClampNeg < 2 ^ 31 := by
  have h := Int32.toInt_lt C
  show C.toInt.toNat < 2 ^ 31
  omega
theorem le_clamp (C : Int32) : C ≤ nI C.toNatClampNeg := by
  rw [Int32.le_iff_toInt_le, nI_toInt (clamp_lt31 C)]
  exact Int.self_le_toNat C.toInt
theorem lt_clamp {C : Int32} {i : Nat} (h : i < C.toNatClampNeg) : ¬ C ≤ nI i := by
  rw [Int32.le_iff_toInt_le, nI_toInt (Nat.lt_trans h (clamp_lt31 C))]
  have h2 : (C.toNatClampNeg : Int) = (C.toInt.toNat : Int) := rfl
  omega

def SizeOK (g : Nat → Nat → Int32) : Prop := ∃ n : Nat, n ≤ 6 ∧ g 5 3 = nI n
theorem iw_sz {g : Nat → Nat → Int32} (hsz : SizeOK g) {x : Int32} (h : ¬ rX6_isWithin x 0 (g 5 3 - 1) = 0) : x = nI x.toNatClampNeg ∧ x.toNatClampNeg < 6 := by
  obtain ⟨h1, h2⟩ := iw_1 h
  obtain ⟨n, hn, e⟩ := hsz
  obtain ⟨k, hk, e2⟩ := nI_of h1
  have ek : x.toNatClampNeg = k := by rw [e2]; exact nI_clamp hk
  rw [ek]
  refine ⟨e2, ?_⟩
  rw [e, e2] at h2
  by_cases hz : n = 0
  · subst hz
    exact absurd (by rw [Int32.lt_iff_toInt_lt, nI_toInt hk]; show (-1 : Int) < _; omega) h2
  · obtain ⟨m, rfl⟩ := Nat.exists_eq_succ_of_ne_zero hz
    rw [show nI (m.succ) - 1 = nI m from nI_pred m, Int32.lt_iff_toInt_lt, nI_toInt hk, nI_toInt (by omega)] at h2
    omega

def rX5_told6 (g : Nat → Nat → Int32) (x : Int32) : Int32 := if (rX6_isWithin x 0 ((g 5 3) - 1)) = 0 then (-105) else g 6 x.toNatClampNeg
set_option maxHeartbeats 4000000 in
set_option maxRecDepth 100000 in
/-- X5.told -/
theorem c_X5_told6 (l : Launch) (G : Gp) (a : Nat → Nat) (g : Nat → Nat → Int32) (x : Int32) (Y : va_W) (hsz : SizeOK g) : Cn l G yX5_told cX5_told 3 (some .int) 1 [.ref (a 5), .ref (a 6), .int x] (LegW G a g ++ Y) (some (.int (rX5_told6 g x))) (LegW G a g ++ Y) := by
  refine CnE.of (by decide) (Nat.le_of_ble_eq_true rfl) ?_
  intro p e s m below meth c ls M hnm hl hW
  have hx := M.1
  have hb := M.2.1
  have hl : lv_has ls 3 [(0, .ref (a 5)), (1, .ref (a 6)), (2, .int x)] := hl
  refine lv_iload_n hx hb dX5_told_0 rfl (lv_at hl 2 rfl) ?_
  refine lv_iconst (v := 0) hx hb dX5_told_1 (by decide) ?_
  refine lv_aload_n hx hb dX5_told_2 rfl (lv_at hl 0 rfl) ?_
  refine gt_Leg_5_3 M hW kw_91 (x := g 5 3) rfl dX5_told_3 ?_
  refine lv_iconst (v := 1) hx hb dX5_told_6 (by decide) ?_
  refine lv_isub hx hb dX5_told_7 ?_
  refine r_callSNi M hW (as := [.int x, .int 0, .int ((g 5 3) - 1)]) (c_X6_isWithin l G x 0 ((g 5 3) - 1) (LegW G a g ++ Y)) rfl kn_X5_41 kw_14 kw_15 kw_12 pl_X6_isWithin ⟨by decide, by decide⟩ ⟨Nat.zero_le _, Nat.zero_le _⟩ hl.1 rfl (Nat.le_of_ble_eq_true rfl) dX5_told_8 (fun H locs hW => ?_)
  refine lv_if_eq (tgt := 20) hx hb dX5_told_11 (by decide) (fun c_11 => ?_) (fun c_11 => ?_)
  · skip
    refine lv_bipush (v := (-105)) hx hb dX5_told_20 (by decide) ?_
    exact r_reti M hW rfl ⟨by rw [rX5_told6, if_pos c_11], rfl⟩ (Nat.zero_le _) (Nat.zero_le _) dX5_told_22
  · skip
    have hk := iw_sz hsz c_11
    refine lv_aload_n hx hb dX5_told_14 rfl (lv_at hl 1 rfl) ?_
    refine lv_iload_n hx hb dX5_told_15 rfl (lv_at hl 2 rfl) ?_
    refine al_Leg_6 M hW x.toNatClampNeg hk.1 hk.2 (x := g 6 x.toNatClampNeg) rfl dX5_told_16 ?_
    refine lv_goto (tgt := 22) hx hb dX5_told_17 (by decide) ?_
    exact r_reti M hW rfl ⟨by rw [rX5_told6, if_neg c_11], rfl⟩ (Nat.zero_le _) (Nat.zero_le _) dX5_told_22

def rX5_told7 (g : Nat → Nat → Int32) (x : Int32) : Int32 := if (rX6_isWithin x 0 ((g 5 3) - 1)) = 0 then (-105) else g 7 x.toNatClampNeg
set_option maxHeartbeats 4000000 in
set_option maxRecDepth 100000 in
/-- X5.told -/
theorem c_X5_told7 (l : Launch) (G : Gp) (a : Nat → Nat) (g : Nat → Nat → Int32) (x : Int32) (Y : va_W) (hsz : SizeOK g) : Cn l G yX5_told cX5_told 3 (some .int) 1 [.ref (a 5), .ref (a 7), .int x] (LegW G a g ++ Y) (some (.int (rX5_told7 g x))) (LegW G a g ++ Y) := by
  refine CnE.of (by decide) (Nat.le_of_ble_eq_true rfl) ?_
  intro p e s m below meth c ls M hnm hl hW
  have hx := M.1
  have hb := M.2.1
  have hl : lv_has ls 3 [(0, .ref (a 5)), (1, .ref (a 7)), (2, .int x)] := hl
  refine lv_iload_n hx hb dX5_told_0 rfl (lv_at hl 2 rfl) ?_
  refine lv_iconst (v := 0) hx hb dX5_told_1 (by decide) ?_
  refine lv_aload_n hx hb dX5_told_2 rfl (lv_at hl 0 rfl) ?_
  refine gt_Leg_5_3 M hW kw_91 (x := g 5 3) rfl dX5_told_3 ?_
  refine lv_iconst (v := 1) hx hb dX5_told_6 (by decide) ?_
  refine lv_isub hx hb dX5_told_7 ?_
  refine r_callSNi M hW (as := [.int x, .int 0, .int ((g 5 3) - 1)]) (c_X6_isWithin l G x 0 ((g 5 3) - 1) (LegW G a g ++ Y)) rfl kn_X5_41 kw_14 kw_15 kw_12 pl_X6_isWithin ⟨by decide, by decide⟩ ⟨Nat.zero_le _, Nat.zero_le _⟩ hl.1 rfl (Nat.le_of_ble_eq_true rfl) dX5_told_8 (fun H locs hW => ?_)
  refine lv_if_eq (tgt := 20) hx hb dX5_told_11 (by decide) (fun c_11 => ?_) (fun c_11 => ?_)
  · skip
    refine lv_bipush (v := (-105)) hx hb dX5_told_20 (by decide) ?_
    exact r_reti M hW rfl ⟨by rw [rX5_told7, if_pos c_11], rfl⟩ (Nat.zero_le _) (Nat.zero_le _) dX5_told_22
  · skip
    have hk := iw_sz hsz c_11
    refine lv_aload_n hx hb dX5_told_14 rfl (lv_at hl 1 rfl) ?_
    refine lv_iload_n hx hb dX5_told_15 rfl (lv_at hl 2 rfl) ?_
    refine al_Leg_7 M hW x.toNatClampNeg hk.1 hk.2 (x := g 7 x.toNatClampNeg) rfl dX5_told_16 ?_
    refine lv_goto (tgt := 22) hx hb dX5_told_17 (by decide) ?_
    exact r_reti M hW rfl ⟨by rw [rX5_told7, if_neg c_11], rfl⟩ (Nat.zero_le _) (Nat.zero_le _) dX5_told_22

def rX5_told8 (g : Nat → Nat → Int32) (x : Int32) : Int32 := if (rX6_isWithin x 0 ((g 5 3) - 1)) = 0 then (-105) else g 8 x.toNatClampNeg
set_option maxHeartbeats 4000000 in
set_option maxRecDepth 100000 in
/-- X5.told -/
theorem c_X5_told8 (l : Launch) (G : Gp) (a : Nat → Nat) (g : Nat → Nat → Int32) (x : Int32) (Y : va_W) (hsz : SizeOK g) : Cn l G yX5_told cX5_told 3 (some .int) 1 [.ref (a 5), .ref (a 8), .int x] (LegW G a g ++ Y) (some (.int (rX5_told8 g x))) (LegW G a g ++ Y) := by
  refine CnE.of (by decide) (Nat.le_of_ble_eq_true rfl) ?_
  intro p e s m below meth c ls M hnm hl hW
  have hx := M.1
  have hb := M.2.1
  have hl : lv_has ls 3 [(0, .ref (a 5)), (1, .ref (a 8)), (2, .int x)] := hl
  refine lv_iload_n hx hb dX5_told_0 rfl (lv_at hl 2 rfl) ?_
  refine lv_iconst (v := 0) hx hb dX5_told_1 (by decide) ?_
  refine lv_aload_n hx hb dX5_told_2 rfl (lv_at hl 0 rfl) ?_
  refine gt_Leg_5_3 M hW kw_91 (x := g 5 3) rfl dX5_told_3 ?_
  refine lv_iconst (v := 1) hx hb dX5_told_6 (by decide) ?_
  refine lv_isub hx hb dX5_told_7 ?_
  refine r_callSNi M hW (as := [.int x, .int 0, .int ((g 5 3) - 1)]) (c_X6_isWithin l G x 0 ((g 5 3) - 1) (LegW G a g ++ Y)) rfl kn_X5_41 kw_14 kw_15 kw_12 pl_X6_isWithin ⟨by decide, by decide⟩ ⟨Nat.zero_le _, Nat.zero_le _⟩ hl.1 rfl (Nat.le_of_ble_eq_true rfl) dX5_told_8 (fun H locs hW => ?_)
  refine lv_if_eq (tgt := 20) hx hb dX5_told_11 (by decide) (fun c_11 => ?_) (fun c_11 => ?_)
  · skip
    refine lv_bipush (v := (-105)) hx hb dX5_told_20 (by decide) ?_
    exact r_reti M hW rfl ⟨by rw [rX5_told8, if_pos c_11], rfl⟩ (Nat.zero_le _) (Nat.zero_le _) dX5_told_22
  · skip
    have hk := iw_sz hsz c_11
    refine lv_aload_n hx hb dX5_told_14 rfl (lv_at hl 1 rfl) ?_
    refine lv_iload_n hx hb dX5_told_15 rfl (lv_at hl 2 rfl) ?_
    refine al_Leg_8 M hW x.toNatClampNeg hk.1 hk.2 (x := g 8 x.toNatClampNeg) rfl dX5_told_16 ?_
    refine lv_goto (tgt := 22) hx hb dX5_told_17 (by decide) ?_
    exact r_reti M hW rfl ⟨by rw [rX5_told8, if_neg c_11], rfl⟩ (Nat.zero_le _) (Nat.zero_le _) dX5_told_22

def rX5_tickOf (g : Nat → Nat → Int32) (x : Int32) : Int32 := rX5_told6 g x
set_option maxHeartbeats 4000000 in
set_option maxRecDepth 100000 in
/-- X5.tickOf -/
theorem c_X5_tickOf (l : Launch) (G : Gp) (a : Nat → Nat) (g : Nat → Nat → Int32) (x : Int32) (Y : va_W) (hsz : SizeOK g) : Cn l G yX5_tickOf cX5_tickOf 2 (some .int) 2 [.ref (a 5), .int x] (LegW G a g ++ Y) (some (.int (rX5_tickOf g x))) (LegW G a g ++ Y) := by
  refine CnE.of (by decide) (Nat.le_of_ble_eq_true rfl) ?_
  intro p e s m below meth c ls M hnm hl hW
  have hx := M.1
  have hb := M.2.1
  have hl : lv_has ls 2 [(0, .ref (a 5)), (1, .int x)] := hl
  refine lv_aload_n hx hb dX5_tickOf_0 rfl (lv_at hl 0 rfl) ?_
  refine lv_aload_n hx hb dX5_tickOf_1 rfl (lv_at hl 0 rfl) ?_
  refine gt_Leg_5_0 M hW kw_47 dX5_tickOf_2 ?_
  refine lv_iload_n hx hb dX5_tickOf_5 rfl (lv_at hl 1 rfl) ?_
  refine r_callVi M hW (c_X5_told6 l G a g x (Y) hsz) rfl kw_247 kw_248 kw_249 kw_67 kw_245 pl_X5_told 5 rfl rfl ⟨by decide, by decide⟩ ⟨Nat.zero_le _, Nat.zero_le _⟩ hl.1 rfl (Nat.le_of_ble_eq_true rfl) dX5_tickOf_6 (fun H locs hW => ?_)
  exact r_reti M hW rfl ⟨by rw [rX5_tickOf], rfl⟩ (Nat.zero_le _) (Nat.zero_le _) dX5_tickOf_9

def rX5_sensorOf (g : Nat → Nat → Int32) (x : Int32) : Int32 := rX5_told7 g x
set_option maxHeartbeats 4000000 in
set_option maxRecDepth 100000 in
/-- X5.sensorOf -/
theorem c_X5_sensorOf (l : Launch) (G : Gp) (a : Nat → Nat) (g : Nat → Nat → Int32) (x : Int32) (Y : va_W) (hsz : SizeOK g) : Cn l G yX5_sensorOf cX5_sensorOf 2 (some .int) 2 [.ref (a 5), .int x] (LegW G a g ++ Y) (some (.int (rX5_sensorOf g x))) (LegW G a g ++ Y) := by
  refine CnE.of (by decide) (Nat.le_of_ble_eq_true rfl) ?_
  intro p e s m below meth c ls M hnm hl hW
  have hx := M.1
  have hb := M.2.1
  have hl : lv_has ls 2 [(0, .ref (a 5)), (1, .int x)] := hl
  refine lv_aload_n hx hb dX5_sensorOf_0 rfl (lv_at hl 0 rfl) ?_
  refine lv_aload_n hx hb dX5_sensorOf_1 rfl (lv_at hl 0 rfl) ?_
  refine gt_Leg_5_1 M hW kw_48 dX5_sensorOf_2 ?_
  refine lv_iload_n hx hb dX5_sensorOf_5 rfl (lv_at hl 1 rfl) ?_
  refine r_callVi M hW (c_X5_told7 l G a g x (Y) hsz) rfl kw_247 kw_248 kw_249 kw_67 kw_245 pl_X5_told 5 rfl rfl ⟨by decide, by decide⟩ ⟨Nat.zero_le _, Nat.zero_le _⟩ hl.1 rfl (Nat.le_of_ble_eq_true rfl) dX5_sensorOf_6 (fun H locs hW => ?_)
  exact r_reti M hW rfl ⟨by rw [rX5_sensorOf], rfl⟩ (Nat.zero_le _) (Nat.zero_le _) dX5_sensorOf_9

def rX5_loadOf (g : Nat → Nat → Int32) (x : Int32) : Int32 := rX5_told8 g x
set_option maxHeartbeats 4000000 in
set_option maxRecDepth 100000 in
/-- X5.loadOf -/
theorem c_X5_loadOf (l : Launch) (G : Gp) (a : Nat → Nat) (g : Nat → Nat → Int32) (x : Int32) (Y : va_W) (hsz : SizeOK g) : Cn l G yX5_loadOf cX5_loadOf 2 (some .int) 2 [.ref (a 5), .int x] (LegW G a g ++ Y) (some (.int (rX5_loadOf g x))) (LegW G a g ++ Y) := by
  refine CnE.of (by decide) (Nat.le_of_ble_eq_true rfl) ?_
  intro p e s m below meth c ls M hnm hl hW
  have hx := M.1
  have hb := M.2.1
  have hl : lv_has ls 2 [(0, .ref (a 5)), (1, .int x)] := hl
  refine lv_aload_n hx hb dX5_loadOf_0 rfl (lv_at hl 0 rfl) ?_
  refine lv_aload_n hx hb dX5_loadOf_1 rfl (lv_at hl 0 rfl) ?_
  refine gt_Leg_5_2 M hW kw_49 dX5_loadOf_2 ?_
  refine lv_iload_n hx hb dX5_loadOf_5 rfl (lv_at hl 1 rfl) ?_
  refine r_callVi M hW (c_X5_told8 l G a g x (Y) hsz) rfl kw_247 kw_248 kw_249 kw_67 kw_245 pl_X5_told 5 rfl rfl ⟨by decide, by decide⟩ ⟨Nat.zero_le _, Nat.zero_le _⟩ hl.1 rfl (Nat.le_of_ble_eq_true rfl) dX5_loadOf_6 (fun H locs hW => ?_)
  exact r_reti M hW rfl ⟨by rw [rX5_loadOf], rfl⟩ (Nat.zero_le _) (Nat.zero_le _) dX5_loadOf_9

def sX3_become (g2 : Nat → Nat → Int32) : Nat → Nat → Int32 := g2
set_option maxHeartbeats 4000000 in
set_option maxRecDepth 100000 in
/-- X3.become -/
theorem c_X3_become (l : Launch) (G : Gp) (a : Nat → Nat) (a2 : Nat → Nat) (g : Nat → Nat → Int32) (g2 : Nat → Nat → Int32) (Y : va_W) (hz1 : g2 0 6 = 0 ∨ g2 0 6 = 1) (hz2 : g2 0 7 = 0 ∨ g2 0 7 = 1) : Cn l G yX3_become cX3_become 2 none 3 [.ref (a 0), .ref (a2 0)] (LegW G a g ++ (LegW G a2 g2 ++ Y)) none (LegW G a (sX3_become g2) ++ (LegW G a2 g2 ++ Y)) := by
  refine CnE.of (by decide) (Nat.le_of_ble_eq_true rfl) ?_
  intro p e s m below meth c ls M hnm hl hW
  have hx := M.1
  have hb := M.2.1
  have hl : lv_has ls 2 [(0, .ref (a 0)), (1, .ref (a2 0))] := hl
  refine lv_aload_n hx hb dX3_become_0 rfl (lv_at hl 1 rfl) ?_
  refine gt_Leg_0_0 M hW.drop kw_57 dX3_become_1 ?_
  refine lv_iconst (v := 0) hx hb dX3_become_4 (by decide) ?_
  refine lv_aload_n hx hb dX3_become_5 rfl (lv_at hl 0 rfl) ?_
  refine gt_Leg_0_0 M hW kw_57 dX3_become_6 ?_
  refine lv_iconst (v := 0) hx hb dX3_become_9 (by decide) ?_
  refine lv_iconst (v := 5) hx hb dX3_become_10 (by decide) ?_
  refine cpy_Leg_1 M hW kw_92 hl.1 (by decide) (Nat.le_of_ble_eq_true rfl) dX3_become_11 (fun H locs hW => ?_)
  refine lv_aload_n hx hb dX3_become_14 rfl (lv_at hl 0 rfl) ?_
  refine gt_Leg_0_1 M hW kw_61 dX3_become_15 ?_
  refine lv_aload_n hx hb dX3_become_18 rfl (lv_at hl 1 rfl) ?_
  refine gt_Leg_0_1 M hW.drop kw_61 dX3_become_19 ?_
  refine r_callVv M hW (c_X0_become l G a a2 (cp2 g 1 (g2 1)) g2  (Y)) rfl kw_99 kw_100 kw_101 kw_60 kw_6 pl_X0_become 2 rfl rfl ⟨by decide, by decide⟩ ⟨Nat.zero_le _, Nat.zero_le _⟩ hl.1 rfl (Nat.le_of_ble_eq_true rfl) dX3_become_22 (fun H locs hW => ?_)
  refine lv_aload_n hx hb dX3_become_25 rfl (lv_at hl 0 rfl) ?_
  refine gt_Leg_0_2 M hW kw_64 dX3_become_26 ?_
  refine lv_aload_n hx hb dX3_become_29 rfl (lv_at hl 1 rfl) ?_
  refine gt_Leg_0_2 M hW.drop kw_64 dX3_become_30 ?_
  refine r_callVv M hW (c_X1_become l G a a2 (sX0_become (cp2 g 1 (g2 1)) g2) g2  (Y)) rfl kw_102 kw_103 kw_104 kw_43 kw_30 pl_X1_become 4 rfl rfl ⟨by decide, by decide⟩ ⟨Nat.zero_le _, Nat.zero_le _⟩ hl.1 rfl (Nat.le_of_ble_eq_true rfl) dX3_become_33 (fun H locs hW => ?_)
  refine lv_aload_n hx hb dX3_become_36 rfl (lv_at hl 0 rfl) ?_
  refine gt_Leg_0_3 M hW kw_68 dX3_become_37 ?_
  refine lv_aload_n hx hb dX3_become_40 rfl (lv_at hl 1 rfl) ?_
  refine gt_Leg_0_3 M hW.drop kw_68 dX3_become_41 ?_
  refine r_callVv M hW (c_X5_become l G a a2 (sX1_become (sX0_become (cp2 g 1 (g2 1)) g2) g2) g2  (Y)) rfl kw_105 kw_106 kw_107 kw_67 kw_89 pl_X5_become 5 rfl rfl ⟨by decide, by decide⟩ ⟨Nat.zero_le _, Nat.zero_le _⟩ hl.1 rfl (Nat.le_of_ble_eq_true rfl) dX3_become_44 (fun H locs hW => ?_)
  refine lv_aload_n hx hb dX3_become_47 rfl (lv_at hl 1 rfl) ?_
  refine gt_Leg_0_4 M hW.drop kw_69 dX3_become_48 ?_
  refine lv_iconst (v := 0) hx hb dX3_become_51 (by decide) ?_
  refine lv_aload_n hx hb dX3_become_52 rfl (lv_at hl 0 rfl) ?_
  refine gt_Leg_0_4 M hW kw_69 dX3_become_53 ?_
  refine lv_iconst (v := 0) hx hb dX3_become_56 (by decide) ?_
  refine lv_iconst (v := 3) hx hb dX3_become_57 (by decide) ?_
  refine cpy_Leg_9 M hW kw_92 hl.1 (by decide) (Nat.le_of_ble_eq_true rfl) dX3_become_58 (fun H locs hW => ?_)
  refine lv_aload_n hx hb dX3_become_61 rfl (lv_at hl 1 rfl) ?_
  refine gt_Leg_0_5 M hW.drop kw_70 dX3_become_62 ?_
  refine lv_iconst (v := 0) hx hb dX3_become_65 (by decide) ?_
  refine lv_aload_n hx hb dX3_become_66 rfl (lv_at hl 0 rfl) ?_
  refine gt_Leg_0_5 M hW kw_70 dX3_become_67 ?_
  refine lv_iconst (v := 0) hx hb dX3_become_70 (by decide) ?_
  refine lv_iconst (v := 3) hx hb dX3_become_71 (by decide) ?_
  refine cpy_Leg_10 M hW kw_92 hl.1 (by decide) (Nat.le_of_ble_eq_true rfl) dX3_become_72 (fun H locs hW => ?_)
  refine lv_aload_n hx hb dX3_become_75 rfl (lv_at hl 0 rfl) ?_
  refine lv_aload_n hx hb dX3_become_76 rfl (lv_at hl 1 rfl) ?_
  refine gt_Leg_0_6 M hW.drop kw_93 (x := g2 0 6) rfl dX3_become_77 ?_
  refine pt_Leg_0_6 M hW kw_93 hz1 dX3_become_80 (fun H locs hW => ?_)
  refine lv_aload_n hx hb dX3_become_83 rfl (lv_at hl 0 rfl) ?_
  refine lv_aload_n hx hb dX3_become_84 rfl (lv_at hl 1 rfl) ?_
  refine gt_Leg_0_7 M hW.drop kw_94 (x := g2 0 7) rfl dX3_become_85 ?_
  refine pt_Leg_0_7 M hW kw_94 hz2 dX3_become_88 (fun H locs hW => ?_)
  refine lv_aload_n hx hb dX3_become_91 rfl (lv_at hl 0 rfl) ?_
  refine lv_aload_n hx hb dX3_become_92 rfl (lv_at hl 1 rfl) ?_
  refine gt_Leg_0_8 M hW.drop kw_95 (x := g2 0 8) rfl dX3_become_93 ?_
  refine pt_Leg_0_8 M hW kw_95 dX3_become_96 (fun H locs hW => ?_)
  refine lv_aload_n hx hb dX3_become_99 rfl (lv_at hl 0 rfl) ?_
  refine lv_aload_n hx hb dX3_become_100 rfl (lv_at hl 1 rfl) ?_
  refine gt_Leg_0_9 M hW.drop kw_96 (x := g2 0 9) rfl dX3_become_101 ?_
  refine pt_Leg_0_9 M hW kw_96 dX3_become_104 (fun H locs hW => ?_)
  refine lv_aload_n hx hb dX3_become_107 rfl (lv_at hl 0 rfl) ?_
  refine lv_aload_n hx hb dX3_become_108 rfl (lv_at hl 1 rfl) ?_
  refine gt_Leg_0_10 M hW.drop kw_97 (x := g2 0 10) rfl dX3_become_109 ?_
  refine pt_Leg_0_10 M hW kw_97 dX3_become_112 (fun H locs hW => ?_)
  refine lv_aload_n hx hb dX3_become_115 rfl (lv_at hl 0 rfl) ?_
  refine lv_aload_n hx hb dX3_become_116 rfl (lv_at hl 1 rfl) ?_
  refine gt_Leg_0_11 M hW.drop kw_71 (x := g2 0 11) rfl dX3_become_117 ?_
  refine pt_Leg_0_11 M hW kw_71 dX3_become_120 (fun H locs hW => ?_)
  refine lv_aload_n hx hb dX3_become_123 rfl (lv_at hl 0 rfl) ?_
  refine lv_aload_n hx hb dX3_become_124 rfl (lv_at hl 1 rfl) ?_
  refine gt_Leg_0_12 M hW.drop kw_98 (x := g2 0 12) rfl dX3_become_125 ?_
  refine pt_Leg_0_12 M hW kw_98 dX3_become_128 (fun H locs hW => ?_)
  have hW : Wd G s (LegW G a g2 ++ (LegW G a2 g2 ++ Y)) H locs := hW.leg ⟨fun k h1 h2 => by rcases (show k = 6 ∨ k = 7 ∨ k = 8 ∨ k = 9 ∨ k = 10 ∨ k = 11 ∨ k = 12 by omega) with rfl | rfl | rfl | rfl | rfl | rfl | rfl <;> rfl, fun i hi => rfl, rfl, fun i hi => rfl, fun k h1 => by rcases (show k = 0 ∨ k = 1 ∨ k = 2 ∨ k = 3 ∨ k = 4 ∨ k = 5 by omega) with rfl | rfl | rfl | rfl | rfl | rfl <;> rfl, rfl, fun i hi => rfl, fun i hi => rfl, fun i hi => rfl, fun i hi => rfl, fun i hi => rfl⟩
  exact r_retv M hW (by rw [sX3_become]) ⟨rfl, rfl⟩ (Nat.zero_le _) (Nat.zero_le _) dX3_become_131

def rX3_setNumber (g : Nat → Nat → Int32) (x : Int32) (y : Int32) : Int32 := if (rX6_isWithin x 0 4) = 0 then (-101) else if (rX6_isWithin y (tLeast x.toNatClampNeg) (tMost x.toNatClampNeg)) = 0 then (-102) else if (g 1 x.toNatClampNeg) = y then (-105) else g 1 x.toNatClampNeg
def sX3_setNumber (g : Nat → Nat → Int32) (x : Int32) (y : Int32) : Nat → Nat → Int32 := if (rX6_isWithin x 0 4) = 0 then g else if (rX6_isWithin y (tLeast x.toNatClampNeg) (tMost x.toNatClampNeg)) = 0 then g else if (g 1 x.toNatClampNeg) = y then g else up2 g 1 x.toNatClampNeg y
set_option maxHeartbeats 4000000 in
set_option maxRecDepth 100000 in
/-- X3.setNumber -/
theorem c_X3_setNumber (l : Launch) (G : Gp) (a : Nat → Nat) (g : Nat → Nat → Int32) (x : Int32) (y : Int32) (Y : va_W) : Cn l G yX3_setNumber cX3_setNumber 4 (some .int) 1 [.ref (a 0), .int x, .int y] (LegW G a g ++ Y) (some (.int (rX3_setNumber g x y))) (LegW G a (sX3_setNumber g x y) ++ Y) := by
  refine CnE.of (by decide) (Nat.le_of_ble_eq_true rfl) ?_
  intro p e s m below meth c ls M hnm hl hW
  have hx := M.1
  have hb := M.2.1
  have hl : lv_has ls 4 [(0, .ref (a 0)), (1, .int x), (2, .int y)] := hl
  refine lv_iload_n hx hb dX3_setNumber_0 rfl (lv_at hl 1 rfl) ?_
  refine lv_iconst (v := 0) hx hb dX3_setNumber_1 (by decide) ?_
  refine lv_iconst (v := 4) hx hb dX3_setNumber_2 (by decide) ?_
  refine r_callSNi M hW (as := [.int x, .int 0, .int 4]) (c_X6_isWithin l G x 0 4 (LegW G a g ++ Y)) rfl kn_X3_89 kw_14 kw_15 kw_12 pl_X6_isWithin ⟨by decide, by decide⟩ ⟨Nat.zero_le _, Nat.zero_le _⟩ hl.1 rfl (Nat.le_of_ble_eq_true rfl) dX3_setNumber_3 (fun H locs hW => ?_)
  refine lv_if_ne (tgt := 12) hx hb dX3_setNumber_6 (by decide) (fun c_6 => ?_) (fun c_6 => ?_)
  · skip
    have hk := iw_c (n := 4) rfl (by decide) c_6
    refine lv_iload_n hx hb dX3_setNumber_12 rfl (lv_at hl 2 rfl) ?_
    refine r_getsN M hW M.2.2.2.2.2.2.2.2.1.2.1 kn_X3_93 dX3_setNumber_13 ?_
    refine lv_iload_n hx hb dX3_setNumber_16 rfl (lv_at hl 1 rfl) ?_
    refine r_tald M hW M.2.2.2.2.2.2.2.2.1.2.1 x.toNatClampNeg hk.1 (by omega) (by decide) (x := tLeast x.toNatClampNeg) rfl dX3_setNumber_17 ?_
    refine r_getsN M hW M.2.2.2.2.2.2.2.2.1.2.2.1 kn_X3_96 dX3_setNumber_18 ?_
    refine lv_iload_n hx hb dX3_setNumber_21 rfl (lv_at hl 1 rfl) ?_
    refine r_tald M hW M.2.2.2.2.2.2.2.2.1.2.2.1 x.toNatClampNeg hk.1 (by omega) (by decide) (x := tMost x.toNatClampNeg) rfl dX3_setNumber_22 ?_
    refine r_callSNi M hW (as := [.int y, .int (tLeast x.toNatClampNeg), .int (tMost x.toNatClampNeg)]) (c_X6_isWithin l G y (tLeast x.toNatClampNeg) (tMost x.toNatClampNeg) (LegW G a g ++ Y)) rfl kn_X3_89 kw_14 kw_15 kw_12 pl_X6_isWithin ⟨by decide, by decide⟩ ⟨Nat.zero_le _, Nat.zero_le _⟩ hl.1 rfl (Nat.le_of_ble_eq_true rfl) dX3_setNumber_23 (fun H locs hW => ?_)
    refine lv_if_ne (tgt := 32) hx hb dX3_setNumber_26 (by decide) (fun c_26 => ?_) (fun c_26 => ?_)
    · skip
      refine lv_aload_n hx hb dX3_setNumber_32 rfl (lv_at hl 0 rfl) ?_
      refine gt_Leg_0_0 M hW kw_57 dX3_setNumber_33 ?_
      refine lv_iload_n hx hb dX3_setNumber_36 rfl (lv_at hl 1 rfl) ?_
      refine al_Leg_1 M hW x.toNatClampNeg hk.1 (by omega) (x := g 1 x.toNatClampNeg) rfl dX3_setNumber_37 ?_
      refine lv_istore_n (lv' := [(3, .int (g 1 x.toNatClampNeg)), (0, .ref (a 0)), (1, .int x), (2, .int y)]) hx hb dX3_setNumber_38 rfl hl (by decide) rfl (fun ls hl => ?_)
      refine lv_iload_n hx hb dX3_setNumber_39 rfl (lv_at hl 0 rfl) ?_
      refine lv_iload_n hx hb dX3_setNumber_40 rfl (lv_at hl 3 rfl) ?_
      refine lv_icmp_ne (tgt := 47) hx hb dX3_setNumber_41 (by decide) (fun c_41 => ?_) (fun c_41 => ?_)
      · skip
        refine lv_aload_n hx hb dX3_setNumber_47 rfl (lv_at hl 1 rfl) ?_
        refine gt_Leg_0_0 M hW kw_57 dX3_setNumber_48 ?_
        refine lv_iload_n hx hb dX3_setNumber_51 rfl (lv_at hl 2 rfl) ?_
        refine lv_iload_n hx hb dX3_setNumber_52 rfl (lv_at hl 3 rfl) ?_
        refine as_Leg_1 M hW x.toNatClampNeg hk.1 (by omega) dX3_setNumber_53 (fun H locs hW => ?_)
        refine lv_iload_n hx hb dX3_setNumber_54 rfl (lv_at hl 0 rfl) ?_
        exact r_reti M hW (by rw [sX3_setNumber, if_neg c_6, if_neg c_26, if_neg c_41]) ⟨by rw [rX3_setNumber, if_neg c_6, if_neg c_26, if_neg c_41], rfl⟩ (Nat.zero_le _) (Nat.zero_le _) dX3_setNumber_55
      · skip
        refine lv_bipush (v := (-105)) hx hb dX3_setNumber_44 (by decide) ?_
        exact r_reti M hW (by rw [sX3_setNumber, if_neg c_6, if_neg c_26, if_pos c_41]) ⟨by rw [rX3_setNumber, if_neg c_6, if_neg c_26, if_pos c_41], rfl⟩ (Nat.zero_le _) (Nat.zero_le _) dX3_setNumber_46
    · skip
      refine lv_bipush (v := (-102)) hx hb dX3_setNumber_29 (by decide) ?_
      exact r_reti M hW (by rw [sX3_setNumber, if_neg c_6, if_pos c_26]) ⟨by rw [rX3_setNumber, if_neg c_6, if_pos c_26], rfl⟩ (Nat.zero_le _) (Nat.zero_le _) dX3_setNumber_31
  · skip
    refine lv_bipush (v := (-101)) hx hb dX3_setNumber_9 (by decide) ?_
    exact r_reti M hW (by rw [sX3_setNumber, if_pos c_6]) ⟨by rw [rX3_setNumber, if_pos c_6], rfl⟩ (Nat.zero_le _) (Nat.zero_le _) dX3_setNumber_11

def rX3_moveGate (g : Nat → Nat → Int32) (x : Int32) : Int32 := if x = 0 then (if (g 0 7) = x then (-105) else g 4 0) else if (g 0 11) = (-105) then (if (g 0 7) = x then (-105) else g 4 0) else (-104)
def sX3_moveGate (g : Nat → Nat → Int32) (x : Int32) : Nat → Nat → Int32 := if x = 0 then (if (g 0 7) = x then g else up2 g 0 7 x) else if (g 0 11) = (-105) then (if (g 0 7) = x then g else up2 g 0 7 x) else g
set_option maxHeartbeats 4000000 in
set_option maxRecDepth 100000 in
/-- X3.moveGate -/
theorem c_X3_moveGate (l : Launch) (G : Gp) (a : Nat → Nat) (g : Nat → Nat → Int32) (x : Int32) (Y : va_W) (hz : x = 0 ∨ x = 1) : Cn l G yX3_moveGate cX3_moveGate 2 (some .int) 0 [.ref (a 0), .int x] (LegW G a g ++ Y) (some (.int (rX3_moveGate g x))) (LegW G a (sX3_moveGate g x) ++ Y) := by
  refine CnE.of (by decide) (Nat.le_of_ble_eq_true rfl) ?_
  intro p e s m below meth c ls M hnm hl hW
  have hx := M.1
  have hb := M.2.1
  have hl : lv_has ls 2 [(0, .ref (a 0)), (1, .int x)] := hl
  refine lv_iload_n hx hb dX3_moveGate_0 rfl (lv_at hl 1 rfl) ?_
  refine lv_if_eq (tgt := 16) hx hb dX3_moveGate_1 (by decide) (fun c_1 => ?_) (fun c_1 => ?_)
  · skip
    refine lv_aload_n hx hb dX3_moveGate_16 rfl (lv_at hl 0 rfl) ?_
    refine gt_Leg_0_7 M hW kw_94 (x := g 0 7) rfl dX3_moveGate_17 ?_
    refine lv_iload_n hx hb dX3_moveGate_20 rfl (lv_at hl 1 rfl) ?_
    refine lv_icmp_ne (tgt := 27) hx hb dX3_moveGate_21 (by decide) (fun c_21 => ?_) (fun c_21 => ?_)
    · skip
      refine lv_aload_n hx hb dX3_moveGate_27 rfl (lv_at hl 0 rfl) ?_
      refine lv_iload_n hx hb dX3_moveGate_28 rfl (lv_at hl 1 rfl) ?_
      refine pt_Leg_0_7 M hW kw_94 hz dX3_moveGate_29 (fun H locs hW => ?_)
      refine lv_aload_n hx hb dX3_moveGate_32 rfl (lv_at hl 0 rfl) ?_
      refine gt_Leg_0_2 M hW kw_64 dX3_moveGate_33 ?_
      refine gt_Leg_4_0 M hW kw_121 (x := g 4 0) (up2_d (by decide)) dX3_moveGate_36 ?_
      exact r_reti M hW (by rw [sX3_moveGate, if_pos c_1, if_neg c_21]) ⟨by rw [rX3_moveGate, if_pos c_1, if_neg c_21], rfl⟩ (Nat.zero_le _) (Nat.zero_le _) dX3_moveGate_39
    · skip
      refine lv_bipush (v := (-105)) hx hb dX3_moveGate_24 (by decide) ?_
      exact r_reti M hW (by rw [sX3_moveGate, if_pos c_1, if_pos c_21]) ⟨by rw [rX3_moveGate, if_pos c_1, if_pos c_21], rfl⟩ (Nat.zero_le _) (Nat.zero_le _) dX3_moveGate_26
  · skip
    refine lv_aload_n hx hb dX3_moveGate_4 rfl (lv_at hl 0 rfl) ?_
    refine gt_Leg_0_11 M hW kw_71 (x := g 0 11) rfl dX3_moveGate_5 ?_
    refine lv_bipush (v := (-105)) hx hb dX3_moveGate_8 (by decide) ?_
    refine lv_icmp_eq (tgt := 16) hx hb dX3_moveGate_10 (by decide) (fun c_10 => ?_) (fun c_10 => ?_)
    · skip
      refine lv_aload_n hx hb dX3_moveGate_16 rfl (lv_at hl 0 rfl) ?_
      refine gt_Leg_0_7 M hW kw_94 (x := g 0 7) rfl dX3_moveGate_17 ?_
      refine lv_iload_n hx hb dX3_moveGate_20 rfl (lv_at hl 1 rfl) ?_
      refine lv_icmp_ne (tgt := 27) hx hb dX3_moveGate_21 (by decide) (fun c_21_2 => ?_) (fun c_21_2 => ?_)
      · skip
        refine lv_aload_n hx hb dX3_moveGate_27 rfl (lv_at hl 0 rfl) ?_
        refine lv_iload_n hx hb dX3_moveGate_28 rfl (lv_at hl 1 rfl) ?_
        refine pt_Leg_0_7 M hW kw_94 hz dX3_moveGate_29 (fun H locs hW => ?_)
        refine lv_aload_n hx hb dX3_moveGate_32 rfl (lv_at hl 0 rfl) ?_
        refine gt_Leg_0_2 M hW kw_64 dX3_moveGate_33 ?_
        refine gt_Leg_4_0 M hW kw_121 (x := g 4 0) (up2_d (by decide)) dX3_moveGate_36 ?_
        exact r_reti M hW (by rw [sX3_moveGate, if_neg c_1, if_pos c_10, if_neg c_21_2]) ⟨by rw [rX3_moveGate, if_neg c_1, if_pos c_10, if_neg c_21_2], rfl⟩ (Nat.zero_le _) (Nat.zero_le _) dX3_moveGate_39
      · skip
        refine lv_bipush (v := (-105)) hx hb dX3_moveGate_24 (by decide) ?_
        exact r_reti M hW (by rw [sX3_moveGate, if_neg c_1, if_pos c_10, if_pos c_21_2]) ⟨by rw [rX3_moveGate, if_neg c_1, if_pos c_10, if_pos c_21_2], rfl⟩ (Nat.zero_le _) (Nat.zero_le _) dX3_moveGate_26
    · skip
      refine lv_bipush (v := (-104)) hx hb dX3_moveGate_13 (by decide) ?_
      exact r_reti M hW (by rw [sX3_moveGate, if_neg c_1, if_neg c_10]) ⟨by rw [rX3_moveGate, if_neg c_1, if_neg c_10], rfl⟩ (Nat.zero_le _) (Nat.zero_le _) dX3_moveGate_15

def rX3_load (g : Nat → Nat → Int32) : Int32 := (rX0_onTheWayUp g) + ((imax 0 ((g 4 0) - 100)) / 2)
set_option maxHeartbeats 4000000 in
set_option maxRecDepth 100000 in
/-- X3.load -/
theorem c_X3_load (l : Launch) (G : Gp) (a : Nat → Nat) (g : Nat → Nat → Int32) (Y : va_W) (hOK : LegOK g) : Cn l G yX3_load cX3_load 1 (some .int) 1 [.ref (a 0)] (LegW G a g ++ Y) (some (.int (rX3_load g))) (LegW G a g ++ Y) := by
  refine CnE.of (by decide) (Nat.le_of_ble_eq_true rfl) ?_
  intro p e s m below meth c ls M hnm hl hW
  have hx := M.1
  have hb := M.2.1
  have hl : lv_has ls 1 [(0, .ref (a 0))] := hl
  refine lv_aload_n hx hb dX3_load_0 rfl (lv_at hl 0 rfl) ?_
  refine gt_Leg_0_1 M hW kw_61 dX3_load_1 ?_
  refine r_callVi M hW (c_X0_onTheWayUp l G a g  (Y) hOK) rfl kw_124 kw_125 kw_126 kw_60 kw_26 pl_X0_onTheWayUp 2 rfl rfl ⟨by decide, by decide⟩ ⟨Nat.zero_le _, Nat.zero_le _⟩ hl.1 rfl (Nat.le_of_ble_eq_true rfl) dX3_load_4 (fun H locs hW => ?_)
  refine lv_iconst (v := 0) hx hb dX3_load_7 (by decide) ?_
  refine lv_aload_n hx hb dX3_load_8 rfl (lv_at hl 0 rfl) ?_
  refine gt_Leg_0_2 M hW kw_64 dX3_load_9 ?_
  refine gt_Leg_4_0 M hW kw_121 (x := g 4 0) rfl dX3_load_12 ?_
  refine lv_bipush (v := 100) hx hb dX3_load_15 (by decide) ?_
  refine lv_isub hx hb dX3_load_17 ?_
  refine r_max M kw_123 kw_20 kw_21 kw_22 hl.1 (by decide) (Nat.le_of_ble_eq_true rfl) ⟨Nat.zero_le _, Nat.zero_le _⟩ dX3_load_18 ?_
  refine lv_iconst (v := 2) hx hb dX3_load_21 (by decide) ?_
  refine lv_idiv hx hb dX3_load_22 (by decide) ?_
  refine lv_iadd hx hb dX3_load_23 ?_
  exact r_reti M hW rfl ⟨by rw [rX3_load], rfl⟩ (Nat.zero_le _) (Nat.zero_le _) dX3_load_24

def rX3_slipOf (g : Nat → Nat → Int32) (x : Int32) : Int32 := imin 100 (2 * (imax 0 (x - (g 1 1))))
set_option maxHeartbeats 4000000 in
set_option maxRecDepth 100000 in
/-- X3.slipOf -/
theorem c_X3_slipOf (l : Launch) (G : Gp) (a : Nat → Nat) (g : Nat → Nat → Int32) (x : Int32) (Y : va_W) : Cn l G yX3_slipOf cX3_slipOf 3 (some .int) 1 [.ref (a 0), .int x] (LegW G a g ++ Y) (some (.int (rX3_slipOf g x))) (LegW G a g ++ Y) := by
  refine CnE.of (by decide) (Nat.le_of_ble_eq_true rfl) ?_
  intro p e s m below meth c ls M hnm hl hW
  have hx := M.1
  have hb := M.2.1
  have hl : lv_has ls 3 [(0, .ref (a 0)), (1, .int x)] := hl
  refine lv_iconst (v := 0) hx hb dX3_slipOf_0 (by decide) ?_
  refine lv_iload_n hx hb dX3_slipOf_1 rfl (lv_at hl 1 rfl) ?_
  refine lv_aload_n hx hb dX3_slipOf_2 rfl (lv_at hl 0 rfl) ?_
  refine gt_Leg_0_0 M hW kw_57 dX3_slipOf_3 ?_
  refine lv_iconst (v := 1) hx hb dX3_slipOf_6 (by decide) ?_
  refine al_Leg_1 M hW 1 rfl (by decide) (x := g 1 1) rfl dX3_slipOf_7 ?_
  refine lv_isub hx hb dX3_slipOf_8 ?_
  refine r_max M kw_123 kw_20 kw_21 kw_22 hl.1 (by decide) (Nat.le_of_ble_eq_true rfl) ⟨Nat.zero_le _, Nat.zero_le _⟩ dX3_slipOf_9 ?_
  refine lv_istore_n (lv' := [(2, .int (imax 0 (x - (g 1 1)))), (0, .ref (a 0)), (1, .int x)]) hx hb dX3_slipOf_12 rfl hl (by decide) rfl (fun ls hl => ?_)
  refine lv_bipush (v := 100) hx hb dX3_slipOf_13 (by decide) ?_
  refine lv_iconst (v := 2) hx hb dX3_slipOf_15 (by decide) ?_
  refine lv_iload_n hx hb dX3_slipOf_16 rfl (lv_at hl 0 rfl) ?_
  refine lv_imul hx hb dX3_slipOf_17 ?_
  refine r_min M kw_143 kw_24 kw_21 kw_25 hl.1 (by decide) (Nat.le_of_ble_eq_true rfl) ⟨Nat.zero_le _, Nat.zero_le _⟩ dX3_slipOf_18 ?_
  exact r_reti M hW rfl ⟨by rw [rX3_slipOf], rfl⟩ (Nat.zero_le _) (Nat.zero_le _) dX3_slipOf_21

def rX3_mayBeReset (g : Nat → Nat → Int32) : Int32 := if (g 0 11) = 0 then (if (g 1 1) < (rX3_load g) then 0 else 1) else if (g 0 11) = 1 then (if 150 ≤ (g 4 0) then 0 else 1) else if 50 ≤ (g 0 10) then 0 else 1
set_option maxHeartbeats 4000000 in
set_option maxRecDepth 100000 in
/-- X3.mayBeReset -/
theorem c_X3_mayBeReset (l : Launch) (G : Gp) (a : Nat → Nat) (g : Nat → Nat → Int32) (Y : va_W) (hOK : LegOK g) : Cn l G yX3_mayBeReset cX3_mayBeReset 1 (some .boolean) 2 [.ref (a 0)] (LegW G a g ++ Y) (some (.int (rX3_mayBeReset g))) (LegW G a g ++ Y) := by
  refine CnE.of (by decide) (Nat.le_of_ble_eq_true rfl) ?_
  intro p e s m below meth c ls M hnm hl hW
  have hx := M.1
  have hb := M.2.1
  have hl : lv_has ls 1 [(0, .ref (a 0))] := hl
  refine lv_aload_n hx hb dX3_mayBeReset_0 rfl (lv_at hl 0 rfl) ?_
  refine gt_Leg_0_11 M hW kw_71 (x := g 0 11) rfl dX3_mayBeReset_1 ?_
  by_cases c_4_0 : (g 0 11) = 0
  · skip
    refine lv_lookup (off := 28) (tgt := 32) hx hb dX3_mayBeReset_4 (by decide) (by rw [c_4_0]; rfl) (by decide) ?_
    refine lv_aload_n hx hb dX3_mayBeReset_32 rfl (lv_at hl 0 rfl) ?_
    refine r_callVi M hW (c_X3_load l G a g  (Y) hOK) rfl kw_128 kw_129 kw_130 kw_80 kw_122 pl_X3_load 0 rfl rfl ⟨by decide, by decide⟩ ⟨Nat.zero_le _, Nat.zero_le _⟩ hl.1 rfl (Nat.le_of_ble_eq_true rfl) dX3_mayBeReset_33 (fun H locs hW => ?_)
    refine lv_aload_n hx hb dX3_mayBeReset_36 rfl (lv_at hl 0 rfl) ?_
    refine gt_Leg_0_0 M hW kw_57 dX3_mayBeReset_37 ?_
    refine lv_iconst (v := 1) hx hb dX3_mayBeReset_40 (by decide) ?_
    refine al_Leg_1 M hW 1 rfl (by decide) (x := g 1 1) rfl dX3_mayBeReset_41 ?_
    refine lv_icmp_gt (tgt := 49) hx hb dX3_mayBeReset_42 (by decide) (fun c_42 => ?_) (fun c_42 => ?_)
    · skip
      refine lv_iconst (v := 0) hx hb dX3_mayBeReset_49 (by decide) ?_
      exact r_retz M rfl hW rfl ⟨by rw [rX3_mayBeReset, if_pos c_4_0, if_pos c_42], rfl⟩ (Nat.zero_le _) (Nat.zero_le _) dX3_mayBeReset_50
    · skip
      refine lv_iconst (v := 1) hx hb dX3_mayBeReset_45 (by decide) ?_
      refine lv_goto (tgt := 50) hx hb dX3_mayBeReset_46 (by decide) ?_
      exact r_retz M rfl hW rfl ⟨by rw [rX3_mayBeReset, if_pos c_4_0, if_neg c_42], rfl⟩ (Nat.zero_le _) (Nat.zero_le _) dX3_mayBeReset_50
  · skip
    by_cases c_4_1 : (g 0 11) = 1
    · skip
      refine lv_lookup (off := 47) (tgt := 51) hx hb dX3_mayBeReset_4 (by decide) (by rw [c_4_1]; rfl) (by decide) ?_
      refine lv_aload_n hx hb dX3_mayBeReset_51 rfl (lv_at hl 0 rfl) ?_
      refine gt_Leg_0_2 M hW kw_64 dX3_mayBeReset_52 ?_
      refine gt_Leg_4_0 M hW kw_121 (x := g 4 0) rfl dX3_mayBeReset_55 ?_
      refine lv_sipush (v := 150) hx hb dX3_mayBeReset_58 (by decide) ?_
      refine lv_icmp_ge (tgt := 68) hx hb dX3_mayBeReset_61 (by decide) (fun c_61 => ?_) (fun c_61 => ?_)
      · skip
        refine lv_iconst (v := 0) hx hb dX3_mayBeReset_68 (by decide) ?_
        exact r_retz M rfl hW rfl ⟨by rw [rX3_mayBeReset, if_neg c_4_0, if_pos c_4_1, if_pos c_61], rfl⟩ (Nat.zero_le _) (Nat.zero_le _) dX3_mayBeReset_69
      · skip
        refine lv_iconst (v := 1) hx hb dX3_mayBeReset_64 (by decide) ?_
        refine lv_goto (tgt := 69) hx hb dX3_mayBeReset_65 (by decide) ?_
        exact r_retz M rfl hW rfl ⟨by rw [rX3_mayBeReset, if_neg c_4_0, if_pos c_4_1, if_neg c_61], rfl⟩ (Nat.zero_le _) (Nat.zero_le _) dX3_mayBeReset_69
    · skip
      refine lv_lookup (off := 66) (tgt := 70) hx hb dX3_mayBeReset_4 (by decide) ((lv_osw c_4_0 (by decide)).trans ((lv_osw c_4_1 (by decide)).trans rfl)) (by decide) ?_
      refine lv_aload_n hx hb dX3_mayBeReset_70 rfl (lv_at hl 0 rfl) ?_
      refine gt_Leg_0_10 M hW kw_97 (x := g 0 10) rfl dX3_mayBeReset_71 ?_
      refine lv_bipush (v := 50) hx hb dX3_mayBeReset_74 (by decide) ?_
      refine lv_icmp_ge (tgt := 83) hx hb dX3_mayBeReset_76 (by decide) (fun c_76 => ?_) (fun c_76 => ?_)
      · skip
        refine lv_iconst (v := 0) hx hb dX3_mayBeReset_83 (by decide) ?_
        exact r_retz M rfl hW rfl ⟨by rw [rX3_mayBeReset, if_neg c_4_0, if_neg c_4_1, if_pos c_76], rfl⟩ (Nat.zero_le _) (Nat.zero_le _) dX3_mayBeReset_84
      · skip
        refine lv_iconst (v := 1) hx hb dX3_mayBeReset_79 (by decide) ?_
        refine lv_goto (tgt := 84) hx hb dX3_mayBeReset_80 (by decide) ?_
        exact r_retz M rfl hW rfl ⟨by rw [rX3_mayBeReset, if_neg c_4_0, if_neg c_4_1, if_neg c_76], rfl⟩ (Nat.zero_le _) (Nat.zero_le _) dX3_mayBeReset_84

def rX3_forgetReason (g : Nat → Nat → Int32) : Int32 := if (g 0 11) = (-105) then (-105) else if (rX3_mayBeReset g) = 0 then (-104) else g 0 11
def sX3_forgetReason (g : Nat → Nat → Int32) : Nat → Nat → Int32 := if (g 0 11) = (-105) then g else if (rX3_mayBeReset g) = 0 then g else up2 g 0 11 (-105)
set_option maxHeartbeats 4000000 in
set_option maxRecDepth 100000 in
/-- X3.forgetReason -/
theorem c_X3_forgetReason (l : Launch) (G : Gp) (a : Nat → Nat) (g : Nat → Nat → Int32) (Y : va_W) (hOK : LegOK g) : Cn l G yX3_forgetReason cX3_forgetReason 2 (some .int) 3 [.ref (a 0)] (LegW G a g ++ Y) (some (.int (rX3_forgetReason g))) (LegW G a (sX3_forgetReason g) ++ Y) := by
  refine CnE.of (by decide) (Nat.le_of_ble_eq_true rfl) ?_
  intro p e s m below meth c ls M hnm hl hW
  have hx := M.1
  have hb := M.2.1
  have hl : lv_has ls 2 [(0, .ref (a 0))] := hl
  refine lv_aload_n hx hb dX3_forgetReason_0 rfl (lv_at hl 0 rfl) ?_
  refine gt_Leg_0_11 M hW kw_71 (x := g 0 11) rfl dX3_forgetReason_1 ?_
  refine lv_bipush (v := (-105)) hx hb dX3_forgetReason_4 (by decide) ?_
  refine lv_icmp_ne (tgt := 12) hx hb dX3_forgetReason_6 (by decide) (fun c_6 => ?_) (fun c_6 => ?_)
  · skip
    refine lv_aload_n hx hb dX3_forgetReason_12 rfl (lv_at hl 0 rfl) ?_
    refine r_callVi M hW (c_X3_mayBeReset l G a g  (Y) hOK) rfl kw_136 kw_137 kw_138 kw_80 kw_135 pl_X3_mayBeReset 0 rfl rfl ⟨by decide, by decide⟩ ⟨Nat.zero_le _, Nat.zero_le _⟩ hl.1 rfl (Nat.le_of_ble_eq_true rfl) dX3_forgetReason_13 (fun H locs hW => ?_)
    refine lv_if_ne (tgt := 22) hx hb dX3_forgetReason_16 (by decide) (fun c_16 => ?_) (fun c_16 => ?_)
    · skip
      refine lv_aload_n hx hb dX3_forgetReason_22 rfl (lv_at hl 0 rfl) ?_
      refine gt_Leg_0_11 M hW kw_71 (x := g 0 11) rfl dX3_forgetReason_23 ?_
      refine lv_istore_n (lv' := [(1, .int (g 0 11)), (0, .ref (a 0))]) hx hb dX3_forgetReason_26 rfl hl (by decide) rfl (fun ls hl => ?_)
      refine lv_aload_n hx hb dX3_forgetReason_27 rfl (lv_at hl 1 rfl) ?_
      refine lv_bipush (v := (-105)) hx hb dX3_forgetReason_28 (by decide) ?_
      refine pt_Leg_0_11 M hW kw_71 dX3_forgetReason_30 (fun H locs hW => ?_)
      refine lv_iload_n hx hb dX3_forgetReason_33 rfl (lv_at hl 0 rfl) ?_
      exact r_reti M hW (by rw [sX3_forgetReason, if_neg c_6, if_neg c_16]) ⟨by rw [rX3_forgetReason, if_neg c_6, if_neg c_16], rfl⟩ (Nat.zero_le _) (Nat.zero_le _) dX3_forgetReason_34
    · skip
      refine lv_bipush (v := (-104)) hx hb dX3_forgetReason_19 (by decide) ?_
      exact r_reti M hW (by rw [sX3_forgetReason, if_neg c_6, if_pos c_16]) ⟨by rw [rX3_forgetReason, if_neg c_6, if_pos c_16], rfl⟩ (Nat.zero_le _) (Nat.zero_le _) dX3_forgetReason_21
  · skip
    refine lv_bipush (v := (-105)) hx hb dX3_forgetReason_9 (by decide) ?_
    exact r_reti M hW (by rw [sX3_forgetReason, if_pos c_6]) ⟨by rw [rX3_forgetReason, if_pos c_6], rfl⟩ (Nat.zero_le _) (Nat.zero_le _) dX3_forgetReason_11

def rX3_takeByHand (g : Nat → Nat → Int32) (x : Int32) : Int32 := if (rX6_isWithin x 1 300) = 0 then (-102) else if (g 0 6) = 0 then (if x ≤ (g 4 0) then (g 4 0) - x else (-104)) else (-104)
def sX3_takeByHand (g : Nat → Nat → Int32) (x : Int32) : Nat → Nat → Int32 := if (rX6_isWithin x 1 300) = 0 then g else if (g 0 6) = 0 then (if x ≤ (g 4 0) then up2 (up2 g 4 0 ((g 4 0) - x)) 4 4 ((g 4 4) + x) else g) else g
set_option maxHeartbeats 4000000 in
set_option maxRecDepth 100000 in
/-- X3.takeByHand -/
theorem c_X3_takeByHand (l : Launch) (G : Gp) (a : Nat → Nat) (g : Nat → Nat → Int32) (x : Int32) (Y : va_W) : Cn l G yX3_takeByHand cX3_takeByHand 2 (some .int) 1 [.ref (a 0), .int x] (LegW G a g ++ Y) (some (.int (rX3_takeByHand g x))) (LegW G a (sX3_takeByHand g x) ++ Y) := by
  refine CnE.of (by decide) (Nat.le_of_ble_eq_true rfl) ?_
  intro p e s m below meth c ls M hnm hl hW
  have hx := M.1
  have hb := M.2.1
  have hl : lv_has ls 2 [(0, .ref (a 0)), (1, .int x)] := hl
  refine lv_iload_n hx hb dX3_takeByHand_0 rfl (lv_at hl 1 rfl) ?_
  refine lv_iconst (v := 1) hx hb dX3_takeByHand_1 (by decide) ?_
  refine lv_sipush (v := 300) hx hb dX3_takeByHand_2 (by decide) ?_
  refine r_callSNi M hW (as := [.int x, .int 1, .int 300]) (c_X6_isWithin l G x 1 300 (LegW G a g ++ Y)) rfl kn_X3_89 kw_14 kw_15 kw_12 pl_X6_isWithin ⟨by decide, by decide⟩ ⟨Nat.zero_le _, Nat.zero_le _⟩ hl.1 rfl (Nat.le_of_ble_eq_true rfl) dX3_takeByHand_5 (fun H locs hW => ?_)
  refine lv_if_ne (tgt := 14) hx hb dX3_takeByHand_8 (by decide) (fun c_8 => ?_) (fun c_8 => ?_)
  · skip
    refine lv_aload_n hx hb dX3_takeByHand_14 rfl (lv_at hl 0 rfl) ?_
    refine gt_Leg_0_6 M hW kw_93 (x := g 0 6) rfl dX3_takeByHand_15 ?_
    refine lv_if_ne (tgt := 32) hx hb dX3_takeByHand_18 (by decide) (fun c_18 => ?_) (fun c_18 => ?_)
    · skip
      refine lv_bipush (v := (-104)) hx hb dX3_takeByHand_32 (by decide) ?_
      exact r_reti M hW (by rw [sX3_takeByHand, if_neg c_8, if_neg c_18]) ⟨by rw [rX3_takeByHand, if_neg c_8, if_neg c_18], rfl⟩ (Nat.zero_le _) (Nat.zero_le _) dX3_takeByHand_34
    · skip
      refine lv_iload_n hx hb dX3_takeByHand_21 rfl (lv_at hl 1 rfl) ?_
      refine lv_aload_n hx hb dX3_takeByHand_22 rfl (lv_at hl 0 rfl) ?_
      refine gt_Leg_0_2 M hW kw_64 dX3_takeByHand_23 ?_
      refine gt_Leg_4_0 M hW kw_121 (x := g 4 0) rfl dX3_takeByHand_26 ?_
      refine lv_icmp_le (tgt := 35) hx hb dX3_takeByHand_29 (by decide) (fun c_29 => ?_) (fun c_29 => ?_)
      · skip
        refine lv_aload_n hx hb dX3_takeByHand_35 rfl (lv_at hl 0 rfl) ?_
        refine gt_Leg_0_2 M hW kw_64 dX3_takeByHand_36 ?_
        refine lv_dup hx hb dX3_takeByHand_39 rfl ?_
        refine gt_Leg_4_0 M hW kw_121 (x := g 4 0) rfl dX3_takeByHand_40 ?_
        refine lv_iload_n hx hb dX3_takeByHand_43 rfl (lv_at hl 1 rfl) ?_
        refine lv_isub hx hb dX3_takeByHand_44 ?_
        refine pt_Leg_4_0 M hW kw_121 dX3_takeByHand_45 (fun H locs hW => ?_)
        refine lv_aload_n hx hb dX3_takeByHand_48 rfl (lv_at hl 0 rfl) ?_
        refine gt_Leg_0_2 M hW kw_64 dX3_takeByHand_49 ?_
        refine lv_dup hx hb dX3_takeByHand_52 rfl ?_
        refine gt_Leg_4_4 M hW kw_141 (x := g 4 4) (up2_k (by decide)) dX3_takeByHand_53 ?_
        refine lv_iload_n hx hb dX3_takeByHand_56 rfl (lv_at hl 1 rfl) ?_
        refine lv_iadd hx hb dX3_takeByHand_57 ?_
        refine pt_Leg_4_4 M hW kw_141 dX3_takeByHand_58 (fun H locs hW => ?_)
        refine lv_aload_n hx hb dX3_takeByHand_61 rfl (lv_at hl 0 rfl) ?_
        refine gt_Leg_0_2 M hW kw_64 dX3_takeByHand_62 ?_
        refine gt_Leg_4_0 M hW kw_121 (x := (g 4 0) - x) ((up2_k (by decide)).trans up2_s) dX3_takeByHand_65 ?_
        exact r_reti M hW (by rw [sX3_takeByHand, if_neg c_8, if_pos c_18, if_pos c_29]) ⟨by rw [rX3_takeByHand, if_neg c_8, if_pos c_18, if_pos c_29], rfl⟩ (Nat.zero_le _) (Nat.zero_le _) dX3_takeByHand_68
      · skip
        refine lv_bipush (v := (-104)) hx hb dX3_takeByHand_32 (by decide) ?_
        exact r_reti M hW (by rw [sX3_takeByHand, if_neg c_8, if_pos c_18, if_neg c_29]) ⟨by rw [rX3_takeByHand, if_neg c_8, if_pos c_18, if_neg c_29], rfl⟩ (Nat.zero_le _) (Nat.zero_le _) dX3_takeByHand_34
  · skip
    refine lv_bipush (v := (-102)) hx hb dX3_takeByHand_11 (by decide) ?_
    exact r_reti M hW (by rw [sX3_takeByHand, if_pos c_8]) ⟨by rw [rX3_takeByHand, if_pos c_8], rfl⟩ (Nat.zero_le _) (Nat.zero_le _) dX3_takeByHand_13

def rX3_seenBy (g : Nat → Nat → Int32) (x : Int32) : Int32 := if x = 0 then g 0 8 else if x = 1 then g 4 0 else g 0 10
set_option maxHeartbeats 4000000 in
set_option maxRecDepth 100000 in
/-- X3.seenBy -/
theorem c_X3_seenBy (l : Launch) (G : Gp) (a : Nat → Nat) (g : Nat → Nat → Int32) (x : Int32) (Y : va_W) : Cn l G yX3_seenBy cX3_seenBy 2 (some .int) 0 [.ref (a 0), .int x] (LegW G a g ++ Y) (some (.int (rX3_seenBy g x))) (LegW G a g ++ Y) := by
  refine CnE.of (by decide) (Nat.le_of_ble_eq_true rfl) ?_
  intro p e s m below meth c ls M hnm hl hW
  have hx := M.1
  have hb := M.2.1
  have hl : lv_has ls 2 [(0, .ref (a 0)), (1, .int x)] := hl
  refine lv_iload_n hx hb dX3_seenBy_0 rfl (lv_at hl 1 rfl) ?_
  by_cases c_1_0 : x = 0
  · skip
    refine lv_lookup (off := 27) (tgt := 28) hx hb dX3_seenBy_1 (by decide) (by rw [c_1_0]; rfl) (by decide) ?_
    refine lv_aload_n hx hb dX3_seenBy_28 rfl (lv_at hl 0 rfl) ?_
    refine gt_Leg_0_8 M hW kw_95 (x := g 0 8) rfl dX3_seenBy_29 ?_
    exact r_reti M hW rfl ⟨by rw [rX3_seenBy, if_pos c_1_0], rfl⟩ (Nat.zero_le _) (Nat.zero_le _) dX3_seenBy_32
  · skip
    by_cases c_1_1 : x = 1
    · skip
      refine lv_lookup (off := 32) (tgt := 33) hx hb dX3_seenBy_1 (by decide) (by rw [c_1_1]; rfl) (by decide) ?_
      refine lv_aload_n hx hb dX3_seenBy_33 rfl (lv_at hl 0 rfl) ?_
      refine gt_Leg_0_2 M hW kw_64 dX3_seenBy_34 ?_
      refine gt_Leg_4_0 M hW kw_121 (x := g 4 0) rfl dX3_seenBy_37 ?_
      exact r_reti M hW rfl ⟨by rw [rX3_seenBy, if_neg c_1_0, if_pos c_1_1], rfl⟩ (Nat.zero_le _) (Nat.zero_le _) dX3_seenBy_40
    · skip
      refine lv_lookup (off := 40) (tgt := 41) hx hb dX3_seenBy_1 (by decide) ((lv_osw c_1_0 (by decide)).trans ((lv_osw c_1_1 (by decide)).trans rfl)) (by decide) ?_
      refine lv_aload_n hx hb dX3_seenBy_41 rfl (lv_at hl 0 rfl) ?_
      refine gt_Leg_0_10 M hW kw_97 (x := g 0 10) rfl dX3_seenBy_42 ?_
      exact r_reti M hW rfl ⟨by rw [rX3_seenBy, if_neg c_1_0, if_neg c_1_1], rfl⟩ (Nat.zero_le _) (Nat.zero_le _) dX3_seenBy_45

def sX3_rub (g : Nat → Nat → Int32) : Nat → Nat → Int32 := up2 g 0 10 (imax 0 (((g 0 10) + ((g 0 9) * (imax 0 ((iabs (g 1 4)) - 3)))) - 2))
set_option maxHeartbeats 4000000 in
set_option maxRecDepth 100000 in
/-- X3.rub -/
theorem c_X3_rub (l : Launch) (G : Gp) (a : Nat → Nat) (g : Nat → Nat → Int32) (Y : va_W) : Cn l G yX3_rub cX3_rub 2 none 1 [.ref (a 0)] (LegW G a g ++ Y) none (LegW G a (sX3_rub g) ++ Y) := by
  refine CnE.of (by decide) (Nat.le_of_ble_eq_true rfl) ?_
  intro p e s m below meth c ls M hnm hl hW
  have hx := M.1
  have hb := M.2.1
  have hl : lv_has ls 2 [(0, .ref (a 0))] := hl
  refine lv_iconst (v := 0) hx hb dX3_rub_0 (by decide) ?_
  refine lv_aload_n hx hb dX3_rub_1 rfl (lv_at hl 0 rfl) ?_
  refine gt_Leg_0_0 M hW kw_57 dX3_rub_2 ?_
  refine lv_iconst (v := 4) hx hb dX3_rub_5 (by decide) ?_
  refine al_Leg_1 M hW 4 rfl (by decide) (x := g 1 4) rfl dX3_rub_6 ?_
  refine r_abs M kw_159 kw_160 kw_21 kw_161 hl.1 (by decide) (Nat.le_of_ble_eq_true rfl) ⟨Nat.zero_le _, Nat.zero_le _⟩ dX3_rub_7 ?_
  refine lv_iconst (v := 3) hx hb dX3_rub_10 (by decide) ?_
  refine lv_isub hx hb dX3_rub_11 ?_
  refine r_max M kw_123 kw_20 kw_21 kw_22 hl.1 (by decide) (Nat.le_of_ble_eq_true rfl) ⟨Nat.zero_le _, Nat.zero_le _⟩ dX3_rub_12 ?_
  refine lv_istore_n (lv' := [(1, .int (imax 0 ((iabs (g 1 4)) - 3))), (0, .ref (a 0))]) hx hb dX3_rub_15 rfl hl (by decide) rfl (fun ls hl => ?_)
  refine lv_aload_n hx hb dX3_rub_16 rfl (lv_at hl 1 rfl) ?_
  refine lv_iconst (v := 0) hx hb dX3_rub_17 (by decide) ?_
  refine lv_aload_n hx hb dX3_rub_18 rfl (lv_at hl 1 rfl) ?_
  refine gt_Leg_0_10 M hW kw_97 (x := g 0 10) rfl dX3_rub_19 ?_
  refine lv_aload_n hx hb dX3_rub_22 rfl (lv_at hl 1 rfl) ?_
  refine gt_Leg_0_9 M hW kw_96 (x := g 0 9) rfl dX3_rub_23 ?_
  refine lv_iload_n hx hb dX3_rub_26 rfl (lv_at hl 0 rfl) ?_
  refine lv_imul hx hb dX3_rub_27 ?_
  refine lv_iadd hx hb dX3_rub_28 ?_
  refine lv_iconst (v := 2) hx hb dX3_rub_29 (by decide) ?_
  refine lv_isub hx hb dX3_rub_30 ?_
  refine r_max M kw_123 kw_20 kw_21 kw_22 hl.1 (by decide) (Nat.le_of_ble_eq_true rfl) ⟨Nat.zero_le _, Nat.zero_le _⟩ dX3_rub_31 ?_
  refine pt_Leg_0_10 M hW kw_97 dX3_rub_34 (fun H locs hW => ?_)
  exact r_retv M hW (by rw [sX3_rub]) ⟨rfl, rfl⟩ (Nat.zero_le _) (Nat.zero_le _) dX3_rub_37

theorem LegOK.moveOn {g : Nat → Nat → Int32} : LegOK (sX0_moveOn g) := ⟨_, Nat.mod_lt _ (by decide), rfl⟩

def moveF (g : Nat → Nat → Int32) : Int32 := if (sX0_emptyAtHead (sX0_moveOn g)) 0 9 < 2 then (rX0_emptyAtHead (sX0_moveOn g)) / 2 else 0

def moveA (g : Nat → Nat → Int32) : Nat → Nat → Int32 := up2 (sX0_emptyAtHead (sX0_moveOn g)) 4 1 (((sX0_emptyAtHead (sX0_moveOn g)) 4 1) + ((rX0_emptyAtHead (sX0_moveOn g)) - (moveF g)))
def moveB (g : Nat → Nat → Int32) : Nat → Nat → Int32 := sX1_fallBack (moveA g) (moveF g)
theorem mvB_ok (g : Nat → Nat → Int32) : LegOK (moveB g) := by
  have e : (moveB g) 2 = (sX0_moveOn g) 2 := by
    unfold moveB moveA sX1_fallBack sX1_pourIntoBoot sX0_emptyAtHead
    simp only [up2_ne (show (2 : Nat) ≠ 4 by decide), up2_ne (show (2 : Nat) ≠ 3 by decide)]
  unfold LegOK
  rw [e]
  exact ⟨_, Nat.mod_lt (jB g + 11) (show 0 < 12 by decide), rfl⟩

def sX3_moveOneCell (g : Nat → Nat → Int32) : Nat → Nat → Int32 := up2 (sX0_fillInBoot (moveB g) ((moveB g) 4 0) ((moveB g) 1 3)) 4 0 (((moveB g) 4 0) - (rX0_fillInBoot (moveB g) ((moveB g) 4 0) ((moveB g) 1 3)))
set_option maxHeartbeats 4000000 in
set_option maxRecDepth 100000 in
/-- X3.moveOneCell -/
theorem c_X3_moveOneCell (l : Launch) (G : Gp) (a : Nat → Nat) (g : Nat → Nat → Int32) (Y : va_W) (hOK : LegOK g) : Cn l G yX3_moveOneCell cX3_moveOneCell 3 none 3 [.ref (a 0)] (LegW G a g ++ Y) none (LegW G a (sX3_moveOneCell g) ++ Y) := by
  refine CnE.of (by decide) (Nat.le_of_ble_eq_true rfl) ?_
  intro p e s m below meth c ls M hnm hl hW
  have hx := M.1
  have hb := M.2.1
  have hl : lv_has ls 3 [(0, .ref (a 0))] := hl
  refine lv_aload_n hx hb dX3_moveOneCell_0 rfl (lv_at hl 0 rfl) ?_
  refine gt_Leg_0_1 M hW kw_61 dX3_moveOneCell_1 ?_
  refine r_callVv M hW (c_X0_moveOn l G a g  (Y) hOK) rfl kw_145 kw_146 kw_147 kw_60 kw_16 pl_X0_moveOn 2 rfl rfl ⟨by decide, by decide⟩ ⟨Nat.zero_le _, Nat.zero_le _⟩ hl.1 rfl (Nat.le_of_ble_eq_true rfl) dX3_moveOneCell_4 (fun H locs hW => ?_)
  refine lv_aload_n hx hb dX3_moveOneCell_7 rfl (lv_at hl 0 rfl) ?_
  refine gt_Leg_0_1 M hW kw_61 dX3_moveOneCell_8 ?_
  refine r_callVi M hW (c_X0_emptyAtHead l G a (sX0_moveOn g)  (Y) LegOK.moveOn) rfl kw_148 kw_149 kw_150 kw_60 kw_17 pl_X0_emptyAtHead 2 rfl rfl ⟨by decide, by decide⟩ ⟨Nat.zero_le _, Nat.zero_le _⟩ hl.1 rfl (Nat.le_of_ble_eq_true rfl) dX3_moveOneCell_11 (fun H locs hW => ?_)
  refine lv_istore_n (lv' := [(1, .int (rX0_emptyAtHead (sX0_moveOn g))), (0, .ref (a 0))]) hx hb dX3_moveOneCell_14 rfl hl (by decide) rfl (fun ls hl => ?_)
  refine lv_aload_n hx hb dX3_moveOneCell_15 rfl (lv_at hl 1 rfl) ?_
  refine gt_Leg_0_9 M hW kw_96 (x := (sX0_emptyAtHead (sX0_moveOn g)) 0 9) rfl dX3_moveOneCell_16 ?_
  refine lv_iconst (v := 2) hx hb dX3_moveOneCell_19 (by decide) ?_
  refine r_cuti (pc2 := 30) (ls2 := ls) (st := []) (moveF g) (fun x_30 hx_30 => ?_) (fun hJ_30 => ?_)
  · skip
    subst hx_30
    refine lv_istore_n (lv' := [(2, .int (moveF g)), (1, .int (rX0_emptyAtHead (sX0_moveOn g))), (0, .ref (a 0))]) hx hb dX3_moveOneCell_30 rfl hl (by decide) rfl (fun ls hl => ?_)
    refine lv_aload_n hx hb dX3_moveOneCell_31 rfl (lv_at hl 2 rfl) ?_
    refine gt_Leg_0_2 M hW kw_64 dX3_moveOneCell_32 ?_
    refine lv_dup hx hb dX3_moveOneCell_35 rfl ?_
    refine gt_Leg_4_1 M hW kw_144 (x := (sX0_emptyAtHead (sX0_moveOn g)) 4 1) rfl dX3_moveOneCell_36 ?_
    refine lv_iload_n hx hb dX3_moveOneCell_39 rfl (lv_at hl 1 rfl) ?_
    refine lv_iload_n hx hb dX3_moveOneCell_40 rfl (lv_at hl 0 rfl) ?_
    refine lv_isub hx hb dX3_moveOneCell_41 ?_
    refine lv_iadd hx hb dX3_moveOneCell_42 ?_
    refine pt_Leg_4_1 M hW kw_144 dX3_moveOneCell_43 (fun H locs hW => ?_)
    have hW : Wd G s (LegW G a (moveA g) ++ Y) _ _ := hW
    refine lv_aload_n hx hb dX3_moveOneCell_46 rfl (lv_at hl 2 rfl) ?_
    refine gt_Leg_0_2 M hW kw_64 dX3_moveOneCell_47 ?_
    refine lv_iload_n hx hb dX3_moveOneCell_50 rfl (lv_at hl 0 rfl) ?_
    refine r_callVv M hW (c_X1_fallBack l G a (moveA g) (moveF g) (Y)) rfl kw_151 kw_152 kw_153 kw_43 kw_44 pl_X1_fallBack 4 rfl rfl ⟨by decide, by decide⟩ ⟨Nat.zero_le _, Nat.zero_le _⟩ hl.1 rfl (Nat.le_of_ble_eq_true rfl) dX3_moveOneCell_51 (fun H locs hW => ?_)
    have hW : Wd G s (LegW G a (moveB g) ++ Y) _ _ := hW
    have hOKB : LegOK (moveB g) := mvB_ok g
    refine lv_aload_n hx hb dX3_moveOneCell_54 rfl (lv_at hl 2 rfl) ?_
    refine gt_Leg_0_2 M hW kw_64 dX3_moveOneCell_55 ?_
    refine lv_dup hx hb dX3_moveOneCell_58 rfl ?_
    refine gt_Leg_4_0 M hW kw_121 (x := (moveB g) 4 0) rfl dX3_moveOneCell_59 ?_
    refine lv_aload_n hx hb dX3_moveOneCell_62 rfl (lv_at hl 2 rfl) ?_
    refine gt_Leg_0_1 M hW kw_61 dX3_moveOneCell_63 ?_
    refine lv_aload_n hx hb dX3_moveOneCell_66 rfl (lv_at hl 2 rfl) ?_
    refine gt_Leg_0_2 M hW kw_64 dX3_moveOneCell_67 ?_
    refine gt_Leg_4_0 M hW kw_121 (x := (moveB g) 4 0) rfl dX3_moveOneCell_70 ?_
    refine lv_aload_n hx hb dX3_moveOneCell_73 rfl (lv_at hl 2 rfl) ?_
    refine gt_Leg_0_0 M hW kw_57 dX3_moveOneCell_74 ?_
    refine lv_iconst (v := 3) hx hb dX3_moveOneCell_77 (by decide) ?_
    refine al_Leg_1 M hW 3 rfl (by decide) (x := (moveB g) 1 3) rfl dX3_moveOneCell_78 ?_
    refine r_callVi M hW (c_X0_fillInBoot l G a (moveB g) ((moveB g) 4 0) ((moveB g) 1 3) (Y) hOKB) rfl kw_154 kw_155 kw_156 kw_60 kw_18 pl_X0_fillInBoot 2 rfl rfl ⟨by decide, by decide⟩ ⟨Nat.zero_le _, Nat.zero_le _⟩ hl.1 rfl (Nat.le_of_ble_eq_true rfl) dX3_moveOneCell_79 (fun H locs hW => ?_)
    refine lv_isub hx hb dX3_moveOneCell_82 ?_
    refine pt_Leg_4_0 M hW kw_121 dX3_moveOneCell_83 (fun H locs hW => ?_)
    exact r_retv M hW (by rw [sX3_moveOneCell]) ⟨rfl, rfl⟩ (Nat.zero_le _) (Nat.zero_le _) dX3_moveOneCell_86
  · skip
    refine lv_icmp_lt (tgt := 27) hx hb dX3_moveOneCell_20 (by decide) (fun c_20 => ?_) (fun c_20 => ?_)
    · skip
      refine lv_iload_n hx hb dX3_moveOneCell_27 rfl (lv_at hl 0 rfl) ?_
      refine lv_iconst (v := 2) hx hb dX3_moveOneCell_28 (by decide) ?_
      refine lv_idiv hx hb dX3_moveOneCell_29 (by decide) ?_
      exact hJ_30 _ (by rw [moveF, if_pos c_20])
    · skip
      refine lv_iconst (v := 0) hx hb dX3_moveOneCell_23 (by decide) ?_
      refine lv_goto (tgt := 30) hx hb dX3_moveOneCell_24 (by decide) ?_
      exact hJ_30 _ (by rw [moveF, if_neg c_20])

def sX3_tripBy (g : Nat → Nat → Int32) (x : Int32) : Nat → Nat → Int32 := sX5_note (up2 (up2 (up2 g 0 6 0) 0 7 0) 0 11 x) (g 0 12) x (rX3_load (up2 (up2 (up2 g 0 6 0) 0 7 0) 0 11 x))
set_option maxHeartbeats 4000000 in
set_option maxRecDepth 100000 in
/-- X3.tripBy -/
theorem c_X3_tripBy (l : Launch) (G : Gp) (a : Nat → Nat) (g : Nat → Nat → Int32) (x : Int32) (Y : va_W) (hOK : LegOK g) : Cn l G yX3_tripBy cX3_tripBy 2 none 2 [.ref (a 0), .int x] (LegW G a g ++ Y) none (LegW G a (sX3_tripBy g x) ++ Y) := by
  refine CnE.of (by decide) (Nat.le_of_ble_eq_true rfl) ?_
  intro p e s m below meth c ls M hnm hl hW
  have hx := M.1
  have hb := M.2.1
  have hl : lv_has ls 2 [(0, .ref (a 0)), (1, .int x)] := hl
  refine lv_aload_n hx hb dX3_tripBy_0 rfl (lv_at hl 0 rfl) ?_
  refine lv_iconst (v := 0) hx hb dX3_tripBy_1 (by decide) ?_
  refine pt_Leg_0_6 M hW kw_93 (Or.inl rfl) dX3_tripBy_2 (fun H locs hW => ?_)
  refine lv_aload_n hx hb dX3_tripBy_5 rfl (lv_at hl 0 rfl) ?_
  refine lv_iconst (v := 0) hx hb dX3_tripBy_6 (by decide) ?_
  refine pt_Leg_0_7 M hW kw_94 (Or.inl rfl) dX3_tripBy_7 (fun H locs hW => ?_)
  refine lv_aload_n hx hb dX3_tripBy_10 rfl (lv_at hl 0 rfl) ?_
  refine lv_iload_n hx hb dX3_tripBy_11 rfl (lv_at hl 1 rfl) ?_
  refine pt_Leg_0_11 M hW kw_71 dX3_tripBy_12 (fun H locs hW => ?_)
  refine lv_aload_n hx hb dX3_tripBy_15 rfl (lv_at hl 0 rfl) ?_
  refine gt_Leg_0_3 M hW kw_68 dX3_tripBy_16 ?_
  refine lv_aload_n hx hb dX3_tripBy_19 rfl (lv_at hl 0 rfl) ?_
  refine gt_Leg_0_12 M hW kw_98 (x := g 0 12) ((up2_k (by decide)).trans ((up2_k (by decide)).trans (up2_k (by decide)))) dX3_tripBy_20 ?_
  refine lv_iload_n hx hb dX3_tripBy_23 rfl (lv_at hl 1 rfl) ?_
  refine lv_aload_n hx hb dX3_tripBy_24 rfl (lv_at hl 0 rfl) ?_
  refine r_callVi M hW (c_X3_load l G a (up2 (up2 (up2 g 0 6 0) 0 7 0) 0 11 x)  (Y) hOK) rfl kw_128 kw_129 kw_130 kw_80 kw_122 pl_X3_load 0 rfl rfl ⟨by decide, by decide⟩ ⟨Nat.zero_le _, Nat.zero_le _⟩ hl.1 rfl (Nat.le_of_ble_eq_true rfl) dX3_tripBy_25 (fun H locs hW => ?_)
  refine r_callVv M hW (c_X5_note l G a (up2 (up2 (up2 g 0 6 0) 0 7 0) 0 11 x) (g 0 12) x (rX3_load (up2 (up2 (up2 g 0 6 0) 0 7 0) 0 11 x)) (Y)) rfl kw_165 kw_166 kw_167 kw_67 kw_163 pl_X5_note 5 rfl rfl ⟨by decide, by decide⟩ ⟨Nat.zero_le _, Nat.zero_le _⟩ hl.1 rfl (Nat.le_of_ble_eq_true rfl) dX3_tripBy_28 (fun H locs hW => ?_)
  exact r_retv M hW (by rw [sX3_tripBy]) ⟨rfl, rfl⟩ (Nat.zero_le _) (Nat.zero_le _) dX3_tripBy_31

/-! what the small steps leave alone -/
theorem up2_0_1 (g : Nat → Nat → Int32) (i : Nat) (v : Int32) : up2 g 1 i v 0 = g 0 := up2_ne (by decide)
theorem up2_0_2 (g : Nat → Nat → Int32) (i : Nat) (v : Int32) : up2 g 2 i v 0 = g 0 := up2_ne (by decide)
theorem up2_0_3 (g : Nat → Nat → Int32) (i : Nat) (v : Int32) : up2 g 3 i v 0 = g 0 := up2_ne (by decide)
theorem up2_0_4 (g : Nat → Nat → Int32) (i : Nat) (v : Int32) : up2 g 4 i v 0 = g 0 := up2_ne (by decide)
theorem up2_0_5 (g : Nat → Nat → Int32) (i : Nat) (v : Int32) : up2 g 5 i v 0 = g 0 := up2_ne (by decide)
theorem up2_0_6 (g : Nat → Nat → Int32) (i : Nat) (v : Int32) : up2 g 6 i v 0 = g 0 := up2_ne (by decide)
theorem up2_0_7 (g : Nat → Nat → Int32) (i : Nat) (v : Int32) : up2 g 7 i v 0 = g 0 := up2_ne (by decide)
theorem up2_0_8 (g : Nat → Nat → Int32) (i : Nat) (v : Int32) : up2 g 8 i v 0 = g 0 := up2_ne (by decide)
theorem up2_0_9 (g : Nat → Nat → Int32) (i : Nat) (v : Int32) : up2 g 9 i v 0 = g 0 := up2_ne (by decide)
theorem up2_0_10 (g : Nat → Nat → Int32) (i : Nat) (v : Int32) : up2 g 10 i v 0 = g 0 := up2_ne (by decide)
theorem up2_1_0 (g : Nat → Nat → Int32) (i : Nat) (v : Int32) : up2 g 0 i v 1 = g 1 := up2_ne (by decide)
theorem up2_1_2 (g : Nat → Nat → Int32) (i : Nat) (v : Int32) : up2 g 2 i v 1 = g 1 := up2_ne (by decide)
theorem up2_1_3 (g : Nat → Nat → Int32) (i : Nat) (v : Int32) : up2 g 3 i v 1 = g 1 := up2_ne (by decide)
theorem up2_1_4 (g : Nat → Nat → Int32) (i : Nat) (v : Int32) : up2 g 4 i v 1 = g 1 := up2_ne (by decide)
theorem up2_1_5 (g : Nat → Nat → Int32) (i : Nat) (v : Int32) : up2 g 5 i v 1 = g 1 := up2_ne (by decide)
theorem up2_1_6 (g : Nat → Nat → Int32) (i : Nat) (v : Int32) : up2 g 6 i v 1 = g 1 := up2_ne (by decide)
theorem up2_1_7 (g : Nat → Nat → Int32) (i : Nat) (v : Int32) : up2 g 7 i v 1 = g 1 := up2_ne (by decide)
theorem up2_1_8 (g : Nat → Nat → Int32) (i : Nat) (v : Int32) : up2 g 8 i v 1 = g 1 := up2_ne (by decide)
theorem up2_1_9 (g : Nat → Nat → Int32) (i : Nat) (v : Int32) : up2 g 9 i v 1 = g 1 := up2_ne (by decide)
theorem up2_1_10 (g : Nat → Nat → Int32) (i : Nat) (v : Int32) : up2 g 10 i v 1 = g 1 := up2_ne (by decide)
theorem up2_2_0 (g : Nat → Nat → Int32) (i : Nat) (v : Int32) : up2 g 0 i v 2 = g 2 := up2_ne (by decide)
theorem up2_2_1 (g : Nat → Nat → Int32) (i : Nat) (v : Int32) : up2 g 1 i v 2 = g 2 := up2_ne (by decide)
theorem up2_2_3 (g : Nat → Nat → Int32) (i : Nat) (v : Int32) : up2 g 3 i v 2 = g 2 := up2_ne (by decide)
theorem up2_2_4 (g : Nat → Nat → Int32) (i : Nat) (v : Int32) : up2 g 4 i v 2 = g 2 := up2_ne (by decide)
theorem up2_2_5 (g : Nat → Nat → Int32) (i : Nat) (v : Int32) : up2 g 5 i v 2 = g 2 := up2_ne (by decide)
theorem up2_2_6 (g : Nat → Nat → Int32) (i : Nat) (v : Int32) : up2 g 6 i v 2 = g 2 := up2_ne (by decide)
theorem up2_2_7 (g : Nat → Nat → Int32) (i : Nat) (v : Int32) : up2 g 7 i v 2 = g 2 := up2_ne (by decide)
theorem up2_2_8 (g : Nat → Nat → Int32) (i : Nat) (v : Int32) : up2 g 8 i v 2 = g 2 := up2_ne (by decide)
theorem up2_2_9 (g : Nat → Nat → Int32) (i : Nat) (v : Int32) : up2 g 9 i v 2 = g 2 := up2_ne (by decide)
theorem up2_2_10 (g : Nat → Nat → Int32) (i : Nat) (v : Int32) : up2 g 10 i v 2 = g 2 := up2_ne (by decide)
theorem up2_3_0 (g : Nat → Nat → Int32) (i : Nat) (v : Int32) : up2 g 0 i v 3 = g 3 := up2_ne (by decide)
theorem up2_3_1 (g : Nat → Nat → Int32) (i : Nat) (v : Int32) : up2 g 1 i v 3 = g 3 := up2_ne (by decide)
theorem up2_3_2 (g : Nat → Nat → Int32) (i : Nat) (v : Int32) : up2 g 2 i v 3 = g 3 := up2_ne (by decide)
theorem up2_3_4 (g : Nat → Nat → Int32) (i : Nat) (v : Int32) : up2 g 4 i v 3 = g 3 := up2_ne (by decide)
theorem up2_3_5 (g : Nat → Nat → Int32) (i : Nat) (v : Int32) : up2 g 5 i v 3 = g 3 := up2_ne (by decide)
theorem up2_3_6 (g : Nat → Nat → Int32) (i : Nat) (v : Int32) : up2 g 6 i v 3 = g 3 := up2_ne (by decide)
theorem up2_3_7 (g : Nat → Nat → Int32) (i : Nat) (v : Int32) : up2 g 7 i v 3 = g 3 := up2_ne (by decide)
theorem up2_3_8 (g : Nat → Nat → Int32) (i : Nat) (v : Int32) : up2 g 8 i v 3 = g 3 := up2_ne (by decide)
theorem up2_3_9 (g : Nat → Nat → Int32) (i : Nat) (v : Int32) : up2 g 9 i v 3 = g 3 := up2_ne (by decide)
theorem up2_3_10 (g : Nat → Nat → Int32) (i : Nat) (v : Int32) : up2 g 10 i v 3 = g 3 := up2_ne (by decide)
theorem up2_4_0 (g : Nat → Nat → Int32) (i : Nat) (v : Int32) : up2 g 0 i v 4 = g 4 := up2_ne (by decide)
theorem up2_4_1 (g : Nat → Nat → Int32) (i : Nat) (v : Int32) : up2 g 1 i v 4 = g 4 := up2_ne (by decide)
theorem up2_4_2 (g : Nat → Nat → Int32) (i : Nat) (v : Int32) : up2 g 2 i v 4 = g 4 := up2_ne (by decide)
theorem up2_4_3 (g : Nat → Nat → Int32) (i : Nat) (v : Int32) : up2 g 3 i v 4 = g 4 := up2_ne (by decide)
theorem up2_4_5 (g : Nat → Nat → Int32) (i : Nat) (v : Int32) : up2 g 5 i v 4 = g 4 := up2_ne (by decide)
theorem up2_4_6 (g : Nat → Nat → Int32) (i : Nat) (v : Int32) : up2 g 6 i v 4 = g 4 := up2_ne (by decide)
theorem up2_4_7 (g : Nat → Nat → Int32) (i : Nat) (v : Int32) : up2 g 7 i v 4 = g 4 := up2_ne (by decide)
theorem up2_4_8 (g : Nat → Nat → Int32) (i : Nat) (v : Int32) : up2 g 8 i v 4 = g 4 := up2_ne (by decide)
theorem up2_4_9 (g : Nat → Nat → Int32) (i : Nat) (v : Int32) : up2 g 9 i v 4 = g 4 := up2_ne (by decide)
theorem up2_4_10 (g : Nat → Nat → Int32) (i : Nat) (v : Int32) : up2 g 10 i v 4 = g 4 := up2_ne (by decide)
theorem up2_5_0 (g : Nat → Nat → Int32) (i : Nat) (v : Int32) : up2 g 0 i v 5 = g 5 := up2_ne (by decide)
theorem up2_5_1 (g : Nat → Nat → Int32) (i : Nat) (v : Int32) : up2 g 1 i v 5 = g 5 := up2_ne (by decide)
theorem up2_5_2 (g : Nat → Nat → Int32) (i : Nat) (v : Int32) : up2 g 2 i v 5 = g 5 := up2_ne (by decide)
theorem up2_5_3 (g : Nat → Nat → Int32) (i : Nat) (v : Int32) : up2 g 3 i v 5 = g 5 := up2_ne (by decide)
theorem up2_5_4 (g : Nat → Nat → Int32) (i : Nat) (v : Int32) : up2 g 4 i v 5 = g 5 := up2_ne (by decide)
theorem up2_5_6 (g : Nat → Nat → Int32) (i : Nat) (v : Int32) : up2 g 6 i v 5 = g 5 := up2_ne (by decide)
theorem up2_5_7 (g : Nat → Nat → Int32) (i : Nat) (v : Int32) : up2 g 7 i v 5 = g 5 := up2_ne (by decide)
theorem up2_5_8 (g : Nat → Nat → Int32) (i : Nat) (v : Int32) : up2 g 8 i v 5 = g 5 := up2_ne (by decide)
theorem up2_5_9 (g : Nat → Nat → Int32) (i : Nat) (v : Int32) : up2 g 9 i v 5 = g 5 := up2_ne (by decide)
theorem up2_5_10 (g : Nat → Nat → Int32) (i : Nat) (v : Int32) : up2 g 10 i v 5 = g 5 := up2_ne (by decide)
theorem up2_6_0 (g : Nat → Nat → Int32) (i : Nat) (v : Int32) : up2 g 0 i v 6 = g 6 := up2_ne (by decide)
theorem up2_6_1 (g : Nat → Nat → Int32) (i : Nat) (v : Int32) : up2 g 1 i v 6 = g 6 := up2_ne (by decide)
theorem up2_6_2 (g : Nat → Nat → Int32) (i : Nat) (v : Int32) : up2 g 2 i v 6 = g 6 := up2_ne (by decide)
theorem up2_6_3 (g : Nat → Nat → Int32) (i : Nat) (v : Int32) : up2 g 3 i v 6 = g 6 := up2_ne (by decide)
theorem up2_6_4 (g : Nat → Nat → Int32) (i : Nat) (v : Int32) : up2 g 4 i v 6 = g 6 := up2_ne (by decide)
theorem up2_6_5 (g : Nat → Nat → Int32) (i : Nat) (v : Int32) : up2 g 5 i v 6 = g 6 := up2_ne (by decide)
theorem up2_6_7 (g : Nat → Nat → Int32) (i : Nat) (v : Int32) : up2 g 7 i v 6 = g 6 := up2_ne (by decide)
theorem up2_6_8 (g : Nat → Nat → Int32) (i : Nat) (v : Int32) : up2 g 8 i v 6 = g 6 := up2_ne (by decide)
theorem up2_6_9 (g : Nat → Nat → Int32) (i : Nat) (v : Int32) : up2 g 9 i v 6 = g 6 := up2_ne (by decide)
theorem up2_6_10 (g : Nat → Nat → Int32) (i : Nat) (v : Int32) : up2 g 10 i v 6 = g 6 := up2_ne (by decide)
theorem up2_7_0 (g : Nat → Nat → Int32) (i : Nat) (v : Int32) : up2 g 0 i v 7 = g 7 := up2_ne (by decide)
theorem up2_7_1 (g : Nat → Nat → Int32) (i : Nat) (v : Int32) : up2 g 1 i v 7 = g 7 := up2_ne (by decide)
theorem up2_7_2 (g : Nat → Nat → Int32) (i : Nat) (v : Int32) : up2 g 2 i v 7 = g 7 := up2_ne (by decide)
theorem up2_7_3 (g : Nat → Nat → Int32) (i : Nat) (v : Int32) : up2 g 3 i v 7 = g 7 := up2_ne (by decide)
theorem up2_7_4 (g : Nat → Nat → Int32) (i : Nat) (v : Int32) : up2 g 4 i v 7 = g 7 := up2_ne (by decide)
theorem up2_7_5 (g : Nat → Nat → Int32) (i : Nat) (v : Int32) : up2 g 5 i v 7 = g 7 := up2_ne (by decide)
theorem up2_7_6 (g : Nat → Nat → Int32) (i : Nat) (v : Int32) : up2 g 6 i v 7 = g 7 := up2_ne (by decide)
theorem up2_7_8 (g : Nat → Nat → Int32) (i : Nat) (v : Int32) : up2 g 8 i v 7 = g 7 := up2_ne (by decide)
theorem up2_7_9 (g : Nat → Nat → Int32) (i : Nat) (v : Int32) : up2 g 9 i v 7 = g 7 := up2_ne (by decide)
theorem up2_7_10 (g : Nat → Nat → Int32) (i : Nat) (v : Int32) : up2 g 10 i v 7 = g 7 := up2_ne (by decide)
theorem up2_8_0 (g : Nat → Nat → Int32) (i : Nat) (v : Int32) : up2 g 0 i v 8 = g 8 := up2_ne (by decide)
theorem up2_8_1 (g : Nat → Nat → Int32) (i : Nat) (v : Int32) : up2 g 1 i v 8 = g 8 := up2_ne (by decide)
theorem up2_8_2 (g : Nat → Nat → Int32) (i : Nat) (v : Int32) : up2 g 2 i v 8 = g 8 := up2_ne (by decide)
theorem up2_8_3 (g : Nat → Nat → Int32) (i : Nat) (v : Int32) : up2 g 3 i v 8 = g 8 := up2_ne (by decide)
theorem up2_8_4 (g : Nat → Nat → Int32) (i : Nat) (v : Int32) : up2 g 4 i v 8 = g 8 := up2_ne (by decide)
theorem up2_8_5 (g : Nat → Nat → Int32) (i : Nat) (v : Int32) : up2 g 5 i v 8 = g 8 := up2_ne (by decide)
theorem up2_8_6 (g : Nat → Nat → Int32) (i : Nat) (v : Int32) : up2 g 6 i v 8 = g 8 := up2_ne (by decide)
theorem up2_8_7 (g : Nat → Nat → Int32) (i : Nat) (v : Int32) : up2 g 7 i v 8 = g 8 := up2_ne (by decide)
theorem up2_8_9 (g : Nat → Nat → Int32) (i : Nat) (v : Int32) : up2 g 9 i v 8 = g 8 := up2_ne (by decide)
theorem up2_8_10 (g : Nat → Nat → Int32) (i : Nat) (v : Int32) : up2 g 10 i v 8 = g 8 := up2_ne (by decide)
theorem up2_9_0 (g : Nat → Nat → Int32) (i : Nat) (v : Int32) : up2 g 0 i v 9 = g 9 := up2_ne (by decide)
theorem up2_9_1 (g : Nat → Nat → Int32) (i : Nat) (v : Int32) : up2 g 1 i v 9 = g 9 := up2_ne (by decide)
theorem up2_9_2 (g : Nat → Nat → Int32) (i : Nat) (v : Int32) : up2 g 2 i v 9 = g 9 := up2_ne (by decide)
theorem up2_9_3 (g : Nat → Nat → Int32) (i : Nat) (v : Int32) : up2 g 3 i v 9 = g 9 := up2_ne (by decide)
theorem up2_9_4 (g : Nat → Nat → Int32) (i : Nat) (v : Int32) : up2 g 4 i v 9 = g 9 := up2_ne (by decide)
theorem up2_9_5 (g : Nat → Nat → Int32) (i : Nat) (v : Int32) : up2 g 5 i v 9 = g 9 := up2_ne (by decide)
theorem up2_9_6 (g : Nat → Nat → Int32) (i : Nat) (v : Int32) : up2 g 6 i v 9 = g 9 := up2_ne (by decide)
theorem up2_9_7 (g : Nat → Nat → Int32) (i : Nat) (v : Int32) : up2 g 7 i v 9 = g 9 := up2_ne (by decide)
theorem up2_9_8 (g : Nat → Nat → Int32) (i : Nat) (v : Int32) : up2 g 8 i v 9 = g 9 := up2_ne (by decide)
theorem up2_9_10 (g : Nat → Nat → Int32) (i : Nat) (v : Int32) : up2 g 10 i v 9 = g 9 := up2_ne (by decide)
theorem up2_10_0 (g : Nat → Nat → Int32) (i : Nat) (v : Int32) : up2 g 0 i v 10 = g 10 := up2_ne (by decide)
theorem up2_10_1 (g : Nat → Nat → Int32) (i : Nat) (v : Int32) : up2 g 1 i v 10 = g 10 := up2_ne (by decide)
theorem up2_10_2 (g : Nat → Nat → Int32) (i : Nat) (v : Int32) : up2 g 2 i v 10 = g 10 := up2_ne (by decide)
theorem up2_10_3 (g : Nat → Nat → Int32) (i : Nat) (v : Int32) : up2 g 3 i v 10 = g 10 := up2_ne (by decide)
theorem up2_10_4 (g : Nat → Nat → Int32) (i : Nat) (v : Int32) : up2 g 4 i v 10 = g 10 := up2_ne (by decide)
theorem up2_10_5 (g : Nat → Nat → Int32) (i : Nat) (v : Int32) : up2 g 5 i v 10 = g 10 := up2_ne (by decide)
theorem up2_10_6 (g : Nat → Nat → Int32) (i : Nat) (v : Int32) : up2 g 6 i v 10 = g 10 := up2_ne (by decide)
theorem up2_10_7 (g : Nat → Nat → Int32) (i : Nat) (v : Int32) : up2 g 7 i v 10 = g 10 := up2_ne (by decide)
theorem up2_10_8 (g : Nat → Nat → Int32) (i : Nat) (v : Int32) : up2 g 8 i v 10 = g 10 := up2_ne (by decide)
theorem up2_10_9 (g : Nat → Nat → Int32) (i : Nat) (v : Int32) : up2 g 9 i v 10 = g 10 := up2_ne (by decide)
theorem pour_c (g : Nat → Nat → Int32) (x : Int32) {a : Nat} (h : a ≠ 4) : sX1_pourIntoBoot g x a = g a := by unfold sX1_pourIntoBoot; rw [up2_ne h, up2_ne h]
theorem fall_c (g : Nat → Nat → Int32) (x : Int32) {a : Nat} (h : a ≠ 4) : sX1_fallBack g x a = g a := by unfold sX1_fallBack; rw [pour_c _ _ h, up2_ne h]
theorem feed_c (g : Nat → Nat → Int32) (x : Int32) {a : Nat} (h : a ≠ 4) : sX1_feedIn g x a = g a := by unfold sX1_feedIn; rw [pour_c _ _ h, up2_ne h]
theorem fall_2 (g : Nat → Nat → Int32) (x : Int32) : sX1_fallBack g x 2 = g 2 := fall_c g x (by decide)
theorem fall_0 (g : Nat → Nat → Int32) (x : Int32) : sX1_fallBack g x 0 = g 0 := fall_c g x (by decide)
theorem feed_2 (g : Nat → Nat → Int32) (x : Int32) : sX1_feedIn g x 2 = g 2 := feed_c g x (by decide)
theorem fill_2 (g : Nat → Nat → Int32) (x y : Int32) : sX0_fillInBoot g x y 2 = g 2 := up2_ne (by decide)
theorem fill_0 (g : Nat → Nat → Int32) (x y : Int32) : sX0_fillInBoot g x y 0 = g 0 := up2_ne (by decide)
theorem empty_2 (g : Nat → Nat → Int32) : sX0_emptyAtHead g 2 = g 2 := up2_ne (by decide)
theorem empty_0 (g : Nat → Nat → Int32) : sX0_emptyAtHead g 0 = g 0 := up2_ne (by decide)
theorem moveOn_0 (g : Nat → Nat → Int32) : sX0_moveOn g 0 = g 0 := up2_ne (by decide)
theorem note_c (g : Nat → Nat → Int32) (x y z : Int32) {a : Nat} (h5 : a ≠ 5) (h6 : a ≠ 6) (h7 : a ≠ 7) (h8 : a ≠ 8) : sX5_note g x y z a = g a := by
  unfold sX5_note
  simp only [up2_ne h5, up2_ne h6, up2_ne h7, up2_ne h8]
theorem tripBy_2 (g : Nat → Nat → Int32) (x : Int32) : sX3_tripBy g x 2 = g 2 := by
  unfold sX3_tripBy
  rw [note_c _ _ _ _ (by decide) (by decide) (by decide) (by decide), up2_2_0, up2_2_0, up2_2_0]
