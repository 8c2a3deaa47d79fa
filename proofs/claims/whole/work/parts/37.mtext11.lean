/-- what reads' loop keeps -/
def RI (h : Nat → Nat → Int32) : Prop := MAt h ∧ MLen h ∧ h 0 14 = nI (mK h) ∧ 2 * mK h ≤ mA h + 1
theorem mK_of {h : Nat → Nat → Int32} {n : Nat} (e : h 0 14 = nI n) (hn : n < 1000) : mK h = n := by rw [mK, e]; exact nI_clamp (by omega)
theorem RI.k {h : Nat → Nat → Int32} (H : RI h) : mK h ≤ 30 := by
  have h1 := H.1.eq
  have h2 := H.2.2.2
  omega
theorem MAt.end2 {h : Nat → Nat → Int32} (ha : MAt h) (hl : MLen h) (e : 60 ≤ mA h) : h 0 8 ≤ h 0 11 := by
  have h1 := ha.eq
  have h2 := hl.eq
  rw [h1.1, h2.1, Int32.le_iff_toInt_le, nI_toInt (by omega), nI_toInt (by omega)]
  omega
/-- readsCommand where the place has moved on by one since the count was taken -/
theorem RI.cmd {h : Nat → Nat → Int32} {c : Nat} (ha : MAt h) (hl : MLen h) (hk : h 0 14 = nI c) (hc : 2 * c ≤ mA h) : RI (sX7_readsCommand h) ∧ mA h ≤ mA (sX7_readsCommand h) := by
  have ha' := ha.eq
  have hK := mK_of hk (by omega)
  obtain ⟨q1, q2, j, q3, q4, q5⟩ := rdc_keep ha hl ⟨by omega, by rw [hK]; exact hk⟩
  rw [hK] at q4
  have hK2 := mK_of q4 (by omega)
  refine ⟨⟨q1, MLen.of q2 hl, by rw [hK2]; exact q4, ?_⟩, by omega⟩
  rw [hK2]
  omega
theorem reE_ok {u : Nat → Nat → Int32} (hl : MLen u) : MAt (reE u) ∧ MLen (reE u) ∧ (reE u) 0 14 = nI 0 := by
  unfold reE
  have e11 : (up2 (up2 (up2 u 0 11 0) 0 12 1) 0 14 0) 0 11 = nI 0 := (up2_k (by decide)).trans ((up2_k (by decide)).trans up2_s)
  exact ⟨⟨0, by decide, e11⟩, MLen.of (h := u) ((up2_k (by decide)).trans ((up2_k (by decide)).trans (up2_k (by decide)))) hl, up2_s⟩
theorem reE_K {u : Nat → Nat → Int32} (hl : MLen u) : mK (reE u) < 32 ∧ (reE u) 0 14 = nI (mK (reE u)) := by
  have h := (reE_ok hl).2.2
  have e := mK_of h (by decide)
  rw [e]
  exact ⟨by decide, h⟩
theorem RI.first {u : Nat → Nat → Int32} (hl : MLen u) : RI (sX7_readsCommand (reE u)) := by
  have h := reE_ok hl
  exact (RI.cmd (c := 0) h.1 h.2.1 h.2.2 (Nat.zero_le _)).1
theorem RI.comma {h : Nat → Nat → Int32} (H : RI h) (c : ¬ h 0 8 ≤ h 0 11) : RI (reK h) ∧ (¬ reW h = 0 → RI (sX7_readsCommand (reK h)) ∧ mA h + 1 ≤ mA (sX7_readsCommand (reK h))) ∧ mK (reK h) < 32 ∧ (reK h) 0 14 = nI (mK (reK h)) := by
  have hk := H.k
  obtain ⟨h1, h2, h3, h4⟩ := H
  have ht := reK_at h1 h2 c
  have he := reK_e h
  have e14 : (reK h) 0 14 = nI (mK h) := he.2.2.trans h3
  have hK := mK_of e14 (by omega)
  have hl := MLen.of he.1 h2
  refine ⟨⟨ht.1, hl, by rw [hK]; exact e14, by rw [hK]; omega⟩, fun d => ?_, by omega, by rw [hK]; exact e14⟩
  have hm := ht.2.2 d
  have r := RI.cmd (c := mK h) ht.1 hl e14 (by omega)
  exact ⟨r.1, by omega⟩
theorem rsS_RI : ∀ (n : Nat) (h : Nat → Nat → Int32), RI h → RI (rsS n h) := by
  intro n
  induction n with
  | zero => exact fun h H => H
  | succ n ih =>
    intro h H
    rw [rsS]
    by_cases c1 : (h 0 12) = 0
    · rw [if_pos c1]; exact H
    rw [if_neg c1]
    by_cases c2 : (h 0 8) ≤ (h 0 11)
    · rw [if_pos c2]; exact H
    rw [if_neg c2]
    have r := H.comma c2
    by_cases c3 : (reW h) = 0
    · rw [if_pos c3]; exact ih _ r.1
    · rw [if_neg c3]; exact ih _ (r.2.1 c3).1
theorem reads_RI {u : Nat → Nat → Int32} (hl : MLen u) : RI (sX7_reads u) := rsS_RI 60 _ (RI.first hl)

set_option maxHeartbeats 4000000 in
set_option maxRecDepth 100000 in
/-- X7.reads -/
theorem c_X7_reads (l : Launch) (G : Gp) (b : Nat → Nat) (u : Nat → Nat → Int32) (Y : va_W) (hl0 : MLen u) : Cn l G yX7_reads cX7_reads 1 (some .int) 5 [.ref (b 0)] (ModW G b u ++ Y) (some (.int (rX7_reads u))) (ModW G b (sX7_reads u) ++ Y) := by
  refine CnE.of (by decide) (Nat.le_of_ble_eq_true rfl) ?_
  intro p e s m below meth c ls M hnm hl hW
  have hx := M.1
  have hb := M.2.1
  have hl : lv_has ls 1 [(0, .ref (b 0))] := hl
  refine lv_aload_n hx hb dX7_reads_0 rfl (lv_at hl 0 rfl) ?_
  refine lv_iconst (v := 0) hx hb dX7_reads_1 (by decide) ?_
  refine pt_Mod_0_11 M hW kw_487 dX7_reads_2 (fun H locs hW => ?_)
  refine lv_aload_n hx hb dX7_reads_5 rfl (lv_at hl 0 rfl) ?_
  refine lv_iconst (v := 1) hx hb dX7_reads_6 (by decide) ?_
  refine pt_Mod_0_12 M hW kw_489 (Or.inr rfl) dX7_reads_7 (fun H locs hW => ?_)
  refine lv_aload_n hx hb dX7_reads_10 rfl (lv_at hl 0 rfl) ?_
  refine lv_iconst (v := 0) hx hb dX7_reads_11 (by decide) ?_
  refine pt_Mod_0_14 M hW kw_502 dX7_reads_12 (fun H locs hW => ?_)
  have hW : Wd G s (ModW G b (reE u) ++ Y) _ _ := hW
  refine lv_aload_n hx hb dX7_reads_15 rfl (lv_at hl 0 rfl) ?_
  refine r_callVv M hW (c_X7_readsCommand l G b (reE u)  (Y) (reE_ok hl0).1 (reE_ok hl0).2.1 (reE_K hl0)) rfl kw_509 kw_510 kw_511 kw_412 kw_508 pl_X7_readsCommand 0 rfl rfl ⟨by decide, by decide⟩ ⟨Nat.zero_le _, Nat.zero_le _⟩ hl.1 rfl (Nat.le_of_ble_eq_true rfl) dX7_reads_16 (fun H locs hW => ?_)
  refine r_cut (σ := Nat → Nat → Int32) (fun q H1 l1 => q = sX7_reads u ∧ Wd G s (ModW G b q ++ Y) H1 l1) (fun q => F0 m 90 ls []) (fun h H locs hI => ?_) (fun hJ_90 => ?_)
  · skip
    obtain ⟨hh, hW⟩ := hI
    refine lv_aload_n hx hb dX7_reads_90 rfl (lv_at hl 0 rfl) ?_
    refine gt_Mod_0_12 M hW kw_489 (x := h 0 12) rfl dX7_reads_91 ?_
    refine lv_if_eq (tgt := 102) hx hb dX7_reads_94 (by decide) (fun c_94 => ?_) (fun c_94 => ?_)
    · skip
      refine lv_aload_n hx hb dX7_reads_102 rfl (lv_at hl 0 rfl) ?_
      refine gt_Mod_0_11 M hW kw_487 (x := h 0 11) rfl dX7_reads_103 ?_
      exact r_reti M hW (by rw [hh]) ⟨by rw [rX7_reads, ← hh, if_pos c_94], rfl⟩ (Nat.zero_le _) (Nat.zero_le _) dX7_reads_106
    · skip
      refine lv_bipush (v := (-105)) hx hb dX7_reads_97 (by decide) ?_
      refine lv_goto (tgt := 106) hx hb dX7_reads_99 (by decide) ?_
      exact r_reti M hW (by rw [hh]) ⟨by rw [rX7_reads, ← hh, if_neg c_94], rfl⟩ (Nat.zero_le _) (Nat.zero_le _) dX7_reads_106
  · skip
    refine r_loop (σ := Nat → Nat → Int32) (fun r h H1 l1 => (RI h ∧ (60 ≤ mA h + r ∨ h 0 12 = 0) ∧ rsS r h = sX7_reads u) ∧ Wd G s (ModW G b h ++ Y) H1 l1) (fun _ => F0 m 19 ls []) ?_ ?_ 60 (sX7_readsCommand (reE u)) _ _ ?_
    · skip
      intro h H locs hI
      obtain ⟨⟨hR, hu, hg⟩, hW⟩ := hI
      refine lv_aload_n hx hb dX7_reads_19 rfl (lv_at hl 0 rfl) ?_
      refine gt_Mod_0_12 M hW kw_489 (x := h 0 12) rfl dX7_reads_20 ?_
      refine lv_if_eq (tgt := 90) hx hb dX7_reads_23 (by decide) (fun c_23 => ?_) (fun c_23 => ?_)
      · skip
        exact hJ_90 h _ _ ⟨by rw [← hg, rsS], hW⟩
      · skip
        refine lv_aload_n hx hb dX7_reads_26 rfl (lv_at hl 0 rfl) ?_
        refine gt_Mod_0_11 M hW kw_487 (x := h 0 11) rfl dX7_reads_27 ?_
        refine lv_aload_n hx hb dX7_reads_30 rfl (lv_at hl 0 rfl) ?_
        refine gt_Mod_0_8 M hW kw_484 (x := h 0 8) rfl dX7_reads_31 ?_
        refine lv_icmp_ge (tgt := 90) hx hb dX7_reads_34 (by decide) (fun c_34 => ?_) (fun c_34 => ?_)
        · skip
          exact hJ_90 h _ _ ⟨by rw [← hg, rsS], hW⟩
        · skip
          exact absurd (MAt.end2 hR.1 hR.2.1 (hu.resolve_right c_23)) c_34
    · skip
      intro n ih h H locs hI
      obtain ⟨⟨hR, hu, hg⟩, hW⟩ := hI
      refine lv_aload_n hx hb dX7_reads_19 rfl (lv_at hl 0 rfl) ?_
      refine gt_Mod_0_12 M hW kw_489 (x := h 0 12) rfl dX7_reads_20 ?_
      refine lv_if_eq (tgt := 90) hx hb dX7_reads_23 (by decide) (fun c_23_2 => ?_) (fun c_23_2 => ?_)
      · skip
        exact hJ_90 h _ _ ⟨by rw [← hg, rsS, if_pos c_23_2], hW⟩
      · skip
        refine lv_aload_n hx hb dX7_reads_26 rfl (lv_at hl 0 rfl) ?_
        refine gt_Mod_0_11 M hW kw_487 (x := h 0 11) rfl dX7_reads_27 ?_
        refine lv_aload_n hx hb dX7_reads_30 rfl (lv_at hl 0 rfl) ?_
        refine gt_Mod_0_8 M hW kw_484 (x := h 0 8) rfl dX7_reads_31 ?_
        refine lv_icmp_ge (tgt := 90) hx hb dX7_reads_34 (by decide) (fun c_34_2 => ?_) (fun c_34_2 => ?_)
        · skip
          exact hJ_90 h _ _ ⟨by rw [← hg, rsS, if_neg c_23_2, if_pos c_34_2], hW⟩
        · skip
          refine lv_aload_n hx hb dX7_reads_37 rfl (lv_at hl 0 rfl) ?_
          refine lv_aload_n hx hb dX7_reads_38 rfl (lv_at hl 0 rfl) ?_
          refine r_callVi M hW (c_X7_sign l G b h  (Y) hR.1 hR.2.1) rfl kw_490 kw_491 kw_492 kw_412 kw_486 pl_X7_sign 0 rfl rfl ⟨by decide, by decide⟩ ⟨Nat.zero_le _, Nat.zero_le _⟩ hl.1 rfl (Nat.le_of_ble_eq_true rfl) dX7_reads_39 (fun H locs hW => ?_)
          refine lv_bipush (v := 44) hx hb dX7_reads_42 (by decide) ?_
          refine r_cuti (pc2 := 52) (ls2 := ls) (st := [.ref (b 0)]) (reW h) (fun x_52 hx_52 => ?_) (fun hJ_52 => ?_)
          · skip
            rewrite [hx_52]
            refine pt_Mod_0_12 M hW kw_489 (reW_01 _) dX7_reads_52 (fun H locs hW => ?_)
            refine lv_aload_n hx hb dX7_reads_55 rfl (lv_at hl 0 rfl) ?_
            refine lv_dup hx hb dX7_reads_56 rfl ?_
            refine gt_Mod_0_11 M hW kw_487 (x := h 0 11) (up2_k (by decide)) dX7_reads_57 ?_
            refine lv_aload_n hx hb dX7_reads_60 rfl (lv_at hl 0 rfl) ?_
            refine gt_Mod_0_12 M hW kw_489 (x := reW h) ((up2_s)) dX7_reads_61 ?_
            refine r_cuti (pc2 := 72) (ls2 := ls) (st := [.int (h 0 11), .ref (b 0)]) (b01 (reW h)) (fun x_72 hx_72 => ?_) (fun hJ_72 => ?_)
            · skip
              rewrite [hx_72]
              refine lv_iadd hx hb dX7_reads_72 ?_
              refine pt_Mod_0_11 M hW kw_487 dX7_reads_73 (fun H locs hW => ?_)
              have hW : Wd G s (ModW G b (reK h) ++ Y) _ _ := hW
              refine lv_aload_n hx hb dX7_reads_76 rfl (lv_at hl 0 rfl) ?_
              refine gt_Mod_0_12 M hW kw_489 (x := reW h) (reK_e h).2.1 dX7_reads_77 ?_
              refine lv_if_eq (tgt := 19) hx hb dX7_reads_80 (by decide) (fun c_80 => ?_) (fun c_80 => ?_)
              · skip
                have hg2 : rsS n (reK h) = sX7_reads u := by rw [← hg, rsS, if_neg c_23_2, if_neg c_34_2, if_pos c_80]
                exact ih (reK h) _ _ ⟨⟨(hR.comma c_34_2).1, Or.inr ((reK_e h).2.1.trans c_80), hg2⟩, hW⟩
              · skip
                refine lv_aload_n hx hb dX7_reads_83 rfl (lv_at hl 0 rfl) ?_
                refine r_callVv M hW (c_X7_readsCommand l G b (reK h)  (Y) (hR.comma c_34_2).1.1 (hR.comma c_34_2).1.2.1 (hR.comma c_34_2).2.2) rfl kw_509 kw_510 kw_511 kw_412 kw_508 pl_X7_readsCommand 0 rfl rfl ⟨by decide, by decide⟩ ⟨Nat.zero_le _, Nat.zero_le _⟩ hl.1 rfl (Nat.le_of_ble_eq_true rfl) dX7_reads_84 (fun H locs hW => ?_)
                refine lv_goto (tgt := 19) hx hb dX7_reads_87 (by decide) ?_
                have hg2 : rsS n (sX7_readsCommand (reK h)) = sX7_reads u := by rw [← hg, rsS, if_neg c_23_2, if_neg c_34_2, if_neg c_80]
                have hc2 := (hR.comma c_34_2).2.1 c_80
                have c12 := c_23_2
                have hu2 : 60 ≤ mA h + (n + 1) := hu.resolve_right c12
                exact ih (sX7_readsCommand (reK h)) _ _ ⟨⟨hc2.1, Or.inl (by have := hc2.2; omega), hg2⟩, hW⟩
            · skip
              refine lv_if_eq (tgt := 71) hx hb dX7_reads_64 (by decide) (fun c_64 => ?_) (fun c_64 => ?_)
              · skip
                refine lv_iconst (v := 0) hx hb dX7_reads_71 (by decide) ?_
                exact hJ_72 _ (by rw [b01, if_pos c_64])
              · skip
                refine lv_iconst (v := 1) hx hb dX7_reads_67 (by decide) ?_
                refine lv_goto (tgt := 72) hx hb dX7_reads_68 (by decide) ?_
                exact hJ_72 _ (by rw [b01, if_neg c_64])
          · skip
            refine lv_icmp_ne (tgt := 51) hx hb dX7_reads_44 (by decide) (fun c_44 => ?_) (fun c_44 => ?_)
            · skip
              refine lv_iconst (v := 0) hx hb dX7_reads_51 (by decide) ?_
              exact hJ_52 _ (by rw [reW, if_neg c_44])
            · skip
              refine lv_iconst (v := 1) hx hb dX7_reads_47 (by decide) ?_
              refine lv_goto (tgt := 52) hx hb dX7_reads_48 (by decide) ?_
              exact hJ_52 _ (by rw [reW, if_pos c_44])
    · skip
      exact ⟨⟨RI.first hl0, Or.inl (Nat.le_add_left _ _), rfl⟩, hW⟩
