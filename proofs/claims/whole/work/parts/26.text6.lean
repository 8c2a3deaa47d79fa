theorem TLen.of {h k : Nat → Nat → Int32} (e : k 0 1 = h 0 1) (H : TLen h) : TLen k := by
  obtain ⟨n, a, b⟩ := H
  exact ⟨n, a, e.trans b⟩
theorem rnS_01 (y : Int32) : ∀ (n : Nat) (h : Nat → Nat → Int32) (z : Int32), (rnS y n h z) 0 1 = h 0 1 := by
  intro n
  induction n with
  | zero => exact fun h z => up2_d (by decide)
  | succ n ih =>
    intro h z
    rw [rnS]
    by_cases c1 : z = 0
    · rw [if_pos c1]; exact up2_d (by decide)
    · rw [if_neg c1]
      by_cases c2 : rX4_nextDigit h = (-1)
      · rw [if_pos c2]; exact up2_d (by decide)
      · rw [if_neg c2]
        by_cases c3 : (z * 10) + (rX4_nextDigit h) ≤ y
        · rw [if_pos c3]; exact (ih _ _).trans (up2_k (by decide))
        · rw [if_neg c3]
theorem rdN_01 (t : Nat → Nat → Int32) (x y : Int32) : (sX4_readNumber t x y) 0 1 = t 0 1 := by
  unfold sX4_readNumber
  by_cases c1 : (rX4_nextDigit t) = (-1)
  · rw [if_pos c1]
  · rw [if_neg c1]
    by_cases c2 : (rX6_isWithin (rX4_nextDigit t) x y) = 0
    · rw [if_pos c2]
    · rw [if_neg c2]; exact (rnS_01 _ _ _ _).trans (up2_k (by decide))
theorem rdA_29 (t : Nat → Nat → Int32) : (jX4_readAlignment_29 t) 0 1 = t 0 1 := by
  unfold jX4_readAlignment_29
  by_cases c : tMinus t = 0
  · rw [if_pos c]
  · rw [if_neg c]; exact up2_k (by decide)
theorem rdA_01 (t : Nat → Nat → Int32) : (sX4_readAlignment t) 0 1 = t 0 1 := by
  unfold sX4_readAlignment
  by_cases c1 : (rX4_nextDigit (jX4_readAlignment_29 t)) = (-1)
  · rw [if_pos c1]; exact rdA_29 t
  · rw [if_neg c1]
    by_cases c2 : (tMinus t) = 0
    · rw [if_pos c2]; exact (up2_d (by decide)).trans ((up2_k (by decide)).trans (rdA_29 t))
    · rw [if_neg c2]
      by_cases c3 : (rX4_nextDigit (jX4_readAlignment_29 t)) = 0
      · rw [if_pos c3]; exact rdA_29 t
      · rw [if_neg c3]; exact (up2_d (by decide)).trans ((up2_k (by decide)).trans (rdA_29 t))
theorem rdV_01 (t : Nat → Nat → Int32) (x : Int32) : (sX4_readValue t x) 0 1 = t 0 1 := by
  unfold sX4_readValue
  by_cases a97 : x = 97
  · rw [if_pos a97]; exact rdA_01 _
  rw [if_neg a97]
  by_cases a99 : x = 99
  · rw [if_pos a99]; exact rdN_01 _ _ _
  rw [if_neg a99]
  by_cases a100 : x = 100
  · rw [if_pos a100]; exact rdN_01 _ _ _
  rw [if_neg a100]
  by_cases a102 : x = 102
  · rw [if_pos a102]; exact rdN_01 _ _ _
  rw [if_neg a102]
  by_cases a116 : x = 116
  · rw [if_pos a116]; exact rdN_01 _ _ _
  rw [if_neg a116]
  by_cases a119 : x = 119
  · rw [if_pos a119]; exact rdN_01 _ _ _
  rw [if_neg a119]
theorem rdC_01 (t : Nat → Nat → Int32) : (sX4_readCommand t) 0 1 = t 0 1 := by
  unfold sX4_readCommand
  by_cases c1 : (rX6_isWithin (t 0 4) 0 59) = 0
  · rw [if_pos c1]
  · rw [if_neg c1]
    by_cases c2 : (rX4_isLetterOfCommand (rX4_next t)) = 0
    · rw [if_pos c2]
    · rw [if_neg c2]
      refine (up2_k (by decide)).trans ((rdV_01 _ _).trans ?_)
      unfold rcA
      exact (up2_d (by decide)).trans ((up2_d (by decide)).trans (up2_k (by decide)))
theorem rdK_01 (t : Nat → Nat → Int32) : (sX4_readComma t) 0 1 = t 0 1 := by
  unfold sX4_readComma
  by_cases c1 : (rX4_next t) = 44
  · rw [if_pos c1]; exact up2_k (by decide)
  · rw [if_neg c1]
/-- the commands behind the first: whether all is well, and the text's state then -/
def trR : Nat → (Nat → Nat → Int32) → Int32 → Int32
  | 0, _, z => z
  | n + 1, h, z => if z = 0 then z else if (h 0 1) ≤ (h 0 5) then z else if rX4_readComma h = 0 then trR n (sX4_readComma h) 0 else if rX4_readCommand (sX4_readComma h) = 0 then trR n (sX4_readCommand (sX4_readComma h)) 0 else trR n (sX4_readCommand (sX4_readComma h)) 1
def trS : Nat → (Nat → Nat → Int32) → Int32 → (Nat → Nat → Int32)
  | 0, h, _ => h
  | n + 1, h, z => if z = 0 then h else if (h 0 1) ≤ (h 0 5) then h else if rX4_readComma h = 0 then trS n (sX4_readComma h) 0 else if rX4_readCommand (sX4_readComma h) = 0 then trS n (sX4_readCommand (sX4_readComma h)) 0 else trS n (sX4_readCommand (sX4_readComma h)) 1
def trE (t : Nat → Nat → Int32) : Nat → Nat → Int32 := up2 (up2 t 0 5 0) 0 4 0
theorem trE_len {t : Nat → Nat → Int32} (h : TLen t) : TLen (trE t) := by
  refine TLen.of ?_ h
  unfold trE
  exact (up2_k (by decide)).trans (up2_k (by decide))
def rX4_read (t : Nat → Nat → Int32) : Int32 := if trR 60 (sX4_readCommand (trE t)) (rX4_readCommand (trE t)) = 0 then (trS 60 (sX4_readCommand (trE t)) (rX4_readCommand (trE t))) 0 5 else (-1)
def sX4_read (t : Nat → Nat → Int32) : Nat → Nat → Int32 := trS 60 (sX4_readCommand (trE t)) (rX4_readCommand (trE t))

set_option maxHeartbeats 4000000 in
set_option maxRecDepth 100000 in
/-- X4.read -/
theorem c_X4_read (l : Launch) (G : Gp) (d : Nat → Nat) (t : Nat → Nat → Int32) (Y : va_W) (ht : TLen t) : Cn l G yX4_read cX4_read 3 (some .int) 6 [.ref (d 0)] (TextW G d t ++ Y) (some (.int (rX4_read t))) (TextW G d (sX4_read t) ++ Y) := by
  refine CnE.of (by decide) (Nat.le_of_ble_eq_true rfl) ?_
  intro p e s m below meth c ls M hnm hl hW
  have hx := M.1
  have hb := M.2.1
  have hl : lv_has ls 3 [(0, .ref (d 0))] := hl
  refine lv_aload_n hx hb dX4_read_0 rfl (lv_at hl 0 rfl) ?_
  refine lv_iconst (v := 0) hx hb dX4_read_1 (by decide) ?_
  refine pt_Text_0_5 M hW kw_211 dX4_read_2 (fun H locs hW => ?_)
  refine lv_aload_n hx hb dX4_read_5 rfl (lv_at hl 0 rfl) ?_
  refine lv_iconst (v := 0) hx hb dX4_read_6 (by decide) ?_
  refine pt_Text_0_4 M hW kw_208 dX4_read_7 (fun H locs hW => ?_)
  have hW : Wd G s (TextW G d (trE t) ++ Y) _ _ := hW
  refine lv_aload_n hx hb dX4_read_10 rfl (lv_at hl 0 rfl) ?_
  refine r_callVi M hW (c_X4_readCommand l G d (trE t)  (Y) (trE_len ht)) rfl kw_238 kw_239 kw_240 kw_218 kw_236 pl_X4_readCommand 0 rfl rfl ⟨by decide, by decide⟩ ⟨Nat.zero_le _, Nat.zero_le _⟩ hl.1 rfl (Nat.le_of_ble_eq_true rfl) dX4_read_11 (fun H locs hW => ?_)
  refine lv_istore_n (lv' := [(1, .int (rX4_readCommand (trE t))), (0, .ref (d 0))]) hx hb dX4_read_14 rfl hl (by decide) rfl (fun ls hl => ?_)
  refine lv_iconst (v := 0) hx hb dX4_read_15 (by decide) ?_
  refine lv_istore_n (lv' := [(2, .int 0), (1, .int (rX4_readCommand (trE t))), (0, .ref (d 0))]) hx hb dX4_read_16 rfl hl (by decide) rfl (fun ls hl => ?_)
  refine r_cut (σ := Array Slot × (Nat → Nat → Int32) × Int32) (fun q H1 l1 => (q.2.1 = trS 60 (sX4_readCommand (trE t)) (rX4_readCommand (trE t)) ∧ q.2.2 = trR 60 (sX4_readCommand (trE t)) (rX4_readCommand (trE t)) ∧ lv_has q.1 3 [(1, .int q.2.2), (0, .ref (d 0))]) ∧ Wd G s (TextW G d q.2.1 ++ Y) H1 l1) (fun q => F0 m 64 q.1 []) (fun q H locs hI => ?_) (fun hJ_64 => ?_)
  · skip
    obtain ⟨ls, h, z⟩ := q
    obtain ⟨⟨hh, hz, hl⟩, hW⟩ := hI
    dsimp only at hh hz hl hW ⊢
    refine lv_iload_n hx hb dX4_read_64 rfl (lv_at hl 0 rfl) ?_
    refine lv_if_eq (tgt := 72) hx hb dX4_read_65 (by decide) (fun c_65 => ?_) (fun c_65 => ?_)
    · skip
      refine lv_aload_n hx hb dX4_read_72 rfl (lv_at hl 1 rfl) ?_
      refine gt_Text_0_5 M hW kw_211 (x := h 0 5) rfl dX4_read_73 ?_
      exact r_reti M hW (by rw [sX4_read, ← hh]) ⟨by rw [rX4_read, ← hz, ← hh, if_pos c_65], rfl⟩ (Nat.zero_le _) (Nat.zero_le _) dX4_read_76
    · skip
      refine lv_iconst (v := (-1)) hx hb dX4_read_68 (by decide) ?_
      refine lv_goto (tgt := 76) hx hb dX4_read_69 (by decide) ?_
      exact r_reti M hW (by rw [sX4_read, ← hh]) ⟨by rw [rX4_read, ← hz, ← hh, if_neg c_65], rfl⟩ (Nat.zero_le _) (Nat.zero_le _) dX4_read_76
  · skip
    have hl0 : TLen (sX4_readCommand (trE t)) := TLen.of (rdC_01 _) (trE_len ht)
    refine r_loop (σ := Array Slot × Nat × (Nat → Nat → Int32) × Int32) (fun r q H1 l1 => (q.2.1 + r = 60 ∧ lv_has q.1 3 [(2, .int (nI q.2.1)), (1, .int q.2.2.2), (0, .ref (d 0))] ∧ TLen q.2.2.1 ∧ trR r q.2.2.1 q.2.2.2 = trR 60 (sX4_readCommand (trE t)) (rX4_readCommand (trE t)) ∧ trS r q.2.2.1 q.2.2.2 = trS 60 (sX4_readCommand (trE t)) (rX4_readCommand (trE t))) ∧ Wd G s (TextW G d q.2.2.1 ++ Y) H1 l1) (fun q => F0 m 17 q.1 []) ?_ ?_ 60 (ls, 0, sX4_readCommand (trE t), rX4_readCommand (trE t)) _ _ ?_
    · skip
      intro q H locs hI
      obtain ⟨ls, i, h, z⟩ := q
      obtain ⟨⟨hu, hl, ht, hr, hg⟩, hW⟩ := hI
      dsimp only at hu hl ht hr hg hW ⊢
      have hu2 : i = 60 := by omega
      subst hu2
      refine lv_iload_n hx hb dX4_read_17 rfl (lv_at hl 0 rfl) ?_
      refine lv_bipush (v := 60) hx hb dX4_read_18 (by decide) ?_
      refine lv_icmp_ge (tgt := 64) hx hb dX4_read_20 (by decide) (fun c_20 => ?_) (fun c_20 => ?_)
      · skip
        exact hJ_64 (ls, h, z) _ _ ⟨⟨by rw [← hg, trS], by rw [← hr, trR], lv_sub hl [1, 2] rfl⟩, hW⟩
      · skip
        exact absurd (nI_le (Nat.le_refl 60) (by decide)) c_20
    · skip
      intro n ih q H locs hI
      obtain ⟨ls, i, h, z⟩ := q
      obtain ⟨⟨hu, hl, ht, hr, hg⟩, hW⟩ := hI
      dsimp only at hu hl ht hr hg hW ⊢
      have hu2 : i < 60 := by omega
      refine lv_iload_n hx hb dX4_read_17 rfl (lv_at hl 0 rfl) ?_
      refine lv_bipush (v := 60) hx hb dX4_read_18 (by decide) ?_
      refine lv_icmp_ge (tgt := 64) hx hb dX4_read_20 (by decide) (fun c_20_2 => ?_) (fun c_20_2 => ?_)
      · skip
        exact absurd c_20_2 (nI_ge hu2 (by decide))
      · skip
        refine lv_iload_n hx hb dX4_read_23 rfl (lv_at hl 1 rfl) ?_
        refine lv_if_eq (tgt := 64) hx hb dX4_read_24 (by decide) (fun c_24 => ?_) (fun c_24 => ?_)
        · skip
          exact hJ_64 (ls, h, z) _ _ ⟨⟨by rw [← hg, trS, if_pos c_24], by rw [← hr, trR, if_pos c_24], lv_sub hl [1, 2] rfl⟩, hW⟩
        · skip
          refine lv_aload_n hx hb dX4_read_27 rfl (lv_at hl 2 rfl) ?_
          refine gt_Text_0_5 M hW kw_211 (x := h 0 5) rfl dX4_read_28 ?_
          refine lv_aload_n hx hb dX4_read_31 rfl (lv_at hl 2 rfl) ?_
          refine gt_Text_0_1 M hW kw_205 (x := h 0 1) rfl dX4_read_32 ?_
          refine lv_icmp_ge (tgt := 64) hx hb dX4_read_35 (by decide) (fun c_35 => ?_) (fun c_35 => ?_)
          · skip
            exact hJ_64 (ls, h, z) _ _ ⟨⟨by rw [← hg, trS, if_neg c_24, if_pos c_35], by rw [← hr, trR, if_neg c_24, if_pos c_35], lv_sub hl [1, 2] rfl⟩, hW⟩
          · skip
            refine lv_aload_n hx hb dX4_read_38 rfl (lv_at hl 2 rfl) ?_
            refine r_callVi M hW (c_X4_readComma l G d h  (Y) ht) rfl kw_241 kw_242 kw_243 kw_218 kw_237 pl_X4_readComma 0 rfl rfl ⟨by decide, by decide⟩ ⟨Nat.zero_le _, Nat.zero_le _⟩ hl.1 rfl (Nat.le_of_ble_eq_true rfl) dX4_read_39 (fun H locs hW => ?_)
            refine lv_if_eq (tgt := 56) hx hb dX4_read_42 (by decide) (fun c_42 => ?_) (fun c_42 => ?_)
            · skip
              refine lv_iconst (v := 0) hx hb dX4_read_56 (by decide) ?_
              refine lv_istore_n (lv' := [(1, .int 0), (2, .int (nI i)), (0, .ref (d 0))]) hx hb dX4_read_57 rfl hl (by decide) rfl (fun ls hl => ?_)
              refine lv_iinc (v := nI (i + 1)) (lv' := [(2, .int (nI (i + 1))), (1, .int 0), (0, .ref (d 0))]) hx hb dX4_read_58 hl (k := 1) rfl (nI_1 i) (by decide) rfl (fun ls hl => ?_)
              refine lv_goto (tgt := 17) hx hb dX4_read_61 (by decide) ?_
              have hr2 : trR n (sX4_readComma h) 0 = trR 60 (sX4_readCommand (trE t)) (rX4_readCommand (trE t)) := by rw [← hr, trR, if_neg c_24, if_neg c_35, if_pos c_42]
              have hg2 : trS n (sX4_readComma h) 0 = trS 60 (sX4_readCommand (trE t)) (rX4_readCommand (trE t)) := by rw [← hg, trS, if_neg c_24, if_neg c_35, if_pos c_42]
              have hu3 : i + 1 + n = 60 := by omega
              have ht2 : TLen (sX4_readComma h) := TLen.of (rdK_01 _) ht
              refine ih (ls, i + 1, sX4_readComma h, 0) _ _ ?_
              dsimp only
              exact ⟨⟨hu3, lv_sub hl [0, 1, 2] rfl, ht2, hr2, hg2⟩, hW⟩
            · skip
              refine lv_aload_n hx hb dX4_read_45 rfl (lv_at hl 2 rfl) ?_
              refine r_callVi M hW (c_X4_readCommand l G d (sX4_readComma h)  (Y) (TLen.of (rdK_01 _) ht)) rfl kw_238 kw_239 kw_240 kw_218 kw_236 pl_X4_readCommand 0 rfl rfl ⟨by decide, by decide⟩ ⟨Nat.zero_le _, Nat.zero_le _⟩ hl.1 rfl (Nat.le_of_ble_eq_true rfl) dX4_read_46 (fun H locs hW => ?_)
              refine lv_if_eq (tgt := 56) hx hb dX4_read_49 (by decide) (fun c_49 => ?_) (fun c_49 => ?_)
              · skip
                refine lv_iconst (v := 0) hx hb dX4_read_56 (by decide) ?_
                refine lv_istore_n (lv' := [(1, .int 0), (2, .int (nI i)), (0, .ref (d 0))]) hx hb dX4_read_57 rfl hl (by decide) rfl (fun ls hl => ?_)
                refine lv_iinc (v := nI (i + 1)) (lv' := [(2, .int (nI (i + 1))), (1, .int 0), (0, .ref (d 0))]) hx hb dX4_read_58 hl (k := 1) rfl (nI_1 i) (by decide) rfl (fun ls hl => ?_)
                refine lv_goto (tgt := 17) hx hb dX4_read_61 (by decide) ?_
                have hr2 : trR n (sX4_readCommand (sX4_readComma h)) 0 = trR 60 (sX4_readCommand (trE t)) (rX4_readCommand (trE t)) := by rw [← hr, trR, if_neg c_24, if_neg c_35, if_neg c_42, if_pos c_49]
                have hg2 : trS n (sX4_readCommand (sX4_readComma h)) 0 = trS 60 (sX4_readCommand (trE t)) (rX4_readCommand (trE t)) := by rw [← hg, trS, if_neg c_24, if_neg c_35, if_neg c_42, if_pos c_49]
                have hu3 : i + 1 + n = 60 := by omega
                have ht2 : TLen (sX4_readCommand (sX4_readComma h)) := TLen.of (rdC_01 _) (TLen.of (rdK_01 _) ht)
                refine ih (ls, i + 1, sX4_readCommand (sX4_readComma h), 0) _ _ ?_
                dsimp only
                exact ⟨⟨hu3, lv_sub hl [0, 1, 2] rfl, ht2, hr2, hg2⟩, hW⟩
              · skip
                refine lv_iconst (v := 1) hx hb dX4_read_52 (by decide) ?_
                refine lv_goto (tgt := 57) hx hb dX4_read_53 (by decide) ?_
                refine lv_istore_n (lv' := [(1, .int 1), (2, .int (nI i)), (0, .ref (d 0))]) hx hb dX4_read_57 rfl hl (by decide) rfl (fun ls hl => ?_)
                refine lv_iinc (v := nI (i + 1)) (lv' := [(2, .int (nI (i + 1))), (1, .int 1), (0, .ref (d 0))]) hx hb dX4_read_58 hl (k := 1) rfl (nI_1 i) (by decide) rfl (fun ls hl => ?_)
                refine lv_goto (tgt := 17) hx hb dX4_read_61 (by decide) ?_
                have hr2 : trR n (sX4_readCommand (sX4_readComma h)) 1 = trR 60 (sX4_readCommand (trE t)) (rX4_readCommand (trE t)) := by rw [← hr, trR, if_neg c_24, if_neg c_35, if_neg c_42, if_neg c_49]
                have hg2 : trS n (sX4_readCommand (sX4_readComma h)) 1 = trS 60 (sX4_readCommand (trE t)) (rX4_readCommand (trE t)) := by rw [← hg, trS, if_neg c_24, if_neg c_35, if_neg c_42, if_neg c_49]
                have hu3 : i + 1 + n = 60 := by omega
                have ht2 : TLen (sX4_readCommand (sX4_readComma h)) := TLen.of (rdC_01 _) (TLen.of (rdK_01 _) ht)
                refine ih (ls, i + 1, sX4_readCommand (sX4_readComma h), 1) _ _ ?_
                dsimp only
                exact ⟨⟨hu3, lv_sub hl [0, 1, 2] rfl, ht2, hr2, hg2⟩, hW⟩
    · skip
      dsimp only
      exact ⟨⟨rfl, lv_sub hl [0, 1, 2] rfl, hl0, rfl, rfl⟩, hW⟩
