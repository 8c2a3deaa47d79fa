/-! ===== the law: what the contracts ask, out of J; rows for the script ===== -/
section PJ
variable {so g gS sh q0 q1 q2 q3 t u : Nat → Nat → Int32}
theorem pj_ok (h : J so g gS sh q0 q1 q2 q3 t u) : LegOK g := h.1.1.1.1
theorem pj_lz (h : J so g gS sh q0 q1 q2 q3 t u) : LZ g := h.1.1.1.2.1
theorem pj_size (h : J so g gS sh q0 q1 q2 q3 t u) : SizeOK g := h.1.1.1.2.2.2.2.2.2.2.2
theorem pj_lzS (h : J so g gS sh q0 q1 q2 q3 t u) : LZ gS := h.2.1
theorem pj_hr (h : J so g gS sh q0 q1 q2 q3 t u) : HR sh q0 q1 q2 q3 u := h.2.2.2.2.2.1
theorem pj_hok (h : J so g gS sh q0 q1 q2 q3 t u) : HOK sh := (pj_hr h).1
theorem pj_q0 (h : J so g gS sh q0 q1 q2 q3 t u) : LZ q0 := (pj_hr h).2.2.1 0 (by decide)
theorem pj_q1 (h : J so g gS sh q0 q1 q2 q3 t u) : LZ q1 := (pj_hr h).2.2.1 1 (by decide)
theorem pj_q2 (h : J so g gS sh q0 q1 q2 q3 t u) : LZ q2 := (pj_hr h).2.2.1 2 (by decide)
theorem pj_q3 (h : J so g gS sh q0 q1 q2 q3 t u) : LZ q3 := (pj_hr h).2.2.1 3 (by decide)
theorem pj_tx (h : J so g gS sh q0 q1 q2 q3 t u) : TX t u := h.2.2.2.2.2.2.1
theorem pj_tlen (h : J so g gS sh q0 q1 q2 q3 t u) : TLen t := (pj_tx h).1
theorem pj_c2 (h : J so g gS sh q0 q1 q2 q3 t u) : ∀ i, i < 60 → narrow .char (.int (t 2 i)) = .int (t 2 i) := h.2.2.2.2.2.2.2.1
theorem pj_msz (h : J so g gS sh q0 q1 q2 q3 t u) : MSz u := ⟨hS sh, (pj_hok h).2.2.2, (pj_hr h).2.1.trans (pj_hok h).2.2.1⟩
theorem pj_mlen (h : J so g gS sh q0 q1 q2 q3 t u) : MLen u := by
  obtain ⟨n, h1, h2⟩ := pj_tlen h
  exact ⟨n, h1, (pj_tx h).2.1.trans h2⟩
theorem pj_mlog (h : J so g gS sh q0 q1 q2 q3 t u) : MLog u := by
  obtain ⟨n, h1, h2⟩ := pj_size h
  exact ⟨n, h1, (h.1.1.2.2.2.2.2.2.2.2.2.2.2.1).trans h2⟩
end PJ
def ch (x : Int32) : Int32 := (x.toUInt32 % 65536).toInt32
theorem ch_nar (x : Int32) : vp_nar .char (ch x) = ch x := by
  show ((x.toUInt32 % 65536).toInt32.toUInt32.toUInt16.toUInt32).toInt32 = (x.toUInt32 % 65536).toInt32
  rw [UInt32.toUInt32_toInt32]
  congr 1
  apply UInt32.toNat_inj.mp
  simp
theorem hfs_6 : ∀ j, j < 9 → defaultValue (tyX6 j) = vp_V [.null, .null, .null, .null, .null, .int 0, .null, .int 0, .int 0] j := fun j hj => by rcases (show j = 0 ∨ j = 1 ∨ j = 2 ∨ j = 3 ∨ j = 4 ∨ j = 5 ∨ j = 6 ∨ j = 7 ∨ j = 8 by omega) with rfl | rfl | rfl | rfl | rfl | rfl | rfl | rfl | rfl <;> rfl
theorem hfs_7 : ∀ j, j < 15 → defaultValue (tyX7 j) = vp_V [.int 0, .null, .null, .null, .int 0, .null, .int 0, .null, .int 0, .int 0, .int 0, .int 0, .int 0, .null, .int 0] j := fun j hj => by rcases (show j = 0 ∨ j = 1 ∨ j = 2 ∨ j = 3 ∨ j = 4 ∨ j = 5 ∨ j = 6 ∨ j = 7 ∨ j = 8 ∨ j = 9 ∨ j = 10 ∨ j = 11 ∨ j = 12 ∨ j = 13 ∨ j = 14 by omega) with rfl | rfl | rfl | rfl | rfl | rfl | rfl | rfl | rfl | rfl | rfl | rfl | rfl | rfl | rfl <;> rfl
/-- the script: L numbers xs at b, nobody's own -/
def LX (G : Gp) (s : State) (b L : Nat) (xs : Nat → Int32) : Prop := va_X b L xs s s.heap ∧ b < s.heap.size ∧ ¬ gA G b ∧ L ≤ 1536
theorem nI_a1 (i : Nat) : nI i + 1 = nI (i + 1) := nI_add i 1
theorem nI_a2 (i : Nat) : nI i + 2 = nI (i + 2) := nI_add i 2
theorem nI_a3 (i : Nat) : nI i + 3 = nI (i + 3) := nI_add i 3
theorem hd_t {L : Nat} (hL : L ≤ 1536) : (nI L - 3).toInt = (L : Int) - 3 := by
  have e := nI_toInt (n := L) (by omega)
  rw [tsub (by rw [e, t3]; omega) (by rw [e, t3]; omega), e, t3]
theorem hd_in {L i : Nat} (hL : L ≤ 1536) (hi : i ≤ L) (h : ¬ nI L - 3 < nI i) : i + 2 < L := by
  have e := nI_toInt (n := i) (by omega)
  rw [ilt, hd_t hL, e] at h
  omega
section LROWS
variable {p : Program} {l : Launch} {e : Env} {R : Room} {s : State} {m : MethodId} {args : Array Value} {below : List Frame} {meth : Method} {c : Code} {H : Heap} {locs : List Loc} {cells slots : Nat} {Q : State → Prop}
variable {G : Gp} {cc : ByteArray} {nL : Nat} {ret : Option FieldType} {own : String} {pc : Nat} {ls : Array Slot} {rest : List Value} {w : va_W} {b L : Nat} {xs : Nat → Int32}
theorem r_sld (M : Mx G p s m args meth c cc nL ret own) (hW : Wd G s w H locs) (X : LX G s b L xs) {i : Int32} (k : Nat) (hi : i = nI k) (hk : k < L) (hd : decode cc pc = .ok (.iaload, 1))
    (kk : W p l e R s m args below meth c H locs cells slots Q (F0 m (pc + 1) ls (.int (xs k) :: rest))) : W p l e R s m args below meth c H locs cells slots Q (F0 m pc ls (.int i :: .ref b :: rest)) := by
  subst hi
  have hL := X.2.2.2
  refine va_sld M.1 M.2.1 X.1 X.2.1 X.2.2.1 hW.2.2 (vp_in_nI hk (by omega)) hd ?_
  rw [nI_clamp (by omega)]
  exact kk
theorem r_slen (M : Mx G p s m args meth c cc nL ret own) (hW : Wd G s w H locs) (X : LX G s b L xs) (hd : decode cc pc = .ok (.arraylength, 1))
    (kk : W p l e R s m args below meth c H locs cells slots Q (F0 m (pc + 1) ls (.int (nI L) :: rest))) : W p l e R s m args below meth c H locs cells slots Q (F0 m pc ls (.ref b :: rest)) :=
  va_slen M.1 M.2.1 X.1 X.2.1 X.2.2.1 hW.2.2 hd kk
end LROWS
