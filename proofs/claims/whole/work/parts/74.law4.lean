/-! THE CLAIM OUT OF ONE WALK OF THE LAW'S BODY. Your part is whole_start (and what it stands on); all else here is the same for every law, but numbers. -/
def R_law : String := "GrainLegLaw"
def lw_P (b : Addr) (xs : List Int32) (args : Array Value) (s : State) : Prop := args = #[.ref b] ∧ s.IntsAt b xs ∧ xs.length ≤ 1536 ∧ (Jvm.Cond.and given_1 narrow_1).before args s = true
def lw_Q (_ : Array Value) (s : State) (o : Outcome) (t : State) : Prop := o = .returned (some (.int 1)) ∧ Framed s o t [] 600000 7302250
def lw_Z (below : List Frame) (a : Array Value) (s : State) : State → Prop := fun t => ∃ o, t.status = .running ∧ Ended t below o ∧ lw_Q a s o t
/-- the law's own end, with 1 on the stack, nothing written that was there before, its room as the claim has it -/
theorem lw_ret {p : Program} {l : Launch} {e : Env} {s : State} {m : MethodId} {below : List Frame} {meth : Method} {c : Code} {b : Nat} (hx : p.tables.exec = Jvm.exec) (hb : c.code = code) (hr : meth.sig.returnType = ret) (hlocks : meth.locks = false) {pc : Nat} {H : Heap} {ls : Array Slot} (hdg : decode code pc = .ok (.ireturn, 1)) : W p l e room_1 s m #[Value.ref b] below meth c H [] 600000 7302250 (lw_Z below #[Value.ref b] s) (F0 m pc ls [.int 1]) := by
  intro T hT X
  obtain ⟨fs, hret, hrun, hended, hW, hframe⟩ := X.leave (v := some (.int 1)) (hlocks := hlocks) (fun h => by rw [hr] at h; cases h)
  have hmeth' : T.vm.method? m = some meth := X.method'
  refine ⟨T.setFrames fs, ?_, .returned (some (.int 1)), hrun, hended, rfl, ⟨_, rfl⟩, hW, hframe⟩
  jvm_step X.here [X.here.top, hx, hb, hdg, hmeth', hr, ret, narrow_b1]
  (try refine ⟨rfl, ?_⟩); (try refine ⟨rfl, ?_⟩)
  first | (intro acts; rw [hret _ acts rfl rfl rfl]) | rw [hret _ _ rfl rfl rfl]
  exact Steps.refl _
/-- what holds at the law's entry: the machine, the code, the tables' words (any of lw_tbl by 'hts w (by decide +kernel)'), the script of L ints xs at the cell b, what the Statement gives of the start (any of its parts by flat_of_before) -/
def lw_At (p : Program) (s : State) (m : MethodId) (meth : Method) (c : Code) (b L : Nat) (xs : Nat → Int32) : Prop :=
  p.tables.exec = Jvm.exec ∧ c.code = code ∧ meth.sig.returnType = ret ∧ c.maxLocals = 4 ∧ s.vm.findClass R_law = some m.cls ∧ (∀ w ∈ lw_tbl, w.before #[Value.ref b] s = true) ∧ va_X b L xs s s.heap ∧ b < s.heap.size ∧ meth.locks = false ∧ (Jvm.Cond.and given_1 narrow_1).before #[Value.ref b] s = true

set_option maxHeartbeats 4000000 in
set_option maxRecDepth 100000 in
/-- the law's loop -/
theorem law_loop {p : Program} {l : Launch} {e : Env} {s : State} {m : MethodId} {below : List Frame} {meth : Method} {c : Code} {Q : State → Prop} {G : Gp} {ret0 : Option FieldType} {b L : Nat} {xs : Nat → Int32} {z : Nat → Nat → Nat} {bm : Nat → Nat} {Y : va_W} (M : Mx G p s m #[.ref b] meth c cL_law 4 ret0 RL) (X : LX G s b L xs) (hE : ∀ (H : Heap) (locs : List Loc) (ls : Array Slot), (∀ q ∈ locs, gA G q.base) → W p l e room_1 s m #[.ref b] below meth c H locs 102 1261 Q (F0 m 589 ls [])) :
    ∀ (n i : Nat), i ≤ L → L + 1 ≤ i + n → ∀ (so g gB gT gS sh q0 q1 q2 q3 t u : Nat → Nat → Int32) (H : Heap) (locs : List Loc) (ls : Array Slot), J so g gS sh q0 q1 q2 q3 t u → Wd G s (SysW G z so ++ (LegW G (z 1) g ++ (LegW G (z 2) gB ++ (LegW G (z 3) gT ++ (LegW G (z 4) gS ++ (HistW G z sh ++ (LegW G (z 6) q0 ++ (LegW G (z 7) q1 ++ (LegW G (z 8) q2 ++ (LegW G (z 9) q3 ++ (TextW G (z 10) t ++ (ModW G bm u ++ Y)))))))))))) H locs → lv_has ls 4 [(0, .ref b), (1, .ref (z 0 0)), (2, .ref (bm 0)), (3, .int (nI i))] → W p l e room_1 s m #[.ref b] below meth c H locs 102 1261 Q (F0 m 18 ls []) := by
  have hx := M.1
  have hb := M.2.1
  have hL := X.2.2.2
  intro n
  induction n with
  | zero => intro i h1 h2; exact absurd h2 (by omega)
  | succ n ih =>
    intro i hi hin so g gB gT gS sh q0 q1 q2 q3 t u H locs ls hJ hW hl
    refine lv_iload_n hx hb dL_law_18 rfl (lv_at hl 3 rfl) ?_
    refine lv_aload_n hx hb dL_law_19 rfl (lv_at hl 0 rfl) ?_
    refine r_slen M hW X dL_law_20 ?_
    refine lv_iconst (v := 3) hx hb dL_law_21 (by decide) ?_
    refine lv_isub hx hb dL_law_22 ?_
    refine lv_icmp_gt (tgt := 589) hx hb dL_law_23 (by decide) (fun c_h => ?_) (fun c_h => ?_)
    · exact hE _ _ ls hW.2.2.2.2
    · have h2 : i + 2 < L := hd_in hL hi c_h
      have hN : ∀ (so g gB gT gS sh q0 q1 q2 q3 t u : Nat → Nat → Int32) (H : Heap) (locs : List Loc) (ls : Array Slot), J so g gS sh q0 q1 q2 q3 t u → Wd G s (SysW G z so ++ (LegW G (z 1) g ++ (LegW G (z 2) gB ++ (LegW G (z 3) gT ++ (LegW G (z 4) gS ++ (HistW G z sh ++ (LegW G (z 6) q0 ++ (LegW G (z 7) q1 ++ (LegW G (z 8) q2 ++ (LegW G (z 9) q3 ++ (TextW G (z 10) t ++ (ModW G bm u ++ Y)))))))))))) H locs → lv_has ls 4 [(0, .ref b), (1, .ref (z 0 0)), (2, .ref (bm 0)), (3, .int (nI i))] → W p l e room_1 s m #[.ref b] below meth c H locs 102 1261 Q (F0 m 583 ls []) := by
        intro so g gB gT gS sh q0 q1 q2 q3 t u H locs ls hJ hW hl
        refine lv_iinc (v := nI (i + 3)) (lv' := [(3, .int (nI (i + 3))), (0, .ref b), (1, .ref (z 0 0)), (2, .ref (bm 0))]) hx hb dL_law_583 hl (k := 3) rfl (nI_a3 i) (by decide) rfl (fun ls hl => ?_)
        refine lv_goto (tgt := 18) hx hb dL_law_586 (by decide) ?_
        exact ih (i + 3) (by omega) (by omega) so g gB gT gS sh q0 q1 q2 q3 t u H locs ls hJ hW (lv_sub hl [1, 2, 3, 0] rfl)
      refine lv_aload_n hx hb dL_law_26 rfl (lv_at hl 0 rfl) ?_
      refine lv_iload_n hx hb dL_law_27 rfl (lv_at hl 3 rfl) ?_
      refine r_sld M hW X i rfl (by omega) dL_law_28 ?_
      refine lv_bipush (v := 31) hx hb dL_law_29 (by decide) ?_
      refine lv_iand hx hb dL_law_31 ?_
      by_cases c_0 : xs i &&& 31 = 0
      · refine lv_tableIn (off := 100) (tgt := 132) hx hb dL_law_32 (by rw [c_0]; decide) (by rw [c_0]; decide) (by rw [c_0]; rfl) (by decide) ?_
        exact law_0 M X h2 hN hJ hW hl
      by_cases c_1 : xs i &&& 31 = 1
      · refine lv_tableIn (off := 133) (tgt := 165) hx hb dL_law_32 (by rw [c_1]; decide) (by rw [c_1]; decide) (by rw [c_1]; rfl) (by decide) ?_
        exact law_1 M X h2 hN hJ hW hl
      by_cases c_2 : xs i &&& 31 = 2
      · refine lv_tableIn (off := 172) (tgt := 204) hx hb dL_law_32 (by rw [c_2]; decide) (by rw [c_2]; decide) (by rw [c_2]; rfl) (by decide) ?_
        exact law_2 M X h2 hN hJ hW hl
      by_cases c_3 : xs i &&& 31 = 3
      · refine lv_tableIn (off := 185) (tgt := 217) hx hb dL_law_32 (by rw [c_3]; decide) (by rw [c_3]; decide) (by rw [c_3]; rfl) (by decide) ?_
        exact law_3 M X h2 hN hJ hW hl
      by_cases c_4 : xs i &&& 31 = 4
      · refine lv_tableIn (off := 198) (tgt := 230) hx hb dL_law_32 (by rw [c_4]; decide) (by rw [c_4]; decide) (by rw [c_4]; rfl) (by decide) ?_
        exact law_4 M X h2 hN hJ hW hl
      by_cases c_5 : xs i &&& 31 = 5
      · refine lv_tableIn (off := 211) (tgt := 243) hx hb dL_law_32 (by rw [c_5]; decide) (by rw [c_5]; decide) (by rw [c_5]; rfl) (by decide) ?_
        exact law_5 M X h2 hN hJ hW hl
      by_cases c_6 : xs i &&& 31 = 6
      · refine lv_tableIn (off := 234) (tgt := 266) hx hb dL_law_32 (by rw [c_6]; decide) (by rw [c_6]; decide) (by rw [c_6]; rfl) (by decide) ?_
        exact law_6 M X h2 hN hJ hW hl
      by_cases c_7 : xs i &&& 31 = 7
      · refine lv_tableIn (off := 257) (tgt := 289) hx hb dL_law_32 (by rw [c_7]; decide) (by rw [c_7]; decide) (by rw [c_7]; rfl) (by decide) ?_
        exact law_7 M X h2 hN hJ hW hl
      by_cases c_8 : xs i &&& 31 = 8
      · refine lv_tableIn (off := 282) (tgt := 314) hx hb dL_law_32 (by rw [c_8]; decide) (by rw [c_8]; decide) (by rw [c_8]; rfl) (by decide) ?_
        exact law_8 M X h2 hN hJ hW hl
      by_cases c_9 : xs i &&& 31 = 9
      · refine lv_tableIn (off := 295) (tgt := 327) hx hb dL_law_32 (by rw [c_9]; decide) (by rw [c_9]; decide) (by rw [c_9]; rfl) (by decide) ?_
        exact law_9 M X h2 hN hJ hW hl
      by_cases c_10 : xs i &&& 31 = 10
      · refine lv_tableIn (off := 308) (tgt := 340) hx hb dL_law_32 (by rw [c_10]; decide) (by rw [c_10]; decide) (by rw [c_10]; rfl) (by decide) ?_
        exact law_10 M X h2 hN hJ hW hl
      by_cases c_11 : xs i &&& 31 = 11
      · refine lv_tableIn (off := 331) (tgt := 363) hx hb dL_law_32 (by rw [c_11]; decide) (by rw [c_11]; decide) (by rw [c_11]; rfl) (by decide) ?_
        exact law_11 M X h2 hN hJ hW hl
      by_cases c_12 : xs i &&& 31 = 12
      · refine lv_tableIn (off := 344) (tgt := 376) hx hb dL_law_32 (by rw [c_12]; decide) (by rw [c_12]; decide) (by rw [c_12]; rfl) (by decide) ?_
        exact law_12 M X h2 hN hJ hW hl
      by_cases c_13 : xs i &&& 31 = 13
      · refine lv_tableIn (off := 357) (tgt := 389) hx hb dL_law_32 (by rw [c_13]; decide) (by rw [c_13]; decide) (by rw [c_13]; rfl) (by decide) ?_
        exact law_13 M X h2 hN hJ hW hl
      by_cases c_14 : xs i &&& 31 = 14
      · refine lv_tableIn (off := 370) (tgt := 402) hx hb dL_law_32 (by rw [c_14]; decide) (by rw [c_14]; decide) (by rw [c_14]; rfl) (by decide) ?_
        exact law_14 M X h2 hN hJ hW hl
      by_cases c_15 : xs i &&& 31 = 15
      · refine lv_tableIn (off := 393) (tgt := 425) hx hb dL_law_32 (by rw [c_15]; decide) (by rw [c_15]; decide) (by rw [c_15]; rfl) (by decide) ?_
        exact law_15 M X h2 hN hJ hW hl
      by_cases c_16 : xs i &&& 31 = 16
      · refine lv_tableIn (off := 426) (tgt := 458) hx hb dL_law_32 (by rw [c_16]; decide) (by rw [c_16]; decide) (by rw [c_16]; rfl) (by decide) ?_
        exact law_16 M X h2 hN hJ hW hl
      by_cases c_17 : xs i &&& 31 = 17
      · refine lv_tableIn (off := 439) (tgt := 471) hx hb dL_law_32 (by rw [c_17]; decide) (by rw [c_17]; decide) (by rw [c_17]; rfl) (by decide) ?_
        exact law_17 M X h2 hN hJ hW hl
      by_cases c_18 : xs i &&& 31 = 18
      · refine lv_tableIn (off := 472) (tgt := 504) hx hb dL_law_32 (by rw [c_18]; decide) (by rw [c_18]; decide) (by rw [c_18]; rfl) (by decide) ?_
        exact law_18 M X h2 hN hJ hW hl
      by_cases c_19 : xs i &&& 31 = 19
      · refine lv_tableIn (off := 495) (tgt := 527) hx hb dL_law_32 (by rw [c_19]; decide) (by rw [c_19]; decide) (by rw [c_19]; rfl) (by decide) ?_
        exact law_19 M X h2 hN hJ hW hl
      by_cases c_20 : xs i &&& 31 = 20
      · refine lv_tableIn (off := 528) (tgt := 560) hx hb dL_law_32 (by rw [c_20]; decide) (by rw [c_20]; decide) (by rw [c_20]; rfl) (by decide) ?_
        exact law_20 M X h2 hN hJ hW hl
      refine lv_tableOut (tgt := 583) hx hb dL_law_32 (tbl_out (0) (20) (fun k h1 h2 => ?_)) (by decide) ?_
      · have h3 : k = 0 ∨ k = 1 ∨ k = 2 ∨ k = 3 ∨ k = 4 ∨ k = 5 ∨ k = 6 ∨ k = 7 ∨ k = 8 ∨ k = 9 ∨ k = 10 ∨ k = 11 ∨ k = 12 ∨ k = 13 ∨ k = 14 ∨ k = 15 ∨ k = 16 ∨ k = 17 ∨ k = 18 ∨ k = 19 ∨ k = 20 := by omega
        rcases h3 with rfl | rfl | rfl | rfl | rfl | rfl | rfl | rfl | rfl | rfl | rfl | rfl | rfl | rfl | rfl | rfl | rfl | rfl | rfl | rfl | rfl
        · exact c_0
        · exact c_1
        · exact c_2
        · exact c_3
        · exact c_4
        · exact c_5
        · exact c_6
        · exact c_7
        · exact c_8
        · exact c_9
        · exact c_10
        · exact c_11
        · exact c_12
        · exact c_13
        · exact c_14
        · exact c_15
        · exact c_16
        · exact c_17
        · exact c_18
        · exact c_19
        · exact c_20
      exact hN so g gB gT gS sh q0 q1 q2 q3 t u H locs ls hJ hW hl
