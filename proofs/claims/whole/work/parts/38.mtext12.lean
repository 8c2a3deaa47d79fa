theorem comes_c (u : Nat → Nat → Int32) (x : Int32) {a : Nat} (h : a ≠ 1) : sX7_comes u x a = u a := by
  unfold sX7_comes
  rw [up2_ne h, up2_ne h]
theorem moves_c (u : Nat → Nat → Int32) {a : Nat} (h : a ≠ 1) : sX7_moves u a = u a := by
  unfold sX7_moves
  rw [up2_ne h, up2_ne h]
  unfold movesB
  rw [comes_c _ _ h]
  unfold movesA
  repeat rw [up2_ne h]
theorem trips_c (u : Nat → Nat → Int32) (x : Int32) {a : Nat} (h : a ≠ 1) : sX7_trips u x a = u a := by
  unfold sX7_trips
  repeat rw [up2_ne h]
  unfold tripsA
  repeat rw [up2_ne h]
theorem watch70_c (u : Nat → Nat → Int32) (i : Nat) {a : Nat} (h : a ≠ 1) : jX7_watches_70 u i a = u a := by
  unfold jX7_watches_70
  generalize (if (rX7_seesTooMuch u (nI i)) = 0 then 0 else (u 1 (30 + i)) + 1) = z
  split
  · exact up2_ne h
  · split
    · rw [trips_c _ _ h, up2_ne h]
    · exact up2_ne h
theorem mtick_c (u : Nat → Nat → Int32) {a : Nat} (h : a ≠ 1) : sX7_tick u a = u a := by
  have e37 : jX7_tick_37 u a = u a := by
    unfold jX7_tick_37
    split
    · rw [comes_c _ _ h, up2_ne h]
    · rfl
  have eA : mtickA u a = u a := by unfold mtickA; rw [up2_ne h, e37]
  have eB : mtickB u a = u a := by unfold mtickB; rw [up2_ne h, eA]
  have eC : mtickC u a = u a := by unfold mtickC; exact (iter_other 1 (fun _ h2 b hb => moves_c h2 hb) _ _ h).trans eB
  have eD : mtickD u a = u a := by unfold mtickD; rw [up2_ne h, eC]
  unfold sX7_tick
  rw [up2_ne h]
  unfold sX7_watches
  exact (iter_other 1 (fun k h2 b hb => watch70_c h2 k hb) _ _ h).trans eD
theorem mticks_c (u : Nat → Nat → Int32) (x : Int32) {a : Nat} (h : a ≠ 1) : sX7_ticks u x a = u a := by
  unfold sX7_ticks
  exact iter_other 1 (fun _ h2 b hb => mtick_c h2 hb) _ _ h
theorem does_c (u : Nat → Nat → Int32) (x y : Int32) {a : Nat} (h : a ≠ 1) : sX7_does u x y a = u a := by
  unfold sX7_does
  by_cases a103 : x = 103
  · rw [if_pos a103]; exact up2_ne h
  rw [if_neg a103]
  by_cases a104 : x = 104
  · rw [if_pos a104]; exact up2_ne h
  rw [if_neg a104]
  by_cases a105 : x = 105
  · rw [if_pos a105]; exact up2_ne h
  rw [if_neg a105]
  by_cases a106 : x = 106
  · rw [if_pos a106]; exact up2_ne h
  rw [if_neg a106]
  by_cases a107 : x = 107
  · rw [if_pos a107]; exact up2_ne h
  rw [if_neg a107]
  by_cases a108 : x = 108
  · rw [if_pos a108]; exact up2_ne h
  rw [if_neg a108]
  by_cases a109 : x = 109
  · rw [if_pos a109]; exact up2_ne h
  rw [if_neg a109]
  by_cases a110 : x = 110
  · rw [if_pos a110]; exact up2_ne h
  rw [if_neg a110]
  by_cases a111 : x = 111
  · rw [if_pos a111]; exact up2_ne h
  rw [if_neg a111]
  by_cases a112 : x = 112
  · rw [if_pos a112]; exact up2_ne h
  rw [if_neg a112]
  by_cases a113 : x = 113
  · rw [if_pos a113]; exact up2_ne h
  rw [if_neg a113]
  by_cases a114 : x = 114
  · rw [if_pos a114]; exact up2_ne h
  rw [if_neg a114]
  by_cases a115 : x = 115
  · rw [if_pos a115]; exact up2_ne h
  rw [if_neg a115]
  by_cases a116 : x = 116
  · rw [if_pos a116]; exact up2_ne h
  rw [if_neg a116]
  by_cases a117 : x = 117
  · rw [if_pos a117]; exact up2_ne h
  rw [if_neg a117]
  by_cases a118 : x = 118
  · rw [if_pos a118]; exact up2_ne h
  rw [if_neg a118]
  by_cases a119 : x = 119
  · rw [if_pos a119]; split <;> first | exact mticks_c _ _ h | rfl
  rw [if_neg a119]
  by_cases a120 : x = 120
  · rw [if_pos a120]; exact up2_ne h
  rw [if_neg a120]
  exact up2_ne h

theorem aside_c (u : Nat → Nat → Int32) (n : Nat) {a : Nat} (h : a ≠ 2) : iterN (fun k h => up2 h 2 k (h 1 k)) n u a = u a := iter_at (F := fun k h => up2 h 2 k (h 1 k)) a (fun _ _ => up2_ne h) n u
theorem back_c (u : Nat → Nat → Int32) (n : Nat) {a : Nat} (h : a ≠ 1) : iterN (fun k h => up2 h 1 k (h 2 k)) n u a = u a := iter_at (F := fun k h => up2 h 1 k (h 2 k)) a (fun _ _ => up2_ne h) n u
theorem swap_c (u : Nat → Nat → Int32) (n : Nat) {a : Nat} (h1 : a ≠ 1) (h2 : a ≠ 2) : iterN (fun k h => up2 (up2 h 1 k (h 2 k)) 2 k (h 1 k)) n u a = u a := iter_at (F := fun k h => up2 (up2 h 1 k (h 2 k)) 2 k (h 1 k)) a (fun _ _ => (up2_ne h2).trans (up2_ne h1)) n u
/-- perform's loop: so many commands to do, the next, the state: what stopped it (0: nothing), which, and the state behind it -/
def mpR : Nat → Nat → (Nat → Nat → Int32) → Int32
  | 0, _, _ => 0
  | n + 1, k, h => if rX7_does h (h 6 (2 * k)) (h 6 (2 * k + 1)) = 0 then mpR n (k + 1) (sX7_does h (h 6 (2 * k)) (h 6 (2 * k + 1))) else if rX7_does h (h 6 (2 * k)) (h 6 (2 * k + 1)) = (-105) then mpR n (k + 1) (sX7_does h (h 6 (2 * k)) (h 6 (2 * k + 1))) else rX7_does h (h 6 (2 * k)) (h 6 (2 * k + 1))
def mpK : Nat → Nat → (Nat → Nat → Int32) → Nat
  | 0, k, _ => k
  | n + 1, k, h => if rX7_does h (h 6 (2 * k)) (h 6 (2 * k + 1)) = 0 then mpK n (k + 1) (sX7_does h (h 6 (2 * k)) (h 6 (2 * k + 1))) else if rX7_does h (h 6 (2 * k)) (h 6 (2 * k + 1)) = (-105) then mpK n (k + 1) (sX7_does h (h 6 (2 * k)) (h 6 (2 * k + 1))) else k
def mpS : Nat → Nat → (Nat → Nat → Int32) → (Nat → Nat → Int32)
  | 0, _, h => h
  | n + 1, k, h => if rX7_does h (h 6 (2 * k)) (h 6 (2 * k + 1)) = 0 then mpS n (k + 1) (sX7_does h (h 6 (2 * k)) (h 6 (2 * k + 1))) else if rX7_does h (h 6 (2 * k)) (h 6 (2 * k + 1)) = (-105) then mpS n (k + 1) (sX7_does h (h 6 (2 * k)) (h 6 (2 * k + 1))) else sX7_does h (h 6 (2 * k)) (h 6 (2 * k + 1))
def mp0 (u : Nat → Nat → Int32) : Nat → Nat → Int32 := sX7_putAside (sX7_reads (thr u))
def mpN (u : Nat → Nat → Int32) : Nat := mK (sX7_reads (thr u))
def rX7_perform (u : Nat → Nat → Int32) : Int32 := if rX7_reads (thr u) = (-105) then (if mpR (mpN u) 0 (mp0 u) = 0 then (sX7_swapsAside (sX7_records (sX7_swapsAside (mpS (mpN u) 0 (mp0 u))))) 0 14 else (-104)) else (-200) - rX7_reads (thr u)
def sX7_perform (u : Nat → Nat → Int32) : Nat → Nat → Int32 := if rX7_reads (thr u) = (-105) then (if mpR (mpN u) 0 (mp0 u) = 0 then sX7_swapsAside (sX7_records (sX7_swapsAside (mpS (mpN u) 0 (mp0 u)))) else up2 (up2 (sX7_takeBack (mpS (mpN u) 0 (mp0 u))) 0 9 (nI (mpK (mpN u) 0 (mp0 u)))) 0 10 (mpR (mpN u) 0 (mp0 u))) else sX7_reads (thr u)
theorem thr_len {u : Nat → Nat → Int32} (h : MLen u) : MLen (thr u) := MLen.of (by unfold thr; exact up2_k (by decide)) h
theorem mp0_0 (u : Nat → Nat → Int32) : mp0 u 0 = sX7_reads (thr u) 0 := by unfold mp0 sX7_putAside; exact aside_c _ _ (by decide)
theorem mpN_le {u : Nat → Nat → Int32} (hl : MLen u) : mpN u ≤ 30 ∧ mp0 u 0 14 = nI (mpN u) := by
  have r := reads_RI (thr_len hl)
  rw [mp0_0]
  exact ⟨r.k, r.2.2.1⟩
/-- what text reading leaves alone -/
def Kp (u v : Nat → Nat → Int32) : Prop := (∀ c, c ≠ 0 → c ≠ 6 → v c = u c) ∧ ∀ j, j ≠ 11 → j ≠ 12 → j ≠ 14 → v 0 j = u 0 j
theorem Kp.rf (u : Nat → Nat → Int32) : Kp u u := ⟨fun _ _ _ => rfl, fun _ _ _ _ => rfl⟩
theorem Kp.tr {u v w : Nat → Nat → Int32} (h : Kp u v) (h2 : Kp v w) : Kp u w := ⟨fun c a b => (h2.1 c a b).trans (h.1 c a b), fun j a b d => (h2.2 j a b d).trans (h.2 j a b d)⟩
theorem Kp.s {u v : Nat → Nat → Int32} (h : Kp u v) {k : Nat} {z : Int32} (hk : k = 11 ∨ k = 12 ∨ k = 14) : Kp u (up2 v 0 k z) := h.tr ⟨fun c a _ => up2_ne a, fun j a b d => up2_k (by omega)⟩
theorem Kp.c6 {u v : Nat → Nat → Int32} (h : Kp u v) {k : Nat} {z : Int32} : Kp u (up2 v 6 k z) := h.tr ⟨fun c _ b => up2_ne b, fun j _ _ _ => up2_d (by decide)⟩
theorem nmS_Kp (y : Int32) : ∀ (n : Nat) (h : Nat → Nat → Int32) (z : Int32), Kp h (nmS y n h z) := by
  intro n
  induction n with
  | zero => exact fun h z => Kp.rf h
  | succ n ih =>
    intro h z
    rw [nmS]
    split
    · exact Kp.rf h
    split
    · exact Kp.rf h
    split
    · exact Kp.rf h
    split
    · exact Kp.rf h
    exact ((Kp.rf h).s (Or.inl rfl)).tr (ih _ _)
theorem num_Kp (u : Nat → Nat → Int32) (x y : Int32) : Kp u (sX7_number u x y) := by
  unfold sX7_number
  refine Kp.tr ?_ (nmS_Kp y 60 (nmB u x y) _)
  unfold nmB nmA
  exact ((Kp.rf u).s (Or.inr (Or.inl rfl))).s (Or.inl rfl)
theorem val_Kp (u : Nat → Nat → Int32) (x : Int32) : Kp u (sX7_valueOf u x) := by
  unfold sX7_valueOf
  split
  · unfold sX7_alignment
    refine Kp.tr ?_ (num_Kp _ _ _)
    unfold mAl
    exact (Kp.rf u).s (Or.inl rfl)
  split
  · exact num_Kp _ _ _
  split
  · exact num_Kp _ _ _
  split
  · exact num_Kp _ _ _
  split
  · exact num_Kp _ _ _
  split
  · exact num_Kp _ _ _
  exact Kp.rf u
theorem cmd_Kp (u : Nat → Nat → Int32) : Kp u (sX7_readsCommand u) := by
  have hC : Kp u (rdC u) := by
    unfold rdC rdB
    exact (((Kp.rf u).s (Or.inr (Or.inl rfl))).s (Or.inl rfl)).c6
  unfold sX7_readsCommand
  split
  · exact (hC.c6).s (Or.inr (Or.inr rfl))
  · exact ((hC.tr (val_Kp _ _)).c6).s (Or.inr (Or.inr rfl))
theorem rsS_Kp : ∀ (n : Nat) (h : Nat → Nat → Int32), Kp h (rsS n h) := by
  intro n
  induction n with
  | zero => exact fun h => Kp.rf h
  | succ n ih =>
    intro h
    have hK : Kp h (reK h) := by
      unfold reK
      exact ((Kp.rf h).s (Or.inr (Or.inl rfl))).s (Or.inl rfl)
    rw [rsS]
    split
    · exact Kp.rf h
    split
    · exact Kp.rf h
    split
    · exact hK.tr (ih _)
    · exact (hK.tr (cmd_Kp _)).tr (ih _)
theorem reads_Kp (u : Nat → Nat → Int32) : Kp u (sX7_reads u) := by
  unfold sX7_reads
  refine Kp.tr (Kp.tr ?_ (cmd_Kp _)) (rsS_Kp 60 _)
  unfold reE
  exact (((Kp.rf u).s (Or.inl rfl)).s (Or.inr (Or.inl rfl))).s (Or.inr (Or.inr rfl))
theorem MSz.of {u v : Nat → Nat → Int32} (e : v 0 4 = u 0 4) (h : MSz u) : MSz v := by
  obtain ⟨n, a, b⟩ := h
  exact ⟨n, a, e.trans b⟩
theorem mp0_sz {u : Nat → Nat → Int32} (h : MSz u) : MSz (mp0 u) := by
  refine MSz.of (u := thr u) ?_ (MSz.of (u := u) (by unfold thr; exact up2_k (by decide)) h)
  rw [mp0_0]
  exact (reads_Kp (thr u)).2 4 (by decide) (by decide) (by decide)
theorem nI_ngt {a b : Nat} (h : a < b) (hb : b < 1000) : ¬ nI b ≤ nI a := nI_ge h (by omega)
