def reE (u : Nat → Nat → Int32) : Nat → Nat → Int32 := up2 (up2 (up2 u 0 11 0) 0 12 1) 0 14 0
def reW (h : Nat → Nat → Int32) : Int32 := if (rX7_sign h) = 44 then 1 else 0
def reK (h : Nat → Nat → Int32) : Nat → Nat → Int32 := up2 (up2 h 0 12 (reW h)) 0 11 ((h 0 11) + (b01 (reW h)))
/-- the commands behind the first -/
def rsS : Nat → (Nat → Nat → Int32) → (Nat → Nat → Int32)
  | 0, h => h
  | n + 1, h => if (h 0 12) = 0 then h else if (h 0 8) ≤ (h 0 11) then h else if (reW h) = 0 then rsS n (reK h) else rsS n (sX7_readsCommand (reK h))
def sX7_reads (u : Nat → Nat → Int32) : Nat → Nat → Int32 := rsS 60 (sX7_readsCommand (reE u))
def rX7_reads (u : Nat → Nat → Int32) : Int32 := if (sX7_reads u) 0 12 = 0 then (sX7_reads u) 0 11 else (-105)
theorem reW_01 (h : Nat → Nat → Int32) : reW h = 0 ∨ reW h = 1 := by
  unfold reW
  by_cases c : (rX7_sign h) = 44
  · rw [if_pos c]; exact Or.inr rfl
  · rw [if_neg c]; exact Or.inl rfl
theorem reK_e (h : Nat → Nat → Int32) : (reK h) 0 8 = h 0 8 ∧ (reK h) 0 12 = reW h ∧ (reK h) 0 14 = h 0 14 := by
  unfold reK
  exact ⟨(up2_k (by decide)).trans (up2_k (by decide)), (up2_k (by decide)).trans up2_s, (up2_k (by decide)).trans (up2_k (by decide))⟩
theorem reK_at {h : Nat → Nat → Int32} (ha : MAt h) (hl : MLen h) (c : ¬ h 0 8 ≤ h 0 11) : MAt (reK h) ∧ mA h ≤ mA (reK h) ∧ (¬ reW h = 0 → mA (reK h) = mA h + 1) := by
  have e11 : (up2 h 0 12 (reW h)) 0 11 = h 0 11 := up2_k (by decide)
  have e8 : (up2 h 0 12 (reW h)) 0 8 = h 0 8 := up2_k (by decide)
  unfold reK b01
  by_cases d : reW h = 0
  · rw [if_pos d]
    have e : (up2 (up2 h 0 12 (reW h)) 0 11 (h 0 11 + 0)) 0 11 = h 0 11 := by rw [up2_s]; exact Int32.add_zero _
    exact ⟨MAt.of e ha, Nat.le_of_eq (mA_of e).symm, fun x => absurd d x⟩
  · rw [if_neg d]
    have hup := MAt.up (h := up2 h 0 12 (reW h)) (z := (h 0 11) + 1) (MAt.of e11 ha) (MLen.of e8 hl) (by rw [e8, e11]; exact c) (by rw [e11])
    have e := mA_of e11
    exact ⟨hup.1, by rw [hup.2, e]; exact Nat.le_succ _, fun _ => by rw [hup.2, e]⟩
