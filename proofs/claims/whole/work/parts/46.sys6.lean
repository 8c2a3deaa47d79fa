def Kt (t v : Nat → Nat → Int32) : Prop := (∀ c, c ≠ 0 → c ≠ 3 → v c = t c) ∧ ∀ j, j ≠ 5 → v 0 j = t 0 j
theorem Kt.rf (t : Nat → Nat → Int32) : Kt t t := ⟨fun _ _ _ => rfl, fun _ _ => rfl⟩
theorem Kt.tr {u v w : Nat → Nat → Int32} (h : Kt u v) (h2 : Kt v w) : Kt u w := ⟨fun c a b => (h2.1 c a b).trans (h.1 c a b), fun j a => (h2.2 j a).trans (h.2 j a)⟩
theorem Kt.s {u v : Nat → Nat → Int32} (h : Kt u v) {z : Int32} : Kt u (up2 v 0 5 z) := h.tr ⟨fun c a _ => up2_ne a, fun j a => up2_k a⟩
theorem Kt.c3 {u v : Nat → Nat → Int32} (h : Kt u v) {k : Nat} {z : Int32} : Kt u (up2 v 3 k z) := h.tr ⟨fun c _ b => up2_ne b, fun j _ => up2_d (by decide)⟩
theorem rnS_Kt (y : Int32) : ∀ (n : Nat) (h : Nat → Nat → Int32) (z : Int32), Kt h (rnS y n h z) := by
  intro n
  induction n with
  | zero => exact fun h z => (Kt.rf h).c3
  | succ n ih =>
    intro h z
    rw [rnS]
    split
    · exact (Kt.rf h).c3
    split
    · exact (Kt.rf h).c3
    split
    · exact ((Kt.rf h).s).tr (ih _ _)
    · exact Kt.rf h
theorem rdN_Kt (t : Nat → Nat → Int32) (x y : Int32) : Kt t (sX4_readNumber t x y) := by
  unfold sX4_readNumber
  split
  · exact Kt.rf t
  split
  · exact Kt.rf t
  exact ((Kt.rf t).s).tr (rnS_Kt y 60 _ _)
theorem rdA_Kt (t : Nat → Nat → Int32) : Kt t (sX4_readAlignment t) := by
  have e : Kt t (jX4_readAlignment_29 t) := by
    unfold jX4_readAlignment_29
    split
    · exact Kt.rf t
    · exact (Kt.rf t).s
  unfold sX4_readAlignment
  split
  · exact e
  split
  · exact (e.s).c3
  split
  · exact e
  · exact (e.s).c3
theorem rdV_Kt (t : Nat → Nat → Int32) (x : Int32) : Kt t (sX4_readValue t x) := by
  unfold sX4_readValue
  split
  · exact rdA_Kt t
  split
  · exact rdN_Kt t _ _
  split
  · exact rdN_Kt t _ _
  split
  · exact rdN_Kt t _ _
  split
  · exact rdN_Kt t _ _
  split
  · exact rdN_Kt t _ _
  exact Kt.rf t
/-- the commands' count is in range, and each letter a character -/
def TC2 (t : Nat → Nat → Int32) : Prop := TCm t ∧ ∀ i, i < 60 → narrow .char (.int (t 2 i)) = .int (t 2 i)
theorem TC2.of {t v : Nat → Nat → Int32} (h : TC2 t) (e4 : v 0 4 = t 0 4) (e2 : v 2 = t 2) : TC2 v := by
  obtain ⟨⟨k, a, b⟩, c⟩ := h
  exact ⟨⟨k, a, e4.trans b⟩, by rw [e2]; exact c⟩
theorem rdC_TC {t : Nat → Nat → Int32} (h : TC2 t) : TC2 (sX4_readCommand t) := by
  unfold sX4_readCommand
  by_cases c1 : (rX6_isWithin (t 0 4) 0 59) = 0
  · rw [if_pos c1]; exact h
  rw [if_neg c1]
  by_cases c2 : (rX4_isLetterOfCommand (rX4_next t)) = 0
  · rw [if_pos c2]; exact h
  rw [if_neg c2]
  have k := rdV_Kt (rcA t) (rX4_next t)
  have hk := iw_c (n := 59) rfl (by decide) c1
  have e4 : (sX4_readValue (rcA t) (rX4_next t)) 0 4 = t 0 4 := by
    rw [k.2 4 (by decide)]
    unfold rcA
    exact (up2_d (by decide)).trans ((up2_d (by decide)).trans (up2_k (by decide)))
  have e2 : (sX4_readValue (rcA t) (rX4_next t)) 2 = upd (t 2) (tK t) (rX4_next t) := by
    rw [k.1 2 (by decide) (by decide)]
    unfold rcA
    exact (up2_ne (by decide)).trans (up2_eq.trans (by rw [up2_ne (by decide)]))
  refine ⟨⟨(t 0 4).toNatClampNeg + 1, by omega, ?_⟩, ?_⟩
  · rw [up2_s, e4, hk.1]
    rw [← hk.1]
    exact (congrArg (· + 1) hk.1).trans (nI_1 _)
  · rw [up2_ne (by decide), e2]
    intro i hi
    by_cases ci : i = tK t
    · rw [ci, pk_us]
      exact congrArg Value.int (ilc c2).2
    · rw [pk_un ci]
      exact h.2 i hi
theorem rdK_Kt (t : Nat → Nat → Int32) : Kt t (sX4_readComma t) := by
  unfold sX4_readComma
  split
  · exact (Kt.rf t).s
  · exact Kt.rf t
theorem trS_TC : ∀ (n : Nat) (h : Nat → Nat → Int32) (z : Int32), TC2 h → TC2 (trS n h z) := by
  intro n
  induction n with
  | zero => exact fun h z H => H
  | succ n ih =>
    intro h z H
    have hK : TC2 (sX4_readComma h) := H.of ((rdK_Kt h).2 4 (by decide)) ((rdK_Kt h).1 2 (by decide) (by decide))
    rw [trS]
    split
    · exact H
    split
    · exact H
    split
    · exact ih _ _ hK
    split
    · exact ih _ _ (rdC_TC hK)
    · exact ih _ _ (rdC_TC hK)
theorem read_TC {t : Nat → Nat → Int32} (h : ∀ i, i < 60 → narrow .char (.int (t 2 i)) = .int (t 2 i)) : TC2 (sX4_read t) := by
  unfold sX4_read
  refine trS_TC 60 _ _ (rdC_TC ?_)
  unfold trE
  exact ⟨⟨0, by decide, up2_s⟩, h⟩
theorem LegOK.of {g h : Nat → Nat → Int32} (H : LegOK g) (e : h 2 = g 2) : LegOK h := by
  obtain ⟨j, a, b⟩ := H
  exact ⟨j, a, (congrFun e 1).trans b⟩
theorem LegOK.carry {g : Nat → Nat → Int32} (H : LegOK g) (x y : Int32) : LegOK (sX6_carryOut2 g x y) := by
  have hs : ∀ c, LegOK (sX3_setNumber g c y) := fun c => H.of (by unfold sX3_setNumber; (repeat' split) <;> first | rfl | exact up2_ne (by decide))
  have hg : ∀ c, LegOK (sX3_moveGate g c) := fun c => H.of (by unfold sX3_moveGate; (repeat' split) <;> first | rfl | exact up2_ne (by decide))
  have hn : LegOK (sX3_switchOn g) := H.of (by unfold sX3_switchOn; (repeat' split) <;> first | rfl | exact up2_ne (by decide))
  have hf : LegOK (sX3_switchOff g) := H.of (by unfold sX3_switchOff; (repeat' split) <;> first | rfl | exact up2_ne (by decide))
  have hr : LegOK (sX3_forgetReason g) := H.of (by unfold sX3_forgetReason; (repeat' split) <;> first | rfl | exact up2_ne (by decide))
  have hp : LegOK (sX3_passTicks g y) := by
    unfold sX3_passTicks
    split
    · exact H
    split
    · exact H.iterTick _
    · exact H
  unfold sX6_carryOut2
  by_cases a97 : x = 97
  · rw [if_pos a97]; first | exact H | exact hs _ | exact hg _ | exact hn | exact hf | exact hr | exact hp
  rw [if_neg a97]
  by_cases a98 : x = 98
  · rw [if_pos a98]; first | exact H | exact hs _ | exact hg _ | exact hn | exact hf | exact hr | exact hp
  rw [if_neg a98]
  by_cases a99 : x = 99
  · rw [if_pos a99]; first | exact H | exact hs _ | exact hg _ | exact hn | exact hf | exact hr | exact hp
  rw [if_neg a99]
  by_cases a100 : x = 100
  · rw [if_pos a100]; first | exact H | exact hs _ | exact hg _ | exact hn | exact hf | exact hr | exact hp
  rw [if_neg a100]
  by_cases a101 : x = 101
  · rw [if_pos a101]; first | exact H | exact hs _ | exact hg _ | exact hn | exact hf | exact hr | exact hp
  rw [if_neg a101]
  by_cases a102 : x = 102
  · rw [if_pos a102]; first | exact H | exact hs _ | exact hg _ | exact hn | exact hf | exact hr | exact hp
  rw [if_neg a102]
  by_cases a103 : x = 103
  · rw [if_pos a103]; first | exact H | exact hs _ | exact hg _ | exact hn | exact hf | exact hr | exact hp
  rw [if_neg a103]
  by_cases a104 : x = 104
  · rw [if_pos a104]; first | exact H | exact hs _ | exact hg _ | exact hn | exact hf | exact hr | exact hp
  rw [if_neg a104]
  by_cases a105 : x = 105
  · rw [if_pos a105]; first | exact H | exact hs _ | exact hg _ | exact hn | exact hf | exact hr | exact hp
  rw [if_neg a105]
  by_cases a106 : x = 106
  · rw [if_pos a106]; first | exact H | exact hs _ | exact hg _ | exact hn | exact hf | exact hr | exact hp
  rw [if_neg a106]
  by_cases a107 : x = 107
  · rw [if_pos a107]; first | exact H | exact hs _ | exact hg _ | exact hn | exact hf | exact hr | exact hp
  rw [if_neg a107]
  by_cases a108 : x = 108
  · rw [if_pos a108]; first | exact H | exact hs _ | exact hg _ | exact hn | exact hf | exact hr | exact hp
  rw [if_neg a108]
  by_cases a109 : x = 109
  · rw [if_pos a109]; first | exact H | exact hs _ | exact hg _ | exact hn | exact hf | exact hr | exact hp
  rw [if_neg a109]
  by_cases a110 : x = 110
  · rw [if_pos a110]; first | exact H | exact hs _ | exact hg _ | exact hn | exact hf | exact hr | exact hp
  rw [if_neg a110]
  by_cases a111 : x = 111
  · rw [if_pos a111]; first | exact H | exact hs _ | exact hg _ | exact hn | exact hf | exact hr | exact hp
  rw [if_neg a111]
  by_cases a112 : x = 112
  · rw [if_pos a112]; first | exact H | exact hs _ | exact hg _ | exact hn | exact hf | exact hr | exact hp
  rw [if_neg a112]
  by_cases a113 : x = 113
  · rw [if_pos a113]; first | exact H | exact hs _ | exact hg _ | exact hn | exact hf | exact hr | exact hp
  rw [if_neg a113]
  by_cases a114 : x = 114
  · rw [if_pos a114]; first | exact H | exact hs _ | exact hg _ | exact hn | exact hf | exact hr | exact hp
  rw [if_neg a114]
  by_cases a115 : x = 115
  · rw [if_pos a115]; first | exact H | exact hs _ | exact hg _ | exact hn | exact hf | exact hr | exact hp
  rw [if_neg a115]
  by_cases a116 : x = 116
  · rw [if_pos a116]; first | exact H | exact hs _ | exact hg _ | exact hn | exact hf | exact hr | exact hp
  rw [if_neg a116]
  by_cases a117 : x = 117
  · rw [if_pos a117]; first | exact H | exact hs _ | exact hg _ | exact hn | exact hf | exact hr | exact hp
  rw [if_neg a117]
  by_cases a118 : x = 118
  · rw [if_pos a118]; first | exact H | exact hs _ | exact hg _ | exact hn | exact hf | exact hr | exact hp
  rw [if_neg a118]
  by_cases a119 : x = 119
  · rw [if_pos a119]; first | exact H | exact hs _ | exact hg _ | exact hn | exact hf | exact hr | exact hp
  rw [if_neg a119]
  by_cases a120 : x = 120
  · rw [if_pos a120]; first | exact H | exact hs _ | exact hg _ | exact hn | exact hf | exact hr | exact hp
  rw [if_neg a120]
  exact H

/-- perform's loop over the read text: so many commands to do, the next, the leg: what stopped it (0: nothing), which, the leg behind it -/
def gpA (t : Nat → Nat → Int32) (i : Nat) (h : Nat → Nat → Int32) : Int32 := rX6_carryOut h (rX4_letterOf t (nI i)) (rX4_valueOf t (nI i))
def gpB (t : Nat → Nat → Int32) (i : Nat) (h : Nat → Nat → Int32) : Nat → Nat → Int32 := sX6_carryOut2 h (rX4_letterOf t (nI i)) (rX4_valueOf t (nI i))
def gpR (t : Nat → Nat → Int32) : Nat → Nat → (Nat → Nat → Int32) → Int32
  | 0, _, _ => 0
  | n + 1, i, h => if rX6_isError (gpA t i h) = 0 then gpR t n (i + 1) (gpB t i h) else gpA t i h
def gpK (t : Nat → Nat → Int32) : Nat → Nat → (Nat → Nat → Int32) → Nat
  | 0, i, _ => i
  | n + 1, i, h => if rX6_isError (gpA t i h) = 0 then gpK t n (i + 1) (gpB t i h) else i
def gpS (t : Nat → Nat → Int32) : Nat → Nat → (Nat → Nat → Int32) → (Nat → Nat → Int32)
  | 0, _, h => h
  | n + 1, i, h => if rX6_isError (gpA t i h) = 0 then gpS t n (i + 1) (gpB t i h) else gpB t i h
theorem err_n0 {x : Int32} (h : ¬ rX6_isError x = 0) : ¬ x = 0 := by
  intro e
  rw [e] at h
  exact h (by decide)
def gP (g t : Nat → Nat → Int32) : Int32 := gpR (sX4_read t) (tK (sX4_read t)) 0 g
def gPK (g t : Nat → Nat → Int32) : Nat := gpK (sX4_read t) (tK (sX4_read t)) 0 g
def gPS (g t : Nat → Nat → Int32) : Nat → Nat → Int32 := gpS (sX4_read t) (tK (sX4_read t)) 0 g
def rX6_perform (g t : Nat → Nat → Int32) : Int32 := if rX4_read t = (-1) then (if gP g t = 0 then rX6_recorded (sX4_read t 0 4) else (-104)) else (-200) - rX4_read t
def sX6_perform (so g t : Nat → Nat → Int32) : Nat → Nat → Int32 := if rX4_read t = (-1) then (if gP g t = 0 then so else up2 (up2 so 0 7 (nI (gPK g t))) 0 8 (gP g t)) else so
def sX6_perform2 (g t : Nat → Nat → Int32) : Nat → Nat → Int32 := if rX4_read t = (-1) then (if gP g t = 0 then gPS g t else sX3_become (sX3_become g)) else g
def sX6_perform3 (g gB t : Nat → Nat → Int32) : Nat → Nat → Int32 := if rX4_read t = (-1) then sX3_become g else gB
def sX6_perform4 (g sh t : Nat → Nat → Int32) : Nat → Nat → Int32 := if rX4_read t = (-1) then (if gP g t = 0 then sX6_recorded2 sh (sX4_read t 0 4) else sh) else sh
def sX6_perform5 (g sh q0 t : Nat → Nat → Int32) : Nat → Nat → Int32 := if rX4_read t = (-1) then (if gP g t = 0 then sX6_recorded3 sh q0 (sX3_become g) (sX4_read t 0 4) else q0) else q0
def sX6_perform6 (g sh q1 t : Nat → Nat → Int32) : Nat → Nat → Int32 := if rX4_read t = (-1) then (if gP g t = 0 then sX6_recorded4 sh q1 (sX3_become g) (sX4_read t 0 4) else q1) else q1
def sX6_perform7 (g sh q2 t : Nat → Nat → Int32) : Nat → Nat → Int32 := if rX4_read t = (-1) then (if gP g t = 0 then sX6_recorded5 sh q2 (sX3_become g) (sX4_read t 0 4) else q2) else q2
def sX6_perform8 (g sh q3 t : Nat → Nat → Int32) : Nat → Nat → Int32 := if rX4_read t = (-1) then (if gP g t = 0 then sX6_recorded6 sh q3 (sX3_become g) (sX4_read t 0 4) else q3) else q3