/-! ===== the text: a value, a command, the whole text ===== -/
theorem il_eq (x : Int32) : rX4_isLetterOfCommand x = rX7_isLetter x := by
  unfold rX4_isLetterOfCommand rX7_isLetter
  by_cases a97 : x = 97
  · subst a97; decide
  by_cases a98 : x = 98
  · subst a98; decide
  by_cases a99 : x = 99
  · subst a99; decide
  by_cases a100 : x = 100
  · subst a100; decide
  by_cases a101 : x = 101
  · subst a101; decide
  by_cases a102 : x = 102
  · subst a102; decide
  by_cases a103 : x = 103
  · subst a103; decide
  by_cases a104 : x = 104
  · subst a104; decide
  by_cases a105 : x = 105
  · subst a105; decide
  by_cases a106 : x = 106
  · subst a106; decide
  by_cases a107 : x = 107
  · subst a107; decide
  by_cases a108 : x = 108
  · subst a108; decide
  by_cases a109 : x = 109
  · subst a109; decide
  by_cases a110 : x = 110
  · subst a110; decide
  by_cases a111 : x = 111
  · subst a111; decide
  by_cases a112 : x = 112
  · subst a112; decide
  by_cases a113 : x = 113
  · subst a113; decide
  by_cases a114 : x = 114
  · subst a114; decide
  by_cases a115 : x = 115
  · subst a115; decide
  by_cases a116 : x = 116
  · subst a116; decide
  by_cases a117 : x = 117
  · subst a117; decide
  by_cases a118 : x = 118
  · subst a118; decide
  by_cases a119 : x = 119
  · subst a119; decide
  by_cases a120 : x = 120
  · subst a120; decide
  simp only [a97, a98, a99, a100, a101, a102, a103, a104, a105, a106, a107, a108, a109, a110, a111, a112, a113, a114, a115, a116, a117, a118, a119, a120, reduceIte]

/-- the values that go with a letter -/
def CV (L V : Int32) : Prop := (L = 100 → Rg V 0 6) ∧ (L = 116 → Rg V 0 200) ∧ (L = 102 → Rg V 0 40) ∧ (L = 99 → Rg V 1 20) ∧ (L = 97 → Rg V (-9) 9) ∧ (L = 119 → Rg V 1 99)
theorem NO.imp {t t' u u' : Nat → Nat → Int32} {b : Int32} {p q : Prop} (h : NO t t' u u' b p) (f : p → q) : NO t t' u u' b q :=
  ⟨h.1, h.2.1, h.2.2.imp (fun ⟨a, c, d⟩ => ⟨a, c, f d⟩) id⟩
theorem value_sim {t u : Nat → Nat → Int32} (h : PB t u) (h12 : u 0 12 = 1) (h0 : t 3 (tK t) = 0) (x : Int32) :
    NO t (sX4_readValue t x) u (sX7_valueOf u x) (rX4_readValue t x) (sX4_readValue t x 3 (tK t) = rX7_valueOf u x ∧ CV x (rX7_valueOf u x)) := by
  have O0 : (0 : Int32) = 0 ∨ (0 : Int32) = 1 := Or.inl rfl
  have O1 : (1 : Int32) = 0 ∨ (1 : Int32) = 1 := Or.inr rfl
  unfold sX4_readValue rX4_readValue sX7_valueOf rX7_valueOf
  by_cases a97 : x = 97
  · subst a97
    simp only [reduceIte]
    exact (align_sim h h12).imp (fun ⟨p, q⟩ => ⟨p, by unfold CV; exact ⟨fun e => absurd e (by decide), fun e => absurd e (by decide), fun e => absurd e (by decide), fun e => absurd e (by decide), fun _ => q, fun e => absurd e (by decide)⟩⟩)
  by_cases a99 : x = 99
  · subst a99
    simp only [a97, reduceIte]
    exact (number_sim h h12 O1 ⟨by decide, by decide⟩).imp (fun ⟨p, q⟩ => ⟨p, by unfold CV; exact ⟨fun e => absurd e (by decide), fun e => absurd e (by decide), fun e => absurd e (by decide), fun _ => q.mono (by decide), fun e => absurd e (by decide), fun e => absurd e (by decide)⟩⟩)
  by_cases a100 : x = 100
  · subst a100
    simp only [a97, a99, reduceIte]
    exact (number_sim h h12 O0 ⟨by decide, by decide⟩).imp (fun ⟨p, q⟩ => ⟨p, by unfold CV; exact ⟨fun _ => q.mono (by decide), fun e => absurd e (by decide), fun e => absurd e (by decide), fun e => absurd e (by decide), fun e => absurd e (by decide), fun e => absurd e (by decide)⟩⟩)
  by_cases a102 : x = 102
  · subst a102
    simp only [a97, a99, a100, reduceIte]
    exact (number_sim h h12 O0 ⟨by decide, by decide⟩).imp (fun ⟨p, q⟩ => ⟨p, by unfold CV; exact ⟨fun e => absurd e (by decide), fun e => absurd e (by decide), fun _ => q.mono (by decide), fun e => absurd e (by decide), fun e => absurd e (by decide), fun e => absurd e (by decide)⟩⟩)
  by_cases a116 : x = 116
  · subst a116
    simp only [a97, a99, a100, a102, reduceIte]
    exact (number_sim h h12 O0 ⟨by decide, by decide⟩).imp (fun ⟨p, q⟩ => ⟨p, by unfold CV; exact ⟨fun e => absurd e (by decide), fun _ => q.mono (by decide), fun e => absurd e (by decide), fun e => absurd e (by decide), fun e => absurd e (by decide), fun e => absurd e (by decide)⟩⟩)
  by_cases a119 : x = 119
  · subst a119
    simp only [a97, a99, a100, a102, a116, reduceIte]
    exact (number_sim h h12 O1 ⟨by decide, by decide⟩).imp (fun ⟨p, q⟩ => ⟨p, by unfold CV; exact ⟨fun e => absurd e (by decide), fun e => absurd e (by decide), fun e => absurd e (by decide), fun e => absurd e (by decide), fun e => absurd e (by decide), fun _ => q.mono (by decide)⟩⟩)
  simp only [a97, a99, a100, a102, a116, a119, reduceIte]
  exact ⟨h, fun j _ => rfl, Or.inl ⟨by decide, by rw [h12]; decide, h0, fun e => absurd e a100, fun e => absurd e a116, fun e => absurd e a102, fun e => absurd e a99, fun e => absurd e a97, fun e => absurd e a119⟩⟩
theorem valc (u : Nat → Nat → Int32) (x : Int32) {a : Nat} (ha : a ≠ 0) : sX7_valueOf u x a = u a := by
  have hn : ∀ w y z, sX7_number w y z a = w a := fun w y z => by
    unfold sX7_number
    rw [numc _ _ _ _ ha]
    unfold nmB nmA
    rw [up2_ne ha, up2_ne ha]
  unfold sX7_valueOf
  split
  · unfold sX7_alignment; rw [hn]; unfold mAl; exact up2_ne ha
  split
  · exact hn _ _ _
  split
  · exact hn _ _ _
  split
  · exact hn _ _ _
  split
  · exact hn _ _ _
  split
  · exact hn _ _ _
  rfl
/-- the commands that were read, on both sides -/
def PC (t u : Nat → Nat → Int32) : Prop := t 0 4 = u 0 14 ∧ ∀ j, j < mK u → t 2 j = u 6 (2 * j) ∧ t 3 j = u 6 (2 * j + 1) ∧ ¬ rX7_isLetter (t 2 j) = 0 ∧ CV (t 2 j) (t 3 j)
/-- where the two readers stand behind a command -/
def CO (t u : Nat → Nat → Int32) (b : Int32) : Prop := PB t u ∧ ((¬ b = 0 ∧ ¬ u 0 12 = 0 ∧ PC t u) ∨ (b = 0 ∧ ¬ u 0 12 = 0 ∧ AtDigit u) ∨ (b = 0 ∧ u 0 12 = 0))
theorem command_sim {t u : Nat → Nat → Int32} (h : PB t u) (hk : u 0 14 = nI (mK u)) (hk30 : mK u ≤ 30) (hc : PC t u) : CO (sX4_readCommand t) (sX7_readsCommand u) (rX4_readCommand t) := by
  have e4 : t 0 4 = nI (mK u) := hc.1.trans hk
  have eK : tK t = mK u := by unfold tK; rw [e4]; exact nI_clamp (by omega)
  have cw : ¬ rX6_isWithin (t 0 4) 0 59 = 0 := iw_iff.mpr (by
    have e59 : (59 : Int32).toInt = 59 := by decide
    rw [e4, nI_toInt (by omega), t0, e59]; omega)
  have eC11 : rdC u 0 11 = u 0 11 + b01 (rX7_isLetter (rX7_sign u)) := by unfold rdC rdB; exact (up2_d (by decide)).trans up2_s
  have eC12 : rdC u 0 12 = rX7_isLetter (rX7_sign u) := by unfold rdC rdB; exact (up2_d (by decide)).trans ((up2_k (by decide)).trans up2_s)
  have eC8 : rdC u 0 8 = u 0 8 := by unfold rdC rdB; exact (up2_d (by decide)).trans ((up2_k (by decide)).trans (up2_k (by decide)))
  have eC5 : rdC u 5 = u 5 := by unfold rdC rdB; rw [up2_ne (by decide), up2_ne (by decide), up2_ne (by decide)]
  unfold sX4_readCommand rX4_readCommand sX7_readsCommand
  rw [if_neg cw, if_neg cw, eC12]
  by_cases c : rX7_isLetter (rX7_sign u) = 0
  · have cn : rX4_isLetterOfCommand (rX4_next t) = 0 := by
      rcases nx_sg h with ⟨e, -⟩ | ⟨e, -, -⟩
      · rw [e, il_eq]; exact c
      · rw [e]; decide
    rw [if_pos cn, if_pos cn, if_pos c]
    refine ⟨h.of rfl rfl rfl ?_ ?_ ?_, Or.inr (Or.inr ⟨rfl, ?_⟩)⟩
    · rw [up2_k (by decide), up2_d (by decide)]; exact eC8
    · rw [up2_k (by decide), up2_d (by decide), eC11, c]; exact Int32.add_zero _
    · rw [up2_ne (by decide), up2_ne (by decide)]; exact eC5
    · rw [up2_k (by decide), up2_d (by decide), eC12]; exact c
  · obtain ⟨en, c8⟩ : rX4_next t = rX7_sign u ∧ ¬ u 0 8 ≤ u 0 11 := by
      rcases nx_sg h with q | ⟨-, e0, -⟩
      · exact q
      · rw [e0] at c; exact absurd (by decide) c
    have cn : ¬ rX4_isLetterOfCommand (rX4_next t) = 0 := by rw [en, il_eq]; exact c
    rw [if_neg cn, if_neg cn, if_neg c, en]
    have L1 : rX7_isLetter (rX7_sign u) = 1 := (ilt_01 _).resolve_left c
    have hp : PB (rcA t) (rdC u) := by
      have hB := h.up c8 (y := t 0 5 + 1) (z := u 0 11 + 1) rfl rfl
      refine hB.1.of ?_ ?_ ?_ ?_ ?_ ?_
      · unfold rcA; rw [up2_d (by decide), up2_d (by decide)]
      · unfold rcA; rw [up2_d (by decide), up2_d (by decide)]
      · unfold rcA; rw [up2_ne (by decide), up2_ne (by decide)]
      · rw [up2_k (by decide)]; exact eC8
      · rw [up2_s, eC11, L1]; rfl
      · rw [up2_ne (by decide)]; exact eC5
    have kA : tK (rcA t) = tK t := by
      unfold tK rcA; rw [up2_d (by decide), up2_d (by decide), up2_k (by decide)]
    have A3 : ∀ j, rcA t 3 j = if j = tK t then 0 else t 3 j := fun j => by
      unfold rcA
      rw [up2_c, up2_d (by decide), up2_d (by decide)]
    have A2 : ∀ j, rcA t 2 j = if j = tK t then rX7_sign u else t 2 j := fun j => by
      unfold rcA
      rw [up2_d (by decide), up2_c, up2_d (by decide), en]
    have h0 : rcA t 3 (tK (rcA t)) = 0 := by rw [kA, A3, if_pos rfl]
    have V := value_sim hp (eC12.trans L1) h0 (rX7_sign u)
    have K2 := rdV_Kt (rcA t) (rX7_sign u)
    have M14 := (val_Kp (rdC u) (rX7_sign u))
    have v14 : sX7_valueOf (rdC u) (rX7_sign u) 0 14 = nI (mK u) := by
      have q := val_keep (rX7_sign u) hp.2.2.2.2 hp.len
      rw [q.2.2.2]
      exact rdC_14 ⟨by omega, hk⟩
    have vA4 : sX4_readValue (rcA t) (rX7_sign u) 0 4 = nI (mK u) := by
      rw [K2.2 4 (by decide)]
      unfold rcA
      rw [up2_d (by decide), up2_d (by decide), up2_k (by decide)]; exact e4
    obtain ⟨V1, V2, V3⟩ := V
    rw [kA] at V2 V3
    generalize hT : sX4_readValue (rcA t) (rX7_sign u) = t2 at V1 V2 V3 K2 vA4 ⊢
    generalize rX4_readValue (rcA t) (rX7_sign u) = b at V3 ⊢
    have u6 : sX7_valueOf (rdC u) (rX7_sign u) 6 = rdC u 6 := valc _ _ (by decide)
    generalize sX7_valueOf (rdC u) (rX7_sign u) = u2 at V1 V3 v14 u6 ⊢
    generalize rX7_valueOf (rdC u) (rX7_sign u) = val at V3 ⊢
    rw [v14, vA4]
    have PBo : ∀ z, PB (up2 t2 0 4 (nI (mK u) + 1)) (up2 (up2 u2 6 (2 * mK u + 1) val) 0 14 z) := fun z => V1.of (up2_k (by decide)) (up2_k (by decide)) (up2_ne (by decide)) ((up2_k (by decide)).trans (up2_d (by decide))) ((up2_k (by decide)).trans (up2_d (by decide))) ((up2_ne (by decide)).trans (up2_ne (by decide)))
    have o12 : ∀ z, up2 (up2 u2 6 (2 * mK u + 1) val) 0 14 z 0 12 = u2 0 12 := fun z => (up2_k (by decide)).trans (up2_d (by decide))
    refine ⟨PBo _, ?_⟩
    rw [o12]
    rcases V3 with ⟨b1, b2, b3, b4⟩ | ⟨b1, b2, b3⟩ | ⟨b1, b2⟩
    · refine Or.inl ⟨b1, b2, ?_⟩
      rw [if_neg b2, nI_1]
      have n14 : up2 (up2 u2 6 (2 * mK u + 1) val) 0 14 (nI (mK u + 1)) 0 14 = nI (mK u + 1) := up2_s
      have eK2 := mK_of n14 (by omega)
      refine ⟨by rw [n14]; exact up2_s, fun j hj => ?_⟩
      rw [eK2] at hj
      have c2 : ∀ j, up2 t2 0 4 (nI (mK u + 1)) 2 j = if j = tK t then rX7_sign u else t 2 j := fun j => by
        rw [up2_d (by decide), K2.1 2 (by decide) (by decide)]; exact A2 j
      have c3 : up2 t2 0 4 (nI (mK u + 1)) 3 j = t2 3 j := up2_d (by decide)
      have c6 : ∀ i, up2 (up2 u2 6 (2 * mK u + 1) val) 0 14 (nI (mK u + 1)) 6 i = if i = 2 * mK u + 1 then val else if i = 2 * mK u then rX7_sign u else u 6 i := fun i => by
        rw [up2_d (by decide), up2_c, u6]
        unfold rdC rdB
        rw [up2_c, up2_d (by decide), up2_d (by decide)]
      rw [c2, c3, c6, c6]
      by_cases cj : j = mK u
      · rw [if_pos (by omega), if_neg (by omega), if_pos (by omega), if_pos (by omega), show t2 3 j = val by rw [cj, ← eK]; exact b3]
        exact ⟨rfl, rfl, c, b4⟩
      · rw [if_neg (by omega), if_neg (by omega), if_neg (by omega), if_neg (by omega), if_neg (by omega), V2 j (by omega), A3, if_neg (by omega)]
        exact hc.2 j (by omega)
    · exact Or.inr (Or.inl ⟨b1, b2, b3.of ((up2_k (by decide)).trans (up2_d (by decide))) ((up2_k (by decide)).trans (up2_d (by decide))) ((up2_ne (by decide)).trans (up2_ne (by decide)))⟩)
    · exact Or.inr (Or.inr ⟨b1, b2⟩)
/-- the whole text, from behind the first command on -/
def FIN (t u : Nat → Nat → Int32) (z : Int32) : Prop := t 0 5 = u 0 11 ∧ ((¬ z = 0 ∧ ¬ u 0 12 = 0 ∧ PC t u ∧ RI u) ∨ (z = 0 ∧ u 0 12 = 0))
theorem rest_sim : ∀ (r : Nat) (t u : Nat → Nat → Int32) (z : Int32), CO t u z → RI u → (60 ≤ mA u + r ∨ u 0 12 = 0) → FIN (trS r t z) (rsS r u) (trR r t z) := by
  have stopped : ∀ (r : Nat) (u : Nat → Nat → Int32), u 0 12 = 0 → rsS r u = u := fun r u e => by
    cases r with
    | zero => rfl
    | succ r => rw [rsS, if_pos e]
  have ended : ∀ (r : Nat) (t : Nat → Nat → Int32), trS r t 0 = t ∧ trR r t 0 = 0 := fun r t => by
    cases r with
    | zero => exact ⟨rfl, rfl⟩
    | succ r => rw [trS, trR, if_pos rfl, if_pos rfl]; exact ⟨rfl, rfl⟩
  intro r
  induction r with
  | zero =>
    intro t u z ⟨hp, hc⟩ hR hf
    rw [trS, trR, rsS]
    refine ⟨hp.2.2.2.1, ?_⟩
    rcases hc with ⟨a, b, c⟩ | ⟨a, b, c⟩ | ⟨a, b⟩
    · exact Or.inl ⟨a, b, c, hR⟩
    · exact absurd (MAt.end2 hR.1 hR.2.1 (hf.resolve_right b)) c.1
    · exact Or.inr ⟨a, b⟩
  | succ r ih =>
    intro t u z ⟨hp, hc⟩ hR hf
    rcases hc with ⟨a, b, c⟩ | ⟨a, b, c⟩ | ⟨a, b⟩
    · rw [trS, trR, rsS, if_neg a, if_neg a, if_neg b]
      have el : (t 0 1 ≤ t 0 5) = (u 0 8 ≤ u 0 11) := by rw [hp.2.1, hp.2.2.2.1]
      by_cases cl : u 0 8 ≤ u 0 11
      · have cl' : t 0 1 ≤ t 0 5 := el.symm ▸ cl
        rw [if_pos cl', if_pos cl', if_pos cl]
        exact ⟨hp.2.2.2.1, Or.inl ⟨a, b, c, hR⟩⟩
      · have cl' : ¬ t 0 1 ≤ t 0 5 := el.symm ▸ cl
        rw [if_neg cl', if_neg cl', if_neg cl]
        have en : rX4_next t = rX7_sign u := by
          rcases nx_sg hp with ⟨e, -⟩ | ⟨-, -, e⟩
          · exact e
          · exact absurd e cl
        have ek := reK_e u
        have cm := hR.comma cl
        by_cases cc : rX7_sign u = 44
        · have w1 : reW u = 1 := by unfold reW; rw [if_pos cc]
          have r1 : rX4_readComma t = 1 := by unfold rX4_readComma; rw [en, if_pos cc]
          have s1 : sX4_readComma t = up2 t 0 5 (t 0 5 + 1) := by unfold sX4_readComma; rw [en, if_pos cc]
          have nz : ¬ (1 : Int32) = 0 := by decide
          rw [w1, r1, if_neg nz, if_neg nz, if_neg nz, s1]
          have up := hp.up cl (y := t 0 5 + 1) (z := u 0 11 + 1) rfl rfl
          have e11 : reK u 0 11 = u 0 11 + 1 := by unfold reK; rw [up2_s, w1]; rfl
          have hp2 : PB (up2 t 0 5 (t 0 5 + 1)) (reK u) := up.1.of rfl rfl rfl (by rw [ek.1]; exact (up2_k (by decide)).symm) (by rw [e11]; exact up2_s.symm) (by unfold reK; rw [up2_ne (by decide), up2_ne (by decide), up2_ne (by decide)])
          have e14 : reK u 0 14 = nI (mK u) := ek.2.2.trans hR.2.2.1
          have eK := mK_of e14 (by have := hR.k; omega)
          have hc2 : PC (up2 t 0 5 (t 0 5 + 1)) (reK u) := by
            refine ⟨by rw [up2_k (by decide), ek.2.2]; exact c.1, fun j hj => ?_⟩
            rw [eK] at hj
            rw [up2_d (by decide), up2_d (by decide)]
            unfold reK
            rw [up2_d (by decide), up2_d (by decide), up2_d (by decide), up2_d (by decide)]
            exact c.2 j hj
          have S := command_sim hp2 (by rw [eK]; exact e14) (by rw [eK]; exact hR.k) hc2
          have R2 := cm.2.1 (by rw [w1]; exact nz)
          have hf2 : 60 ≤ mA (sX7_readsCommand (reK u)) + r ∨ sX7_readsCommand (reK u) 0 12 = 0 := Or.inl (by have := hf.resolve_right b; have := R2.2; omega)
          by_cases cz : rX4_readCommand (up2 t 0 5 (t 0 5 + 1)) = 0
          · rw [if_pos cz, if_pos cz]
            rw [cz] at S
            exact ih _ _ 0 S R2.1 hf2
          · rw [if_neg cz, if_neg cz]
            refine ih _ _ 1 ⟨S.1, ?_⟩ R2.1 hf2
            rcases S.2 with ⟨-, q2, q3⟩ | ⟨q, -⟩ | ⟨q, -⟩
            · exact Or.inl ⟨nz, q2, q3⟩
            · exact absurd q cz
            · exact absurd q cz
        · have w0 : reW u = 0 := by unfold reW; rw [if_neg cc]
          have r0 : rX4_readComma t = 0 := by unfold rX4_readComma; rw [en, if_neg cc]
          have s0 : sX4_readComma t = t := by unfold sX4_readComma; rw [en, if_neg cc]
          rw [w0, r0, if_pos rfl, if_pos rfl, if_pos rfl, s0]
          have e12 : reK u 0 12 = 0 := ek.2.1.trans w0
          rw [(ended r t).1, (ended r t).2, stopped r _ e12]
          refine ⟨?_, Or.inr ⟨rfl, e12⟩⟩
          have e11 : reK u 0 11 = u 0 11 := by unfold reK; rw [up2_s, w0]; exact Int32.add_zero _
          rw [e11]; exact hp.2.2.2.1
    · rw [a, (ended _ t).1, (ended _ t).2, rsS, if_neg b, if_neg c.1]
      have w0 : reW u = 0 := by unfold reW; rw [if_neg c.2]
      have ek := reK_e u
      have e12 : reK u 0 12 = 0 := ek.2.1.trans w0
      rw [if_pos w0, stopped r _ e12]
      refine ⟨?_, Or.inr ⟨rfl, e12⟩⟩
      have e11 : reK u 0 11 = u 0 11 := by unfold reK; rw [up2_s, w0]; exact Int32.add_zero _
      rw [e11]; exact hp.2.2.2.1
    · rw [a, (ended _ t).1, (ended _ t).2, stopped _ u b]
      exact ⟨hp.2.2.2.1, Or.inr ⟨rfl, b⟩⟩
/-- the text as it is kept, on both sides -/
def TX (t u : Nat → Nat → Int32) : Prop := TLen t ∧ u 0 8 = t 0 1 ∧ ∀ i, i < tL t → u 5 i = t 1 i
/-- reading the text: no fault on either side and the same commands; or one fault -/
theorem read_sim {t u : Nat → Nat → Int32} (h : TX t u) : (rX4_read t = -1 ∧ rX7_reads u = -105 ∧ PC (sX4_read t) (sX7_reads u) ∧ RI (sX7_reads u)) ∨ (¬ rX4_read t = -1 ∧ ¬ rX7_reads u = -105 ∧ rX4_read t = rX7_reads u) := by
  have hl : MLen u := ⟨tL t, h.1.eq.2, h.2.1.trans h.1.eq.1⟩
  have eE := reE_ok hl
  have e1 : trE t 0 1 = t 0 1 := by unfold trE; rw [up2_k (by decide), up2_k (by decide)]
  have eL : tL (trE t) = tL t := by unfold tL; rw [e1]
  have hp : PB (trE t) (reE u) := by
    refine ⟨TLen.of e1 h.1, ?_, ?_, ?_, eE.1⟩
    · rw [e1, ← h.2.1]; unfold reE; rw [up2_k (by decide), up2_k (by decide), up2_k (by decide)]
    · rw [eL]; unfold trE reE
      rw [up2_ne (by decide), up2_ne (by decide), up2_ne (by decide), up2_ne (by decide), up2_ne (by decide)]
      exact h.2.2
    · unfold trE reE
      rw [up2_k (by decide), up2_s, up2_k (by decide), up2_k (by decide), up2_s]
  have eK := mK_of eE.2.2 (by decide)
  have hc : PC (trE t) (reE u) := ⟨by rw [eE.2.2]; unfold trE; exact up2_s, fun j hj => by rw [eK] at hj; omega⟩
  have S := command_sim hp (by rw [eK]; exact eE.2.2) (by rw [eK]; decide) hc
  have F := rest_sim 60 _ _ _ S (RI.first hl) (Or.inl (Nat.le_add_left _ _))
  unfold rX4_read rX7_reads sX4_read sX7_reads
  rcases F with ⟨f1, ⟨f2, f3, f4, f5⟩ | ⟨f2, f3⟩⟩
  · rw [if_neg f2, if_neg f3]
    exact Or.inl ⟨rfl, rfl, f4, f5⟩
  · rw [if_pos f2, if_pos f3, f1]
    have ha := (rsS_RI 60 _ (RI.first hl)).1.eq
    rw [ha.1]
    refine Or.inr ⟨fun q => ?_, fun q => ?_, rfl⟩
    · have := congrArg Int32.toInt q
      rw [nI_toInt (by omega), tm1] at this
      omega
    · have := congrArg Int32.toInt q
      rw [nI_toInt (by omega), show (-105 : Int32).toInt = -105 by decide] at this
      omega
