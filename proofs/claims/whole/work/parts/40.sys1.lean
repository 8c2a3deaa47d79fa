/-! ===== the system's own cells; a world's parts in another order ===== -/
def SysW (G : Gp) (z : Nat → Nat → Nat) (so : Nat → Nat → Int32) : va_W := [(z 0 0, .inr (6, [.ref (z 1 0), .ref (z 2 0), .ref (z 3 0), .ref (z 5 0), .ref (z 4 0), .int (so 0 5), .ref (z 10 0), .int (so 0 7), .int (so 0 8)]))]
def HistW (G : Gp) (z : Nat → Nat → Nat) (sh : Nat → Nat → Int32) : va_W := [(z 5 0, .inr (2, [.ref (z 5 1), .int (sh 0 1), .int (sh 0 2)])), (z 5 1, .inl (G.2.2.2 2, 4, .inr (.inr (.inr (.inr (fun i => some (z (6 + i) 0)))))))]
theorem va_D.nodup {A : Nat → Prop} {w : va_W} (h : va_D A w) : (w.map Prod.fst).Nodup := by
  refine List.pairwise_iff_getElem.mpr fun i j hi hj hij e => ?_
  rw [List.length_map] at hi hj
  rw [List.getElem_map, List.getElem_map] at e
  have := h.1 i j _ _ (List.getElem?_eq_getElem hi) (List.getElem?_eq_getElem hj) e
  omega
theorem va_D.ofN {A : Nat → Prop} {w : va_W} (h : (w.map Prod.fst).Nodup) (hA : ∀ q ∈ w, A q.1) : va_D A w := by
  refine ⟨fun i j p q hi hj e => ?_, fun k q hk => hA q (List.mem_of_getElem? hk)⟩
  have hl : i < (w.map Prod.fst).length := by rw [List.length_map]; exact (List.getElem?_eq_some_iff.mp hi).1
  refine (List.getElem?_inj hl h).mp ?_
  rw [List.getElem?_map, List.getElem?_map, hi, hj]
  exact congrArg some e
theorem Wd.perm {G : Gp} {s : State} {w w1 : va_W} {H : Heap} {locs : List Loc} (h : Wd G s w H locs) (hp : w.Perm w1) : Wd G s w1 H locs := by
  refine ⟨fun k q hk => ?_, va_D.ofN ((List.Perm.nodup_iff (hp.map Prod.fst)).mp h.2.1.nodup) (fun q hq => ?_), h.2.2⟩
  · obtain ⟨j, hj⟩ := List.getElem?_of_mem (hp.mem_iff.mpr (List.mem_of_getElem? hk))
    exact h.1 j q hj
  · obtain ⟨j, hj⟩ := List.getElem?_of_mem (hp.mem_iff.mpr hq)
    exact h.2.1.2 j q hj
theorem pm1 (A B R : va_W) : (A ++ (B ++ R)).Perm (B ++ (A ++ R)) := List.perm_append_comm_assoc A B R
theorem Wd.f1 {G : Gp} {s : State} {A0 B R : va_W} {H : Heap} {locs : List Loc} (h : Wd G s (A0 ++ (B ++ R)) H locs) : Wd G s (B ++ (A0 ++ R)) H locs := h.perm (pm1 A0 B R)
theorem pm2 (A0 A1 B R : va_W) : (A0 ++ (A1 ++ (B ++ R))).Perm (B ++ (A0 ++ (A1 ++ R))) := ((pm1 A1 B R).append_left A0).trans (pm1 A0 B (A1 ++ R))
theorem Wd.f2 {G : Gp} {s : State} {A0 A1 B R : va_W} {H : Heap} {locs : List Loc} (h : Wd G s (A0 ++ (A1 ++ (B ++ R))) H locs) : Wd G s (B ++ (A0 ++ (A1 ++ R))) H locs := h.perm (pm2 A0 A1 B R)
theorem pm3 (A0 A1 A2 B R : va_W) : (A0 ++ (A1 ++ (A2 ++ (B ++ R)))).Perm (B ++ (A0 ++ (A1 ++ (A2 ++ R)))) := ((pm2 A1 A2 B R).append_left A0).trans (pm1 A0 B (A1 ++ (A2 ++ R)))
theorem Wd.f3 {G : Gp} {s : State} {A0 A1 A2 B R : va_W} {H : Heap} {locs : List Loc} (h : Wd G s (A0 ++ (A1 ++ (A2 ++ (B ++ R)))) H locs) : Wd G s (B ++ (A0 ++ (A1 ++ (A2 ++ R)))) H locs := h.perm (pm3 A0 A1 A2 B R)
theorem pm4 (A0 A1 A2 A3 B R : va_W) : (A0 ++ (A1 ++ (A2 ++ (A3 ++ (B ++ R))))).Perm (B ++ (A0 ++ (A1 ++ (A2 ++ (A3 ++ R))))) := ((pm3 A1 A2 A3 B R).append_left A0).trans (pm1 A0 B (A1 ++ (A2 ++ (A3 ++ R))))
theorem Wd.f4 {G : Gp} {s : State} {A0 A1 A2 A3 B R : va_W} {H : Heap} {locs : List Loc} (h : Wd G s (A0 ++ (A1 ++ (A2 ++ (A3 ++ (B ++ R))))) H locs) : Wd G s (B ++ (A0 ++ (A1 ++ (A2 ++ (A3 ++ R))))) H locs := h.perm (pm4 A0 A1 A2 A3 B R)
theorem pm5 (A0 A1 A2 A3 A4 B R : va_W) : (A0 ++ (A1 ++ (A2 ++ (A3 ++ (A4 ++ (B ++ R)))))).Perm (B ++ (A0 ++ (A1 ++ (A2 ++ (A3 ++ (A4 ++ R)))))) := ((pm4 A1 A2 A3 A4 B R).append_left A0).trans (pm1 A0 B (A1 ++ (A2 ++ (A3 ++ (A4 ++ R)))))
theorem Wd.f5 {G : Gp} {s : State} {A0 A1 A2 A3 A4 B R : va_W} {H : Heap} {locs : List Loc} (h : Wd G s (A0 ++ (A1 ++ (A2 ++ (A3 ++ (A4 ++ (B ++ R)))))) H locs) : Wd G s (B ++ (A0 ++ (A1 ++ (A2 ++ (A3 ++ (A4 ++ R)))))) H locs := h.perm (pm5 A0 A1 A2 A3 A4 B R)
theorem pm6 (A0 A1 A2 A3 A4 A5 B R : va_W) : (A0 ++ (A1 ++ (A2 ++ (A3 ++ (A4 ++ (A5 ++ (B ++ R))))))).Perm (B ++ (A0 ++ (A1 ++ (A2 ++ (A3 ++ (A4 ++ (A5 ++ R))))))) := ((pm5 A1 A2 A3 A4 A5 B R).append_left A0).trans (pm1 A0 B (A1 ++ (A2 ++ (A3 ++ (A4 ++ (A5 ++ R))))))
theorem Wd.f6 {G : Gp} {s : State} {A0 A1 A2 A3 A4 A5 B R : va_W} {H : Heap} {locs : List Loc} (h : Wd G s (A0 ++ (A1 ++ (A2 ++ (A3 ++ (A4 ++ (A5 ++ (B ++ R))))))) H locs) : Wd G s (B ++ (A0 ++ (A1 ++ (A2 ++ (A3 ++ (A4 ++ (A5 ++ R))))))) H locs := h.perm (pm6 A0 A1 A2 A3 A4 A5 B R)
theorem pm7 (A0 A1 A2 A3 A4 A5 A6 B R : va_W) : (A0 ++ (A1 ++ (A2 ++ (A3 ++ (A4 ++ (A5 ++ (A6 ++ (B ++ R)))))))).Perm (B ++ (A0 ++ (A1 ++ (A2 ++ (A3 ++ (A4 ++ (A5 ++ (A6 ++ R)))))))) := ((pm6 A1 A2 A3 A4 A5 A6 B R).append_left A0).trans (pm1 A0 B (A1 ++ (A2 ++ (A3 ++ (A4 ++ (A5 ++ (A6 ++ R)))))))
theorem Wd.f7 {G : Gp} {s : State} {A0 A1 A2 A3 A4 A5 A6 B R : va_W} {H : Heap} {locs : List Loc} (h : Wd G s (A0 ++ (A1 ++ (A2 ++ (A3 ++ (A4 ++ (A5 ++ (A6 ++ (B ++ R)))))))) H locs) : Wd G s (B ++ (A0 ++ (A1 ++ (A2 ++ (A3 ++ (A4 ++ (A5 ++ (A6 ++ R)))))))) H locs := h.perm (pm7 A0 A1 A2 A3 A4 A5 A6 B R)
theorem pm8 (A0 A1 A2 A3 A4 A5 A6 A7 B R : va_W) : (A0 ++ (A1 ++ (A2 ++ (A3 ++ (A4 ++ (A5 ++ (A6 ++ (A7 ++ (B ++ R))))))))).Perm (B ++ (A0 ++ (A1 ++ (A2 ++ (A3 ++ (A4 ++ (A5 ++ (A6 ++ (A7 ++ R))))))))) := ((pm7 A1 A2 A3 A4 A5 A6 A7 B R).append_left A0).trans (pm1 A0 B (A1 ++ (A2 ++ (A3 ++ (A4 ++ (A5 ++ (A6 ++ (A7 ++ R))))))))
theorem Wd.f8 {G : Gp} {s : State} {A0 A1 A2 A3 A4 A5 A6 A7 B R : va_W} {H : Heap} {locs : List Loc} (h : Wd G s (A0 ++ (A1 ++ (A2 ++ (A3 ++ (A4 ++ (A5 ++ (A6 ++ (A7 ++ (B ++ R))))))))) H locs) : Wd G s (B ++ (A0 ++ (A1 ++ (A2 ++ (A3 ++ (A4 ++ (A5 ++ (A6 ++ (A7 ++ R))))))))) H locs := h.perm (pm8 A0 A1 A2 A3 A4 A5 A6 A7 B R)
theorem pm9 (A0 A1 A2 A3 A4 A5 A6 A7 A8 B R : va_W) : (A0 ++ (A1 ++ (A2 ++ (A3 ++ (A4 ++ (A5 ++ (A6 ++ (A7 ++ (A8 ++ (B ++ R)))))))))).Perm (B ++ (A0 ++ (A1 ++ (A2 ++ (A3 ++ (A4 ++ (A5 ++ (A6 ++ (A7 ++ (A8 ++ R)))))))))) := ((pm8 A1 A2 A3 A4 A5 A6 A7 A8 B R).append_left A0).trans (pm1 A0 B (A1 ++ (A2 ++ (A3 ++ (A4 ++ (A5 ++ (A6 ++ (A7 ++ (A8 ++ R)))))))))
theorem Wd.f9 {G : Gp} {s : State} {A0 A1 A2 A3 A4 A5 A6 A7 A8 B R : va_W} {H : Heap} {locs : List Loc} (h : Wd G s (A0 ++ (A1 ++ (A2 ++ (A3 ++ (A4 ++ (A5 ++ (A6 ++ (A7 ++ (A8 ++ (B ++ R)))))))))) H locs) : Wd G s (B ++ (A0 ++ (A1 ++ (A2 ++ (A3 ++ (A4 ++ (A5 ++ (A6 ++ (A7 ++ (A8 ++ R)))))))))) H locs := h.perm (pm9 A0 A1 A2 A3 A4 A5 A6 A7 A8 B R)
theorem pm10 (A0 A1 A2 A3 A4 A5 A6 A7 A8 A9 B R : va_W) : (A0 ++ (A1 ++ (A2 ++ (A3 ++ (A4 ++ (A5 ++ (A6 ++ (A7 ++ (A8 ++ (A9 ++ (B ++ R))))))))))).Perm (B ++ (A0 ++ (A1 ++ (A2 ++ (A3 ++ (A4 ++ (A5 ++ (A6 ++ (A7 ++ (A8 ++ (A9 ++ R))))))))))) := ((pm9 A1 A2 A3 A4 A5 A6 A7 A8 A9 B R).append_left A0).trans (pm1 A0 B (A1 ++ (A2 ++ (A3 ++ (A4 ++ (A5 ++ (A6 ++ (A7 ++ (A8 ++ (A9 ++ R))))))))))
theorem Wd.f10 {G : Gp} {s : State} {A0 A1 A2 A3 A4 A5 A6 A7 A8 A9 B R : va_W} {H : Heap} {locs : List Loc} (h : Wd G s (A0 ++ (A1 ++ (A2 ++ (A3 ++ (A4 ++ (A5 ++ (A6 ++ (A7 ++ (A8 ++ (A9 ++ (B ++ R))))))))))) H locs) : Wd G s (B ++ (A0 ++ (A1 ++ (A2 ++ (A3 ++ (A4 ++ (A5 ++ (A6 ++ (A7 ++ (A8 ++ (A9 ++ R))))))))))) H locs := h.perm (pm10 A0 A1 A2 A3 A4 A5 A6 A7 A8 A9 B R)
theorem pm11 (A0 A1 A2 A3 A4 A5 A6 A7 A8 A9 A10 B R : va_W) : (A0 ++ (A1 ++ (A2 ++ (A3 ++ (A4 ++ (A5 ++ (A6 ++ (A7 ++ (A8 ++ (A9 ++ (A10 ++ (B ++ R)))))))))))).Perm (B ++ (A0 ++ (A1 ++ (A2 ++ (A3 ++ (A4 ++ (A5 ++ (A6 ++ (A7 ++ (A8 ++ (A9 ++ (A10 ++ R)))))))))))) := ((pm10 A1 A2 A3 A4 A5 A6 A7 A8 A9 A10 B R).append_left A0).trans (pm1 A0 B (A1 ++ (A2 ++ (A3 ++ (A4 ++ (A5 ++ (A6 ++ (A7 ++ (A8 ++ (A9 ++ (A10 ++ R)))))))))))
theorem Wd.f11 {G : Gp} {s : State} {A0 A1 A2 A3 A4 A5 A6 A7 A8 A9 A10 B R : va_W} {H : Heap} {locs : List Loc} (h : Wd G s (A0 ++ (A1 ++ (A2 ++ (A3 ++ (A4 ++ (A5 ++ (A6 ++ (A7 ++ (A8 ++ (A9 ++ (A10 ++ (B ++ R)))))))))))) H locs) : Wd G s (B ++ (A0 ++ (A1 ++ (A2 ++ (A3 ++ (A4 ++ (A5 ++ (A6 ++ (A7 ++ (A8 ++ (A9 ++ (A10 ++ R)))))))))))) H locs := h.perm (pm11 A0 A1 A2 A3 A4 A5 A6 A7 A8 A9 A10 B R)
theorem pm12 (A0 A1 A2 A3 A4 A5 A6 A7 A8 A9 A10 A11 B R : va_W) : (A0 ++ (A1 ++ (A2 ++ (A3 ++ (A4 ++ (A5 ++ (A6 ++ (A7 ++ (A8 ++ (A9 ++ (A10 ++ (A11 ++ (B ++ R))))))))))))).Perm (B ++ (A0 ++ (A1 ++ (A2 ++ (A3 ++ (A4 ++ (A5 ++ (A6 ++ (A7 ++ (A8 ++ (A9 ++ (A10 ++ (A11 ++ R))))))))))))) := ((pm11 A1 A2 A3 A4 A5 A6 A7 A8 A9 A10 A11 B R).append_left A0).trans (pm1 A0 B (A1 ++ (A2 ++ (A3 ++ (A4 ++ (A5 ++ (A6 ++ (A7 ++ (A8 ++ (A9 ++ (A10 ++ (A11 ++ R))))))))))))
theorem Wd.f12 {G : Gp} {s : State} {A0 A1 A2 A3 A4 A5 A6 A7 A8 A9 A10 A11 B R : va_W} {H : Heap} {locs : List Loc} (h : Wd G s (A0 ++ (A1 ++ (A2 ++ (A3 ++ (A4 ++ (A5 ++ (A6 ++ (A7 ++ (A8 ++ (A9 ++ (A10 ++ (A11 ++ (B ++ R))))))))))))) H locs) : Wd G s (B ++ (A0 ++ (A1 ++ (A2 ++ (A3 ++ (A4 ++ (A5 ++ (A6 ++ (A7 ++ (A8 ++ (A9 ++ (A10 ++ (A11 ++ R))))))))))))) H locs := h.perm (pm12 A0 A1 A2 A3 A4 A5 A6 A7 A8 A9 A10 A11 B R)
theorem pm13 (A0 A1 A2 A3 A4 A5 A6 A7 A8 A9 A10 A11 A12 B R : va_W) : (A0 ++ (A1 ++ (A2 ++ (A3 ++ (A4 ++ (A5 ++ (A6 ++ (A7 ++ (A8 ++ (A9 ++ (A10 ++ (A11 ++ (A12 ++ (B ++ R)))))))))))))).Perm (B ++ (A0 ++ (A1 ++ (A2 ++ (A3 ++ (A4 ++ (A5 ++ (A6 ++ (A7 ++ (A8 ++ (A9 ++ (A10 ++ (A11 ++ (A12 ++ R)))))))))))))) := ((pm12 A1 A2 A3 A4 A5 A6 A7 A8 A9 A10 A11 A12 B R).append_left A0).trans (pm1 A0 B (A1 ++ (A2 ++ (A3 ++ (A4 ++ (A5 ++ (A6 ++ (A7 ++ (A8 ++ (A9 ++ (A10 ++ (A11 ++ (A12 ++ R)))))))))))))
theorem Wd.f13 {G : Gp} {s : State} {A0 A1 A2 A3 A4 A5 A6 A7 A8 A9 A10 A11 A12 B R : va_W} {H : Heap} {locs : List Loc} (h : Wd G s (A0 ++ (A1 ++ (A2 ++ (A3 ++ (A4 ++ (A5 ++ (A6 ++ (A7 ++ (A8 ++ (A9 ++ (A10 ++ (A11 ++ (A12 ++ (B ++ R)))))))))))))) H locs) : Wd G s (B ++ (A0 ++ (A1 ++ (A2 ++ (A3 ++ (A4 ++ (A5 ++ (A6 ++ (A7 ++ (A8 ++ (A9 ++ (A10 ++ (A11 ++ (A12 ++ R)))))))))))))) H locs := h.perm (pm13 A0 A1 A2 A3 A4 A5 A6 A7 A8 A9 A10 A11 A12 B R)
def LZ (g : Nat → Nat → Int32) : Prop := (g 0 6 = 0 ∨ g 0 6 = 1) ∧ (g 0 7 = 0 ∨ g 0 7 = 1)
def hO (sh : Nat → Nat → Int32) : Nat := (sh 0 1).toNatClampNeg
def hS (sh : Nat → Nat → Int32) : Nat := (sh 0 2).toNatClampNeg
def HOK (sh : Nat → Nat → Int32) : Prop := sh 0 1 = nI (hO sh) ∧ hO sh < 4 ∧ sh 0 2 = nI (hS sh) ∧ hS sh ≤ 4
section ROWS2
variable {p : Program} {l : Launch} {e : Env} {R : Room} {s : State} {m : MethodId} {args : Array Value} {below : List Frame} {meth : Method} {c : Code} {H : Heap} {locs : List Loc} {cells slots : Nat} {Q : State → Prop}
variable {G : Gp} {cc : ByteArray} {nL : Nat} {ret : Option FieldType} {own : String} {pc : Nat} {ls : Array Slot} {rest : List Value} {Y : va_W} {z : Nat → Nat → Nat} {so : Nat → Nat → Int32}
theorem gt_Sys_0_0 (M : Mx G p s m args meth c cc nL ret own) (hW : Wd G s (SysW G z so ++ Y) H locs) {index : Nat} (hl : Cond.fieldLink own index "GrainLeg" "leg" "LGrainLeg$Leg;" ∈ tblG) (hd : decode cc pc = .ok (.getfield index, 3)) (kk : W p l e R s m args below meth c H locs cells slots Q (F0 m (pc + 3) ls (.ref (z 1 0) :: rest))) : W p l e R s m args below meth c H locs cells slots Q (F0 m pc ls (.ref (z 0 0) :: rest)) :=
  r_get M hW 0 (k := 0) rfl rfl kin_6 (by decide) hl rfl hd kk
theorem gt_Sys_0_1 (M : Mx G p s m args meth c cc nL ret own) (hW : Wd G s (SysW G z so ++ Y) H locs) {index : Nat} (hl : Cond.fieldLink own index "GrainLeg" "before" "LGrainLeg$Leg;" ∈ tblG) (hd : decode cc pc = .ok (.getfield index, 3)) (kk : W p l e R s m args below meth c H locs cells slots Q (F0 m (pc + 3) ls (.ref (z 2 0) :: rest))) : W p l e R s m args below meth c H locs cells slots Q (F0 m pc ls (.ref (z 0 0) :: rest)) :=
  r_get M hW 0 (k := 1) rfl rfl kin_6 (by decide) hl rfl hd kk
theorem gt_Sys_0_2 (M : Mx G p s m args meth c cc nL ret own) (hW : Wd G s (SysW G z so ++ Y) H locs) {index : Nat} (hl : Cond.fieldLink own index "GrainLeg" "trial" "LGrainLeg$Leg;" ∈ tblG) (hd : decode cc pc = .ok (.getfield index, 3)) (kk : W p l e R s m args below meth c H locs cells slots Q (F0 m (pc + 3) ls (.ref (z 3 0) :: rest))) : W p l e R s m args below meth c H locs cells slots Q (F0 m pc ls (.ref (z 0 0) :: rest)) :=
  r_get M hW 0 (k := 2) rfl rfl kin_6 (by decide) hl rfl hd kk
theorem gt_Sys_0_3 (M : Mx G p s m args meth c cc nL ret own) (hW : Wd G s (SysW G z so ++ Y) H locs) {index : Nat} (hl : Cond.fieldLink own index "GrainLeg" "history" "LGrainLeg$History;" ∈ tblG) (hd : decode cc pc = .ok (.getfield index, 3)) (kk : W p l e R s m args below meth c H locs cells slots Q (F0 m (pc + 3) ls (.ref (z 5 0) :: rest))) : W p l e R s m args below meth c H locs cells slots Q (F0 m pc ls (.ref (z 0 0) :: rest)) :=
  r_get M hW 0 (k := 3) rfl rfl kin_6 (by decide) hl rfl hd kk
theorem gt_Sys_0_4 (M : Mx G p s m args meth c cc nL ret own) (hW : Wd G s (SysW G z so ++ Y) H locs) {index : Nat} (hl : Cond.fieldLink own index "GrainLeg" "snapshot" "LGrainLeg$Leg;" ∈ tblG) (hd : decode cc pc = .ok (.getfield index, 3)) (kk : W p l e R s m args below meth c H locs cells slots Q (F0 m (pc + 3) ls (.ref (z 4 0) :: rest))) : W p l e R s m args below meth c H locs cells slots Q (F0 m pc ls (.ref (z 0 0) :: rest)) :=
  r_get M hW 0 (k := 4) rfl rfl kin_6 (by decide) hl rfl hd kk
theorem gt_Sys_0_5 (M : Mx G p s m args meth c cc nL ret own) (hW : Wd G s (SysW G z so ++ Y) H locs) {index : Nat} (hl : Cond.fieldLink own index "GrainLeg" "hasSnapshot" "Z" ∈ tblG) {x : Int32} (hx : so 0 5 = x) (hd : decode cc pc = .ok (.getfield index, 3)) (kk : W p l e R s m args below meth c H locs cells slots Q (F0 m (pc + 3) ls (.int x :: rest))) : W p l e R s m args below meth c H locs cells slots Q (F0 m pc ls (.ref (z 0 0) :: rest)) :=
  r_get M hW 0 (k := 5) (v := .int x) rfl rfl kin_6 (by decide) hl (by subst hx; rfl) hd kk
theorem pt_Sys_0_5 (M : Mx G p s m args meth c cc nL ret own) (hW : Wd G s (SysW G z so ++ Y) H locs) {index : Nat} (hl : Cond.fieldLink own index "GrainLeg" "hasSnapshot" "Z" ∈ tblG) {x : Int32} (hz : x = 0 ∨ x = 1) (hd : decode cc pc = .ok (.putfield index, 3)) (kk : ∀ (H1 : Heap) (locs1 : List Loc), Wd G s (SysW G z (up2 so 0 5 x) ++ Y) H1 locs1 → W p l e R s m args below meth c H1 locs1 cells slots Q (F0 m (pc + 3) ls rest)) : W p l e R s m args below meth c H locs cells slots Q (F0 m pc ls (.int x :: .ref (z 0 0) :: rest)) :=
  r_put M hW 0 (k := 5) rfl rfl kin_6 tyX6_ok nmX6 (by decide) hl rfl pfZ (nar_z hz) (fit_z hz) (Nat.le_of_ble_eq_true rfl) (SysW G z (up2 so 0 5 x) ++ Y) rfl hd kk
theorem gt_Sys_0_6 (M : Mx G p s m args meth c cc nL ret own) (hW : Wd G s (SysW G z so ++ Y) H locs) {index : Nat} (hl : Cond.fieldLink own index "GrainLeg" "text" "LGrainLeg$Text;" ∈ tblG) (hd : decode cc pc = .ok (.getfield index, 3)) (kk : W p l e R s m args below meth c H locs cells slots Q (F0 m (pc + 3) ls (.ref (z 10 0) :: rest))) : W p l e R s m args below meth c H locs cells slots Q (F0 m pc ls (.ref (z 0 0) :: rest)) :=
  r_get M hW 0 (k := 6) rfl rfl kin_6 (by decide) hl rfl hd kk
theorem gt_Sys_0_7 (M : Mx G p s m args meth c cc nL ret own) (hW : Wd G s (SysW G z so ++ Y) H locs) {index : Nat} (hl : Cond.fieldLink own index "GrainLeg" "stopCommand" "I" ∈ tblG) {x : Int32} (hx : so 0 7 = x) (hd : decode cc pc = .ok (.getfield index, 3)) (kk : W p l e R s m args below meth c H locs cells slots Q (F0 m (pc + 3) ls (.int x :: rest))) : W p l e R s m args below meth c H locs cells slots Q (F0 m pc ls (.ref (z 0 0) :: rest)) :=
  r_get M hW 0 (k := 7) (v := .int x) rfl rfl kin_6 (by decide) hl (by subst hx; rfl) hd kk
theorem pt_Sys_0_7 (M : Mx G p s m args meth c cc nL ret own) (hW : Wd G s (SysW G z so ++ Y) H locs) {index : Nat} (hl : Cond.fieldLink own index "GrainLeg" "stopCommand" "I" ∈ tblG) {x : Int32} (hd : decode cc pc = .ok (.putfield index, 3)) (kk : ∀ (H1 : Heap) (locs1 : List Loc), Wd G s (SysW G z (up2 so 0 7 x) ++ Y) H1 locs1 → W p l e R s m args below meth c H1 locs1 cells slots Q (F0 m (pc + 3) ls rest)) : W p l e R s m args below meth c H locs cells slots Q (F0 m pc ls (.int x :: .ref (z 0 0) :: rest)) :=
  r_put M hW 0 (k := 7) rfl rfl kin_6 tyX6_ok nmX6 (by decide) hl rfl pfI rfl rfl (Nat.le_of_ble_eq_true rfl) (SysW G z (up2 so 0 7 x) ++ Y) rfl hd kk
theorem gt_Sys_0_8 (M : Mx G p s m args meth c cc nL ret own) (hW : Wd G s (SysW G z so ++ Y) H locs) {index : Nat} (hl : Cond.fieldLink own index "GrainLeg" "stopError" "I" ∈ tblG) {x : Int32} (hx : so 0 8 = x) (hd : decode cc pc = .ok (.getfield index, 3)) (kk : W p l e R s m args below meth c H locs cells slots Q (F0 m (pc + 3) ls (.int x :: rest))) : W p l e R s m args below meth c H locs cells slots Q (F0 m pc ls (.ref (z 0 0) :: rest)) :=
  r_get M hW 0 (k := 8) (v := .int x) rfl rfl kin_6 (by decide) hl (by subst hx; rfl) hd kk
theorem pt_Sys_0_8 (M : Mx G p s m args meth c cc nL ret own) (hW : Wd G s (SysW G z so ++ Y) H locs) {index : Nat} (hl : Cond.fieldLink own index "GrainLeg" "stopError" "I" ∈ tblG) {x : Int32} (hd : decode cc pc = .ok (.putfield index, 3)) (kk : ∀ (H1 : Heap) (locs1 : List Loc), Wd G s (SysW G z (up2 so 0 8 x) ++ Y) H1 locs1 → W p l e R s m args below meth c H1 locs1 cells slots Q (F0 m (pc + 3) ls rest)) : W p l e R s m args below meth c H locs cells slots Q (F0 m pc ls (.int x :: .ref (z 0 0) :: rest)) :=
  r_put M hW 0 (k := 8) rfl rfl kin_6 tyX6_ok nmX6 (by decide) hl rfl pfI rfl rfl (Nat.le_of_ble_eq_true rfl) (SysW G z (up2 so 0 8 x) ++ Y) rfl hd kk
theorem gt_Hist_0_0 (M : Mx G p s m args meth c cc nL ret own) (hW : Wd G s (HistW G z so ++ Y) H locs) {index : Nat} (hl : Cond.fieldLink own index "GrainLeg$History" "states" "[LGrainLeg$Leg;" ∈ tblG) (hd : decode cc pc = .ok (.getfield index, 3)) (kk : W p l e R s m args below meth c H locs cells slots Q (F0 m (pc + 3) ls (.ref (z 5 1) :: rest))) : W p l e R s m args below meth c H locs cells slots Q (F0 m pc ls (.ref (z 5 0) :: rest)) :=
  r_get M hW 0 (k := 0) rfl rfl kin_2 (by decide) hl rfl hd kk
theorem gt_Hist_0_1 (M : Mx G p s m args meth c cc nL ret own) (hW : Wd G s (HistW G z so ++ Y) H locs) {index : Nat} (hl : Cond.fieldLink own index "GrainLeg$History" "oldest" "I" ∈ tblG) {x : Int32} (hx : so 0 1 = x) (hd : decode cc pc = .ok (.getfield index, 3)) (kk : W p l e R s m args below meth c H locs cells slots Q (F0 m (pc + 3) ls (.int x :: rest))) : W p l e R s m args below meth c H locs cells slots Q (F0 m pc ls (.ref (z 5 0) :: rest)) :=
  r_get M hW 0 (k := 1) (v := .int x) rfl rfl kin_2 (by decide) hl (by subst hx; rfl) hd kk
theorem pt_Hist_0_1 (M : Mx G p s m args meth c cc nL ret own) (hW : Wd G s (HistW G z so ++ Y) H locs) {index : Nat} (hl : Cond.fieldLink own index "GrainLeg$History" "oldest" "I" ∈ tblG) {x : Int32} (hd : decode cc pc = .ok (.putfield index, 3)) (kk : ∀ (H1 : Heap) (locs1 : List Loc), Wd G s (HistW G z (up2 so 0 1 x) ++ Y) H1 locs1 → W p l e R s m args below meth c H1 locs1 cells slots Q (F0 m (pc + 3) ls rest)) : W p l e R s m args below meth c H locs cells slots Q (F0 m pc ls (.int x :: .ref (z 5 0) :: rest)) :=
  r_put M hW 0 (k := 1) rfl rfl kin_2 tyX2_ok nmX2 (by decide) hl rfl pfI rfl rfl (Nat.le_of_ble_eq_true rfl) (HistW G z (up2 so 0 1 x) ++ Y) rfl hd kk
theorem gt_Hist_0_2 (M : Mx G p s m args meth c cc nL ret own) (hW : Wd G s (HistW G z so ++ Y) H locs) {index : Nat} (hl : Cond.fieldLink own index "GrainLeg$History" "size" "I" ∈ tblG) {x : Int32} (hx : so 0 2 = x) (hd : decode cc pc = .ok (.getfield index, 3)) (kk : W p l e R s m args below meth c H locs cells slots Q (F0 m (pc + 3) ls (.int x :: rest))) : W p l e R s m args below meth c H locs cells slots Q (F0 m pc ls (.ref (z 5 0) :: rest)) :=
  r_get M hW 0 (k := 2) (v := .int x) rfl rfl kin_2 (by decide) hl (by subst hx; rfl) hd kk
theorem pt_Hist_0_2 (M : Mx G p s m args meth c cc nL ret own) (hW : Wd G s (HistW G z so ++ Y) H locs) {index : Nat} (hl : Cond.fieldLink own index "GrainLeg$History" "size" "I" ∈ tblG) {x : Int32} (hd : decode cc pc = .ok (.putfield index, 3)) (kk : ∀ (H1 : Heap) (locs1 : List Loc), Wd G s (HistW G z (up2 so 0 2 x) ++ Y) H1 locs1 → W p l e R s m args below meth c H1 locs1 cells slots Q (F0 m (pc + 3) ls rest)) : W p l e R s m args below meth c H locs cells slots Q (F0 m pc ls (.int x :: .ref (z 5 0) :: rest)) :=
  r_put M hW 0 (k := 2) rfl rfl kin_2 tyX2_ok nmX2 (by decide) hl rfl pfI rfl rfl (Nat.le_of_ble_eq_true rfl) (HistW G z (up2 so 0 2 x) ++ Y) rfl hd kk
theorem aq_Hist (M : Mx G p s m args meth c cc nL ret own) (hW : Wd G s (HistW G z so ++ Y) H locs) {i : Int32} (k : Nat) (hi : i = nI k) (hk : k < 4) {r : Nat} (hr : z (6 + k) 0 = r) (hd : decode cc pc = .ok (.aaload, 1)) (kk : W p l e R s m args below meth c H locs cells slots Q (F0 m (pc + 1) ls (.ref r :: rest))) : W p l e R s m args below meth c H locs cells slots Q (F0 m pc ls (.int i :: .ref (z 5 1) :: rest)) := by
  subst hi
  subst hr
  refine va_aldq M.1 M.2.1 M.2.2.2.2.2.2.2.1.1 hW.1 1 2 (f := fun i => some (z (6 + i) 0)) rfl rfl (vp_in_nI hk (by decide)) hd ?_
  rw [nI_clamp (by omega)]
  exact kk
end ROWS2
def fmB (x : Int32) : Int32 := if (0 : Int32) ≤ x ^^^ 4 then x - x / 4 * 4 else if x - x / 4 * 4 = 0 then x - x / 4 * 4 else x - x / 4 * 4 + 4
theorem fmB_eq : ∀ k : Nat, k < 10 → fmB (nI k - 1) = nI ((k + 3) % 4) := by decide +kernel
/-- a contract of a class some of whose methods run by an entry of the machine's own (java/lang/Math): this one doesn't -/
theorem CnE.ofF {l : Launch} {G : Gp} {y : MethodName} {cc : ByteArray} {nL : Nat} {ret : Option FieldType} {d mc ms : Nat} {as : List Value} {w : va_W} {Q : Option Value → va_W → Prop} (hy : plainFor y = true) (hl : (lg_sl as).length ≤ nL)
    (body : ∀ (p : Program) (e : Env) (s : State) (m : MethodId) (below : List Frame) (meth : Method) (c : Code) (ls : Array Slot), Mx G p s m as.toArray meth c cc nL ret y.cls → meth.name = y.name → lv_has ls nL (lv_args 0 as) → Wd G s w s.heap [] →
      W p l e (rmd d mc ms) s m as.toArray below meth c s.heap [] 0 0 (MQ below (QE G Q) as.toArray s mc ms (gA G)) (F0 m 0 ls [])) : CnE l G y cc nL ret d mc ms as w Q := by
  unfold CnE Met
  refine MetFree.of_bodySF (code := cc) (maxLocals := nL) (ret := ret) hy ?_ ?_
  · intro args s m h hn
    obtain ⟨meth, c, h1, h2, h3, h4, h5, h6, -, -⟩ := Cond.code_spec hn (atoms_spec (ws := .code y cc nL ret :: tblG) h _ List.mem_cons_self)
    exact ⟨meth, c, h1, h2, h3, h4, h5, h6⟩
  · intro p e s m args below meth c s₁ B hml hv _
    have hh0 : s₁.heap = s.heap := by rw [B.state]; rfl
    obtain ⟨rfl, hK, hS, hP, hD, hB⟩ := hv
    have hts := atoms_spec (ws := .code y cc nL ret :: tblG) B.pre
    have K := body p e s m below meth c _ ⟨B.exec, B.bytes, B.returns, hml, findClass_of_methodNamed B.named, fun w hw => hts w (List.mem_cons_of_mem _ hw), B.notSynchronized, hK, hS, hB⟩ (name_of_methodNamed B.named B.method).1 (lv_entry as hl) ⟨hP, hD, va_S.rf⟩
    obtain ⟨t, a1, o, b1, b2, b3⟩ := K s₁ hh0 (Stand.of_body B)
    refine ⟨t, o, ?_, b1, b2, ⟨b3.1, b3.2⟩⟩
    rw [lg_entry_eq]
    exact a1
/-- Math.floorMod by 4 -/
theorem c_J9_floorMod4 (l : Launch) (G : Gp) (x : Int32) (Y : va_W) : Cn l G yJ9_floorMod_7cf53 cJ9_floorMod_7cf53 3 (some .int) 0 [.int x, .int 4] Y (some (.int (fmB x))) Y := by
  refine CnE.ofF (by decide +kernel) (Nat.le_of_ble_eq_true rfl) ?_
  intro p e s m below meth c ls M hnm hl hW
  have hx := M.1
  have hb := M.2.1
  have hl : lv_has ls 3 [(0, .int x), (1, .int 4)] := hl
  refine lv_iload_n hx hb dJ9_floorMod_7cf53_0 rfl (lv_at hl 0 rfl) ?_
  refine lv_iload_n hx hb dJ9_floorMod_7cf53_1 rfl (lv_at hl 1 rfl) ?_
  refine lv_irem hx hb dJ9_floorMod_7cf53_2 (by decide) ?_
  refine lv_istore_n (lv' := [(2, .int (x - x / 4 * 4)), (0, .int x), (1, .int 4)]) hx hb dJ9_floorMod_7cf53_3 rfl hl (by decide) rfl (fun ls hl => ?_)
  refine lv_iload_n hx hb dJ9_floorMod_7cf53_4 rfl (lv_at hl 1 rfl) ?_
  refine lv_iload_n hx hb dJ9_floorMod_7cf53_5 rfl (lv_at hl 2 rfl) ?_
  refine lv_ixor hx hb dJ9_floorMod_7cf53_6 ?_
  refine lv_if_ge (tgt := 18) hx hb dJ9_floorMod_7cf53_7 (by decide) (fun c1 => ?_) (fun c1 => ?_)
  · refine lv_iload_n hx hb dJ9_floorMod_7cf53_18 rfl (lv_at hl 0 rfl) ?_
    exact r_reti M hW rfl ⟨by rw [fmB, if_pos c1], rfl⟩ (Nat.zero_le _) (Nat.zero_le _) dJ9_floorMod_7cf53_19
  · refine lv_iload_n hx hb dJ9_floorMod_7cf53_10 rfl (lv_at hl 0 rfl) ?_
    refine lv_if_eq (tgt := 18) hx hb dJ9_floorMod_7cf53_11 (by decide) (fun c2 => ?_) (fun c2 => ?_)
    · refine lv_iload_n hx hb dJ9_floorMod_7cf53_18 rfl (lv_at hl 0 rfl) ?_
      exact r_reti M hW rfl ⟨by rw [fmB, if_neg c1, if_pos c2], rfl⟩ (Nat.zero_le _) (Nat.zero_le _) dJ9_floorMod_7cf53_19
    · refine lv_iload_n hx hb dJ9_floorMod_7cf53_14 rfl (lv_at hl 0 rfl) ?_
      refine lv_iload_n hx hb dJ9_floorMod_7cf53_15 rfl (lv_at hl 2 rfl) ?_
      refine lv_iadd hx hb dJ9_floorMod_7cf53_16 ?_
      exact r_reti M hW rfl ⟨by rw [fmB, if_neg c1, if_neg c2], rfl⟩ (Nat.zero_le _) (Nat.zero_le _) dJ9_floorMod_7cf53_17
