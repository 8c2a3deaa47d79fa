/-! ===== my own layer over the kit: one world per method, contracts that leave the rest of the world (the tail Y) alone ===== -/
/-- the launch's own numbers: class ids and slots, the first address that is ours, the statics' arrays, the array classes (int, char, Leg) -/
abbrev Gp : Type := va_G × Nat × (Nat → Nat) × (Nat → ClassId)
def gA (G : Gp) : Nat → Prop := fun q => G.2.1 ≤ q
abbrev gTys (G : Gp) : List (ClassId × FieldType) := [(G.2.2.2 0, .int), (G.2.2.2 1, .char), (G.2.2.2 2, .object "GrainLeg$Leg")]
def isNst : Cond → Bool
  | .fieldLinkNest .. => true
  | .methodLinkNest .. => true
  | .castable .. => true
  | _ => false
def tblN : List Cond := lw_tbl.filter isNst
theorem tblN_of {w : Cond} (h : w ∈ lw_tbl) (h2 : isNst w = true) : w ∈ tblN := List.mem_filter.mpr ⟨h, h2⟩
theorem nst_on {w : Cond} (h : isNst w = true) : w.onTables = true := by
  cases w <;> first | rfl | exact absurd h (by simp [isNst])
theorem nst_warm {w : Cond} {s U : State} (h : isNst w = true) (hW : s.WarmedH U.vm) (hZ : va_Nw w s) : va_Nw w U := by
  cases w <;> first | exact va_Nw.warmF hW hZ | exact va_Nw.warmM hW hZ | exact va_Nw.warmC hW hZ | exact absurd h (by simp [isNst])
/-- what the tables say of our classes, at any state -/
def Knd (G : Gp) (U : State) : Prop := va_K G.1 vwCl (gTys G) U ∧ (∀ w ∈ tblN, va_Nw w U) ∧ va_AO "GrainLeg$Leg" U ∧ U.vm.findClass "[I" = some (G.2.2.2 0)
theorem Knd.warm {G : Gp} {s U : State} (h : Knd G s) (hW : s.WarmedH U.vm) : Knd G U :=
  ⟨va_K.moved hW.alike h.1, fun w hw => nst_warm (List.mem_filter.mp hw).2 hW (h.2.1 w hw), va_AO.moved hW.alike h.2.2.1, by rw [hW.alike.findClass]; exact h.2.2.2⟩
theorem Knd.same {G : Gp} {s U : State} (h : Knd G s) (hv : s.vm = U.vm) : Knd G U :=
  ⟨va_K.moved (by rw [hv]; exact Vm.Alike.refl _) h.1, fun w hw => va_Nw.same (nst_on (List.mem_filter.mp hw).2) hv (h.2.1 w hw), va_AO.moved (by rw [hv]; exact Vm.Alike.refl _) h.2.2.1, by rw [← hv]; exact h.2.2.2⟩
/-- a static that holds an int array, and the array -/
def Tbl (G : Gp) (U : State) (H : Heap) (t n : Nat) (f : Nat → Int32) : Prop := ∃ cell : Cell, H[t]? = some cell ∧ U.isArrayOf cell .int ∧ cell.vm ≠ .unknown ∧ cell.vm.isStatics = false ∧ cell.cls = G.2.2.2 0 ∧ cell.slots.size = n ∧ (∀ j : Nat, j < n → cell.slots[j]? = some (.int (f j))) ∧ ¬ gA G t
def St1 (G : Gp) (U : State) (H : Heap) (k : Nat) (nm : String) (n : Nat) (f : Nat → Int32) : Prop := va_Z RX6 nm "[I" (.ref (G.2.2.1 k)) (gA G) U H ∧ Tbl G U H (G.2.2.1 k) n f
def tFirst : Nat → Int32 := fun j => match j with | 0 => 3 | 1 => 60 | 2 => 6 | 3 => 8 | _ => 0
def tLeast : Nat → Int32 := fun j => match j with | 0 => 0 | 1 => 0 | 2 => 0 | 3 => 1 | _ => -9
def tMost : Nat → Int32 := fun j => match j with | 0 => 6 | 1 => 200 | 2 => 40 | 3 => 20 | _ => 9
def tToo : Nat → Int32 := fun j => match j with | 0 => 21 | 1 => 250 | _ => 100
def tWaits : Nat → Int32 := fun j => match j with | 0 => 3 | 1 => 2 | _ => 1
def Stt (G : Gp) (U : State) (H : Heap) : Prop := St1 G U H 0 "FIRST" 5 tFirst ∧ St1 G U H 1 "LEAST" 5 tLeast ∧ St1 G U H 2 "MOST" 5 tMost ∧ St1 G U H 3 "TOO_MUCH" 3 tToo ∧ St1 G U H 4 "WAITS" 3 tWaits
theorem St1.go {G : Gp} {u U : State} {H H1 : Heap} {k n : Nat} {nm : String} {f : Nat → Int32} (h : St1 G u H k nm n f) (hvm : u.vm.Alike U.vm) (hq : ∀ a : Nat, a < H.size → ¬ gA G a → H1[a]? = H[a]?) : St1 G U H1 k nm n f := by
  obtain ⟨hZ, cell, h1, h2, h3, h4, h5, h6, h7, h8⟩ := h
  exact ⟨va_Z.kept (va_Z.moved hvm hZ) hq, cell, by rw [hq _ (Array.getElem?_eq_some_iff.mp h1).1 h8]; exact h1, State.isArrayOf_alike hvm h2, h3, h4, h5, h6, h7, h8⟩
theorem Stt.go {G : Gp} {u U : State} {H H1 : Heap} (h : Stt G u H) (hvm : u.vm.Alike U.vm) (hq : ∀ a : Nat, a < H.size → ¬ gA G a → H1[a]? = H[a]?) : Stt G U H1 :=
  ⟨h.1.go hvm hq, h.2.1.go hvm hq, h.2.2.1.go hvm hq, h.2.2.2.1.go hvm hq, h.2.2.2.2.go hvm hq⟩
/-- the world inside a method that began at s -/
def Wd (G : Gp) (s : State) (w : va_W) (H : Heap) (locs : List Loc) : Prop := va_P G.1 vwCl w H ∧ va_D (gA G) w ∧ va_S (gA G) s.heap H locs
/-- a method's start -/
def Pre0 (G : Gp) (w : va_W) (U : State) : Prop := Knd G U ∧ Stt G U U.heap ∧ va_P G.1 vwCl w U.heap ∧ va_D (gA G) w ∧ G.2.1 ≤ U.heap.size
def rmd (d mc ms : Nat) : Room := { frames := d, cells := mc, slots := ms, locals := 26 * d }
def QE (G : Gp) (Q : Option Value → va_W → Prop) : Array Value → State → Outcome → State → Prop := fun _ st o t => (∃ (v : Option Value) (w1 : va_W), o = .returned v ∧ Q v w1 ∧ va_P G.1 vwCl w1 t.heap ∧ va_D (gA G) w1) ∧ va_F (gA G) st t
/-- a contract: from the world w, with the arguments as, the method returns v with the world w1, where Q v w1 -/
def CnE (l : Launch) (G : Gp) (y : MethodName) (cc : ByteArray) (nL : Nat) (ret : Option FieldType) (d mc ms : Nat) (as : List Value) (w : va_W) (Q : Option Value → va_W → Prop) : Prop :=
  Met l y (.code y cc nL ret :: tblG) (rmd d mc ms) (va_Pc as (Pre0 G w)) (QE G Q) mc ms (gA G)
def Cn (l : Launch) (G : Gp) (y : MethodName) (cc : ByteArray) (nL : Nat) (ret : Option FieldType) (d : Nat) (as : List Value) (w : va_W) (v : Option Value) (w1 : va_W) : Prop :=
  CnE l G y cc nL ret d 0 0 as w (fun v' w' => v' = v ∧ w' = w1)
/-- what a method's walk stands on -/
def Mx (G : Gp) (p : Program) (s : State) (m : MethodId) (args : Array Value) (meth : Method) (c : Code) (cc : ByteArray) (nL : Nat) (ret : Option FieldType) (own : String) : Prop :=
  p.tables.exec = Jvm.exec ∧ c.code = cc ∧ meth.sig.returnType = ret ∧ c.maxLocals = nL ∧ s.vm.findClass own = some m.cls ∧ (∀ w ∈ tblG, w.before args s = true) ∧ meth.locks = false ∧ Knd G s ∧ Stt G s s.heap ∧ G.2.1 ≤ s.heap.size
theorem Pre0.blind {G : Gp} {w : va_W} {as : List Value} : FrameBlind (va_Pc as (Pre0 G w)) := by
  intro a U g mk q
  obtain ⟨h1, h2, h3, h4, h5, h6⟩ := q
  exact ⟨h1, Knd.same h2 rfl, Stt.go (U := U.calling g mk a) h3 (Vm.Alike.refl U.vm) (fun _ _ _ => rfl), h4, h5, h6⟩
theorem Pre0.at {G : Gp} {p : Program} {s : State} {m : MethodId} {args : Array Value} {meth : Method} {c : Code} {cc : ByteArray} {nL : Nat} {ret : Option FieldType} {own : String} (M : Mx G p s m args meth c cc nL ret own) {w : va_W} {H : Heap} {locs : List Loc} (hW : Wd G s w H locs) {U : State} (hU : U.heap = H) (hv : s.WarmedH U.vm) : Pre0 G w U := by
  obtain ⟨-, -, -, -, -, -, -, hK, hS, hB⟩ := M
  refine ⟨hK.warm hv, hS.go hv.alike (fun a h1 h2 => by rw [hU]; exact hW.2.2.2.1 a h1 h2), by rw [hU]; exact hW.1, hW.2.1, by rw [hU]; exact Nat.le_trans hB hW.2.2.1⟩
theorem CnE.of {l : Launch} {G : Gp} {y : MethodName} {cc : ByteArray} {nL : Nat} {ret : Option FieldType} {d mc ms : Nat} {as : List Value} {w : va_W} {Q : Option Value → va_W → Prop} (hy : plainName y.cls = true) (hl : (lg_sl as).length ≤ nL)
    (body : ∀ (p : Program) (e : Env) (s : State) (m : MethodId) (below : List Frame) (meth : Method) (c : Code) (ls : Array Slot), Mx G p s m as.toArray meth c cc nL ret y.cls → meth.name = y.name → lv_has ls nL (lv_args 0 as) → Wd G s w s.heap [] →
      W p l e (rmd d mc ms) s m as.toArray below meth c s.heap [] 0 0 (MQ below (QE G Q) as.toArray s mc ms (gA G)) (F0 m 0 ls [])) : CnE l G y cc nL ret d mc ms as w Q := by
  refine Met.ofW (cc := cc) (maxL := nL) (ret := ret) hy rfl ?_
  intro p e s m args below meth c s₁ B hml hv
  obtain ⟨rfl, hK, hS, hP, hD, hB⟩ := hv
  have hts := atoms_spec (ws := .code y cc nL ret :: tblG) B.pre
  rw [lg_entry_eq]
  exact body p e s m below meth c _ ⟨B.exec, B.bytes, B.returns, hml, findClass_of_methodNamed B.named, fun w hw => hts w (List.mem_cons_of_mem _ hw), B.notSynchronized, hK, hS, hB⟩ (name_of_methodNamed B.named B.method).1 (lv_entry as hl) ⟨hP, hD, va_S.rf⟩
section MYR
variable {p : Program} {l : Launch} {e : Env} {R : Room} {s : State} {m : MethodId} {args : Array Value} {below : List Frame} {meth : Method} {c : Code} {H : Heap} {locs : List Loc} {cells slots : Nat} {Q : State → Prop}
variable {G : Gp} {cc : ByteArray} {nL : Nat} {ret : Option FieldType} {own : String} {pc : Nat} {ls : Array Slot} {rest : List Value} {w : va_W} {a : Nat}
theorem r_reti {Qc : Option Value → va_W → Prop} {mc ms : Nat} {x : Int32} {w1 : va_W} (M : Mx G p s m args meth c cc nL (some .int) own) (hW : Wd G s w H locs) (hw : w = w1) (hQ : Qc (some (.int x)) w1) (hc : cells ≤ mc) (hs : slots ≤ ms) (hd : decode cc pc = .ok (.ireturn, 1)) :
    W p l e R s m args below meth c H locs cells slots (MQ below (QE G Qc) args s mc ms (gA G)) (F0 m pc ls [.int x]) := by
  subst hw
  exact W.widen hc hs (W.iret M.1 M.2.1 M.2.2.1 (fun t ht hv => ⟨⟨_, w, rfl, hQ, by rw [ht]; exact hW.1, hW.2.1⟩, hW.2.2.F ht⟩) hW.2.2.2.2 hd (hlocks := M.2.2.2.2.2.2.1))
theorem r_retz {Qc : Option Value → va_W → Prop} {mc ms : Nat} {x : Int32} {w1 : va_W} {ty : FieldType} (M : Mx G p s m args meth c cc nL (some ty) own) (hn : narrow ty (.int x) = .int x) (hW : Wd G s w H locs) (hw : w = w1) (hQ : Qc (some (.int x)) w1) (hc : cells ≤ mc) (hs : slots ≤ ms) (hd : decode cc pc = .ok (.ireturn, 1)) :
    W p l e R s m args below meth c H locs cells slots (MQ below (QE G Qc) args s mc ms (gA G)) (F0 m pc ls [.int x]) := by
  subst hw
  exact W.widen hc hs (W.zret M.1 M.2.1 M.2.2.1 hn (fun t ht hv => ⟨⟨_, w, rfl, hQ, by rw [ht]; exact hW.1, hW.2.1⟩, hW.2.2.F ht⟩) hW.2.2.2.2 hd (hlocks := M.2.2.2.2.2.2.1))
theorem r_retv {Qc : Option Value → va_W → Prop} {mc ms : Nat} {w1 : va_W} (M : Mx G p s m args meth c cc nL none own) (hW : Wd G s w H locs) (hw : w = w1) (hQ : Qc none w1) (hc : cells ≤ mc) (hs : slots ≤ ms) (hd : decode cc pc = .ok (.return_, 1)) :
    W p l e R s m args below meth c H locs cells slots (MQ below (QE G Qc) args s mc ms (gA G)) (F0 m pc ls []) := by
  subst hw
  exact W.widen hc hs (W.vret M.1 M.2.1 M.2.2.1 (fun t ht hv => ⟨⟨_, w, rfl, hQ, by rw [ht]; exact hW.1, hW.2.1⟩, hW.2.2.F ht⟩) hW.2.2.2.2 hd (hlocks := M.2.2.2.2.2.2.1))
/-- a name for the number on top, or another form of it -/
theorem r_top {x y : Int32} (h : x = y) (k : W p l e R s m args below meth c H locs cells slots Q (F0 m pc ls (.int y :: rest))) : W p l e R s m args below meth c H locs cells slots Q (F0 m pc ls (.int x :: rest)) := h ▸ k
theorem r_top2 {x y : Int32} {v : Value} (h : x = y) (k : W p l e R s m args below meth c H locs cells slots Q (F0 m pc ls (v :: .int y :: rest))) : W p l e R s m args below meth c H locs cells slots Q (F0 m pc ls (v :: .int x :: rest)) := h ▸ k
/-- where two ways meet, or a loop begins -/
theorem r_cut {σ : Type} {g : JFrame} (I : σ → Heap → List Loc → Prop) (f : σ → JFrame) (k : ∀ u H1 l1, I u H1 l1 → W p l e R s m args below meth c H1 l1 cells slots Q (f u)) (h : (∀ u H1 l1, I u H1 l1 → W p l e R s m args below meth c H1 l1 cells slots Q (f u)) → W p l e R s m args below meth c H locs cells slots Q g) : W p l e R s m args below meth c H locs cells slots Q g := h k
/-- two ways meet with one number more on the stack -/
theorem r_cuti {pc2 : Nat} {ls2 : Array Slot} {st : List Value} {g : JFrame} (v : Int32) (k : ∀ x, x = v → W p l e R s m args below meth c H locs cells slots Q (F0 m pc2 ls2 (.int x :: st))) (h : (∀ x, x = v → W p l e R s m args below meth c H locs cells slots Q (F0 m pc2 ls2 (.int x :: st))) → W p l e R s m args below meth c H locs cells slots Q g) : W p l e R s m args below meth c H locs cells slots Q g := h k
theorem r_loop {σ : Type} (I : Nat → σ → Heap → List Loc → Prop) (f : σ → JFrame) (h0 : ∀ u H1 l1, I 0 u H1 l1 → W p l e R s m args below meth c H1 l1 cells slots Q (f u))
    (hs : ∀ n, (∀ u H1 l1, I n u H1 l1 → W p l e R s m args below meth c H1 l1 cells slots Q (f u)) → ∀ u H1 l1, I (n + 1) u H1 l1 → W p l e R s m args below meth c H1 l1 cells slots Q (f u)) : ∀ n u H1 l1, I n u H1 l1 → W p l e R s m args below meth c H1 l1 cells slots Q (f u) := by
  intro n
  induction n with
  | zero => exact h0
  | succ n ih => exact hs n ih
theorem r_get (M : Mx G p s m args meth c cc nL ret own) (hW : Wd G s w H locs) (q0 : Nat) {ci N k index : Nat} {C : String} {T : u_T} {fs : List Value} {v : Value} (he : w[q0]? = some (a, .inr (ci, fs))) (hc : vwCl[ci]? = some (C, T, N)) (hin : ∀ x ∈ u_ws C T N, x ∈ tblG) (hk : k < N) (hl : Cond.fieldLink own index (T k).1 (T k).2.1 (T k).2.2.1 ∈ tblG) (hv : fs[k]? = some v) (hd : decode cc pc = .ok (.getfield index, 3))
    (kk : W p l e R s m args below meth c H locs cells slots Q (F0 m (pc + 3) ls (v :: rest))) : W p l e R s m args below meth c H locs cells slots Q (F0 m pc ls (.ref a :: rest)) :=
  va_get M.1 M.2.1 M.2.2.2.2.2.1 hin M.2.2.2.2.1 M.2.2.2.2.2.2.2.1.1 hW.1 q0 he hc k hk (M.2.2.2.2.2.1 _ hl) (fun _ h9 => h9) hv hd kk
theorem r_put (M : Mx G p s m args meth c cc nL ret own) (hW : Wd G s w H locs) (q0 : Nat) {ci N k index : Nat} {C : String} {T : u_T} {ty0 : Nat → FieldType} {fs : List Value} {v : Value} {ty : FieldType} (he : w[q0]? = some (a, .inr (ci, fs))) (hc : vwCl[ci]? = some (C, T, N)) (hin : ∀ x ∈ u_ws C T N, x ∈ tblG) (hty : ∀ k, k < N → parseFieldDescriptor (T k).2.2.1 = some (ty0 k)) (hnm : ∀ a, a < N → ∀ b, b < N → a ≠ b → (T a).2.1 ≠ (T b).2.1) (hk : k < N) (hl : Cond.fieldLink own index (T k).1 (T k).2.1 (T k).2.2.1 ∈ tblG) (hfin : (T k).2.2.2 = false) (hpd : parseFieldDescriptor (T k).2.2.1 = some ty) (hn : narrow ty v = v) (hf : fits ty v = true) (hlen : k < fs.length) (w1 : va_W) (h1 : w.set q0 (a, .inr (ci, fs.set k v)) = w1) (hd : decode cc pc = .ok (.putfield index, 3))
    (kk : ∀ (H1 : Heap) (locs1 : List Loc), Wd G s w1 H1 locs1 → W p l e R s m args below meth c H1 locs1 cells slots Q (F0 m (pc + 3) ls rest)) : W p l e R s m args below meth c H locs cells slots Q (F0 m pc ls (v :: .ref a :: rest)) := by
  subst h1
  exact va_put M.1 M.2.1 M.2.2.2.2.2.1 hin ty0 hty hnm M.2.2.2.2.1 M.2.2.2.2.2.2.2.1.1 hW.1 hW.2.1 hW.2.2 q0 he hc k hk (M.2.2.2.2.2.1 _ hl) (fun _ h9 => h9) hfin hpd hn hf hlen hd (fun H1 l1 a1 a2 a3 => kk H1 l1 ⟨a1, a2, a3⟩)
theorem r_putF (M : Mx G p s m args meth c cc nL ret own) (hin2 : meth.name = "<init>") (hW : Wd G s w H locs) (q0 : Nat) {ci N k index : Nat} {C : String} {T : u_T} {ty0 : Nat → FieldType} {fs : List Value} {v : Value} {ty : FieldType} (he : w[q0]? = some (a, .inr (ci, fs))) (hc : vwCl[ci]? = some (C, T, N)) (hin : ∀ x ∈ u_ws C T N, x ∈ tblG) (hty : ∀ k, k < N → parseFieldDescriptor (T k).2.2.1 = some (ty0 k)) (hnm : ∀ a, a < N → ∀ b, b < N → a ≠ b → (T a).2.1 ≠ (T b).2.1) (hk : k < N) (hl : Cond.fieldLink own index (T k).1 (T k).2.1 (T k).2.2.1 ∈ tblG) (hfin : (T k).2.2.2 = true) (hdecl : (T k).1 = own) (hpd : parseFieldDescriptor (T k).2.2.1 = some ty) (hn : narrow ty v = v) (hf : fits ty v = true) (hlen : k < fs.length) (w1 : va_W) (h1 : w.set q0 (a, .inr (ci, fs.set k v)) = w1) (hd : decode cc pc = .ok (.putfield index, 3))
    (kk : ∀ (H1 : Heap) (locs1 : List Loc), Wd G s w1 H1 locs1 → W p l e R s m args below meth c H1 locs1 cells slots Q (F0 m (pc + 3) ls rest)) : W p l e R s m args below meth c H locs cells slots Q (F0 m pc ls (v :: .ref a :: rest)) := by
  subst h1
  exact va_putF M.1 M.2.1 M.2.2.2.2.2.1 hin ty0 hty hnm M.2.2.2.2.1 M.2.2.2.2.2.2.2.1.1 hW.1 hW.2.1 hW.2.2 q0 he hc k hk (M.2.2.2.2.2.1 _ hl) (fun _ h9 => h9) hfin hin2 hdecl hpd hn hf hlen hd (fun H1 l1 a1 a2 a3 => kk H1 l1 ⟨a1, a2, a3⟩)
theorem r_iald (M : Mx G p s m args meth c cc nL ret own) (hW : Wd G s w H locs) (q0 : Nat) {n : Nat} {f : Nat → Int32} (he : w[q0]? = some (a, .inl (G.2.2.2 0, n, .inl f))) {i : Int32} (k : Nat) (hi : i = nI k) (hk : k < n) (hn : n < 2 ^ 31) {x : Int32} (hx : f k = x) (hd : decode cc pc = .ok (.iaload, 1))
    (kk : W p l e R s m args below meth c H locs cells slots Q (F0 m (pc + 1) ls (.int x :: rest))) : W p l e R s m args below meth c H locs cells slots Q (F0 m pc ls (.int i :: .ref a :: rest)) := by
  subst hi
  subst hx
  refine va_iald M.1 M.2.1 M.2.2.2.2.2.2.2.1.1 hW.1 q0 0 he rfl (vp_in_nI hk hn) hd ?_
  rw [nI_clamp (Nat.lt_trans hk hn)]
  exact kk
theorem r_cald (M : Mx G p s m args meth c cc nL ret own) (hW : Wd G s w H locs) (q0 : Nat) {n : Nat} {f : Nat → Int32} (he : w[q0]? = some (a, .inl (G.2.2.2 1, n, .inl f))) {i : Int32} (k : Nat) (hi : i = nI k) (hk : k < n) (hn : n < 2 ^ 31) {x : Int32} (hx : f k = x) (hd : decode cc pc = .ok (.caload, 1))
    (kk : W p l e R s m args below meth c H locs cells slots Q (F0 m (pc + 1) ls (.int x :: rest))) : W p l e R s m args below meth c H locs cells slots Q (F0 m pc ls (.int i :: .ref a :: rest)) := by
  subst hi
  subst hx
  refine va_cald M.1 M.2.1 M.2.2.2.2.2.2.2.1.1 hW.1 q0 1 he rfl (vp_in_nI hk hn) hd ?_
  rw [nI_clamp (Nat.lt_trans hk hn)]
  exact kk
theorem r_iast (M : Mx G p s m args meth c cc nL ret own) (hW : Wd G s w H locs) (q0 : Nat) {n : Nat} {f : Nat → Int32} (he : w[q0]? = some (a, .inl (G.2.2.2 0, n, .inl f))) {i x : Int32} (k : Nat) (hi : i = nI k) (hk : k < n) (hn : n < 2 ^ 31) (w1 : va_W) (h1 : w.set q0 (a, .inl (G.2.2.2 0, n, .inl (upd f k x))) = w1) (hd : decode cc pc = .ok (.iastore, 1))
    (kk : ∀ (H1 : Heap) (locs1 : List Loc), Wd G s w1 H1 locs1 → W p l e R s m args below meth c H1 locs1 cells slots Q (F0 m (pc + 1) ls rest)) : W p l e R s m args below meth c H locs cells slots Q (F0 m pc ls (.int x :: .int i :: .ref a :: rest)) := by
  subst hi
  subst h1
  refine va_iast M.1 M.2.1 M.2.2.2.2.2.2.2.1.1 hW.1 hW.2.1 hW.2.2 q0 0 he rfl (vp_in_nI hk hn) hd (fun H1 l1 a1 a2 a3 => ?_)
  rw [nI_clamp (Nat.lt_trans hk hn)] at a1 a2
  exact kk H1 l1 ⟨a1, a2, a3⟩
theorem r_cast (M : Mx G p s m args meth c cc nL ret own) (hW : Wd G s w H locs) (q0 : Nat) {n : Nat} {f : Nat → Int32} (he : w[q0]? = some (a, .inl (G.2.2.2 1, n, .inl f))) {i x : Int32} (k : Nat) (hi : i = nI k) (hk : k < n) (hn : n < 2 ^ 31) (hx : vp_nar .char x = x) (w1 : va_W) (h1 : w.set q0 (a, .inl (G.2.2.2 1, n, .inl (upd f k x))) = w1) (hd : decode cc pc = .ok (.castore, 1))
    (kk : ∀ (H1 : Heap) (locs1 : List Loc), Wd G s w1 H1 locs1 → W p l e R s m args below meth c H1 locs1 cells slots Q (F0 m (pc + 1) ls rest)) : W p l e R s m args below meth c H locs cells slots Q (F0 m pc ls (.int x :: .int i :: .ref a :: rest)) := by
  subst hi
  subst h1
  refine va_cast M.1 M.2.1 M.2.2.2.2.2.2.2.1.1 hW.1 hW.2.1 hW.2.2 q0 1 he rfl (vp_in_nI hk hn) hd (fun H1 l1 a1 a2 a3 => ?_)
  rw [nI_clamp (Nat.lt_trans hk hn), hx] at a1 a2
  exact kk H1 l1 ⟨a1, a2, a3⟩
/-- a static array of ours: its reference, by a link of the class itself, or of a nest mate -/
theorem r_gets (M : Mx G p s m args meth c cc nL ret own) (hW : Wd G s w H locs) {k n index : Nat} {nm : String} {f : Nat → Int32} (hT : St1 G s s.heap k nm n f) (hl : Cond.fieldLink own index RX6 nm "[I" ∈ tblG) (hd : decode cc pc = .ok (.getstatic index, 3))
    (kk : W p l e R s m args below meth c H locs cells slots Q (F0 m (pc + 3) ls (.ref (G.2.2.1 k) :: rest))) : W p l e R s m args below meth c H locs cells slots Q (F0 m pc ls rest) :=
  va_gets M.1 M.2.1 hT.1 hW.2.2 M.2.2.2.2.1 (M.2.2.2.2.2.1 _ hl) (fun _ h9 => h9) hd kk
theorem r_getsN (M : Mx G p s m args meth c cc nL ret own) (hW : Wd G s w H locs) {k n index : Nat} {nm : String} {f : Nat → Int32} (hT : St1 G s s.heap k nm n f) (hl : Cond.fieldLinkNest own index RX6 nm "[I" RX6 ∈ tblN) (hd : decode cc pc = .ok (.getstatic index, 3))
    (kk : W p l e R s m args below meth c H locs cells slots Q (F0 m (pc + 3) ls (.ref (G.2.2.1 k) :: rest))) : W p l e R s m args below meth c H locs cells slots Q (F0 m pc ls rest) :=
  va_getsN M.1 M.2.1 hT.1 hW.2.2 M.2.2.2.2.1 (va_Nw.use rfl (M.2.2.2.2.2.2.2.1.2.1 _ hl)) (fun _ h9 => h9) hd kk
theorem r_tald (M : Mx G p s m args meth c cc nL ret own) (hW : Wd G s w H locs) {k n : Nat} {nm : String} {f : Nat → Int32} (hT : St1 G s s.heap k nm n f) {i : Int32} (j : Nat) (hi : i = nI j) (hj : j < n) (hn : n < 2 ^ 31) {x : Int32} (hx : f j = x) (hd : decode cc pc = .ok (.iaload, 1))
    (kk : W p l e R s m args below meth c H locs cells slots Q (F0 m (pc + 1) ls (.int x :: rest))) : W p l e R s m args below meth c H locs cells slots Q (F0 m pc ls (.int i :: .ref (G.2.2.1 k) :: rest)) := by
  subst hi
  subst hx
  obtain ⟨-, cell, h1, h2, h3, h4, h5, h6, h7, h8⟩ := hT
  refine W.iald (v := .int (f j)) M.1 M.2.1 (by rw [hW.2.2.2.1 _ (Array.getElem?_eq_some_iff.mp h1).1 h8]; exact h1) h2 h3 (by rw [h6]; exact vp_in_nI hj hn) (by rw [nI_clamp (Nat.lt_trans hj hn)]; exact h7 j hj) rfl rfl hd kk
end MYR
