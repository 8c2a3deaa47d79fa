/-! ===== calls, Math, arraycopy, fresh cells ===== -/
theorem goodAll {ws : List Cond} (h : ∀ w ∈ ws, w ∈ tblG) : GoodIn tblG ws := fun w hw => ⟨h w hw, tblG_ok (h w hw)⟩
theorem code_tbl {w0 : Cond} (h : w0 ∈ tblG) : ∀ w ∈ (w0 :: tblG), w ∈ tblG := fun w hw => (List.mem_cons.mp hw).elim (fun e => e ▸ h) id
def plainY (y : MethodName) (n : Nat) : Prop := y.cls ≠ "java/lang/invoke/MethodHandle" ∧ y.cls ≠ "java/lang/invoke/VarHandle" ∧ (parseMethodDescriptor y.desc).map (fun d => d.parameters.length) = some n
section MYC
variable {p : Program} {l : Launch} {e : Env} {R : Room} {s : State} {m : MethodId} {args : Array Value} {below : List Frame} {meth : Method} {c : Code} {H : Heap} {locs : List Loc} {cells slots : Nat} {Q : State → Prop}
variable {G : Gp} {cc : ByteArray} {nL : Nat} {ret : Option FieldType} {own : String} {pc : Nat} {ls : Array Slot} {rest : List Value} {w : va_W} {a : Nat}
theorem r_back {Qy : Option Value → va_W → Prop} {mc ms : Nat} {st : List Value} {as : Array Value} (hr : va_Run p l e R s m args below meth c H locs cells slots mc ms (F0 m pc ls st) rest (QE G Qy as) (gA G)) (hW : Wd G s w H locs)
    (kk : ∀ (v : Option Value) (w1 : va_W) (H1 : Heap) (locs1 : List Loc), Qy v w1 → Wd G s w1 H1 locs1 → W p l e R s m args below meth c H1 locs1 (cells + mc) (slots + ms) Q (F0 m (pc + 3) ls (v.toList ++ rest))) : W p l e R s m args below meth c H locs cells slots Q (F0 m pc ls st) := by
  have hS := hW.2.2
  intro T hT X
  obtain ⟨v, st₀, t, T', L, h0, X', hL, e1, e2, ⟨⟨v', w1, hv, hp, hb1, hb2⟩, hz, hk⟩, stp⟩ := hr T hT X
  cases hv
  rw [h0] at hz hk
  obtain ⟨t2, a1, b1⟩ := kk v w1 T'.heap (locs ++ L) hp ⟨by rw [e1]; exact hb1, hb2, Nat.le_trans hS.1 (by rw [e1]; exact hz), fun q h1 h2 => by rw [e1, hk q (Nat.lt_of_lt_of_le h1 hS.1) h2]; exact hS.2.1 q h1 h2, fun q hq => by
      rcases List.mem_append.mp hq with h | h
      · exact hS.2.2 q h
      · exact hL q h⟩ T' rfl X'
  exact ⟨t2, stp t2 a1, b1⟩
theorem r_callVE (M : Mx G p s m args meth c cc nL ret own) (hW : Wd G s w H locs) {y : MethodName} {cc' : ByteArray} {nL' d' mc' ms' index b : Nat} {ret' : Option FieldType} {as st : List Value} {w0 : va_W} {Qy : Option Value → va_W → Prop} (hC : CnE l G y cc' nL' ret' d' mc' ms' (.ref b :: as) w0 Qy) (hw : w = w0)
    (h1 : Cond.methodLink own index y ∈ tblG) (h2 : Cond.instanceMethod y ∈ tblG) (h3 : Cond.selects y.cls y y ∈ tblG) (h4 : Cond.initialized y.cls ∈ tblG) (h5 : Cond.code y cc' nL' ret' ∈ tblG) (hno : plainY y as.length) (q0 : Nat) {ci N : Nat} {T : u_T} {fs : List Value} (he : w[q0]? = some (b, .inr (ci, fs))) (hc : vwCl[ci]? = some (y.cls, T, N))
    (hR : d' + 1 ≤ R.frames ∧ 8 + (nL' + 11) + 26 * d' ≤ R.locals) (hf : cells + mc' ≤ R.cells ∧ slots + ms' ≤ R.slots) (hls : ls.size = nL) (hst : st = as.reverse ++ .ref b :: rest) (hcat : (rest.map fun v => v.category).sum ≤ 8) (hd : decode cc pc = .ok (.invokevirtual index, 3))
    (kk : ∀ (v : Option Value) (w1 : va_W) (H1 : Heap) (locs1 : List Loc), Qy v w1 → Wd G s w1 H1 locs1 → W p l e R s m args below meth c H1 locs1 (cells + mc') (slots + ms') Q (F0 m (pc + 3) ls (v.toList ++ rest))) : W p l e R s m args below meth c H locs cells slots Q (F0 m pc ls st) := by
  subst hw
  have hG : GoodIn tblG (wsV own index y.cls y (.code y cc' nL' ret' :: tblG)) := goodAll (fun x hx => by
    rcases List.mem_append.mp hx with h | h
    · simp only [List.mem_cons, List.not_mem_nil, or_false] at h
      rcases h with rfl | rfl | rfl | rfl <;> assumption
    · exact code_tbl h5 x h)
  exact r_back (va_runV (As := as) (rest := rest) ⟨M.1, M.2.1, M.2.2.2.1, M.2.2.2.2.1, M.2.2.2.2.2.1⟩ hC (cwV as.length M.2.2.2.2.2.1 hG rfl rfl rfl ⟨rfl, hno⟩ hR) ⟨Pre0.blind, va_recv M.2.2.2.2.2.2.2.1.1 hW.1 hc he, fun U hU hv => ⟨rfl, Pre0.at M hW hU hv⟩⟩ rfl rfl hls hst (lv_room hcat) hd hf) hW kk
theorem r_callV (M : Mx G p s m args meth c cc nL ret own) (hW : Wd G s w H locs) {y : MethodName} {cc' : ByteArray} {nL' d' index b : Nat} {ret' : Option FieldType} {as st : List Value} {w0 w1 : va_W} {v : Option Value} (hC : Cn l G y cc' nL' ret' d' (.ref b :: as) w0 v w1) (hw : w = w0)
    (h1 : Cond.methodLink own index y ∈ tblG) (h2 : Cond.instanceMethod y ∈ tblG) (h3 : Cond.selects y.cls y y ∈ tblG) (h4 : Cond.initialized y.cls ∈ tblG) (h5 : Cond.code y cc' nL' ret' ∈ tblG) (hno : plainY y as.length) (q0 : Nat) {ci N : Nat} {T : u_T} {fs : List Value} (he : w[q0]? = some (b, .inr (ci, fs))) (hc : vwCl[ci]? = some (y.cls, T, N))
    (hR : d' + 1 ≤ R.frames ∧ 8 + (nL' + 11) + 26 * d' ≤ R.locals) (hf : cells ≤ R.cells ∧ slots ≤ R.slots) (hls : ls.size = nL) (hst : st = as.reverse ++ .ref b :: rest) (hcat : (rest.map fun v => v.category).sum ≤ 8) (hd : decode cc pc = .ok (.invokevirtual index, 3))
    (kk : ∀ (H1 : Heap) (locs1 : List Loc), Wd G s w1 H1 locs1 → W p l e R s m args below meth c H1 locs1 cells slots Q (F0 m (pc + 3) ls (v.toList ++ rest))) : W p l e R s m args below meth c H locs cells slots Q (F0 m pc ls st) :=
  r_callVE M hW hC hw h1 h2 h3 h4 h5 hno q0 he hc hR hf hls hst hcat hd (fun v' w' H1 l1 q hW1 => by obtain ⟨rfl, rfl⟩ := q; exact kk H1 l1 hW1)
theorem r_callS (M : Mx G p s m args meth c cc nL ret own) (hW : Wd G s w H locs) {y : MethodName} {cc' : ByteArray} {nL' d' index : Nat} {ret' : Option FieldType} {as st : List Value} {w0 w1 : va_W} {v : Option Value} (hC : Cn l G y cc' nL' ret' d' as w0 v w1) (hw : w = w0)
    (h1 : Cond.methodLink own index y ∈ tblG) (h2 : Cond.static y ∈ tblG) (h4 : Cond.initialized y.cls ∈ tblG) (h5 : Cond.code y cc' nL' ret' ∈ tblG) (hno : plainY y as.length)
    (hR : d' + 1 ≤ R.frames ∧ 8 + (nL' + 11) + 26 * d' ≤ R.locals) (hf : cells ≤ R.cells ∧ slots ≤ R.slots) (hls : ls.size = nL) (hst : st = as.reverse ++ rest) (hcat : (rest.map fun v => v.category).sum ≤ 8) (hd : decode cc pc = .ok (.invokestatic index, 3))
    (kk : ∀ (H1 : Heap) (locs1 : List Loc), Wd G s w1 H1 locs1 → W p l e R s m args below meth c H1 locs1 cells slots Q (F0 m (pc + 3) ls (v.toList ++ rest))) : W p l e R s m args below meth c H locs cells slots Q (F0 m pc ls st) := by
  subst hw
  have hG : GoodIn tblG (va_wsS own index y (.code y cc' nL' ret' :: tblG)) := goodAll (fun x hx => by
    rcases List.mem_append.mp hx with h | h
    · simp only [List.mem_cons, List.not_mem_nil, or_false] at h
      rcases h with rfl | rfl | rfl <;> assumption
    · exact code_tbl h5 x h)
  exact r_back (va_runS (As := as) (rest := rest) ⟨M.1, M.2.1, M.2.2.2.1, M.2.2.2.2.1, M.2.2.2.2.2.1⟩ hC (va_cwS as.length M.2.2.2.2.2.1 hG rfl rfl rfl hno hR) ⟨Pre0.blind, fun U hU hv => ⟨rfl, Pre0.at M hW hU hv⟩⟩ rfl rfl hls hst (lv_room hcat) hd hf) hW (fun v' w' H1 l1 q hW1 => by obtain ⟨rfl, rfl⟩ := q; exact kk H1 l1 hW1)
/-- a static method of a nest mate -/
theorem r_callSN (M : Mx G p s m args meth c cc nL ret own) (hW : Wd G s w H locs) {y : MethodName} {host : String} {cc' : ByteArray} {nL' d' index : Nat} {ret' : Option FieldType} {as st : List Value} {w0 w1 : va_W} {v : Option Value} (hC : Cn l G y cc' nL' ret' d' as w0 v w1) (hw : w = w0)
    (h1 : Cond.methodLinkNest own index y host ∈ tblN) (h2 : Cond.static y ∈ tblG) (h4 : Cond.initialized y.cls ∈ tblG) (h5 : Cond.code y cc' nL' ret' ∈ tblG) (hno : plainY y as.length)
    (hR : d' + 1 ≤ R.frames ∧ 8 + (nL' + 11) + 26 * d' ≤ R.locals) (hf : cells ≤ R.cells ∧ slots ≤ R.slots) (hls : ls.size = nL) (hst : st = as.reverse ++ rest) (hcat : (rest.map fun v => v.category).sum ≤ 8) (hd : decode cc pc = .ok (.invokestatic index, 3))
    (kk : ∀ (H1 : Heap) (locs1 : List Loc), Wd G s w1 H1 locs1 → W p l e R s m args below meth c H1 locs1 cells slots Q (F0 m (pc + 3) ls (v.toList ++ rest))) : W p l e R s m args below meth c H locs cells slots Q (F0 m pc ls st) := by
  subst hw
  have hts := M.2.2.2.2.2.1
  exact r_back (va_runSN (As := as) (rest := rest) ⟨M.1, M.2.1, M.2.2.2.1, M.2.2.2.2.1, M.2.2.2.2.2.1⟩ hC ⟨va_cnB as.length hts (goodAll (code_tbl h5)) rfl rfl rfl (M.2.2.2.2.2.2.2.1.2.1 _ h1) (hts _ h4) hno hR, hts _ h2, trivial⟩ ⟨Pre0.blind, fun U hU hv => ⟨rfl, Pre0.at M hW hU hv⟩⟩ rfl rfl hls hst (lv_room hcat) hd hf) hW (fun v' w' H1 l1 q hW1 => by obtain ⟨rfl, rfl⟩ := q; exact kk H1 l1 hW1)
/-- a constructor: of the class itself or a public one; and of a nest mate -/
theorem r_callI (M : Mx G p s m args meth c cc nL ret own) (hW : Wd G s w H locs) {y : MethodName} {cc' : ByteArray} {nL' d' mc' ms' index b : Nat} {as st : List Value} {w0 : va_W} {Qy : Option Value → va_W → Prop} (hC : CnE l G y cc' nL' none d' mc' ms' (.ref b :: as) w0 Qy) (hw : w = w0)
    (h1 : Cond.methodLink own index y ∈ tblG) (h2 : Cond.instanceMethod y ∈ tblG) (hy1 : y.name = "<init>") (h4 : Cond.initialized y.cls ∈ tblG) (h5 : Cond.code y cc' nL' none ∈ tblG) (hno : plainY y as.length)
    (hR : d' + 1 ≤ R.frames ∧ 8 + (nL' + 11) + 26 * d' ≤ R.locals) (hf : cells + mc' ≤ R.cells ∧ slots + ms' ≤ R.slots) (hls : ls.size = nL) (hst : st = as.reverse ++ .ref b :: rest) (hcat : (rest.map fun v => v.category).sum ≤ 8) (hd : decode cc pc = .ok (.invokespecial index, 3))
    (kk : ∀ (v : Option Value) (w1 : va_W) (H1 : Heap) (locs1 : List Loc), Qy v w1 → Wd G s w1 H1 locs1 → W p l e R s m args below meth c H1 locs1 (cells + mc') (slots + ms') Q (F0 m (pc + 3) ls (v.toList ++ rest))) : W p l e R s m args below meth c H locs cells slots Q (F0 m pc ls st) := by
  subst hw
  have hts := M.2.2.2.2.2.1
  exact r_back (va_runI (As := as) (rest := rest) ⟨M.1, M.2.1, M.2.2.2.1, M.2.2.2.2.1, M.2.2.2.2.2.1⟩ hC (cwI as.length hts (goodAll (code_tbl h5)) rfl rfl rfl (hts _ h4) (hts _ h1) (hts _ h2) hy1 hno hR) ⟨Pre0.blind, fun U hU hv => ⟨rfl, Pre0.at M hW hU hv⟩⟩ rfl rfl hls hst (lv_room hcat) hd hf) hW kk
theorem r_callIN (M : Mx G p s m args meth c cc nL ret own) (hW : Wd G s w H locs) {y : MethodName} {host : String} {cc' : ByteArray} {nL' d' mc' ms' index b : Nat} {as st : List Value} {w0 : va_W} {Qy : Option Value → va_W → Prop} (hC : CnE l G y cc' nL' none d' mc' ms' (.ref b :: as) w0 Qy) (hw : w = w0)
    (h1 : Cond.methodLinkNest own index y host ∈ tblN) (h2 : Cond.instanceMethod y ∈ tblG) (hy1 : y.name = "<init>") (h4 : Cond.initialized y.cls ∈ tblG) (h5 : Cond.code y cc' nL' none ∈ tblG) (hno : plainY y as.length)
    (hR : d' + 1 ≤ R.frames ∧ 8 + (nL' + 11) + 26 * d' ≤ R.locals) (hf : cells + mc' ≤ R.cells ∧ slots + ms' ≤ R.slots) (hls : ls.size = nL) (hst : st = as.reverse ++ .ref b :: rest) (hcat : (rest.map fun v => v.category).sum ≤ 8) (hd : decode cc pc = .ok (.invokespecial index, 3))
    (kk : ∀ (v : Option Value) (w1 : va_W) (H1 : Heap) (locs1 : List Loc), Qy v w1 → Wd G s w1 H1 locs1 → W p l e R s m args below meth c H1 locs1 (cells + mc') (slots + ms') Q (F0 m (pc + 3) ls (v.toList ++ rest))) : W p l e R s m args below meth c H locs cells slots Q (F0 m pc ls st) := by
  subst hw
  have hts := M.2.2.2.2.2.1
  exact r_back (va_runIN (As := as) (rest := rest) ⟨M.1, M.2.1, M.2.2.2.1, M.2.2.2.2.1, M.2.2.2.2.2.1⟩ hC ⟨va_cnB as.length hts (goodAll (code_tbl h5)) rfl rfl rfl (M.2.2.2.2.2.2.2.1.2.1 _ h1) (hts _ h4) hno hR, hy1, hts _ h2⟩ ⟨Pre0.blind, fun U hU hv => ⟨rfl, Pre0.at M hW hU hv⟩⟩ rfl rfl hls hst (lv_room hcat) hd hf) hW kk
def imax (x y : Int32) : Int32 := if x < y then y else x
def imin (x y : Int32) : Int32 := if y < x then y else x
def iabs (x : Int32) : Int32 := if 0 ≤ x then x else 0 - x
theorem r_max (M : Mx G p s m args meth c cc nL ret own) {index : Nat} (h1 : Cond.methodLink own index Lib.Math.max.name ∈ tblG) (h2 : Cond.static Lib.Math.max.name ∈ tblG) (h3 : Cond.initialized "java/lang/Math" ∈ tblG) (h4 : Cond.code Lib.Math.max.name Lib.Math.max.code 2 (some .int) ∈ tblG) (hls : ls.size = nL) (hR : 1 ≤ R.frames ∧ 21 ≤ R.locals) (hcat : (rest.map fun v => v.category).sum ≤ 8) (hf : cells ≤ R.cells ∧ slots ≤ R.slots) {x y : Int32} (hd : decode cc pc = .ok (.invokestatic index, 3))
    (kk : W p l e R s m args below meth c H locs cells slots Q (F0 m (pc + 3) ls (.int (imax x y) :: rest))) : W p l e R s m args below meth c H locs cells slots Q (F0 m pc ls (.int y :: .int x :: rest)) := by
  have hts := M.2.2.2.2.2.1
  exact va_mmax M.1 M.2.1 (M.2.2.2.1.trans hls.symm) M.2.2.2.2.1 (hts _ h1) (hts _ h2) (hts _ h3) (hts _ h4) hR.1 (by omega) hf.1 hf.2 hd kk
theorem r_min (M : Mx G p s m args meth c cc nL ret own) {index : Nat} (h1 : Cond.methodLink own index Lib.Math.min.name ∈ tblG) (h2 : Cond.static Lib.Math.min.name ∈ tblG) (h3 : Cond.initialized "java/lang/Math" ∈ tblG) (h4 : Cond.code Lib.Math.min.name Lib.Math.min.code 2 (some .int) ∈ tblG) (hls : ls.size = nL) (hR : 1 ≤ R.frames ∧ 21 ≤ R.locals) (hcat : (rest.map fun v => v.category).sum ≤ 8) (hf : cells ≤ R.cells ∧ slots ≤ R.slots) {x y : Int32} (hd : decode cc pc = .ok (.invokestatic index, 3))
    (kk : W p l e R s m args below meth c H locs cells slots Q (F0 m (pc + 3) ls (.int (imin x y) :: rest))) : W p l e R s m args below meth c H locs cells slots Q (F0 m pc ls (.int y :: .int x :: rest)) := by
  have hts := M.2.2.2.2.2.1
  exact va_mmin M.1 M.2.1 (M.2.2.2.1.trans hls.symm) M.2.2.2.2.1 (hts _ h1) (hts _ h2) (hts _ h3) (hts _ h4) hR.1 (by omega) hf.1 hf.2 hd kk
theorem r_abs (M : Mx G p s m args meth c cc nL ret own) {index : Nat} (h1 : Cond.methodLink own index Lib.Math.abs.name ∈ tblG) (h2 : Cond.static Lib.Math.abs.name ∈ tblG) (h3 : Cond.initialized "java/lang/Math" ∈ tblG) (h4 : Cond.code Lib.Math.abs.name Lib.Math.abs.code 1 (some .int) ∈ tblG) (hls : ls.size = nL) (hR : 1 ≤ R.frames ∧ 21 ≤ R.locals) (hcat : (rest.map fun v => v.category).sum ≤ 8) (hf : cells ≤ R.cells ∧ slots ≤ R.slots) {x : Int32} (hd : decode cc pc = .ok (.invokestatic index, 3))
    (kk : W p l e R s m args below meth c H locs cells slots Q (F0 m (pc + 3) ls (.int (iabs x) :: rest))) : W p l e R s m args below meth c H locs cells slots Q (F0 m pc ls (.int x :: rest)) := by
  have hts := M.2.2.2.2.2.1
  exact va_mabs M.1 M.2.1 (M.2.2.2.1.trans hls.symm) M.2.2.2.2.1 (hts _ h1) (hts _ h2) (hts _ h3) (hts _ h4) hR.1 (by omega) hf.1 hf.2 hd kk
/-- System.arraycopy(a0, 0, a, 0, n) between int arrays of our world -/
theorem r_copy (M : Mx G p s m args meth c cc nL ret own) (hW : Wd G s w H locs) {index : Nat} (h1 : Cond.methodLink own index arraycopyName ∈ tblG) (h2 : Cond.native arraycopyName ∈ tblG) (h3 : Cond.static arraycopyName ∈ tblG) (h4 : Cond.initialized "java/lang/System" ∈ tblG) (hls : ls.size = nL) (q0 q1 : Nat) {a0 n0 n1 : Nat} {f g : Nat → Int32} (ha0 : w[q0]? = some (a0, .inl (G.2.2.2 0, n0, .inl f))) (ha1 : w[q1]? = some (a, .inl (G.2.2.2 0, n1, .inl g))) {n : Int32} (k : Nat) (hn : n = nI k) (hk0 : k ≤ n0) (hk1 : k ≤ n1) (hk : k < 2 ^ 31)
    (hR : 1 ≤ R.frames ∧ 8 + (nativeFrameWords "java/lang/System" "arraycopy" 5 + 11) ≤ R.locals) (hcat : (rest.map fun v => v.category).sum ≤ 8) (w1 : va_W) (hw1 : w.set q1 (a, .inl (G.2.2.2 0, n1, .inl (va_cpy f g 0 0 k))) = w1) (hd : decode cc pc = .ok (.invokestatic index, 3))
    (kk : ∀ (H1 : Heap) (locs1 : List Loc), Wd G s w1 H1 locs1 → W p l e R s m args below meth c H1 locs1 cells slots Q (F0 m (pc + 3) ls rest)) : W p l e R s m args below meth c H locs cells slots Q (F0 m pc ls (.int n :: .int 0 :: .ref a :: .int 0 :: .ref a0 :: rest)) := by
  subst hn
  subst hw1
  have hts := M.2.2.2.2.2.1
  have z0 : (0 : Int32).toNatClampNeg = 0 := rfl
  have zk : (nI k).toNatClampNeg = k := nI_clamp hk
  refine va_copyi M.1 M.2.1 (M.2.2.2.1.trans hls.symm) M.2.2.2.2.1 (hts _ h1) (hts _ h2) (hts _ h3) (hts _ h4) M.2.2.2.2.2.2.2.1.1 hW.1 hW.2.1 hW.2.2 q0 q1 0 0 (ty := .int) ha0 ha1 rfl rfl rfl (by decide) (by decide) (nI_pos hk) (by rw [zk, z0]; omega) (by rw [zk, z0]; omega) (fun i hi => rfl) hR.1 (by omega) hd (fun H1 l1 a1 a2 a3 => ?_)
  rw [zk, z0] at a1 a2
  exact kk H1 l1 ⟨a1, a2, a3⟩
end MYC
