/-! ===== the parts of the world, their states as tables of numbers (cell, slot) ===== -/
def up2 (g : Nat → Nat → Int32) (c i : Nat) (v : Int32) : Nat → Nat → Int32 := fun a => if a = c then upd (g c) i v else g a
def cp2 (g : Nat → Nat → Int32) (c : Nat) (f : Nat → Int32) : Nat → Nat → Int32 := fun a => if a = c then f else g a
theorem pfI : parseFieldDescriptor "I" = some .int := by decide +kernel
theorem pfZ : parseFieldDescriptor "Z" = some .boolean := by decide +kernel
theorem nar_z {x : Int32} (h : x = 0 ∨ x = 1) : narrow .boolean (.int x) = .int x := by rcases h with rfl | rfl <;> rfl
theorem fit_z {x : Int32} (h : x = 0 ∨ x = 1) : fits .boolean (.int x) = true := by rcases h with rfl | rfl <;> rfl
theorem tbl_out {x : Int32} (lo hi : Int) (h : ∀ k : Int, lo ≤ k → k ≤ hi → x ≠ Int32.ofInt k) : x.toInt < lo ∨ hi < x.toInt := by
  by_cases h1 : x.toInt < lo
  · exact Or.inl h1
  · by_cases h2 : hi < x.toInt
    · exact Or.inr h2
    · exact absurd (Int32.ofInt_toInt x).symm (h x.toInt (by omega) (by omega))

def LegW (G : Gp) (a : Nat → Nat) (g : Nat → Nat → Int32) : va_W := [(a 0, .inr (3, [.ref (a 1), .ref (a 2), .ref (a 4), .ref (a 5), .ref (a 9), .ref (a 10), .int (g 0 6), .int (g 0 7), .int (g 0 8), .int (g 0 9), .int (g 0 10), .int (g 0 11), .int (g 0 12)])), (a 1, .inl (G.2.2.2 0, 5, .inl (g 1))), (a 2, .inr (0, [.ref (a 3), .int (g 2 1)])), (a 3, .inl (G.2.2.2 0, 12, .inl (g 3))), (a 4, .inr (1, [.int (g 4 0), .int (g 4 1), .int (g 4 2), .int (g 4 3), .int (g 4 4), .int (g 4 5)])), (a 5, .inr (5, [.ref (a 6), .ref (a 7), .ref (a 8), .int (g 5 3)])), (a 6, .inl (G.2.2.2 0, 6, .inl (g 6))), (a 7, .inl (G.2.2.2 0, 6, .inl (g 7))), (a 8, .inl (G.2.2.2 0, 6, .inl (g 8))), (a 9, .inl (G.2.2.2 0, 3, .inl (g 9))), (a 10, .inl (G.2.2.2 0, 3, .inl (g 10)))]
def TextW (G : Gp) (a : Nat → Nat) (g : Nat → Nat → Int32) : va_W := [(a 0, .inr (4, [.ref (a 1), .int (g 0 1), .ref (a 2), .ref (a 3), .int (g 0 4), .int (g 0 5)])), (a 1, .inl (G.2.2.2 1, 60, .inl (g 1))), (a 2, .inl (G.2.2.2 1, 60, .inl (g 2))), (a 3, .inl (G.2.2.2 0, 60, .inl (g 3)))]
def ModW (G : Gp) (a : Nat → Nat) (g : Nat → Nat → Int32) : va_W := [(a 0, .inr (7, [.int (g 0 0), .ref (a 1), .ref (a 2), .ref (a 3), .int (g 0 4), .ref (a 4), .int (g 0 6), .ref (a 5), .int (g 0 8), .int (g 0 9), .int (g 0 10), .int (g 0 11), .int (g 0 12), .ref (a 6), .int (g 0 14)])), (a 1, .inl (G.2.2.2 0, 56, .inl (g 1))), (a 2, .inl (G.2.2.2 0, 56, .inl (g 2))), (a 3, .inl (G.2.2.2 0, 224, .inl (g 3))), (a 4, .inl (G.2.2.2 0, 56, .inl (g 4))), (a 5, .inl (G.2.2.2 0, 60, .inl (g 5))), (a 6, .inl (G.2.2.2 0, 64, .inl (g 6)))]
section MYC2
variable {p : Program} {l : Launch} {e : Env} {R : Room} {s : State} {m : MethodId} {args : Array Value} {below : List Frame} {meth : Method} {c : Code} {H : Heap} {locs : List Loc} {cells slots : Nat} {Q : State → Prop}
variable {G : Gp} {cc : ByteArray} {nL : Nat} {ret : Option FieldType} {own : String} {pc : Nat} {ls : Array Slot} {rest : List Value} {w : va_W} {a : Nat}
theorem r_callVi (M : Mx G p s m args meth c cc nL ret own) (hW : Wd G s w H locs) {y : MethodName} {cc' : ByteArray} {nL' d' index b : Nat} {ret' : Option FieldType} {as st : List Value} {w0 w1 : va_W} {r : Int32} (hC : Cn l G y cc' nL' ret' d' (.ref b :: as) w0 (some (.int r)) w1) (hw : w = w0)
    (h1 : Cond.methodLink own index y ∈ tblG) (h2 : Cond.instanceMethod y ∈ tblG) (h3 : Cond.selects y.cls y y ∈ tblG) (h4 : Cond.initialized y.cls ∈ tblG) (h5 : Cond.code y cc' nL' ret' ∈ tblG) (hno : plainY y as.length) (q0 : Nat) {ci N : Nat} {T : u_T} {fs : List Value} (he : w[q0]? = some (b, .inr (ci, fs))) (hc : vwCl[ci]? = some (y.cls, T, N))
    (hR : d' + 1 ≤ R.frames ∧ 8 + (nL' + 11) + 26 * d' ≤ R.locals) (hf : cells ≤ R.cells ∧ slots ≤ R.slots) (hls : ls.size = nL) (hst : st = as.reverse ++ .ref b :: rest) (hcat : (rest.map fun v => v.category).sum ≤ 8) (hd : decode cc pc = .ok (.invokevirtual index, 3))
    (kk : ∀ (H1 : Heap) (locs1 : List Loc), Wd G s w1 H1 locs1 → W p l e R s m args below meth c H1 locs1 cells slots Q (F0 m (pc + 3) ls (.int r :: rest))) : W p l e R s m args below meth c H locs cells slots Q (F0 m pc ls st) :=
  r_callV M hW hC hw h1 h2 h3 h4 h5 hno q0 he hc hR hf hls hst hcat hd kk
theorem r_callVv (M : Mx G p s m args meth c cc nL ret own) (hW : Wd G s w H locs) {y : MethodName} {cc' : ByteArray} {nL' d' index b : Nat} {ret' : Option FieldType} {as st : List Value} {w0 w1 : va_W} (hC : Cn l G y cc' nL' ret' d' (.ref b :: as) w0 (none) w1) (hw : w = w0)
    (h1 : Cond.methodLink own index y ∈ tblG) (h2 : Cond.instanceMethod y ∈ tblG) (h3 : Cond.selects y.cls y y ∈ tblG) (h4 : Cond.initialized y.cls ∈ tblG) (h5 : Cond.code y cc' nL' ret' ∈ tblG) (hno : plainY y as.length) (q0 : Nat) {ci N : Nat} {T : u_T} {fs : List Value} (he : w[q0]? = some (b, .inr (ci, fs))) (hc : vwCl[ci]? = some (y.cls, T, N))
    (hR : d' + 1 ≤ R.frames ∧ 8 + (nL' + 11) + 26 * d' ≤ R.locals) (hf : cells ≤ R.cells ∧ slots ≤ R.slots) (hls : ls.size = nL) (hst : st = as.reverse ++ .ref b :: rest) (hcat : (rest.map fun v => v.category).sum ≤ 8) (hd : decode cc pc = .ok (.invokevirtual index, 3))
    (kk : ∀ (H1 : Heap) (locs1 : List Loc), Wd G s w1 H1 locs1 → W p l e R s m args below meth c H1 locs1 cells slots Q (F0 m (pc + 3) ls (rest))) : W p l e R s m args below meth c H locs cells slots Q (F0 m pc ls st) :=
  r_callV M hW hC hw h1 h2 h3 h4 h5 hno q0 he hc hR hf hls hst hcat hd kk
theorem r_callSi (M : Mx G p s m args meth c cc nL ret own) (hW : Wd G s w H locs) {y : MethodName} {cc' : ByteArray} {nL' d' index : Nat} {ret' : Option FieldType} {as st : List Value} {w0 w1 : va_W} {r : Int32} (hC : Cn l G y cc' nL' ret' d' as w0 (some (.int r)) w1) (hw : w = w0)
    (h1 : Cond.methodLink own index y ∈ tblG) (h2 : Cond.static y ∈ tblG) (h4 : Cond.initialized y.cls ∈ tblG) (h5 : Cond.code y cc' nL' ret' ∈ tblG) (hno : plainY y as.length)
    (hR : d' + 1 ≤ R.frames ∧ 8 + (nL' + 11) + 26 * d' ≤ R.locals) (hf : cells ≤ R.cells ∧ slots ≤ R.slots) (hls : ls.size = nL) (hst : st = as.reverse ++ rest) (hcat : (rest.map fun v => v.category).sum ≤ 8) (hd : decode cc pc = .ok (.invokestatic index, 3))
    (kk : ∀ (H1 : Heap) (locs1 : List Loc), Wd G s w1 H1 locs1 → W p l e R s m args below meth c H1 locs1 cells slots Q (F0 m (pc + 3) ls (.int r :: rest))) : W p l e R s m args below meth c H locs cells slots Q (F0 m pc ls st) :=
  r_callS M hW hC hw h1 h2 h4 h5 hno hR hf hls hst hcat hd kk
theorem r_callSNi (M : Mx G p s m args meth c cc nL ret own) (hW : Wd G s w H locs) {y : MethodName} {host : String} {cc' : ByteArray} {nL' d' index : Nat} {ret' : Option FieldType} {as st : List Value} {w0 w1 : va_W} {r : Int32} (hC : Cn l G y cc' nL' ret' d' as w0 (some (.int r)) w1) (hw : w = w0)
    (h1 : Cond.methodLinkNest own index y host ∈ tblN) (h2 : Cond.static y ∈ tblG) (h4 : Cond.initialized y.cls ∈ tblG) (h5 : Cond.code y cc' nL' ret' ∈ tblG) (hno : plainY y as.length)
    (hR : d' + 1 ≤ R.frames ∧ 8 + (nL' + 11) + 26 * d' ≤ R.locals) (hf : cells ≤ R.cells ∧ slots ≤ R.slots) (hls : ls.size = nL) (hst : st = as.reverse ++ rest) (hcat : (rest.map fun v => v.category).sum ≤ 8) (hd : decode cc pc = .ok (.invokestatic index, 3))
    (kk : ∀ (H1 : Heap) (locs1 : List Loc), Wd G s w1 H1 locs1 → W p l e R s m args below meth c H1 locs1 cells slots Q (F0 m (pc + 3) ls (.int r :: rest))) : W p l e R s m args below meth c H locs cells slots Q (F0 m pc ls st) :=
  r_callSN M hW hC hw h1 h2 h4 h5 hno hR hf hls hst hcat hd kk
end MYC2
theorem pl_X0_init : plainY yX0_init 0 := ⟨by decide +kernel, by decide +kernel, by decide +kernel⟩
theorem pl_X0_become : plainY yX0_become 1 := ⟨by decide +kernel, by decide +kernel, by decide +kernel⟩
theorem pl_X0_at : plainY yX0_at 1 := ⟨by decide +kernel, by decide +kernel, by decide +kernel⟩
theorem pl_X0_moveOn : plainY yX0_moveOn 0 := ⟨by decide +kernel, by decide +kernel, by decide +kernel⟩
theorem pl_X0_emptyAtHead : plainY yX0_emptyAtHead 0 := ⟨by decide +kernel, by decide +kernel, by decide +kernel⟩
theorem pl_X0_fillInBoot : plainY yX0_fillInBoot 2 := ⟨by decide +kernel, by decide +kernel, by decide +kernel⟩
theorem pl_X0_onTheWayUp : plainY yX0_onTheWayUp 0 := ⟨by decide +kernel, by decide +kernel, by decide +kernel⟩
theorem pl_X0_onAll : plainY yX0_onAll 0 := ⟨by decide +kernel, by decide +kernel, by decide +kernel⟩
theorem pl_X1_init : plainY yX1_init 0 := ⟨by decide +kernel, by decide +kernel, by decide +kernel⟩
theorem pl_X1_become : plainY yX1_become 1 := ⟨by decide +kernel, by decide +kernel, by decide +kernel⟩
theorem pl_X1_feedIn : plainY yX1_feedIn 1 := ⟨by decide +kernel, by decide +kernel, by decide +kernel⟩
theorem pl_X1_fallBack : plainY yX1_fallBack 1 := ⟨by decide +kernel, by decide +kernel, by decide +kernel⟩
theorem pl_X1_pourIntoBoot : plainY yX1_pourIntoBoot 1 := ⟨by decide +kernel, by decide +kernel, by decide +kernel⟩
theorem pl_X2_init : plainY yX2_init 0 := ⟨by decide +kernel, by decide +kernel, by decide +kernel⟩
theorem pl_X2_indexOf : plainY yX2_indexOf 1 := ⟨by decide +kernel, by decide +kernel, by decide +kernel⟩
theorem pl_X2_remember : plainY yX2_remember 1 := ⟨by decide +kernel, by decide +kernel, by decide +kernel⟩
theorem pl_X2_takeBack : plainY yX2_takeBack 1 := ⟨by decide +kernel, by decide +kernel, by decide +kernel⟩
theorem pl_X3_init : plainY yX3_init 0 := ⟨by decide +kernel, by decide +kernel, by decide +kernel⟩
theorem pl_X3_become : plainY yX3_become 1 := ⟨by decide +kernel, by decide +kernel, by decide +kernel⟩
theorem pl_X3_setNumber : plainY yX3_setNumber 2 := ⟨by decide +kernel, by decide +kernel, by decide +kernel⟩
theorem pl_X3_moveGate : plainY yX3_moveGate 1 := ⟨by decide +kernel, by decide +kernel, by decide +kernel⟩
theorem pl_X3_switchOn : plainY yX3_switchOn 0 := ⟨by decide +kernel, by decide +kernel, by decide +kernel⟩
theorem pl_X3_switchOff : plainY yX3_switchOff 0 := ⟨by decide +kernel, by decide +kernel, by decide +kernel⟩
theorem pl_X3_forgetReason : plainY yX3_forgetReason 0 := ⟨by decide +kernel, by decide +kernel, by decide +kernel⟩
theorem pl_X3_mayBeReset : plainY yX3_mayBeReset 0 := ⟨by decide +kernel, by decide +kernel, by decide +kernel⟩
theorem pl_X3_takeByHand : plainY yX3_takeByHand 1 := ⟨by decide +kernel, by decide +kernel, by decide +kernel⟩
theorem pl_X3_passTicks : plainY yX3_passTicks 1 := ⟨by decide +kernel, by decide +kernel, by decide +kernel⟩
theorem pl_X3_ticksUntilTrip : plainY yX3_ticksUntilTrip 1 := ⟨by decide +kernel, by decide +kernel, by decide +kernel⟩
theorem pl_X3_load : plainY yX3_load 0 := ⟨by decide +kernel, by decide +kernel, by decide +kernel⟩
theorem pl_X3_seenBy : plainY yX3_seenBy 1 := ⟨by decide +kernel, by decide +kernel, by decide +kernel⟩
theorem pl_X3_tick : plainY yX3_tick 0 := ⟨by decide +kernel, by decide +kernel, by decide +kernel⟩
theorem pl_X3_slipOf : plainY yX3_slipOf 1 := ⟨by decide +kernel, by decide +kernel, by decide +kernel⟩
theorem pl_X3_moveOneCell : plainY yX3_moveOneCell 0 := ⟨by decide +kernel, by decide +kernel, by decide +kernel⟩
theorem pl_X3_rub : plainY yX3_rub 0 := ⟨by decide +kernel, by decide +kernel, by decide +kernel⟩
theorem pl_X3_watch : plainY yX3_watch 0 := ⟨by decide +kernel, by decide +kernel, by decide +kernel⟩
theorem pl_X3_tripBy : plainY yX3_tripBy 1 := ⟨by decide +kernel, by decide +kernel, by decide +kernel⟩
theorem pl_X4_init : plainY yX4_init 0 := ⟨by decide +kernel, by decide +kernel, by decide +kernel⟩
theorem pl_X4_append : plainY yX4_append 1 := ⟨by decide +kernel, by decide +kernel, by decide +kernel⟩
theorem pl_X4_empty : plainY yX4_empty 0 := ⟨by decide +kernel, by decide +kernel, by decide +kernel⟩
theorem pl_X4_letterOf : plainY yX4_letterOf 1 := ⟨by decide +kernel, by decide +kernel, by decide +kernel⟩
theorem pl_X4_valueOf : plainY yX4_valueOf 1 := ⟨by decide +kernel, by decide +kernel, by decide +kernel⟩
theorem pl_X4_read : plainY yX4_read 0 := ⟨by decide +kernel, by decide +kernel, by decide +kernel⟩
theorem pl_X4_next : plainY yX4_next 0 := ⟨by decide +kernel, by decide +kernel, by decide +kernel⟩
theorem pl_X4_nextDigit : plainY yX4_nextDigit 0 := ⟨by decide +kernel, by decide +kernel, by decide +kernel⟩
theorem pl_X4_readComma : plainY yX4_readComma 0 := ⟨by decide +kernel, by decide +kernel, by decide +kernel⟩
theorem pl_X4_readCommand : plainY yX4_readCommand 0 := ⟨by decide +kernel, by decide +kernel, by decide +kernel⟩
theorem pl_X4_isLetterOfCommand : plainY yX4_isLetterOfCommand 1 := ⟨by decide +kernel, by decide +kernel, by decide +kernel⟩
theorem pl_X4_readValue : plainY yX4_readValue 1 := ⟨by decide +kernel, by decide +kernel, by decide +kernel⟩
theorem pl_X4_readNumber : plainY yX4_readNumber 2 := ⟨by decide +kernel, by decide +kernel, by decide +kernel⟩
theorem pl_X4_readAlignment : plainY yX4_readAlignment 0 := ⟨by decide +kernel, by decide +kernel, by decide +kernel⟩
theorem pl_X5_init : plainY yX5_init 0 := ⟨by decide +kernel, by decide +kernel, by decide +kernel⟩
theorem pl_X5_become : plainY yX5_become 1 := ⟨by decide +kernel, by decide +kernel, by decide +kernel⟩
theorem pl_X5_note : plainY yX5_note 3 := ⟨by decide +kernel, by decide +kernel, by decide +kernel⟩
theorem pl_X5_tickOf : plainY yX5_tickOf 1 := ⟨by decide +kernel, by decide +kernel, by decide +kernel⟩
theorem pl_X5_sensorOf : plainY yX5_sensorOf 1 := ⟨by decide +kernel, by decide +kernel, by decide +kernel⟩
theorem pl_X5_loadOf : plainY yX5_loadOf 1 := ⟨by decide +kernel, by decide +kernel, by decide +kernel⟩
theorem pl_X5_told : plainY yX5_told 2 := ⟨by decide +kernel, by decide +kernel, by decide +kernel⟩
theorem pl_X6_init : plainY yX6_init 0 := ⟨by decide +kernel, by decide +kernel, by decide +kernel⟩
theorem pl_X6_set : plainY yX6_set 2 := ⟨by decide +kernel, by decide +kernel, by decide +kernel⟩
theorem pl_X6_gate : plainY yX6_gate 1 := ⟨by decide +kernel, by decide +kernel, by decide +kernel⟩
theorem pl_X6_start : plainY yX6_start 0 := ⟨by decide +kernel, by decide +kernel, by decide +kernel⟩
theorem pl_X6_stop : plainY yX6_stop 0 := ⟨by decide +kernel, by decide +kernel, by decide +kernel⟩
theorem pl_X6_reset : plainY yX6_reset 0 := ⟨by decide +kernel, by decide +kernel, by decide +kernel⟩
theorem pl_X6_clean : plainY yX6_clean 1 := ⟨by decide +kernel, by decide +kernel, by decide +kernel⟩
theorem pl_X6_run : plainY yX6_run 1 := ⟨by decide +kernel, by decide +kernel, by decide +kernel⟩
theorem pl_X6_type : plainY yX6_type 1 := ⟨by decide +kernel, by decide +kernel, by decide +kernel⟩
theorem pl_X6_clearText : plainY yX6_clearText 0 := ⟨by decide +kernel, by decide +kernel, by decide +kernel⟩
theorem pl_X6_perform : plainY yX6_perform 0 := ⟨by decide +kernel, by decide +kernel, by decide +kernel⟩
theorem pl_X6_stopped : plainY yX6_stopped 1 := ⟨by decide +kernel, by decide +kernel, by decide +kernel⟩
theorem pl_X6_undo : plainY yX6_undo 0 := ⟨by decide +kernel, by decide +kernel, by decide +kernel⟩
theorem pl_X6_keep : plainY yX6_keep 0 := ⟨by decide +kernel, by decide +kernel, by decide +kernel⟩
theorem pl_X6_restore : plainY yX6_restore 0 := ⟨by decide +kernel, by decide +kernel, by decide +kernel⟩
theorem pl_X6_bucket : plainY yX6_bucket 1 := ⟨by decide +kernel, by decide +kernel, by decide +kernel⟩
theorem pl_X6_sensor : plainY yX6_sensor 2 := ⟨by decide +kernel, by decide +kernel, by decide +kernel⟩
theorem pl_X6_tripsIn : plainY yX6_tripsIn 0 := ⟨by decide +kernel, by decide +kernel, by decide +kernel⟩
theorem pl_X6_ifTension : plainY yX6_ifTension 2 := ⟨by decide +kernel, by decide +kernel, by decide +kernel⟩
theorem pl_X6_leastTension : plainY yX6_leastTension 1 := ⟨by decide +kernel, by decide +kernel, by decide +kernel⟩
theorem pl_X6_trip : plainY yX6_trip 2 := ⟨by decide +kernel, by decide +kernel, by decide +kernel⟩
theorem pl_X6_count : plainY yX6_count 1 := ⟨by decide +kernel, by decide +kernel, by decide +kernel⟩
theorem pl_X6_recorded : plainY yX6_recorded 1 := ⟨by decide +kernel, by decide +kernel, by decide +kernel⟩
theorem pl_X6_carryOut : plainY yX6_carryOut 2 := ⟨by decide +kernel, by decide +kernel, by decide +kernel⟩
theorem pl_X6_isError : plainY yX6_isError 1 := ⟨by decide +kernel, by decide +kernel, by decide +kernel⟩
theorem pl_X6_isWithin : plainY yX6_isWithin 3 := ⟨by decide +kernel, by decide +kernel, by decide +kernel⟩
theorem pl_X7_init : plainY yX7_init 0 := ⟨by decide +kernel, by decide +kernel, by decide +kernel⟩
theorem pl_X7_in : plainY yX7_in 3 := ⟨by decide +kernel, by decide +kernel, by decide +kernel⟩
theorem pl_X7_records : plainY yX7_records 0 := ⟨by decide +kernel, by decide +kernel, by decide +kernel⟩
theorem pl_X7_putAside : plainY yX7_putAside 0 := ⟨by decide +kernel, by decide +kernel, by decide +kernel⟩
theorem pl_X7_takeBack : plainY yX7_takeBack 0 := ⟨by decide +kernel, by decide +kernel, by decide +kernel⟩
theorem pl_X7_load : plainY yX7_load 0 := ⟨by decide +kernel, by decide +kernel, by decide +kernel⟩
theorem pl_X7_comes : plainY yX7_comes 1 := ⟨by decide +kernel, by decide +kernel, by decide +kernel⟩
theorem pl_X7_moves : plainY yX7_moves 0 := ⟨by decide +kernel, by decide +kernel, by decide +kernel⟩
theorem pl_X7_beyond : plainY yX7_beyond 0 := ⟨by decide +kernel, by decide +kernel, by decide +kernel⟩
theorem pl_X7_seesTooMuch : plainY yX7_seesTooMuch 1 := ⟨by decide +kernel, by decide +kernel, by decide +kernel⟩
theorem pl_X7_trips : plainY yX7_trips 1 := ⟨by decide +kernel, by decide +kernel, by decide +kernel⟩
theorem pl_X7_watches : plainY yX7_watches 0 := ⟨by decide +kernel, by decide +kernel, by decide +kernel⟩
theorem pl_X7_tick : plainY yX7_tick 0 := ⟨by decide +kernel, by decide +kernel, by decide +kernel⟩
theorem pl_X7_ticks : plainY yX7_ticks 1 := ⟨by decide +kernel, by decide +kernel, by decide +kernel⟩
theorem pl_X7_isNumber : plainY yX7_isNumber 2 := ⟨by decide +kernel, by decide +kernel, by decide +kernel⟩
theorem pl_X7_refusesSet : plainY yX7_refusesSet 2 := ⟨by decide +kernel, by decide +kernel, by decide +kernel⟩
theorem pl_X7_refusesGate : plainY yX7_refusesGate 1 := ⟨by decide +kernel, by decide +kernel, by decide +kernel⟩
theorem pl_X7_refusesStart : plainY yX7_refusesStart 0 := ⟨by decide +kernel, by decide +kernel, by decide +kernel⟩
theorem pl_X7_refusesReset : plainY yX7_refusesReset 0 := ⟨by decide +kernel, by decide +kernel, by decide +kernel⟩
theorem pl_X7_refusesRun : plainY yX7_refusesRun 1 := ⟨by decide +kernel, by decide +kernel, by decide +kernel⟩
theorem pl_X7_inBuckets : plainY yX7_inBuckets 0 := ⟨by decide +kernel, by decide +kernel, by decide +kernel⟩
theorem pl_X7_set : plainY yX7_set 2 := ⟨by decide +kernel, by decide +kernel, by decide +kernel⟩
theorem pl_X7_gate : plainY yX7_gate 1 := ⟨by decide +kernel, by decide +kernel, by decide +kernel⟩
theorem pl_X7_start : plainY yX7_start 0 := ⟨by decide +kernel, by decide +kernel, by decide +kernel⟩
theorem pl_X7_stop : plainY yX7_stop 0 := ⟨by decide +kernel, by decide +kernel, by decide +kernel⟩
theorem pl_X7_reset : plainY yX7_reset 0 := ⟨by decide +kernel, by decide +kernel, by decide +kernel⟩
theorem pl_X7_clean : plainY yX7_clean 1 := ⟨by decide +kernel, by decide +kernel, by decide +kernel⟩
theorem pl_X7_run : plainY yX7_run 1 := ⟨by decide +kernel, by decide +kernel, by decide +kernel⟩
theorem pl_X7_type : plainY yX7_type 1 := ⟨by decide +kernel, by decide +kernel, by decide +kernel⟩
theorem pl_X7_clearText : plainY yX7_clearText 0 := ⟨by decide +kernel, by decide +kernel, by decide +kernel⟩
theorem pl_X7_sign : plainY yX7_sign 0 := ⟨by decide +kernel, by decide +kernel, by decide +kernel⟩
theorem pl_X7_number : plainY yX7_number 2 := ⟨by decide +kernel, by decide +kernel, by decide +kernel⟩
theorem pl_X7_alignment : plainY yX7_alignment 0 := ⟨by decide +kernel, by decide +kernel, by decide +kernel⟩
theorem pl_X7_valueOf : plainY yX7_valueOf 1 := ⟨by decide +kernel, by decide +kernel, by decide +kernel⟩
theorem pl_X7_isLetter : plainY yX7_isLetter 1 := ⟨by decide +kernel, by decide +kernel, by decide +kernel⟩
theorem pl_X7_readsCommand : plainY yX7_readsCommand 0 := ⟨by decide +kernel, by decide +kernel, by decide +kernel⟩
theorem pl_X7_reads : plainY yX7_reads 0 := ⟨by decide +kernel, by decide +kernel, by decide +kernel⟩
theorem pl_X7_whichOf : plainY yX7_whichOf 1 := ⟨by decide +kernel, by decide +kernel, by decide +kernel⟩
theorem pl_X7_does : plainY yX7_does 2 := ⟨by decide +kernel, by decide +kernel, by decide +kernel⟩
theorem pl_X7_perform : plainY yX7_perform 0 := ⟨by decide +kernel, by decide +kernel, by decide +kernel⟩
theorem pl_X7_swapsAside : plainY yX7_swapsAside 0 := ⟨by decide +kernel, by decide +kernel, by decide +kernel⟩
theorem pl_X7_stopped : plainY yX7_stopped 1 := ⟨by decide +kernel, by decide +kernel, by decide +kernel⟩
theorem pl_X7_undo : plainY yX7_undo 0 := ⟨by decide +kernel, by decide +kernel, by decide +kernel⟩
theorem pl_X7_keep : plainY yX7_keep 0 := ⟨by decide +kernel, by decide +kernel, by decide +kernel⟩
theorem pl_X7_restore : plainY yX7_restore 0 := ⟨by decide +kernel, by decide +kernel, by decide +kernel⟩
theorem pl_X7_bucket : plainY yX7_bucket 1 := ⟨by decide +kernel, by decide +kernel, by decide +kernel⟩
theorem pl_X7_sensor : plainY yX7_sensor 2 := ⟨by decide +kernel, by decide +kernel, by decide +kernel⟩
theorem pl_X7_untilTrip : plainY yX7_untilTrip 1 := ⟨by decide +kernel, by decide +kernel, by decide +kernel⟩
theorem pl_X7_tripsIn : plainY yX7_tripsIn 0 := ⟨by decide +kernel, by decide +kernel, by decide +kernel⟩
theorem pl_X7_ifTension : plainY yX7_ifTension 2 := ⟨by decide +kernel, by decide +kernel, by decide +kernel⟩
theorem pl_X7_leastTension : plainY yX7_leastTension 1 := ⟨by decide +kernel, by decide +kernel, by decide +kernel⟩
theorem pl_X7_trip : plainY yX7_trip 2 := ⟨by decide +kernel, by decide +kernel, by decide +kernel⟩
theorem pl_X7_count : plainY yX7_count 1 := ⟨by decide +kernel, by decide +kernel, by decide +kernel⟩
theorem pl_J9_floorMod_7cf53 : plainY yJ9_floorMod_7cf53 2 := ⟨by decide +kernel, by decide +kernel, by decide +kernel⟩
theorem pl_J9_abs_0f7a4 : plainY yJ9_abs_0f7a4 1 := ⟨by decide +kernel, by decide +kernel, by decide +kernel⟩
theorem pl_J9_max_7cf53 : plainY yJ9_max_7cf53 2 := ⟨by decide +kernel, by decide +kernel, by decide +kernel⟩
theorem pl_J9_min_7cf53 : plainY yJ9_min_7cf53 2 := ⟨by decide +kernel, by decide +kernel, by decide +kernel⟩
theorem kn_X6_9 : Cond.methodLinkNest RX6 9 yX3_init "GrainLeg" ∈ tblN := tblN_of (by decide +kernel) rfl
theorem kn_X3_25 : Cond.methodLinkNest RX3 25 yX0_init "GrainLeg" ∈ tblN := tblN_of (by decide +kernel) rfl
theorem kn_X3_32 : Cond.methodLinkNest RX3 32 yX1_init "GrainLeg" ∈ tblN := tblN_of (by decide +kernel) rfl
theorem kn_X3_39 : Cond.methodLinkNest RX3 39 yX5_init "GrainLeg" ∈ tblN := tblN_of (by decide +kernel) rfl
theorem kn_X2_17 : Cond.methodLinkNest RX2 17 yX3_init "GrainLeg" ∈ tblN := tblN_of (by decide +kernel) rfl
theorem kn_X6_34 : Cond.methodLinkNest RX6 34 yX4_init "GrainLeg" ∈ tblN := tblN_of (by decide +kernel) rfl
theorem kn_X3_89 : Cond.methodLinkNest RX3 89 yX6_isWithin "GrainLeg" ∈ tblN := tblN_of (by decide +kernel) rfl
theorem kn_X4_26 : Cond.methodLinkNest RX4 26 yX6_isWithin "GrainLeg" ∈ tblN := tblN_of (by decide +kernel) rfl
theorem kn_X0_25 : Cond.methodLinkNest RX0 25 yX6_isWithin "GrainLeg" ∈ tblN := tblN_of (by decide +kernel) rfl
theorem kn_X5_41 : Cond.methodLinkNest RX5 41 yX6_isWithin "GrainLeg" ∈ tblN := tblN_of (by decide +kernel) rfl
theorem kn_X3_9 : Cond.fieldLinkNest RX3 9 RX6 "FIRST" "[I" RX6 ∈ tblN := tblN_of (by decide +kernel) rfl
theorem kn_X3_93 : Cond.fieldLinkNest RX3 93 RX6 "LEAST" "[I" RX6 ∈ tblN := tblN_of (by decide +kernel) rfl
theorem kn_X3_96 : Cond.fieldLinkNest RX3 96 RX6 "MOST" "[I" RX6 ∈ tblN := tblN_of (by decide +kernel) rfl
theorem kn_X3_170 : Cond.fieldLinkNest RX3 170 RX6 "TOO_MUCH" "[I" RX6 ∈ tblN := tblN_of (by decide +kernel) rfl
theorem kn_X3_173 : Cond.fieldLinkNest RX3 173 RX6 "WAITS" "[I" RX6 ∈ tblN := tblN_of (by decide +kernel) rfl
theorem kn_X4_60 : Cond.fieldLinkNest RX4 60 RX6 "LEAST" "[I" RX6 ∈ tblN := tblN_of (by decide +kernel) rfl
theorem kn_X4_63 : Cond.fieldLinkNest RX4 63 RX6 "MOST" "[I" RX6 ∈ tblN := tblN_of (by decide +kernel) rfl
