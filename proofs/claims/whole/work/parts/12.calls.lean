/-! CALLS OVER WORLDS: the facts gx that stay true below the base address, contracts over worlds, a call's row for each kind -/
theorem ww.weaken {D : va_G} {cl : List vw_C} {A B : Nat → Prop} {w : Nat → Option va_E} {H : Heap} (h : ww D cl A w H) (hAB : ∀ q, A q → B q) : ww D cl B w H := by
  obtain ⟨L, hP, hD, hL⟩ := h
  exact ⟨L, hP, hD.weaken (fun _ _ _ z => hAB _ z), hL⟩
/-- which cells a method over the world w may change: the world's, and those that it makes -/
def gA (w : Nat → Option va_E) (sz : Nat) : Nat → Prop := fun q => (∃ e : va_E, w q = some e) ∨ sz ≤ q
theorem ww.self {D : va_G} {cl : List vw_C} {A : Nat → Prop} {w : Nat → Option va_E} {H : Heap} (h : ww D cl A w H) (sz : Nat) : ww D cl (gA w sz) w H := by
  obtain ⟨L, hP, hD, hL⟩ := h
  exact ⟨L, hP, ⟨hD.1, fun k q hk => Or.inl ⟨q.2, (hL q.1 q.2).mpr ⟨k, hk⟩⟩⟩, hL⟩
theorem gA_sub {D : va_G} {cl : List vw_C} {A0 : Nat → Prop} {w : Nat → Option va_E} {H0 H : Heap} {locs : List Loc} (h : ww D cl A0 w H) (hS : va_S A0 H0 H locs) (hA : ∀ q, H0.size ≤ q → A0 q) : ∀ q, gA w H.size q → A0 q := by
  intro q hq
  rcases hq with ⟨e, he⟩ | hq
  · exact h.inA he
  · exact hA q (Nat.le_trans hS.1 hq)
/-- a start: a method that only reads; a method that may write -/
def prR (g : GT) (av : List Value) (w : Nat → Option va_E) : Array Value → State → Prop := va_Pc av (fun U => gx g U ∧ ww g.1 vwCl (gB g) w U.heap)
def prW (g : GT) (sz : Nat) (av : List Value) (w : Nat → Option va_E) : Array Value → State → Prop := va_Pc av (fun U => U.heap.size = sz ∧ gx g U ∧ ww g.1 vwCl (gB g) w U.heap)
theorem prR_blind (g : GT) (av : List Value) (w : Nat → Option va_E) : FrameBlind (prR g av w) := fun _ _ _ _ h => ⟨h.1, h.2.1.calling, h.2.2⟩
theorem prW_blind (g : GT) (sz : Nat) (av : List Value) (w : Nat → Option va_E) : FrameBlind (prW g sz av w) := fun _ _ _ _ h => ⟨h.1, h.2.1, h.2.2.1.calling, h.2.2.2⟩
/-- what a writer leaves -/
abbrev qW (g : GT) (sz : Nat) (w : Nat → Option va_E) : (Nat → Option va_E) → State → Prop := fun w1 t => ww g.1 vwCl (gA w sz) w1 t.heap
abbrev qI (g : GT) (sz : Nat) (w : Nat → Option va_E) (post : Int32 → (Nat → Option va_E) → Prop) : Array Value → State → Outcome → State → Prop := va_Qi post (qW g sz w) (gA w sz)
abbrev qV (g : GT) (sz : Nat) (w : Nat → Option va_E) (post : (Nat → Option va_E) → Prop) : Array Value → State → Outcome → State → Prop := va_Qv post (qW g sz w) (gA w sz)
section WC
variable {p : Program} {l : Launch} {e : Env} {R : Room} {s : State} {m : MethodId} {args : Array Value} {below : List Frame} {meth : Method} {c : Code} {H : Heap} {locs : List Loc} {cells slots : Nat} {Q : State → Prop}
variable {cc : ByteArray} {pc : Nat} {ls : Array Slot} {rest st0 : List Value} {A : Nat → Prop} {w : Nat → Option va_E} {g : GT} {mc ms : Nat} {av : List Value} {a : Array Value}
theorem prR_at (hG : gx g s) (hA : ∀ q, A q → gB g q) (hS : va_S A s.heap H locs) (hw : ww g.1 vwCl A w H) : ∀ U : State, U.heap = H → s.WarmedH U.vm → prR g av w av.toArray U :=
  fun U hU hW => ⟨rfl, hG.moved hA hS hU hW, by rw [hU]; exact hw.weaken hA⟩
theorem prW_at (hG : gx g s) (hA : ∀ q, A q → gB g q) (hS : va_S A s.heap H locs) (hw : ww g.1 vwCl A w H) : ∀ U : State, U.heap = H → s.WarmedH U.vm → prW g H.size av w av.toArray U :=
  fun U hU hW => ⟨rfl, by rw [hU], hG.moved hA hS hU hW, by rw [hU]; exact hw.weaken hA⟩
/-- behind a call of a method that only reads -/
theorem wr_i {post : Int32 → Prop} (hr : va_Run p l e R s m args below meth c H locs cells slots 0 0 (F0 m pc ls st0) rest (vp_Si post a) (fun _ => False))
    (kk : ∀ r : Int32, post r → W p l e R s m args below meth c H locs cells slots Q (F0 m (pc + 3) ls (.int r :: rest))) : W p l e R s m args below meth c H locs cells slots Q (F0 m pc ls st0) := vp_callSi hr.run kk
theorem wr_q {post : Option Nat → Prop} (hr : va_Run p l e R s m args below meth c H locs cells slots 0 0 (F0 m pc ls st0) rest (va_Sq post a) (fun _ => False))
    (kk : ∀ r : Option Nat, post r → W p l e R s m args below meth c H locs cells slots Q (F0 m (pc + 3) ls (va_rf r :: rest))) : W p l e R s m args below meth c H locs cells slots Q (F0 m pc ls st0) := va_csq hr.run kk
/-- behind a call of a method that may write -/
theorem ww_i {post : Int32 → (Nat → Option va_E) → Prop} (hr : va_Run p l e R s m args below meth c H locs cells slots mc ms (F0 m pc ls st0) rest (qI g H.size w post a) (gA w H.size)) (hw : ww g.1 vwCl A w H) (hS : va_S A s.heap H locs) (hA : ∀ q, s.heap.size ≤ q → A q)
    (kk : ∀ (r : Int32) (w1 : Nat → Option va_E) (H1 : Heap) (locs1 : List Loc), post r w1 → ww g.1 vwCl A w1 H1 → va_S A s.heap H1 locs1 → H.size ≤ H1.size → (∀ q : Nat, q < H.size → ¬ gA w H.size q → H1[q]? = H[q]?) → ww g.1 vwCl (gA w H.size) w1 H1 → W p l e R s m args below meth c H1 locs1 (cells + mc) (slots + ms) Q (F0 m (pc + 3) ls (.int r :: rest))) : W p l e R s m args below meth c H locs cells slots Q (F0 m pc ls st0) := by
  have hAA := gA_sub hw hS hA
  refine va_calli hr hS (fun q _ h => hAA q h) hAA (fun r w1 t H1 locs1 ht hvm hp hB hz hk hS1 => ?_)
  have hB : ww g.1 vwCl (gA w H.size) w1 t.heap := hB
  rw [ht] at hB
  exact kk r w1 H1 locs1 hp (hB.weaken hAA) hS1 hz hk hB
theorem ww_v {post : (Nat → Option va_E) → Prop} (hr : va_Run p l e R s m args below meth c H locs cells slots mc ms (F0 m pc ls st0) rest (qV g H.size w post a) (gA w H.size)) (hw : ww g.1 vwCl A w H) (hS : va_S A s.heap H locs) (hA : ∀ q, s.heap.size ≤ q → A q)
    (kk : ∀ (w1 : Nat → Option va_E) (H1 : Heap) (locs1 : List Loc), post w1 → ww g.1 vwCl A w1 H1 → va_S A s.heap H1 locs1 → H.size ≤ H1.size → (∀ q : Nat, q < H.size → ¬ gA w H.size q → H1[q]? = H[q]?) → ww g.1 vwCl (gA w H.size) w1 H1 → W p l e R s m args below meth c H1 locs1 (cells + mc) (slots + ms) Q (F0 m (pc + 3) ls rest)) : W p l e R s m args below meth c H locs cells slots Q (F0 m pc ls st0) := by
  have hAA := gA_sub hw hS hA
  refine va_callv hr hS (fun q _ h => hAA q h) hAA (fun w1 t H1 locs1 ht hvm hp hB hz hk hS1 => ?_)
  have hB : ww g.1 vwCl (gA w H.size) w1 t.heap := hB
  rw [ht] at hB
  exact kk w1 H1 locs1 hp (hB.weaken hAA) hS1 hz hk hB
end WC
/-- a start of a method over numbers alone -/
def prN (av : List Value) : Array Value → State → Prop := va_Pc av (fun _ => True)
theorem prN_blind (av : List Value) : FrameBlind (prN av) := fun _ _ _ _ h => h
/-- the words of a contract: its own code, and the good words of the tables -/
theorem GW_in {c0 : Cond} {y : MethodName} {b : ByteArray} {n : Nat} {r : Option FieldType} (h : Cond.code y b n r ∈ GW) : GoodIn GW (Cond.code y b n r :: GW) := fun w hw => (List.mem_cons.mp hw).elim (fun e => by subst e; exact ⟨h, GW_good h⟩) (fun h1 => ⟨h1, GW_good h1⟩)
section CB
variable {p : Program} {l : Launch} {e : Env} {R : Room} {s : State} {m : MethodId} {args : Array Value} {below : List Frame} {meth : Method} {c : Code} {H : Heap} {locs : List Loc} {cells slots : Nat} {Q : State → Prop}
variable {cc b0 : ByteArray} {pc nL index maxL : Nat} {ls : Array Slot} {rest st0 As : List Value} {y : MethodName} {ret : Option FieldType} {rm : Room} {own C : String} {mc ms : Nat} {Pc : Array Value → State → Prop} {Qc : Array Value → State → Outcome → State → Prop} {free : Addr → Prop} {b : Addr}
theorem cb_of (n : Nat) (hts : ∀ w ∈ GW, w.before args s = true) (hc : Cond.code y b0 maxL ret ∈ GW) (hl : Cond.methodLink own index y ∈ GW) (hi : Cond.initialized y.cls ∈ GW) (hd : y.cls ≠ "java/lang/invoke/MethodHandle" ∧ y.cls ≠ "java/lang/invoke/VarHandle" ∧ (parseMethodDescriptor y.desc).map (fun d => d.parameters.length) = some n) (hR : rm.frames + 1 ≤ R.frames ∧ 8 + (maxL + 11) + rm.locals ≤ R.locals) (hrc : rm.cells = mc) (hrs : rm.slots = ms) : CallB R s args own index y b0 maxL ret (Cond.code y b0 maxL ret :: GW) rm mc ms n :=
  callB_of n hts (GW_in (c0 := .tt) hc) rfl hrc hrs (hts _ hi) (hts _ hl) hd hR
/-- a static call, a virtual one, a constructor's: the run -/
theorem cS (n : Nat) (S : CallFix p m c cc nL s args GW own) (hM : Met l y (Cond.code y b0 maxL ret :: GW) rm Pc Qc mc ms free) (hc : Cond.code y b0 maxL ret ∈ GW) (hl : Cond.methodLink own index y ∈ GW) (hi : Cond.initialized y.cls ∈ GW) (hs : Cond.static y ∈ GW) (hd : y.cls ≠ "java/lang/invoke/MethodHandle" ∧ y.cls ≠ "java/lang/invoke/VarHandle" ∧ (parseMethodDescriptor y.desc).map (fun d => d.parameters.length) = some n) (hR : rm.frames + 1 ≤ R.frames ∧ 8 + (maxL + 11) + rm.locals ≤ R.locals) (hrc : rm.cells = mc) (hrs : rm.slots = ms)
    (hp : PreS s H Pc As) (hn : As.length = n) (hsize : ls.size = nL) (hst : st0 = As.reverse ++ rest) (hW : (rest.map fun v => v.category).sum ≤ 8) (hdg : decode cc pc = .ok (.invokestatic index, 3)) (hf : cells + mc ≤ R.cells ∧ slots + ms ≤ R.slots) :
    va_Run p l e R s m args below meth c H locs cells slots mc ms (F0 m pc ls st0) rest (Qc As.toArray) free :=
  va_runS S hM ⟨cb_of n S.2.2.2.2 hc hl hi hd hR hrc hrs, S.2.2.2.2 _ hs⟩ hp rfl hn hsize hst (lv_room hW) hdg hf
theorem cV (n : Nat) (S : CallFix p m c cc nL s args GW own) (hM : Met l y (Cond.code y b0 maxL ret :: GW) rm Pc Qc mc ms free) (hc : Cond.code y b0 maxL ret ∈ GW) (hl : Cond.methodLink own index y ∈ GW) (hi : Cond.initialized y.cls ∈ GW) (him : Cond.instanceMethod y ∈ GW) (hsel : Cond.selects C y y ∈ GW) (hd : y.cls ≠ "java/lang/invoke/MethodHandle" ∧ y.cls ≠ "java/lang/invoke/VarHandle" ∧ (parseMethodDescriptor y.desc).map (fun d => d.parameters.length) = some n) (hR : rm.frames + 1 ≤ R.frames ∧ 8 + (maxL + 11) + rm.locals ≤ R.locals) (hrc : rm.cells = mc) (hrs : rm.slots = ms)
    (hp : PreV s H C b Pc As) (hn : As.length = n) (hsize : ls.size = nL) (hst : st0 = As.reverse ++ .ref b :: rest) (hW : (rest.map fun v => v.category).sum ≤ 8) (hdg : decode cc pc = .ok (.invokevirtual index, 3)) (hf : cells + mc ≤ R.cells ∧ slots + ms ≤ R.slots) :
    va_Run p l e R s m args below meth c H locs cells slots mc ms (F0 m pc ls st0) rest (Qc (Value.ref b :: As).toArray) free :=
  va_runV S hM ⟨cb_of n S.2.2.2.2 hc hl hi hd hR hrc hrs, S.2.2.2.2 _ him, S.2.2.2.2 _ hsel⟩ hp rfl hn hsize hst (lv_room hW) hdg hf
theorem cI (n : Nat) (S : CallFix p m c cc nL s args GW own) (hM : Met l y (Cond.code y b0 maxL none :: GW) rm Pc Qc mc ms free) (hc : Cond.code y b0 maxL none ∈ GW) (hl : Cond.methodLink own index y ∈ GW) (hi : Cond.initialized y.cls ∈ GW) (him : Cond.instanceMethod y ∈ GW) (hy : y.name = "<init>") (hd : y.cls ≠ "java/lang/invoke/MethodHandle" ∧ y.cls ≠ "java/lang/invoke/VarHandle" ∧ (parseMethodDescriptor y.desc).map (fun d => d.parameters.length) = some n) (hR : rm.frames + 1 ≤ R.frames ∧ 8 + (maxL + 11) + rm.locals ≤ R.locals) (hrc : rm.cells = mc) (hrs : rm.slots = ms)
    (hp : PreS s H Pc (.ref b :: As)) (hn : As.length = n) (hsize : ls.size = nL) (hst : st0 = As.reverse ++ .ref b :: rest) (hW : (rest.map fun v => v.category).sum ≤ 8) (hdg : decode cc pc = .ok (.invokespecial index, 3)) (hf : cells + mc ≤ R.cells ∧ slots + ms ≤ R.slots) :
    va_Run p l e R s m args below meth c H locs cells slots mc ms (F0 m pc ls st0) rest (Qc (Value.ref b :: As).toArray) free :=
  va_runI S hM ⟨cb_of n S.2.2.2.2 hc hl hi hd hR hrc hrs, hy, S.2.2.2.2 _ him⟩ hp rfl hn hsize hst (lv_room hW) hdg hf
end CB
