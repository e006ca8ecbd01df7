/-! THE LAW'S OWN METHODS: a call, and what it throws as a number -/
section WX
variable {p : Program} {l : Launch} {e : Env} {R : Room} {s : State} {m : MethodId} {args : Array Value} {below : List Frame} {meth : Method} {c : Code} {H : Heap} {locs : List Loc} {cells slots : Nat} {Q : State → Prop}
variable {pc : Nat} {ls : Array Slot} {rest st0 : List Value} {A : Nat → Prop} {w : Nat → Option va_E} {g : GT} {mc ms : Nat} {a : Array Value}
theorem wx_i {post : Int32 → (Nat → Option va_E) → Prop} {P : String → Prop} (hr : vx_Run p l e R s m args below meth c H locs cells slots mc ms (F0 m pc ls st0) rest (qI g H.size w post a) (xQ P) (gA w H.size)) (hw : ww g.1 vwCl A w H) (hS : va_S A s.heap H locs) (hA : ∀ q, s.heap.size ≤ q → A q)
    (kx : ∀ (E : String) (ce : Cell) (q9 : Addr) (H1 : Heap) (locs1 : List Loc), P E → ww g.1 vwCl A w H1 → va_S A s.heap H1 locs1 → H1[q9]? = some ce → ce.vm = .none → s.vm.findClass E = some ce.cls → vx_W p l e R s m args below meth c H1 locs1 (cells + mc) (slots + ms) Q (F0 m pc ls rest) q9)
    (kk : ∀ (r : Int32) (w1 : Nat → Option va_E) (H1 : Heap) (locs1 : List Loc), post r w1 → ww g.1 vwCl A w1 H1 → va_S A s.heap H1 locs1 → W p l e R s m args below meth c H1 locs1 (cells + mc) (slots + ms) Q (F0 m (pc + 3) ls (.int r :: rest))) : W p l e R s m args below meth c H locs cells slots Q (F0 m pc ls st0) := by
  have hAA := gA_sub hw hS hA
  refine vx_calli hr hS (fun q _ h => hAA q h) hAA (fun q _ h => h.elim) (fun E ce q9 u t H1 locs1 ht hvm hp hB hz hk hS1 hq9 hv hc => ?_) (fun r w1 t H1 locs1 ht hvm hp hB hz hk hS1 => ?_)
  · exact kx E ce q9 H1 locs1 hB (hw.kept (fun q hq => hk q hq (fun z => z))) hS1 hq9 hv hc
  · have hB : ww g.1 vwCl (gA w H.size) w1 t.heap := hB
    rw [ht] at hB
    exact kk r w1 H1 locs1 hp (hB.weaken hAA) hS1
theorem wx_r {post : Int32 → Prop} {P : String → Prop} (hr : vx_Run p l e R s m args below meth c H locs cells slots mc ms (F0 m pc ls st0) rest (qR post a) (xQ P) (fun _ => False)) (hw : ww g.1 vwCl A w H) (hS : va_S A s.heap H locs)
    (kx : ∀ (E : String) (ce : Cell) (q9 : Addr) (H1 : Heap) (locs1 : List Loc), P E → ww g.1 vwCl A w H1 → va_S A s.heap H1 locs1 → H1[q9]? = some ce → ce.vm = .none → s.vm.findClass E = some ce.cls → vx_W p l e R s m args below meth c H1 locs1 (cells + mc) (slots + ms) Q (F0 m pc ls rest) q9)
    (kk : ∀ (r : Int32) (H1 : Heap) (locs1 : List Loc), post r → ww g.1 vwCl A w H1 → va_S A s.heap H1 locs1 → W p l e R s m args below meth c H1 locs1 (cells + mc) (slots + ms) Q (F0 m (pc + 3) ls (.int r :: rest))) : W p l e R s m args below meth c H locs cells slots Q (F0 m pc ls st0) := by
  refine vx_calli hr hS (fun q _ h => h.elim) (fun _ h => h.elim) (fun q _ h => h.elim) (fun E ce q9 u t H1 locs1 ht hvm hp hB hz hk hS1 hq9 hv hc => ?_) (fun r w1 t H1 locs1 ht hvm hp hB hz hk hS1 => ?_)
  · exact kx E ce q9 H1 locs1 hB (hw.kept (fun q hq => hk q hq (fun z => z))) hS1 hq9 hv hc
  · exact kk r H1 locs1 hp (hw.kept (fun q hq => hk q hq (fun z => z))) hS1
end WX
section CVX
variable {p : Program} {l : Launch} {e : Env} {R : Room} {s : State} {m : MethodId} {args : Array Value} {below : List Frame} {meth : Method} {c : Code} {H : Heap} {locs : List Loc} {cells slots : Nat}
variable {cc b0 : ByteArray} {pc nL index maxL : Nat} {ls : Array Slot} {rest st0 As : List Value} {y : MethodName} {ret : Option FieldType} {rm : Room} {own C : String} {mc ms : Nat} {Pc : Array Value → State → Prop} {Qc : Array Value → State → Outcome → State → Prop} {XC : String → State → State → Prop} {free : Addr → Prop} {b : Addr}
theorem cVx (n : Nat) (S : CallFix p m c cc nL s args GW own) (hM : vx_Met l y (Cond.code y b0 maxL ret :: GW) rm Pc Qc XC mc ms free) (hc : Cond.code y b0 maxL ret ∈ GW) (hl : Cond.methodLink own index y ∈ GW) (hi : Cond.initialized y.cls ∈ GW) (him : Cond.instanceMethod y ∈ GW) (hsel : Cond.selects C y y ∈ GW) (hd : y.cls ≠ "java/lang/invoke/MethodHandle" ∧ y.cls ≠ "java/lang/invoke/VarHandle" ∧ (parseMethodDescriptor y.desc).map (fun d => d.parameters.length) = some n) (hR : rm.frames + 1 ≤ R.frames ∧ 8 + (maxL + 11) + rm.locals ≤ R.locals) (hrc : rm.cells = mc) (hrs : rm.slots = ms)
    (hp : PreV s H C b Pc As) (hn : As.length = n) (hsize : ls.size = nL) (hst : st0 = As.reverse ++ .ref b :: rest) (hW : (rest.map fun v => v.category).sum ≤ 8) (hdg : decode cc pc = .ok (.invokevirtual index, 3)) (hf : cells + mc ≤ R.cells ∧ slots + ms ≤ R.slots) :
    vx_Run p l e R s m args below meth c H locs cells slots mc ms (F0 m pc ls st0) rest (Qc (Value.ref b :: As).toArray) XC free :=
  vx_runV S hM ⟨cb_of n S.2.2.2.2 hc hl hi hd hR hrc hrs, S.2.2.2.2 _ him, S.2.2.2.2 _ hsel⟩ hp rfl hn hsize hst (lv_room hW) hdg hf
end CVX
set_option maxHeartbeats 4000000 in
set_option maxRecDepth 100000 in
theorem c_L_rule (l : Launch) (hl0 : l.stackTraces = false) (g : GT) (sz : Nat) (w : Nat → Option va_E) (th tx ru : Nat) (rd : Int32) (go bo zo : Nat) (rf : Nat → Int32) (u v : Int32) (out : Nat) (jf : Nat → Int64) (ht : w th = some (cT tx ru rd go bo zo)) (hru : w ru = some (cA g 45 rf)) (hout : w out = some (cJ g jf)) : Met l y_L_rule (.codeWith y_L_rule b_L_rule 5 ((some .int)) [(0, 10, 13, 13)] :: GW) ({ frames := 7, cells := 1, slots := 6, locals := 104 }) (prW g sz [.ref th, .int u, .int v, .ref out] w) (qI g sz w (fun r w1 => (r = 0 ∧ ∃ r1 : Int32, ((isCls u && isCls v) = true ∧ r1 = rf (prI u v).toNatClampNeg) ∧ w1 = va_up w out (some (cJ g (vp_updL jf 0 r1.toInt64)))) ∨ (r = 1 ∧ (isCls u && isCls v) = false ∧ w1 = w))) 1 6 (gA w sz) := by
  refine va_MetW (cc := b_L_rule) (maxL := 5) (ret := (some .int)) (hh := [(0, 10, 13, 13)]) (by decide) rfl ?_
  intro p e s m args below meth c s₁ B hml hv
  obtain ⟨rfl, hsz, hG, hw0⟩ := hv
  have hx := B.exec
  have hb := B.bytes
  have hr := B.returns
  have hts : ∀ w ∈ GW, w.before _ s = true := fun w h => atoms_spec (ws := .codeWith y_L_rule b_L_rule 5 ((some .int)) [(0, 10, 13, 13)] :: GW) B.pre w (List.mem_cons_of_mem _ h)
  have hown : s.vm.findClass "DangerTablesLaw" = some m.cls := findClass_of_methodNamed B.named
  have hlocks := B.notSynchronized
  have hf := hG.here
  have hK := hf.1
  subst hsz
  have hw := hw0.self s.heap.size
  have hAB : ∀ q, gA w s.heap.size q → gB g q := fun q h => h.elim (fun z => z.elim (fun _ he => hw0.inA he)) (fun h => Nat.le_trans hG.1 h)
  have hA : ∀ q, s.heap.size ≤ q → gA w s.heap.size q := fun q h => Or.inr h
  have hS : va_S (gA w s.heap.size) s.heap s.heap [] := va_S.rf
  have hz0 : w (g.2.2 1) = none := emp_none hf hAB hw
  have htab : c.exceptionTable.toList = [⟨0, 10, 13, 13⟩] := vx_table (x := y_L_rule) B (hts _ k_212)
  have hl := lv_entry ([.ref th, .int u, .int v, .ref out]) (n := 5) (Nat.le_of_ble_eq_true rfl)
  rw [lg_entry_eq]
  generalize (lg_sl ([.ref th, .int u, .int v, .ref out]) ++ List.replicate (5 - (lg_sl ([.ref th, .int u, .int v, .ref out])).length) Slot.unset).toArray = ls at hl ⊢
  have hl : lv_has ls 5 [(0, .ref th), (1, .int u), (2, .int v), (3, .ref out)] := hl
  refine lv_aload_n hx hb d_L_rule_0 rfl (lv_at hl 3 rfl) ?_
  refine lv_iconst (v := 0) hx hb d_L_rule_1 (by decide) ?_
  refine lv_aload_n hx hb d_L_rule_2 rfl (lv_at hl 0 rfl) ?_
  refine lv_iload_n hx hb d_L_rule_3 rfl (lv_at hl 1 rfl) ?_
  refine lv_iload_n hx hb d_L_rule_4 rfl (lv_at hl 2 rfl) ?_
  refine wx_r (cVx (As := [.int u, .int v]) (rest := [.int 0, .ref out]) (C := "DangerTables") 2 ⟨hx, hb, hml, hown, hts⟩ (c_T_rule l hl0 g w th tx ru rd go bo zo rf u v ht hru) k_217 k_214 k_1 k_215 k_216 (by decide +kernel) ⟨Nat.le_of_ble_eq_true rfl, Nat.le_of_ble_eq_true rfl⟩ rfl rfl ⟨prR_blind _ _ _, hw.recv hK ht rfl, prR_at hG hAB hS hw⟩ rfl hl.1 rfl (Nat.le_of_ble_eq_true rfl) d_L_rule_5 ⟨Nat.le_of_ble_eq_true rfl, Nat.le_of_ble_eq_true rfl⟩) hw hS (fun E9 ce9 q9 H locs hPE hw hS hq9 hv9 hc9 => ?_) (fun r_1 H locs e_1 hw hS => ?_)
  · obtain ⟨rfl, hcnd⟩ := hPE
    refine vx_widen (k := 1) (n := 6) (Nat.le_of_ble_eq_true rfl) (Nat.le_of_ble_eq_true rfl) ?_
    refine vx_catch (own := "DangerTablesLaw") (name := "java/lang/IllegalArgumentException") hown [] ⟨0, 10, 13, 13⟩ [] htab (fun z h => nomatch h) (by decide) (by decide) (hts _ k_213) (va_Nw.use rfl (hf.2.1 _ x_220)) hq9 hv9 hc9 ?_
    refine lv_astore (lv' := [(4, .ref q9), (0, .ref th), (1, .int u), (2, .int v), (3, .ref out)]) hx hb d_L_rule_13 hl (by decide) rfl (fun ls hl => ?_)
    refine lv_iconst (v := 1) hx hb d_L_rule_15 (by decide) ?_
    exact W.iret (v := 1) hx hb hr (fun t9 ht9 hW9 => ⟨⟨1, w, rfl, Or.inr ⟨rfl, hcnd, rfl⟩, ww_t ht9 hw⟩, hS.F ht9⟩) hS.2.2 d_L_rule_16
  refine W.widen (k := 1) (n := 6) (Nat.le_of_ble_eq_true rfl) (Nat.le_of_ble_eq_true rfl) ?_
  refine lv_i2l hx hb d_L_rule_8 rfl ?_
  refine ww_last hx hb hK hw hS 2 hout rfl (vp_in_nI (n := 0) (by decide) (by decide)) d_L_rule_9 (fun H locs hw hS => ?_)
  rw [show (0 : Int32).toNatClampNeg = 0 from rfl] at hw
  refine lv_goto (tgt := 17) hx hb d_L_rule_10 (by decide) ?_
  refine lv_iconst (v := 0) hx hb d_L_rule_17 (by decide) ?_
  exact W.iret (v := 0) hx hb hr (fun t9 ht9 hW9 => ⟨⟨0, (va_up w out (some (cJ g (vp_updL jf 0 (Int32.toInt64 r_1))))), rfl, Or.inl ⟨rfl, r_1, e_1, rfl⟩, ww_t ht9 hw⟩, hS.F ht9⟩) hS.2.2 d_L_rule_18

set_option maxHeartbeats 4000000 in
set_option maxRecDepth 100000 in
theorem c_L_apart (l : Launch) (hl0 : l.stackTraces = false) (g : GT) (sz : Nat) (w : Nat → Option va_E) (th tx ru : Nat) (rd : Int32) (go bo zo : Nat) (rf : Nat → Int32) (arr : Nat) (xs : List Nat) (bs : List BX) (u v : Int32) (out : Nat) (jf : Nat → Int64) (ht : w th = some (cT tx ru rd go bo zo)) (hru : w ru = some (cA g 45 rf)) (hL : isL g w bo arr xs) (hlen : xs.length = bs.length) (hbs : ∀ i a : Nat, xs[i]? = some a → ∃ b, bs[i]? = some b ∧ isBx g w a b) (hos : ∀ b ∈ bs, ∀ r ∈ b.1, okP r) (hout : w out = some (cJ g jf)) : Met l y_L_apart (.codeWith y_L_apart b_L_apart 5 ((some .int)) [(0, 10, 13, 13)] :: GW) ({ frames := 7, cells := 1, slots := 6, locals := 120 }) (prW g sz [.ref th, .int u, .int v, .ref out] w) (qI g sz w (fun r w1 => (r = 0 ∧ ∃ r1 : Int32, ((inL u bs.length && inL v bs.length && !decide (u = v)) = true ∧ (∃ (i j : Nat) (bi bj : BX), u = nI i ∧ v = nI j ∧ bs[i]? = some bi ∧ bs[j]? = some bj ∧ r1 = ruB rf bi.1 bj.1)) ∧ w1 = va_up w out (some (cJ g (vp_updL jf 0 r1.toInt64)))) ∨ (r = 1 ∧ (inL u bs.length && inL v bs.length && !decide (u = v)) = false ∧ w1 = w))) 1 6 (gA w sz) := by
  refine va_MetW (cc := b_L_apart) (maxL := 5) (ret := (some .int)) (hh := [(0, 10, 13, 13)]) (by decide) rfl ?_
  intro p e s m args below meth c s₁ B hml hv
  obtain ⟨rfl, hsz, hG, hw0⟩ := hv
  have hx := B.exec
  have hb := B.bytes
  have hr := B.returns
  have hts : ∀ w ∈ GW, w.before _ s = true := fun w h => atoms_spec (ws := .codeWith y_L_apart b_L_apart 5 ((some .int)) [(0, 10, 13, 13)] :: GW) B.pre w (List.mem_cons_of_mem _ h)
  have hown : s.vm.findClass "DangerTablesLaw" = some m.cls := findClass_of_methodNamed B.named
  have hlocks := B.notSynchronized
  have hf := hG.here
  have hK := hf.1
  subst hsz
  have hw := hw0.self s.heap.size
  have hAB : ∀ q, gA w s.heap.size q → gB g q := fun q h => h.elim (fun z => z.elim (fun _ he => hw0.inA he)) (fun h => Nat.le_trans hG.1 h)
  have hA : ∀ q, s.heap.size ≤ q → gA w s.heap.size q := fun q h => Or.inr h
  have hS : va_S (gA w s.heap.size) s.heap s.heap [] := va_S.rf
  have hz0 : w (g.2.2 1) = none := emp_none hf hAB hw
  have htab : c.exceptionTable.toList = [⟨0, 10, 13, 13⟩] := vx_table (x := y_L_apart) B (hts _ k_485)
  have hl := lv_entry ([.ref th, .int u, .int v, .ref out]) (n := 5) (Nat.le_of_ble_eq_true rfl)
  rw [lg_entry_eq]
  generalize (lg_sl ([.ref th, .int u, .int v, .ref out]) ++ List.replicate (5 - (lg_sl ([.ref th, .int u, .int v, .ref out])).length) Slot.unset).toArray = ls at hl ⊢
  have hl : lv_has ls 5 [(0, .ref th), (1, .int u), (2, .int v), (3, .ref out)] := hl
  refine lv_aload_n hx hb d_L_apart_0 rfl (lv_at hl 3 rfl) ?_
  refine lv_iconst (v := 0) hx hb d_L_apart_1 (by decide) ?_
  refine lv_aload_n hx hb d_L_apart_2 rfl (lv_at hl 0 rfl) ?_
  refine lv_iload_n hx hb d_L_apart_3 rfl (lv_at hl 1 rfl) ?_
  refine lv_iload_n hx hb d_L_apart_4 rfl (lv_at hl 2 rfl) ?_
  refine wx_r (cVx (As := [.int u, .int v]) (rest := [.int 0, .ref out]) (C := "DangerTables") 2 ⟨hx, hb, hml, hown, hts⟩ (c_T_apart l hl0 g w th tx ru rd go bo zo rf arr xs bs u v ht hru hL hlen hbs hos) k_489 k_486 k_1 k_487 k_488 (by decide +kernel) ⟨Nat.le_of_ble_eq_true rfl, Nat.le_of_ble_eq_true rfl⟩ rfl rfl ⟨prR_blind _ _ _, hw.recv hK ht rfl, prR_at hG hAB hS hw⟩ rfl hl.1 rfl (Nat.le_of_ble_eq_true rfl) d_L_apart_5 ⟨Nat.le_of_ble_eq_true rfl, Nat.le_of_ble_eq_true rfl⟩) hw hS (fun E9 ce9 q9 H locs hPE hw hS hq9 hv9 hc9 => ?_) (fun r_1 H locs e_1 hw hS => ?_)
  · obtain ⟨rfl, hcnd⟩ := hPE
    refine vx_widen (k := 1) (n := 6) (Nat.le_of_ble_eq_true rfl) (Nat.le_of_ble_eq_true rfl) ?_
    refine vx_catch (own := "DangerTablesLaw") (name := "java/lang/IllegalArgumentException") hown [] ⟨0, 10, 13, 13⟩ [] htab (fun z h => nomatch h) (by decide) (by decide) (hts _ k_213) (va_Nw.use rfl (hf.2.1 _ x_220)) hq9 hv9 hc9 ?_
    refine lv_astore (lv' := [(4, .ref q9), (0, .ref th), (1, .int u), (2, .int v), (3, .ref out)]) hx hb d_L_apart_13 hl (by decide) rfl (fun ls hl => ?_)
    refine lv_iconst (v := 1) hx hb d_L_apart_15 (by decide) ?_
    exact W.iret (v := 1) hx hb hr (fun t9 ht9 hW9 => ⟨⟨1, w, rfl, Or.inr ⟨rfl, hcnd, rfl⟩, ww_t ht9 hw⟩, hS.F ht9⟩) hS.2.2 d_L_apart_16
  refine W.widen (k := 1) (n := 6) (Nat.le_of_ble_eq_true rfl) (Nat.le_of_ble_eq_true rfl) ?_
  refine lv_i2l hx hb d_L_apart_8 rfl ?_
  refine ww_last hx hb hK hw hS 2 hout rfl (vp_in_nI (n := 0) (by decide) (by decide)) d_L_apart_9 (fun H locs hw hS => ?_)
  rw [show (0 : Int32).toNatClampNeg = 0 from rfl] at hw
  refine lv_goto (tgt := 17) hx hb d_L_apart_10 (by decide) ?_
  refine lv_iconst (v := 0) hx hb d_L_apart_17 (by decide) ?_
  exact W.iret (v := 0) hx hb hr (fun t9 ht9 hW9 => ⟨⟨0, (va_up w out (some (cJ g (vp_updL jf 0 (Int32.toInt64 r_1))))), rfl, Or.inl ⟨rfl, r_1, e_1, rfl⟩, ww_t ht9 hw⟩, hS.F ht9⟩) hS.2.2 d_L_apart_18

set_option maxHeartbeats 4000000 in
set_option maxRecDepth 100000 in
theorem c_L_ship (l : Launch) (hl0 : l.stackTraces = false) (g : GT) (sz : Nat) (w : Nat → Option va_E) (th tx ru : Nat) (rd : Int32) (go bo zo : Nat) (rf : Nat → Int32) (arr : Nat) (xs : List Nat) (bs : List BX) (u v x : Int32) (out : Nat) (jf : Nat → Int64) (ht : w th = some (cT tx ru rd go bo zo)) (hru : w ru = some (cA g 45 rf)) (hrf : okR rf) (hL : isL g w bo arr xs) (hlen : xs.length = bs.length) (hbs : ∀ i a : Nat, xs[i]? = some a → ∃ b, bs[i]? = some b ∧ isBx g w a b) (hos : ∀ b ∈ bs, ∀ r ∈ b.1, okP r) (hout : w out = some (cJ g jf)) : Met l y_L_ship (.codeWith y_L_ship b_L_ship 6 ((some .int)) [(0, 19, 22, 13)] :: GW) ({ frames := 7, cells := 1, slots := 6, locals := 121 }) (prW g sz [.ref th, .int u, .int v, .int x, .ref out] w) (qI g sz w (fun r w1 => (r = 0 ∧ ∃ r1 : Int32, (((inL u bs.length && inL v bs.length && !decide (u = v)) && (!decide (x < 0) && !decide (100 < x))) = true ∧ (∃ (i j : Nat) (bi bj : BX), u = nI i ∧ v = nI j ∧ bs[i]? = some bi ∧ bs[j]? = some bj ∧ r1 = b2 (!decide (x < shipI (ruB rf bi.1 bj.1).toNatClampNeg)))) ∧ w1 = va_up w out (some (cJ g (vp_updL jf 0 r1.toInt64)))) ∨ (r = 1 ∧ ((inL u bs.length && inL v bs.length && !decide (u = v)) && (!decide (x < 0) && !decide (100 < x))) = false ∧ w1 = w))) 1 6 (gA w sz) := by
  refine va_MetW (cc := b_L_ship) (maxL := 6) (ret := (some .int)) (hh := [(0, 19, 22, 13)]) (by decide) rfl ?_
  intro p e s m args below meth c s₁ B hml hv
  obtain ⟨rfl, hsz, hG, hw0⟩ := hv
  have hx := B.exec
  have hb := B.bytes
  have hr := B.returns
  have hts : ∀ w ∈ GW, w.before _ s = true := fun w h => atoms_spec (ws := .codeWith y_L_ship b_L_ship 6 ((some .int)) [(0, 19, 22, 13)] :: GW) B.pre w (List.mem_cons_of_mem _ h)
  have hown : s.vm.findClass "DangerTablesLaw" = some m.cls := findClass_of_methodNamed B.named
  have hlocks := B.notSynchronized
  have hf := hG.here
  have hK := hf.1
  subst hsz
  have hw := hw0.self s.heap.size
  have hAB : ∀ q, gA w s.heap.size q → gB g q := fun q h => h.elim (fun z => z.elim (fun _ he => hw0.inA he)) (fun h => Nat.le_trans hG.1 h)
  have hA : ∀ q, s.heap.size ≤ q → gA w s.heap.size q := fun q h => Or.inr h
  have hS : va_S (gA w s.heap.size) s.heap s.heap [] := va_S.rf
  have hz0 : w (g.2.2 1) = none := emp_none hf hAB hw
  have htab : c.exceptionTable.toList = [⟨0, 19, 22, 13⟩] := vx_table (x := y_L_ship) B (hts _ k_517)
  have hl := lv_entry ([.ref th, .int u, .int v, .int x, .ref out]) (n := 6) (Nat.le_of_ble_eq_true rfl)
  rw [lg_entry_eq]
  generalize (lg_sl ([.ref th, .int u, .int v, .int x, .ref out]) ++ List.replicate (6 - (lg_sl ([.ref th, .int u, .int v, .int x, .ref out])).length) Slot.unset).toArray = ls at hl ⊢
  have hl : lv_has ls 6 [(0, .ref th), (1, .int u), (2, .int v), (3, .int x), (4, .ref out)] := hl
  refine lv_aload hx hb d_L_ship_0 (lv_at hl 4 rfl) ?_
  refine lv_iconst (v := 0) hx hb d_L_ship_2 (by decide) ?_
  refine lv_aload_n hx hb d_L_ship_3 rfl (lv_at hl 0 rfl) ?_
  refine lv_iload_n hx hb d_L_ship_4 rfl (lv_at hl 1 rfl) ?_
  refine lv_iload_n hx hb d_L_ship_5 rfl (lv_at hl 2 rfl) ?_
  refine lv_iload_n hx hb d_L_ship_6 rfl (lv_at hl 3 rfl) ?_
  refine wx_r (cVx (As := [.int u, .int v, .int x]) (rest := [.int 0, .ref out]) (C := "DangerTables") 3 ⟨hx, hb, hml, hown, hts⟩ (c_T_ship l hl0 g w th tx ru rd go bo zo rf arr xs bs u v x ht hru hrf hL hlen hbs hos) k_521 k_518 k_1 k_519 k_520 (by decide +kernel) ⟨Nat.le_of_ble_eq_true rfl, Nat.le_of_ble_eq_true rfl⟩ rfl rfl ⟨prR_blind _ _ _, hw.recv hK ht rfl, prR_at hG hAB hS hw⟩ rfl hl.1 rfl (Nat.le_of_ble_eq_true rfl) d_L_ship_7 ⟨Nat.le_of_ble_eq_true rfl, Nat.le_of_ble_eq_true rfl⟩) hw hS (fun E9 ce9 q9 H locs hPE hw hS hq9 hv9 hc9 => ?_) (fun r_1 H locs e_1 hw hS => ?_)
  · obtain ⟨rfl, hcnd⟩ := hPE
    refine vx_widen (k := 1) (n := 6) (Nat.le_of_ble_eq_true rfl) (Nat.le_of_ble_eq_true rfl) ?_
    refine vx_catch (own := "DangerTablesLaw") (name := "java/lang/IllegalArgumentException") hown [] ⟨0, 19, 22, 13⟩ [] htab (fun z h => nomatch h) (by decide) (by decide) (hts _ k_213) (va_Nw.use rfl (hf.2.1 _ x_220)) hq9 hv9 hc9 ?_
    refine lv_astore (lv' := [(5, .ref q9), (0, .ref th), (1, .int u), (2, .int v), (3, .int x), (4, .ref out)]) hx hb d_L_ship_22 hl (by decide) rfl (fun ls hl => ?_)
    refine lv_iconst (v := 1) hx hb d_L_ship_24 (by decide) ?_
    exact W.iret (v := 1) hx hb hr (fun t9 ht9 hW9 => ⟨⟨1, w, rfl, Or.inr ⟨rfl, hcnd, rfl⟩, ww_t ht9 hw⟩, hS.F ht9⟩) hS.2.2 d_L_ship_25
  refine W.widen (k := 1) (n := 6) (Nat.le_of_ble_eq_true rfl) (Nat.le_of_ble_eq_true rfl) ?_
  refine lv_if_eq (tgt := 17) hx hb d_L_ship_10 (by decide) (fun c_1 => ?_) (fun c_1 => ?_)
  · have hbt : ∃ bb, r_1 = b2 bb := by obtain ⟨-, i9, j9, b9, c9, -, -, -, -, h9⟩ := e_1; exact ⟨_, h9⟩
    obtain ⟨bb, hbb⟩ := hbt
    have hr9 : r_1 = 0 := by exact c_1
    refine lv_lconst (v := 0) hx hb d_L_ship_17 (by decide) ?_
    refine ww_last hx hb hK hw hS 2 hout rfl (vp_in_nI (n := 0) (by decide) (by decide)) d_L_ship_18 (fun H locs hw hS => ?_)
    rw [show (0 : Int32).toNatClampNeg = 0 from rfl] at hw
    refine lv_goto (tgt := 26) hx hb d_L_ship_19 (by decide) ?_
    refine lv_iconst (v := 0) hx hb d_L_ship_26 (by decide) ?_
    exact W.iret (v := 0) hx hb hr (fun t9 ht9 hW9 => ⟨⟨0, (va_up w out (some (cJ g (vp_updL jf 0 0)))), rfl, Or.inl ⟨rfl, r_1, e_1, by rw [hr9]; rfl⟩, ww_t ht9 hw⟩, hS.F ht9⟩) hS.2.2 d_L_ship_27
  · have hbt : ∃ bb, r_1 = b2 bb := by obtain ⟨-, i9, j9, b9, c9, -, -, -, -, h9⟩ := e_1; exact ⟨_, h9⟩
    obtain ⟨bb, hbb⟩ := hbt
    have hr9 : r_1 = 1 := by rw [hbb, b2_t hbb c_1]; rfl
    refine lv_lconst (v := 1) hx hb d_L_ship_13 (by decide) ?_
    refine lv_goto (tgt := 18) hx hb d_L_ship_14 (by decide) ?_
    refine ww_last hx hb hK hw hS 2 hout rfl (vp_in_nI (n := 0) (by decide) (by decide)) d_L_ship_18 (fun H locs hw hS => ?_)
    rw [show (0 : Int32).toNatClampNeg = 0 from rfl] at hw
    refine lv_goto (tgt := 26) hx hb d_L_ship_19 (by decide) ?_
    refine lv_iconst (v := 0) hx hb d_L_ship_26 (by decide) ?_
    exact W.iret (v := 0) hx hb hr (fun t9 ht9 hW9 => ⟨⟨0, (va_up w out (some (cJ g (vp_updL jf 0 1)))), rfl, Or.inl ⟨rfl, r_1, e_1, by rw [hr9]; rfl⟩, ww_t ht9 hw⟩, hS.F ht9⟩) hS.2.2 d_L_ship_27

set_option maxHeartbeats 4000000 in
set_option maxRecDepth 100000 in
theorem c_L_zone (l : Launch) (hl0 : l.stackTraces = false) (g : GT) (sz : Nat) (w : Nat → Option va_E) (th tx ru : Nat) (rd : Int32) (go bo zo : Nat) (arr : Nat) (xs : List Nat) (bs : List BX) (u v : Int32) (out : Nat) (jf : Nat → Int64) (ht : w th = some (cT tx ru rd go bo zo)) (hL : isL g w bo arr xs) (hlen : xs.length = bs.length) (hbs : ∀ i a : Nat, xs[i]? = some a → ∃ b, bs[i]? = some b ∧ isBx g w a b) (hout : w out = some (cJ g jf)) : Met l y_L_zone (.codeWith y_L_zone b_L_zone 5 ((some .int)) [(0, 10, 13, 13)] :: GW) ({ frames := 7, cells := 1, slots := 6, locals := 135 }) (prW g sz [.ref th, .int u, .int v, .ref out] w) (qI g sz w (fun r w1 => (r = 0 ∧ ∃ r1 : Int32, ((isZn u && isCls v) = true ∧ r1 = kzB bs u v) ∧ w1 = va_up w out (some (cJ g (vp_updL jf 0 r1.toInt64)))) ∨ (r = 1 ∧ (isZn u && isCls v) = false ∧ w1 = w))) 1 6 (gA w sz) := by
  refine va_MetW (cc := b_L_zone) (maxL := 5) (ret := (some .int)) (hh := [(0, 10, 13, 13)]) (by decide) rfl ?_
  intro p e s m args below meth c s₁ B hml hv
  obtain ⟨rfl, hsz, hG, hw0⟩ := hv
  have hx := B.exec
  have hb := B.bytes
  have hr := B.returns
  have hts : ∀ w ∈ GW, w.before _ s = true := fun w h => atoms_spec (ws := .codeWith y_L_zone b_L_zone 5 ((some .int)) [(0, 10, 13, 13)] :: GW) B.pre w (List.mem_cons_of_mem _ h)
  have hown : s.vm.findClass "DangerTablesLaw" = some m.cls := findClass_of_methodNamed B.named
  have hlocks := B.notSynchronized
  have hf := hG.here
  have hK := hf.1
  subst hsz
  have hw := hw0.self s.heap.size
  have hAB : ∀ q, gA w s.heap.size q → gB g q := fun q h => h.elim (fun z => z.elim (fun _ he => hw0.inA he)) (fun h => Nat.le_trans hG.1 h)
  have hA : ∀ q, s.heap.size ≤ q → gA w s.heap.size q := fun q h => Or.inr h
  have hS : va_S (gA w s.heap.size) s.heap s.heap [] := va_S.rf
  have hz0 : w (g.2.2 1) = none := emp_none hf hAB hw
  have htab : c.exceptionTable.toList = [⟨0, 10, 13, 13⟩] := vx_table (x := y_L_zone) B (hts _ k_528)
  have hl := lv_entry ([.ref th, .int u, .int v, .ref out]) (n := 5) (Nat.le_of_ble_eq_true rfl)
  rw [lg_entry_eq]
  generalize (lg_sl ([.ref th, .int u, .int v, .ref out]) ++ List.replicate (5 - (lg_sl ([.ref th, .int u, .int v, .ref out])).length) Slot.unset).toArray = ls at hl ⊢
  have hl : lv_has ls 5 [(0, .ref th), (1, .int u), (2, .int v), (3, .ref out)] := hl
  refine lv_aload_n hx hb d_L_zone_0 rfl (lv_at hl 3 rfl) ?_
  refine lv_iconst (v := 0) hx hb d_L_zone_1 (by decide) ?_
  refine lv_aload_n hx hb d_L_zone_2 rfl (lv_at hl 0 rfl) ?_
  refine lv_iload_n hx hb d_L_zone_3 rfl (lv_at hl 1 rfl) ?_
  refine lv_iload_n hx hb d_L_zone_4 rfl (lv_at hl 2 rfl) ?_
  refine wx_r (cVx (As := [.int u, .int v]) (rest := [.int 0, .ref out]) (C := "DangerTables") 2 ⟨hx, hb, hml, hown, hts⟩ (c_T_zone l hl0 g w th tx ru rd go bo zo arr xs bs u v ht hL hlen hbs) k_532 k_529 k_1 k_530 k_531 (by decide +kernel) ⟨Nat.le_of_ble_eq_true rfl, Nat.le_of_ble_eq_true rfl⟩ rfl rfl ⟨prR_blind _ _ _, hw.recv hK ht rfl, prR_at hG hAB hS hw⟩ rfl hl.1 rfl (Nat.le_of_ble_eq_true rfl) d_L_zone_5 ⟨Nat.le_of_ble_eq_true rfl, Nat.le_of_ble_eq_true rfl⟩) hw hS (fun E9 ce9 q9 H locs hPE hw hS hq9 hv9 hc9 => ?_) (fun r_1 H locs e_1 hw hS => ?_)
  · obtain ⟨rfl, hcnd⟩ := hPE
    refine vx_widen (k := 1) (n := 6) (Nat.le_of_ble_eq_true rfl) (Nat.le_of_ble_eq_true rfl) ?_
    refine vx_catch (own := "DangerTablesLaw") (name := "java/lang/IllegalArgumentException") hown [] ⟨0, 10, 13, 13⟩ [] htab (fun z h => nomatch h) (by decide) (by decide) (hts _ k_213) (va_Nw.use rfl (hf.2.1 _ x_220)) hq9 hv9 hc9 ?_
    refine lv_astore (lv' := [(4, .ref q9), (0, .ref th), (1, .int u), (2, .int v), (3, .ref out)]) hx hb d_L_zone_13 hl (by decide) rfl (fun ls hl => ?_)
    refine lv_iconst (v := 1) hx hb d_L_zone_15 (by decide) ?_
    exact W.iret (v := 1) hx hb hr (fun t9 ht9 hW9 => ⟨⟨1, w, rfl, Or.inr ⟨rfl, hcnd, rfl⟩, ww_t ht9 hw⟩, hS.F ht9⟩) hS.2.2 d_L_zone_16
  refine W.widen (k := 1) (n := 6) (Nat.le_of_ble_eq_true rfl) (Nat.le_of_ble_eq_true rfl) ?_
  refine lv_i2l hx hb d_L_zone_8 rfl ?_
  refine ww_last hx hb hK hw hS 2 hout rfl (vp_in_nI (n := 0) (by decide) (by decide)) d_L_zone_9 (fun H locs hw hS => ?_)
  rw [show (0 : Int32).toNatClampNeg = 0 from rfl] at hw
  refine lv_goto (tgt := 17) hx hb d_L_zone_10 (by decide) ?_
  refine lv_iconst (v := 0) hx hb d_L_zone_17 (by decide) ?_
  exact W.iret (v := 0) hx hb hr (fun t9 ht9 hW9 => ⟨⟨0, (va_up w out (some (cJ g (vp_updL jf 0 (Int32.toInt64 r_1))))), rfl, Or.inl ⟨rfl, r_1, e_1, rfl⟩, ww_t ht9 hw⟩, hS.F ht9⟩) hS.2.2 d_L_zone_18

set_option maxHeartbeats 4000000 in
set_option maxRecDepth 100000 in
theorem c_L_missing (l : Launch) (hl0 : l.stackTraces = false) (g : GT) (sz : Nat) (w : Nat → Option va_E) (th tx ru : Nat) (rd : Int32) (go bo zo : Nat) (arr : Nat) (xs : List Nat) (bs : List BX) (u : Int32) (out : Nat) (jf : Nat → Int64) (ht : w th = some (cT tx ru rd go bo zo)) (hL : isL g w bo arr xs) (hlen : xs.length = bs.length) (hbs : ∀ i a : Nat, xs[i]? = some a → ∃ b, bs[i]? = some b ∧ isBx g w a b) (hout : w out = some (cJ g jf)) : Met l y_L_missing (.codeWith y_L_missing b_L_missing 4 ((some .int)) [(0, 9, 12, 13)] :: GW) ({ frames := 7, cells := 1, slots := 6, locals := 107 }) (prW g sz [.ref th, .int u, .ref out] w) (qI g sz w (fun r w1 => (r = 0 ∧ ∃ r1 : Int32, (inL u bs.length = true ∧ ∃ (i : Nat) (bi : BX), u = nI i ∧ bs[i]? = some bi ∧ r1 = wtB bi.1 &&& (bi.2.2.2.2 ^^^ -1)) ∧ w1 = va_up w out (some (cJ g (vp_updL jf 0 r1.toInt64)))) ∨ (r = 1 ∧ inL u bs.length = false ∧ w1 = w))) 1 6 (gA w sz) := by
  refine va_MetW (cc := b_L_missing) (maxL := 4) (ret := (some .int)) (hh := [(0, 9, 12, 13)]) (by decide) rfl ?_
  intro p e s m args below meth c s₁ B hml hv
  obtain ⟨rfl, hsz, hG, hw0⟩ := hv
  have hx := B.exec
  have hb := B.bytes
  have hr := B.returns
  have hts : ∀ w ∈ GW, w.before _ s = true := fun w h => atoms_spec (ws := .codeWith y_L_missing b_L_missing 4 ((some .int)) [(0, 9, 12, 13)] :: GW) B.pre w (List.mem_cons_of_mem _ h)
  have hown : s.vm.findClass "DangerTablesLaw" = some m.cls := findClass_of_methodNamed B.named
  have hlocks := B.notSynchronized
  have hf := hG.here
  have hK := hf.1
  subst hsz
  have hw := hw0.self s.heap.size
  have hAB : ∀ q, gA w s.heap.size q → gB g q := fun q h => h.elim (fun z => z.elim (fun _ he => hw0.inA he)) (fun h => Nat.le_trans hG.1 h)
  have hA : ∀ q, s.heap.size ≤ q → gA w s.heap.size q := fun q h => Or.inr h
  have hS : va_S (gA w s.heap.size) s.heap s.heap [] := va_S.rf
  have hz0 : w (g.2.2 1) = none := emp_none hf hAB hw
  have htab : c.exceptionTable.toList = [⟨0, 9, 12, 13⟩] := vx_table (x := y_L_missing) B (hts _ k_610)
  have hl := lv_entry ([.ref th, .int u, .ref out]) (n := 4) (Nat.le_of_ble_eq_true rfl)
  rw [lg_entry_eq]
  generalize (lg_sl ([.ref th, .int u, .ref out]) ++ List.replicate (4 - (lg_sl ([.ref th, .int u, .ref out])).length) Slot.unset).toArray = ls at hl ⊢
  have hl : lv_has ls 4 [(0, .ref th), (1, .int u), (2, .ref out)] := hl
  refine lv_aload_n hx hb d_L_missing_0 rfl (lv_at hl 2 rfl) ?_
  refine lv_iconst (v := 0) hx hb d_L_missing_1 (by decide) ?_
  refine lv_aload_n hx hb d_L_missing_2 rfl (lv_at hl 0 rfl) ?_
  refine lv_iload_n hx hb d_L_missing_3 rfl (lv_at hl 1 rfl) ?_
  refine wx_r (cVx (As := [.int u]) (rest := [.int 0, .ref out]) (C := "DangerTables") 1 ⟨hx, hb, hml, hown, hts⟩ (c_T_missing l hl0 g w th tx ru rd go bo zo arr xs bs u ht hL hlen hbs) k_614 k_611 k_1 k_612 k_613 (by decide +kernel) ⟨Nat.le_of_ble_eq_true rfl, Nat.le_of_ble_eq_true rfl⟩ rfl rfl ⟨prR_blind _ _ _, hw.recv hK ht rfl, prR_at hG hAB hS hw⟩ rfl hl.1 rfl (Nat.le_of_ble_eq_true rfl) d_L_missing_4 ⟨Nat.le_of_ble_eq_true rfl, Nat.le_of_ble_eq_true rfl⟩) hw hS (fun E9 ce9 q9 H locs hPE hw hS hq9 hv9 hc9 => ?_) (fun r_1 H locs e_1 hw hS => ?_)
  · obtain ⟨rfl, hcnd⟩ := hPE
    refine vx_widen (k := 1) (n := 6) (Nat.le_of_ble_eq_true rfl) (Nat.le_of_ble_eq_true rfl) ?_
    refine vx_catch (own := "DangerTablesLaw") (name := "java/lang/IllegalArgumentException") hown [] ⟨0, 9, 12, 13⟩ [] htab (fun z h => nomatch h) (by decide) (by decide) (hts _ k_213) (va_Nw.use rfl (hf.2.1 _ x_220)) hq9 hv9 hc9 ?_
    refine lv_astore_n (lv' := [(3, .ref q9), (0, .ref th), (1, .int u), (2, .ref out)]) hx hb d_L_missing_12 rfl hl (by decide) rfl (fun ls hl => ?_)
    refine lv_iconst (v := 1) hx hb d_L_missing_13 (by decide) ?_
    exact W.iret (v := 1) hx hb hr (fun t9 ht9 hW9 => ⟨⟨1, w, rfl, Or.inr ⟨rfl, hcnd, rfl⟩, ww_t ht9 hw⟩, hS.F ht9⟩) hS.2.2 d_L_missing_14
  refine W.widen (k := 1) (n := 6) (Nat.le_of_ble_eq_true rfl) (Nat.le_of_ble_eq_true rfl) ?_
  refine lv_i2l hx hb d_L_missing_7 rfl ?_
  refine ww_last hx hb hK hw hS 2 hout rfl (vp_in_nI (n := 0) (by decide) (by decide)) d_L_missing_8 (fun H locs hw hS => ?_)
  rw [show (0 : Int32).toNatClampNeg = 0 from rfl] at hw
  refine lv_goto (tgt := 15) hx hb d_L_missing_9 (by decide) ?_
  refine lv_iconst (v := 0) hx hb d_L_missing_15 (by decide) ?_
  exact W.iret (v := 0) hx hb hr (fun t9 ht9 hW9 => ⟨⟨0, (va_up w out (some (cJ g (vp_updL jf 0 (Int32.toInt64 r_1))))), rfl, Or.inl ⟨rfl, r_1, e_1, rfl⟩, ww_t ht9 hw⟩, hS.F ht9⟩) hS.2.2 d_L_missing_16

set_option maxHeartbeats 4000000 in
set_option maxRecDepth 100000 in
theorem c_L_look (l : Launch) (hl0 : l.stackTraces = false) (g : GT) (sz : Nat) (w : Nat → Option va_E) (th tx ru : Nat) (rd : Int32) (go bo zo : Nat) (arr : Nat) (xs : List Nat) (bs : List BX) (u x : Int32) (out : Nat) (jf : Nat → Int64) (ht : w th = some (cT tx ru rd go bo zo)) (hL : isL g w bo arr xs) (hlen : xs.length = bs.length) (hbs : ∀ i a : Nat, xs[i]? = some a → ∃ b, bs[i]? = some b ∧ isBx g w a b) (hout : w out = some (cJ g jf)) : Met l y_L_look (.codeWith y_L_look b_L_look 5 ((some .int)) [(0, 10, 13, 52)] :: GW) ({ frames := 7, cells := 1, slots := 6, locals := 109 }) (prW g sz [.ref th, .int u, .int x, .ref out] w) (qI g sz w (fun r w1 => (r = 0 ∧ ∃ r1 : Int32, ((inL u bs.length && (!decide (x < 0) && !decide (7 ≤ x))) = true ∧ ∃ (i : Nat) (bi : BX) (k : Nat), u = nI i ∧ bs[i]? = some bi ∧ x = nI k ∧ k < 7 ∧ r1 = lkI bi k) ∧ w1 = va_up w out (some (cJ g (vp_updL jf 0 r1.toInt64)))) ∨ (r = 1 ∧ (inL u bs.length && (!decide (x < 0) && !decide (7 ≤ x))) = false ∧ w1 = w))) 1 6 (gA w sz) := by
  refine va_MetW (cc := b_L_look) (maxL := 5) (ret := (some .int)) (hh := [(0, 10, 13, 52)]) (by decide) rfl ?_
  intro p e s m args below meth c s₁ B hml hv
  obtain ⟨rfl, hsz, hG, hw0⟩ := hv
  have hx := B.exec
  have hb := B.bytes
  have hr := B.returns
  have hts : ∀ w ∈ GW, w.before _ s = true := fun w h => atoms_spec (ws := .codeWith y_L_look b_L_look 5 ((some .int)) [(0, 10, 13, 52)] :: GW) B.pre w (List.mem_cons_of_mem _ h)
  have hown : s.vm.findClass "DangerTablesLaw" = some m.cls := findClass_of_methodNamed B.named
  have hlocks := B.notSynchronized
  have hf := hG.here
  have hK := hf.1
  subst hsz
  have hw := hw0.self s.heap.size
  have hAB : ∀ q, gA w s.heap.size q → gB g q := fun q h => h.elim (fun z => z.elim (fun _ he => hw0.inA he)) (fun h => Nat.le_trans hG.1 h)
  have hA : ∀ q, s.heap.size ≤ q → gA w s.heap.size q := fun q h => Or.inr h
  have hS : va_S (gA w s.heap.size) s.heap s.heap [] := va_S.rf
  have hz0 : w (g.2.2 1) = none := emp_none hf hAB hw
  have htab : c.exceptionTable.toList = [⟨0, 10, 13, 52⟩] := vx_table (x := y_L_look) B (hts _ k_617)
  have hl := lv_entry ([.ref th, .int u, .int x, .ref out]) (n := 5) (Nat.le_of_ble_eq_true rfl)
  rw [lg_entry_eq]
  generalize (lg_sl ([.ref th, .int u, .int x, .ref out]) ++ List.replicate (5 - (lg_sl ([.ref th, .int u, .int x, .ref out])).length) Slot.unset).toArray = ls at hl ⊢
  have hl : lv_has ls 5 [(0, .ref th), (1, .int u), (2, .int x), (3, .ref out)] := hl
  refine lv_aload_n hx hb d_L_look_0 rfl (lv_at hl 3 rfl) ?_
  refine lv_iconst (v := 0) hx hb d_L_look_1 (by decide) ?_
  refine lv_aload_n hx hb d_L_look_2 rfl (lv_at hl 0 rfl) ?_
  refine lv_iload_n hx hb d_L_look_3 rfl (lv_at hl 1 rfl) ?_
  refine lv_iload_n hx hb d_L_look_4 rfl (lv_at hl 2 rfl) ?_
  refine wx_r (cVx (As := [.int u, .int x]) (rest := [.int 0, .ref out]) (C := "DangerTables") 2 ⟨hx, hb, hml, hown, hts⟩ (c_T_look l hl0 g w th tx ru rd go bo zo arr xs bs u x ht hL hlen hbs) k_622 k_619 k_1 k_620 k_621 (by decide +kernel) ⟨Nat.le_of_ble_eq_true rfl, Nat.le_of_ble_eq_true rfl⟩ rfl rfl ⟨prR_blind _ _ _, hw.recv hK ht rfl, prR_at hG hAB hS hw⟩ rfl hl.1 rfl (Nat.le_of_ble_eq_true rfl) d_L_look_5 ⟨Nat.le_of_ble_eq_true rfl, Nat.le_of_ble_eq_true rfl⟩) hw hS (fun E9 ce9 q9 H locs hPE hw hS hq9 hv9 hc9 => ?_) (fun r_1 H locs e_1 hw hS => ?_)
  · obtain ⟨rfl, hcnd⟩ := hPE
    refine vx_widen (k := 1) (n := 6) (Nat.le_of_ble_eq_true rfl) (Nat.le_of_ble_eq_true rfl) ?_
    refine vx_catch (own := "DangerTablesLaw") (name := "java/lang/IndexOutOfBoundsException") hown [] ⟨0, 10, 13, 52⟩ [] htab (fun z h => nomatch h) (by decide) (by decide) (hts _ k_618) (va_Nw.use rfl (hf.2.1 _ x_625)) hq9 hv9 hc9 ?_
    refine lv_astore (lv' := [(4, .ref q9), (0, .ref th), (1, .int u), (2, .int x), (3, .ref out)]) hx hb d_L_look_13 hl (by decide) rfl (fun ls hl => ?_)
    refine lv_iconst (v := 1) hx hb d_L_look_15 (by decide) ?_
    exact W.iret (v := 1) hx hb hr (fun t9 ht9 hW9 => ⟨⟨1, w, rfl, Or.inr ⟨rfl, hcnd, rfl⟩, ww_t ht9 hw⟩, hS.F ht9⟩) hS.2.2 d_L_look_16
  refine W.widen (k := 1) (n := 6) (Nat.le_of_ble_eq_true rfl) (Nat.le_of_ble_eq_true rfl) ?_
  refine lv_i2l hx hb d_L_look_8 rfl ?_
  refine ww_last hx hb hK hw hS 2 hout rfl (vp_in_nI (n := 0) (by decide) (by decide)) d_L_look_9 (fun H locs hw hS => ?_)
  rw [show (0 : Int32).toNatClampNeg = 0 from rfl] at hw
  refine lv_goto (tgt := 17) hx hb d_L_look_10 (by decide) ?_
  refine lv_iconst (v := 0) hx hb d_L_look_17 (by decide) ?_
  exact W.iret (v := 0) hx hb hr (fun t9 ht9 hW9 => ⟨⟨0, (va_up w out (some (cJ g (vp_updL jf 0 (Int32.toInt64 r_1))))), rfl, Or.inl ⟨rfl, r_1, e_1, rfl⟩, ww_t ht9 hw⟩, hS.F ht9⟩) hS.2.2 d_L_look_18

set_option maxHeartbeats 4000000 in
set_option maxRecDepth 100000 in
theorem c_L_take (l : Launch) (hl0 : l.stackTraces = false) (g : GT) (sz : Nat) (w : Nat → Option va_E) (th tx ru : Nat) (rd : Int32) (go bo zo : Nat) (arr : Nat) (xs : List Nat) (bs : List BX) (u : Int32) (out : Nat) (jf : Nat → Int64) (ht : w th = some (cT tx ru rd go bo zo)) (hL : isL g w bo arr xs) (hlen : xs.length = bs.length) (hbs : ∀ i a : Nat, xs[i]? = some a → ∃ b, bs[i]? = some b ∧ isBx g w a b) (hout : w out = some (cJ g jf)) : Met l y_L_take (.codeWith y_L_take b_L_take 4 ((some .int)) [(0, 9, 12, 13)] :: GW) ({ frames := 7, cells := 1, slots := 6, locals := 105 }) (prW g sz [.ref th, .int u, .ref out] w) (qI g sz w (fun r w1 => (r = 0 ∧ ∃ (r1 : Int32) (w2 : Nat → Option va_E), (inL u xs.length = true ∧ ∃ (i qb pl : Nat) (bi : BX), u = nI i ∧ xs[i]? = some qb ∧ bs[i]? = some bi ∧ w qb = some (cX pl bi.2.1 bi.2.2.1 bi.2.2.2.1 bi.2.2.2.2) ∧ r1 = bi.2.1 ∧ w2 = va_up w qb (some (cX pl (-1) (-1) (-1) bi.2.2.2.2))) ∧ w2 (g.2.2 1) = none ∧ w1 = va_up w2 out (some (cJ g (vp_updL jf 0 r1.toInt64)))) ∨ (r = 1 ∧ inL u xs.length = false ∧ w1 = w))) 1 6 (gA w sz) := by
  refine va_MetW (cc := b_L_take) (maxL := 4) (ret := (some .int)) (hh := [(0, 9, 12, 13)]) (by decide) rfl ?_
  intro p e s m args below meth c s₁ B hml hv
  obtain ⟨rfl, hsz, hG, hw0⟩ := hv
  have hx := B.exec
  have hb := B.bytes
  have hr := B.returns
  have hts : ∀ w ∈ GW, w.before _ s = true := fun w h => atoms_spec (ws := .codeWith y_L_take b_L_take 4 ((some .int)) [(0, 9, 12, 13)] :: GW) B.pre w (List.mem_cons_of_mem _ h)
  have hown : s.vm.findClass "DangerTablesLaw" = some m.cls := findClass_of_methodNamed B.named
  have hlocks := B.notSynchronized
  have hf := hG.here
  have hK := hf.1
  subst hsz
  have hw := hw0.self s.heap.size
  have hAB : ∀ q, gA w s.heap.size q → gB g q := fun q h => h.elim (fun z => z.elim (fun _ he => hw0.inA he)) (fun h => Nat.le_trans hG.1 h)
  have hA : ∀ q, s.heap.size ≤ q → gA w s.heap.size q := fun q h => Or.inr h
  have hS : va_S (gA w s.heap.size) s.heap s.heap [] := va_S.rf
  have hz0 : w (g.2.2 1) = none := emp_none hf hAB hw
  have htab : c.exceptionTable.toList = [⟨0, 9, 12, 13⟩] := vx_table (x := y_L_take) B (hts _ k_602)
  have hl := lv_entry ([.ref th, .int u, .ref out]) (n := 4) (Nat.le_of_ble_eq_true rfl)
  rw [lg_entry_eq]
  generalize (lg_sl ([.ref th, .int u, .ref out]) ++ List.replicate (4 - (lg_sl ([.ref th, .int u, .ref out])).length) Slot.unset).toArray = ls at hl ⊢
  have hl : lv_has ls 4 [(0, .ref th), (1, .int u), (2, .ref out)] := hl
  refine lv_aload_n hx hb d_L_take_0 rfl (lv_at hl 2 rfl) ?_
  refine lv_iconst (v := 0) hx hb d_L_take_1 (by decide) ?_
  refine lv_aload_n hx hb d_L_take_2 rfl (lv_at hl 0 rfl) ?_
  refine lv_iload_n hx hb d_L_take_3 rfl (lv_at hl 1 rfl) ?_
  refine wx_i (cVx (As := [.int u]) (rest := [.int 0, .ref out]) (C := "DangerTables") 1 ⟨hx, hb, hml, hown, hts⟩ (c_T_take l hl0 g s.heap.size w th tx ru rd go bo zo arr xs bs u ht hL hlen hbs) k_606 k_603 k_1 k_604 k_605 (by decide +kernel) ⟨Nat.le_of_ble_eq_true rfl, Nat.le_of_ble_eq_true rfl⟩ rfl rfl ⟨prW_blind _ _ _ _, hw.recv hK ht rfl, prW_at hG hAB hS hw⟩ rfl hl.1 rfl (Nat.le_of_ble_eq_true rfl) d_L_take_4 ⟨Nat.le_of_ble_eq_true rfl, Nat.le_of_ble_eq_true rfl⟩) hw hS hA (fun E9 ce9 q9 H locs hPE hw hS hq9 hv9 hc9 => ?_) (fun r_1 w_1 H locs e_1 hw hS => ?_)
  · obtain ⟨rfl, hcnd⟩ := hPE
    refine vx_widen (k := 1) (n := 6) (Nat.le_of_ble_eq_true rfl) (Nat.le_of_ble_eq_true rfl) ?_
    refine vx_catch (own := "DangerTablesLaw") (name := "java/lang/IllegalArgumentException") hown [] ⟨0, 9, 12, 13⟩ [] htab (fun z h => nomatch h) (by decide) (by decide) (hts _ k_213) (va_Nw.use rfl (hf.2.1 _ x_220)) hq9 hv9 hc9 ?_
    refine lv_astore_n (lv' := [(3, .ref q9), (0, .ref th), (1, .int u), (2, .ref out)]) hx hb d_L_take_12 rfl hl (by decide) rfl (fun ls hl => ?_)
    refine lv_iconst (v := 1) hx hb d_L_take_13 (by decide) ?_
    exact W.iret (v := 1) hx hb hr (fun t9 ht9 hW9 => ⟨⟨1, w, rfl, Or.inr ⟨rfl, hcnd, rfl⟩, ww_t ht9 hw⟩, hS.F ht9⟩) hS.2.2 d_L_take_14
  refine W.widen (k := 1) (n := 6) (Nat.le_of_ble_eq_true rfl) (Nat.le_of_ble_eq_true rfl) ?_
  have hz2 : w_1 (g.2.2 1) = none := emp_none hf hAB hw
  have hout2 : w_1 out = some (cJ g jf) := by obtain ⟨-, i9, qb9, pl9, bi9, -, -, -, hx9, -, hw9⟩ := e_1; rw [hw9]; exact up_v hx9 hout (fun z => by first | cases z | simp at z)
  refine lv_i2l hx hb d_L_take_7 rfl ?_
  refine ww_last hx hb hK hw hS 2 hout2 rfl (vp_in_nI (n := 0) (by decide) (by decide)) d_L_take_8 (fun H locs hw hS => ?_)
  rw [show (0 : Int32).toNatClampNeg = 0 from rfl] at hw
  refine lv_goto (tgt := 15) hx hb d_L_take_9 (by decide) ?_
  refine lv_iconst (v := 0) hx hb d_L_take_15 (by decide) ?_
  exact W.iret (v := 0) hx hb hr (fun t9 ht9 hW9 => ⟨⟨0, (va_up w_1 out (some (cJ g (vp_updL jf 0 (Int32.toInt64 r_1))))), rfl, Or.inl ⟨rfl, r_1, w_1, e_1, hz2, rfl⟩, ww_t ht9 hw⟩, hS.F ht9⟩) hS.2.2 d_L_take_16

set_option maxHeartbeats 4000000 in
set_option maxRecDepth 100000 in
theorem c_L_put (l : Launch) (hl0 : l.stackTraces = false) (g : GT) (sz : Nat) (w : Nat → Option va_E) (th tx ru : Nat) (rd : Int32) (go bo zo : Nat) (rf : Nat → Int32) (arr : Nat) (xs : List Nat) (bs : List BX) (fz : Nat → Option Nat) (mz : Nat → Nat → Int32) (u v x y : Int32) (out : Nat) (jf : Nat → Int64) (ht : w th = some (cT tx ru rd go bo zo)) (hru : w ru = some (cA g 45 rf)) (hL : isL g w bo arr xs) (hlen : xs.length = bs.length) (hbs : ∀ i a : Nat, xs[i]? = some a → ∃ b, bs[i]? = some b ∧ isBx g w a b) (hz : w zo = some (cZ g fz)) (hzr : ∀ k : Nat, k < 4 → ∃ q : Nat, fz k = some q ∧ w q = some (cA g 10 (mz k))) (hrf : okR rf) (hos : ∀ b ∈ bs, ∀ r ∈ b.1, okP r) (hout : w out = some (cJ g jf)) : Met l y_L_put (.codeWith y_L_put b_L_put 7 ((some .int)) [(0, 14, 17, 13), (0, 14, 21, 19)] :: GW) ({ frames := 8, cells := 1, slots := 6, locals := 189 }) (prW g sz [.ref th, .int u, .int v, .int x, .int y, .ref out] w) (qI g sz w (fun r w1 => (r = 0 ∧ ∃ (r1 : Int32) (w2 : Nat → Option va_E), ((isZn u && inL v xs.length && isSl x y) = true ∧ ∃ (zi i qb pl : Nat) (bi : BX), u = nI zi ∧ zi < 4 ∧ v = nI i ∧ xs[i]? = some qb ∧ bs[i]? = some bi ∧ w qb = some (cX pl bi.2.1 bi.2.2.1 bi.2.2.2.1 bi.2.2.2.2) ∧ bi.2.1 = -1 ∧ r1 = fbB rf (mz zi) bs bi u x y ∧ ((r1 = 0 ∧ w2 = va_up w qb (some (cX pl u x y bi.2.2.2.2))) ∨ (¬ r1 = 0 ∧ w2 = w))) ∧ w2 (g.2.2 1) = none ∧ w1 = va_up w2 out (some (cJ g (vp_updL jf 0 r1.toInt64)))) ∨ ((r = 1 ∧ (isZn u && inL v xs.length && isSl x y) = false ∧ w1 = w) ∨ (r = 2 ∧ (isZn u && inL v xs.length && isSl x y) = true ∧ (∃ (i : Nat) (bi : BX), v = nI i ∧ bs[i]? = some bi ∧ ¬ bi.2.1 = -1) ∧ w1 = w)))) 1 6 (gA w sz) := by
  refine va_MetW (cc := b_L_put) (maxL := 7) (ret := (some .int)) (hh := [(0, 14, 17, 13), (0, 14, 21, 19)]) (by decide) rfl ?_
  intro p e s m args below meth c s₁ B hml hv
  obtain ⟨rfl, hsz, hG, hw0⟩ := hv
  have hx := B.exec
  have hb := B.bytes
  have hr := B.returns
  have hts : ∀ w ∈ GW, w.before _ s = true := fun w h => atoms_spec (ws := .codeWith y_L_put b_L_put 7 ((some .int)) [(0, 14, 17, 13), (0, 14, 21, 19)] :: GW) B.pre w (List.mem_cons_of_mem _ h)
  have hown : s.vm.findClass "DangerTablesLaw" = some m.cls := findClass_of_methodNamed B.named
  have hlocks := B.notSynchronized
  have hf := hG.here
  have hK := hf.1
  subst hsz
  have hw := hw0.self s.heap.size
  have hAB : ∀ q, gA w s.heap.size q → gB g q := fun q h => h.elim (fun z => z.elim (fun _ he => hw0.inA he)) (fun h => Nat.le_trans hG.1 h)
  have hA : ∀ q, s.heap.size ≤ q → gA w s.heap.size q := fun q h => Or.inr h
  have hS : va_S (gA w s.heap.size) s.heap s.heap [] := va_S.rf
  have hz0 : w (g.2.2 1) = none := emp_none hf hAB hw
  have htab : c.exceptionTable.toList = [⟨0, 14, 17, 13⟩, ⟨0, 14, 21, 19⟩] := vx_table (x := y_L_put) B (hts _ k_548)
  have hl := lv_entry ([.ref th, .int u, .int v, .int x, .int y, .ref out]) (n := 7) (Nat.le_of_ble_eq_true rfl)
  rw [lg_entry_eq]
  generalize (lg_sl ([.ref th, .int u, .int v, .int x, .int y, .ref out]) ++ List.replicate (7 - (lg_sl ([.ref th, .int u, .int v, .int x, .int y, .ref out])).length) Slot.unset).toArray = ls at hl ⊢
  have hl : lv_has ls 7 [(0, .ref th), (1, .int u), (2, .int v), (3, .int x), (4, .int y), (5, .ref out)] := hl
  refine lv_aload hx hb d_L_put_0 (lv_at hl 5 rfl) ?_
  refine lv_iconst (v := 0) hx hb d_L_put_2 (by decide) ?_
  refine lv_aload_n hx hb d_L_put_3 rfl (lv_at hl 0 rfl) ?_
  refine lv_iload_n hx hb d_L_put_4 rfl (lv_at hl 1 rfl) ?_
  refine lv_iload_n hx hb d_L_put_5 rfl (lv_at hl 2 rfl) ?_
  refine lv_iload_n hx hb d_L_put_6 rfl (lv_at hl 3 rfl) ?_
  refine lv_iload hx hb d_L_put_7 (lv_at hl 4 rfl) ?_
  refine wx_i (cVx (As := [.int u, .int v, .int x, .int y]) (rest := [.int 0, .ref out]) (C := "DangerTables") 4 ⟨hx, hb, hml, hown, hts⟩ (c_T_put l hl0 g s.heap.size w th tx ru rd go bo zo rf arr xs bs fz mz u v x y ht hru hL hlen hbs hz hzr hrf hos) k_552 k_549 k_1 k_550 k_551 (by decide +kernel) ⟨Nat.le_of_ble_eq_true rfl, Nat.le_of_ble_eq_true rfl⟩ rfl rfl ⟨prW_blind _ _ _ _, hw.recv hK ht rfl, prW_at hG hAB hS hw⟩ rfl hl.1 rfl (Nat.le_of_ble_eq_true rfl) d_L_put_9 ⟨Nat.le_of_ble_eq_true rfl, Nat.le_of_ble_eq_true rfl⟩) hw hS hA (fun E9 ce9 q9 H locs hPE hw hS hq9 hv9 hc9 => ?_) (fun r_1 w_1 H locs e_1 hw hS => ?_)
  · rcases hPE with ⟨rfl, hcnd⟩ | ⟨rfl, hcnd, hwhy⟩
    · refine vx_widen (k := 1) (n := 6) (Nat.le_of_ble_eq_true rfl) (Nat.le_of_ble_eq_true rfl) ?_
      refine vx_catch (own := "DangerTablesLaw") (name := "java/lang/IllegalArgumentException") hown [] ⟨0, 14, 17, 13⟩ [⟨0, 14, 21, 19⟩] htab (fun z h => nomatch h) (by decide) (by decide) (hts _ k_213) (va_Nw.use rfl (hf.2.1 _ x_220)) hq9 hv9 hc9 ?_
      refine lv_astore (lv' := [(6, .ref q9), (0, .ref th), (1, .int u), (2, .int v), (3, .int x), (4, .int y), (5, .ref out)]) hx hb d_L_put_17 hl (by decide) rfl (fun ls hl => ?_)
      refine lv_iconst (v := 1) hx hb d_L_put_19 (by decide) ?_
      exact W.iret (v := 1) hx hb hr (fun t9 ht9 hW9 => ⟨⟨1, w, rfl, Or.inr (Or.inl ⟨rfl, hcnd, rfl⟩), ww_t ht9 hw⟩, hS.F ht9⟩) hS.2.2 d_L_put_20
    · refine vx_widen (k := 1) (n := 6) (Nat.le_of_ble_eq_true rfl) (Nat.le_of_ble_eq_true rfl) ?_
      refine vx_catch (own := "DangerTablesLaw") (name := "java/lang/IllegalStateException") hown [⟨0, 14, 17, 13⟩] ⟨0, 14, 21, 19⟩ [] htab (fun z h => by rw [List.mem_singleton] at h; subst h; exact Or.inr ⟨by decide, "java/lang/IllegalArgumentException", hts _ k_213, hf.2.2.2.2.2.1 _ List.mem_cons_self⟩) (by decide) (by decide) (hts _ k_289) (va_Nw.use rfl (hf.2.1 _ x_301)) hq9 hv9 hc9 ?_
      refine lv_astore (lv' := [(6, .ref q9), (0, .ref th), (1, .int u), (2, .int v), (3, .int x), (4, .int y), (5, .ref out)]) hx hb d_L_put_21 hl (by decide) rfl (fun ls hl => ?_)
      refine lv_iconst (v := 2) hx hb d_L_put_23 (by decide) ?_
      exact W.iret (v := 2) hx hb hr (fun t9 ht9 hW9 => ⟨⟨2, w, rfl, Or.inr (Or.inr ⟨rfl, hcnd, hwhy, rfl⟩), ww_t ht9 hw⟩, hS.F ht9⟩) hS.2.2 d_L_put_24
  refine W.widen (k := 1) (n := 6) (Nat.le_of_ble_eq_true rfl) (Nat.le_of_ble_eq_true rfl) ?_
  have hz2 : w_1 (g.2.2 1) = none := emp_none hf hAB hw
  have hout2 : w_1 out = some (cJ g jf) := by obtain ⟨-, z9, i9, qb9, pl9, bi9, -, -, -, -, -, hx9, -, -, hw9⟩ := e_1; rcases hw9 with ⟨-, hw9⟩ | ⟨-, hw9⟩ <;> rw [hw9]; exact up_v hx9 hout (fun z => by first | cases z | simp at z); exact hout
  refine lv_i2l hx hb d_L_put_12 rfl ?_
  refine ww_last hx hb hK hw hS 2 hout2 rfl (vp_in_nI (n := 0) (by decide) (by decide)) d_L_put_13 (fun H locs hw hS => ?_)
  rw [show (0 : Int32).toNatClampNeg = 0 from rfl] at hw
  refine lv_goto (tgt := 25) hx hb d_L_put_14 (by decide) ?_
  refine lv_iconst (v := 0) hx hb d_L_put_25 (by decide) ?_
  exact W.iret (v := 0) hx hb hr (fun t9 ht9 hW9 => ⟨⟨0, (va_up w_1 out (some (cJ g (vp_updL jf 0 (Int32.toInt64 r_1))))), rfl, Or.inl ⟨rfl, r_1, w_1, e_1, hz2, rfl⟩, ww_t ht9 hw⟩, hS.F ht9⟩) hS.2.2 d_L_put_26

set_option maxHeartbeats 4000000 in
set_option maxRecDepth 100000 in
theorem c_L_good (l : Launch) (hl0 : l.stackTraces = false) (g : GT) (sz : Nat) (w : Nat → Option va_E) (th tx ru : Nat) (rd : Int32) (go bo zo : Nat) (garr : Nat) (gxs : List Nat) (gd : Nat → GD) (u v x y z t : Int32) (out : Nat) (jf : Nat → Int64) (ht : w th = some (cT tx ru rd go bo zo)) (hGL : isL g w go garr gxs) (hgs : ∀ i a : Nat, gxs[i]? = some a → w a = some (cGd (gd i))) (hout : w out = some (cJ g jf)) : Met l y_L_good (.codeWith y_L_good b_L_good 9 ((some .int)) [(0, 18, 21, 13), (0, 18, 25, 19)] :: GW) ({ frames := 8, cells := 2, slots := 35, locals := 180 }) (prW g sz [.ref th, .int u, .int v, .int x, .int y, .int z, .int t, .ref out] w) (qI g sz w (fun r w1 => (r = 0 ∧ ∃ (r1 : Int32) (w2 : Nat → Option va_E), ((isCls u && isSd v u && (inR x 1 3 && inR y 0 1000)) = true ∧ gxs.length < 16 ∧ r1 = nI gxs.length ∧ ∃ q arr1 : Nat, w q = none ∧ isL g w2 go arr1 (gxs ++ [q]) ∧ w2 q = some (cG u v y (fieI x z t) 0) ∧ ((arr1 = garr ∧ ∃ z, w garr = some (.inl z)) ∨ w arr1 = none) ∧ ∀ (b : Nat) (e : va_E), w b = some e → b ≠ go → b ≠ arr1 → w2 b = w b) ∧ w2 (g.2.2 1) = none ∧ w1 = va_up w2 out (some (cJ g (vp_updL jf 0 r1.toInt64)))) ∨ ((r = 1 ∧ (isCls u && isSd v u && (inR x 1 3 && inR y 0 1000)) = false ∧ w1 = w) ∨ (r = 2 ∧ (isCls u && isSd v u && (inR x 1 3 && inR y 0 1000)) = true ∧ ¬ gxs.length < 16 ∧ w1 = w)))) 2 35 (gA w sz) := by
  refine va_MetW (cc := b_L_good) (maxL := 9) (ret := (some .int)) (hh := [(0, 18, 21, 13), (0, 18, 25, 19)]) (by decide) rfl ?_
  intro p e s m args below meth c s₁ B hml hv
  obtain ⟨rfl, hsz, hG, hw0⟩ := hv
  have hx := B.exec
  have hb := B.bytes
  have hr := B.returns
  have hts : ∀ w ∈ GW, w.before _ s = true := fun w h => atoms_spec (ws := .codeWith y_L_good b_L_good 9 ((some .int)) [(0, 18, 21, 13), (0, 18, 25, 19)] :: GW) B.pre w (List.mem_cons_of_mem _ h)
  have hown : s.vm.findClass "DangerTablesLaw" = some m.cls := findClass_of_methodNamed B.named
  have hlocks := B.notSynchronized
  have hf := hG.here
  have hK := hf.1
  subst hsz
  have hw := hw0.self s.heap.size
  have hAB : ∀ q, gA w s.heap.size q → gB g q := fun q h => h.elim (fun z => z.elim (fun _ he => hw0.inA he)) (fun h => Nat.le_trans hG.1 h)
  have hA : ∀ q, s.heap.size ≤ q → gA w s.heap.size q := fun q h => Or.inr h
  have hS : va_S (gA w s.heap.size) s.heap s.heap [] := va_S.rf
  have hz0 : w (g.2.2 1) = none := emp_none hf hAB hw
  have htab : c.exceptionTable.toList = [⟨0, 18, 21, 13⟩, ⟨0, 18, 25, 19⟩] := vx_table (x := y_L_good) B (hts _ k_288)
  have hl := lv_entry ([.ref th, .int u, .int v, .int x, .int y, .int z, .int t, .ref out]) (n := 9) (Nat.le_of_ble_eq_true rfl)
  rw [lg_entry_eq]
  generalize (lg_sl ([.ref th, .int u, .int v, .int x, .int y, .int z, .int t, .ref out]) ++ List.replicate (9 - (lg_sl ([.ref th, .int u, .int v, .int x, .int y, .int z, .int t, .ref out])).length) Slot.unset).toArray = ls at hl ⊢
  have hl : lv_has ls 9 [(0, .ref th), (1, .int u), (2, .int v), (3, .int x), (4, .int y), (5, .int z), (6, .int t), (7, .ref out)] := hl
  refine lv_aload hx hb d_L_good_0 (lv_at hl 7 rfl) ?_
  refine lv_iconst (v := 0) hx hb d_L_good_2 (by decide) ?_
  refine lv_aload_n hx hb d_L_good_3 rfl (lv_at hl 0 rfl) ?_
  refine lv_iload_n hx hb d_L_good_4 rfl (lv_at hl 1 rfl) ?_
  refine lv_iload_n hx hb d_L_good_5 rfl (lv_at hl 2 rfl) ?_
  refine lv_iload_n hx hb d_L_good_6 rfl (lv_at hl 3 rfl) ?_
  refine lv_iload hx hb d_L_good_7 (lv_at hl 4 rfl) ?_
  refine lv_iload hx hb d_L_good_9 (lv_at hl 5 rfl) ?_
  refine lv_iload hx hb d_L_good_11 (lv_at hl 6 rfl) ?_
  refine wx_i (cVx (As := [.int u, .int v, .int x, .int y, .int z, .int t]) (rest := [.int 0, .ref out]) (C := "DangerTables") 6 ⟨hx, hb, hml, hown, hts⟩ (c_T_good l hl0 g s.heap.size w th tx ru rd go bo zo garr gxs gd u v x y z t ht hGL hgs) k_293 k_290 k_1 k_291 k_292 (by decide +kernel) ⟨Nat.le_of_ble_eq_true rfl, Nat.le_of_ble_eq_true rfl⟩ rfl rfl ⟨prW_blind _ _ _ _, hw.recv hK ht rfl, prW_at hG hAB hS hw⟩ rfl hl.1 rfl (Nat.le_of_ble_eq_true rfl) d_L_good_13 ⟨Nat.le_of_ble_eq_true rfl, Nat.le_of_ble_eq_true rfl⟩) hw hS hA (fun E9 ce9 q9 H locs hPE hw hS hq9 hv9 hc9 => ?_) (fun r_1 w_1 H locs e_1 hw hS => ?_)
  · rcases hPE with ⟨rfl, hcnd⟩ | ⟨rfl, hcnd, hwhy⟩
    · refine vx_widen (k := 2) (n := 35) (Nat.le_of_ble_eq_true rfl) (Nat.le_of_ble_eq_true rfl) ?_
      refine vx_catch (own := "DangerTablesLaw") (name := "java/lang/IllegalArgumentException") hown [] ⟨0, 18, 21, 13⟩ [⟨0, 18, 25, 19⟩] htab (fun z h => nomatch h) (by decide) (by decide) (hts _ k_213) (va_Nw.use rfl (hf.2.1 _ x_220)) hq9 hv9 hc9 ?_
      refine lv_astore (lv' := [(8, .ref q9), (0, .ref th), (1, .int u), (2, .int v), (3, .int x), (4, .int y), (5, .int z), (6, .int t), (7, .ref out)]) hx hb d_L_good_21 hl (by decide) rfl (fun ls hl => ?_)
      refine lv_iconst (v := 1) hx hb d_L_good_23 (by decide) ?_
      exact W.iret (v := 1) hx hb hr (fun t9 ht9 hW9 => ⟨⟨1, w, rfl, Or.inr (Or.inl ⟨rfl, hcnd, rfl⟩), ww_t ht9 hw⟩, hS.F ht9⟩) hS.2.2 d_L_good_24
    · refine vx_widen (k := 2) (n := 35) (Nat.le_of_ble_eq_true rfl) (Nat.le_of_ble_eq_true rfl) ?_
      refine vx_catch (own := "DangerTablesLaw") (name := "java/lang/IllegalStateException") hown [⟨0, 18, 21, 13⟩] ⟨0, 18, 25, 19⟩ [] htab (fun z h => by rw [List.mem_singleton] at h; subst h; exact Or.inr ⟨by decide, "java/lang/IllegalArgumentException", hts _ k_213, hf.2.2.2.2.2.1 _ List.mem_cons_self⟩) (by decide) (by decide) (hts _ k_289) (va_Nw.use rfl (hf.2.1 _ x_301)) hq9 hv9 hc9 ?_
      refine lv_astore (lv' := [(8, .ref q9), (0, .ref th), (1, .int u), (2, .int v), (3, .int x), (4, .int y), (5, .int z), (6, .int t), (7, .ref out)]) hx hb d_L_good_25 hl (by decide) rfl (fun ls hl => ?_)
      refine lv_iconst (v := 2) hx hb d_L_good_27 (by decide) ?_
      exact W.iret (v := 2) hx hb hr (fun t9 ht9 hW9 => ⟨⟨2, w, rfl, Or.inr (Or.inr ⟨rfl, hcnd, hwhy, rfl⟩), ww_t ht9 hw⟩, hS.F ht9⟩) hS.2.2 d_L_good_28
  refine W.widen (k := 2) (n := 35) (Nat.le_of_ble_eq_true rfl) (Nat.le_of_ble_eq_true rfl) ?_
  have hz2 : w_1 (g.2.2 1) = none := emp_none hf hAB hw
  have hout2 : w_1 out = some (cJ g jf) := by obtain ⟨-, -, -, q9, a9, -, -, -, ho9, hf9⟩ := e_1; exact (key_1 hz0 hGL ho9 hf9 hout (fun _ z => by first | cases z | simp at z) (fun _ _ z => by first | cases z | simp at z)).1
  refine lv_i2l hx hb d_L_good_16 rfl ?_
  refine ww_last hx hb hK hw hS 2 hout2 rfl (vp_in_nI (n := 0) (by decide) (by decide)) d_L_good_17 (fun H locs hw hS => ?_)
  rw [show (0 : Int32).toNatClampNeg = 0 from rfl] at hw
  refine lv_goto (tgt := 29) hx hb d_L_good_18 (by decide) ?_
  refine lv_iconst (v := 0) hx hb d_L_good_29 (by decide) ?_
  exact W.iret (v := 0) hx hb hr (fun t9 ht9 hW9 => ⟨⟨0, (va_up w_1 out (some (cJ g (vp_updL jf 0 (Int32.toInt64 r_1))))), rfl, Or.inl ⟨rfl, r_1, w_1, e_1, hz2, rfl⟩, ww_t ht9 hw⟩, hS.F ht9⟩) hS.2.2 d_L_good_30

set_option maxHeartbeats 4000000 in
set_option maxRecDepth 100000 in
theorem c_L_box (l : Launch) (hl0 : l.stackTraces = false) (g : GT) (sz : Nat) (w : Nat → Option va_E) (th tx ru : Nat) (rd : Int32) (go bo zo : Nat) (arr : Nat) (xs : List Nat) (bs : List BX) (garr : Nat) (gxs : List Nat) (gd : Nat → GD) (u v : Int32) (out : Nat) (jf : Nat → Int64) (ht : w th = some (cT tx ru rd go bo zo)) (hL : isL g w bo arr xs) (hlen : xs.length = bs.length) (hbs : ∀ i a : Nat, xs[i]? = some a → ∃ b, bs[i]? = some b ∧ isBx g w a b) (hGL : isL g w go garr gxs) (hgs : ∀ i a : Nat, gxs[i]? = some a → w a = some (cGd (gd i))) (hout : w out = some (cJ g jf)) : Met l y_L_box (.codeWith y_L_box b_L_box 5 ((some .int)) [(0, 10, 13, 13), (0, 10, 17, 19)] :: GW) ({ frames := 9, cells := 5, slots := 71, locals := 200 }) (prW g sz [.ref th, .int u, .int v, .ref out] w) (qI g sz w (fun r w1 => (r = 0 ∧ ∃ (r1 : Int32) (w2 : Nat → Option va_E), ((inL u gxs.length && isAmt v) = true ∧ xs.length < 12 ∧ r1 = nI xs.length ∧ ∃ j qg qb pl parr qp arr1 : Nat, u = nI j ∧ gxs[j]? = some qg ∧ w qb = none ∧ w pl = none ∧ w parr = none ∧ w qp = none ∧ w2 qb = some (cX pl (-1) (-1) (-1) 0) ∧ isL g w2 pl parr [qp] ∧ w2 qp = some (cP qg u v) ∧ isL g w2 bo arr1 (xs ++ [qb]) ∧ ((arr1 = arr ∧ ∃ z, w arr = some (.inl z)) ∨ w arr1 = none) ∧ parr ≠ arr1 ∧ ∀ (b : Nat) (e : va_E), w b = some e → b ≠ bo → b ≠ arr1 → w2 b = w b) ∧ w2 (g.2.2 1) = none ∧ w1 = va_up w2 out (some (cJ g (vp_updL jf 0 r1.toInt64)))) ∨ ((r = 1 ∧ (inL u gxs.length && isAmt v) = false ∧ w1 = w) ∨ (r = 2 ∧ (inL u gxs.length && isAmt v) = true ∧ ¬ xs.length < 12 ∧ w1 = w)))) 5 71 (gA w sz) := by
  refine va_MetW (cc := b_L_box) (maxL := 5) (ret := (some .int)) (hh := [(0, 10, 13, 13), (0, 10, 17, 19)]) (by decide) rfl ?_
  intro p e s m args below meth c s₁ B hml hv
  obtain ⟨rfl, hsz, hG, hw0⟩ := hv
  have hx := B.exec
  have hb := B.bytes
  have hr := B.returns
  have hts : ∀ w ∈ GW, w.before _ s = true := fun w h => atoms_spec (ws := .codeWith y_L_box b_L_box 5 ((some .int)) [(0, 10, 13, 13), (0, 10, 17, 19)] :: GW) B.pre w (List.mem_cons_of_mem _ h)
  have hown : s.vm.findClass "DangerTablesLaw" = some m.cls := findClass_of_methodNamed B.named
  have hlocks := B.notSynchronized
  have hf := hG.here
  have hK := hf.1
  subst hsz
  have hw := hw0.self s.heap.size
  have hAB : ∀ q, gA w s.heap.size q → gB g q := fun q h => h.elim (fun z => z.elim (fun _ he => hw0.inA he)) (fun h => Nat.le_trans hG.1 h)
  have hA : ∀ q, s.heap.size ≤ q → gA w s.heap.size q := fun q h => Or.inr h
  have hS : va_S (gA w s.heap.size) s.heap s.heap [] := va_S.rf
  have hz0 : w (g.2.2 1) = none := emp_none hf hAB hw
  have htab : c.exceptionTable.toList = [⟨0, 10, 13, 13⟩, ⟨0, 10, 17, 19⟩] := vx_table (x := y_L_box) B (hts _ k_400)
  have hl := lv_entry ([.ref th, .int u, .int v, .ref out]) (n := 5) (Nat.le_of_ble_eq_true rfl)
  rw [lg_entry_eq]
  generalize (lg_sl ([.ref th, .int u, .int v, .ref out]) ++ List.replicate (5 - (lg_sl ([.ref th, .int u, .int v, .ref out])).length) Slot.unset).toArray = ls at hl ⊢
  have hl : lv_has ls 5 [(0, .ref th), (1, .int u), (2, .int v), (3, .ref out)] := hl
  refine lv_aload_n hx hb d_L_box_0 rfl (lv_at hl 3 rfl) ?_
  refine lv_iconst (v := 0) hx hb d_L_box_1 (by decide) ?_
  refine lv_aload_n hx hb d_L_box_2 rfl (lv_at hl 0 rfl) ?_
  refine lv_iload_n hx hb d_L_box_3 rfl (lv_at hl 1 rfl) ?_
  refine lv_iload_n hx hb d_L_box_4 rfl (lv_at hl 2 rfl) ?_
  refine wx_i (cVx (As := [.int u, .int v]) (rest := [.int 0, .ref out]) (C := "DangerTables") 2 ⟨hx, hb, hml, hown, hts⟩ (c_T_box l hl0 g s.heap.size w th tx ru rd go bo zo arr xs bs garr gxs gd u v ht hL hlen hbs hGL hgs) k_404 k_401 k_1 k_402 k_403 (by decide +kernel) ⟨Nat.le_of_ble_eq_true rfl, Nat.le_of_ble_eq_true rfl⟩ rfl rfl ⟨prW_blind _ _ _ _, hw.recv hK ht rfl, prW_at hG hAB hS hw⟩ rfl hl.1 rfl (Nat.le_of_ble_eq_true rfl) d_L_box_5 ⟨Nat.le_of_ble_eq_true rfl, Nat.le_of_ble_eq_true rfl⟩) hw hS hA (fun E9 ce9 q9 H locs hPE hw hS hq9 hv9 hc9 => ?_) (fun r_1 w_1 H locs e_1 hw hS => ?_)
  · rcases hPE with ⟨rfl, hcnd⟩ | ⟨rfl, hcnd, hwhy⟩
    · refine vx_widen (k := 5) (n := 71) (Nat.le_of_ble_eq_true rfl) (Nat.le_of_ble_eq_true rfl) ?_
      refine vx_catch (own := "DangerTablesLaw") (name := "java/lang/IllegalArgumentException") hown [] ⟨0, 10, 13, 13⟩ [⟨0, 10, 17, 19⟩] htab (fun z h => nomatch h) (by decide) (by decide) (hts _ k_213) (va_Nw.use rfl (hf.2.1 _ x_220)) hq9 hv9 hc9 ?_
      refine lv_astore (lv' := [(4, .ref q9), (0, .ref th), (1, .int u), (2, .int v), (3, .ref out)]) hx hb d_L_box_13 hl (by decide) rfl (fun ls hl => ?_)
      refine lv_iconst (v := 1) hx hb d_L_box_15 (by decide) ?_
      exact W.iret (v := 1) hx hb hr (fun t9 ht9 hW9 => ⟨⟨1, w, rfl, Or.inr (Or.inl ⟨rfl, hcnd, rfl⟩), ww_t ht9 hw⟩, hS.F ht9⟩) hS.2.2 d_L_box_16
    · refine vx_widen (k := 5) (n := 71) (Nat.le_of_ble_eq_true rfl) (Nat.le_of_ble_eq_true rfl) ?_
      refine vx_catch (own := "DangerTablesLaw") (name := "java/lang/IllegalStateException") hown [⟨0, 10, 13, 13⟩] ⟨0, 10, 17, 19⟩ [] htab (fun z h => by rw [List.mem_singleton] at h; subst h; exact Or.inr ⟨by decide, "java/lang/IllegalArgumentException", hts _ k_213, hf.2.2.2.2.2.1 _ List.mem_cons_self⟩) (by decide) (by decide) (hts _ k_289) (va_Nw.use rfl (hf.2.1 _ x_301)) hq9 hv9 hc9 ?_
      refine lv_astore (lv' := [(4, .ref q9), (0, .ref th), (1, .int u), (2, .int v), (3, .ref out)]) hx hb d_L_box_17 hl (by decide) rfl (fun ls hl => ?_)
      refine lv_iconst (v := 2) hx hb d_L_box_19 (by decide) ?_
      exact W.iret (v := 2) hx hb hr (fun t9 ht9 hW9 => ⟨⟨2, w, rfl, Or.inr (Or.inr ⟨rfl, hcnd, hwhy, rfl⟩), ww_t ht9 hw⟩, hS.F ht9⟩) hS.2.2 d_L_box_20
  refine W.widen (k := 5) (n := 71) (Nat.le_of_ble_eq_true rfl) (Nat.le_of_ble_eq_true rfl) ?_
  have hz2 : w_1 (g.2.2 1) = none := emp_none hf hAB hw
  have hout2 : w_1 out = some (cJ g jf) := by obtain ⟨-, -, -, j9, g9, b9, p9, r9, q9, a9, -, -, -, -, -, -, -, -, -, -, ho9, -, hf9⟩ := e_1; exact (key_1 hz0 hL ho9 hf9 hout (fun _ z => by first | cases z | simp at z) (fun _ _ z => by first | cases z | simp at z)).1
  refine lv_i2l hx hb d_L_box_8 rfl ?_
  refine ww_last hx hb hK hw hS 2 hout2 rfl (vp_in_nI (n := 0) (by decide) (by decide)) d_L_box_9 (fun H locs hw hS => ?_)
  rw [show (0 : Int32).toNatClampNeg = 0 from rfl] at hw
  refine lv_goto (tgt := 21) hx hb d_L_box_10 (by decide) ?_
  refine lv_iconst (v := 0) hx hb d_L_box_21 (by decide) ?_
  exact W.iret (v := 0) hx hb hr (fun t9 ht9 hW9 => ⟨⟨0, (va_up w_1 out (some (cJ g (vp_updL jf 0 (Int32.toInt64 r_1))))), rfl, Or.inl ⟨rfl, r_1, w_1, e_1, hz2, rfl⟩, ww_t ht9 hw⟩, hS.F ht9⟩) hS.2.2 d_L_box_22

set_option maxHeartbeats 4000000 in
set_option maxRecDepth 100000 in
theorem c_L_also (l : Launch) (hl0 : l.stackTraces = false) (g : GT) (sz : Nat) (w : Nat → Option va_E) (th tx ru : Nat) (rd : Int32) (go bo zo : Nat) (arr : Nat) (xs : List Nat) (bs : List BX) (pl pa : Nat → Nat) (pss : Nat → List Nat) (garr : Nat) (gxs : List Nat) (gd : Nat → GD) (u v x : Int32) (out : Nat) (jf : Nat → Int64) (ht : w th = some (cT tx ru rd go bo zo)) (hL : isL g w bo arr xs) (hlen : xs.length = bs.length) (hbp : ∀ i a : Nat, xs[i]? = some a → ∃ b, bs[i]? = some b ∧ w a = some (cX (pl i) b.2.1 b.2.2.1 b.2.2.2.1 b.2.2.2.2) ∧ isL g w (pl i) (pa i) (pss i) ∧ isPs w (pss i) b.1) (hGL : isL g w go garr gxs) (hgs : ∀ i a : Nat, gxs[i]? = some a → w a = some (cGd (gd i))) (hout : w out = some (cJ g jf)) : Met l y_L_also (.codeWith y_L_also b_L_also 6 ((some .int)) [(0, 12, 15, 13), (0, 12, 19, 19)] :: GW) ({ frames := 9, cells := 2, slots := 33, locals := 201 }) (prW g sz [.ref th, .int u, .int v, .int x, .ref out] w) (qI g sz w (fun r w1 => (r = 0 ∧ ∃ (r1 : Int32) (w2 : Nat → Option va_E), ((inL u xs.length && inL v gxs.length && isAmt x) = true ∧ ∃ (i j qb qg : Nat) (bi : BX) (q arr1 : Nat), u = nI i ∧ v = nI j ∧ xs[i]? = some qb ∧ bs[i]? = some bi ∧ gxs[j]? = some qg ∧ w qb = some (cX (pl i) bi.2.1 bi.2.2.1 bi.2.2.2.1 bi.2.2.2.2) ∧ isL g w (pl i) (pa i) (pss i) ∧ isPs w (pss i) bi.1 ∧ hsB bi.1 v = false ∧ bi.2.1 = -1 ∧ bi.1.length < 4 ∧ r1 = nI (bi.1.length + 1) ∧ w q = none ∧ isL g w2 (pl i) arr1 (pss i ++ [q]) ∧ w2 q = some (cP qg v x) ∧ ((arr1 = pa i ∧ ∃ z, w (pa i) = some (.inl z)) ∨ w arr1 = none) ∧ ∀ (b : Nat) (e : va_E), w b = some e → b ≠ pl i → b ≠ arr1 → w2 b = w b) ∧ w2 (g.2.2 1) = none ∧ w1 = va_up w2 out (some (cJ g (vp_updL jf 0 r1.toInt64)))) ∨ ((r = 1 ∧ ((inL u xs.length && inL v gxs.length && isAmt x) = false ∨ ((inL u xs.length && inL v gxs.length && isAmt x) = true ∧ ∃ (i : Nat) (bi : BX), u = nI i ∧ bs[i]? = some bi ∧ hsB bi.1 v = true)) ∧ w1 = w) ∨ (r = 2 ∧ (inL u xs.length && inL v gxs.length && isAmt x) = true ∧ (∃ (i : Nat) (bi : BX), u = nI i ∧ bs[i]? = some bi ∧ hsB bi.1 v = false ∧ (¬ bi.2.1 = -1 ∨ ¬ bi.1.length < 4)) ∧ w1 = w)))) 2 33 (gA w sz) := by
  refine va_MetW (cc := b_L_also) (maxL := 6) (ret := (some .int)) (hh := [(0, 12, 15, 13), (0, 12, 19, 19)]) (by decide) rfl ?_
  intro p e s m args below meth c s₁ B hml hv
  obtain ⟨rfl, hsz, hG, hw0⟩ := hv
  have hx := B.exec
  have hb := B.bytes
  have hr := B.returns
  have hts : ∀ w ∈ GW, w.before _ s = true := fun w h => atoms_spec (ws := .codeWith y_L_also b_L_also 6 ((some .int)) [(0, 12, 15, 13), (0, 12, 19, 19)] :: GW) B.pre w (List.mem_cons_of_mem _ h)
  have hown : s.vm.findClass "DangerTablesLaw" = some m.cls := findClass_of_methodNamed B.named
  have hlocks := B.notSynchronized
  have hf := hG.here
  have hK := hf.1
  subst hsz
  have hw := hw0.self s.heap.size
  have hAB : ∀ q, gA w s.heap.size q → gB g q := fun q h => h.elim (fun z => z.elim (fun _ he => hw0.inA he)) (fun h => Nat.le_trans hG.1 h)
  have hA : ∀ q, s.heap.size ≤ q → gA w s.heap.size q := fun q h => Or.inr h
  have hS : va_S (gA w s.heap.size) s.heap s.heap [] := va_S.rf
  have hz0 : w (g.2.2 1) = none := emp_none hf hAB hw
  have htab : c.exceptionTable.toList = [⟨0, 12, 15, 13⟩, ⟨0, 12, 19, 19⟩] := vx_table (x := y_L_also) B (hts _ k_465)
  have hl := lv_entry ([.ref th, .int u, .int v, .int x, .ref out]) (n := 6) (Nat.le_of_ble_eq_true rfl)
  rw [lg_entry_eq]
  generalize (lg_sl ([.ref th, .int u, .int v, .int x, .ref out]) ++ List.replicate (6 - (lg_sl ([.ref th, .int u, .int v, .int x, .ref out])).length) Slot.unset).toArray = ls at hl ⊢
  have hl : lv_has ls 6 [(0, .ref th), (1, .int u), (2, .int v), (3, .int x), (4, .ref out)] := hl
  refine lv_aload hx hb d_L_also_0 (lv_at hl 4 rfl) ?_
  refine lv_iconst (v := 0) hx hb d_L_also_2 (by decide) ?_
  refine lv_aload_n hx hb d_L_also_3 rfl (lv_at hl 0 rfl) ?_
  refine lv_iload_n hx hb d_L_also_4 rfl (lv_at hl 1 rfl) ?_
  refine lv_iload_n hx hb d_L_also_5 rfl (lv_at hl 2 rfl) ?_
  refine lv_iload_n hx hb d_L_also_6 rfl (lv_at hl 3 rfl) ?_
  refine wx_i (cVx (As := [.int u, .int v, .int x]) (rest := [.int 0, .ref out]) (C := "DangerTables") 3 ⟨hx, hb, hml, hown, hts⟩ (c_T_also l hl0 g s.heap.size w th tx ru rd go bo zo arr xs bs pl pa pss garr gxs gd u v x ht hL hlen hbp hGL hgs) k_469 k_466 k_1 k_467 k_468 (by decide +kernel) ⟨Nat.le_of_ble_eq_true rfl, Nat.le_of_ble_eq_true rfl⟩ rfl rfl ⟨prW_blind _ _ _ _, hw.recv hK ht rfl, prW_at hG hAB hS hw⟩ rfl hl.1 rfl (Nat.le_of_ble_eq_true rfl) d_L_also_7 ⟨Nat.le_of_ble_eq_true rfl, Nat.le_of_ble_eq_true rfl⟩) hw hS hA (fun E9 ce9 q9 H locs hPE hw hS hq9 hv9 hc9 => ?_) (fun r_1 w_1 H locs e_1 hw hS => ?_)
  · rcases hPE with ⟨rfl, hcnd⟩ | ⟨rfl, hcnd, hwhy⟩
    · refine vx_widen (k := 2) (n := 33) (Nat.le_of_ble_eq_true rfl) (Nat.le_of_ble_eq_true rfl) ?_
      refine vx_catch (own := "DangerTablesLaw") (name := "java/lang/IllegalArgumentException") hown [] ⟨0, 12, 15, 13⟩ [⟨0, 12, 19, 19⟩] htab (fun z h => nomatch h) (by decide) (by decide) (hts _ k_213) (va_Nw.use rfl (hf.2.1 _ x_220)) hq9 hv9 hc9 ?_
      refine lv_astore (lv' := [(5, .ref q9), (0, .ref th), (1, .int u), (2, .int v), (3, .int x), (4, .ref out)]) hx hb d_L_also_15 hl (by decide) rfl (fun ls hl => ?_)
      refine lv_iconst (v := 1) hx hb d_L_also_17 (by decide) ?_
      exact W.iret (v := 1) hx hb hr (fun t9 ht9 hW9 => ⟨⟨1, w, rfl, Or.inr (Or.inl ⟨rfl, hcnd, rfl⟩), ww_t ht9 hw⟩, hS.F ht9⟩) hS.2.2 d_L_also_18
    · refine vx_widen (k := 2) (n := 33) (Nat.le_of_ble_eq_true rfl) (Nat.le_of_ble_eq_true rfl) ?_
      refine vx_catch (own := "DangerTablesLaw") (name := "java/lang/IllegalStateException") hown [⟨0, 12, 15, 13⟩] ⟨0, 12, 19, 19⟩ [] htab (fun z h => by rw [List.mem_singleton] at h; subst h; exact Or.inr ⟨by decide, "java/lang/IllegalArgumentException", hts _ k_213, hf.2.2.2.2.2.1 _ List.mem_cons_self⟩) (by decide) (by decide) (hts _ k_289) (va_Nw.use rfl (hf.2.1 _ x_301)) hq9 hv9 hc9 ?_
      refine lv_astore (lv' := [(5, .ref q9), (0, .ref th), (1, .int u), (2, .int v), (3, .int x), (4, .ref out)]) hx hb d_L_also_19 hl (by decide) rfl (fun ls hl => ?_)
      refine lv_iconst (v := 2) hx hb d_L_also_21 (by decide) ?_
      exact W.iret (v := 2) hx hb hr (fun t9 ht9 hW9 => ⟨⟨2, w, rfl, Or.inr (Or.inr ⟨rfl, hcnd, hwhy, rfl⟩), ww_t ht9 hw⟩, hS.F ht9⟩) hS.2.2 d_L_also_22
  refine W.widen (k := 2) (n := 33) (Nat.le_of_ble_eq_true rfl) (Nat.le_of_ble_eq_true rfl) ?_
  have hz2 : w_1 (g.2.2 1) = none := emp_none hf hAB hw
  have hout2 : w_1 out = some (cJ g jf) := by obtain ⟨-, i9, j9, b9, g9, x9, q9, a9, -, -, -, -, -, -, hl9, -, -, -, -, -, -, -, -, ho9, hf9⟩ := e_1; exact (key_1 hz0 hl9 ho9 hf9 hout (fun _ z => by first | cases z | simp at z) (fun _ _ z => by first | cases z | simp at z)).1
  refine lv_i2l hx hb d_L_also_10 rfl ?_
  refine ww_last hx hb hK hw hS 2 hout2 rfl (vp_in_nI (n := 0) (by decide) (by decide)) d_L_also_11 (fun H locs hw hS => ?_)
  rw [show (0 : Int32).toNatClampNeg = 0 from rfl] at hw
  refine lv_goto (tgt := 23) hx hb d_L_also_12 (by decide) ?_
  refine lv_iconst (v := 0) hx hb d_L_also_23 (by decide) ?_
  exact W.iret (v := 0) hx hb hr (fun t9 ht9 hW9 => ⟨⟨0, (va_up w_1 out (some (cJ g (vp_updL jf 0 (Int32.toInt64 r_1))))), rfl, Or.inl ⟨rfl, r_1, w_1, e_1, hz2, rfl⟩, ww_t ht9 hw⟩, hS.F ht9⟩) hS.2.2 d_L_also_24

