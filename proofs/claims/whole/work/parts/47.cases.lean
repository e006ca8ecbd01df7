/-! THE LAW: two worlds side by side, its cases -/
theorem ww.other {D : va_G} {cl : List vw_C} {A : Nat → Prop} {a w : Nat → Option va_E} {H H1 : Heap} (h : ww D cl A a H) (hd : ∀ (q : Nat) (e e' : va_E), a q = some e → w q = some e' → False) (hk : ∀ q : Nat, q < H.size → ¬ gA w H.size q → H1[q]? = H[q]?) : ww D cl A a H1 := by
  obtain ⟨L, hP, hD, hL⟩ := h
  refine ⟨L, hP.kept (fun k q hq => hk q.1 (hP k q hq).lt (fun z => ?_)), hD, hL⟩
  rcases z with ⟨e, he⟩ | z
  · exact hd q.1 q.2 e ((hL q.1 q.2).mpr ⟨k, hq⟩) he
  · exact absurd (hP k q hq).lt (Nat.not_lt.mpr z)
def dj (a w : Nat → Option va_E) : Prop := ∀ (q : Nat) (e e' : va_E), a q = some e → w q = some e' → False
theorem dj.symm {a w : Nat → Option va_E} (h : dj a w) : dj w a := fun q e e' h1 h2 => h q e' e h2 h1
theorem dj.step {D : va_G} {cl : List vw_C} {A : Nat → Prop} {a a1 w : Nat → Option va_E} {H H1 : Heap} (h : dj a w) (hw : ww D cl A w H) (hg : ww D cl (gA a H.size) a1 H1) : dj a1 w := by
  intro q e e' h1 h2
  rcases hg.inA h1 with ⟨e2, h3⟩ | h3
  · exact h q e2 e' h3 h2
  · exact absurd (hw.lt h2) (Nat.not_lt.mpr h3)
def LI (g : GT) (s : State) (wC wM : Nat → Option va_E) (th mo out : Nat) (H : Heap) (locs : List Loc) : Prop := ww g.1 vwCl (gB g) wC H ∧ ww g.1 vwCl (gB g) wM H ∧ dj wC wM ∧ va_S (gB g) s.heap H locs ∧ ST g wC th out wM mo
def LX (p : Program) (l : Launch) (s : State) (m : MethodId) (meth : Method) (c : Code) (b L : Nat) (xs : Nat → Int32) (g : GT) : Prop := p.tables.exec = Jvm.exec ∧ c.code = code ∧ meth.sig.returnType = ret ∧ c.maxLocals = 7 ∧ s.vm.findClass "DangerTablesLaw" = some m.cls ∧ (∀ w ∈ GW, w.before #[Value.ref b] s = true) ∧ gx g s ∧ g.2.2 0 = s.heap.size ∧ va_X b L xs s s.heap ∧ b < s.heap.size ∧ L ≤ 3584 ∧ l.stackTraces = false
section CSW
variable {p : Program} {l : Launch} {e : Env} {R : Room} {s : State} {m : MethodId} {args : Array Value} {below : List Frame} {meth : Method} {c : Code} {H : Heap} {locs : List Loc} {cells slots : Nat} {Q : State → Prop}
variable {cc b0 : ByteArray} {pc nL index maxL : Nat} {ls : Array Slot} {rest st0 As : List Value} {y : MethodName} {ret : Option FieldType} {rm : Room} {own : String} {mc ms : Nat} {Pc : Array Value → State → Prop} {Qc : Array Value → State → Outcome → State → Prop} {free : Addr → Prop} {hh : List (Nat × Nat × Nat × Nat)} {A : Nat → Prop} {H0 : Heap}
theorem cSW (n : Nat) (S : CallFix p m c cc nL s args GW own) (hM : Met l y (Cond.codeWith y b0 maxL ret hh :: GW) rm Pc Qc mc ms free) (hc : Cond.codeWith y b0 maxL ret hh ∈ GW) (hl : Cond.methodLink own index y ∈ GW) (hi : Cond.initialized y.cls ∈ GW) (hs : Cond.static y ∈ GW) (hd : y.cls ≠ "java/lang/invoke/MethodHandle" ∧ y.cls ≠ "java/lang/invoke/VarHandle" ∧ (parseMethodDescriptor y.desc).map (fun d => d.parameters.length) = some n) (hR : rm.frames + 1 ≤ R.frames ∧ 8 + (maxL + 11) + rm.locals ≤ R.locals) (hrc : rm.cells = mc) (hrs : rm.slots = ms)
    (hp : PreS s H Pc As) (hn : As.length = n) (hsize : ls.size = nL) (hst : st0 = As.reverse ++ rest) (hW : (rest.map fun v => v.category).sum ≤ 8) (hdg : decode cc pc = .ok (.invokestatic index, 3)) (hf : cells + mc ≤ R.cells ∧ slots + ms ≤ R.slots) :
    va_Run p l e R s m args below meth c H locs cells slots mc ms (F0 m pc ls st0) rest (Qc As.toArray) free :=
  vx_runSW (hh := hh) S hM ⟨⟨hrc, hrs, hR.1, hR.2, pay_in S.2.2.2.2 (fun w hw => (List.mem_cons.mp hw).elim (fun e => by subst e; exact ⟨hc, GW_good hc⟩) (fun h1 => ⟨h1, GW_good h1⟩)), List.mem_cons_self⟩, S.2.2.2.2 _ hc, S.2.2.2.2 _ hi, ⟨hd.1, hd.2.1⟩, (fun sig h => by have h2 := hd.2.2; rw [h] at h2; exact (Option.some.inj h2).symm), S.2.2.2.2 _ hl, S.2.2.2.2 _ hs⟩ hp rfl hn hsize hst (lv_room hW) hdg hf
theorem ww_sld (hexec : p.tables.exec = Jvm.exec) (hb : c.code = cc) {b L : Nat} {xs : Nat → Int32} (hX : va_X b L xs s H0) (hbl : b < H0.size) (hbA : ¬ A b) (hS : va_S A H0 H locs) {i v : Int32} (hin : vp_in i L) (hv : xs i.toNatClampNeg = v) (hdg : decode cc pc = .ok (.iaload, 1))
    (kk : W p l e R s m args below meth c H locs cells slots Q (F0 m (pc + 1) ls (.int v :: rest))) : W p l e R s m args below meth c H locs cells slots Q (F0 m pc ls (.int i :: .ref b :: rest)) := by
  subst hv
  exact va_sld hexec hb hX hbl hbA hS hin hdg kk
end CSW
set_option maxHeartbeats 4000000 in
set_option maxRecDepth 100000 in
theorem lc_0 (l : Launch) {p : Program} {e : Env} {s : State} {m : MethodId} {below : List Frame} {meth : Method} {c : Code} {b L : Nat} {xs : Nat → Int32} {g : GT} (hLX : LX p l s m meth c b L xs g) {Q : State → Prop} {i th mo out : Nat} (hi : 7 * i + 7 ≤ L) (kk : ∀ (wC wM : Nat → Option va_E) (H : Heap) (locs : List Loc) (ls : Array Slot), LI g s wC wM th mo out H locs → lv_has ls 7 [(0, .ref b), (1, .ref th), (2, .ref mo), (3, .ref out), (4, .int (nI (7 * i)))] → W p l e room_1 s m #[Value.ref b] below meth c H locs (40 + 20 * (i + 1)) (3000 + 400 * (i + 1)) Q (F0 m 1183 ls [])) {wC wM : Nat → Option va_E} {H : Heap} {locs : List Loc} {ls : Array Slot} (hI : LI g s wC wM th mo out H locs) (hl : lv_has ls 7 [(0, .ref b), (1, .ref th), (2, .ref mo), (3, .ref out), (4, .int (nI (7 * i)))]) : W p l e room_1 s m #[Value.ref b] below meth c H locs (40 + 20 * i) (3000 + 400 * i) Q (F0 m 124 ls []) := by
  obtain ⟨hx, hb, hr, hml, hown, hts, hG, hg0, hX, hbl, hL, hl0⟩ := hLX
  obtain ⟨hwC, hwM, hd, hS, hST⟩ := hI
  have hf := hG.here
  have hK := hf.1
  have hbA : ¬ gB g b := fun z => absurd hbl (Nat.not_lt.mpr (hg0 ▸ z))
  have hA : ∀ q, s.heap.size ≤ q → gB g q := fun q h => by show g.2.2 0 ≤ q; rw [hg0]; exact h
  have hAB : ∀ q, gB g q → gB g q := fun _ h => h
  obtain ⟨f, n, rb, rf, gd, gn, br, mz, ⟨tx, ru, go, bo, zo, sg, fo, garr, barr, ff, gxs, bxs, fz, pl, pa, pss, own, jf, hC⟩, t, ad, F, hM⟩ := hST
  obtain ⟨hth, htx, hsg, hfo, hru, hne, ⟨hgl, hgn, ogo, oga⟩, hgs9, ⟨hbl9, hbn, obo, oba⟩, hbs9, ⟨hzo, ozo⟩, hzr9, hout⟩ := id hC
  obtain ⟨m1, m2, m3, m4, m5, m6, m7, m8, m9, m10⟩ := id hM
  have hz : wC (g.2.2 1) = none := emp_none hf hAB hwC
  refine lv_aload_n hx hb d_L_law_124 rfl (lv_at hl 1 rfl) ?_
  refine lv_aload_n hx hb d_L_law_125 rfl (lv_at hl 0 rfl) ?_
  refine lv_iload hx hb d_L_law_126 (lv_at hl 4 rfl) ?_
  refine lv_iconst (v := 1) hx hb d_L_law_128 (by decide) ?_
  refine lv_iadd hx hb d_L_law_129 ?_
  refine lv_topi (fun v_1 e_1 => ?_)
  obtain rfl : v_1 = nI ((7 * i) + 1) := by rw [e_1]; exact nI_add (7 * i) 1
  refine ww_sld (v := xs ((7 * i) + 1)) hx hb hX hbl hbA hS (vp_in_nI (by omega) (by omega)) (by rw [nI_clamp (by omega)]) d_L_law_130 ?_
  refine ww_i (cV (As := [.int (xs ((7 * i) + 1))]) (rest := []) (C := "DangerTables") 1 ⟨hx, hb, hml, hown, hts⟩ (c_T_sign l g H.size wC th tx ru (b2 rb) go bo zo sg fo n f (xs ((7 * i) + 1)) hth htx hsg m3) k_102 k_99 k_1 k_100 k_101 (by decide +kernel) ⟨Nat.le_of_ble_eq_true rfl, Nat.le_of_ble_eq_true rfl⟩ rfl rfl ⟨prW_blind _ _ _ _, hwC.recv hK hth rfl, prW_at hG hAB hS hwC⟩ rfl hl.1 rfl (Nat.le_of_ble_eq_true rfl) d_L_law_131 ⟨by show _ ≤ 601024; omega, by show _ ≤ 7293034; omega⟩) hwC hS hA (fun r_2 wC_2 H_2 locs_2 e_2 hwC1 hS hz_2 hk_2 hg_2 => ?_)
  have hwMo := hwM
  have hwM := hwM.other hd.symm hk_2
  have hd := dj.step hd hwMo hg_2
  have hwC := hwC1
  refine lv_aload_n hx hb d_L_law_134 rfl (lv_at hl 2 rfl) ?_
  refine lv_aload_n hx hb d_L_law_135 rfl (lv_at hl 0 rfl) ?_
  refine lv_iload hx hb d_L_law_136 (lv_at hl 4 rfl) ?_
  refine lv_iconst (v := 1) hx hb d_L_law_138 (by decide) ?_
  refine lv_iadd hx hb d_L_law_139 ?_
  refine lv_topi (fun v_3 e_3 => ?_)
  obtain rfl : v_3 = nI ((7 * i) + 1) := by rw [e_3]; exact nI_add (7 * i) 1
  refine ww_sld (v := xs ((7 * i) + 1)) hx hb hX hbl hbA hS (vp_in_nI (by omega) (by omega)) (by rw [nI_clamp (by omega)]) d_L_law_140 ?_
  refine ww_i (cV (As := [.int (xs ((7 * i) + 1))]) (rest := [.int r_2]) (C := "DangerTablesModel") 1 ⟨hx, hb, hml, hown, hts⟩ (c_M_sign l g H_2.size wM mo ad t (b2 rb) n gn br.length F (xs ((7 * i) + 1)) m1 m3) k_730 k_727 k_7 k_728 k_729 (by decide +kernel) ⟨Nat.le_of_ble_eq_true rfl, Nat.le_of_ble_eq_true rfl⟩ rfl rfl ⟨prW_blind _ _ _ _, hwM.recv hK m1.1 rfl, prW_at hG hAB hS hwM⟩ rfl hl.1 rfl (Nat.le_of_ble_eq_true rfl) d_L_law_141 ⟨by show _ ≤ 601024; omega, by show _ ≤ 7293034; omega⟩) hwM hS hA (fun r_4 wM_4 H_4 locs_4 e_4 hwM1 hS hz_4 hk_4 hg_4 => ?_)
  have hwCo := hwC
  have hwC := hwC.other hd hk_4
  have hd := (dj.step hd.symm hwCo hg_4).symm
  have hwM := hwM1
  obtain ⟨heq, hST⟩ := op_sign hz hC hM e_2 e_4
  refine lv_icmp_eq (tgt := 1183) hx hb d_L_law_144 (by decide) (fun _ => ?_) (fun z => absurd heq z)
  refine W.widen (k := 40 + 20 * (i + 1)) (n := 3000 + 400 * (i + 1)) (by omega) (by omega) ?_
  exact kk wC_2 wM_4 H_4 locs_4 ls ⟨hwC, hwM, hd, hS, hST⟩ (lv_sub hl [0, 1, 2, 3, 4] rfl)

set_option maxHeartbeats 4000000 in
set_option maxRecDepth 100000 in
theorem lc_1 (l : Launch) {p : Program} {e : Env} {s : State} {m : MethodId} {below : List Frame} {meth : Method} {c : Code} {b L : Nat} {xs : Nat → Int32} {g : GT} (hLX : LX p l s m meth c b L xs g) {Q : State → Prop} {i th mo out : Nat} (hi : 7 * i + 7 ≤ L) (kk : ∀ (wC wM : Nat → Option va_E) (H : Heap) (locs : List Loc) (ls : Array Slot), LI g s wC wM th mo out H locs → lv_has ls 7 [(0, .ref b), (1, .ref th), (2, .ref mo), (3, .ref out), (4, .int (nI (7 * i)))] → W p l e room_1 s m #[Value.ref b] below meth c H locs (40 + 20 * (i + 1)) (3000 + 400 * (i + 1)) Q (F0 m 1183 ls [])) {wC wM : Nat → Option va_E} {H : Heap} {locs : List Loc} {ls : Array Slot} (hI : LI g s wC wM th mo out H locs) (hl : lv_has ls 7 [(0, .ref b), (1, .ref th), (2, .ref mo), (3, .ref out), (4, .int (nI (7 * i)))]) : W p l e room_1 s m #[Value.ref b] below meth c H locs (40 + 20 * i) (3000 + 400 * i) Q (F0 m 149 ls []) := by
  obtain ⟨hx, hb, hr, hml, hown, hts, hG, hg0, hX, hbl, hL, hl0⟩ := hLX
  obtain ⟨hwC, hwM, hd, hS, hST⟩ := hI
  have hf := hG.here
  have hK := hf.1
  have hbA : ¬ gB g b := fun z => absurd hbl (Nat.not_lt.mpr (hg0 ▸ z))
  have hA : ∀ q, s.heap.size ≤ q → gB g q := fun q h => by show g.2.2 0 ≤ q; rw [hg0]; exact h
  have hAB : ∀ q, gB g q → gB g q := fun _ h => h
  obtain ⟨f, n, rb, rf, gd, gn, br, mz, ⟨tx, ru, go, bo, zo, sg, fo, garr, barr, ff, gxs, bxs, fz, pl, pa, pss, own, jf, hC⟩, t, ad, F, hM⟩ := hST
  obtain ⟨hth, htx, hsg, hfo, hru, hne, ⟨hgl, hgn, ogo, oga⟩, hgs9, ⟨hbl9, hbn, obo, oba⟩, hbs9, ⟨hzo, ozo⟩, hzr9, hout⟩ := id hC
  obtain ⟨m1, m2, m3, m4, m5, m6, m7, m8, m9, m10⟩ := id hM
  have hz : wC (g.2.2 1) = none := emp_none hf hAB hwC
  refine lv_aload_n hx hb d_L_law_149 rfl (lv_at hl 1 rfl) ?_
  refine ww_i (cV (As := []) (rest := []) (C := "DangerTables") 0 ⟨hx, hb, hml, hown, hts⟩ (c_T_read l g H.size wC th tx ru (b2 rb) go bo zo sg fo n f ff rf hth htx hsg m3 hfo hru hne) k_110 k_107 k_1 k_108 k_109 (by decide +kernel) ⟨Nat.le_of_ble_eq_true rfl, Nat.le_of_ble_eq_true rfl⟩ rfl rfl ⟨prW_blind _ _ _ _, hwC.recv hK hth rfl, prW_at hG hAB hS hwC⟩ rfl hl.1 rfl (Nat.le_of_ble_eq_true rfl) d_L_law_150 ⟨by show _ ≤ 601024; omega, by show _ ≤ 7293034; omega⟩) hwC hS hA (fun r_1 wC_1 H_1 locs_1 e_1 hwC1 hS hz_1 hk_1 hg_1 => ?_)
  have hwMo := hwM
  have hwM := hwM.other hd.symm hk_1
  have hd := dj.step hd hwMo hg_1
  have hwC := hwC1
  refine lv_aload_n hx hb d_L_law_153 rfl (lv_at hl 2 rfl) ?_
  refine ww_i (cV (As := []) (rest := [.int r_1]) (C := "DangerTablesModel") 0 ⟨hx, hb, hml, hown, hts⟩ (c_M_read l g H_1.size wM mo ad t (b2 rb) n gn br.length F m1 m3) k_737 k_734 k_7 k_735 k_736 (by decide +kernel) ⟨Nat.le_of_ble_eq_true rfl, Nat.le_of_ble_eq_true rfl⟩ rfl rfl ⟨prW_blind _ _ _ _, hwM.recv hK m1.1 rfl, prW_at hG hAB hS hwM⟩ rfl hl.1 rfl (Nat.le_of_ble_eq_true rfl) d_L_law_154 ⟨by show _ ≤ 601024; omega, by show _ ≤ 7293034; omega⟩) hwM hS hA (fun r_2 wM_2 H_2 locs_2 e_2 hwM1 hS hz_2 hk_2 hg_2 => ?_)
  have hwCo := hwC
  have hwC := hwC.other hd hk_2
  have hd := (dj.step hd.symm hwCo hg_2).symm
  have hwM := hwM1
  obtain ⟨heq, hST⟩ := op_read hz hC hM e_1 e_2
  refine lv_icmp_eq (tgt := 1183) hx hb d_L_law_157 (by decide) (fun _ => ?_) (fun z => absurd heq z)
  refine W.widen (k := 40 + 20 * (i + 1)) (n := 3000 + 400 * (i + 1)) (by omega) (by omega) ?_
  exact kk wC_1 wM_2 H_2 locs_2 ls ⟨hwC, hwM, hd, hS, hST⟩ (lv_sub hl [0, 1, 2, 3, 4] rfl)

set_option maxHeartbeats 4000000 in
set_option maxRecDepth 100000 in
theorem lc_2 (l : Launch) {p : Program} {e : Env} {s : State} {m : MethodId} {below : List Frame} {meth : Method} {c : Code} {b L : Nat} {xs : Nat → Int32} {g : GT} (hLX : LX p l s m meth c b L xs g) {Q : State → Prop} {i th mo out : Nat} (hi : 7 * i + 7 ≤ L) (kk : ∀ (wC wM : Nat → Option va_E) (H : Heap) (locs : List Loc) (ls : Array Slot), LI g s wC wM th mo out H locs → lv_has ls 7 [(0, .ref b), (1, .ref th), (2, .ref mo), (3, .ref out), (4, .int (nI (7 * i)))] → W p l e room_1 s m #[Value.ref b] below meth c H locs (40 + 20 * (i + 1)) (3000 + 400 * (i + 1)) Q (F0 m 1183 ls [])) {wC wM : Nat → Option va_E} {H : Heap} {locs : List Loc} {ls : Array Slot} (hI : LI g s wC wM th mo out H locs) (hl : lv_has ls 7 [(0, .ref b), (1, .ref th), (2, .ref mo), (3, .ref out), (4, .int (nI (7 * i)))]) : W p l e room_1 s m #[Value.ref b] below meth c H locs (40 + 20 * i) (3000 + 400 * i) Q (F0 m 162 ls []) := by
  obtain ⟨hx, hb, hr, hml, hown, hts, hG, hg0, hX, hbl, hL, hl0⟩ := hLX
  obtain ⟨hwC, hwM, hd, hS, hST⟩ := hI
  have hf := hG.here
  have hK := hf.1
  have hbA : ¬ gB g b := fun z => absurd hbl (Nat.not_lt.mpr (hg0 ▸ z))
  have hA : ∀ q, s.heap.size ≤ q → gB g q := fun q h => by show g.2.2 0 ≤ q; rw [hg0]; exact h
  have hAB : ∀ q, gB g q → gB g q := fun _ h => h
  obtain ⟨f, n, rb, rf, gd, gn, br, mz, ⟨tx, ru, go, bo, zo, sg, fo, garr, barr, ff, gxs, bxs, fz, pl, pa, pss, own, jf, hC⟩, t, ad, F, hM⟩ := hST
  obtain ⟨hth, htx, hsg, hfo, hru, hne, ⟨hgl, hgn, ogo, oga⟩, hgs9, ⟨hbl9, hbn, obo, oba⟩, hbs9, ⟨hzo, ozo⟩, hzr9, hout⟩ := id hC
  obtain ⟨m1, m2, m3, m4, m5, m6, m7, m8, m9, m10⟩ := id hM
  have hz : wC (g.2.2 1) = none := emp_none hf hAB hwC
  refine lv_aload_n hx hb d_L_law_162 rfl (lv_at hl 1 rfl) ?_
  refine lv_aload_n hx hb d_L_law_163 rfl (lv_at hl 0 rfl) ?_
  refine lv_iload hx hb d_L_law_164 (lv_at hl 4 rfl) ?_
  refine lv_iconst (v := 1) hx hb d_L_law_166 (by decide) ?_
  refine lv_iadd hx hb d_L_law_167 ?_
  refine lv_topi (fun v_1 e_1 => ?_)
  obtain rfl : v_1 = nI ((7 * i) + 1) := by rw [e_1]; exact nI_add (7 * i) 1
  refine ww_sld (v := xs ((7 * i) + 1)) hx hb hX hbl hbA hS (vp_in_nI (by omega) (by omega)) (by rw [nI_clamp (by omega)]) d_L_law_168 ?_
  refine lv_aload_n hx hb d_L_law_169 rfl (lv_at hl 0 rfl) ?_
  refine lv_iload hx hb d_L_law_170 (lv_at hl 4 rfl) ?_
  refine lv_iconst (v := 2) hx hb d_L_law_172 (by decide) ?_
  refine lv_iadd hx hb d_L_law_173 ?_
  refine lv_topi (fun v_2 e_2 => ?_)
  obtain rfl : v_2 = nI ((7 * i) + 2) := by rw [e_2]; exact nI_add (7 * i) 2
  refine ww_sld (v := xs ((7 * i) + 2)) hx hb hX hbl hbA hS (vp_in_nI (by omega) (by omega)) (by rw [nI_clamp (by omega)]) d_L_law_174 ?_
  refine lv_aload_n hx hb d_L_law_175 rfl (lv_at hl 3 rfl) ?_
  refine ww_i (cSW (As := [.ref th, .int (xs ((7 * i) + 1)), .int (xs ((7 * i) + 2)), .ref out]) (rest := []) 4 ⟨hx, hb, hml, hown, hts⟩ (c_L_rule l hl0 g H.size wC th tx ru (b2 rb) go bo zo rf (xs ((7 * i) + 1)) (xs ((7 * i) + 2)) out jf hth hru hout) k_212 k_210 k_0 k_211 (by decide +kernel) ⟨Nat.le_of_ble_eq_true rfl, Nat.le_of_ble_eq_true rfl⟩ rfl rfl ⟨prW_blind _ _ _ _, prW_at hG hAB hS hwC⟩ rfl hl.1 rfl (Nat.le_of_ble_eq_true rfl) d_L_law_176 ⟨by show _ ≤ 601024; omega, by show _ ≤ 7293034; omega⟩) hwC hS hA (fun r_3 wC_3 H_3 locs_3 e_3 hwC1 hS hz_3 hk_3 hg_3 => ?_)
  have hwMo := hwM
  have hwM := hwM.other hd.symm hk_3
  have hd := dj.step hd hwMo hg_3
  have hwC := hwC1
  refine lv_istore (lv' := [(5, .int r_3), (0, .ref b), (1, .ref th), (2, .ref mo), (3, .ref out), (4, .int (nI (7 * i)))]) hx hb d_L_law_179 hl (by decide) rfl (fun ls hl => ?_)
  refine lv_aload_n hx hb d_L_law_181 rfl (lv_at hl 3 rfl) ?_
  refine lv_aload_n hx hb d_L_law_182 rfl (lv_at hl 1 rfl) ?_
  refine lv_iload hx hb d_L_law_183 (lv_at hl 5 rfl) ?_
  refine lv_iconst (v := 1) hx hb d_L_law_185 (by decide) ?_
  refine lv_iadd hx hb d_L_law_186 ?_
  refine lv_topi (fun v_4 e_4 => ?_)
  obtain rfl : v_4 = nI ((7 * i) + 1) := by rw [e_4]; exact nI_add (7 * i) 1
  refine ww_sld (v := xs ((7 * i) + 1)) hx hb hX hbl hbA hS (vp_in_nI (by omega) (by omega)) (by rw [nI_clamp (by omega)]) d_L_law_187 ?_
  refine lv_aload_n hx hb d_L_law_188 rfl (lv_at hl 1 rfl) ?_
  refine lv_iload hx hb d_L_law_189 (lv_at hl 5 rfl) ?_
  refine lv_iconst (v := 2) hx hb d_L_law_191 (by decide) ?_
  refine lv_iadd hx hb d_L_law_192 ?_
  refine lv_topi (fun v_5 e_5 => ?_)
  obtain rfl : v_5 = nI ((7 * i) + 2) := by rw [e_5]; exact nI_add (7 * i) 2
  refine ww_sld (v := xs ((7 * i) + 2)) hx hb hX hbl hbA hS (vp_in_nI (by omega) (by omega)) (by rw [nI_clamp (by omega)]) d_L_law_193 ?_
  refine ww_i (cV (As := [.int (xs ((7 * i) + 1)), .int (xs ((7 * i) + 2))]) (rest := []) (C := "DangerTablesModel") 2 ⟨hx, hb, hml, hown, hts⟩ (c_M_rule l g H_3.size wM mo ad t (b2 rb) n gn br.length F rf (xs ((7 * i) + 1)) (xs ((7 * i) + 2)) m1 m5) k_751 k_748 k_7 k_749 k_750 (by decide +kernel) ⟨Nat.le_of_ble_eq_true rfl, Nat.le_of_ble_eq_true rfl⟩ rfl rfl ⟨prW_blind _ _ _ _, hwM.recv hK m1.1 rfl, prW_at hG hAB hS hwM⟩ rfl hl.1 rfl (Nat.le_of_ble_eq_true rfl) d_L_law_194 ⟨by show _ ≤ 601024; omega, by show _ ≤ 7293034; omega⟩) hwM hS hA (fun r_6 wM_6 H_6 locs_6 e_6 hwM1 hS hz_6 hk_6 hg_6 => ?_)
  have hwCo := hwC
  have hwC := hwC.other hd hk_6
  have hd := (dj.step hd.symm hwCo hg_6).symm
  have hwM := hwM1
  have hSTk := op_rule hz hC hM e_3 e_6
  obtain ⟨f1, n1, rb1, rf1, gd1, gn1, br1, mz1, tx1, ru1, go1, bo1, zo1, sg1, fo1, garr1, barr1, ff1, gxs1, bxs1, fz1, pl1, pa1, pss1, own1, jf1, ad1, F1, hC1, hM1, hj1⟩ := id hSTk
  have hout1 := hC1.2.2.2.2.2.2.2.2.2.2.2.2
  refine lv_istore (lv' := [(6, .int r_6), (5, .int r_3), (0, .ref b), (1, .ref th), (2, .ref mo), (3, .ref out), (4, .int (nI (7 * i)))]) hx hb d_L_law_197 hl (by decide) rfl (fun ls hl => ?_)
  refine lv_aload_n hx hb d_L_law_199 rfl (lv_at hl 4 rfl) ?_
  refine wr_i (cV (As := []) (rest := []) (C := "DangerTablesModel") 0 ⟨hx, hb, hml, hown, hts⟩ (c_M_thrown l g wM_6 mo ad1 r_3 (b2 rb1) n1 gn1 br1.length F1 hM1.1) k_726 k_723 k_7 k_724 k_725 (by decide +kernel) ⟨Nat.le_of_ble_eq_true rfl, Nat.le_of_ble_eq_true rfl⟩ rfl rfl ⟨prR_blind _ _ _, hwM.recv hK hM1.1.1 rfl, prR_at hG hAB hS hwM⟩ rfl hl.1 rfl (Nat.le_of_ble_eq_true rfl) d_L_law_200 ⟨by show _ ≤ 601024; omega, by show _ ≤ 7293034; omega⟩) (fun r_t e_t => ?_)
  refine lv_iload hx hb d_L_law_203 (lv_at hl 1 rfl) ?_
  refine lv_icmp_eq (tgt := 210) hx hb d_L_law_205 (by decide) (fun _ => ?_) (fun z => absurd e_t z)
  refine lv_iload hx hb d_L_law_210 (lv_at hl 1 rfl) ?_
  refine lv_if_ne (tgt := 227) hx hb d_L_law_212 (by decide) (fun c_7 => ?_) (fun c_7 => ?_)
  · refine lv_goto (tgt := 1183) hx hb d_L_law_227 (by decide) ?_
    refine W.widen (k := 40 + 20 * (i + 1)) (n := 3000 + 400 * (i + 1)) (by omega) (by omega) ?_
    exact kk wC_3 wM_6 H_6 locs_6 ls ⟨hwC, hwM, hd, hS, hSTk.st⟩ (lv_sub hl [2, 3, 4, 5, 6] rfl)
  · have hk0 : r_3 = 0 := c_7
    refine lv_aload_n hx hb d_L_law_215 rfl (lv_at hl 5 rfl) ?_
    refine lv_iconst (v := 0) hx hb d_L_law_216 (by decide) ?_
    refine ww_lald (v := jf1 0) hx hb hK hwC 2 hout1 rfl (vp_in_nI (n := 0) (by decide) (by decide)) rfl d_L_law_217 ?_
    refine lv_iload hx hb d_L_law_218 (lv_at hl 0 rfl) ?_
    refine lv_i2l hx hb d_L_law_220 rfl ?_
    refine W.lcmp hx hb d_L_law_221 ?_
    refine lv_if_eq (tgt := 227) hx hb d_L_law_222 (by decide) (fun _ => ?_) (fun z => absurd (by rw [hj1 hk0]; exact cmp_r _) z)
    refine lv_goto (tgt := 1183) hx hb d_L_law_227 (by decide) ?_
    refine W.widen (k := 40 + 20 * (i + 1)) (n := 3000 + 400 * (i + 1)) (by omega) (by omega) ?_
    exact kk wC_3 wM_6 H_6 locs_6 ls ⟨hwC, hwM, hd, hS, hSTk.st⟩ (lv_sub hl [2, 3, 4, 5, 6] rfl)

set_option maxHeartbeats 4000000 in
set_option maxRecDepth 100000 in
theorem lc_3 (l : Launch) {p : Program} {e : Env} {s : State} {m : MethodId} {below : List Frame} {meth : Method} {c : Code} {b L : Nat} {xs : Nat → Int32} {g : GT} (hLX : LX p l s m meth c b L xs g) {Q : State → Prop} {i th mo out : Nat} (hi : 7 * i + 7 ≤ L) (kk : ∀ (wC wM : Nat → Option va_E) (H : Heap) (locs : List Loc) (ls : Array Slot), LI g s wC wM th mo out H locs → lv_has ls 7 [(0, .ref b), (1, .ref th), (2, .ref mo), (3, .ref out), (4, .int (nI (7 * i)))] → W p l e room_1 s m #[Value.ref b] below meth c H locs (40 + 20 * (i + 1)) (3000 + 400 * (i + 1)) Q (F0 m 1183 ls [])) {wC wM : Nat → Option va_E} {H : Heap} {locs : List Loc} {ls : Array Slot} (hI : LI g s wC wM th mo out H locs) (hl : lv_has ls 7 [(0, .ref b), (1, .ref th), (2, .ref mo), (3, .ref out), (4, .int (nI (7 * i)))]) : W p l e room_1 s m #[Value.ref b] below meth c H locs (40 + 20 * i) (3000 + 400 * i) Q (F0 m 230 ls []) := by
  obtain ⟨hx, hb, hr, hml, hown, hts, hG, hg0, hX, hbl, hL, hl0⟩ := hLX
  obtain ⟨hwC, hwM, hd, hS, hST⟩ := hI
  have hf := hG.here
  have hK := hf.1
  have hbA : ¬ gB g b := fun z => absurd hbl (Nat.not_lt.mpr (hg0 ▸ z))
  have hA : ∀ q, s.heap.size ≤ q → gB g q := fun q h => by show g.2.2 0 ≤ q; rw [hg0]; exact h
  have hAB : ∀ q, gB g q → gB g q := fun _ h => h
  obtain ⟨f, n, rb, rf, gd, gn, br, mz, ⟨tx, ru, go, bo, zo, sg, fo, garr, barr, ff, gxs, bxs, fz, pl, pa, pss, own, jf, hC⟩, t, ad, F, hM⟩ := hST
  obtain ⟨hth, htx, hsg, hfo, hru, hne, ⟨hgl, hgn, ogo, oga⟩, hgs9, ⟨hbl9, hbn, obo, oba⟩, hbs9, ⟨hzo, ozo⟩, hzr9, hout⟩ := id hC
  obtain ⟨m1, m2, m3, m4, m5, m6, m7, m8, m9, m10⟩ := id hM
  have hz : wC (g.2.2 1) = none := emp_none hf hAB hwC
  rcases Classical.em (xs (7 * i + 5) = 0) with h5 | h5 <;> rcases Classical.em (xs (7 * i + 6) = 0) with h6 | h6
  · refine lv_aload_n hx hb d_L_law_230 rfl (lv_at hl 1 rfl) ?_
    refine lv_aload_n hx hb d_L_law_231 rfl (lv_at hl 0 rfl) ?_
    refine lv_iload hx hb d_L_law_232 (lv_at hl 4 rfl) ?_
    refine lv_iconst (v := 1) hx hb d_L_law_234 (by decide) ?_
    refine lv_iadd hx hb d_L_law_235 ?_
    refine lv_topi (fun v_1 e_1 => ?_)
    obtain rfl : v_1 = nI ((7 * i) + 1) := by rw [e_1]; exact nI_add (7 * i) 1
    refine ww_sld (v := xs ((7 * i) + 1)) hx hb hX hbl hbA hS (vp_in_nI (by omega) (by omega)) (by rw [nI_clamp (by omega)]) d_L_law_236 ?_
    refine lv_aload_n hx hb d_L_law_237 rfl (lv_at hl 0 rfl) ?_
    refine lv_iload hx hb d_L_law_238 (lv_at hl 4 rfl) ?_
    refine lv_iconst (v := 2) hx hb d_L_law_240 (by decide) ?_
    refine lv_iadd hx hb d_L_law_241 ?_
    refine lv_topi (fun v_2 e_2 => ?_)
    obtain rfl : v_2 = nI ((7 * i) + 2) := by rw [e_2]; exact nI_add (7 * i) 2
    refine ww_sld (v := xs ((7 * i) + 2)) hx hb hX hbl hbA hS (vp_in_nI (by omega) (by omega)) (by rw [nI_clamp (by omega)]) d_L_law_242 ?_
    refine lv_aload_n hx hb d_L_law_243 rfl (lv_at hl 0 rfl) ?_
    refine lv_iload hx hb d_L_law_244 (lv_at hl 4 rfl) ?_
    refine lv_iconst (v := 3) hx hb d_L_law_246 (by decide) ?_
    refine lv_iadd hx hb d_L_law_247 ?_
    refine lv_topi (fun v_3 e_3 => ?_)
    obtain rfl : v_3 = nI ((7 * i) + 3) := by rw [e_3]; exact nI_add (7 * i) 3
    refine ww_sld (v := xs ((7 * i) + 3)) hx hb hX hbl hbA hS (vp_in_nI (by omega) (by omega)) (by rw [nI_clamp (by omega)]) d_L_law_248 ?_
    refine lv_aload_n hx hb d_L_law_249 rfl (lv_at hl 0 rfl) ?_
    refine lv_iload hx hb d_L_law_250 (lv_at hl 4 rfl) ?_
    refine lv_iconst (v := 4) hx hb d_L_law_252 (by decide) ?_
    refine lv_iadd hx hb d_L_law_253 ?_
    refine lv_topi (fun v_4 e_4 => ?_)
    obtain rfl : v_4 = nI ((7 * i) + 4) := by rw [e_4]; exact nI_add (7 * i) 4
    refine ww_sld (v := xs ((7 * i) + 4)) hx hb hX hbl hbA hS (vp_in_nI (by omega) (by omega)) (by rw [nI_clamp (by omega)]) d_L_law_254 ?_
    refine lv_aload_n hx hb d_L_law_255 rfl (lv_at hl 0 rfl) ?_
    refine lv_iload hx hb d_L_law_256 (lv_at hl 4 rfl) ?_
    refine lv_iconst (v := 5) hx hb d_L_law_258 (by decide) ?_
    refine lv_iadd hx hb d_L_law_259 ?_
    refine lv_topi (fun v_5 e_5 => ?_)
    obtain rfl : v_5 = nI ((7 * i) + 5) := by rw [e_5]; exact nI_add (7 * i) 5
    refine ww_sld (v := xs ((7 * i) + 5)) hx hb hX hbl hbA hS (vp_in_nI (by omega) (by omega)) (by rw [nI_clamp (by omega)]) d_L_law_260 ?_
    refine lv_if_eq (tgt := 268) hx hb d_L_law_261 (by decide) (fun c_6 => ?_) (fun c_6 => ?_)
    · refine lv_iconst (v := 0) hx hb d_L_law_268 (by decide) ?_
      refine lv_aload_n hx hb d_L_law_269 rfl (lv_at hl 0 rfl) ?_
      refine lv_iload hx hb d_L_law_270 (lv_at hl 4 rfl) ?_
      refine lv_bipush (v := 6) hx hb d_L_law_272 (by decide) ?_
      refine lv_iadd hx hb d_L_law_274 ?_
      refine lv_topi (fun v_7 e_7 => ?_)
      obtain rfl : v_7 = nI ((7 * i) + 6) := by rw [e_7]; exact nI_add (7 * i) 6
      refine ww_sld (v := xs ((7 * i) + 6)) hx hb hX hbl hbA hS (vp_in_nI (by omega) (by omega)) (by rw [nI_clamp (by omega)]) d_L_law_275 ?_
      refine lv_if_eq (tgt := 283) hx hb d_L_law_276 (by decide) (fun c_8 => ?_) (fun c_8 => ?_)
      · refine lv_iconst (v := 0) hx hb d_L_law_283 (by decide) ?_
        refine lv_aload_n hx hb d_L_law_284 rfl (lv_at hl 3 rfl) ?_
        refine ww_i (cSW (As := [.ref th, .int (xs ((7 * i) + 1)), .int (xs ((7 * i) + 2)), .int (xs ((7 * i) + 3)), .int (xs ((7 * i) + 4)), .int 0, .int 0, .ref out]) (rest := []) 8 ⟨hx, hb, hml, hown, hts⟩ (c_L_good l hl0 g H.size wC th tx ru (b2 rb) go bo zo garr gxs gd (xs ((7 * i) + 1)) (xs ((7 * i) + 2)) (xs ((7 * i) + 3)) (xs ((7 * i) + 4)) 0 0 out jf hth hgl hC.gs hout) k_288 k_286 k_0 k_287 (by decide +kernel) ⟨Nat.le_of_ble_eq_true rfl, Nat.le_of_ble_eq_true rfl⟩ rfl rfl ⟨prW_blind _ _ _ _, prW_at hG hAB hS hwC⟩ rfl hl.1 rfl (Nat.le_of_ble_eq_true rfl) d_L_law_285 ⟨by show _ ≤ 601024; omega, by show _ ≤ 7293034; omega⟩) hwC hS hA (fun r_9 wC_9 H_9 locs_9 e_9 hwC1 hS hz_9 hk_9 hg_9 => ?_)
        have hwMo := hwM
        have hwM := hwM.other hd.symm hk_9
        have hd := dj.step hd hwMo hg_9
        have hwC := hwC1
        refine lv_istore (lv' := [(5, .int r_9), (0, .ref b), (1, .ref th), (2, .ref mo), (3, .ref out), (4, .int (nI (7 * i)))]) hx hb d_L_law_288 hl (by decide) rfl (fun ls hl => ?_)
        refine lv_aload_n hx hb d_L_law_290 rfl (lv_at hl 3 rfl) ?_
        refine lv_aload_n hx hb d_L_law_291 rfl (lv_at hl 1 rfl) ?_
        refine lv_iload hx hb d_L_law_292 (lv_at hl 5 rfl) ?_
        refine lv_iconst (v := 1) hx hb d_L_law_294 (by decide) ?_
        refine lv_iadd hx hb d_L_law_295 ?_
        refine lv_topi (fun v_10 e_10 => ?_)
        obtain rfl : v_10 = nI ((7 * i) + 1) := by rw [e_10]; exact nI_add (7 * i) 1
        refine ww_sld (v := xs ((7 * i) + 1)) hx hb hX hbl hbA hS (vp_in_nI (by omega) (by omega)) (by rw [nI_clamp (by omega)]) d_L_law_296 ?_
        refine lv_aload_n hx hb d_L_law_297 rfl (lv_at hl 1 rfl) ?_
        refine lv_iload hx hb d_L_law_298 (lv_at hl 5 rfl) ?_
        refine lv_iconst (v := 2) hx hb d_L_law_300 (by decide) ?_
        refine lv_iadd hx hb d_L_law_301 ?_
        refine lv_topi (fun v_11 e_11 => ?_)
        obtain rfl : v_11 = nI ((7 * i) + 2) := by rw [e_11]; exact nI_add (7 * i) 2
        refine ww_sld (v := xs ((7 * i) + 2)) hx hb hX hbl hbA hS (vp_in_nI (by omega) (by omega)) (by rw [nI_clamp (by omega)]) d_L_law_302 ?_
        refine lv_aload_n hx hb d_L_law_303 rfl (lv_at hl 1 rfl) ?_
        refine lv_iload hx hb d_L_law_304 (lv_at hl 5 rfl) ?_
        refine lv_iconst (v := 3) hx hb d_L_law_306 (by decide) ?_
        refine lv_iadd hx hb d_L_law_307 ?_
        refine lv_topi (fun v_12 e_12 => ?_)
        obtain rfl : v_12 = nI ((7 * i) + 3) := by rw [e_12]; exact nI_add (7 * i) 3
        refine ww_sld (v := xs ((7 * i) + 3)) hx hb hX hbl hbA hS (vp_in_nI (by omega) (by omega)) (by rw [nI_clamp (by omega)]) d_L_law_308 ?_
        refine lv_aload_n hx hb d_L_law_309 rfl (lv_at hl 1 rfl) ?_
        refine lv_iload hx hb d_L_law_310 (lv_at hl 5 rfl) ?_
        refine lv_iconst (v := 4) hx hb d_L_law_312 (by decide) ?_
        refine lv_iadd hx hb d_L_law_313 ?_
        refine lv_topi (fun v_13 e_13 => ?_)
        obtain rfl : v_13 = nI ((7 * i) + 4) := by rw [e_13]; exact nI_add (7 * i) 4
        refine ww_sld (v := xs ((7 * i) + 4)) hx hb hX hbl hbA hS (vp_in_nI (by omega) (by omega)) (by rw [nI_clamp (by omega)]) d_L_law_314 ?_
        refine lv_aload_n hx hb d_L_law_315 rfl (lv_at hl 1 rfl) ?_
        refine lv_iload hx hb d_L_law_316 (lv_at hl 5 rfl) ?_
        refine lv_iconst (v := 5) hx hb d_L_law_318 (by decide) ?_
        refine lv_iadd hx hb d_L_law_319 ?_
        refine lv_topi (fun v_14 e_14 => ?_)
        obtain rfl : v_14 = nI ((7 * i) + 5) := by rw [e_14]; exact nI_add (7 * i) 5
        refine ww_sld (v := xs ((7 * i) + 5)) hx hb hX hbl hbA hS (vp_in_nI (by omega) (by omega)) (by rw [nI_clamp (by omega)]) d_L_law_320 ?_
        refine lv_if_eq (tgt := 328) hx hb d_L_law_321 (by decide) (fun c_15 => ?_) (fun c_15 => ?_)
        · refine lv_iconst (v := 0) hx hb d_L_law_328 (by decide) ?_
          refine lv_aload_n hx hb d_L_law_329 rfl (lv_at hl 1 rfl) ?_
          refine lv_iload hx hb d_L_law_330 (lv_at hl 5 rfl) ?_
          refine lv_bipush (v := 6) hx hb d_L_law_332 (by decide) ?_
          refine lv_iadd hx hb d_L_law_334 ?_
          refine lv_topi (fun v_16 e_16 => ?_)
          obtain rfl : v_16 = nI ((7 * i) + 6) := by rw [e_16]; exact nI_add (7 * i) 6
          refine ww_sld (v := xs ((7 * i) + 6)) hx hb hX hbl hbA hS (vp_in_nI (by omega) (by omega)) (by rw [nI_clamp (by omega)]) d_L_law_335 ?_
          refine lv_if_eq (tgt := 343) hx hb d_L_law_336 (by decide) (fun c_17 => ?_) (fun c_17 => ?_)
          · refine lv_iconst (v := 0) hx hb d_L_law_343 (by decide) ?_
            refine ww_i (cV (As := [.int (xs ((7 * i) + 1)), .int (xs ((7 * i) + 2)), .int (xs ((7 * i) + 3)), .int (xs ((7 * i) + 4)), .int 0, .int 0]) (rest := []) (C := "DangerTablesModel") 6 ⟨hx, hb, hml, hown, hts⟩ (c_M_good l g H_9.size wM mo ad t (b2 rb) n gn br.length F (xs ((7 * i) + 1)) (xs ((7 * i) + 2)) (xs ((7 * i) + 3)) (xs ((7 * i) + 4)) 0 0 false false m1 m6.1 rfl rfl) k_755 k_752 k_7 k_753 k_754 (by decide +kernel) ⟨Nat.le_of_ble_eq_true rfl, Nat.le_of_ble_eq_true rfl⟩ rfl rfl ⟨prW_blind _ _ _ _, hwM.recv hK m1.1 rfl, prW_at hG hAB hS hwM⟩ rfl hl.1 rfl (Nat.le_of_ble_eq_true rfl) d_L_law_344 ⟨by show _ ≤ 601024; omega, by show _ ≤ 7293034; omega⟩) hwM hS hA (fun r_18 wM_18 H_18 locs_18 e_18 hwM1 hS hz_18 hk_18 hg_18 => ?_)
            have hwCo := hwC
            have hwC := hwC.other hd hk_18
            have hd := (dj.step hd.symm hwCo hg_18).symm
            have hwM := hwM1
            have hSTk := op_good hz hC hM e_9 e_18
            obtain ⟨f1, n1, rb1, rf1, gd1, gn1, br1, mz1, tx1, ru1, go1, bo1, zo1, sg1, fo1, garr1, barr1, ff1, gxs1, bxs1, fz1, pl1, pa1, pss1, own1, jf1, ad1, F1, hC1, hM1, hj1⟩ := id hSTk
            have hout1 := hC1.2.2.2.2.2.2.2.2.2.2.2.2
            refine lv_istore (lv' := [(6, .int r_18), (5, .int r_9), (0, .ref b), (1, .ref th), (2, .ref mo), (3, .ref out), (4, .int (nI (7 * i)))]) hx hb d_L_law_347 hl (by decide) rfl (fun ls hl => ?_)
            refine lv_aload_n hx hb d_L_law_349 rfl (lv_at hl 4 rfl) ?_
            refine wr_i (cV (As := []) (rest := []) (C := "DangerTablesModel") 0 ⟨hx, hb, hml, hown, hts⟩ (c_M_thrown l g wM_18 mo ad1 r_9 (b2 rb1) n1 gn1 br1.length F1 hM1.1) k_726 k_723 k_7 k_724 k_725 (by decide +kernel) ⟨Nat.le_of_ble_eq_true rfl, Nat.le_of_ble_eq_true rfl⟩ rfl rfl ⟨prR_blind _ _ _, hwM.recv hK hM1.1.1 rfl, prR_at hG hAB hS hwM⟩ rfl hl.1 rfl (Nat.le_of_ble_eq_true rfl) d_L_law_350 ⟨by show _ ≤ 601024; omega, by show _ ≤ 7293034; omega⟩) (fun r_t e_t => ?_)
            refine lv_iload hx hb d_L_law_353 (lv_at hl 1 rfl) ?_
            refine lv_icmp_eq (tgt := 360) hx hb d_L_law_355 (by decide) (fun _ => ?_) (fun z => absurd e_t z)
            refine lv_iload hx hb d_L_law_360 (lv_at hl 1 rfl) ?_
            refine lv_if_ne (tgt := 377) hx hb d_L_law_362 (by decide) (fun c_19 => ?_) (fun c_19 => ?_)
            · refine lv_goto (tgt := 1183) hx hb d_L_law_377 (by decide) ?_
              refine W.widen (k := 40 + 20 * (i + 1)) (n := 3000 + 400 * (i + 1)) (by omega) (by omega) ?_
              exact kk wC_9 wM_18 H_18 locs_18 ls ⟨hwC, hwM, hd, hS, hSTk.st⟩ (lv_sub hl [2, 3, 4, 5, 6] rfl)
            · have hk0 : r_9 = 0 := c_19
              refine lv_aload_n hx hb d_L_law_365 rfl (lv_at hl 5 rfl) ?_
              refine lv_iconst (v := 0) hx hb d_L_law_366 (by decide) ?_
              refine ww_lald (v := jf1 0) hx hb hK hwC 2 hout1 rfl (vp_in_nI (n := 0) (by decide) (by decide)) rfl d_L_law_367 ?_
              refine lv_iload hx hb d_L_law_368 (lv_at hl 0 rfl) ?_
              refine lv_i2l hx hb d_L_law_370 rfl ?_
              refine W.lcmp hx hb d_L_law_371 ?_
              refine lv_if_eq (tgt := 377) hx hb d_L_law_372 (by decide) (fun _ => ?_) (fun z => absurd (by rw [hj1 hk0]; exact cmp_r _) z)
              refine lv_goto (tgt := 1183) hx hb d_L_law_377 (by decide) ?_
              refine W.widen (k := 40 + 20 * (i + 1)) (n := 3000 + 400 * (i + 1)) (by omega) (by omega) ?_
              exact kk wC_9 wM_18 H_18 locs_18 ls ⟨hwC, hwM, hd, hS, hSTk.st⟩ (lv_sub hl [2, 3, 4, 5, 6] rfl)
          · exact absurd h6 c_17
        · exact absurd h5 c_15
      · exact absurd h6 c_8
    · exact absurd h5 c_6
  · refine lv_aload_n hx hb d_L_law_230 rfl (lv_at hl 1 rfl) ?_
    refine lv_aload_n hx hb d_L_law_231 rfl (lv_at hl 0 rfl) ?_
    refine lv_iload hx hb d_L_law_232 (lv_at hl 4 rfl) ?_
    refine lv_iconst (v := 1) hx hb d_L_law_234 (by decide) ?_
    refine lv_iadd hx hb d_L_law_235 ?_
    refine lv_topi (fun v_20 e_20 => ?_)
    obtain rfl : v_20 = nI ((7 * i) + 1) := by rw [e_20]; exact nI_add (7 * i) 1
    refine ww_sld (v := xs ((7 * i) + 1)) hx hb hX hbl hbA hS (vp_in_nI (by omega) (by omega)) (by rw [nI_clamp (by omega)]) d_L_law_236 ?_
    refine lv_aload_n hx hb d_L_law_237 rfl (lv_at hl 0 rfl) ?_
    refine lv_iload hx hb d_L_law_238 (lv_at hl 4 rfl) ?_
    refine lv_iconst (v := 2) hx hb d_L_law_240 (by decide) ?_
    refine lv_iadd hx hb d_L_law_241 ?_
    refine lv_topi (fun v_21 e_21 => ?_)
    obtain rfl : v_21 = nI ((7 * i) + 2) := by rw [e_21]; exact nI_add (7 * i) 2
    refine ww_sld (v := xs ((7 * i) + 2)) hx hb hX hbl hbA hS (vp_in_nI (by omega) (by omega)) (by rw [nI_clamp (by omega)]) d_L_law_242 ?_
    refine lv_aload_n hx hb d_L_law_243 rfl (lv_at hl 0 rfl) ?_
    refine lv_iload hx hb d_L_law_244 (lv_at hl 4 rfl) ?_
    refine lv_iconst (v := 3) hx hb d_L_law_246 (by decide) ?_
    refine lv_iadd hx hb d_L_law_247 ?_
    refine lv_topi (fun v_22 e_22 => ?_)
    obtain rfl : v_22 = nI ((7 * i) + 3) := by rw [e_22]; exact nI_add (7 * i) 3
    refine ww_sld (v := xs ((7 * i) + 3)) hx hb hX hbl hbA hS (vp_in_nI (by omega) (by omega)) (by rw [nI_clamp (by omega)]) d_L_law_248 ?_
    refine lv_aload_n hx hb d_L_law_249 rfl (lv_at hl 0 rfl) ?_
    refine lv_iload hx hb d_L_law_250 (lv_at hl 4 rfl) ?_
    refine lv_iconst (v := 4) hx hb d_L_law_252 (by decide) ?_
    refine lv_iadd hx hb d_L_law_253 ?_
    refine lv_topi (fun v_23 e_23 => ?_)
    obtain rfl : v_23 = nI ((7 * i) + 4) := by rw [e_23]; exact nI_add (7 * i) 4
    refine ww_sld (v := xs ((7 * i) + 4)) hx hb hX hbl hbA hS (vp_in_nI (by omega) (by omega)) (by rw [nI_clamp (by omega)]) d_L_law_254 ?_
    refine lv_aload_n hx hb d_L_law_255 rfl (lv_at hl 0 rfl) ?_
    refine lv_iload hx hb d_L_law_256 (lv_at hl 4 rfl) ?_
    refine lv_iconst (v := 5) hx hb d_L_law_258 (by decide) ?_
    refine lv_iadd hx hb d_L_law_259 ?_
    refine lv_topi (fun v_24 e_24 => ?_)
    obtain rfl : v_24 = nI ((7 * i) + 5) := by rw [e_24]; exact nI_add (7 * i) 5
    refine ww_sld (v := xs ((7 * i) + 5)) hx hb hX hbl hbA hS (vp_in_nI (by omega) (by omega)) (by rw [nI_clamp (by omega)]) d_L_law_260 ?_
    refine lv_if_eq (tgt := 268) hx hb d_L_law_261 (by decide) (fun c_25 => ?_) (fun c_25 => ?_)
    · refine lv_iconst (v := 0) hx hb d_L_law_268 (by decide) ?_
      refine lv_aload_n hx hb d_L_law_269 rfl (lv_at hl 0 rfl) ?_
      refine lv_iload hx hb d_L_law_270 (lv_at hl 4 rfl) ?_
      refine lv_bipush (v := 6) hx hb d_L_law_272 (by decide) ?_
      refine lv_iadd hx hb d_L_law_274 ?_
      refine lv_topi (fun v_26 e_26 => ?_)
      obtain rfl : v_26 = nI ((7 * i) + 6) := by rw [e_26]; exact nI_add (7 * i) 6
      refine ww_sld (v := xs ((7 * i) + 6)) hx hb hX hbl hbA hS (vp_in_nI (by omega) (by omega)) (by rw [nI_clamp (by omega)]) d_L_law_275 ?_
      refine lv_if_eq (tgt := 283) hx hb d_L_law_276 (by decide) (fun c_27 => ?_) (fun c_27 => ?_)
      · exact absurd c_27 h6
      · refine lv_iconst (v := 1) hx hb d_L_law_279 (by decide) ?_
        refine lv_goto (tgt := 284) hx hb d_L_law_280 (by decide) ?_
        refine lv_aload_n hx hb d_L_law_284 rfl (lv_at hl 3 rfl) ?_
        refine ww_i (cSW (As := [.ref th, .int (xs ((7 * i) + 1)), .int (xs ((7 * i) + 2)), .int (xs ((7 * i) + 3)), .int (xs ((7 * i) + 4)), .int 0, .int 1, .ref out]) (rest := []) 8 ⟨hx, hb, hml, hown, hts⟩ (c_L_good l hl0 g H.size wC th tx ru (b2 rb) go bo zo garr gxs gd (xs ((7 * i) + 1)) (xs ((7 * i) + 2)) (xs ((7 * i) + 3)) (xs ((7 * i) + 4)) 0 1 out jf hth hgl hC.gs hout) k_288 k_286 k_0 k_287 (by decide +kernel) ⟨Nat.le_of_ble_eq_true rfl, Nat.le_of_ble_eq_true rfl⟩ rfl rfl ⟨prW_blind _ _ _ _, prW_at hG hAB hS hwC⟩ rfl hl.1 rfl (Nat.le_of_ble_eq_true rfl) d_L_law_285 ⟨by show _ ≤ 601024; omega, by show _ ≤ 7293034; omega⟩) hwC hS hA (fun r_28 wC_28 H_28 locs_28 e_28 hwC1 hS hz_28 hk_28 hg_28 => ?_)
        have hwMo := hwM
        have hwM := hwM.other hd.symm hk_28
        have hd := dj.step hd hwMo hg_28
        have hwC := hwC1
        refine lv_istore (lv' := [(5, .int r_28), (0, .ref b), (1, .ref th), (2, .ref mo), (3, .ref out), (4, .int (nI (7 * i)))]) hx hb d_L_law_288 hl (by decide) rfl (fun ls hl => ?_)
        refine lv_aload_n hx hb d_L_law_290 rfl (lv_at hl 3 rfl) ?_
        refine lv_aload_n hx hb d_L_law_291 rfl (lv_at hl 1 rfl) ?_
        refine lv_iload hx hb d_L_law_292 (lv_at hl 5 rfl) ?_
        refine lv_iconst (v := 1) hx hb d_L_law_294 (by decide) ?_
        refine lv_iadd hx hb d_L_law_295 ?_
        refine lv_topi (fun v_29 e_29 => ?_)
        obtain rfl : v_29 = nI ((7 * i) + 1) := by rw [e_29]; exact nI_add (7 * i) 1
        refine ww_sld (v := xs ((7 * i) + 1)) hx hb hX hbl hbA hS (vp_in_nI (by omega) (by omega)) (by rw [nI_clamp (by omega)]) d_L_law_296 ?_
        refine lv_aload_n hx hb d_L_law_297 rfl (lv_at hl 1 rfl) ?_
        refine lv_iload hx hb d_L_law_298 (lv_at hl 5 rfl) ?_
        refine lv_iconst (v := 2) hx hb d_L_law_300 (by decide) ?_
        refine lv_iadd hx hb d_L_law_301 ?_
        refine lv_topi (fun v_30 e_30 => ?_)
        obtain rfl : v_30 = nI ((7 * i) + 2) := by rw [e_30]; exact nI_add (7 * i) 2
        refine ww_sld (v := xs ((7 * i) + 2)) hx hb hX hbl hbA hS (vp_in_nI (by omega) (by omega)) (by rw [nI_clamp (by omega)]) d_L_law_302 ?_
        refine lv_aload_n hx hb d_L_law_303 rfl (lv_at hl 1 rfl) ?_
        refine lv_iload hx hb d_L_law_304 (lv_at hl 5 rfl) ?_
        refine lv_iconst (v := 3) hx hb d_L_law_306 (by decide) ?_
        refine lv_iadd hx hb d_L_law_307 ?_
        refine lv_topi (fun v_31 e_31 => ?_)
        obtain rfl : v_31 = nI ((7 * i) + 3) := by rw [e_31]; exact nI_add (7 * i) 3
        refine ww_sld (v := xs ((7 * i) + 3)) hx hb hX hbl hbA hS (vp_in_nI (by omega) (by omega)) (by rw [nI_clamp (by omega)]) d_L_law_308 ?_
        refine lv_aload_n hx hb d_L_law_309 rfl (lv_at hl 1 rfl) ?_
        refine lv_iload hx hb d_L_law_310 (lv_at hl 5 rfl) ?_
        refine lv_iconst (v := 4) hx hb d_L_law_312 (by decide) ?_
        refine lv_iadd hx hb d_L_law_313 ?_
        refine lv_topi (fun v_32 e_32 => ?_)
        obtain rfl : v_32 = nI ((7 * i) + 4) := by rw [e_32]; exact nI_add (7 * i) 4
        refine ww_sld (v := xs ((7 * i) + 4)) hx hb hX hbl hbA hS (vp_in_nI (by omega) (by omega)) (by rw [nI_clamp (by omega)]) d_L_law_314 ?_
        refine lv_aload_n hx hb d_L_law_315 rfl (lv_at hl 1 rfl) ?_
        refine lv_iload hx hb d_L_law_316 (lv_at hl 5 rfl) ?_
        refine lv_iconst (v := 5) hx hb d_L_law_318 (by decide) ?_
        refine lv_iadd hx hb d_L_law_319 ?_
        refine lv_topi (fun v_33 e_33 => ?_)
        obtain rfl : v_33 = nI ((7 * i) + 5) := by rw [e_33]; exact nI_add (7 * i) 5
        refine ww_sld (v := xs ((7 * i) + 5)) hx hb hX hbl hbA hS (vp_in_nI (by omega) (by omega)) (by rw [nI_clamp (by omega)]) d_L_law_320 ?_
        refine lv_if_eq (tgt := 328) hx hb d_L_law_321 (by decide) (fun c_34 => ?_) (fun c_34 => ?_)
        · refine lv_iconst (v := 0) hx hb d_L_law_328 (by decide) ?_
          refine lv_aload_n hx hb d_L_law_329 rfl (lv_at hl 1 rfl) ?_
          refine lv_iload hx hb d_L_law_330 (lv_at hl 5 rfl) ?_
          refine lv_bipush (v := 6) hx hb d_L_law_332 (by decide) ?_
          refine lv_iadd hx hb d_L_law_334 ?_
          refine lv_topi (fun v_35 e_35 => ?_)
          obtain rfl : v_35 = nI ((7 * i) + 6) := by rw [e_35]; exact nI_add (7 * i) 6
          refine ww_sld (v := xs ((7 * i) + 6)) hx hb hX hbl hbA hS (vp_in_nI (by omega) (by omega)) (by rw [nI_clamp (by omega)]) d_L_law_335 ?_
          refine lv_if_eq (tgt := 343) hx hb d_L_law_336 (by decide) (fun c_36 => ?_) (fun c_36 => ?_)
          · exact absurd c_36 h6
          · refine lv_iconst (v := 1) hx hb d_L_law_339 (by decide) ?_
            refine lv_goto (tgt := 344) hx hb d_L_law_340 (by decide) ?_
            refine ww_i (cV (As := [.int (xs ((7 * i) + 1)), .int (xs ((7 * i) + 2)), .int (xs ((7 * i) + 3)), .int (xs ((7 * i) + 4)), .int 0, .int 1]) (rest := []) (C := "DangerTablesModel") 6 ⟨hx, hb, hml, hown, hts⟩ (c_M_good l g H_28.size wM mo ad t (b2 rb) n gn br.length F (xs ((7 * i) + 1)) (xs ((7 * i) + 2)) (xs ((7 * i) + 3)) (xs ((7 * i) + 4)) 0 1 false true m1 m6.1 rfl rfl) k_755 k_752 k_7 k_753 k_754 (by decide +kernel) ⟨Nat.le_of_ble_eq_true rfl, Nat.le_of_ble_eq_true rfl⟩ rfl rfl ⟨prW_blind _ _ _ _, hwM.recv hK m1.1 rfl, prW_at hG hAB hS hwM⟩ rfl hl.1 rfl (Nat.le_of_ble_eq_true rfl) d_L_law_344 ⟨by show _ ≤ 601024; omega, by show _ ≤ 7293034; omega⟩) hwM hS hA (fun r_37 wM_37 H_37 locs_37 e_37 hwM1 hS hz_37 hk_37 hg_37 => ?_)
            have hwCo := hwC
            have hwC := hwC.other hd hk_37
            have hd := (dj.step hd.symm hwCo hg_37).symm
            have hwM := hwM1
            have hSTk := op_good hz hC hM e_28 e_37
            obtain ⟨f1, n1, rb1, rf1, gd1, gn1, br1, mz1, tx1, ru1, go1, bo1, zo1, sg1, fo1, garr1, barr1, ff1, gxs1, bxs1, fz1, pl1, pa1, pss1, own1, jf1, ad1, F1, hC1, hM1, hj1⟩ := id hSTk
            have hout1 := hC1.2.2.2.2.2.2.2.2.2.2.2.2
            refine lv_istore (lv' := [(6, .int r_37), (5, .int r_28), (0, .ref b), (1, .ref th), (2, .ref mo), (3, .ref out), (4, .int (nI (7 * i)))]) hx hb d_L_law_347 hl (by decide) rfl (fun ls hl => ?_)
            refine lv_aload_n hx hb d_L_law_349 rfl (lv_at hl 4 rfl) ?_
            refine wr_i (cV (As := []) (rest := []) (C := "DangerTablesModel") 0 ⟨hx, hb, hml, hown, hts⟩ (c_M_thrown l g wM_37 mo ad1 r_28 (b2 rb1) n1 gn1 br1.length F1 hM1.1) k_726 k_723 k_7 k_724 k_725 (by decide +kernel) ⟨Nat.le_of_ble_eq_true rfl, Nat.le_of_ble_eq_true rfl⟩ rfl rfl ⟨prR_blind _ _ _, hwM.recv hK hM1.1.1 rfl, prR_at hG hAB hS hwM⟩ rfl hl.1 rfl (Nat.le_of_ble_eq_true rfl) d_L_law_350 ⟨by show _ ≤ 601024; omega, by show _ ≤ 7293034; omega⟩) (fun r_t e_t => ?_)
            refine lv_iload hx hb d_L_law_353 (lv_at hl 1 rfl) ?_
            refine lv_icmp_eq (tgt := 360) hx hb d_L_law_355 (by decide) (fun _ => ?_) (fun z => absurd e_t z)
            refine lv_iload hx hb d_L_law_360 (lv_at hl 1 rfl) ?_
            refine lv_if_ne (tgt := 377) hx hb d_L_law_362 (by decide) (fun c_38 => ?_) (fun c_38 => ?_)
            · refine lv_goto (tgt := 1183) hx hb d_L_law_377 (by decide) ?_
              refine W.widen (k := 40 + 20 * (i + 1)) (n := 3000 + 400 * (i + 1)) (by omega) (by omega) ?_
              exact kk wC_28 wM_37 H_37 locs_37 ls ⟨hwC, hwM, hd, hS, hSTk.st⟩ (lv_sub hl [2, 3, 4, 5, 6] rfl)
            · have hk0 : r_28 = 0 := c_38
              refine lv_aload_n hx hb d_L_law_365 rfl (lv_at hl 5 rfl) ?_
              refine lv_iconst (v := 0) hx hb d_L_law_366 (by decide) ?_
              refine ww_lald (v := jf1 0) hx hb hK hwC 2 hout1 rfl (vp_in_nI (n := 0) (by decide) (by decide)) rfl d_L_law_367 ?_
              refine lv_iload hx hb d_L_law_368 (lv_at hl 0 rfl) ?_
              refine lv_i2l hx hb d_L_law_370 rfl ?_
              refine W.lcmp hx hb d_L_law_371 ?_
              refine lv_if_eq (tgt := 377) hx hb d_L_law_372 (by decide) (fun _ => ?_) (fun z => absurd (by rw [hj1 hk0]; exact cmp_r _) z)
              refine lv_goto (tgt := 1183) hx hb d_L_law_377 (by decide) ?_
              refine W.widen (k := 40 + 20 * (i + 1)) (n := 3000 + 400 * (i + 1)) (by omega) (by omega) ?_
              exact kk wC_28 wM_37 H_37 locs_37 ls ⟨hwC, hwM, hd, hS, hSTk.st⟩ (lv_sub hl [2, 3, 4, 5, 6] rfl)
        · exact absurd h5 c_34
    · exact absurd h5 c_25
  · refine lv_aload_n hx hb d_L_law_230 rfl (lv_at hl 1 rfl) ?_
    refine lv_aload_n hx hb d_L_law_231 rfl (lv_at hl 0 rfl) ?_
    refine lv_iload hx hb d_L_law_232 (lv_at hl 4 rfl) ?_
    refine lv_iconst (v := 1) hx hb d_L_law_234 (by decide) ?_
    refine lv_iadd hx hb d_L_law_235 ?_
    refine lv_topi (fun v_39 e_39 => ?_)
    obtain rfl : v_39 = nI ((7 * i) + 1) := by rw [e_39]; exact nI_add (7 * i) 1
    refine ww_sld (v := xs ((7 * i) + 1)) hx hb hX hbl hbA hS (vp_in_nI (by omega) (by omega)) (by rw [nI_clamp (by omega)]) d_L_law_236 ?_
    refine lv_aload_n hx hb d_L_law_237 rfl (lv_at hl 0 rfl) ?_
    refine lv_iload hx hb d_L_law_238 (lv_at hl 4 rfl) ?_
    refine lv_iconst (v := 2) hx hb d_L_law_240 (by decide) ?_
    refine lv_iadd hx hb d_L_law_241 ?_
    refine lv_topi (fun v_40 e_40 => ?_)
    obtain rfl : v_40 = nI ((7 * i) + 2) := by rw [e_40]; exact nI_add (7 * i) 2
    refine ww_sld (v := xs ((7 * i) + 2)) hx hb hX hbl hbA hS (vp_in_nI (by omega) (by omega)) (by rw [nI_clamp (by omega)]) d_L_law_242 ?_
    refine lv_aload_n hx hb d_L_law_243 rfl (lv_at hl 0 rfl) ?_
    refine lv_iload hx hb d_L_law_244 (lv_at hl 4 rfl) ?_
    refine lv_iconst (v := 3) hx hb d_L_law_246 (by decide) ?_
    refine lv_iadd hx hb d_L_law_247 ?_
    refine lv_topi (fun v_41 e_41 => ?_)
    obtain rfl : v_41 = nI ((7 * i) + 3) := by rw [e_41]; exact nI_add (7 * i) 3
    refine ww_sld (v := xs ((7 * i) + 3)) hx hb hX hbl hbA hS (vp_in_nI (by omega) (by omega)) (by rw [nI_clamp (by omega)]) d_L_law_248 ?_
    refine lv_aload_n hx hb d_L_law_249 rfl (lv_at hl 0 rfl) ?_
    refine lv_iload hx hb d_L_law_250 (lv_at hl 4 rfl) ?_
    refine lv_iconst (v := 4) hx hb d_L_law_252 (by decide) ?_
    refine lv_iadd hx hb d_L_law_253 ?_
    refine lv_topi (fun v_42 e_42 => ?_)
    obtain rfl : v_42 = nI ((7 * i) + 4) := by rw [e_42]; exact nI_add (7 * i) 4
    refine ww_sld (v := xs ((7 * i) + 4)) hx hb hX hbl hbA hS (vp_in_nI (by omega) (by omega)) (by rw [nI_clamp (by omega)]) d_L_law_254 ?_
    refine lv_aload_n hx hb d_L_law_255 rfl (lv_at hl 0 rfl) ?_
    refine lv_iload hx hb d_L_law_256 (lv_at hl 4 rfl) ?_
    refine lv_iconst (v := 5) hx hb d_L_law_258 (by decide) ?_
    refine lv_iadd hx hb d_L_law_259 ?_
    refine lv_topi (fun v_43 e_43 => ?_)
    obtain rfl : v_43 = nI ((7 * i) + 5) := by rw [e_43]; exact nI_add (7 * i) 5
    refine ww_sld (v := xs ((7 * i) + 5)) hx hb hX hbl hbA hS (vp_in_nI (by omega) (by omega)) (by rw [nI_clamp (by omega)]) d_L_law_260 ?_
    refine lv_if_eq (tgt := 268) hx hb d_L_law_261 (by decide) (fun c_44 => ?_) (fun c_44 => ?_)
    · exact absurd c_44 h5
    · refine lv_iconst (v := 1) hx hb d_L_law_264 (by decide) ?_
      refine lv_goto (tgt := 269) hx hb d_L_law_265 (by decide) ?_
      refine lv_aload_n hx hb d_L_law_269 rfl (lv_at hl 0 rfl) ?_
      refine lv_iload hx hb d_L_law_270 (lv_at hl 4 rfl) ?_
      refine lv_bipush (v := 6) hx hb d_L_law_272 (by decide) ?_
      refine lv_iadd hx hb d_L_law_274 ?_
      refine lv_topi (fun v_45 e_45 => ?_)
      obtain rfl : v_45 = nI ((7 * i) + 6) := by rw [e_45]; exact nI_add (7 * i) 6
      refine ww_sld (v := xs ((7 * i) + 6)) hx hb hX hbl hbA hS (vp_in_nI (by omega) (by omega)) (by rw [nI_clamp (by omega)]) d_L_law_275 ?_
      refine lv_if_eq (tgt := 283) hx hb d_L_law_276 (by decide) (fun c_46 => ?_) (fun c_46 => ?_)
      · refine lv_iconst (v := 0) hx hb d_L_law_283 (by decide) ?_
        refine lv_aload_n hx hb d_L_law_284 rfl (lv_at hl 3 rfl) ?_
        refine ww_i (cSW (As := [.ref th, .int (xs ((7 * i) + 1)), .int (xs ((7 * i) + 2)), .int (xs ((7 * i) + 3)), .int (xs ((7 * i) + 4)), .int 1, .int 0, .ref out]) (rest := []) 8 ⟨hx, hb, hml, hown, hts⟩ (c_L_good l hl0 g H.size wC th tx ru (b2 rb) go bo zo garr gxs gd (xs ((7 * i) + 1)) (xs ((7 * i) + 2)) (xs ((7 * i) + 3)) (xs ((7 * i) + 4)) 1 0 out jf hth hgl hC.gs hout) k_288 k_286 k_0 k_287 (by decide +kernel) ⟨Nat.le_of_ble_eq_true rfl, Nat.le_of_ble_eq_true rfl⟩ rfl rfl ⟨prW_blind _ _ _ _, prW_at hG hAB hS hwC⟩ rfl hl.1 rfl (Nat.le_of_ble_eq_true rfl) d_L_law_285 ⟨by show _ ≤ 601024; omega, by show _ ≤ 7293034; omega⟩) hwC hS hA (fun r_47 wC_47 H_47 locs_47 e_47 hwC1 hS hz_47 hk_47 hg_47 => ?_)
        have hwMo := hwM
        have hwM := hwM.other hd.symm hk_47
        have hd := dj.step hd hwMo hg_47
        have hwC := hwC1
        refine lv_istore (lv' := [(5, .int r_47), (0, .ref b), (1, .ref th), (2, .ref mo), (3, .ref out), (4, .int (nI (7 * i)))]) hx hb d_L_law_288 hl (by decide) rfl (fun ls hl => ?_)
        refine lv_aload_n hx hb d_L_law_290 rfl (lv_at hl 3 rfl) ?_
        refine lv_aload_n hx hb d_L_law_291 rfl (lv_at hl 1 rfl) ?_
        refine lv_iload hx hb d_L_law_292 (lv_at hl 5 rfl) ?_
        refine lv_iconst (v := 1) hx hb d_L_law_294 (by decide) ?_
        refine lv_iadd hx hb d_L_law_295 ?_
        refine lv_topi (fun v_48 e_48 => ?_)
        obtain rfl : v_48 = nI ((7 * i) + 1) := by rw [e_48]; exact nI_add (7 * i) 1
        refine ww_sld (v := xs ((7 * i) + 1)) hx hb hX hbl hbA hS (vp_in_nI (by omega) (by omega)) (by rw [nI_clamp (by omega)]) d_L_law_296 ?_
        refine lv_aload_n hx hb d_L_law_297 rfl (lv_at hl 1 rfl) ?_
        refine lv_iload hx hb d_L_law_298 (lv_at hl 5 rfl) ?_
        refine lv_iconst (v := 2) hx hb d_L_law_300 (by decide) ?_
        refine lv_iadd hx hb d_L_law_301 ?_
        refine lv_topi (fun v_49 e_49 => ?_)
        obtain rfl : v_49 = nI ((7 * i) + 2) := by rw [e_49]; exact nI_add (7 * i) 2
        refine ww_sld (v := xs ((7 * i) + 2)) hx hb hX hbl hbA hS (vp_in_nI (by omega) (by omega)) (by rw [nI_clamp (by omega)]) d_L_law_302 ?_
        refine lv_aload_n hx hb d_L_law_303 rfl (lv_at hl 1 rfl) ?_
        refine lv_iload hx hb d_L_law_304 (lv_at hl 5 rfl) ?_
        refine lv_iconst (v := 3) hx hb d_L_law_306 (by decide) ?_
        refine lv_iadd hx hb d_L_law_307 ?_
        refine lv_topi (fun v_50 e_50 => ?_)
        obtain rfl : v_50 = nI ((7 * i) + 3) := by rw [e_50]; exact nI_add (7 * i) 3
        refine ww_sld (v := xs ((7 * i) + 3)) hx hb hX hbl hbA hS (vp_in_nI (by omega) (by omega)) (by rw [nI_clamp (by omega)]) d_L_law_308 ?_
        refine lv_aload_n hx hb d_L_law_309 rfl (lv_at hl 1 rfl) ?_
        refine lv_iload hx hb d_L_law_310 (lv_at hl 5 rfl) ?_
        refine lv_iconst (v := 4) hx hb d_L_law_312 (by decide) ?_
        refine lv_iadd hx hb d_L_law_313 ?_
        refine lv_topi (fun v_51 e_51 => ?_)
        obtain rfl : v_51 = nI ((7 * i) + 4) := by rw [e_51]; exact nI_add (7 * i) 4
        refine ww_sld (v := xs ((7 * i) + 4)) hx hb hX hbl hbA hS (vp_in_nI (by omega) (by omega)) (by rw [nI_clamp (by omega)]) d_L_law_314 ?_
        refine lv_aload_n hx hb d_L_law_315 rfl (lv_at hl 1 rfl) ?_
        refine lv_iload hx hb d_L_law_316 (lv_at hl 5 rfl) ?_
        refine lv_iconst (v := 5) hx hb d_L_law_318 (by decide) ?_
        refine lv_iadd hx hb d_L_law_319 ?_
        refine lv_topi (fun v_52 e_52 => ?_)
        obtain rfl : v_52 = nI ((7 * i) + 5) := by rw [e_52]; exact nI_add (7 * i) 5
        refine ww_sld (v := xs ((7 * i) + 5)) hx hb hX hbl hbA hS (vp_in_nI (by omega) (by omega)) (by rw [nI_clamp (by omega)]) d_L_law_320 ?_
        refine lv_if_eq (tgt := 328) hx hb d_L_law_321 (by decide) (fun c_53 => ?_) (fun c_53 => ?_)
        · exact absurd c_53 h5
        · refine lv_iconst (v := 1) hx hb d_L_law_324 (by decide) ?_
          refine lv_goto (tgt := 329) hx hb d_L_law_325 (by decide) ?_
          refine lv_aload_n hx hb d_L_law_329 rfl (lv_at hl 1 rfl) ?_
          refine lv_iload hx hb d_L_law_330 (lv_at hl 5 rfl) ?_
          refine lv_bipush (v := 6) hx hb d_L_law_332 (by decide) ?_
          refine lv_iadd hx hb d_L_law_334 ?_
          refine lv_topi (fun v_54 e_54 => ?_)
          obtain rfl : v_54 = nI ((7 * i) + 6) := by rw [e_54]; exact nI_add (7 * i) 6
          refine ww_sld (v := xs ((7 * i) + 6)) hx hb hX hbl hbA hS (vp_in_nI (by omega) (by omega)) (by rw [nI_clamp (by omega)]) d_L_law_335 ?_
          refine lv_if_eq (tgt := 343) hx hb d_L_law_336 (by decide) (fun c_55 => ?_) (fun c_55 => ?_)
          · refine lv_iconst (v := 0) hx hb d_L_law_343 (by decide) ?_
            refine ww_i (cV (As := [.int (xs ((7 * i) + 1)), .int (xs ((7 * i) + 2)), .int (xs ((7 * i) + 3)), .int (xs ((7 * i) + 4)), .int 1, .int 0]) (rest := []) (C := "DangerTablesModel") 6 ⟨hx, hb, hml, hown, hts⟩ (c_M_good l g H_47.size wM mo ad t (b2 rb) n gn br.length F (xs ((7 * i) + 1)) (xs ((7 * i) + 2)) (xs ((7 * i) + 3)) (xs ((7 * i) + 4)) 1 0 true false m1 m6.1 rfl rfl) k_755 k_752 k_7 k_753 k_754 (by decide +kernel) ⟨Nat.le_of_ble_eq_true rfl, Nat.le_of_ble_eq_true rfl⟩ rfl rfl ⟨prW_blind _ _ _ _, hwM.recv hK m1.1 rfl, prW_at hG hAB hS hwM⟩ rfl hl.1 rfl (Nat.le_of_ble_eq_true rfl) d_L_law_344 ⟨by show _ ≤ 601024; omega, by show _ ≤ 7293034; omega⟩) hwM hS hA (fun r_56 wM_56 H_56 locs_56 e_56 hwM1 hS hz_56 hk_56 hg_56 => ?_)
            have hwCo := hwC
            have hwC := hwC.other hd hk_56
            have hd := (dj.step hd.symm hwCo hg_56).symm
            have hwM := hwM1
            have hSTk := op_good hz hC hM e_47 e_56
            obtain ⟨f1, n1, rb1, rf1, gd1, gn1, br1, mz1, tx1, ru1, go1, bo1, zo1, sg1, fo1, garr1, barr1, ff1, gxs1, bxs1, fz1, pl1, pa1, pss1, own1, jf1, ad1, F1, hC1, hM1, hj1⟩ := id hSTk
            have hout1 := hC1.2.2.2.2.2.2.2.2.2.2.2.2
            refine lv_istore (lv' := [(6, .int r_56), (5, .int r_47), (0, .ref b), (1, .ref th), (2, .ref mo), (3, .ref out), (4, .int (nI (7 * i)))]) hx hb d_L_law_347 hl (by decide) rfl (fun ls hl => ?_)
            refine lv_aload_n hx hb d_L_law_349 rfl (lv_at hl 4 rfl) ?_
            refine wr_i (cV (As := []) (rest := []) (C := "DangerTablesModel") 0 ⟨hx, hb, hml, hown, hts⟩ (c_M_thrown l g wM_56 mo ad1 r_47 (b2 rb1) n1 gn1 br1.length F1 hM1.1) k_726 k_723 k_7 k_724 k_725 (by decide +kernel) ⟨Nat.le_of_ble_eq_true rfl, Nat.le_of_ble_eq_true rfl⟩ rfl rfl ⟨prR_blind _ _ _, hwM.recv hK hM1.1.1 rfl, prR_at hG hAB hS hwM⟩ rfl hl.1 rfl (Nat.le_of_ble_eq_true rfl) d_L_law_350 ⟨by show _ ≤ 601024; omega, by show _ ≤ 7293034; omega⟩) (fun r_t e_t => ?_)
            refine lv_iload hx hb d_L_law_353 (lv_at hl 1 rfl) ?_
            refine lv_icmp_eq (tgt := 360) hx hb d_L_law_355 (by decide) (fun _ => ?_) (fun z => absurd e_t z)
            refine lv_iload hx hb d_L_law_360 (lv_at hl 1 rfl) ?_
            refine lv_if_ne (tgt := 377) hx hb d_L_law_362 (by decide) (fun c_57 => ?_) (fun c_57 => ?_)
            · refine lv_goto (tgt := 1183) hx hb d_L_law_377 (by decide) ?_
              refine W.widen (k := 40 + 20 * (i + 1)) (n := 3000 + 400 * (i + 1)) (by omega) (by omega) ?_
              exact kk wC_47 wM_56 H_56 locs_56 ls ⟨hwC, hwM, hd, hS, hSTk.st⟩ (lv_sub hl [2, 3, 4, 5, 6] rfl)
            · have hk0 : r_47 = 0 := c_57
              refine lv_aload_n hx hb d_L_law_365 rfl (lv_at hl 5 rfl) ?_
              refine lv_iconst (v := 0) hx hb d_L_law_366 (by decide) ?_
              refine ww_lald (v := jf1 0) hx hb hK hwC 2 hout1 rfl (vp_in_nI (n := 0) (by decide) (by decide)) rfl d_L_law_367 ?_
              refine lv_iload hx hb d_L_law_368 (lv_at hl 0 rfl) ?_
              refine lv_i2l hx hb d_L_law_370 rfl ?_
              refine W.lcmp hx hb d_L_law_371 ?_
              refine lv_if_eq (tgt := 377) hx hb d_L_law_372 (by decide) (fun _ => ?_) (fun z => absurd (by rw [hj1 hk0]; exact cmp_r _) z)
              refine lv_goto (tgt := 1183) hx hb d_L_law_377 (by decide) ?_
              refine W.widen (k := 40 + 20 * (i + 1)) (n := 3000 + 400 * (i + 1)) (by omega) (by omega) ?_
              exact kk wC_47 wM_56 H_56 locs_56 ls ⟨hwC, hwM, hd, hS, hSTk.st⟩ (lv_sub hl [2, 3, 4, 5, 6] rfl)
          · exact absurd h6 c_55
      · exact absurd h6 c_46
  · refine lv_aload_n hx hb d_L_law_230 rfl (lv_at hl 1 rfl) ?_
    refine lv_aload_n hx hb d_L_law_231 rfl (lv_at hl 0 rfl) ?_
    refine lv_iload hx hb d_L_law_232 (lv_at hl 4 rfl) ?_
    refine lv_iconst (v := 1) hx hb d_L_law_234 (by decide) ?_
    refine lv_iadd hx hb d_L_law_235 ?_
    refine lv_topi (fun v_58 e_58 => ?_)
    obtain rfl : v_58 = nI ((7 * i) + 1) := by rw [e_58]; exact nI_add (7 * i) 1
    refine ww_sld (v := xs ((7 * i) + 1)) hx hb hX hbl hbA hS (vp_in_nI (by omega) (by omega)) (by rw [nI_clamp (by omega)]) d_L_law_236 ?_
    refine lv_aload_n hx hb d_L_law_237 rfl (lv_at hl 0 rfl) ?_
    refine lv_iload hx hb d_L_law_238 (lv_at hl 4 rfl) ?_
    refine lv_iconst (v := 2) hx hb d_L_law_240 (by decide) ?_
    refine lv_iadd hx hb d_L_law_241 ?_
    refine lv_topi (fun v_59 e_59 => ?_)
    obtain rfl : v_59 = nI ((7 * i) + 2) := by rw [e_59]; exact nI_add (7 * i) 2
    refine ww_sld (v := xs ((7 * i) + 2)) hx hb hX hbl hbA hS (vp_in_nI (by omega) (by omega)) (by rw [nI_clamp (by omega)]) d_L_law_242 ?_
    refine lv_aload_n hx hb d_L_law_243 rfl (lv_at hl 0 rfl) ?_
    refine lv_iload hx hb d_L_law_244 (lv_at hl 4 rfl) ?_
    refine lv_iconst (v := 3) hx hb d_L_law_246 (by decide) ?_
    refine lv_iadd hx hb d_L_law_247 ?_
    refine lv_topi (fun v_60 e_60 => ?_)
    obtain rfl : v_60 = nI ((7 * i) + 3) := by rw [e_60]; exact nI_add (7 * i) 3
    refine ww_sld (v := xs ((7 * i) + 3)) hx hb hX hbl hbA hS (vp_in_nI (by omega) (by omega)) (by rw [nI_clamp (by omega)]) d_L_law_248 ?_
    refine lv_aload_n hx hb d_L_law_249 rfl (lv_at hl 0 rfl) ?_
    refine lv_iload hx hb d_L_law_250 (lv_at hl 4 rfl) ?_
    refine lv_iconst (v := 4) hx hb d_L_law_252 (by decide) ?_
    refine lv_iadd hx hb d_L_law_253 ?_
    refine lv_topi (fun v_61 e_61 => ?_)
    obtain rfl : v_61 = nI ((7 * i) + 4) := by rw [e_61]; exact nI_add (7 * i) 4
    refine ww_sld (v := xs ((7 * i) + 4)) hx hb hX hbl hbA hS (vp_in_nI (by omega) (by omega)) (by rw [nI_clamp (by omega)]) d_L_law_254 ?_
    refine lv_aload_n hx hb d_L_law_255 rfl (lv_at hl 0 rfl) ?_
    refine lv_iload hx hb d_L_law_256 (lv_at hl 4 rfl) ?_
    refine lv_iconst (v := 5) hx hb d_L_law_258 (by decide) ?_
    refine lv_iadd hx hb d_L_law_259 ?_
    refine lv_topi (fun v_62 e_62 => ?_)
    obtain rfl : v_62 = nI ((7 * i) + 5) := by rw [e_62]; exact nI_add (7 * i) 5
    refine ww_sld (v := xs ((7 * i) + 5)) hx hb hX hbl hbA hS (vp_in_nI (by omega) (by omega)) (by rw [nI_clamp (by omega)]) d_L_law_260 ?_
    refine lv_if_eq (tgt := 268) hx hb d_L_law_261 (by decide) (fun c_63 => ?_) (fun c_63 => ?_)
    · exact absurd c_63 h5
    · refine lv_iconst (v := 1) hx hb d_L_law_264 (by decide) ?_
      refine lv_goto (tgt := 269) hx hb d_L_law_265 (by decide) ?_
      refine lv_aload_n hx hb d_L_law_269 rfl (lv_at hl 0 rfl) ?_
      refine lv_iload hx hb d_L_law_270 (lv_at hl 4 rfl) ?_
      refine lv_bipush (v := 6) hx hb d_L_law_272 (by decide) ?_
      refine lv_iadd hx hb d_L_law_274 ?_
      refine lv_topi (fun v_64 e_64 => ?_)
      obtain rfl : v_64 = nI ((7 * i) + 6) := by rw [e_64]; exact nI_add (7 * i) 6
      refine ww_sld (v := xs ((7 * i) + 6)) hx hb hX hbl hbA hS (vp_in_nI (by omega) (by omega)) (by rw [nI_clamp (by omega)]) d_L_law_275 ?_
      refine lv_if_eq (tgt := 283) hx hb d_L_law_276 (by decide) (fun c_65 => ?_) (fun c_65 => ?_)
      · exact absurd c_65 h6
      · refine lv_iconst (v := 1) hx hb d_L_law_279 (by decide) ?_
        refine lv_goto (tgt := 284) hx hb d_L_law_280 (by decide) ?_
        refine lv_aload_n hx hb d_L_law_284 rfl (lv_at hl 3 rfl) ?_
        refine ww_i (cSW (As := [.ref th, .int (xs ((7 * i) + 1)), .int (xs ((7 * i) + 2)), .int (xs ((7 * i) + 3)), .int (xs ((7 * i) + 4)), .int 1, .int 1, .ref out]) (rest := []) 8 ⟨hx, hb, hml, hown, hts⟩ (c_L_good l hl0 g H.size wC th tx ru (b2 rb) go bo zo garr gxs gd (xs ((7 * i) + 1)) (xs ((7 * i) + 2)) (xs ((7 * i) + 3)) (xs ((7 * i) + 4)) 1 1 out jf hth hgl hC.gs hout) k_288 k_286 k_0 k_287 (by decide +kernel) ⟨Nat.le_of_ble_eq_true rfl, Nat.le_of_ble_eq_true rfl⟩ rfl rfl ⟨prW_blind _ _ _ _, prW_at hG hAB hS hwC⟩ rfl hl.1 rfl (Nat.le_of_ble_eq_true rfl) d_L_law_285 ⟨by show _ ≤ 601024; omega, by show _ ≤ 7293034; omega⟩) hwC hS hA (fun r_66 wC_66 H_66 locs_66 e_66 hwC1 hS hz_66 hk_66 hg_66 => ?_)
        have hwMo := hwM
        have hwM := hwM.other hd.symm hk_66
        have hd := dj.step hd hwMo hg_66
        have hwC := hwC1
        refine lv_istore (lv' := [(5, .int r_66), (0, .ref b), (1, .ref th), (2, .ref mo), (3, .ref out), (4, .int (nI (7 * i)))]) hx hb d_L_law_288 hl (by decide) rfl (fun ls hl => ?_)
        refine lv_aload_n hx hb d_L_law_290 rfl (lv_at hl 3 rfl) ?_
        refine lv_aload_n hx hb d_L_law_291 rfl (lv_at hl 1 rfl) ?_
        refine lv_iload hx hb d_L_law_292 (lv_at hl 5 rfl) ?_
        refine lv_iconst (v := 1) hx hb d_L_law_294 (by decide) ?_
        refine lv_iadd hx hb d_L_law_295 ?_
        refine lv_topi (fun v_67 e_67 => ?_)
        obtain rfl : v_67 = nI ((7 * i) + 1) := by rw [e_67]; exact nI_add (7 * i) 1
        refine ww_sld (v := xs ((7 * i) + 1)) hx hb hX hbl hbA hS (vp_in_nI (by omega) (by omega)) (by rw [nI_clamp (by omega)]) d_L_law_296 ?_
        refine lv_aload_n hx hb d_L_law_297 rfl (lv_at hl 1 rfl) ?_
        refine lv_iload hx hb d_L_law_298 (lv_at hl 5 rfl) ?_
        refine lv_iconst (v := 2) hx hb d_L_law_300 (by decide) ?_
        refine lv_iadd hx hb d_L_law_301 ?_
        refine lv_topi (fun v_68 e_68 => ?_)
        obtain rfl : v_68 = nI ((7 * i) + 2) := by rw [e_68]; exact nI_add (7 * i) 2
        refine ww_sld (v := xs ((7 * i) + 2)) hx hb hX hbl hbA hS (vp_in_nI (by omega) (by omega)) (by rw [nI_clamp (by omega)]) d_L_law_302 ?_
        refine lv_aload_n hx hb d_L_law_303 rfl (lv_at hl 1 rfl) ?_
        refine lv_iload hx hb d_L_law_304 (lv_at hl 5 rfl) ?_
        refine lv_iconst (v := 3) hx hb d_L_law_306 (by decide) ?_
        refine lv_iadd hx hb d_L_law_307 ?_
        refine lv_topi (fun v_69 e_69 => ?_)
        obtain rfl : v_69 = nI ((7 * i) + 3) := by rw [e_69]; exact nI_add (7 * i) 3
        refine ww_sld (v := xs ((7 * i) + 3)) hx hb hX hbl hbA hS (vp_in_nI (by omega) (by omega)) (by rw [nI_clamp (by omega)]) d_L_law_308 ?_
        refine lv_aload_n hx hb d_L_law_309 rfl (lv_at hl 1 rfl) ?_
        refine lv_iload hx hb d_L_law_310 (lv_at hl 5 rfl) ?_
        refine lv_iconst (v := 4) hx hb d_L_law_312 (by decide) ?_
        refine lv_iadd hx hb d_L_law_313 ?_
        refine lv_topi (fun v_70 e_70 => ?_)
        obtain rfl : v_70 = nI ((7 * i) + 4) := by rw [e_70]; exact nI_add (7 * i) 4
        refine ww_sld (v := xs ((7 * i) + 4)) hx hb hX hbl hbA hS (vp_in_nI (by omega) (by omega)) (by rw [nI_clamp (by omega)]) d_L_law_314 ?_
        refine lv_aload_n hx hb d_L_law_315 rfl (lv_at hl 1 rfl) ?_
        refine lv_iload hx hb d_L_law_316 (lv_at hl 5 rfl) ?_
        refine lv_iconst (v := 5) hx hb d_L_law_318 (by decide) ?_
        refine lv_iadd hx hb d_L_law_319 ?_
        refine lv_topi (fun v_71 e_71 => ?_)
        obtain rfl : v_71 = nI ((7 * i) + 5) := by rw [e_71]; exact nI_add (7 * i) 5
        refine ww_sld (v := xs ((7 * i) + 5)) hx hb hX hbl hbA hS (vp_in_nI (by omega) (by omega)) (by rw [nI_clamp (by omega)]) d_L_law_320 ?_
        refine lv_if_eq (tgt := 328) hx hb d_L_law_321 (by decide) (fun c_72 => ?_) (fun c_72 => ?_)
        · exact absurd c_72 h5
        · refine lv_iconst (v := 1) hx hb d_L_law_324 (by decide) ?_
          refine lv_goto (tgt := 329) hx hb d_L_law_325 (by decide) ?_
          refine lv_aload_n hx hb d_L_law_329 rfl (lv_at hl 1 rfl) ?_
          refine lv_iload hx hb d_L_law_330 (lv_at hl 5 rfl) ?_
          refine lv_bipush (v := 6) hx hb d_L_law_332 (by decide) ?_
          refine lv_iadd hx hb d_L_law_334 ?_
          refine lv_topi (fun v_73 e_73 => ?_)
          obtain rfl : v_73 = nI ((7 * i) + 6) := by rw [e_73]; exact nI_add (7 * i) 6
          refine ww_sld (v := xs ((7 * i) + 6)) hx hb hX hbl hbA hS (vp_in_nI (by omega) (by omega)) (by rw [nI_clamp (by omega)]) d_L_law_335 ?_
          refine lv_if_eq (tgt := 343) hx hb d_L_law_336 (by decide) (fun c_74 => ?_) (fun c_74 => ?_)
          · exact absurd c_74 h6
          · refine lv_iconst (v := 1) hx hb d_L_law_339 (by decide) ?_
            refine lv_goto (tgt := 344) hx hb d_L_law_340 (by decide) ?_
            refine ww_i (cV (As := [.int (xs ((7 * i) + 1)), .int (xs ((7 * i) + 2)), .int (xs ((7 * i) + 3)), .int (xs ((7 * i) + 4)), .int 1, .int 1]) (rest := []) (C := "DangerTablesModel") 6 ⟨hx, hb, hml, hown, hts⟩ (c_M_good l g H_66.size wM mo ad t (b2 rb) n gn br.length F (xs ((7 * i) + 1)) (xs ((7 * i) + 2)) (xs ((7 * i) + 3)) (xs ((7 * i) + 4)) 1 1 true true m1 m6.1 rfl rfl) k_755 k_752 k_7 k_753 k_754 (by decide +kernel) ⟨Nat.le_of_ble_eq_true rfl, Nat.le_of_ble_eq_true rfl⟩ rfl rfl ⟨prW_blind _ _ _ _, hwM.recv hK m1.1 rfl, prW_at hG hAB hS hwM⟩ rfl hl.1 rfl (Nat.le_of_ble_eq_true rfl) d_L_law_344 ⟨by show _ ≤ 601024; omega, by show _ ≤ 7293034; omega⟩) hwM hS hA (fun r_75 wM_75 H_75 locs_75 e_75 hwM1 hS hz_75 hk_75 hg_75 => ?_)
            have hwCo := hwC
            have hwC := hwC.other hd hk_75
            have hd := (dj.step hd.symm hwCo hg_75).symm
            have hwM := hwM1
            have hSTk := op_good hz hC hM e_66 e_75
            obtain ⟨f1, n1, rb1, rf1, gd1, gn1, br1, mz1, tx1, ru1, go1, bo1, zo1, sg1, fo1, garr1, barr1, ff1, gxs1, bxs1, fz1, pl1, pa1, pss1, own1, jf1, ad1, F1, hC1, hM1, hj1⟩ := id hSTk
            have hout1 := hC1.2.2.2.2.2.2.2.2.2.2.2.2
            refine lv_istore (lv' := [(6, .int r_75), (5, .int r_66), (0, .ref b), (1, .ref th), (2, .ref mo), (3, .ref out), (4, .int (nI (7 * i)))]) hx hb d_L_law_347 hl (by decide) rfl (fun ls hl => ?_)
            refine lv_aload_n hx hb d_L_law_349 rfl (lv_at hl 4 rfl) ?_
            refine wr_i (cV (As := []) (rest := []) (C := "DangerTablesModel") 0 ⟨hx, hb, hml, hown, hts⟩ (c_M_thrown l g wM_75 mo ad1 r_66 (b2 rb1) n1 gn1 br1.length F1 hM1.1) k_726 k_723 k_7 k_724 k_725 (by decide +kernel) ⟨Nat.le_of_ble_eq_true rfl, Nat.le_of_ble_eq_true rfl⟩ rfl rfl ⟨prR_blind _ _ _, hwM.recv hK hM1.1.1 rfl, prR_at hG hAB hS hwM⟩ rfl hl.1 rfl (Nat.le_of_ble_eq_true rfl) d_L_law_350 ⟨by show _ ≤ 601024; omega, by show _ ≤ 7293034; omega⟩) (fun r_t e_t => ?_)
            refine lv_iload hx hb d_L_law_353 (lv_at hl 1 rfl) ?_
            refine lv_icmp_eq (tgt := 360) hx hb d_L_law_355 (by decide) (fun _ => ?_) (fun z => absurd e_t z)
            refine lv_iload hx hb d_L_law_360 (lv_at hl 1 rfl) ?_
            refine lv_if_ne (tgt := 377) hx hb d_L_law_362 (by decide) (fun c_76 => ?_) (fun c_76 => ?_)
            · refine lv_goto (tgt := 1183) hx hb d_L_law_377 (by decide) ?_
              refine W.widen (k := 40 + 20 * (i + 1)) (n := 3000 + 400 * (i + 1)) (by omega) (by omega) ?_
              exact kk wC_66 wM_75 H_75 locs_75 ls ⟨hwC, hwM, hd, hS, hSTk.st⟩ (lv_sub hl [2, 3, 4, 5, 6] rfl)
            · have hk0 : r_66 = 0 := c_76
              refine lv_aload_n hx hb d_L_law_365 rfl (lv_at hl 5 rfl) ?_
              refine lv_iconst (v := 0) hx hb d_L_law_366 (by decide) ?_
              refine ww_lald (v := jf1 0) hx hb hK hwC 2 hout1 rfl (vp_in_nI (n := 0) (by decide) (by decide)) rfl d_L_law_367 ?_
              refine lv_iload hx hb d_L_law_368 (lv_at hl 0 rfl) ?_
              refine lv_i2l hx hb d_L_law_370 rfl ?_
              refine W.lcmp hx hb d_L_law_371 ?_
              refine lv_if_eq (tgt := 377) hx hb d_L_law_372 (by decide) (fun _ => ?_) (fun z => absurd (by rw [hj1 hk0]; exact cmp_r _) z)
              refine lv_goto (tgt := 1183) hx hb d_L_law_377 (by decide) ?_
              refine W.widen (k := 40 + 20 * (i + 1)) (n := 3000 + 400 * (i + 1)) (by omega) (by omega) ?_
              exact kk wC_66 wM_75 H_75 locs_75 ls ⟨hwC, hwM, hd, hS, hSTk.st⟩ (lv_sub hl [2, 3, 4, 5, 6] rfl)

set_option maxHeartbeats 4000000 in
set_option maxRecDepth 100000 in
theorem lc_4 (l : Launch) {p : Program} {e : Env} {s : State} {m : MethodId} {below : List Frame} {meth : Method} {c : Code} {b L : Nat} {xs : Nat → Int32} {g : GT} (hLX : LX p l s m meth c b L xs g) {Q : State → Prop} {i th mo out : Nat} (hi : 7 * i + 7 ≤ L) (kk : ∀ (wC wM : Nat → Option va_E) (H : Heap) (locs : List Loc) (ls : Array Slot), LI g s wC wM th mo out H locs → lv_has ls 7 [(0, .ref b), (1, .ref th), (2, .ref mo), (3, .ref out), (4, .int (nI (7 * i)))] → W p l e room_1 s m #[Value.ref b] below meth c H locs (40 + 20 * (i + 1)) (3000 + 400 * (i + 1)) Q (F0 m 1183 ls [])) {wC wM : Nat → Option va_E} {H : Heap} {locs : List Loc} {ls : Array Slot} (hI : LI g s wC wM th mo out H locs) (hl : lv_has ls 7 [(0, .ref b), (1, .ref th), (2, .ref mo), (3, .ref out), (4, .int (nI (7 * i)))]) : W p l e room_1 s m #[Value.ref b] below meth c H locs (40 + 20 * i) (3000 + 400 * i) Q (F0 m 380 ls []) := by
  obtain ⟨hx, hb, hr, hml, hown, hts, hG, hg0, hX, hbl, hL, hl0⟩ := hLX
  obtain ⟨hwC, hwM, hd, hS, hST⟩ := hI
  have hf := hG.here
  have hK := hf.1
  have hbA : ¬ gB g b := fun z => absurd hbl (Nat.not_lt.mpr (hg0 ▸ z))
  have hA : ∀ q, s.heap.size ≤ q → gB g q := fun q h => by show g.2.2 0 ≤ q; rw [hg0]; exact h
  have hAB : ∀ q, gB g q → gB g q := fun _ h => h
  obtain ⟨f, n, rb, rf, gd, gn, br, mz, ⟨tx, ru, go, bo, zo, sg, fo, garr, barr, ff, gxs, bxs, fz, pl, pa, pss, own, jf, hC⟩, t, ad, F, hM⟩ := hST
  obtain ⟨hth, htx, hsg, hfo, hru, hne, ⟨hgl, hgn, ogo, oga⟩, hgs9, ⟨hbl9, hbn, obo, oba⟩, hbs9, ⟨hzo, ozo⟩, hzr9, hout⟩ := id hC
  obtain ⟨m1, m2, m3, m4, m5, m6, m7, m8, m9, m10⟩ := id hM
  have hz : wC (g.2.2 1) = none := emp_none hf hAB hwC
  refine lv_aload_n hx hb d_L_law_380 rfl (lv_at hl 1 rfl) ?_
  refine lv_aload_n hx hb d_L_law_381 rfl (lv_at hl 0 rfl) ?_
  refine lv_iload hx hb d_L_law_382 (lv_at hl 4 rfl) ?_
  refine lv_iconst (v := 1) hx hb d_L_law_384 (by decide) ?_
  refine lv_iadd hx hb d_L_law_385 ?_
  refine lv_topi (fun v_1 e_1 => ?_)
  obtain rfl : v_1 = nI ((7 * i) + 1) := by rw [e_1]; exact nI_add (7 * i) 1
  refine ww_sld (v := xs ((7 * i) + 1)) hx hb hX hbl hbA hS (vp_in_nI (by omega) (by omega)) (by rw [nI_clamp (by omega)]) d_L_law_386 ?_
  refine lv_aload_n hx hb d_L_law_387 rfl (lv_at hl 0 rfl) ?_
  refine lv_iload hx hb d_L_law_388 (lv_at hl 4 rfl) ?_
  refine lv_iconst (v := 2) hx hb d_L_law_390 (by decide) ?_
  refine lv_iadd hx hb d_L_law_391 ?_
  refine lv_topi (fun v_2 e_2 => ?_)
  obtain rfl : v_2 = nI ((7 * i) + 2) := by rw [e_2]; exact nI_add (7 * i) 2
  refine ww_sld (v := xs ((7 * i) + 2)) hx hb hX hbl hbA hS (vp_in_nI (by omega) (by omega)) (by rw [nI_clamp (by omega)]) d_L_law_392 ?_
  refine lv_aload_n hx hb d_L_law_393 rfl (lv_at hl 0 rfl) ?_
  refine lv_iload hx hb d_L_law_394 (lv_at hl 4 rfl) ?_
  refine lv_iconst (v := 3) hx hb d_L_law_396 (by decide) ?_
  refine lv_iadd hx hb d_L_law_397 ?_
  refine lv_topi (fun v_3 e_3 => ?_)
  obtain rfl : v_3 = nI ((7 * i) + 3) := by rw [e_3]; exact nI_add (7 * i) 3
  refine ww_sld (v := xs ((7 * i) + 3)) hx hb hX hbl hbA hS (vp_in_nI (by omega) (by omega)) (by rw [nI_clamp (by omega)]) d_L_law_398 ?_
  refine ww_i (cV (As := [.int (xs ((7 * i) + 1)), .int (xs ((7 * i) + 2)), .int (xs ((7 * i) + 3))]) (rest := []) (C := "DangerTables") 3 ⟨hx, hb, hml, hown, hts⟩ (c_T_exempt l g H.size wC th tx ru (b2 rb) go bo zo garr gxs gd (xs ((7 * i) + 1)) (xs ((7 * i) + 2)) (xs ((7 * i) + 3)) hth hgl hC.gs) k_144 k_141 k_1 k_142 k_143 (by decide +kernel) ⟨Nat.le_of_ble_eq_true rfl, Nat.le_of_ble_eq_true rfl⟩ rfl rfl ⟨prW_blind _ _ _ _, hwC.recv hK hth rfl, prW_at hG hAB hS hwC⟩ rfl hl.1 rfl (Nat.le_of_ble_eq_true rfl) d_L_law_399 ⟨by show _ ≤ 601024; omega, by show _ ≤ 7293034; omega⟩) hwC hS hA (fun r_4 wC_4 H_4 locs_4 e_4 hwC1 hS hz_4 hk_4 hg_4 => ?_)
  have hwMo := hwM
  have hwM := hwM.other hd.symm hk_4
  have hd := dj.step hd hwMo hg_4
  have hwC := hwC1
  refine lv_aload_n hx hb d_L_law_402 rfl (lv_at hl 2 rfl) ?_
  refine lv_aload_n hx hb d_L_law_403 rfl (lv_at hl 0 rfl) ?_
  refine lv_iload hx hb d_L_law_404 (lv_at hl 4 rfl) ?_
  refine lv_iconst (v := 1) hx hb d_L_law_406 (by decide) ?_
  refine lv_iadd hx hb d_L_law_407 ?_
  refine lv_topi (fun v_5 e_5 => ?_)
  obtain rfl : v_5 = nI ((7 * i) + 1) := by rw [e_5]; exact nI_add (7 * i) 1
  refine ww_sld (v := xs ((7 * i) + 1)) hx hb hX hbl hbA hS (vp_in_nI (by omega) (by omega)) (by rw [nI_clamp (by omega)]) d_L_law_408 ?_
  refine lv_aload_n hx hb d_L_law_409 rfl (lv_at hl 0 rfl) ?_
  refine lv_iload hx hb d_L_law_410 (lv_at hl 4 rfl) ?_
  refine lv_iconst (v := 2) hx hb d_L_law_412 (by decide) ?_
  refine lv_iadd hx hb d_L_law_413 ?_
  refine lv_topi (fun v_6 e_6 => ?_)
  obtain rfl : v_6 = nI ((7 * i) + 2) := by rw [e_6]; exact nI_add (7 * i) 2
  refine ww_sld (v := xs ((7 * i) + 2)) hx hb hX hbl hbA hS (vp_in_nI (by omega) (by omega)) (by rw [nI_clamp (by omega)]) d_L_law_414 ?_
  refine lv_aload_n hx hb d_L_law_415 rfl (lv_at hl 0 rfl) ?_
  refine lv_iload hx hb d_L_law_416 (lv_at hl 4 rfl) ?_
  refine lv_iconst (v := 3) hx hb d_L_law_418 (by decide) ?_
  refine lv_iadd hx hb d_L_law_419 ?_
  refine lv_topi (fun v_7 e_7 => ?_)
  obtain rfl : v_7 = nI ((7 * i) + 3) := by rw [e_7]; exact nI_add (7 * i) 3
  refine ww_sld (v := xs ((7 * i) + 3)) hx hb hX hbl hbA hS (vp_in_nI (by omega) (by omega)) (by rw [nI_clamp (by omega)]) d_L_law_420 ?_
  refine ww_i (cV (As := [.int (xs ((7 * i) + 1)), .int (xs ((7 * i) + 2)), .int (xs ((7 * i) + 3))]) (rest := [.int r_4]) (C := "DangerTablesModel") 3 ⟨hx, hb, hml, hown, hts⟩ (c_M_exempt l g H_4.size wM mo ad t (b2 rb) n gn br.length F gd (xs ((7 * i) + 1)) (xs ((7 * i) + 2)) (xs ((7 * i) + 3)) m1 m6) k_763 k_760 k_7 k_761 k_762 (by decide +kernel) ⟨Nat.le_of_ble_eq_true rfl, Nat.le_of_ble_eq_true rfl⟩ rfl rfl ⟨prW_blind _ _ _ _, hwM.recv hK m1.1 rfl, prW_at hG hAB hS hwM⟩ rfl hl.1 rfl (Nat.le_of_ble_eq_true rfl) d_L_law_421 ⟨by show _ ≤ 601024; omega, by show _ ≤ 7293034; omega⟩) hwM hS hA (fun r_8 wM_8 H_8 locs_8 e_8 hwM1 hS hz_8 hk_8 hg_8 => ?_)
  have hwCo := hwC
  have hwC := hwC.other hd hk_8
  have hd := (dj.step hd.symm hwCo hg_8).symm
  have hwM := hwM1
  obtain ⟨heq, hST⟩ := op_exempt hz hC hM e_4 e_8
  refine lv_icmp_eq (tgt := 1183) hx hb d_L_law_424 (by decide) (fun _ => ?_) (fun z => absurd heq z)
  refine W.widen (k := 40 + 20 * (i + 1)) (n := 3000 + 400 * (i + 1)) (by omega) (by omega) ?_
  exact kk wC_4 wM_8 H_8 locs_8 ls ⟨hwC, hwM, hd, hS, hST⟩ (lv_sub hl [0, 1, 2, 3, 4] rfl)

set_option maxHeartbeats 4000000 in
set_option maxRecDepth 100000 in
theorem lc_5 (l : Launch) {p : Program} {e : Env} {s : State} {m : MethodId} {below : List Frame} {meth : Method} {c : Code} {b L : Nat} {xs : Nat → Int32} {g : GT} (hLX : LX p l s m meth c b L xs g) {Q : State → Prop} {i th mo out : Nat} (hi : 7 * i + 7 ≤ L) (kk : ∀ (wC wM : Nat → Option va_E) (H : Heap) (locs : List Loc) (ls : Array Slot), LI g s wC wM th mo out H locs → lv_has ls 7 [(0, .ref b), (1, .ref th), (2, .ref mo), (3, .ref out), (4, .int (nI (7 * i)))] → W p l e room_1 s m #[Value.ref b] below meth c H locs (40 + 20 * (i + 1)) (3000 + 400 * (i + 1)) Q (F0 m 1183 ls [])) {wC wM : Nat → Option va_E} {H : Heap} {locs : List Loc} {ls : Array Slot} (hI : LI g s wC wM th mo out H locs) (hl : lv_has ls 7 [(0, .ref b), (1, .ref th), (2, .ref mo), (3, .ref out), (4, .int (nI (7 * i)))]) : W p l e room_1 s m #[Value.ref b] below meth c H locs (40 + 20 * i) (3000 + 400 * i) Q (F0 m 429 ls []) := by
  obtain ⟨hx, hb, hr, hml, hown, hts, hG, hg0, hX, hbl, hL, hl0⟩ := hLX
  obtain ⟨hwC, hwM, hd, hS, hST⟩ := hI
  have hf := hG.here
  have hK := hf.1
  have hbA : ¬ gB g b := fun z => absurd hbl (Nat.not_lt.mpr (hg0 ▸ z))
  have hA : ∀ q, s.heap.size ≤ q → gB g q := fun q h => by show g.2.2 0 ≤ q; rw [hg0]; exact h
  have hAB : ∀ q, gB g q → gB g q := fun _ h => h
  obtain ⟨f, n, rb, rf, gd, gn, br, mz, ⟨tx, ru, go, bo, zo, sg, fo, garr, barr, ff, gxs, bxs, fz, pl, pa, pss, own, jf, hC⟩, t, ad, F, hM⟩ := hST
  obtain ⟨hth, htx, hsg, hfo, hru, hne, ⟨hgl, hgn, ogo, oga⟩, hgs9, ⟨hbl9, hbn, obo, oba⟩, hbs9, ⟨hzo, ozo⟩, hzr9, hout⟩ := id hC
  obtain ⟨m1, m2, m3, m4, m5, m6, m7, m8, m9, m10⟩ := id hM
  have hz : wC (g.2.2 1) = none := emp_none hf hAB hwC
  refine lv_aload_n hx hb d_L_law_429 rfl (lv_at hl 1 rfl) ?_
  refine lv_aload_n hx hb d_L_law_430 rfl (lv_at hl 0 rfl) ?_
  refine lv_iload hx hb d_L_law_431 (lv_at hl 4 rfl) ?_
  refine lv_iconst (v := 1) hx hb d_L_law_433 (by decide) ?_
  refine lv_iadd hx hb d_L_law_434 ?_
  refine lv_topi (fun v_1 e_1 => ?_)
  obtain rfl : v_1 = nI ((7 * i) + 1) := by rw [e_1]; exact nI_add (7 * i) 1
  refine ww_sld (v := xs ((7 * i) + 1)) hx hb hX hbl hbA hS (vp_in_nI (by omega) (by omega)) (by rw [nI_clamp (by omega)]) d_L_law_435 ?_
  refine lv_aload_n hx hb d_L_law_436 rfl (lv_at hl 0 rfl) ?_
  refine lv_iload hx hb d_L_law_437 (lv_at hl 4 rfl) ?_
  refine lv_iconst (v := 2) hx hb d_L_law_439 (by decide) ?_
  refine lv_iadd hx hb d_L_law_440 ?_
  refine lv_topi (fun v_2 e_2 => ?_)
  obtain rfl : v_2 = nI ((7 * i) + 2) := by rw [e_2]; exact nI_add (7 * i) 2
  refine ww_sld (v := xs ((7 * i) + 2)) hx hb hX hbl hbA hS (vp_in_nI (by omega) (by omega)) (by rw [nI_clamp (by omega)]) d_L_law_441 ?_
  refine lv_aload_n hx hb d_L_law_442 rfl (lv_at hl 3 rfl) ?_
  refine ww_i (cSW (As := [.ref th, .int (xs ((7 * i) + 1)), .int (xs ((7 * i) + 2)), .ref out]) (rest := []) 4 ⟨hx, hb, hml, hown, hts⟩ (c_L_box l hl0 g H.size wC th tx ru (b2 rb) go bo zo barr bxs (br.map (bxOf gd)) garr gxs gd (xs ((7 * i) + 1)) (xs ((7 * i) + 2)) out jf hth hbl9 hC.len hC.bs hgl hC.gs hout) k_400 k_398 k_0 k_399 (by decide +kernel) ⟨Nat.le_of_ble_eq_true rfl, Nat.le_of_ble_eq_true rfl⟩ rfl rfl ⟨prW_blind _ _ _ _, prW_at hG hAB hS hwC⟩ rfl hl.1 rfl (Nat.le_of_ble_eq_true rfl) d_L_law_443 ⟨by show _ ≤ 601024; omega, by show _ ≤ 7293034; omega⟩) hwC hS hA (fun r_3 wC_3 H_3 locs_3 e_3 hwC1 hS hz_3 hk_3 hg_3 => ?_)
  have hwMo := hwM
  have hwM := hwM.other hd.symm hk_3
  have hd := dj.step hd hwMo hg_3
  have hwC := hwC1
  refine lv_istore (lv' := [(5, .int r_3), (0, .ref b), (1, .ref th), (2, .ref mo), (3, .ref out), (4, .int (nI (7 * i)))]) hx hb d_L_law_446 hl (by decide) rfl (fun ls hl => ?_)
  refine lv_aload_n hx hb d_L_law_448 rfl (lv_at hl 3 rfl) ?_
  refine lv_aload_n hx hb d_L_law_449 rfl (lv_at hl 1 rfl) ?_
  refine lv_iload hx hb d_L_law_450 (lv_at hl 5 rfl) ?_
  refine lv_iconst (v := 1) hx hb d_L_law_452 (by decide) ?_
  refine lv_iadd hx hb d_L_law_453 ?_
  refine lv_topi (fun v_4 e_4 => ?_)
  obtain rfl : v_4 = nI ((7 * i) + 1) := by rw [e_4]; exact nI_add (7 * i) 1
  refine ww_sld (v := xs ((7 * i) + 1)) hx hb hX hbl hbA hS (vp_in_nI (by omega) (by omega)) (by rw [nI_clamp (by omega)]) d_L_law_454 ?_
  refine lv_aload_n hx hb d_L_law_455 rfl (lv_at hl 1 rfl) ?_
  refine lv_iload hx hb d_L_law_456 (lv_at hl 5 rfl) ?_
  refine lv_iconst (v := 2) hx hb d_L_law_458 (by decide) ?_
  refine lv_iadd hx hb d_L_law_459 ?_
  refine lv_topi (fun v_5 e_5 => ?_)
  obtain rfl : v_5 = nI ((7 * i) + 2) := by rw [e_5]; exact nI_add (7 * i) 2
  refine ww_sld (v := xs ((7 * i) + 2)) hx hb hX hbl hbA hS (vp_in_nI (by omega) (by omega)) (by rw [nI_clamp (by omega)]) d_L_law_460 ?_
  refine ww_i (cV (As := [.int (xs ((7 * i) + 1)), .int (xs ((7 * i) + 2))]) (rest := []) (C := "DangerTablesModel") 2 ⟨hx, hb, hml, hown, hts⟩ (c_M_box l g H_3.size wM mo ad t (b2 rb) n gn br.length F (xs ((7 * i) + 1)) (xs ((7 * i) + 2)) m1 m7.1 (fun z => (m9 _ (Nat.le_refl _) z).1)) k_771 k_768 k_7 k_769 k_770 (by decide +kernel) ⟨Nat.le_of_ble_eq_true rfl, Nat.le_of_ble_eq_true rfl⟩ rfl rfl ⟨prW_blind _ _ _ _, hwM.recv hK m1.1 rfl, prW_at hG hAB hS hwM⟩ rfl hl.1 rfl (Nat.le_of_ble_eq_true rfl) d_L_law_461 ⟨by show _ ≤ 601024; omega, by show _ ≤ 7293034; omega⟩) hwM hS hA (fun r_6 wM_6 H_6 locs_6 e_6 hwM1 hS hz_6 hk_6 hg_6 => ?_)
  have hwCo := hwC
  have hwC := hwC.other hd hk_6
  have hd := (dj.step hd.symm hwCo hg_6).symm
  have hwM := hwM1
  have hSTk := op_box hz hC hM e_3 e_6
  obtain ⟨f1, n1, rb1, rf1, gd1, gn1, br1, mz1, tx1, ru1, go1, bo1, zo1, sg1, fo1, garr1, barr1, ff1, gxs1, bxs1, fz1, pl1, pa1, pss1, own1, jf1, ad1, F1, hC1, hM1, hj1⟩ := id hSTk
  have hout1 := hC1.2.2.2.2.2.2.2.2.2.2.2.2
  refine lv_istore (lv' := [(6, .int r_6), (5, .int r_3), (0, .ref b), (1, .ref th), (2, .ref mo), (3, .ref out), (4, .int (nI (7 * i)))]) hx hb d_L_law_464 hl (by decide) rfl (fun ls hl => ?_)
  refine lv_aload_n hx hb d_L_law_466 rfl (lv_at hl 4 rfl) ?_
  refine wr_i (cV (As := []) (rest := []) (C := "DangerTablesModel") 0 ⟨hx, hb, hml, hown, hts⟩ (c_M_thrown l g wM_6 mo ad1 r_3 (b2 rb1) n1 gn1 br1.length F1 hM1.1) k_726 k_723 k_7 k_724 k_725 (by decide +kernel) ⟨Nat.le_of_ble_eq_true rfl, Nat.le_of_ble_eq_true rfl⟩ rfl rfl ⟨prR_blind _ _ _, hwM.recv hK hM1.1.1 rfl, prR_at hG hAB hS hwM⟩ rfl hl.1 rfl (Nat.le_of_ble_eq_true rfl) d_L_law_467 ⟨by show _ ≤ 601024; omega, by show _ ≤ 7293034; omega⟩) (fun r_t e_t => ?_)
  refine lv_iload hx hb d_L_law_470 (lv_at hl 1 rfl) ?_
  refine lv_icmp_eq (tgt := 477) hx hb d_L_law_472 (by decide) (fun _ => ?_) (fun z => absurd e_t z)
  refine lv_iload hx hb d_L_law_477 (lv_at hl 1 rfl) ?_
  refine lv_if_ne (tgt := 494) hx hb d_L_law_479 (by decide) (fun c_7 => ?_) (fun c_7 => ?_)
  · refine lv_goto (tgt := 1183) hx hb d_L_law_494 (by decide) ?_
    refine W.widen (k := 40 + 20 * (i + 1)) (n := 3000 + 400 * (i + 1)) (by omega) (by omega) ?_
    exact kk wC_3 wM_6 H_6 locs_6 ls ⟨hwC, hwM, hd, hS, hSTk.st⟩ (lv_sub hl [2, 3, 4, 5, 6] rfl)
  · have hk0 : r_3 = 0 := c_7
    refine lv_aload_n hx hb d_L_law_482 rfl (lv_at hl 5 rfl) ?_
    refine lv_iconst (v := 0) hx hb d_L_law_483 (by decide) ?_
    refine ww_lald (v := jf1 0) hx hb hK hwC 2 hout1 rfl (vp_in_nI (n := 0) (by decide) (by decide)) rfl d_L_law_484 ?_
    refine lv_iload hx hb d_L_law_485 (lv_at hl 0 rfl) ?_
    refine lv_i2l hx hb d_L_law_487 rfl ?_
    refine W.lcmp hx hb d_L_law_488 ?_
    refine lv_if_eq (tgt := 494) hx hb d_L_law_489 (by decide) (fun _ => ?_) (fun z => absurd (by rw [hj1 hk0]; exact cmp_r _) z)
    refine lv_goto (tgt := 1183) hx hb d_L_law_494 (by decide) ?_
    refine W.widen (k := 40 + 20 * (i + 1)) (n := 3000 + 400 * (i + 1)) (by omega) (by omega) ?_
    exact kk wC_3 wM_6 H_6 locs_6 ls ⟨hwC, hwM, hd, hS, hSTk.st⟩ (lv_sub hl [2, 3, 4, 5, 6] rfl)

set_option maxHeartbeats 4000000 in
set_option maxRecDepth 100000 in
theorem lc_6 (l : Launch) {p : Program} {e : Env} {s : State} {m : MethodId} {below : List Frame} {meth : Method} {c : Code} {b L : Nat} {xs : Nat → Int32} {g : GT} (hLX : LX p l s m meth c b L xs g) {Q : State → Prop} {i th mo out : Nat} (hi : 7 * i + 7 ≤ L) (kk : ∀ (wC wM : Nat → Option va_E) (H : Heap) (locs : List Loc) (ls : Array Slot), LI g s wC wM th mo out H locs → lv_has ls 7 [(0, .ref b), (1, .ref th), (2, .ref mo), (3, .ref out), (4, .int (nI (7 * i)))] → W p l e room_1 s m #[Value.ref b] below meth c H locs (40 + 20 * (i + 1)) (3000 + 400 * (i + 1)) Q (F0 m 1183 ls [])) {wC wM : Nat → Option va_E} {H : Heap} {locs : List Loc} {ls : Array Slot} (hI : LI g s wC wM th mo out H locs) (hl : lv_has ls 7 [(0, .ref b), (1, .ref th), (2, .ref mo), (3, .ref out), (4, .int (nI (7 * i)))]) : W p l e room_1 s m #[Value.ref b] below meth c H locs (40 + 20 * i) (3000 + 400 * i) Q (F0 m 497 ls []) := by
  obtain ⟨hx, hb, hr, hml, hown, hts, hG, hg0, hX, hbl, hL, hl0⟩ := hLX
  obtain ⟨hwC, hwM, hd, hS, hST⟩ := hI
  have hf := hG.here
  have hK := hf.1
  have hbA : ¬ gB g b := fun z => absurd hbl (Nat.not_lt.mpr (hg0 ▸ z))
  have hA : ∀ q, s.heap.size ≤ q → gB g q := fun q h => by show g.2.2 0 ≤ q; rw [hg0]; exact h
  have hAB : ∀ q, gB g q → gB g q := fun _ h => h
  obtain ⟨f, n, rb, rf, gd, gn, br, mz, ⟨tx, ru, go, bo, zo, sg, fo, garr, barr, ff, gxs, bxs, fz, pl, pa, pss, own, jf, hC⟩, t, ad, F, hM⟩ := hST
  obtain ⟨hth, htx, hsg, hfo, hru, hne, ⟨hgl, hgn, ogo, oga⟩, hgs9, ⟨hbl9, hbn, obo, oba⟩, hbs9, ⟨hzo, ozo⟩, hzr9, hout⟩ := id hC
  obtain ⟨m1, m2, m3, m4, m5, m6, m7, m8, m9, m10⟩ := id hM
  have hz : wC (g.2.2 1) = none := emp_none hf hAB hwC
  refine lv_aload_n hx hb d_L_law_497 rfl (lv_at hl 1 rfl) ?_
  refine lv_aload_n hx hb d_L_law_498 rfl (lv_at hl 0 rfl) ?_
  refine lv_iload hx hb d_L_law_499 (lv_at hl 4 rfl) ?_
  refine lv_iconst (v := 1) hx hb d_L_law_501 (by decide) ?_
  refine lv_iadd hx hb d_L_law_502 ?_
  refine lv_topi (fun v_1 e_1 => ?_)
  obtain rfl : v_1 = nI ((7 * i) + 1) := by rw [e_1]; exact nI_add (7 * i) 1
  refine ww_sld (v := xs ((7 * i) + 1)) hx hb hX hbl hbA hS (vp_in_nI (by omega) (by omega)) (by rw [nI_clamp (by omega)]) d_L_law_503 ?_
  refine lv_aload_n hx hb d_L_law_504 rfl (lv_at hl 0 rfl) ?_
  refine lv_iload hx hb d_L_law_505 (lv_at hl 4 rfl) ?_
  refine lv_iconst (v := 2) hx hb d_L_law_507 (by decide) ?_
  refine lv_iadd hx hb d_L_law_508 ?_
  refine lv_topi (fun v_2 e_2 => ?_)
  obtain rfl : v_2 = nI ((7 * i) + 2) := by rw [e_2]; exact nI_add (7 * i) 2
  refine ww_sld (v := xs ((7 * i) + 2)) hx hb hX hbl hbA hS (vp_in_nI (by omega) (by omega)) (by rw [nI_clamp (by omega)]) d_L_law_509 ?_
  refine lv_aload_n hx hb d_L_law_510 rfl (lv_at hl 0 rfl) ?_
  refine lv_iload hx hb d_L_law_511 (lv_at hl 4 rfl) ?_
  refine lv_iconst (v := 3) hx hb d_L_law_513 (by decide) ?_
  refine lv_iadd hx hb d_L_law_514 ?_
  refine lv_topi (fun v_3 e_3 => ?_)
  obtain rfl : v_3 = nI ((7 * i) + 3) := by rw [e_3]; exact nI_add (7 * i) 3
  refine ww_sld (v := xs ((7 * i) + 3)) hx hb hX hbl hbA hS (vp_in_nI (by omega) (by omega)) (by rw [nI_clamp (by omega)]) d_L_law_515 ?_
  refine lv_aload_n hx hb d_L_law_516 rfl (lv_at hl 3 rfl) ?_
  refine ww_i (cSW (As := [.ref th, .int (xs ((7 * i) + 1)), .int (xs ((7 * i) + 2)), .int (xs ((7 * i) + 3)), .ref out]) (rest := []) 5 ⟨hx, hb, hml, hown, hts⟩ (c_L_also l hl0 g H.size wC th tx ru (b2 rb) go bo zo barr bxs (br.map (bxOf gd)) pl pa pss garr gxs gd (xs ((7 * i) + 1)) (xs ((7 * i) + 2)) (xs ((7 * i) + 3)) out jf hth hbl9 hC.len hC.bp hgl hC.gs hout) k_465 k_463 k_0 k_464 (by decide +kernel) ⟨Nat.le_of_ble_eq_true rfl, Nat.le_of_ble_eq_true rfl⟩ rfl rfl ⟨prW_blind _ _ _ _, prW_at hG hAB hS hwC⟩ rfl hl.1 rfl (Nat.le_of_ble_eq_true rfl) d_L_law_517 ⟨by show _ ≤ 601024; omega, by show _ ≤ 7293034; omega⟩) hwC hS hA (fun r_4 wC_4 H_4 locs_4 e_4 hwC1 hS hz_4 hk_4 hg_4 => ?_)
  have hwMo := hwM
  have hwM := hwM.other hd.symm hk_4
  have hd := dj.step hd hwMo hg_4
  have hwC := hwC1
  refine lv_istore (lv' := [(5, .int r_4), (0, .ref b), (1, .ref th), (2, .ref mo), (3, .ref out), (4, .int (nI (7 * i)))]) hx hb d_L_law_520 hl (by decide) rfl (fun ls hl => ?_)
  refine lv_aload_n hx hb d_L_law_522 rfl (lv_at hl 3 rfl) ?_
  refine lv_aload_n hx hb d_L_law_523 rfl (lv_at hl 1 rfl) ?_
  refine lv_iload hx hb d_L_law_524 (lv_at hl 5 rfl) ?_
  refine lv_iconst (v := 1) hx hb d_L_law_526 (by decide) ?_
  refine lv_iadd hx hb d_L_law_527 ?_
  refine lv_topi (fun v_5 e_5 => ?_)
  obtain rfl : v_5 = nI ((7 * i) + 1) := by rw [e_5]; exact nI_add (7 * i) 1
  refine ww_sld (v := xs ((7 * i) + 1)) hx hb hX hbl hbA hS (vp_in_nI (by omega) (by omega)) (by rw [nI_clamp (by omega)]) d_L_law_528 ?_
  refine lv_aload_n hx hb d_L_law_529 rfl (lv_at hl 1 rfl) ?_
  refine lv_iload hx hb d_L_law_530 (lv_at hl 5 rfl) ?_
  refine lv_iconst (v := 2) hx hb d_L_law_532 (by decide) ?_
  refine lv_iadd hx hb d_L_law_533 ?_
  refine lv_topi (fun v_6 e_6 => ?_)
  obtain rfl : v_6 = nI ((7 * i) + 2) := by rw [e_6]; exact nI_add (7 * i) 2
  refine ww_sld (v := xs ((7 * i) + 2)) hx hb hX hbl hbA hS (vp_in_nI (by omega) (by omega)) (by rw [nI_clamp (by omega)]) d_L_law_534 ?_
  refine lv_aload_n hx hb d_L_law_535 rfl (lv_at hl 1 rfl) ?_
  refine lv_iload hx hb d_L_law_536 (lv_at hl 5 rfl) ?_
  refine lv_iconst (v := 3) hx hb d_L_law_538 (by decide) ?_
  refine lv_iadd hx hb d_L_law_539 ?_
  refine lv_topi (fun v_7 e_7 => ?_)
  obtain rfl : v_7 = nI ((7 * i) + 3) := by rw [e_7]; exact nI_add (7 * i) 3
  refine ww_sld (v := xs ((7 * i) + 3)) hx hb hX hbl hbA hS (vp_in_nI (by omega) (by omega)) (by rw [nI_clamp (by omega)]) d_L_law_540 ?_
  refine ww_i (cV (As := [.int (xs ((7 * i) + 1)), .int (xs ((7 * i) + 2)), .int (xs ((7 * i) + 3))]) (rest := []) (C := "DangerTablesModel") 3 ⟨hx, hb, hml, hown, hts⟩ (c_M_also l g H_4.size wM mo ad t (b2 rb) n gn br.length F gd br (xs ((7 * i) + 1)) (xs ((7 * i) + 2)) (xs ((7 * i) + 3)) m1 m6 m7) k_779 k_776 k_7 k_777 k_778 (by decide +kernel) ⟨Nat.le_of_ble_eq_true rfl, Nat.le_of_ble_eq_true rfl⟩ rfl rfl ⟨prW_blind _ _ _ _, hwM.recv hK m1.1 rfl, prW_at hG hAB hS hwM⟩ rfl hl.1 rfl (Nat.le_of_ble_eq_true rfl) d_L_law_541 ⟨by show _ ≤ 601024; omega, by show _ ≤ 7293034; omega⟩) hwM hS hA (fun r_8 wM_8 H_8 locs_8 e_8 hwM1 hS hz_8 hk_8 hg_8 => ?_)
  have hwCo := hwC
  have hwC := hwC.other hd hk_8
  have hd := (dj.step hd.symm hwCo hg_8).symm
  have hwM := hwM1
  have hSTk := op_also hz hC hM e_4 e_8
  obtain ⟨f1, n1, rb1, rf1, gd1, gn1, br1, mz1, tx1, ru1, go1, bo1, zo1, sg1, fo1, garr1, barr1, ff1, gxs1, bxs1, fz1, pl1, pa1, pss1, own1, jf1, ad1, F1, hC1, hM1, hj1⟩ := id hSTk
  have hout1 := hC1.2.2.2.2.2.2.2.2.2.2.2.2
  refine lv_istore (lv' := [(6, .int r_8), (5, .int r_4), (0, .ref b), (1, .ref th), (2, .ref mo), (3, .ref out), (4, .int (nI (7 * i)))]) hx hb d_L_law_544 hl (by decide) rfl (fun ls hl => ?_)
  refine lv_aload_n hx hb d_L_law_546 rfl (lv_at hl 4 rfl) ?_
  refine wr_i (cV (As := []) (rest := []) (C := "DangerTablesModel") 0 ⟨hx, hb, hml, hown, hts⟩ (c_M_thrown l g wM_8 mo ad1 r_4 (b2 rb1) n1 gn1 br1.length F1 hM1.1) k_726 k_723 k_7 k_724 k_725 (by decide +kernel) ⟨Nat.le_of_ble_eq_true rfl, Nat.le_of_ble_eq_true rfl⟩ rfl rfl ⟨prR_blind _ _ _, hwM.recv hK hM1.1.1 rfl, prR_at hG hAB hS hwM⟩ rfl hl.1 rfl (Nat.le_of_ble_eq_true rfl) d_L_law_547 ⟨by show _ ≤ 601024; omega, by show _ ≤ 7293034; omega⟩) (fun r_t e_t => ?_)
  refine lv_iload hx hb d_L_law_550 (lv_at hl 1 rfl) ?_
  refine lv_icmp_eq (tgt := 557) hx hb d_L_law_552 (by decide) (fun _ => ?_) (fun z => absurd e_t z)
  refine lv_iload hx hb d_L_law_557 (lv_at hl 1 rfl) ?_
  refine lv_if_ne (tgt := 574) hx hb d_L_law_559 (by decide) (fun c_9 => ?_) (fun c_9 => ?_)
  · refine lv_goto (tgt := 1183) hx hb d_L_law_574 (by decide) ?_
    refine W.widen (k := 40 + 20 * (i + 1)) (n := 3000 + 400 * (i + 1)) (by omega) (by omega) ?_
    exact kk wC_4 wM_8 H_8 locs_8 ls ⟨hwC, hwM, hd, hS, hSTk.st⟩ (lv_sub hl [2, 3, 4, 5, 6] rfl)
  · have hk0 : r_4 = 0 := c_9
    refine lv_aload_n hx hb d_L_law_562 rfl (lv_at hl 5 rfl) ?_
    refine lv_iconst (v := 0) hx hb d_L_law_563 (by decide) ?_
    refine ww_lald (v := jf1 0) hx hb hK hwC 2 hout1 rfl (vp_in_nI (n := 0) (by decide) (by decide)) rfl d_L_law_564 ?_
    refine lv_iload hx hb d_L_law_565 (lv_at hl 0 rfl) ?_
    refine lv_i2l hx hb d_L_law_567 rfl ?_
    refine W.lcmp hx hb d_L_law_568 ?_
    refine lv_if_eq (tgt := 574) hx hb d_L_law_569 (by decide) (fun _ => ?_) (fun z => absurd (by rw [hj1 hk0]; exact cmp_r _) z)
    refine lv_goto (tgt := 1183) hx hb d_L_law_574 (by decide) ?_
    refine W.widen (k := 40 + 20 * (i + 1)) (n := 3000 + 400 * (i + 1)) (by omega) (by omega) ?_
    exact kk wC_4 wM_8 H_8 locs_8 ls ⟨hwC, hwM, hd, hS, hSTk.st⟩ (lv_sub hl [2, 3, 4, 5, 6] rfl)

set_option maxHeartbeats 4000000 in
set_option maxRecDepth 100000 in
theorem lc_7 (l : Launch) {p : Program} {e : Env} {s : State} {m : MethodId} {below : List Frame} {meth : Method} {c : Code} {b L : Nat} {xs : Nat → Int32} {g : GT} (hLX : LX p l s m meth c b L xs g) {Q : State → Prop} {i th mo out : Nat} (hi : 7 * i + 7 ≤ L) (kk : ∀ (wC wM : Nat → Option va_E) (H : Heap) (locs : List Loc) (ls : Array Slot), LI g s wC wM th mo out H locs → lv_has ls 7 [(0, .ref b), (1, .ref th), (2, .ref mo), (3, .ref out), (4, .int (nI (7 * i)))] → W p l e room_1 s m #[Value.ref b] below meth c H locs (40 + 20 * (i + 1)) (3000 + 400 * (i + 1)) Q (F0 m 1183 ls [])) {wC wM : Nat → Option va_E} {H : Heap} {locs : List Loc} {ls : Array Slot} (hI : LI g s wC wM th mo out H locs) (hl : lv_has ls 7 [(0, .ref b), (1, .ref th), (2, .ref mo), (3, .ref out), (4, .int (nI (7 * i)))]) : W p l e room_1 s m #[Value.ref b] below meth c H locs (40 + 20 * i) (3000 + 400 * i) Q (F0 m 577 ls []) := by
  obtain ⟨hx, hb, hr, hml, hown, hts, hG, hg0, hX, hbl, hL, hl0⟩ := hLX
  obtain ⟨hwC, hwM, hd, hS, hST⟩ := hI
  have hf := hG.here
  have hK := hf.1
  have hbA : ¬ gB g b := fun z => absurd hbl (Nat.not_lt.mpr (hg0 ▸ z))
  have hA : ∀ q, s.heap.size ≤ q → gB g q := fun q h => by show g.2.2 0 ≤ q; rw [hg0]; exact h
  have hAB : ∀ q, gB g q → gB g q := fun _ h => h
  obtain ⟨f, n, rb, rf, gd, gn, br, mz, ⟨tx, ru, go, bo, zo, sg, fo, garr, barr, ff, gxs, bxs, fz, pl, pa, pss, own, jf, hC⟩, t, ad, F, hM⟩ := hST
  obtain ⟨hth, htx, hsg, hfo, hru, hne, ⟨hgl, hgn, ogo, oga⟩, hgs9, ⟨hbl9, hbn, obo, oba⟩, hbs9, ⟨hzo, ozo⟩, hzr9, hout⟩ := id hC
  obtain ⟨m1, m2, m3, m4, m5, m6, m7, m8, m9, m10⟩ := id hM
  have hz : wC (g.2.2 1) = none := emp_none hf hAB hwC
  refine lv_aload_n hx hb d_L_law_577 rfl (lv_at hl 1 rfl) ?_
  refine lv_aload_n hx hb d_L_law_578 rfl (lv_at hl 0 rfl) ?_
  refine lv_iload hx hb d_L_law_579 (lv_at hl 4 rfl) ?_
  refine lv_iconst (v := 1) hx hb d_L_law_581 (by decide) ?_
  refine lv_iadd hx hb d_L_law_582 ?_
  refine lv_topi (fun v_1 e_1 => ?_)
  obtain rfl : v_1 = nI ((7 * i) + 1) := by rw [e_1]; exact nI_add (7 * i) 1
  refine ww_sld (v := xs ((7 * i) + 1)) hx hb hX hbl hbA hS (vp_in_nI (by omega) (by omega)) (by rw [nI_clamp (by omega)]) d_L_law_583 ?_
  refine lv_aload_n hx hb d_L_law_584 rfl (lv_at hl 0 rfl) ?_
  refine lv_iload hx hb d_L_law_585 (lv_at hl 4 rfl) ?_
  refine lv_iconst (v := 2) hx hb d_L_law_587 (by decide) ?_
  refine lv_iadd hx hb d_L_law_588 ?_
  refine lv_topi (fun v_2 e_2 => ?_)
  obtain rfl : v_2 = nI ((7 * i) + 2) := by rw [e_2]; exact nI_add (7 * i) 2
  refine ww_sld (v := xs ((7 * i) + 2)) hx hb hX hbl hbA hS (vp_in_nI (by omega) (by omega)) (by rw [nI_clamp (by omega)]) d_L_law_589 ?_
  refine lv_aload_n hx hb d_L_law_590 rfl (lv_at hl 3 rfl) ?_
  refine ww_i (cSW (As := [.ref th, .int (xs ((7 * i) + 1)), .int (xs ((7 * i) + 2)), .ref out]) (rest := []) 4 ⟨hx, hb, hml, hown, hts⟩ (c_L_apart l hl0 g H.size wC th tx ru (b2 rb) go bo zo rf barr bxs (br.map (bxOf gd)) (xs ((7 * i) + 1)) (xs ((7 * i) + 2)) out jf hth hru hbl9 hC.len hC.bs (RM_os hM) hout) k_485 k_483 k_0 k_484 (by decide +kernel) ⟨Nat.le_of_ble_eq_true rfl, Nat.le_of_ble_eq_true rfl⟩ rfl rfl ⟨prW_blind _ _ _ _, prW_at hG hAB hS hwC⟩ rfl hl.1 rfl (Nat.le_of_ble_eq_true rfl) d_L_law_591 ⟨by show _ ≤ 601024; omega, by show _ ≤ 7293034; omega⟩) hwC hS hA (fun r_3 wC_3 H_3 locs_3 e_3 hwC1 hS hz_3 hk_3 hg_3 => ?_)
  have hwMo := hwM
  have hwM := hwM.other hd.symm hk_3
  have hd := dj.step hd hwMo hg_3
  have hwC := hwC1
  refine lv_istore (lv' := [(5, .int r_3), (0, .ref b), (1, .ref th), (2, .ref mo), (3, .ref out), (4, .int (nI (7 * i)))]) hx hb d_L_law_594 hl (by decide) rfl (fun ls hl => ?_)
  refine lv_aload_n hx hb d_L_law_596 rfl (lv_at hl 3 rfl) ?_
  refine lv_aload_n hx hb d_L_law_597 rfl (lv_at hl 1 rfl) ?_
  refine lv_iload hx hb d_L_law_598 (lv_at hl 5 rfl) ?_
  refine lv_iconst (v := 1) hx hb d_L_law_600 (by decide) ?_
  refine lv_iadd hx hb d_L_law_601 ?_
  refine lv_topi (fun v_4 e_4 => ?_)
  obtain rfl : v_4 = nI ((7 * i) + 1) := by rw [e_4]; exact nI_add (7 * i) 1
  refine ww_sld (v := xs ((7 * i) + 1)) hx hb hX hbl hbA hS (vp_in_nI (by omega) (by omega)) (by rw [nI_clamp (by omega)]) d_L_law_602 ?_
  refine lv_aload_n hx hb d_L_law_603 rfl (lv_at hl 1 rfl) ?_
  refine lv_iload hx hb d_L_law_604 (lv_at hl 5 rfl) ?_
  refine lv_iconst (v := 2) hx hb d_L_law_606 (by decide) ?_
  refine lv_iadd hx hb d_L_law_607 ?_
  refine lv_topi (fun v_5 e_5 => ?_)
  obtain rfl : v_5 = nI ((7 * i) + 2) := by rw [e_5]; exact nI_add (7 * i) 2
  refine ww_sld (v := xs ((7 * i) + 2)) hx hb hX hbl hbA hS (vp_in_nI (by omega) (by omega)) (by rw [nI_clamp (by omega)]) d_L_law_608 ?_
  refine ww_i (cV (As := [.int (xs ((7 * i) + 1)), .int (xs ((7 * i) + 2))]) (rest := []) (C := "DangerTablesModel") 2 ⟨hx, hb, hml, hown, hts⟩ (c_M_apart l g H_3.size wM mo ad t (b2 rb) n gn br.length F gd br rf (xs ((7 * i) + 1)) (xs ((7 * i) + 2)) m1 m6 m7 m5) k_791 k_788 k_7 k_789 k_790 (by decide +kernel) ⟨Nat.le_of_ble_eq_true rfl, Nat.le_of_ble_eq_true rfl⟩ rfl rfl ⟨prW_blind _ _ _ _, hwM.recv hK m1.1 rfl, prW_at hG hAB hS hwM⟩ rfl hl.1 rfl (Nat.le_of_ble_eq_true rfl) d_L_law_609 ⟨by show _ ≤ 601024; omega, by show _ ≤ 7293034; omega⟩) hwM hS hA (fun r_6 wM_6 H_6 locs_6 e_6 hwM1 hS hz_6 hk_6 hg_6 => ?_)
  have hwCo := hwC
  have hwC := hwC.other hd hk_6
  have hd := (dj.step hd.symm hwCo hg_6).symm
  have hwM := hwM1
  have hSTk := op_apart hz hC hM e_3 e_6
  obtain ⟨f1, n1, rb1, rf1, gd1, gn1, br1, mz1, tx1, ru1, go1, bo1, zo1, sg1, fo1, garr1, barr1, ff1, gxs1, bxs1, fz1, pl1, pa1, pss1, own1, jf1, ad1, F1, hC1, hM1, hj1⟩ := id hSTk
  have hout1 := hC1.2.2.2.2.2.2.2.2.2.2.2.2
  refine lv_istore (lv' := [(6, .int r_6), (5, .int r_3), (0, .ref b), (1, .ref th), (2, .ref mo), (3, .ref out), (4, .int (nI (7 * i)))]) hx hb d_L_law_612 hl (by decide) rfl (fun ls hl => ?_)
  refine lv_aload_n hx hb d_L_law_614 rfl (lv_at hl 4 rfl) ?_
  refine wr_i (cV (As := []) (rest := []) (C := "DangerTablesModel") 0 ⟨hx, hb, hml, hown, hts⟩ (c_M_thrown l g wM_6 mo ad1 r_3 (b2 rb1) n1 gn1 br1.length F1 hM1.1) k_726 k_723 k_7 k_724 k_725 (by decide +kernel) ⟨Nat.le_of_ble_eq_true rfl, Nat.le_of_ble_eq_true rfl⟩ rfl rfl ⟨prR_blind _ _ _, hwM.recv hK hM1.1.1 rfl, prR_at hG hAB hS hwM⟩ rfl hl.1 rfl (Nat.le_of_ble_eq_true rfl) d_L_law_615 ⟨by show _ ≤ 601024; omega, by show _ ≤ 7293034; omega⟩) (fun r_t e_t => ?_)
  refine lv_iload hx hb d_L_law_618 (lv_at hl 1 rfl) ?_
  refine lv_icmp_eq (tgt := 625) hx hb d_L_law_620 (by decide) (fun _ => ?_) (fun z => absurd e_t z)
  refine lv_iload hx hb d_L_law_625 (lv_at hl 1 rfl) ?_
  refine lv_if_ne (tgt := 642) hx hb d_L_law_627 (by decide) (fun c_7 => ?_) (fun c_7 => ?_)
  · refine lv_goto (tgt := 1183) hx hb d_L_law_642 (by decide) ?_
    refine W.widen (k := 40 + 20 * (i + 1)) (n := 3000 + 400 * (i + 1)) (by omega) (by omega) ?_
    exact kk wC_3 wM_6 H_6 locs_6 ls ⟨hwC, hwM, hd, hS, hSTk.st⟩ (lv_sub hl [2, 3, 4, 5, 6] rfl)
  · have hk0 : r_3 = 0 := c_7
    refine lv_aload_n hx hb d_L_law_630 rfl (lv_at hl 5 rfl) ?_
    refine lv_iconst (v := 0) hx hb d_L_law_631 (by decide) ?_
    refine ww_lald (v := jf1 0) hx hb hK hwC 2 hout1 rfl (vp_in_nI (n := 0) (by decide) (by decide)) rfl d_L_law_632 ?_
    refine lv_iload hx hb d_L_law_633 (lv_at hl 0 rfl) ?_
    refine lv_i2l hx hb d_L_law_635 rfl ?_
    refine W.lcmp hx hb d_L_law_636 ?_
    refine lv_if_eq (tgt := 642) hx hb d_L_law_637 (by decide) (fun _ => ?_) (fun z => absurd (by rw [hj1 hk0]; exact cmp_r _) z)
    refine lv_goto (tgt := 1183) hx hb d_L_law_642 (by decide) ?_
    refine W.widen (k := 40 + 20 * (i + 1)) (n := 3000 + 400 * (i + 1)) (by omega) (by omega) ?_
    exact kk wC_3 wM_6 H_6 locs_6 ls ⟨hwC, hwM, hd, hS, hSTk.st⟩ (lv_sub hl [2, 3, 4, 5, 6] rfl)

set_option maxHeartbeats 4000000 in
set_option maxRecDepth 100000 in
theorem lc_8 (l : Launch) {p : Program} {e : Env} {s : State} {m : MethodId} {below : List Frame} {meth : Method} {c : Code} {b L : Nat} {xs : Nat → Int32} {g : GT} (hLX : LX p l s m meth c b L xs g) {Q : State → Prop} {i th mo out : Nat} (hi : 7 * i + 7 ≤ L) (kk : ∀ (wC wM : Nat → Option va_E) (H : Heap) (locs : List Loc) (ls : Array Slot), LI g s wC wM th mo out H locs → lv_has ls 7 [(0, .ref b), (1, .ref th), (2, .ref mo), (3, .ref out), (4, .int (nI (7 * i)))] → W p l e room_1 s m #[Value.ref b] below meth c H locs (40 + 20 * (i + 1)) (3000 + 400 * (i + 1)) Q (F0 m 1183 ls [])) {wC wM : Nat → Option va_E} {H : Heap} {locs : List Loc} {ls : Array Slot} (hI : LI g s wC wM th mo out H locs) (hl : lv_has ls 7 [(0, .ref b), (1, .ref th), (2, .ref mo), (3, .ref out), (4, .int (nI (7 * i)))]) : W p l e room_1 s m #[Value.ref b] below meth c H locs (40 + 20 * i) (3000 + 400 * i) Q (F0 m 645 ls []) := by
  obtain ⟨hx, hb, hr, hml, hown, hts, hG, hg0, hX, hbl, hL, hl0⟩ := hLX
  obtain ⟨hwC, hwM, hd, hS, hST⟩ := hI
  have hf := hG.here
  have hK := hf.1
  have hbA : ¬ gB g b := fun z => absurd hbl (Nat.not_lt.mpr (hg0 ▸ z))
  have hA : ∀ q, s.heap.size ≤ q → gB g q := fun q h => by show g.2.2 0 ≤ q; rw [hg0]; exact h
  have hAB : ∀ q, gB g q → gB g q := fun _ h => h
  obtain ⟨f, n, rb, rf, gd, gn, br, mz, ⟨tx, ru, go, bo, zo, sg, fo, garr, barr, ff, gxs, bxs, fz, pl, pa, pss, own, jf, hC⟩, t, ad, F, hM⟩ := hST
  obtain ⟨hth, htx, hsg, hfo, hru, hne, ⟨hgl, hgn, ogo, oga⟩, hgs9, ⟨hbl9, hbn, obo, oba⟩, hbs9, ⟨hzo, ozo⟩, hzr9, hout⟩ := id hC
  obtain ⟨m1, m2, m3, m4, m5, m6, m7, m8, m9, m10⟩ := id hM
  have hz : wC (g.2.2 1) = none := emp_none hf hAB hwC
  refine lv_aload_n hx hb d_L_law_645 rfl (lv_at hl 1 rfl) ?_
  refine lv_aload_n hx hb d_L_law_646 rfl (lv_at hl 0 rfl) ?_
  refine lv_iload hx hb d_L_law_647 (lv_at hl 4 rfl) ?_
  refine lv_iconst (v := 1) hx hb d_L_law_649 (by decide) ?_
  refine lv_iadd hx hb d_L_law_650 ?_
  refine lv_topi (fun v_1 e_1 => ?_)
  obtain rfl : v_1 = nI ((7 * i) + 1) := by rw [e_1]; exact nI_add (7 * i) 1
  refine ww_sld (v := xs ((7 * i) + 1)) hx hb hX hbl hbA hS (vp_in_nI (by omega) (by omega)) (by rw [nI_clamp (by omega)]) d_L_law_651 ?_
  refine lv_aload_n hx hb d_L_law_652 rfl (lv_at hl 0 rfl) ?_
  refine lv_iload hx hb d_L_law_653 (lv_at hl 4 rfl) ?_
  refine lv_iconst (v := 2) hx hb d_L_law_655 (by decide) ?_
  refine lv_iadd hx hb d_L_law_656 ?_
  refine lv_topi (fun v_2 e_2 => ?_)
  obtain rfl : v_2 = nI ((7 * i) + 2) := by rw [e_2]; exact nI_add (7 * i) 2
  refine ww_sld (v := xs ((7 * i) + 2)) hx hb hX hbl hbA hS (vp_in_nI (by omega) (by omega)) (by rw [nI_clamp (by omega)]) d_L_law_657 ?_
  refine lv_aload_n hx hb d_L_law_658 rfl (lv_at hl 0 rfl) ?_
  refine lv_iload hx hb d_L_law_659 (lv_at hl 4 rfl) ?_
  refine lv_iconst (v := 3) hx hb d_L_law_661 (by decide) ?_
  refine lv_iadd hx hb d_L_law_662 ?_
  refine lv_topi (fun v_3 e_3 => ?_)
  obtain rfl : v_3 = nI ((7 * i) + 3) := by rw [e_3]; exact nI_add (7 * i) 3
  refine ww_sld (v := xs ((7 * i) + 3)) hx hb hX hbl hbA hS (vp_in_nI (by omega) (by omega)) (by rw [nI_clamp (by omega)]) d_L_law_663 ?_
  refine lv_aload_n hx hb d_L_law_664 rfl (lv_at hl 3 rfl) ?_
  refine ww_i (cSW (As := [.ref th, .int (xs ((7 * i) + 1)), .int (xs ((7 * i) + 2)), .int (xs ((7 * i) + 3)), .ref out]) (rest := []) 5 ⟨hx, hb, hml, hown, hts⟩ (c_L_ship l hl0 g H.size wC th tx ru (b2 rb) go bo zo rf barr bxs (br.map (bxOf gd)) (xs ((7 * i) + 1)) (xs ((7 * i) + 2)) (xs ((7 * i) + 3)) out jf hth hru m4 hbl9 hC.len hC.bs (RM_os hM) hout) k_517 k_515 k_0 k_516 (by decide +kernel) ⟨Nat.le_of_ble_eq_true rfl, Nat.le_of_ble_eq_true rfl⟩ rfl rfl ⟨prW_blind _ _ _ _, prW_at hG hAB hS hwC⟩ rfl hl.1 rfl (Nat.le_of_ble_eq_true rfl) d_L_law_665 ⟨by show _ ≤ 601024; omega, by show _ ≤ 7293034; omega⟩) hwC hS hA (fun r_4 wC_4 H_4 locs_4 e_4 hwC1 hS hz_4 hk_4 hg_4 => ?_)
  have hwMo := hwM
  have hwM := hwM.other hd.symm hk_4
  have hd := dj.step hd hwMo hg_4
  have hwC := hwC1
  refine lv_istore (lv' := [(5, .int r_4), (0, .ref b), (1, .ref th), (2, .ref mo), (3, .ref out), (4, .int (nI (7 * i)))]) hx hb d_L_law_668 hl (by decide) rfl (fun ls hl => ?_)
  refine lv_aload_n hx hb d_L_law_670 rfl (lv_at hl 3 rfl) ?_
  refine lv_aload_n hx hb d_L_law_671 rfl (lv_at hl 1 rfl) ?_
  refine lv_iload hx hb d_L_law_672 (lv_at hl 5 rfl) ?_
  refine lv_iconst (v := 1) hx hb d_L_law_674 (by decide) ?_
  refine lv_iadd hx hb d_L_law_675 ?_
  refine lv_topi (fun v_5 e_5 => ?_)
  obtain rfl : v_5 = nI ((7 * i) + 1) := by rw [e_5]; exact nI_add (7 * i) 1
  refine ww_sld (v := xs ((7 * i) + 1)) hx hb hX hbl hbA hS (vp_in_nI (by omega) (by omega)) (by rw [nI_clamp (by omega)]) d_L_law_676 ?_
  refine lv_aload_n hx hb d_L_law_677 rfl (lv_at hl 1 rfl) ?_
  refine lv_iload hx hb d_L_law_678 (lv_at hl 5 rfl) ?_
  refine lv_iconst (v := 2) hx hb d_L_law_680 (by decide) ?_
  refine lv_iadd hx hb d_L_law_681 ?_
  refine lv_topi (fun v_6 e_6 => ?_)
  obtain rfl : v_6 = nI ((7 * i) + 2) := by rw [e_6]; exact nI_add (7 * i) 2
  refine ww_sld (v := xs ((7 * i) + 2)) hx hb hX hbl hbA hS (vp_in_nI (by omega) (by omega)) (by rw [nI_clamp (by omega)]) d_L_law_682 ?_
  refine lv_aload_n hx hb d_L_law_683 rfl (lv_at hl 1 rfl) ?_
  refine lv_iload hx hb d_L_law_684 (lv_at hl 5 rfl) ?_
  refine lv_iconst (v := 3) hx hb d_L_law_686 (by decide) ?_
  refine lv_iadd hx hb d_L_law_687 ?_
  refine lv_topi (fun v_7 e_7 => ?_)
  obtain rfl : v_7 = nI ((7 * i) + 3) := by rw [e_7]; exact nI_add (7 * i) 3
  refine ww_sld (v := xs ((7 * i) + 3)) hx hb hX hbl hbA hS (vp_in_nI (by omega) (by omega)) (by rw [nI_clamp (by omega)]) d_L_law_688 ?_
  refine ww_i (cV (As := [.int (xs ((7 * i) + 1)), .int (xs ((7 * i) + 2)), .int (xs ((7 * i) + 3))]) (rest := []) (C := "DangerTablesModel") 3 ⟨hx, hb, hml, hown, hts⟩ (c_M_ship l g H_4.size wM mo ad t (b2 rb) n gn br.length F gd br rf (xs ((7 * i) + 1)) (xs ((7 * i) + 2)) (xs ((7 * i) + 3)) m1 m6 m7 m5 m4) k_814 k_811 k_7 k_812 k_813 (by decide +kernel) ⟨Nat.le_of_ble_eq_true rfl, Nat.le_of_ble_eq_true rfl⟩ rfl rfl ⟨prW_blind _ _ _ _, hwM.recv hK m1.1 rfl, prW_at hG hAB hS hwM⟩ rfl hl.1 rfl (Nat.le_of_ble_eq_true rfl) d_L_law_689 ⟨by show _ ≤ 601024; omega, by show _ ≤ 7293034; omega⟩) hwM hS hA (fun r_8 wM_8 H_8 locs_8 e_8 hwM1 hS hz_8 hk_8 hg_8 => ?_)
  have hwCo := hwC
  have hwC := hwC.other hd hk_8
  have hd := (dj.step hd.symm hwCo hg_8).symm
  have hwM := hwM1
  have hSTk := op_ship hz hC hM e_4 e_8
  have hr01 : r_8 = 0 ∨ r_8 = 1 := by rcases e_8 with ⟨-, i9, j9, b9, c9, -, -, -, -, h9, -⟩ | ⟨-, h9, -⟩; rw [h9]; unfold b2; split; exact Or.inr rfl; exact Or.inl rfl; exact Or.inl h9
  obtain ⟨f1, n1, rb1, rf1, gd1, gn1, br1, mz1, tx1, ru1, go1, bo1, zo1, sg1, fo1, garr1, barr1, ff1, gxs1, bxs1, fz1, pl1, pa1, pss1, own1, jf1, ad1, F1, hC1, hM1, hj1⟩ := id hSTk
  have hout1 := hC1.2.2.2.2.2.2.2.2.2.2.2.2
  refine lv_istore (lv' := [(6, .int r_8), (5, .int r_4), (0, .ref b), (1, .ref th), (2, .ref mo), (3, .ref out), (4, .int (nI (7 * i)))]) hx hb d_L_law_692 hl (by decide) rfl (fun ls hl => ?_)
  refine lv_aload_n hx hb d_L_law_694 rfl (lv_at hl 4 rfl) ?_
  refine wr_i (cV (As := []) (rest := []) (C := "DangerTablesModel") 0 ⟨hx, hb, hml, hown, hts⟩ (c_M_thrown l g wM_8 mo ad1 r_4 (b2 rb1) n1 gn1 br1.length F1 hM1.1) k_726 k_723 k_7 k_724 k_725 (by decide +kernel) ⟨Nat.le_of_ble_eq_true rfl, Nat.le_of_ble_eq_true rfl⟩ rfl rfl ⟨prR_blind _ _ _, hwM.recv hK hM1.1.1 rfl, prR_at hG hAB hS hwM⟩ rfl hl.1 rfl (Nat.le_of_ble_eq_true rfl) d_L_law_695 ⟨by show _ ≤ 601024; omega, by show _ ≤ 7293034; omega⟩) (fun r_t e_t => ?_)
  refine lv_iload hx hb d_L_law_698 (lv_at hl 1 rfl) ?_
  refine lv_icmp_eq (tgt := 705) hx hb d_L_law_700 (by decide) (fun _ => ?_) (fun z => absurd e_t z)
  refine lv_iload hx hb d_L_law_705 (lv_at hl 1 rfl) ?_
  refine lv_if_ne (tgt := 729) hx hb d_L_law_707 (by decide) (fun c_9 => ?_) (fun c_9 => ?_)
  · refine lv_goto (tgt := 1183) hx hb d_L_law_729 (by decide) ?_
    refine W.widen (k := 40 + 20 * (i + 1)) (n := 3000 + 400 * (i + 1)) (by omega) (by omega) ?_
    exact kk wC_4 wM_8 H_8 locs_8 ls ⟨hwC, hwM, hd, hS, hSTk.st⟩ (lv_sub hl [2, 3, 4, 5, 6] rfl)
  · have hk0 : r_4 = 0 := c_9
    refine lv_aload_n hx hb d_L_law_710 rfl (lv_at hl 5 rfl) ?_
    refine lv_iconst (v := 0) hx hb d_L_law_711 (by decide) ?_
    refine ww_lald (v := jf1 0) hx hb hK hwC 2 hout1 rfl (vp_in_nI (n := 0) (by decide) (by decide)) rfl d_L_law_712 ?_
    refine lv_iload hx hb d_L_law_713 (lv_at hl 0 rfl) ?_
    refine lv_if_eq (tgt := 722) hx hb d_L_law_715 (by decide) (fun c_10 => ?_) (fun c_10 => ?_)
    · refine lv_lconst (v := 0) hx hb d_L_law_722 (by decide) ?_
      refine W.lcmp hx hb d_L_law_723 ?_
      refine lv_if_eq (tgt := 729) hx hb d_L_law_724 (by decide) (fun _ => ?_) (fun z => absurd (by rw [hj1 hk0, c_10]; decide) z)
      refine lv_goto (tgt := 1183) hx hb d_L_law_729 (by decide) ?_
      refine W.widen (k := 40 + 20 * (i + 1)) (n := 3000 + 400 * (i + 1)) (by omega) (by omega) ?_
      exact kk wC_4 wM_8 H_8 locs_8 ls ⟨hwC, hwM, hd, hS, hSTk.st⟩ (lv_sub hl [2, 3, 4, 5, 6] rfl)
    · refine lv_lconst (v := 1) hx hb d_L_law_718 (by decide) ?_
      refine lv_goto (tgt := 723) hx hb d_L_law_719 (by decide) ?_
      refine W.lcmp hx hb d_L_law_723 ?_
      refine lv_if_eq (tgt := 729) hx hb d_L_law_724 (by decide) (fun _ => ?_) (fun z => absurd (by rw [hj1 hk0, hr01.resolve_left c_10]; decide) z)
      refine lv_goto (tgt := 1183) hx hb d_L_law_729 (by decide) ?_
      refine W.widen (k := 40 + 20 * (i + 1)) (n := 3000 + 400 * (i + 1)) (by omega) (by omega) ?_
      exact kk wC_4 wM_8 H_8 locs_8 ls ⟨hwC, hwM, hd, hS, hSTk.st⟩ (lv_sub hl [2, 3, 4, 5, 6] rfl)

set_option maxHeartbeats 4000000 in
set_option maxRecDepth 100000 in
theorem lc_9 (l : Launch) {p : Program} {e : Env} {s : State} {m : MethodId} {below : List Frame} {meth : Method} {c : Code} {b L : Nat} {xs : Nat → Int32} {g : GT} (hLX : LX p l s m meth c b L xs g) {Q : State → Prop} {i th mo out : Nat} (hi : 7 * i + 7 ≤ L) (kk : ∀ (wC wM : Nat → Option va_E) (H : Heap) (locs : List Loc) (ls : Array Slot), LI g s wC wM th mo out H locs → lv_has ls 7 [(0, .ref b), (1, .ref th), (2, .ref mo), (3, .ref out), (4, .int (nI (7 * i)))] → W p l e room_1 s m #[Value.ref b] below meth c H locs (40 + 20 * (i + 1)) (3000 + 400 * (i + 1)) Q (F0 m 1183 ls [])) {wC wM : Nat → Option va_E} {H : Heap} {locs : List Loc} {ls : Array Slot} (hI : LI g s wC wM th mo out H locs) (hl : lv_has ls 7 [(0, .ref b), (1, .ref th), (2, .ref mo), (3, .ref out), (4, .int (nI (7 * i)))]) : W p l e room_1 s m #[Value.ref b] below meth c H locs (40 + 20 * i) (3000 + 400 * i) Q (F0 m 732 ls []) := by
  obtain ⟨hx, hb, hr, hml, hown, hts, hG, hg0, hX, hbl, hL, hl0⟩ := hLX
  obtain ⟨hwC, hwM, hd, hS, hST⟩ := hI
  have hf := hG.here
  have hK := hf.1
  have hbA : ¬ gB g b := fun z => absurd hbl (Nat.not_lt.mpr (hg0 ▸ z))
  have hA : ∀ q, s.heap.size ≤ q → gB g q := fun q h => by show g.2.2 0 ≤ q; rw [hg0]; exact h
  have hAB : ∀ q, gB g q → gB g q := fun _ h => h
  obtain ⟨f, n, rb, rf, gd, gn, br, mz, ⟨tx, ru, go, bo, zo, sg, fo, garr, barr, ff, gxs, bxs, fz, pl, pa, pss, own, jf, hC⟩, t, ad, F, hM⟩ := hST
  obtain ⟨hth, htx, hsg, hfo, hru, hne, ⟨hgl, hgn, ogo, oga⟩, hgs9, ⟨hbl9, hbn, obo, oba⟩, hbs9, ⟨hzo, ozo⟩, hzr9, hout⟩ := id hC
  obtain ⟨m1, m2, m3, m4, m5, m6, m7, m8, m9, m10⟩ := id hM
  have hz : wC (g.2.2 1) = none := emp_none hf hAB hwC
  refine lv_aload_n hx hb d_L_law_732 rfl (lv_at hl 1 rfl) ?_
  refine lv_aload_n hx hb d_L_law_733 rfl (lv_at hl 0 rfl) ?_
  refine lv_iload hx hb d_L_law_734 (lv_at hl 4 rfl) ?_
  refine lv_iconst (v := 1) hx hb d_L_law_736 (by decide) ?_
  refine lv_iadd hx hb d_L_law_737 ?_
  refine lv_topi (fun v_1 e_1 => ?_)
  obtain rfl : v_1 = nI ((7 * i) + 1) := by rw [e_1]; exact nI_add (7 * i) 1
  refine ww_sld (v := xs ((7 * i) + 1)) hx hb hX hbl hbA hS (vp_in_nI (by omega) (by omega)) (by rw [nI_clamp (by omega)]) d_L_law_738 ?_
  refine lv_aload_n hx hb d_L_law_739 rfl (lv_at hl 0 rfl) ?_
  refine lv_iload hx hb d_L_law_740 (lv_at hl 4 rfl) ?_
  refine lv_iconst (v := 2) hx hb d_L_law_742 (by decide) ?_
  refine lv_iadd hx hb d_L_law_743 ?_
  refine lv_topi (fun v_2 e_2 => ?_)
  obtain rfl : v_2 = nI ((7 * i) + 2) := by rw [e_2]; exact nI_add (7 * i) 2
  refine ww_sld (v := xs ((7 * i) + 2)) hx hb hX hbl hbA hS (vp_in_nI (by omega) (by omega)) (by rw [nI_clamp (by omega)]) d_L_law_744 ?_
  refine lv_aload_n hx hb d_L_law_745 rfl (lv_at hl 0 rfl) ?_
  refine lv_iload hx hb d_L_law_746 (lv_at hl 4 rfl) ?_
  refine lv_iconst (v := 3) hx hb d_L_law_748 (by decide) ?_
  refine lv_iadd hx hb d_L_law_749 ?_
  refine lv_topi (fun v_3 e_3 => ?_)
  obtain rfl : v_3 = nI ((7 * i) + 3) := by rw [e_3]; exact nI_add (7 * i) 3
  refine ww_sld (v := xs ((7 * i) + 3)) hx hb hX hbl hbA hS (vp_in_nI (by omega) (by omega)) (by rw [nI_clamp (by omega)]) d_L_law_750 ?_
  refine ww_i (cV (As := [.int (xs ((7 * i) + 1)), .int (xs ((7 * i) + 2)), .int (xs ((7 * i) + 3))]) (rest := []) (C := "DangerTables") 3 ⟨hx, hb, hml, hown, hts⟩ (c_T_most l g H.size wC th tx ru (b2 rb) go bo zo fz mz (xs ((7 * i) + 1)) (xs ((7 * i) + 2)) (xs ((7 * i) + 3)) hth hzo hC.zr) k_181 k_178 k_1 k_179 k_180 (by decide +kernel) ⟨Nat.le_of_ble_eq_true rfl, Nat.le_of_ble_eq_true rfl⟩ rfl rfl ⟨prW_blind _ _ _ _, hwC.recv hK hth rfl, prW_at hG hAB hS hwC⟩ rfl hl.1 rfl (Nat.le_of_ble_eq_true rfl) d_L_law_751 ⟨by show _ ≤ 601024; omega, by show _ ≤ 7293034; omega⟩) hwC hS hA (fun r_4 wC_4 H_4 locs_4 e_4 hwC1 hS hz_4 hk_4 hg_4 => ?_)
  have hwMo := hwM
  have hwM := hwM.other hd.symm hk_4
  have hd := dj.step hd hwMo hg_4
  have hwC := hwC1
  refine lv_aload_n hx hb d_L_law_754 rfl (lv_at hl 2 rfl) ?_
  refine lv_aload_n hx hb d_L_law_755 rfl (lv_at hl 0 rfl) ?_
  refine lv_iload hx hb d_L_law_756 (lv_at hl 4 rfl) ?_
  refine lv_iconst (v := 1) hx hb d_L_law_758 (by decide) ?_
  refine lv_iadd hx hb d_L_law_759 ?_
  refine lv_topi (fun v_5 e_5 => ?_)
  obtain rfl : v_5 = nI ((7 * i) + 1) := by rw [e_5]; exact nI_add (7 * i) 1
  refine ww_sld (v := xs ((7 * i) + 1)) hx hb hX hbl hbA hS (vp_in_nI (by omega) (by omega)) (by rw [nI_clamp (by omega)]) d_L_law_760 ?_
  refine lv_aload_n hx hb d_L_law_761 rfl (lv_at hl 0 rfl) ?_
  refine lv_iload hx hb d_L_law_762 (lv_at hl 4 rfl) ?_
  refine lv_iconst (v := 2) hx hb d_L_law_764 (by decide) ?_
  refine lv_iadd hx hb d_L_law_765 ?_
  refine lv_topi (fun v_6 e_6 => ?_)
  obtain rfl : v_6 = nI ((7 * i) + 2) := by rw [e_6]; exact nI_add (7 * i) 2
  refine ww_sld (v := xs ((7 * i) + 2)) hx hb hX hbl hbA hS (vp_in_nI (by omega) (by omega)) (by rw [nI_clamp (by omega)]) d_L_law_766 ?_
  refine lv_aload_n hx hb d_L_law_767 rfl (lv_at hl 0 rfl) ?_
  refine lv_iload hx hb d_L_law_768 (lv_at hl 4 rfl) ?_
  refine lv_iconst (v := 3) hx hb d_L_law_770 (by decide) ?_
  refine lv_iadd hx hb d_L_law_771 ?_
  refine lv_topi (fun v_7 e_7 => ?_)
  obtain rfl : v_7 = nI ((7 * i) + 3) := by rw [e_7]; exact nI_add (7 * i) 3
  refine ww_sld (v := xs ((7 * i) + 3)) hx hb hX hbl hbA hS (vp_in_nI (by omega) (by omega)) (by rw [nI_clamp (by omega)]) d_L_law_772 ?_
  refine ww_i (cV (As := [.int (xs ((7 * i) + 1)), .int (xs ((7 * i) + 2)), .int (xs ((7 * i) + 3))]) (rest := [.int r_4]) (C := "DangerTablesModel") 3 ⟨hx, hb, hml, hown, hts⟩ (c_M_most l g H_4.size wM mo ad t (b2 rb) n gn br.length F (xs ((7 * i) + 1)) (xs ((7 * i) + 2)) (xs ((7 * i) + 3)) m1) k_818 k_815 k_7 k_816 k_817 (by decide +kernel) ⟨Nat.le_of_ble_eq_true rfl, Nat.le_of_ble_eq_true rfl⟩ rfl rfl ⟨prW_blind _ _ _ _, hwM.recv hK m1.1 rfl, prW_at hG hAB hS hwM⟩ rfl hl.1 rfl (Nat.le_of_ble_eq_true rfl) d_L_law_773 ⟨by show _ ≤ 601024; omega, by show _ ≤ 7293034; omega⟩) hwM hS hA (fun r_8 wM_8 H_8 locs_8 e_8 hwM1 hS hz_8 hk_8 hg_8 => ?_)
  have hwCo := hwC
  have hwC := hwC.other hd hk_8
  have hd := (dj.step hd.symm hwCo hg_8).symm
  have hwM := hwM1
  obtain ⟨heq, hST⟩ := op_most hz hC hM e_4 e_8
  refine lv_icmp_eq (tgt := 1183) hx hb d_L_law_776 (by decide) (fun _ => ?_) (fun z => absurd heq z)
  refine W.widen (k := 40 + 20 * (i + 1)) (n := 3000 + 400 * (i + 1)) (by omega) (by omega) ?_
  exact kk wC_4 wM_8 H_8 locs_8 ls ⟨hwC, hwM, hd, hS, hST⟩ (lv_sub hl [0, 1, 2, 3, 4] rfl)

set_option maxHeartbeats 4000000 in
set_option maxRecDepth 100000 in
theorem lc_10 (l : Launch) {p : Program} {e : Env} {s : State} {m : MethodId} {below : List Frame} {meth : Method} {c : Code} {b L : Nat} {xs : Nat → Int32} {g : GT} (hLX : LX p l s m meth c b L xs g) {Q : State → Prop} {i th mo out : Nat} (hi : 7 * i + 7 ≤ L) (kk : ∀ (wC wM : Nat → Option va_E) (H : Heap) (locs : List Loc) (ls : Array Slot), LI g s wC wM th mo out H locs → lv_has ls 7 [(0, .ref b), (1, .ref th), (2, .ref mo), (3, .ref out), (4, .int (nI (7 * i)))] → W p l e room_1 s m #[Value.ref b] below meth c H locs (40 + 20 * (i + 1)) (3000 + 400 * (i + 1)) Q (F0 m 1183 ls [])) {wC wM : Nat → Option va_E} {H : Heap} {locs : List Loc} {ls : Array Slot} (hI : LI g s wC wM th mo out H locs) (hl : lv_has ls 7 [(0, .ref b), (1, .ref th), (2, .ref mo), (3, .ref out), (4, .int (nI (7 * i)))]) : W p l e room_1 s m #[Value.ref b] below meth c H locs (40 + 20 * i) (3000 + 400 * i) Q (F0 m 781 ls []) := by
  obtain ⟨hx, hb, hr, hml, hown, hts, hG, hg0, hX, hbl, hL, hl0⟩ := hLX
  obtain ⟨hwC, hwM, hd, hS, hST⟩ := hI
  have hf := hG.here
  have hK := hf.1
  have hbA : ¬ gB g b := fun z => absurd hbl (Nat.not_lt.mpr (hg0 ▸ z))
  have hA : ∀ q, s.heap.size ≤ q → gB g q := fun q h => by show g.2.2 0 ≤ q; rw [hg0]; exact h
  have hAB : ∀ q, gB g q → gB g q := fun _ h => h
  obtain ⟨f, n, rb, rf, gd, gn, br, mz, ⟨tx, ru, go, bo, zo, sg, fo, garr, barr, ff, gxs, bxs, fz, pl, pa, pss, own, jf, hC⟩, t, ad, F, hM⟩ := hST
  obtain ⟨hth, htx, hsg, hfo, hru, hne, ⟨hgl, hgn, ogo, oga⟩, hgs9, ⟨hbl9, hbn, obo, oba⟩, hbs9, ⟨hzo, ozo⟩, hzr9, hout⟩ := id hC
  obtain ⟨m1, m2, m3, m4, m5, m6, m7, m8, m9, m10⟩ := id hM
  have hz : wC (g.2.2 1) = none := emp_none hf hAB hwC
  refine lv_aload_n hx hb d_L_law_781 rfl (lv_at hl 1 rfl) ?_
  refine lv_aload_n hx hb d_L_law_782 rfl (lv_at hl 0 rfl) ?_
  refine lv_iload hx hb d_L_law_783 (lv_at hl 4 rfl) ?_
  refine lv_iconst (v := 1) hx hb d_L_law_785 (by decide) ?_
  refine lv_iadd hx hb d_L_law_786 ?_
  refine lv_topi (fun v_1 e_1 => ?_)
  obtain rfl : v_1 = nI ((7 * i) + 1) := by rw [e_1]; exact nI_add (7 * i) 1
  refine ww_sld (v := xs ((7 * i) + 1)) hx hb hX hbl hbA hS (vp_in_nI (by omega) (by omega)) (by rw [nI_clamp (by omega)]) d_L_law_787 ?_
  refine lv_aload_n hx hb d_L_law_788 rfl (lv_at hl 0 rfl) ?_
  refine lv_iload hx hb d_L_law_789 (lv_at hl 4 rfl) ?_
  refine lv_iconst (v := 2) hx hb d_L_law_791 (by decide) ?_
  refine lv_iadd hx hb d_L_law_792 ?_
  refine lv_topi (fun v_2 e_2 => ?_)
  obtain rfl : v_2 = nI ((7 * i) + 2) := by rw [e_2]; exact nI_add (7 * i) 2
  refine ww_sld (v := xs ((7 * i) + 2)) hx hb hX hbl hbA hS (vp_in_nI (by omega) (by omega)) (by rw [nI_clamp (by omega)]) d_L_law_793 ?_
  refine lv_aload_n hx hb d_L_law_794 rfl (lv_at hl 3 rfl) ?_
  refine ww_i (cSW (As := [.ref th, .int (xs ((7 * i) + 1)), .int (xs ((7 * i) + 2)), .ref out]) (rest := []) 4 ⟨hx, hb, hml, hown, hts⟩ (c_L_zone l hl0 g H.size wC th tx ru (b2 rb) go bo zo barr bxs (br.map (bxOf gd)) (xs ((7 * i) + 1)) (xs ((7 * i) + 2)) out jf hth hbl9 hC.len hC.bs hout) k_528 k_526 k_0 k_527 (by decide +kernel) ⟨Nat.le_of_ble_eq_true rfl, Nat.le_of_ble_eq_true rfl⟩ rfl rfl ⟨prW_blind _ _ _ _, prW_at hG hAB hS hwC⟩ rfl hl.1 rfl (Nat.le_of_ble_eq_true rfl) d_L_law_795 ⟨by show _ ≤ 601024; omega, by show _ ≤ 7293034; omega⟩) hwC hS hA (fun r_3 wC_3 H_3 locs_3 e_3 hwC1 hS hz_3 hk_3 hg_3 => ?_)
  have hwMo := hwM
  have hwM := hwM.other hd.symm hk_3
  have hd := dj.step hd hwMo hg_3
  have hwC := hwC1
  refine lv_istore (lv' := [(5, .int r_3), (0, .ref b), (1, .ref th), (2, .ref mo), (3, .ref out), (4, .int (nI (7 * i)))]) hx hb d_L_law_798 hl (by decide) rfl (fun ls hl => ?_)
  refine lv_aload_n hx hb d_L_law_800 rfl (lv_at hl 3 rfl) ?_
  refine lv_aload_n hx hb d_L_law_801 rfl (lv_at hl 1 rfl) ?_
  refine lv_iload hx hb d_L_law_802 (lv_at hl 5 rfl) ?_
  refine lv_iconst (v := 1) hx hb d_L_law_804 (by decide) ?_
  refine lv_iadd hx hb d_L_law_805 ?_
  refine lv_topi (fun v_4 e_4 => ?_)
  obtain rfl : v_4 = nI ((7 * i) + 1) := by rw [e_4]; exact nI_add (7 * i) 1
  refine ww_sld (v := xs ((7 * i) + 1)) hx hb hX hbl hbA hS (vp_in_nI (by omega) (by omega)) (by rw [nI_clamp (by omega)]) d_L_law_806 ?_
  refine lv_aload_n hx hb d_L_law_807 rfl (lv_at hl 1 rfl) ?_
  refine lv_iload hx hb d_L_law_808 (lv_at hl 5 rfl) ?_
  refine lv_iconst (v := 2) hx hb d_L_law_810 (by decide) ?_
  refine lv_iadd hx hb d_L_law_811 ?_
  refine lv_topi (fun v_5 e_5 => ?_)
  obtain rfl : v_5 = nI ((7 * i) + 2) := by rw [e_5]; exact nI_add (7 * i) 2
  refine ww_sld (v := xs ((7 * i) + 2)) hx hb hX hbl hbA hS (vp_in_nI (by omega) (by omega)) (by rw [nI_clamp (by omega)]) d_L_law_812 ?_
  refine ww_i (cV (As := [.int (xs ((7 * i) + 1)), .int (xs ((7 * i) + 2))]) (rest := []) (C := "DangerTablesModel") 2 ⟨hx, hb, hml, hown, hts⟩ (c_M_zone l g H_3.size wM mo ad t (b2 rb) n gn br.length F gd br (xs ((7 * i) + 1)) (xs ((7 * i) + 2)) m1 m6 m7) k_822 k_819 k_7 k_820 k_821 (by decide +kernel) ⟨Nat.le_of_ble_eq_true rfl, Nat.le_of_ble_eq_true rfl⟩ rfl rfl ⟨prW_blind _ _ _ _, hwM.recv hK m1.1 rfl, prW_at hG hAB hS hwM⟩ rfl hl.1 rfl (Nat.le_of_ble_eq_true rfl) d_L_law_813 ⟨by show _ ≤ 601024; omega, by show _ ≤ 7293034; omega⟩) hwM hS hA (fun r_6 wM_6 H_6 locs_6 e_6 hwM1 hS hz_6 hk_6 hg_6 => ?_)
  have hwCo := hwC
  have hwC := hwC.other hd hk_6
  have hd := (dj.step hd.symm hwCo hg_6).symm
  have hwM := hwM1
  have hSTk := op_zone hz hC hM e_3 e_6
  obtain ⟨f1, n1, rb1, rf1, gd1, gn1, br1, mz1, tx1, ru1, go1, bo1, zo1, sg1, fo1, garr1, barr1, ff1, gxs1, bxs1, fz1, pl1, pa1, pss1, own1, jf1, ad1, F1, hC1, hM1, hj1⟩ := id hSTk
  have hout1 := hC1.2.2.2.2.2.2.2.2.2.2.2.2
  refine lv_istore (lv' := [(6, .int r_6), (5, .int r_3), (0, .ref b), (1, .ref th), (2, .ref mo), (3, .ref out), (4, .int (nI (7 * i)))]) hx hb d_L_law_816 hl (by decide) rfl (fun ls hl => ?_)
  refine lv_aload_n hx hb d_L_law_818 rfl (lv_at hl 4 rfl) ?_
  refine wr_i (cV (As := []) (rest := []) (C := "DangerTablesModel") 0 ⟨hx, hb, hml, hown, hts⟩ (c_M_thrown l g wM_6 mo ad1 r_3 (b2 rb1) n1 gn1 br1.length F1 hM1.1) k_726 k_723 k_7 k_724 k_725 (by decide +kernel) ⟨Nat.le_of_ble_eq_true rfl, Nat.le_of_ble_eq_true rfl⟩ rfl rfl ⟨prR_blind _ _ _, hwM.recv hK hM1.1.1 rfl, prR_at hG hAB hS hwM⟩ rfl hl.1 rfl (Nat.le_of_ble_eq_true rfl) d_L_law_819 ⟨by show _ ≤ 601024; omega, by show _ ≤ 7293034; omega⟩) (fun r_t e_t => ?_)
  refine lv_iload hx hb d_L_law_822 (lv_at hl 1 rfl) ?_
  refine lv_icmp_eq (tgt := 829) hx hb d_L_law_824 (by decide) (fun _ => ?_) (fun z => absurd e_t z)
  refine lv_iload hx hb d_L_law_829 (lv_at hl 1 rfl) ?_
  refine lv_if_ne (tgt := 846) hx hb d_L_law_831 (by decide) (fun c_7 => ?_) (fun c_7 => ?_)
  · refine lv_goto (tgt := 1183) hx hb d_L_law_846 (by decide) ?_
    refine W.widen (k := 40 + 20 * (i + 1)) (n := 3000 + 400 * (i + 1)) (by omega) (by omega) ?_
    exact kk wC_3 wM_6 H_6 locs_6 ls ⟨hwC, hwM, hd, hS, hSTk.st⟩ (lv_sub hl [2, 3, 4, 5, 6] rfl)
  · have hk0 : r_3 = 0 := c_7
    refine lv_aload_n hx hb d_L_law_834 rfl (lv_at hl 5 rfl) ?_
    refine lv_iconst (v := 0) hx hb d_L_law_835 (by decide) ?_
    refine ww_lald (v := jf1 0) hx hb hK hwC 2 hout1 rfl (vp_in_nI (n := 0) (by decide) (by decide)) rfl d_L_law_836 ?_
    refine lv_iload hx hb d_L_law_837 (lv_at hl 0 rfl) ?_
    refine lv_i2l hx hb d_L_law_839 rfl ?_
    refine W.lcmp hx hb d_L_law_840 ?_
    refine lv_if_eq (tgt := 846) hx hb d_L_law_841 (by decide) (fun _ => ?_) (fun z => absurd (by rw [hj1 hk0]; exact cmp_r _) z)
    refine lv_goto (tgt := 1183) hx hb d_L_law_846 (by decide) ?_
    refine W.widen (k := 40 + 20 * (i + 1)) (n := 3000 + 400 * (i + 1)) (by omega) (by omega) ?_
    exact kk wC_3 wM_6 H_6 locs_6 ls ⟨hwC, hwM, hd, hS, hSTk.st⟩ (lv_sub hl [2, 3, 4, 5, 6] rfl)

set_option maxHeartbeats 4000000 in
set_option maxRecDepth 100000 in
theorem lc_11 (l : Launch) {p : Program} {e : Env} {s : State} {m : MethodId} {below : List Frame} {meth : Method} {c : Code} {b L : Nat} {xs : Nat → Int32} {g : GT} (hLX : LX p l s m meth c b L xs g) {Q : State → Prop} {i th mo out : Nat} (hi : 7 * i + 7 ≤ L) (kk : ∀ (wC wM : Nat → Option va_E) (H : Heap) (locs : List Loc) (ls : Array Slot), LI g s wC wM th mo out H locs → lv_has ls 7 [(0, .ref b), (1, .ref th), (2, .ref mo), (3, .ref out), (4, .int (nI (7 * i)))] → W p l e room_1 s m #[Value.ref b] below meth c H locs (40 + 20 * (i + 1)) (3000 + 400 * (i + 1)) Q (F0 m 1183 ls [])) {wC wM : Nat → Option va_E} {H : Heap} {locs : List Loc} {ls : Array Slot} (hI : LI g s wC wM th mo out H locs) (hl : lv_has ls 7 [(0, .ref b), (1, .ref th), (2, .ref mo), (3, .ref out), (4, .int (nI (7 * i)))]) : W p l e room_1 s m #[Value.ref b] below meth c H locs (40 + 20 * i) (3000 + 400 * i) Q (F0 m 849 ls []) := by
  obtain ⟨hx, hb, hr, hml, hown, hts, hG, hg0, hX, hbl, hL, hl0⟩ := hLX
  obtain ⟨hwC, hwM, hd, hS, hST⟩ := hI
  have hf := hG.here
  have hK := hf.1
  have hbA : ¬ gB g b := fun z => absurd hbl (Nat.not_lt.mpr (hg0 ▸ z))
  have hA : ∀ q, s.heap.size ≤ q → gB g q := fun q h => by show g.2.2 0 ≤ q; rw [hg0]; exact h
  have hAB : ∀ q, gB g q → gB g q := fun _ h => h
  obtain ⟨f, n, rb, rf, gd, gn, br, mz, ⟨tx, ru, go, bo, zo, sg, fo, garr, barr, ff, gxs, bxs, fz, pl, pa, pss, own, jf, hC⟩, t, ad, F, hM⟩ := hST
  obtain ⟨hth, htx, hsg, hfo, hru, hne, ⟨hgl, hgn, ogo, oga⟩, hgs9, ⟨hbl9, hbn, obo, oba⟩, hbs9, ⟨hzo, ozo⟩, hzr9, hout⟩ := id hC
  obtain ⟨m1, m2, m3, m4, m5, m6, m7, m8, m9, m10⟩ := id hM
  have hz : wC (g.2.2 1) = none := emp_none hf hAB hwC
  refine lv_aload_n hx hb d_L_law_849 rfl (lv_at hl 1 rfl) ?_
  refine lv_aload_n hx hb d_L_law_850 rfl (lv_at hl 0 rfl) ?_
  refine lv_iload hx hb d_L_law_851 (lv_at hl 4 rfl) ?_
  refine lv_iconst (v := 1) hx hb d_L_law_853 (by decide) ?_
  refine lv_iadd hx hb d_L_law_854 ?_
  refine lv_topi (fun v_1 e_1 => ?_)
  obtain rfl : v_1 = nI ((7 * i) + 1) := by rw [e_1]; exact nI_add (7 * i) 1
  refine ww_sld (v := xs ((7 * i) + 1)) hx hb hX hbl hbA hS (vp_in_nI (by omega) (by omega)) (by rw [nI_clamp (by omega)]) d_L_law_855 ?_
  refine lv_aload_n hx hb d_L_law_856 rfl (lv_at hl 0 rfl) ?_
  refine lv_iload hx hb d_L_law_857 (lv_at hl 4 rfl) ?_
  refine lv_iconst (v := 2) hx hb d_L_law_859 (by decide) ?_
  refine lv_iadd hx hb d_L_law_860 ?_
  refine lv_topi (fun v_2 e_2 => ?_)
  obtain rfl : v_2 = nI ((7 * i) + 2) := by rw [e_2]; exact nI_add (7 * i) 2
  refine ww_sld (v := xs ((7 * i) + 2)) hx hb hX hbl hbA hS (vp_in_nI (by omega) (by omega)) (by rw [nI_clamp (by omega)]) d_L_law_861 ?_
  refine lv_aload_n hx hb d_L_law_862 rfl (lv_at hl 0 rfl) ?_
  refine lv_iload hx hb d_L_law_863 (lv_at hl 4 rfl) ?_
  refine lv_iconst (v := 3) hx hb d_L_law_865 (by decide) ?_
  refine lv_iadd hx hb d_L_law_866 ?_
  refine lv_topi (fun v_3 e_3 => ?_)
  obtain rfl : v_3 = nI ((7 * i) + 3) := by rw [e_3]; exact nI_add (7 * i) 3
  refine ww_sld (v := xs ((7 * i) + 3)) hx hb hX hbl hbA hS (vp_in_nI (by omega) (by omega)) (by rw [nI_clamp (by omega)]) d_L_law_867 ?_
  refine lv_aload_n hx hb d_L_law_868 rfl (lv_at hl 0 rfl) ?_
  refine lv_iload hx hb d_L_law_869 (lv_at hl 4 rfl) ?_
  refine lv_iconst (v := 4) hx hb d_L_law_871 (by decide) ?_
  refine lv_iadd hx hb d_L_law_872 ?_
  refine lv_topi (fun v_4 e_4 => ?_)
  obtain rfl : v_4 = nI ((7 * i) + 4) := by rw [e_4]; exact nI_add (7 * i) 4
  refine ww_sld (v := xs ((7 * i) + 4)) hx hb hX hbl hbA hS (vp_in_nI (by omega) (by omega)) (by rw [nI_clamp (by omega)]) d_L_law_873 ?_
  refine lv_aload_n hx hb d_L_law_874 rfl (lv_at hl 3 rfl) ?_
  refine ww_i (cSW (As := [.ref th, .int (xs ((7 * i) + 1)), .int (xs ((7 * i) + 2)), .int (xs ((7 * i) + 3)), .int (xs ((7 * i) + 4)), .ref out]) (rest := []) 6 ⟨hx, hb, hml, hown, hts⟩ (c_L_put l hl0 g H.size wC th tx ru (b2 rb) go bo zo rf barr bxs (br.map (bxOf gd)) fz mz (xs ((7 * i) + 1)) (xs ((7 * i) + 2)) (xs ((7 * i) + 3)) (xs ((7 * i) + 4)) out jf hth hru hbl9 hC.len hC.bs hzo hC.zr m4 (RM_os hM) hout) k_548 k_546 k_0 k_547 (by decide +kernel) ⟨Nat.le_of_ble_eq_true rfl, Nat.le_of_ble_eq_true rfl⟩ rfl rfl ⟨prW_blind _ _ _ _, prW_at hG hAB hS hwC⟩ rfl hl.1 rfl (Nat.le_of_ble_eq_true rfl) d_L_law_875 ⟨by show _ ≤ 601024; omega, by show _ ≤ 7293034; omega⟩) hwC hS hA (fun r_5 wC_5 H_5 locs_5 e_5 hwC1 hS hz_5 hk_5 hg_5 => ?_)
  have hwMo := hwM
  have hwM := hwM.other hd.symm hk_5
  have hd := dj.step hd hwMo hg_5
  have hwC := hwC1
  refine lv_istore (lv' := [(5, .int r_5), (0, .ref b), (1, .ref th), (2, .ref mo), (3, .ref out), (4, .int (nI (7 * i)))]) hx hb d_L_law_878 hl (by decide) rfl (fun ls hl => ?_)
  refine lv_aload_n hx hb d_L_law_880 rfl (lv_at hl 3 rfl) ?_
  refine lv_aload_n hx hb d_L_law_881 rfl (lv_at hl 1 rfl) ?_
  refine lv_iload hx hb d_L_law_882 (lv_at hl 5 rfl) ?_
  refine lv_iconst (v := 1) hx hb d_L_law_884 (by decide) ?_
  refine lv_iadd hx hb d_L_law_885 ?_
  refine lv_topi (fun v_6 e_6 => ?_)
  obtain rfl : v_6 = nI ((7 * i) + 1) := by rw [e_6]; exact nI_add (7 * i) 1
  refine ww_sld (v := xs ((7 * i) + 1)) hx hb hX hbl hbA hS (vp_in_nI (by omega) (by omega)) (by rw [nI_clamp (by omega)]) d_L_law_886 ?_
  refine lv_aload_n hx hb d_L_law_887 rfl (lv_at hl 1 rfl) ?_
  refine lv_iload hx hb d_L_law_888 (lv_at hl 5 rfl) ?_
  refine lv_iconst (v := 2) hx hb d_L_law_890 (by decide) ?_
  refine lv_iadd hx hb d_L_law_891 ?_
  refine lv_topi (fun v_7 e_7 => ?_)
  obtain rfl : v_7 = nI ((7 * i) + 2) := by rw [e_7]; exact nI_add (7 * i) 2
  refine ww_sld (v := xs ((7 * i) + 2)) hx hb hX hbl hbA hS (vp_in_nI (by omega) (by omega)) (by rw [nI_clamp (by omega)]) d_L_law_892 ?_
  refine lv_aload_n hx hb d_L_law_893 rfl (lv_at hl 1 rfl) ?_
  refine lv_iload hx hb d_L_law_894 (lv_at hl 5 rfl) ?_
  refine lv_iconst (v := 3) hx hb d_L_law_896 (by decide) ?_
  refine lv_iadd hx hb d_L_law_897 ?_
  refine lv_topi (fun v_8 e_8 => ?_)
  obtain rfl : v_8 = nI ((7 * i) + 3) := by rw [e_8]; exact nI_add (7 * i) 3
  refine ww_sld (v := xs ((7 * i) + 3)) hx hb hX hbl hbA hS (vp_in_nI (by omega) (by omega)) (by rw [nI_clamp (by omega)]) d_L_law_898 ?_
  refine lv_aload_n hx hb d_L_law_899 rfl (lv_at hl 1 rfl) ?_
  refine lv_iload hx hb d_L_law_900 (lv_at hl 5 rfl) ?_
  refine lv_iconst (v := 4) hx hb d_L_law_902 (by decide) ?_
  refine lv_iadd hx hb d_L_law_903 ?_
  refine lv_topi (fun v_9 e_9 => ?_)
  obtain rfl : v_9 = nI ((7 * i) + 4) := by rw [e_9]; exact nI_add (7 * i) 4
  refine ww_sld (v := xs ((7 * i) + 4)) hx hb hX hbl hbA hS (vp_in_nI (by omega) (by omega)) (by rw [nI_clamp (by omega)]) d_L_law_904 ?_
  refine ww_i (cV (As := [.int (xs ((7 * i) + 1)), .int (xs ((7 * i) + 2)), .int (xs ((7 * i) + 3)), .int (xs ((7 * i) + 4))]) (rest := []) (C := "DangerTablesModel") 4 ⟨hx, hb, hml, hown, hts⟩ (c_M_put l g H_5.size wM mo ad t (b2 rb) n gn br.length F gd br rf mz (xs ((7 * i) + 1)) (xs ((7 * i) + 2)) (xs ((7 * i) + 3)) (xs ((7 * i) + 4)) m1 m6 m7 m5 m8 m4) k_834 k_831 k_7 k_832 k_833 (by decide +kernel) ⟨Nat.le_of_ble_eq_true rfl, Nat.le_of_ble_eq_true rfl⟩ rfl rfl ⟨prW_blind _ _ _ _, hwM.recv hK m1.1 rfl, prW_at hG hAB hS hwM⟩ rfl hl.1 rfl (Nat.le_of_ble_eq_true rfl) d_L_law_905 ⟨by show _ ≤ 601024; omega, by show _ ≤ 7293034; omega⟩) hwM hS hA (fun r_10 wM_10 H_10 locs_10 e_10 hwM1 hS hz_10 hk_10 hg_10 => ?_)
  have hwCo := hwC
  have hwC := hwC.other hd hk_10
  have hd := (dj.step hd.symm hwCo hg_10).symm
  have hwM := hwM1
  have hSTk := op_put hz hC hM e_5 e_10
  obtain ⟨f1, n1, rb1, rf1, gd1, gn1, br1, mz1, tx1, ru1, go1, bo1, zo1, sg1, fo1, garr1, barr1, ff1, gxs1, bxs1, fz1, pl1, pa1, pss1, own1, jf1, ad1, F1, hC1, hM1, hj1⟩ := id hSTk
  have hout1 := hC1.2.2.2.2.2.2.2.2.2.2.2.2
  refine lv_istore (lv' := [(6, .int r_10), (5, .int r_5), (0, .ref b), (1, .ref th), (2, .ref mo), (3, .ref out), (4, .int (nI (7 * i)))]) hx hb d_L_law_908 hl (by decide) rfl (fun ls hl => ?_)
  refine lv_aload_n hx hb d_L_law_910 rfl (lv_at hl 4 rfl) ?_
  refine wr_i (cV (As := []) (rest := []) (C := "DangerTablesModel") 0 ⟨hx, hb, hml, hown, hts⟩ (c_M_thrown l g wM_10 mo ad1 r_5 (b2 rb1) n1 gn1 br1.length F1 hM1.1) k_726 k_723 k_7 k_724 k_725 (by decide +kernel) ⟨Nat.le_of_ble_eq_true rfl, Nat.le_of_ble_eq_true rfl⟩ rfl rfl ⟨prR_blind _ _ _, hwM.recv hK hM1.1.1 rfl, prR_at hG hAB hS hwM⟩ rfl hl.1 rfl (Nat.le_of_ble_eq_true rfl) d_L_law_911 ⟨by show _ ≤ 601024; omega, by show _ ≤ 7293034; omega⟩) (fun r_t e_t => ?_)
  refine lv_iload hx hb d_L_law_914 (lv_at hl 1 rfl) ?_
  refine lv_icmp_eq (tgt := 921) hx hb d_L_law_916 (by decide) (fun _ => ?_) (fun z => absurd e_t z)
  refine lv_iload hx hb d_L_law_921 (lv_at hl 1 rfl) ?_
  refine lv_if_ne (tgt := 938) hx hb d_L_law_923 (by decide) (fun c_11 => ?_) (fun c_11 => ?_)
  · refine lv_goto (tgt := 1183) hx hb d_L_law_938 (by decide) ?_
    refine W.widen (k := 40 + 20 * (i + 1)) (n := 3000 + 400 * (i + 1)) (by omega) (by omega) ?_
    exact kk wC_5 wM_10 H_10 locs_10 ls ⟨hwC, hwM, hd, hS, hSTk.st⟩ (lv_sub hl [2, 3, 4, 5, 6] rfl)
  · have hk0 : r_5 = 0 := c_11
    refine lv_aload_n hx hb d_L_law_926 rfl (lv_at hl 5 rfl) ?_
    refine lv_iconst (v := 0) hx hb d_L_law_927 (by decide) ?_
    refine ww_lald (v := jf1 0) hx hb hK hwC 2 hout1 rfl (vp_in_nI (n := 0) (by decide) (by decide)) rfl d_L_law_928 ?_
    refine lv_iload hx hb d_L_law_929 (lv_at hl 0 rfl) ?_
    refine lv_i2l hx hb d_L_law_931 rfl ?_
    refine W.lcmp hx hb d_L_law_932 ?_
    refine lv_if_eq (tgt := 938) hx hb d_L_law_933 (by decide) (fun _ => ?_) (fun z => absurd (by rw [hj1 hk0]; exact cmp_r _) z)
    refine lv_goto (tgt := 1183) hx hb d_L_law_938 (by decide) ?_
    refine W.widen (k := 40 + 20 * (i + 1)) (n := 3000 + 400 * (i + 1)) (by omega) (by omega) ?_
    exact kk wC_5 wM_10 H_10 locs_10 ls ⟨hwC, hwM, hd, hS, hSTk.st⟩ (lv_sub hl [2, 3, 4, 5, 6] rfl)

set_option maxHeartbeats 4000000 in
set_option maxRecDepth 100000 in
theorem lc_12 (l : Launch) {p : Program} {e : Env} {s : State} {m : MethodId} {below : List Frame} {meth : Method} {c : Code} {b L : Nat} {xs : Nat → Int32} {g : GT} (hLX : LX p l s m meth c b L xs g) {Q : State → Prop} {i th mo out : Nat} (hi : 7 * i + 7 ≤ L) (kk : ∀ (wC wM : Nat → Option va_E) (H : Heap) (locs : List Loc) (ls : Array Slot), LI g s wC wM th mo out H locs → lv_has ls 7 [(0, .ref b), (1, .ref th), (2, .ref mo), (3, .ref out), (4, .int (nI (7 * i)))] → W p l e room_1 s m #[Value.ref b] below meth c H locs (40 + 20 * (i + 1)) (3000 + 400 * (i + 1)) Q (F0 m 1183 ls [])) {wC wM : Nat → Option va_E} {H : Heap} {locs : List Loc} {ls : Array Slot} (hI : LI g s wC wM th mo out H locs) (hl : lv_has ls 7 [(0, .ref b), (1, .ref th), (2, .ref mo), (3, .ref out), (4, .int (nI (7 * i)))]) : W p l e room_1 s m #[Value.ref b] below meth c H locs (40 + 20 * i) (3000 + 400 * i) Q (F0 m 941 ls []) := by
  obtain ⟨hx, hb, hr, hml, hown, hts, hG, hg0, hX, hbl, hL, hl0⟩ := hLX
  obtain ⟨hwC, hwM, hd, hS, hST⟩ := hI
  have hf := hG.here
  have hK := hf.1
  have hbA : ¬ gB g b := fun z => absurd hbl (Nat.not_lt.mpr (hg0 ▸ z))
  have hA : ∀ q, s.heap.size ≤ q → gB g q := fun q h => by show g.2.2 0 ≤ q; rw [hg0]; exact h
  have hAB : ∀ q, gB g q → gB g q := fun _ h => h
  obtain ⟨f, n, rb, rf, gd, gn, br, mz, ⟨tx, ru, go, bo, zo, sg, fo, garr, barr, ff, gxs, bxs, fz, pl, pa, pss, own, jf, hC⟩, t, ad, F, hM⟩ := hST
  obtain ⟨hth, htx, hsg, hfo, hru, hne, ⟨hgl, hgn, ogo, oga⟩, hgs9, ⟨hbl9, hbn, obo, oba⟩, hbs9, ⟨hzo, ozo⟩, hzr9, hout⟩ := id hC
  obtain ⟨m1, m2, m3, m4, m5, m6, m7, m8, m9, m10⟩ := id hM
  have hz : wC (g.2.2 1) = none := emp_none hf hAB hwC
  refine lv_aload_n hx hb d_L_law_941 rfl (lv_at hl 1 rfl) ?_
  refine lv_aload_n hx hb d_L_law_942 rfl (lv_at hl 0 rfl) ?_
  refine lv_iload hx hb d_L_law_943 (lv_at hl 4 rfl) ?_
  refine lv_iconst (v := 1) hx hb d_L_law_945 (by decide) ?_
  refine lv_iadd hx hb d_L_law_946 ?_
  refine lv_topi (fun v_1 e_1 => ?_)
  obtain rfl : v_1 = nI ((7 * i) + 1) := by rw [e_1]; exact nI_add (7 * i) 1
  refine ww_sld (v := xs ((7 * i) + 1)) hx hb hX hbl hbA hS (vp_in_nI (by omega) (by omega)) (by rw [nI_clamp (by omega)]) d_L_law_947 ?_
  refine lv_aload_n hx hb d_L_law_948 rfl (lv_at hl 3 rfl) ?_
  refine ww_i (cSW (As := [.ref th, .int (xs ((7 * i) + 1)), .ref out]) (rest := []) 3 ⟨hx, hb, hml, hown, hts⟩ (c_L_take l hl0 g H.size wC th tx ru (b2 rb) go bo zo barr bxs (br.map (bxOf gd)) (xs ((7 * i) + 1)) out jf hth hbl9 hC.len hC.bs hout) k_602 k_600 k_0 k_601 (by decide +kernel) ⟨Nat.le_of_ble_eq_true rfl, Nat.le_of_ble_eq_true rfl⟩ rfl rfl ⟨prW_blind _ _ _ _, prW_at hG hAB hS hwC⟩ rfl hl.1 rfl (Nat.le_of_ble_eq_true rfl) d_L_law_949 ⟨by show _ ≤ 601024; omega, by show _ ≤ 7293034; omega⟩) hwC hS hA (fun r_2 wC_2 H_2 locs_2 e_2 hwC1 hS hz_2 hk_2 hg_2 => ?_)
  have hwMo := hwM
  have hwM := hwM.other hd.symm hk_2
  have hd := dj.step hd hwMo hg_2
  have hwC := hwC1
  refine lv_istore (lv' := [(5, .int r_2), (0, .ref b), (1, .ref th), (2, .ref mo), (3, .ref out), (4, .int (nI (7 * i)))]) hx hb d_L_law_952 hl (by decide) rfl (fun ls hl => ?_)
  refine lv_aload_n hx hb d_L_law_954 rfl (lv_at hl 3 rfl) ?_
  refine lv_aload_n hx hb d_L_law_955 rfl (lv_at hl 1 rfl) ?_
  refine lv_iload hx hb d_L_law_956 (lv_at hl 5 rfl) ?_
  refine lv_iconst (v := 1) hx hb d_L_law_958 (by decide) ?_
  refine lv_iadd hx hb d_L_law_959 ?_
  refine lv_topi (fun v_3 e_3 => ?_)
  obtain rfl : v_3 = nI ((7 * i) + 1) := by rw [e_3]; exact nI_add (7 * i) 1
  refine ww_sld (v := xs ((7 * i) + 1)) hx hb hX hbl hbA hS (vp_in_nI (by omega) (by omega)) (by rw [nI_clamp (by omega)]) d_L_law_960 ?_
  refine ww_i (cV (As := [.int (xs ((7 * i) + 1))]) (rest := []) (C := "DangerTablesModel") 1 ⟨hx, hb, hml, hown, hts⟩ (c_M_take l g H_2.size wM mo ad t (b2 rb) n gn br.length F gd br (xs ((7 * i) + 1)) m1 m6 m7) k_853 k_850 k_7 k_851 k_852 (by decide +kernel) ⟨Nat.le_of_ble_eq_true rfl, Nat.le_of_ble_eq_true rfl⟩ rfl rfl ⟨prW_blind _ _ _ _, hwM.recv hK m1.1 rfl, prW_at hG hAB hS hwM⟩ rfl hl.1 rfl (Nat.le_of_ble_eq_true rfl) d_L_law_961 ⟨by show _ ≤ 601024; omega, by show _ ≤ 7293034; omega⟩) hwM hS hA (fun r_4 wM_4 H_4 locs_4 e_4 hwM1 hS hz_4 hk_4 hg_4 => ?_)
  have hwCo := hwC
  have hwC := hwC.other hd hk_4
  have hd := (dj.step hd.symm hwCo hg_4).symm
  have hwM := hwM1
  have hSTk := op_take hz hC hM e_2 e_4
  obtain ⟨f1, n1, rb1, rf1, gd1, gn1, br1, mz1, tx1, ru1, go1, bo1, zo1, sg1, fo1, garr1, barr1, ff1, gxs1, bxs1, fz1, pl1, pa1, pss1, own1, jf1, ad1, F1, hC1, hM1, hj1⟩ := id hSTk
  have hout1 := hC1.2.2.2.2.2.2.2.2.2.2.2.2
  refine lv_istore (lv' := [(6, .int r_4), (5, .int r_2), (0, .ref b), (1, .ref th), (2, .ref mo), (3, .ref out), (4, .int (nI (7 * i)))]) hx hb d_L_law_964 hl (by decide) rfl (fun ls hl => ?_)
  refine lv_aload_n hx hb d_L_law_966 rfl (lv_at hl 4 rfl) ?_
  refine wr_i (cV (As := []) (rest := []) (C := "DangerTablesModel") 0 ⟨hx, hb, hml, hown, hts⟩ (c_M_thrown l g wM_4 mo ad1 r_2 (b2 rb1) n1 gn1 br1.length F1 hM1.1) k_726 k_723 k_7 k_724 k_725 (by decide +kernel) ⟨Nat.le_of_ble_eq_true rfl, Nat.le_of_ble_eq_true rfl⟩ rfl rfl ⟨prR_blind _ _ _, hwM.recv hK hM1.1.1 rfl, prR_at hG hAB hS hwM⟩ rfl hl.1 rfl (Nat.le_of_ble_eq_true rfl) d_L_law_967 ⟨by show _ ≤ 601024; omega, by show _ ≤ 7293034; omega⟩) (fun r_t e_t => ?_)
  refine lv_iload hx hb d_L_law_970 (lv_at hl 1 rfl) ?_
  refine lv_icmp_eq (tgt := 977) hx hb d_L_law_972 (by decide) (fun _ => ?_) (fun z => absurd e_t z)
  refine lv_iload hx hb d_L_law_977 (lv_at hl 1 rfl) ?_
  refine lv_if_ne (tgt := 994) hx hb d_L_law_979 (by decide) (fun c_5 => ?_) (fun c_5 => ?_)
  · refine lv_goto (tgt := 1183) hx hb d_L_law_994 (by decide) ?_
    refine W.widen (k := 40 + 20 * (i + 1)) (n := 3000 + 400 * (i + 1)) (by omega) (by omega) ?_
    exact kk wC_2 wM_4 H_4 locs_4 ls ⟨hwC, hwM, hd, hS, hSTk.st⟩ (lv_sub hl [2, 3, 4, 5, 6] rfl)
  · have hk0 : r_2 = 0 := c_5
    refine lv_aload_n hx hb d_L_law_982 rfl (lv_at hl 5 rfl) ?_
    refine lv_iconst (v := 0) hx hb d_L_law_983 (by decide) ?_
    refine ww_lald (v := jf1 0) hx hb hK hwC 2 hout1 rfl (vp_in_nI (n := 0) (by decide) (by decide)) rfl d_L_law_984 ?_
    refine lv_iload hx hb d_L_law_985 (lv_at hl 0 rfl) ?_
    refine lv_i2l hx hb d_L_law_987 rfl ?_
    refine W.lcmp hx hb d_L_law_988 ?_
    refine lv_if_eq (tgt := 994) hx hb d_L_law_989 (by decide) (fun _ => ?_) (fun z => absurd (by rw [hj1 hk0]; exact cmp_r _) z)
    refine lv_goto (tgt := 1183) hx hb d_L_law_994 (by decide) ?_
    refine W.widen (k := 40 + 20 * (i + 1)) (n := 3000 + 400 * (i + 1)) (by omega) (by omega) ?_
    exact kk wC_2 wM_4 H_4 locs_4 ls ⟨hwC, hwM, hd, hS, hSTk.st⟩ (lv_sub hl [2, 3, 4, 5, 6] rfl)

set_option maxHeartbeats 4000000 in
set_option maxRecDepth 100000 in
theorem lc_13 (l : Launch) {p : Program} {e : Env} {s : State} {m : MethodId} {below : List Frame} {meth : Method} {c : Code} {b L : Nat} {xs : Nat → Int32} {g : GT} (hLX : LX p l s m meth c b L xs g) {Q : State → Prop} {i th mo out : Nat} (hi : 7 * i + 7 ≤ L) (kk : ∀ (wC wM : Nat → Option va_E) (H : Heap) (locs : List Loc) (ls : Array Slot), LI g s wC wM th mo out H locs → lv_has ls 7 [(0, .ref b), (1, .ref th), (2, .ref mo), (3, .ref out), (4, .int (nI (7 * i)))] → W p l e room_1 s m #[Value.ref b] below meth c H locs (40 + 20 * (i + 1)) (3000 + 400 * (i + 1)) Q (F0 m 1183 ls [])) {wC wM : Nat → Option va_E} {H : Heap} {locs : List Loc} {ls : Array Slot} (hI : LI g s wC wM th mo out H locs) (hl : lv_has ls 7 [(0, .ref b), (1, .ref th), (2, .ref mo), (3, .ref out), (4, .int (nI (7 * i)))]) : W p l e room_1 s m #[Value.ref b] below meth c H locs (40 + 20 * i) (3000 + 400 * i) Q (F0 m 997 ls []) := by
  obtain ⟨hx, hb, hr, hml, hown, hts, hG, hg0, hX, hbl, hL, hl0⟩ := hLX
  obtain ⟨hwC, hwM, hd, hS, hST⟩ := hI
  have hf := hG.here
  have hK := hf.1
  have hbA : ¬ gB g b := fun z => absurd hbl (Nat.not_lt.mpr (hg0 ▸ z))
  have hA : ∀ q, s.heap.size ≤ q → gB g q := fun q h => by show g.2.2 0 ≤ q; rw [hg0]; exact h
  have hAB : ∀ q, gB g q → gB g q := fun _ h => h
  obtain ⟨f, n, rb, rf, gd, gn, br, mz, ⟨tx, ru, go, bo, zo, sg, fo, garr, barr, ff, gxs, bxs, fz, pl, pa, pss, own, jf, hC⟩, t, ad, F, hM⟩ := hST
  obtain ⟨hth, htx, hsg, hfo, hru, hne, ⟨hgl, hgn, ogo, oga⟩, hgs9, ⟨hbl9, hbn, obo, oba⟩, hbs9, ⟨hzo, ozo⟩, hzr9, hout⟩ := id hC
  obtain ⟨m1, m2, m3, m4, m5, m6, m7, m8, m9, m10⟩ := id hM
  have hz : wC (g.2.2 1) = none := emp_none hf hAB hwC
  refine lv_aload_n hx hb d_L_law_997 rfl (lv_at hl 1 rfl) ?_
  refine lv_aload_n hx hb d_L_law_998 rfl (lv_at hl 0 rfl) ?_
  refine lv_iload hx hb d_L_law_999 (lv_at hl 4 rfl) ?_
  refine lv_iconst (v := 1) hx hb d_L_law_1001 (by decide) ?_
  refine lv_iadd hx hb d_L_law_1002 ?_
  refine lv_topi (fun v_1 e_1 => ?_)
  obtain rfl : v_1 = nI ((7 * i) + 1) := by rw [e_1]; exact nI_add (7 * i) 1
  refine ww_sld (v := xs ((7 * i) + 1)) hx hb hX hbl hbA hS (vp_in_nI (by omega) (by omega)) (by rw [nI_clamp (by omega)]) d_L_law_1003 ?_
  refine lv_aload_n hx hb d_L_law_1004 rfl (lv_at hl 0 rfl) ?_
  refine lv_iload hx hb d_L_law_1005 (lv_at hl 4 rfl) ?_
  refine lv_iconst (v := 2) hx hb d_L_law_1007 (by decide) ?_
  refine lv_iadd hx hb d_L_law_1008 ?_
  refine lv_topi (fun v_2 e_2 => ?_)
  obtain rfl : v_2 = nI ((7 * i) + 2) := by rw [e_2]; exact nI_add (7 * i) 2
  refine ww_sld (v := xs ((7 * i) + 2)) hx hb hX hbl hbA hS (vp_in_nI (by omega) (by omega)) (by rw [nI_clamp (by omega)]) d_L_law_1009 ?_
  refine ww_i (cV (As := [.int (xs ((7 * i) + 1)), .int (xs ((7 * i) + 2))]) (rest := []) (C := "DangerTables") 2 ⟨hx, hb, hml, hown, hts⟩ (c_T_paper l g H.size wC th tx ru (b2 rb) go bo zo barr bxs (br.map (bxOf gd)) (xs ((7 * i) + 1)) (xs ((7 * i) + 2)) hth hbl9 hC.len hC.bs) k_188 k_185 k_1 k_186 k_187 (by decide +kernel) ⟨Nat.le_of_ble_eq_true rfl, Nat.le_of_ble_eq_true rfl⟩ rfl rfl ⟨prW_blind _ _ _ _, hwC.recv hK hth rfl, prW_at hG hAB hS hwC⟩ rfl hl.1 rfl (Nat.le_of_ble_eq_true rfl) d_L_law_1010 ⟨by show _ ≤ 601024; omega, by show _ ≤ 7293034; omega⟩) hwC hS hA (fun r_3 wC_3 H_3 locs_3 e_3 hwC1 hS hz_3 hk_3 hg_3 => ?_)
  have hwMo := hwM
  have hwM := hwM.other hd.symm hk_3
  have hd := dj.step hd hwMo hg_3
  have hwC := hwC1
  refine lv_aload_n hx hb d_L_law_1013 rfl (lv_at hl 2 rfl) ?_
  refine lv_aload_n hx hb d_L_law_1014 rfl (lv_at hl 0 rfl) ?_
  refine lv_iload hx hb d_L_law_1015 (lv_at hl 4 rfl) ?_
  refine lv_iconst (v := 1) hx hb d_L_law_1017 (by decide) ?_
  refine lv_iadd hx hb d_L_law_1018 ?_
  refine lv_topi (fun v_4 e_4 => ?_)
  obtain rfl : v_4 = nI ((7 * i) + 1) := by rw [e_4]; exact nI_add (7 * i) 1
  refine ww_sld (v := xs ((7 * i) + 1)) hx hb hX hbl hbA hS (vp_in_nI (by omega) (by omega)) (by rw [nI_clamp (by omega)]) d_L_law_1019 ?_
  refine lv_aload_n hx hb d_L_law_1020 rfl (lv_at hl 0 rfl) ?_
  refine lv_iload hx hb d_L_law_1021 (lv_at hl 4 rfl) ?_
  refine lv_iconst (v := 2) hx hb d_L_law_1023 (by decide) ?_
  refine lv_iadd hx hb d_L_law_1024 ?_
  refine lv_topi (fun v_5 e_5 => ?_)
  obtain rfl : v_5 = nI ((7 * i) + 2) := by rw [e_5]; exact nI_add (7 * i) 2
  refine ww_sld (v := xs ((7 * i) + 2)) hx hb hX hbl hbA hS (vp_in_nI (by omega) (by omega)) (by rw [nI_clamp (by omega)]) d_L_law_1025 ?_
  refine ww_i (cV (As := [.int (xs ((7 * i) + 1)), .int (xs ((7 * i) + 2))]) (rest := [.int r_3]) (C := "DangerTablesModel") 2 ⟨hx, hb, hml, hown, hts⟩ (c_M_paper l g H_3.size wM mo ad t (b2 rb) n gn br.length F gd br (xs ((7 * i) + 1)) (xs ((7 * i) + 2)) m1 m6 m7) k_857 k_854 k_7 k_855 k_856 (by decide +kernel) ⟨Nat.le_of_ble_eq_true rfl, Nat.le_of_ble_eq_true rfl⟩ rfl rfl ⟨prW_blind _ _ _ _, hwM.recv hK m1.1 rfl, prW_at hG hAB hS hwM⟩ rfl hl.1 rfl (Nat.le_of_ble_eq_true rfl) d_L_law_1026 ⟨by show _ ≤ 601024; omega, by show _ ≤ 7293034; omega⟩) hwM hS hA (fun r_6 wM_6 H_6 locs_6 e_6 hwM1 hS hz_6 hk_6 hg_6 => ?_)
  have hwCo := hwC
  have hwC := hwC.other hd hk_6
  have hd := (dj.step hd.symm hwCo hg_6).symm
  have hwM := hwM1
  obtain ⟨heq, hST⟩ := op_paper hz hC hM e_3 e_6
  refine lv_icmp_eq (tgt := 1183) hx hb d_L_law_1029 (by decide) (fun _ => ?_) (fun z => absurd heq z)
  refine W.widen (k := 40 + 20 * (i + 1)) (n := 3000 + 400 * (i + 1)) (by omega) (by omega) ?_
  exact kk wC_3 wM_6 H_6 locs_6 ls ⟨hwC, hwM, hd, hS, hST⟩ (lv_sub hl [0, 1, 2, 3, 4] rfl)

set_option maxHeartbeats 4000000 in
set_option maxRecDepth 100000 in
theorem lc_14 (l : Launch) {p : Program} {e : Env} {s : State} {m : MethodId} {below : List Frame} {meth : Method} {c : Code} {b L : Nat} {xs : Nat → Int32} {g : GT} (hLX : LX p l s m meth c b L xs g) {Q : State → Prop} {i th mo out : Nat} (hi : 7 * i + 7 ≤ L) (kk : ∀ (wC wM : Nat → Option va_E) (H : Heap) (locs : List Loc) (ls : Array Slot), LI g s wC wM th mo out H locs → lv_has ls 7 [(0, .ref b), (1, .ref th), (2, .ref mo), (3, .ref out), (4, .int (nI (7 * i)))] → W p l e room_1 s m #[Value.ref b] below meth c H locs (40 + 20 * (i + 1)) (3000 + 400 * (i + 1)) Q (F0 m 1183 ls [])) {wC wM : Nat → Option va_E} {H : Heap} {locs : List Loc} {ls : Array Slot} (hI : LI g s wC wM th mo out H locs) (hl : lv_has ls 7 [(0, .ref b), (1, .ref th), (2, .ref mo), (3, .ref out), (4, .int (nI (7 * i)))]) : W p l e room_1 s m #[Value.ref b] below meth c H locs (40 + 20 * i) (3000 + 400 * i) Q (F0 m 1034 ls []) := by
  obtain ⟨hx, hb, hr, hml, hown, hts, hG, hg0, hX, hbl, hL, hl0⟩ := hLX
  obtain ⟨hwC, hwM, hd, hS, hST⟩ := hI
  have hf := hG.here
  have hK := hf.1
  have hbA : ¬ gB g b := fun z => absurd hbl (Nat.not_lt.mpr (hg0 ▸ z))
  have hA : ∀ q, s.heap.size ≤ q → gB g q := fun q h => by show g.2.2 0 ≤ q; rw [hg0]; exact h
  have hAB : ∀ q, gB g q → gB g q := fun _ h => h
  obtain ⟨f, n, rb, rf, gd, gn, br, mz, ⟨tx, ru, go, bo, zo, sg, fo, garr, barr, ff, gxs, bxs, fz, pl, pa, pss, own, jf, hC⟩, t, ad, F, hM⟩ := hST
  obtain ⟨hth, htx, hsg, hfo, hru, hne, ⟨hgl, hgn, ogo, oga⟩, hgs9, ⟨hbl9, hbn, obo, oba⟩, hbs9, ⟨hzo, ozo⟩, hzr9, hout⟩ := id hC
  obtain ⟨m1, m2, m3, m4, m5, m6, m7, m8, m9, m10⟩ := id hM
  have hz : wC (g.2.2 1) = none := emp_none hf hAB hwC
  refine lv_aload_n hx hb d_L_law_1034 rfl (lv_at hl 1 rfl) ?_
  refine lv_aload_n hx hb d_L_law_1035 rfl (lv_at hl 0 rfl) ?_
  refine lv_iload hx hb d_L_law_1036 (lv_at hl 4 rfl) ?_
  refine lv_iconst (v := 1) hx hb d_L_law_1038 (by decide) ?_
  refine lv_iadd hx hb d_L_law_1039 ?_
  refine lv_topi (fun v_1 e_1 => ?_)
  obtain rfl : v_1 = nI ((7 * i) + 1) := by rw [e_1]; exact nI_add (7 * i) 1
  refine ww_sld (v := xs ((7 * i) + 1)) hx hb hX hbl hbA hS (vp_in_nI (by omega) (by omega)) (by rw [nI_clamp (by omega)]) d_L_law_1040 ?_
  refine lv_aload_n hx hb d_L_law_1041 rfl (lv_at hl 3 rfl) ?_
  refine ww_i (cSW (As := [.ref th, .int (xs ((7 * i) + 1)), .ref out]) (rest := []) 3 ⟨hx, hb, hml, hown, hts⟩ (c_L_missing l hl0 g H.size wC th tx ru (b2 rb) go bo zo barr bxs (br.map (bxOf gd)) (xs ((7 * i) + 1)) out jf hth hbl9 hC.len hC.bs hout) k_610 k_608 k_0 k_609 (by decide +kernel) ⟨Nat.le_of_ble_eq_true rfl, Nat.le_of_ble_eq_true rfl⟩ rfl rfl ⟨prW_blind _ _ _ _, prW_at hG hAB hS hwC⟩ rfl hl.1 rfl (Nat.le_of_ble_eq_true rfl) d_L_law_1042 ⟨by show _ ≤ 601024; omega, by show _ ≤ 7293034; omega⟩) hwC hS hA (fun r_2 wC_2 H_2 locs_2 e_2 hwC1 hS hz_2 hk_2 hg_2 => ?_)
  have hwMo := hwM
  have hwM := hwM.other hd.symm hk_2
  have hd := dj.step hd hwMo hg_2
  have hwC := hwC1
  refine lv_istore (lv' := [(5, .int r_2), (0, .ref b), (1, .ref th), (2, .ref mo), (3, .ref out), (4, .int (nI (7 * i)))]) hx hb d_L_law_1045 hl (by decide) rfl (fun ls hl => ?_)
  refine lv_aload_n hx hb d_L_law_1047 rfl (lv_at hl 3 rfl) ?_
  refine lv_aload_n hx hb d_L_law_1048 rfl (lv_at hl 1 rfl) ?_
  refine lv_iload hx hb d_L_law_1049 (lv_at hl 5 rfl) ?_
  refine lv_iconst (v := 1) hx hb d_L_law_1051 (by decide) ?_
  refine lv_iadd hx hb d_L_law_1052 ?_
  refine lv_topi (fun v_3 e_3 => ?_)
  obtain rfl : v_3 = nI ((7 * i) + 1) := by rw [e_3]; exact nI_add (7 * i) 1
  refine ww_sld (v := xs ((7 * i) + 1)) hx hb hX hbl hbA hS (vp_in_nI (by omega) (by omega)) (by rw [nI_clamp (by omega)]) d_L_law_1053 ?_
  refine ww_i (cV (As := [.int (xs ((7 * i) + 1))]) (rest := []) (C := "DangerTablesModel") 1 ⟨hx, hb, hml, hown, hts⟩ (c_M_missing l g H_2.size wM mo ad t (b2 rb) n gn br.length F gd br (xs ((7 * i) + 1)) m1 m6 m7) k_861 k_858 k_7 k_859 k_860 (by decide +kernel) ⟨Nat.le_of_ble_eq_true rfl, Nat.le_of_ble_eq_true rfl⟩ rfl rfl ⟨prW_blind _ _ _ _, hwM.recv hK m1.1 rfl, prW_at hG hAB hS hwM⟩ rfl hl.1 rfl (Nat.le_of_ble_eq_true rfl) d_L_law_1054 ⟨by show _ ≤ 601024; omega, by show _ ≤ 7293034; omega⟩) hwM hS hA (fun r_4 wM_4 H_4 locs_4 e_4 hwM1 hS hz_4 hk_4 hg_4 => ?_)
  have hwCo := hwC
  have hwC := hwC.other hd hk_4
  have hd := (dj.step hd.symm hwCo hg_4).symm
  have hwM := hwM1
  have hSTk := op_missing hz hC hM e_2 e_4
  obtain ⟨f1, n1, rb1, rf1, gd1, gn1, br1, mz1, tx1, ru1, go1, bo1, zo1, sg1, fo1, garr1, barr1, ff1, gxs1, bxs1, fz1, pl1, pa1, pss1, own1, jf1, ad1, F1, hC1, hM1, hj1⟩ := id hSTk
  have hout1 := hC1.2.2.2.2.2.2.2.2.2.2.2.2
  refine lv_istore (lv' := [(6, .int r_4), (5, .int r_2), (0, .ref b), (1, .ref th), (2, .ref mo), (3, .ref out), (4, .int (nI (7 * i)))]) hx hb d_L_law_1057 hl (by decide) rfl (fun ls hl => ?_)
  refine lv_aload_n hx hb d_L_law_1059 rfl (lv_at hl 4 rfl) ?_
  refine wr_i (cV (As := []) (rest := []) (C := "DangerTablesModel") 0 ⟨hx, hb, hml, hown, hts⟩ (c_M_thrown l g wM_4 mo ad1 r_2 (b2 rb1) n1 gn1 br1.length F1 hM1.1) k_726 k_723 k_7 k_724 k_725 (by decide +kernel) ⟨Nat.le_of_ble_eq_true rfl, Nat.le_of_ble_eq_true rfl⟩ rfl rfl ⟨prR_blind _ _ _, hwM.recv hK hM1.1.1 rfl, prR_at hG hAB hS hwM⟩ rfl hl.1 rfl (Nat.le_of_ble_eq_true rfl) d_L_law_1060 ⟨by show _ ≤ 601024; omega, by show _ ≤ 7293034; omega⟩) (fun r_t e_t => ?_)
  refine lv_iload hx hb d_L_law_1063 (lv_at hl 1 rfl) ?_
  refine lv_icmp_eq (tgt := 1070) hx hb d_L_law_1065 (by decide) (fun _ => ?_) (fun z => absurd e_t z)
  refine lv_iload hx hb d_L_law_1070 (lv_at hl 1 rfl) ?_
  refine lv_if_ne (tgt := 1087) hx hb d_L_law_1072 (by decide) (fun c_5 => ?_) (fun c_5 => ?_)
  · refine lv_goto (tgt := 1183) hx hb d_L_law_1087 (by decide) ?_
    refine W.widen (k := 40 + 20 * (i + 1)) (n := 3000 + 400 * (i + 1)) (by omega) (by omega) ?_
    exact kk wC_2 wM_4 H_4 locs_4 ls ⟨hwC, hwM, hd, hS, hSTk.st⟩ (lv_sub hl [2, 3, 4, 5, 6] rfl)
  · have hk0 : r_2 = 0 := c_5
    refine lv_aload_n hx hb d_L_law_1075 rfl (lv_at hl 5 rfl) ?_
    refine lv_iconst (v := 0) hx hb d_L_law_1076 (by decide) ?_
    refine ww_lald (v := jf1 0) hx hb hK hwC 2 hout1 rfl (vp_in_nI (n := 0) (by decide) (by decide)) rfl d_L_law_1077 ?_
    refine lv_iload hx hb d_L_law_1078 (lv_at hl 0 rfl) ?_
    refine lv_i2l hx hb d_L_law_1080 rfl ?_
    refine W.lcmp hx hb d_L_law_1081 ?_
    refine lv_if_eq (tgt := 1087) hx hb d_L_law_1082 (by decide) (fun _ => ?_) (fun z => absurd (by rw [hj1 hk0]; exact cmp_r _) z)
    refine lv_goto (tgt := 1183) hx hb d_L_law_1087 (by decide) ?_
    refine W.widen (k := 40 + 20 * (i + 1)) (n := 3000 + 400 * (i + 1)) (by omega) (by omega) ?_
    exact kk wC_2 wM_4 H_4 locs_4 ls ⟨hwC, hwM, hd, hS, hSTk.st⟩ (lv_sub hl [2, 3, 4, 5, 6] rfl)

set_option maxHeartbeats 4000000 in
set_option maxRecDepth 100000 in
theorem lc_15 (l : Launch) {p : Program} {e : Env} {s : State} {m : MethodId} {below : List Frame} {meth : Method} {c : Code} {b L : Nat} {xs : Nat → Int32} {g : GT} (hLX : LX p l s m meth c b L xs g) {Q : State → Prop} {i th mo out : Nat} (hi : 7 * i + 7 ≤ L) (kk : ∀ (wC wM : Nat → Option va_E) (H : Heap) (locs : List Loc) (ls : Array Slot), LI g s wC wM th mo out H locs → lv_has ls 7 [(0, .ref b), (1, .ref th), (2, .ref mo), (3, .ref out), (4, .int (nI (7 * i)))] → W p l e room_1 s m #[Value.ref b] below meth c H locs (40 + 20 * (i + 1)) (3000 + 400 * (i + 1)) Q (F0 m 1183 ls [])) {wC wM : Nat → Option va_E} {H : Heap} {locs : List Loc} {ls : Array Slot} (hI : LI g s wC wM th mo out H locs) (hl : lv_has ls 7 [(0, .ref b), (1, .ref th), (2, .ref mo), (3, .ref out), (4, .int (nI (7 * i)))]) : W p l e room_1 s m #[Value.ref b] below meth c H locs (40 + 20 * i) (3000 + 400 * i) Q (F0 m 1090 ls []) := by
  obtain ⟨hx, hb, hr, hml, hown, hts, hG, hg0, hX, hbl, hL, hl0⟩ := hLX
  obtain ⟨hwC, hwM, hd, hS, hST⟩ := hI
  have hf := hG.here
  have hK := hf.1
  have hbA : ¬ gB g b := fun z => absurd hbl (Nat.not_lt.mpr (hg0 ▸ z))
  have hA : ∀ q, s.heap.size ≤ q → gB g q := fun q h => by show g.2.2 0 ≤ q; rw [hg0]; exact h
  have hAB : ∀ q, gB g q → gB g q := fun _ h => h
  obtain ⟨f, n, rb, rf, gd, gn, br, mz, ⟨tx, ru, go, bo, zo, sg, fo, garr, barr, ff, gxs, bxs, fz, pl, pa, pss, own, jf, hC⟩, t, ad, F, hM⟩ := hST
  obtain ⟨hth, htx, hsg, hfo, hru, hne, ⟨hgl, hgn, ogo, oga⟩, hgs9, ⟨hbl9, hbn, obo, oba⟩, hbs9, ⟨hzo, ozo⟩, hzr9, hout⟩ := id hC
  obtain ⟨m1, m2, m3, m4, m5, m6, m7, m8, m9, m10⟩ := id hM
  have hz : wC (g.2.2 1) = none := emp_none hf hAB hwC
  refine lv_aload_n hx hb d_L_law_1090 rfl (lv_at hl 1 rfl) ?_
  refine lv_aload_n hx hb d_L_law_1091 rfl (lv_at hl 0 rfl) ?_
  refine lv_iload hx hb d_L_law_1092 (lv_at hl 4 rfl) ?_
  refine lv_iconst (v := 1) hx hb d_L_law_1094 (by decide) ?_
  refine lv_iadd hx hb d_L_law_1095 ?_
  refine lv_topi (fun v_1 e_1 => ?_)
  obtain rfl : v_1 = nI ((7 * i) + 1) := by rw [e_1]; exact nI_add (7 * i) 1
  refine ww_sld (v := xs ((7 * i) + 1)) hx hb hX hbl hbA hS (vp_in_nI (by omega) (by omega)) (by rw [nI_clamp (by omega)]) d_L_law_1096 ?_
  refine lv_aload_n hx hb d_L_law_1097 rfl (lv_at hl 0 rfl) ?_
  refine lv_iload hx hb d_L_law_1098 (lv_at hl 4 rfl) ?_
  refine lv_iconst (v := 2) hx hb d_L_law_1100 (by decide) ?_
  refine lv_iadd hx hb d_L_law_1101 ?_
  refine lv_topi (fun v_2 e_2 => ?_)
  obtain rfl : v_2 = nI ((7 * i) + 2) := by rw [e_2]; exact nI_add (7 * i) 2
  refine ww_sld (v := xs ((7 * i) + 2)) hx hb hX hbl hbA hS (vp_in_nI (by omega) (by omega)) (by rw [nI_clamp (by omega)]) d_L_law_1102 ?_
  refine lv_aload_n hx hb d_L_law_1103 rfl (lv_at hl 3 rfl) ?_
  refine ww_i (cSW (As := [.ref th, .int (xs ((7 * i) + 1)), .int (xs ((7 * i) + 2)), .ref out]) (rest := []) 4 ⟨hx, hb, hml, hown, hts⟩ (c_L_look l hl0 g H.size wC th tx ru (b2 rb) go bo zo barr bxs (br.map (bxOf gd)) (xs ((7 * i) + 1)) (xs ((7 * i) + 2)) out jf hth hbl9 hC.len hC.bs hout) k_617 k_615 k_0 k_616 (by decide +kernel) ⟨Nat.le_of_ble_eq_true rfl, Nat.le_of_ble_eq_true rfl⟩ rfl rfl ⟨prW_blind _ _ _ _, prW_at hG hAB hS hwC⟩ rfl hl.1 rfl (Nat.le_of_ble_eq_true rfl) d_L_law_1104 ⟨by show _ ≤ 601024; omega, by show _ ≤ 7293034; omega⟩) hwC hS hA (fun r_3 wC_3 H_3 locs_3 e_3 hwC1 hS hz_3 hk_3 hg_3 => ?_)
  have hwMo := hwM
  have hwM := hwM.other hd.symm hk_3
  have hd := dj.step hd hwMo hg_3
  have hwC := hwC1
  refine lv_istore (lv' := [(5, .int r_3), (0, .ref b), (1, .ref th), (2, .ref mo), (3, .ref out), (4, .int (nI (7 * i)))]) hx hb d_L_law_1107 hl (by decide) rfl (fun ls hl => ?_)
  refine lv_aload_n hx hb d_L_law_1109 rfl (lv_at hl 3 rfl) ?_
  refine lv_aload_n hx hb d_L_law_1110 rfl (lv_at hl 1 rfl) ?_
  refine lv_iload hx hb d_L_law_1111 (lv_at hl 5 rfl) ?_
  refine lv_iconst (v := 1) hx hb d_L_law_1113 (by decide) ?_
  refine lv_iadd hx hb d_L_law_1114 ?_
  refine lv_topi (fun v_4 e_4 => ?_)
  obtain rfl : v_4 = nI ((7 * i) + 1) := by rw [e_4]; exact nI_add (7 * i) 1
  refine ww_sld (v := xs ((7 * i) + 1)) hx hb hX hbl hbA hS (vp_in_nI (by omega) (by omega)) (by rw [nI_clamp (by omega)]) d_L_law_1115 ?_
  refine lv_aload_n hx hb d_L_law_1116 rfl (lv_at hl 1 rfl) ?_
  refine lv_iload hx hb d_L_law_1117 (lv_at hl 5 rfl) ?_
  refine lv_iconst (v := 2) hx hb d_L_law_1119 (by decide) ?_
  refine lv_iadd hx hb d_L_law_1120 ?_
  refine lv_topi (fun v_5 e_5 => ?_)
  obtain rfl : v_5 = nI ((7 * i) + 2) := by rw [e_5]; exact nI_add (7 * i) 2
  refine ww_sld (v := xs ((7 * i) + 2)) hx hb hX hbl hbA hS (vp_in_nI (by omega) (by omega)) (by rw [nI_clamp (by omega)]) d_L_law_1121 ?_
  refine ww_i (cV (As := [.int (xs ((7 * i) + 1)), .int (xs ((7 * i) + 2))]) (rest := []) (C := "DangerTablesModel") 2 ⟨hx, hb, hml, hown, hts⟩ (c_M_look l g H_3.size wM mo ad t (b2 rb) n gn br.length F gd br (xs ((7 * i) + 1)) (xs ((7 * i) + 2)) m1 m6 m7) k_865 k_862 k_7 k_863 k_864 (by decide +kernel) ⟨Nat.le_of_ble_eq_true rfl, Nat.le_of_ble_eq_true rfl⟩ rfl rfl ⟨prW_blind _ _ _ _, hwM.recv hK m1.1 rfl, prW_at hG hAB hS hwM⟩ rfl hl.1 rfl (Nat.le_of_ble_eq_true rfl) d_L_law_1122 ⟨by show _ ≤ 601024; omega, by show _ ≤ 7293034; omega⟩) hwM hS hA (fun r_6 wM_6 H_6 locs_6 e_6 hwM1 hS hz_6 hk_6 hg_6 => ?_)
  have hwCo := hwC
  have hwC := hwC.other hd hk_6
  have hd := (dj.step hd.symm hwCo hg_6).symm
  have hwM := hwM1
  have hSTk := op_look hz hC hM e_3 e_6
  obtain ⟨f1, n1, rb1, rf1, gd1, gn1, br1, mz1, tx1, ru1, go1, bo1, zo1, sg1, fo1, garr1, barr1, ff1, gxs1, bxs1, fz1, pl1, pa1, pss1, own1, jf1, ad1, F1, hC1, hM1, hj1⟩ := id hSTk
  have hout1 := hC1.2.2.2.2.2.2.2.2.2.2.2.2
  refine lv_istore (lv' := [(6, .int r_6), (5, .int r_3), (0, .ref b), (1, .ref th), (2, .ref mo), (3, .ref out), (4, .int (nI (7 * i)))]) hx hb d_L_law_1125 hl (by decide) rfl (fun ls hl => ?_)
  refine lv_aload_n hx hb d_L_law_1127 rfl (lv_at hl 4 rfl) ?_
  refine wr_i (cV (As := []) (rest := []) (C := "DangerTablesModel") 0 ⟨hx, hb, hml, hown, hts⟩ (c_M_thrown l g wM_6 mo ad1 r_3 (b2 rb1) n1 gn1 br1.length F1 hM1.1) k_726 k_723 k_7 k_724 k_725 (by decide +kernel) ⟨Nat.le_of_ble_eq_true rfl, Nat.le_of_ble_eq_true rfl⟩ rfl rfl ⟨prR_blind _ _ _, hwM.recv hK hM1.1.1 rfl, prR_at hG hAB hS hwM⟩ rfl hl.1 rfl (Nat.le_of_ble_eq_true rfl) d_L_law_1128 ⟨by show _ ≤ 601024; omega, by show _ ≤ 7293034; omega⟩) (fun r_t e_t => ?_)
  refine lv_iload hx hb d_L_law_1131 (lv_at hl 1 rfl) ?_
  refine lv_icmp_eq (tgt := 1138) hx hb d_L_law_1133 (by decide) (fun _ => ?_) (fun z => absurd e_t z)
  refine lv_iload hx hb d_L_law_1138 (lv_at hl 1 rfl) ?_
  refine lv_if_ne (tgt := 1155) hx hb d_L_law_1140 (by decide) (fun c_7 => ?_) (fun c_7 => ?_)
  · refine lv_goto (tgt := 1183) hx hb d_L_law_1155 (by decide) ?_
    refine W.widen (k := 40 + 20 * (i + 1)) (n := 3000 + 400 * (i + 1)) (by omega) (by omega) ?_
    exact kk wC_3 wM_6 H_6 locs_6 ls ⟨hwC, hwM, hd, hS, hSTk.st⟩ (lv_sub hl [2, 3, 4, 5, 6] rfl)
  · have hk0 : r_3 = 0 := c_7
    refine lv_aload_n hx hb d_L_law_1143 rfl (lv_at hl 5 rfl) ?_
    refine lv_iconst (v := 0) hx hb d_L_law_1144 (by decide) ?_
    refine ww_lald (v := jf1 0) hx hb hK hwC 2 hout1 rfl (vp_in_nI (n := 0) (by decide) (by decide)) rfl d_L_law_1145 ?_
    refine lv_iload hx hb d_L_law_1146 (lv_at hl 0 rfl) ?_
    refine lv_i2l hx hb d_L_law_1148 rfl ?_
    refine W.lcmp hx hb d_L_law_1149 ?_
    refine lv_if_eq (tgt := 1155) hx hb d_L_law_1150 (by decide) (fun _ => ?_) (fun z => absurd (by rw [hj1 hk0]; exact cmp_r _) z)
    refine lv_goto (tgt := 1183) hx hb d_L_law_1155 (by decide) ?_
    refine W.widen (k := 40 + 20 * (i + 1)) (n := 3000 + 400 * (i + 1)) (by omega) (by omega) ?_
    exact kk wC_3 wM_6 H_6 locs_6 ls ⟨hwC, hwM, hd, hS, hSTk.st⟩ (lv_sub hl [2, 3, 4, 5, 6] rfl)

set_option maxHeartbeats 4000000 in
set_option maxRecDepth 100000 in
theorem lc_16 (l : Launch) {p : Program} {e : Env} {s : State} {m : MethodId} {below : List Frame} {meth : Method} {c : Code} {b L : Nat} {xs : Nat → Int32} {g : GT} (hLX : LX p l s m meth c b L xs g) {Q : State → Prop} {i th mo out : Nat} (hi : 7 * i + 7 ≤ L) (kk : ∀ (wC wM : Nat → Option va_E) (H : Heap) (locs : List Loc) (ls : Array Slot), LI g s wC wM th mo out H locs → lv_has ls 7 [(0, .ref b), (1, .ref th), (2, .ref mo), (3, .ref out), (4, .int (nI (7 * i)))] → W p l e room_1 s m #[Value.ref b] below meth c H locs (40 + 20 * (i + 1)) (3000 + 400 * (i + 1)) Q (F0 m 1183 ls [])) {wC wM : Nat → Option va_E} {H : Heap} {locs : List Loc} {ls : Array Slot} (hI : LI g s wC wM th mo out H locs) (hl : lv_has ls 7 [(0, .ref b), (1, .ref th), (2, .ref mo), (3, .ref out), (4, .int (nI (7 * i)))]) : W p l e room_1 s m #[Value.ref b] below meth c H locs (40 + 20 * i) (3000 + 400 * i) Q (F0 m 1158 ls []) := by
  obtain ⟨hx, hb, hr, hml, hown, hts, hG, hg0, hX, hbl, hL, hl0⟩ := hLX
  obtain ⟨hwC, hwM, hd, hS, hST⟩ := hI
  have hf := hG.here
  have hK := hf.1
  have hbA : ¬ gB g b := fun z => absurd hbl (Nat.not_lt.mpr (hg0 ▸ z))
  have hA : ∀ q, s.heap.size ≤ q → gB g q := fun q h => by show g.2.2 0 ≤ q; rw [hg0]; exact h
  have hAB : ∀ q, gB g q → gB g q := fun _ h => h
  obtain ⟨f, n, rb, rf, gd, gn, br, mz, ⟨tx, ru, go, bo, zo, sg, fo, garr, barr, ff, gxs, bxs, fz, pl, pa, pss, own, jf, hC⟩, t, ad, F, hM⟩ := hST
  obtain ⟨hth, htx, hsg, hfo, hru, hne, ⟨hgl, hgn, ogo, oga⟩, hgs9, ⟨hbl9, hbn, obo, oba⟩, hbs9, ⟨hzo, ozo⟩, hzr9, hout⟩ := id hC
  obtain ⟨m1, m2, m3, m4, m5, m6, m7, m8, m9, m10⟩ := id hM
  have hz : wC (g.2.2 1) = none := emp_none hf hAB hwC
  refine lv_aload_n hx hb d_L_law_1158 rfl (lv_at hl 1 rfl) ?_
  refine lv_aload_n hx hb d_L_law_1159 rfl (lv_at hl 0 rfl) ?_
  refine lv_iload hx hb d_L_law_1160 (lv_at hl 4 rfl) ?_
  refine lv_iconst (v := 1) hx hb d_L_law_1162 (by decide) ?_
  refine lv_iadd hx hb d_L_law_1163 ?_
  refine lv_topi (fun v_1 e_1 => ?_)
  obtain rfl : v_1 = nI ((7 * i) + 1) := by rw [e_1]; exact nI_add (7 * i) 1
  refine ww_sld (v := xs ((7 * i) + 1)) hx hb hX hbl hbA hS (vp_in_nI (by omega) (by omega)) (by rw [nI_clamp (by omega)]) d_L_law_1164 ?_
  refine wr_i (cV (As := [.int (xs ((7 * i) + 1))]) (rest := []) (C := "DangerTables") 1 ⟨hx, hb, hml, hown, hts⟩ (c_T_count l g wC th tx ru (b2 rb) go bo zo barr bxs (br.map (bxOf gd)) garr gxs gd sg fo n rb (xs ((7 * i) + 1)) hth hbl9 hC.len hC.bs hgl hC.gs htx rfl) k_201 k_198 k_1 k_199 k_200 (by decide +kernel) ⟨Nat.le_of_ble_eq_true rfl, Nat.le_of_ble_eq_true rfl⟩ rfl rfl ⟨prR_blind _ _ _, hwC.recv hK hth rfl, prR_at hG hAB hS hwC⟩ rfl hl.1 rfl (Nat.le_of_ble_eq_true rfl) d_L_law_1165 ⟨by show _ ≤ 601024; omega, by show _ ≤ 7293034; omega⟩) (fun r_2 e_2 => ?_)
  refine lv_aload_n hx hb d_L_law_1168 rfl (lv_at hl 2 rfl) ?_
  refine lv_aload_n hx hb d_L_law_1169 rfl (lv_at hl 0 rfl) ?_
  refine lv_iload hx hb d_L_law_1170 (lv_at hl 4 rfl) ?_
  refine lv_iconst (v := 1) hx hb d_L_law_1172 (by decide) ?_
  refine lv_iadd hx hb d_L_law_1173 ?_
  refine lv_topi (fun v_3 e_3 => ?_)
  obtain rfl : v_3 = nI ((7 * i) + 1) := by rw [e_3]; exact nI_add (7 * i) 1
  refine ww_sld (v := xs ((7 * i) + 1)) hx hb hX hbl hbA hS (vp_in_nI (by omega) (by omega)) (by rw [nI_clamp (by omega)]) d_L_law_1174 ?_
  refine ww_i (cV (As := [.int (xs ((7 * i) + 1))]) (rest := [.int r_2]) (C := "DangerTablesModel") 1 ⟨hx, hb, hml, hown, hts⟩ (c_M_count l g H.size wM mo ad t (b2 rb) n gn br.length F gd br rb (xs ((7 * i) + 1)) m1 m6 m7 rfl) k_869 k_866 k_7 k_867 k_868 (by decide +kernel) ⟨Nat.le_of_ble_eq_true rfl, Nat.le_of_ble_eq_true rfl⟩ rfl rfl ⟨prW_blind _ _ _ _, hwM.recv hK m1.1 rfl, prW_at hG hAB hS hwM⟩ rfl hl.1 rfl (Nat.le_of_ble_eq_true rfl) d_L_law_1175 ⟨by show _ ≤ 601024; omega, by show _ ≤ 7293034; omega⟩) hwM hS hA (fun r_4 wM_4 H_4 locs_4 e_4 hwM1 hS hz_4 hk_4 hg_4 => ?_)
  have hwCo := hwC
  have hwC := hwC.other hd hk_4
  have hd := (dj.step hd.symm hwCo hg_4).symm
  have hwM := hwM1
  obtain ⟨heq, hST⟩ := op_count hC hM e_2 e_4
  refine lv_icmp_eq (tgt := 1183) hx hb d_L_law_1178 (by decide) (fun _ => ?_) (fun z => absurd heq z)
  refine W.widen (k := 40 + 20 * (i + 1)) (n := 3000 + 400 * (i + 1)) (by omega) (by omega) ?_
  exact kk wC wM_4 H_4 locs_4 ls ⟨hwC, hwM, hd, hS, hST⟩ (lv_sub hl [0, 1, 2, 3, 4] rfl)

