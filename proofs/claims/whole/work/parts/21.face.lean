/-! METHODS OF THE FACE THAT ONLY READ -/
set_option maxHeartbeats 4000000 in
set_option maxRecDepth 100000 in
theorem c_T_rule (l : Launch) (hl0 : l.stackTraces = false) (g : GT) (w : Nat → Option va_E) (th tx ru : Nat) (rd : Int32) (go bo zo : Nat) (rf : Nat → Int32) (u v : Int32) (ht : w th = some (cT tx ru rd go bo zo)) (hru : w ru = some (cA g 45 rf)) : vx_Met l y_T_rule (.code y_T_rule b_T_rule 3 ((some .int)) :: GW) ({ frames := 6, cells := 1, slots := 6, locals := 82 }) (prR g [.ref th, .int u, .int v] w) (qR (fun r => (isCls u && isCls v) = true ∧ r = rf (prI u v).toNatClampNeg)) (xQ (fun E => E = "java/lang/IllegalArgumentException" ∧ (isCls u && isCls v) = false)) 1 6 (fun _ => False) := by
  refine vx_ofW (cc := b_T_rule) (maxL := 3) (ret := (some .int)) (by decide) rfl ?_
  intro p e s m args below meth c s₁ B hml hno hv
  obtain ⟨rfl, hG, hw⟩ := hv
  have hx := B.exec
  have hb := B.bytes
  have hr := B.returns
  have hts : ∀ w ∈ GW, w.before _ s = true := fun w h => atoms_spec (ws := .code y_T_rule b_T_rule 3 ((some .int)) :: GW) B.pre w (List.mem_cons_of_mem _ h)
  have hown : s.vm.findClass "DangerTables" = some m.cls := findClass_of_methodNamed B.named
  have hlocks := B.notSynchronized
  have hf := hG.here
  have hK := hf.1
  have hAB : ∀ q, gB g q → gB g q := fun _ h => h
  have hS : va_S (gB g) s.heap s.heap [] := va_S.rf
  have hUU := hf.2.2.2.2.2.2.2.2.1
  have hNN := hf.2.2.2.2.2.2.2.2.2
  have hl := lv_entry ([.ref th, .int u, .int v]) (n := 3) (Nat.le_of_ble_eq_true rfl)
  rw [lg_entry_eq]
  generalize (lg_sl ([.ref th, .int u, .int v]) ++ List.replicate (3 - (lg_sl ([.ref th, .int u, .int v])).length) Slot.unset).toArray = ls at hl ⊢
  have hl : lv_has ls 3 [(0, .ref th), (1, .int u), (2, .int v)] := hl
  refine lv_iload_n hx hb d_T_rule_0 rfl (lv_at hl 1 rfl) ?_
  refine wr_i (cS (As := [.int u]) (rest := []) 1 ⟨hx, hb, hml, hown, hts⟩ (c_T_isClass l u) k_126 k_153 k_1 k_125 (by decide +kernel) ⟨Nat.le_of_ble_eq_true rfl, Nat.le_of_ble_eq_true rfl⟩ rfl rfl ⟨prN_blind _, fun _ _ _ => ⟨rfl, trivial⟩⟩ rfl hl.1 rfl (Nat.le_of_ble_eq_true rfl) d_T_rule_1 ⟨Nat.zero_le _, Nat.zero_le _⟩) (fun r_1 e_1 => ?_)
  refine lv_if_eq (tgt := 14) hx hb d_T_rule_4 (by decide) (fun c_2 => ?_) (fun c_2 => ?_)
  · have q_2 := b2_f e_1 c_2
    obtain ⟨sa_3, hs_3⟩ := hf.2.2.2.2.1 (66, "no such class") (List.mem_of_getElem? (i := 0) rfl)
    exact vx_throwS (own := "DangerTables") (names := ["java/lang/RuntimeException", "java/lang/Exception"]) (ic := 68) (cls := "java/lang/IllegalArgumentException") hx hb hl0 hown (by decide) (by decide) (hts _ k_218) (hts _ k_12) hs_3 (atS_hat at_IAE hts hf.2.1) gd_IAE hUU hNN hS (hl.1.trans hml.symm) d_T_rule_14 d_T_rule_17 d_T_rule_18 d_T_rule_20 d_T_rule_23 (fun x h => (hno x h).elim) (Nat.le_of_ble_eq_true rfl) (Nat.le_of_ble_eq_true rfl) (Nat.le_of_ble_eq_true rfl) (Nat.le_of_ble_eq_true rfl) hlocks (fun t ha h1 h2 => ⟨(), trivial, ⟨rfl, (by simp [q_2, c_2])⟩, h1, fun q hq _ => h2 q hq⟩) (fun z h => nomatch h) (Nat.le_of_ble_eq_true rfl) (Nat.le_of_ble_eq_true rfl)
  · have q_2 := b2_t e_1 c_2
    refine lv_iload_n hx hb d_T_rule_7 rfl (lv_at hl 2 rfl) ?_
    refine wr_i (cS (As := [.int v]) (rest := []) 1 ⟨hx, hb, hml, hown, hts⟩ (c_T_isClass l v) k_126 k_153 k_1 k_125 (by decide +kernel) ⟨Nat.le_of_ble_eq_true rfl, Nat.le_of_ble_eq_true rfl⟩ rfl rfl ⟨prN_blind _, fun _ _ _ => ⟨rfl, trivial⟩⟩ rfl hl.1 rfl (Nat.le_of_ble_eq_true rfl) d_T_rule_8 ⟨Nat.zero_le _, Nat.zero_le _⟩) (fun r_4 e_4 => ?_)
    refine lv_if_ne (tgt := 24) hx hb d_T_rule_11 (by decide) (fun c_5 => ?_) (fun c_5 => ?_)
    · have q_5 := b2_t e_4 c_5
      refine lv_aload_n hx hb d_T_rule_24 rfl (lv_at hl 0 rfl) ?_
      refine ww_get (v := .ref ru) (C := R_T) (T := F_T) (N := 6) (ci := 0) hx hb hts i_T hown hK hw ht rfl 1 (by decide) (hts _ k_81) (fun _ h9 => h9) rfl d_T_rule_25 ?_
      refine lv_iload_n hx hb d_T_rule_28 rfl (lv_at hl 1 rfl) ?_
      refine lv_iload_n hx hb d_T_rule_29 rfl (lv_at hl 2 rfl) ?_
      refine wr_i (cS (As := [.int u, .int v]) (rest := [.ref ru]) 2 ⟨hx, hb, hml, hown, hts⟩ (c_T_pairNumber l u v) k_129 k_169 k_1 k_128 (by decide +kernel) ⟨Nat.le_of_ble_eq_true rfl, Nat.le_of_ble_eq_true rfl⟩ rfl rfl ⟨prN_blind _, fun _ _ _ => ⟨rfl, trivial⟩⟩ rfl hl.1 rfl (Nat.le_of_ble_eq_true rfl) d_T_rule_30 ⟨Nat.zero_le _, Nat.zero_le _⟩) (fun r_6 e_6 => ?_)
      obtain ⟨j, hj, ej⟩ := prI_in q_2 q_5
      refine ww_iald (v := rf (prI u v).toNatClampNeg) hx hb hK hw 0 hru rfl (by rw [e_6, ej]; exact vp_in_nI hj (by decide)) (by rw [e_6]) d_T_rule_33 ?_
      refine W.widen (k := 1) (n := 6) (Nat.le_of_ble_eq_true rfl) (Nat.le_of_ble_eq_true rfl) ?_
      exact vx_ret (W.iret (v := (rf (prI u v).toNatClampNeg)) hx hb hr (fun t ht hW => ⟨⟨(rf (prI u v).toNatClampNeg), (), rfl, ⟨by rw [q_2, q_5]; rfl, rfl⟩, trivial⟩, va_S.rf.F ht⟩) t_nil d_T_rule_34)
    · have q_5 := b2_f e_4 c_5
      obtain ⟨sa_7, hs_7⟩ := hf.2.2.2.2.1 (66, "no such class") (List.mem_of_getElem? (i := 0) rfl)
      exact vx_throwS (own := "DangerTables") (names := ["java/lang/RuntimeException", "java/lang/Exception"]) (ic := 68) (cls := "java/lang/IllegalArgumentException") hx hb hl0 hown (by decide) (by decide) (hts _ k_218) (hts _ k_12) hs_7 (atS_hat at_IAE hts hf.2.1) gd_IAE hUU hNN hS (hl.1.trans hml.symm) d_T_rule_14 d_T_rule_17 d_T_rule_18 d_T_rule_20 d_T_rule_23 (fun x h => (hno x h).elim) (Nat.le_of_ble_eq_true rfl) (Nat.le_of_ble_eq_true rfl) (Nat.le_of_ble_eq_true rfl) (Nat.le_of_ble_eq_true rfl) hlocks (fun t ha h1 h2 => ⟨(), trivial, ⟨rfl, (by simp [q_2, q_5, c_2, c_5])⟩, h1, fun q hq _ => h2 q hq⟩) (fun z h => nomatch h) (Nat.le_of_ble_eq_true rfl) (Nat.le_of_ble_eq_true rfl)

set_option maxHeartbeats 4000000 in
set_option maxRecDepth 100000 in
theorem c_T_zone (l : Launch) (hl0 : l.stackTraces = false) (g : GT) (w : Nat → Option va_E) (th tx ru : Nat) (rd : Int32) (go bo zo : Nat) (arr : Nat) (xs : List Nat) (bs : List BX) (u v : Int32) (ht : w th = some (cT tx ru rd go bo zo)) (hL : isL g w bo arr xs) (hlen : xs.length = bs.length) (hbs : ∀ i a : Nat, xs[i]? = some a → ∃ b, bs[i]? = some b ∧ isBx g w a b) : vx_Met l y_T_zone (.code y_T_zone b_T_zone 3 ((some .int)) :: GW) ({ frames := 6, cells := 1, slots := 6, locals := 113 }) (prR g [.ref th, .int u, .int v] w) (qR (fun r => (isZn u && isCls v) = true ∧ r = kzB bs u v)) (xQ (fun E => E = "java/lang/IllegalArgumentException" ∧ (isZn u && isCls v) = false)) 1 6 (fun _ => False) := by
  refine vx_ofW (cc := b_T_zone) (maxL := 3) (ret := (some .int)) (by decide) rfl ?_
  intro p e s m args below meth c s₁ B hml hno hv
  obtain ⟨rfl, hG, hw⟩ := hv
  have hx := B.exec
  have hb := B.bytes
  have hr := B.returns
  have hts : ∀ w ∈ GW, w.before _ s = true := fun w h => atoms_spec (ws := .code y_T_zone b_T_zone 3 ((some .int)) :: GW) B.pre w (List.mem_cons_of_mem _ h)
  have hown : s.vm.findClass "DangerTables" = some m.cls := findClass_of_methodNamed B.named
  have hlocks := B.notSynchronized
  have hf := hG.here
  have hK := hf.1
  have hAB : ∀ q, gB g q → gB g q := fun _ h => h
  have hS : va_S (gB g) s.heap s.heap [] := va_S.rf
  have hUU := hf.2.2.2.2.2.2.2.2.1
  have hNN := hf.2.2.2.2.2.2.2.2.2
  have hl := lv_entry ([.ref th, .int u, .int v]) (n := 3) (Nat.le_of_ble_eq_true rfl)
  rw [lg_entry_eq]
  generalize (lg_sl ([.ref th, .int u, .int v]) ++ List.replicate (3 - (lg_sl ([.ref th, .int u, .int v])).length) Slot.unset).toArray = ls at hl ⊢
  have hl : lv_has ls 3 [(0, .ref th), (1, .int u), (2, .int v)] := hl
  refine lv_iload_n hx hb d_T_zone_0 rfl (lv_at hl 1 rfl) ?_
  refine wr_i (cS (As := [.int u]) (rest := []) 1 ⟨hx, hb, hml, hown, hts⟩ (c_T_isZone l u) k_184 k_182 k_1 k_183 (by decide +kernel) ⟨Nat.le_of_ble_eq_true rfl, Nat.le_of_ble_eq_true rfl⟩ rfl rfl ⟨prN_blind _, fun _ _ _ => ⟨rfl, trivial⟩⟩ rfl hl.1 rfl (Nat.le_of_ble_eq_true rfl) d_T_zone_1 ⟨Nat.zero_le _, Nat.zero_le _⟩) (fun r_1 e_1 => ?_)
  refine lv_if_eq (tgt := 14) hx hb d_T_zone_4 (by decide) (fun c_2 => ?_) (fun c_2 => ?_)
  · have q_2 := b2_f e_1 c_2
    obtain ⟨sa_3, hs_3⟩ := hf.2.2.2.2.1 (164, "no such zone or class") (List.mem_of_getElem? (i := 11) rfl)
    exact vx_throwS (own := "DangerTables") (names := ["java/lang/RuntimeException", "java/lang/Exception"]) (ic := 68) (cls := "java/lang/IllegalArgumentException") hx hb hl0 hown (by decide) (by decide) (hts _ k_218) (hts _ k_12) hs_3 (atS_hat at_IAE hts hf.2.1) gd_IAE hUU hNN hS (hl.1.trans hml.symm) d_T_zone_14 d_T_zone_17 d_T_zone_18 d_T_zone_20 d_T_zone_23 (fun x h => (hno x h).elim) (Nat.le_of_ble_eq_true rfl) (Nat.le_of_ble_eq_true rfl) (Nat.le_of_ble_eq_true rfl) (Nat.le_of_ble_eq_true rfl) hlocks (fun t ha h1 h2 => ⟨(), trivial, ⟨rfl, (by simp [q_2, c_2])⟩, h1, fun q hq _ => h2 q hq⟩) (fun z h => nomatch h) (Nat.le_of_ble_eq_true rfl) (Nat.le_of_ble_eq_true rfl)
  · have q_2 := b2_t e_1 c_2
    refine lv_iload_n hx hb d_T_zone_7 rfl (lv_at hl 2 rfl) ?_
    refine wr_i (cS (As := [.int v]) (rest := []) 1 ⟨hx, hb, hml, hown, hts⟩ (c_T_isClass l v) k_126 k_153 k_1 k_125 (by decide +kernel) ⟨Nat.le_of_ble_eq_true rfl, Nat.le_of_ble_eq_true rfl⟩ rfl rfl ⟨prN_blind _, fun _ _ _ => ⟨rfl, trivial⟩⟩ rfl hl.1 rfl (Nat.le_of_ble_eq_true rfl) d_T_zone_8 ⟨Nat.zero_le _, Nat.zero_le _⟩) (fun r_4 e_4 => ?_)
    refine lv_if_ne (tgt := 24) hx hb d_T_zone_11 (by decide) (fun c_5 => ?_) (fun c_5 => ?_)
    · have q_5 := b2_t e_4 c_5
      refine lv_aload_n hx hb d_T_zone_24 rfl (lv_at hl 0 rfl) ?_
      refine lv_iload_n hx hb d_T_zone_25 rfl (lv_at hl 1 rfl) ?_
      refine lv_iload_n hx hb d_T_zone_26 rfl (lv_at hl 2 rfl) ?_
      refine wr_i (cV (As := [.int u, .int v]) (rest := []) (C := "DangerTables") 2 ⟨hx, hb, hml, hown, hts⟩ (c_T_kilogramsInZone l g w th tx ru rd go bo zo arr xs bs u v ht hL hlen hbs) k_537 k_534 k_1 k_536 kp_13 (by decide +kernel) ⟨Nat.le_of_ble_eq_true rfl, Nat.le_of_ble_eq_true rfl⟩ rfl rfl ⟨prR_blind _ _ _, hw.recv hK ht rfl, prR_at hG hAB hS hw⟩ rfl hl.1 rfl (Nat.le_of_ble_eq_true rfl) d_T_zone_27 ⟨Nat.zero_le _, Nat.zero_le _⟩) (fun r_6 e_6 => ?_)
      refine W.widen (k := 1) (n := 6) (Nat.le_of_ble_eq_true rfl) (Nat.le_of_ble_eq_true rfl) ?_
      exact vx_ret (W.iret (v := r_6) hx hb hr (fun t ht hW => ⟨⟨r_6, (), rfl, ⟨by rw [q_2, q_5]; rfl, e_6⟩, trivial⟩, va_S.rf.F ht⟩) t_nil d_T_zone_30)
    · have q_5 := b2_f e_4 c_5
      obtain ⟨sa_7, hs_7⟩ := hf.2.2.2.2.1 (164, "no such zone or class") (List.mem_of_getElem? (i := 11) rfl)
      exact vx_throwS (own := "DangerTables") (names := ["java/lang/RuntimeException", "java/lang/Exception"]) (ic := 68) (cls := "java/lang/IllegalArgumentException") hx hb hl0 hown (by decide) (by decide) (hts _ k_218) (hts _ k_12) hs_7 (atS_hat at_IAE hts hf.2.1) gd_IAE hUU hNN hS (hl.1.trans hml.symm) d_T_zone_14 d_T_zone_17 d_T_zone_18 d_T_zone_20 d_T_zone_23 (fun x h => (hno x h).elim) (Nat.le_of_ble_eq_true rfl) (Nat.le_of_ble_eq_true rfl) (Nat.le_of_ble_eq_true rfl) (Nat.le_of_ble_eq_true rfl) hlocks (fun t ha h1 h2 => ⟨(), trivial, ⟨rfl, (by simp [q_2, q_5, c_2, c_5])⟩, h1, fun q hq _ => h2 q hq⟩) (fun z h => nomatch h) (Nat.le_of_ble_eq_true rfl) (Nat.le_of_ble_eq_true rfl)

set_option maxHeartbeats 4000000 in
set_option maxRecDepth 100000 in
theorem c_T_apart (l : Launch) (hl0 : l.stackTraces = false) (g : GT) (w : Nat → Option va_E) (th tx ru : Nat) (rd : Int32) (go bo zo : Nat) (rf : Nat → Int32) (arr : Nat) (xs : List Nat) (bs : List BX) (u v : Int32) (ht : w th = some (cT tx ru rd go bo zo)) (hru : w ru = some (cA g 45 rf)) (hL : isL g w bo arr xs) (hlen : xs.length = bs.length) (hbs : ∀ i a : Nat, xs[i]? = some a → ∃ b, bs[i]? = some b ∧ isBx g w a b) (hos : ∀ b ∈ bs, ∀ r ∈ b.1, okP r) : vx_Met l y_T_apart (.code y_T_apart b_T_apart 3 ((some .int)) :: GW) ({ frames := 6, cells := 1, slots := 6, locals := 98 }) (prR g [.ref th, .int u, .int v] w) (qR (fun r => (inL u bs.length && inL v bs.length && !decide (u = v)) = true ∧ (∃ (i j : Nat) (bi bj : BX), u = nI i ∧ v = nI j ∧ bs[i]? = some bi ∧ bs[j]? = some bj ∧ r = ruB rf bi.1 bj.1))) (xQ (fun E => E = "java/lang/IllegalArgumentException" ∧ (inL u bs.length && inL v bs.length && !decide (u = v)) = false)) 1 6 (fun _ => False) := by
  refine vx_ofW (cc := b_T_apart) (maxL := 3) (ret := (some .int)) (by decide) rfl ?_
  intro p e s m args below meth c s₁ B hml hno hv
  obtain ⟨rfl, hG, hw⟩ := hv
  have hx := B.exec
  have hb := B.bytes
  have hr := B.returns
  have hts : ∀ w ∈ GW, w.before _ s = true := fun w h => atoms_spec (ws := .code y_T_apart b_T_apart 3 ((some .int)) :: GW) B.pre w (List.mem_cons_of_mem _ h)
  have hown : s.vm.findClass "DangerTables" = some m.cls := findClass_of_methodNamed B.named
  have hlocks := B.notSynchronized
  have hf := hG.here
  have hK := hf.1
  have hAB : ∀ q, gB g q → gB g q := fun _ h => h
  have hS : va_S (gB g) s.heap s.heap [] := va_S.rf
  have hUU := hf.2.2.2.2.2.2.2.2.1
  have hNN := hf.2.2.2.2.2.2.2.2.2
  have hl := lv_entry ([.ref th, .int u, .int v]) (n := 3) (Nat.le_of_ble_eq_true rfl)
  rw [lg_entry_eq]
  generalize (lg_sl ([.ref th, .int u, .int v]) ++ List.replicate (3 - (lg_sl ([.ref th, .int u, .int v])).length) Slot.unset).toArray = ls at hl ⊢
  have hl : lv_has ls 3 [(0, .ref th), (1, .int u), (2, .int v)] := hl
  have hL9 := hL
  obtain ⟨mc, cap, f, he, hcap, hc, hfi, hor⟩ := hL
  refine lv_aload_n hx hb d_T_apart_0 rfl (lv_at hl 0 rfl) ?_
  refine lv_iload_n hx hb d_T_apart_1 rfl (lv_at hl 1 rfl) ?_
  refine lv_iload_n hx hb d_T_apart_2 rfl (lv_at hl 2 rfl) ?_
  refine wr_i (cV (As := [.int u, .int v]) (rest := []) (C := "DangerTables") 2 ⟨hx, hb, hml, hown, hts⟩ (c_T_areTwoBoxes l g w th tx ru rd go bo zo arr xs u v ht hL9) k_493 k_490 k_1 k_492 kp_9 (by decide +kernel) ⟨Nat.le_of_ble_eq_true rfl, Nat.le_of_ble_eq_true rfl⟩ rfl rfl ⟨prR_blind _ _ _, hw.recv hK ht rfl, prR_at hG hAB hS hw⟩ rfl hl.1 rfl (Nat.le_of_ble_eq_true rfl) d_T_apart_3 ⟨Nat.zero_le _, Nat.zero_le _⟩) (fun r_1 e_1 => ?_)
  refine lv_if_ne (tgt := 19) hx hb d_T_apart_6 (by decide) (fun c_2 => ?_) (fun c_2 => ?_)
  · have q_2 := b2_t e_1 c_2
    simp only [Bool.and_eq_true] at q_2
    obtain ⟨⟨hu1, hv1⟩, huv⟩ := q_2
    obtain ⟨i, hi, rfl⟩ := inL_of hu1 (by omega)
    obtain ⟨j, hj, rfl⟩ := inL_of hv1 (by omega)
    obtain ⟨q1, hq01⟩ : ∃ q, xs[i]? = some q := ⟨_, List.getElem?_eq_getElem hi⟩
    have hq1 := hfi i q1 hq01
    obtain ⟨bq1, hr1, hB1⟩ := hbs i q1 hq01
    obtain ⟨pl1, parr1, ps1, hx1, -⟩ := id hB1
    obtain ⟨q2, hq02⟩ : ∃ q, xs[j]? = some q := ⟨_, List.getElem?_eq_getElem hj⟩
    have hq2 := hfi j q2 hq02
    obtain ⟨bq2, hr2, hB2⟩ := hbs j q2 hq02
    obtain ⟨pl2, parr2, ps2, hx2, -⟩ := id hB2
    have ha := hor.resolve_right (fun z => by rw [z.1] at hi; exact absurd hi (Nat.not_lt_zero _))
    refine lv_aload_n hx hb d_T_apart_19 rfl (lv_at hl 0 rfl) ?_
    refine lv_aload_n hx hb d_T_apart_20 rfl (lv_at hl 0 rfl) ?_
    refine ww_get (v := .ref bo) (C := R_T) (T := F_T) (N := 6) (ci := 0) hx hb hts i_T hown hK hw ht rfl 4 (by decide) (hts _ k_84) (fun _ h9 => h9) rfl d_T_apart_21 ?_
    refine lv_iload_n hx hb d_T_apart_24 rfl (lv_at hl 1 rfl) ?_
    refine wr_q (cV (As := [.int (nI i)]) (rest := [.ref th]) (C := "java/util/ArrayList") 1 ⟨hx, hb, hml, hown, hts⟩ (c_AL_get l g w bo arr xs.length cap i q1 mc f he ha hcap (by omega) hi hq1) k_157 k_154 k_6 k_155 k_156 (by decide +kernel) ⟨Nat.le_of_ble_eq_true rfl, Nat.le_of_ble_eq_true rfl⟩ rfl rfl ⟨prR_blind _ _ _, hw.recv hK he rfl, prR_at hG hAB hS hw⟩ rfl hl.1 rfl (Nat.le_of_ble_eq_true rfl) d_T_apart_25 ⟨Nat.zero_le _, Nat.zero_le _⟩) (fun r_3 e_3 => ?_)
    subst e_3
    refine va_castY (C := "DangerTables$Box") hx hb hown (hts _ k_193) (hf.2.1 _ x_873) (hw.recv hK hx1 rfl) d_T_apart_28 ?_
    refine lv_aload_n hx hb d_T_apart_31 rfl (lv_at hl 0 rfl) ?_
    refine ww_get (v := .ref bo) (C := R_T) (T := F_T) (N := 6) (ci := 0) hx hb hts i_T hown hK hw ht rfl 4 (by decide) (hts _ k_84) (fun _ h9 => h9) rfl d_T_apart_32 ?_
    refine lv_iload_n hx hb d_T_apart_35 rfl (lv_at hl 2 rfl) ?_
    refine wr_q (cV (As := [.int (nI j)]) (rest := [.ref q1, .ref th]) (C := "java/util/ArrayList") 1 ⟨hx, hb, hml, hown, hts⟩ (c_AL_get l g w bo arr xs.length cap j q2 mc f he ha hcap (by omega) hj hq2) k_157 k_154 k_6 k_155 k_156 (by decide +kernel) ⟨Nat.le_of_ble_eq_true rfl, Nat.le_of_ble_eq_true rfl⟩ rfl rfl ⟨prR_blind _ _ _, hw.recv hK he rfl, prR_at hG hAB hS hw⟩ rfl hl.1 rfl (Nat.le_of_ble_eq_true rfl) d_T_apart_36 ⟨Nat.zero_le _, Nat.zero_le _⟩) (fun r_4 e_4 => ?_)
    subst e_4
    refine va_castY (C := "DangerTables$Box") hx hb hown (hts _ k_193) (hf.2.1 _ x_873) (hw.recv hK hx2 rfl) d_T_apart_39 ?_
    refine wr_i (cV (As := [.ref q1, .ref q2]) (rest := []) (C := "DangerTables") 2 ⟨hx, hb, hml, hown, hts⟩ (c_T_ruleOfBoxes l g w th tx ru rd go bo zo rf q1 q2 bq1 bq2 ht hru hB1 hB2 (hos _ (List.mem_of_getElem? hr1)) (hos _ (List.mem_of_getElem? hr2))) k_498 k_495 k_1 k_497 kp_10 (by decide +kernel) ⟨Nat.le_of_ble_eq_true rfl, Nat.le_of_ble_eq_true rfl⟩ rfl rfl ⟨prR_blind _ _ _, hw.recv hK ht rfl, prR_at hG hAB hS hw⟩ rfl hl.1 rfl (Nat.le_of_ble_eq_true rfl) d_T_apart_42 ⟨Nat.zero_le _, Nat.zero_le _⟩) (fun r_5 e_5 => ?_)
    refine W.widen (k := 1) (n := 6) (Nat.le_of_ble_eq_true rfl) (Nat.le_of_ble_eq_true rfl) ?_
    exact vx_ret (W.iret (v := r_5) hx hb hr (fun t ht hW => ⟨⟨r_5, (), rfl, ⟨by rw [← hlen]; simp only [hu1, hv1, huv]; rfl, i, j, bq1, bq2, rfl, rfl, hr1, hr2, e_5⟩, trivial⟩, va_S.rf.F ht⟩) t_nil d_T_apart_45)
  · have q_2 := b2_f e_1 c_2
    obtain ⟨sa_6, hs_6⟩ := hf.2.2.2.2.1 (149, "no such two boxes") (List.mem_of_getElem? (i := 9) rfl)
    exact vx_throwS (own := "DangerTables") (names := ["java/lang/RuntimeException", "java/lang/Exception"]) (ic := 68) (cls := "java/lang/IllegalArgumentException") hx hb hl0 hown (by decide) (by decide) (hts _ k_218) (hts _ k_12) hs_6 (atS_hat at_IAE hts hf.2.1) gd_IAE hUU hNN hS (hl.1.trans hml.symm) d_T_apart_9 d_T_apart_12 d_T_apart_13 d_T_apart_15 d_T_apart_18 (fun x h => (hno x h).elim) (Nat.le_of_ble_eq_true rfl) (Nat.le_of_ble_eq_true rfl) (Nat.le_of_ble_eq_true rfl) (Nat.le_of_ble_eq_true rfl) hlocks (fun t ha h1 h2 => ⟨(), trivial, ⟨rfl, by rw [← hlen]; exact q_2⟩, h1, fun q hq _ => h2 q hq⟩) (fun z h => nomatch h) (Nat.le_of_ble_eq_true rfl) (Nat.le_of_ble_eq_true rfl)

set_option maxHeartbeats 4000000 in
set_option maxRecDepth 100000 in
theorem c_T_ship (l : Launch) (hl0 : l.stackTraces = false) (g : GT) (w : Nat → Option va_E) (th tx ru : Nat) (rd : Int32) (go bo zo : Nat) (rf : Nat → Int32) (arr : Nat) (xs : List Nat) (bs : List BX) (u v x : Int32) (ht : w th = some (cT tx ru rd go bo zo)) (hru : w ru = some (cA g 45 rf)) (hrf : okR rf) (hL : isL g w bo arr xs) (hlen : xs.length = bs.length) (hbs : ∀ i a : Nat, xs[i]? = some a → ∃ b, bs[i]? = some b ∧ isBx g w a b) (hos : ∀ b ∈ bs, ∀ r ∈ b.1, okP r) : vx_Met l y_T_ship (.code y_T_ship b_T_ship 4 ((some .boolean)) :: GW) ({ frames := 6, cells := 1, slots := 6, locals := 98 }) (prR g [.ref th, .int u, .int v, .int x] w) (qR (fun r => ((inL u bs.length && inL v bs.length && !decide (u = v)) && (!decide (x < 0) && !decide (100 < x))) = true ∧ (∃ (i j : Nat) (bi bj : BX), u = nI i ∧ v = nI j ∧ bs[i]? = some bi ∧ bs[j]? = some bj ∧ r = b2 (!decide (x < shipI (ruB rf bi.1 bj.1).toNatClampNeg))))) (xQ (fun E => E = "java/lang/IllegalArgumentException" ∧ ((inL u bs.length && inL v bs.length && !decide (u = v)) && (!decide (x < 0) && !decide (100 < x))) = false)) 1 6 (fun _ => False) := by
  refine vx_ofW (cc := b_T_ship) (maxL := 4) (ret := (some .boolean)) (by decide) rfl ?_
  intro p e s m args below meth c s₁ B hml hno hv
  obtain ⟨rfl, hG, hw⟩ := hv
  have hx := B.exec
  have hb := B.bytes
  have hr := B.returns
  have hts : ∀ w ∈ GW, w.before _ s = true := fun w h => atoms_spec (ws := .code y_T_ship b_T_ship 4 ((some .boolean)) :: GW) B.pre w (List.mem_cons_of_mem _ h)
  have hown : s.vm.findClass "DangerTables" = some m.cls := findClass_of_methodNamed B.named
  have hlocks := B.notSynchronized
  have hf := hG.here
  have hK := hf.1
  have hAB : ∀ q, gB g q → gB g q := fun _ h => h
  have hS : va_S (gB g) s.heap s.heap [] := va_S.rf
  have hUU := hf.2.2.2.2.2.2.2.2.1
  have hNN := hf.2.2.2.2.2.2.2.2.2
  have hl := lv_entry ([.ref th, .int u, .int v, .int x]) (n := 4) (Nat.le_of_ble_eq_true rfl)
  rw [lg_entry_eq]
  generalize (lg_sl ([.ref th, .int u, .int v, .int x]) ++ List.replicate (4 - (lg_sl ([.ref th, .int u, .int v, .int x])).length) Slot.unset).toArray = ls at hl ⊢
  have hl : lv_has ls 4 [(0, .ref th), (1, .int u), (2, .int v), (3, .int x)] := hl
  have hL9 := hL
  obtain ⟨mc, cap, f, he, hcap, hc, hfi, hor⟩ := hL
  refine lv_aload_n hx hb d_T_ship_0 rfl (lv_at hl 0 rfl) ?_
  refine lv_iload_n hx hb d_T_ship_1 rfl (lv_at hl 1 rfl) ?_
  refine lv_iload_n hx hb d_T_ship_2 rfl (lv_at hl 2 rfl) ?_
  refine wr_i (cV (As := [.int u, .int v]) (rest := []) (C := "DangerTables") 2 ⟨hx, hb, hml, hown, hts⟩ (c_T_areTwoBoxes l g w th tx ru rd go bo zo arr xs u v ht hL9) k_493 k_490 k_1 k_492 kp_9 (by decide +kernel) ⟨Nat.le_of_ble_eq_true rfl, Nat.le_of_ble_eq_true rfl⟩ rfl rfl ⟨prR_blind _ _ _, hw.recv hK ht rfl, prR_at hG hAB hS hw⟩ rfl hl.1 rfl (Nat.le_of_ble_eq_true rfl) d_T_ship_3 ⟨Nat.zero_le _, Nat.zero_le _⟩) (fun r_1 e_1 => ?_)
  refine lv_if_ne (tgt := 19) hx hb d_T_ship_6 (by decide) (fun c_2 => ?_) (fun c_2 => ?_)
  · have q_2 := b2_t e_1 c_2
    simp only [Bool.and_eq_true] at q_2
    obtain ⟨⟨hu1, hv1⟩, huv⟩ := q_2
    obtain ⟨i, hi, rfl⟩ := inL_of hu1 (by omega)
    obtain ⟨j, hj, rfl⟩ := inL_of hv1 (by omega)
    obtain ⟨q1, hq01⟩ : ∃ q, xs[i]? = some q := ⟨_, List.getElem?_eq_getElem hi⟩
    have hq1 := hfi i q1 hq01
    obtain ⟨bq1, hr1, hB1⟩ := hbs i q1 hq01
    obtain ⟨pl1, parr1, ps1, hx1, -⟩ := id hB1
    obtain ⟨q2, hq02⟩ : ∃ q, xs[j]? = some q := ⟨_, List.getElem?_eq_getElem hj⟩
    have hq2 := hfi j q2 hq02
    obtain ⟨bq2, hr2, hB2⟩ := hbs j q2 hq02
    obtain ⟨pl2, parr2, ps2, hx2, -⟩ := id hB2
    have ha := hor.resolve_right (fun z => by rw [z.1] at hi; exact absurd hi (Nat.not_lt_zero _))
    refine lv_iload_n hx hb d_T_ship_19 rfl (lv_at hl 3 rfl) ?_
    refine lv_if_lt (tgt := 29) hx hb d_T_ship_20 (by decide) (fun c_3 => ?_) (fun c_3 => ?_)
    · obtain ⟨sa_4, hs_4⟩ := hf.2.2.2.2.1 (155, "no such number of cells") (List.mem_of_getElem? (i := 10) rfl)
      exact vx_throwS (own := "DangerTables") (names := ["java/lang/RuntimeException", "java/lang/Exception"]) (ic := 68) (cls := "java/lang/IllegalArgumentException") hx hb hl0 hown (by decide) (by decide) (hts _ k_218) (hts _ k_12) hs_4 (atS_hat at_IAE hts hf.2.1) gd_IAE hUU hNN hS (hl.1.trans hml.symm) d_T_ship_29 d_T_ship_32 d_T_ship_33 d_T_ship_35 d_T_ship_38 (fun x h => (hno x h).elim) (Nat.le_of_ble_eq_true rfl) (Nat.le_of_ble_eq_true rfl) (Nat.le_of_ble_eq_true rfl) (Nat.le_of_ble_eq_true rfl) hlocks (fun t ha h1 h2 => ⟨(), trivial, ⟨rfl, by rw [decide_eq_true c_3]; simp⟩, h1, fun q hq _ => h2 q hq⟩) (fun z h => nomatch h) (Nat.le_of_ble_eq_true rfl) (Nat.le_of_ble_eq_true rfl)
    · refine lv_iload_n hx hb d_T_ship_23 rfl (lv_at hl 3 rfl) ?_
      refine lv_bipush (v := 100) hx hb d_T_ship_24 (by decide) ?_
      refine lv_icmp_le (tgt := 39) hx hb d_T_ship_26 (by decide) (fun c_5 => ?_) (fun c_5 => ?_)
      · have hx0 : ¬ x < 0 ∧ ¬ 100 < x := ⟨c_3, Int32.not_lt.mpr c_5⟩
        refine lv_iload_n hx hb d_T_ship_39 rfl (lv_at hl 3 rfl) ?_
        refine lv_aload_n hx hb d_T_ship_40 rfl (lv_at hl 0 rfl) ?_
        refine lv_aload_n hx hb d_T_ship_41 rfl (lv_at hl 0 rfl) ?_
        refine ww_get (v := .ref bo) (C := R_T) (T := F_T) (N := 6) (ci := 0) hx hb hts i_T hown hK hw ht rfl 4 (by decide) (hts _ k_84) (fun _ h9 => h9) rfl d_T_ship_42 ?_
        refine lv_iload_n hx hb d_T_ship_45 rfl (lv_at hl 1 rfl) ?_
        refine wr_q (cV (As := [.int (nI i)]) (rest := [.ref th, .int x]) (C := "java/util/ArrayList") 1 ⟨hx, hb, hml, hown, hts⟩ (c_AL_get l g w bo arr xs.length cap i q1 mc f he ha hcap (by omega) hi hq1) k_157 k_154 k_6 k_155 k_156 (by decide +kernel) ⟨Nat.le_of_ble_eq_true rfl, Nat.le_of_ble_eq_true rfl⟩ rfl rfl ⟨prR_blind _ _ _, hw.recv hK he rfl, prR_at hG hAB hS hw⟩ rfl hl.1 rfl (Nat.le_of_ble_eq_true rfl) d_T_ship_46 ⟨Nat.zero_le _, Nat.zero_le _⟩) (fun r_6 e_6 => ?_)
        subst e_6
        refine va_castY (C := "DangerTables$Box") hx hb hown (hts _ k_193) (hf.2.1 _ x_873) (hw.recv hK hx1 rfl) d_T_ship_49 ?_
        refine lv_aload_n hx hb d_T_ship_52 rfl (lv_at hl 0 rfl) ?_
        refine ww_get (v := .ref bo) (C := R_T) (T := F_T) (N := 6) (ci := 0) hx hb hts i_T hown hK hw ht rfl 4 (by decide) (hts _ k_84) (fun _ h9 => h9) rfl d_T_ship_53 ?_
        refine lv_iload_n hx hb d_T_ship_56 rfl (lv_at hl 2 rfl) ?_
        refine wr_q (cV (As := [.int (nI j)]) (rest := [.ref q1, .ref th, .int x]) (C := "java/util/ArrayList") 1 ⟨hx, hb, hml, hown, hts⟩ (c_AL_get l g w bo arr xs.length cap j q2 mc f he ha hcap (by omega) hj hq2) k_157 k_154 k_6 k_155 k_156 (by decide +kernel) ⟨Nat.le_of_ble_eq_true rfl, Nat.le_of_ble_eq_true rfl⟩ rfl rfl ⟨prR_blind _ _ _, hw.recv hK he rfl, prR_at hG hAB hS hw⟩ rfl hl.1 rfl (Nat.le_of_ble_eq_true rfl) d_T_ship_57 ⟨Nat.zero_le _, Nat.zero_le _⟩) (fun r_7 e_7 => ?_)
        subst e_7
        refine va_castY (C := "DangerTables$Box") hx hb hown (hts _ k_193) (hf.2.1 _ x_873) (hw.recv hK hx2 rfl) d_T_ship_60 ?_
        refine wr_i (cV (As := [.ref q1, .ref q2]) (rest := [.int x]) (C := "DangerTables") 2 ⟨hx, hb, hml, hown, hts⟩ (c_T_ruleOfBoxes l g w th tx ru rd go bo zo rf q1 q2 bq1 bq2 ht hru hB1 hB2 (hos _ (List.mem_of_getElem? hr1)) (hos _ (List.mem_of_getElem? hr2))) k_498 k_495 k_1 k_497 kp_10 (by decide +kernel) ⟨Nat.le_of_ble_eq_true rfl, Nat.le_of_ble_eq_true rfl⟩ rfl rfl ⟨prR_blind _ _ _, hw.recv hK ht rfl, prR_at hG hAB hS hw⟩ rfl hl.1 rfl (Nat.le_of_ble_eq_true rfl) d_T_ship_63 ⟨Nat.zero_le _, Nat.zero_le _⟩) (fun r_8 e_8 => ?_)
        obtain ⟨k0, hk0, ek0⟩ := in4_ruB hrf (hos _ (List.mem_of_getElem? hr1)) (hos _ (List.mem_of_getElem? hr2))
        obtain rfl : r_8 = nI k0 := e_8.trans ek0
        refine wr_i (cS (As := [.int (nI k0)]) (rest := [.int x]) 1 ⟨hx, hb, hml, hown, hts⟩ (c_T_leastCells l k0 hk0) k_525 k_523 k_1 k_524 (by decide +kernel) ⟨Nat.le_of_ble_eq_true rfl, Nat.le_of_ble_eq_true rfl⟩ rfl rfl ⟨prN_blind _, fun _ _ _ => ⟨rfl, trivial⟩⟩ rfl hl.1 rfl (Nat.le_of_ble_eq_true rfl) d_T_ship_66 ⟨Nat.zero_le _, Nat.zero_le _⟩) (fun r_9 e_9 => ?_)
        refine lv_icmp_lt (tgt := 76) hx hb d_T_ship_69 (by decide) (fun c_10 => ?_) (fun c_10 => ?_)
        · refine lv_iconst (v := 0) hx hb d_T_ship_76 (by decide) ?_
          refine W.widen (k := 1) (n := 6) (Nat.le_of_ble_eq_true rfl) (Nat.le_of_ble_eq_true rfl) ?_
          exact vx_ret (W.zret (v := 0) (ty := .boolean) hx hb hr rfl (fun t ht hW => ⟨⟨0, (), rfl, ⟨by rw [← hlen]; simp only [hu1, hv1, huv, decide_eq_false hx0.1, decide_eq_false hx0.2]; rfl, i, j, bq1, bq2, rfl, rfl, hr1, hr2, by rw [ek0, ← e_9, decide_eq_true c_10]; rfl⟩, trivial⟩, va_S.rf.F ht⟩) t_nil d_T_ship_77)
        · refine lv_iconst (v := 1) hx hb d_T_ship_72 (by decide) ?_
          refine lv_goto (tgt := 77) hx hb d_T_ship_73 (by decide) ?_
          refine W.widen (k := 1) (n := 6) (Nat.le_of_ble_eq_true rfl) (Nat.le_of_ble_eq_true rfl) ?_
          exact vx_ret (W.zret (v := 1) (ty := .boolean) hx hb hr rfl (fun t ht hW => ⟨⟨1, (), rfl, ⟨by rw [← hlen]; simp only [hu1, hv1, huv, decide_eq_false hx0.1, decide_eq_false hx0.2]; rfl, i, j, bq1, bq2, rfl, rfl, hr1, hr2, by rw [ek0, ← e_9, decide_eq_false c_10]; rfl⟩, trivial⟩, va_S.rf.F ht⟩) t_nil d_T_ship_77)
      · obtain ⟨sa_11, hs_11⟩ := hf.2.2.2.2.1 (155, "no such number of cells") (List.mem_of_getElem? (i := 10) rfl)
        exact vx_throwS (own := "DangerTables") (names := ["java/lang/RuntimeException", "java/lang/Exception"]) (ic := 68) (cls := "java/lang/IllegalArgumentException") hx hb hl0 hown (by decide) (by decide) (hts _ k_218) (hts _ k_12) hs_11 (atS_hat at_IAE hts hf.2.1) gd_IAE hUU hNN hS (hl.1.trans hml.symm) d_T_ship_29 d_T_ship_32 d_T_ship_33 d_T_ship_35 d_T_ship_38 (fun x h => (hno x h).elim) (Nat.le_of_ble_eq_true rfl) (Nat.le_of_ble_eq_true rfl) (Nat.le_of_ble_eq_true rfl) (Nat.le_of_ble_eq_true rfl) hlocks (fun t ha h1 h2 => ⟨(), trivial, ⟨rfl, by rw [decide_eq_true (Int32.not_le.mp c_5)]; simp⟩, h1, fun q hq _ => h2 q hq⟩) (fun z h => nomatch h) (Nat.le_of_ble_eq_true rfl) (Nat.le_of_ble_eq_true rfl)
  · have q_2 := b2_f e_1 c_2
    obtain ⟨sa_12, hs_12⟩ := hf.2.2.2.2.1 (149, "no such two boxes") (List.mem_of_getElem? (i := 9) rfl)
    exact vx_throwS (own := "DangerTables") (names := ["java/lang/RuntimeException", "java/lang/Exception"]) (ic := 68) (cls := "java/lang/IllegalArgumentException") hx hb hl0 hown (by decide) (by decide) (hts _ k_218) (hts _ k_12) hs_12 (atS_hat at_IAE hts hf.2.1) gd_IAE hUU hNN hS (hl.1.trans hml.symm) d_T_ship_9 d_T_ship_12 d_T_ship_13 d_T_ship_15 d_T_ship_18 (fun x h => (hno x h).elim) (Nat.le_of_ble_eq_true rfl) (Nat.le_of_ble_eq_true rfl) (Nat.le_of_ble_eq_true rfl) (Nat.le_of_ble_eq_true rfl) hlocks (fun t ha h1 h2 => ⟨(), trivial, ⟨rfl, by rw [← hlen, q_2]; rfl⟩, h1, fun q hq _ => h2 q hq⟩) (fun z h => nomatch h) (Nat.le_of_ble_eq_true rfl) (Nat.le_of_ble_eq_true rfl)

set_option maxHeartbeats 4000000 in
set_option maxRecDepth 100000 in
theorem c_T_missing (l : Launch) (hl0 : l.stackTraces = false) (g : GT) (w : Nat → Option va_E) (th tx ru : Nat) (rd : Int32) (go bo zo : Nat) (arr : Nat) (xs : List Nat) (bs : List BX) (u : Int32) (ht : w th = some (cT tx ru rd go bo zo)) (hL : isL g w bo arr xs) (hlen : xs.length = bs.length) (hbs : ∀ i a : Nat, xs[i]? = some a → ∃ b, bs[i]? = some b ∧ isBx g w a b) : vx_Met l y_T_missing (.code y_T_missing b_T_missing 2 ((some .int)) :: GW) ({ frames := 6, cells := 1, slots := 6, locals := 86 }) (prR g [.ref th, .int u] w) (qR (fun r => inL u bs.length = true ∧ ∃ (i : Nat) (bi : BX), u = nI i ∧ bs[i]? = some bi ∧ r = wtB bi.1 &&& (bi.2.2.2.2 ^^^ -1))) (xQ (fun E => E = "java/lang/IllegalArgumentException" ∧ inL u bs.length = false)) 1 6 (fun _ => False) := by
  refine vx_ofW (cc := b_T_missing) (maxL := 2) (ret := (some .int)) (by decide) rfl ?_
  intro p e s m args below meth c s₁ B hml hno hv
  obtain ⟨rfl, hG, hw⟩ := hv
  have hx := B.exec
  have hb := B.bytes
  have hr := B.returns
  have hts : ∀ w ∈ GW, w.before _ s = true := fun w h => atoms_spec (ws := .code y_T_missing b_T_missing 2 ((some .int)) :: GW) B.pre w (List.mem_cons_of_mem _ h)
  have hown : s.vm.findClass "DangerTables" = some m.cls := findClass_of_methodNamed B.named
  have hlocks := B.notSynchronized
  have hf := hG.here
  have hK := hf.1
  have hAB : ∀ q, gB g q → gB g q := fun _ h => h
  have hS : va_S (gB g) s.heap s.heap [] := va_S.rf
  have hUU := hf.2.2.2.2.2.2.2.2.1
  have hNN := hf.2.2.2.2.2.2.2.2.2
  have hl := lv_entry ([.ref th, .int u]) (n := 2) (Nat.le_of_ble_eq_true rfl)
  rw [lg_entry_eq]
  generalize (lg_sl ([.ref th, .int u]) ++ List.replicate (2 - (lg_sl ([.ref th, .int u])).length) Slot.unset).toArray = ls at hl ⊢
  have hl : lv_has ls 2 [(0, .ref th), (1, .int u)] := hl
  have hL9 := hL
  obtain ⟨mc, cap, f, he, hcap, hc, hfi, hor⟩ := hL
  refine lv_aload_n hx hb d_T_missing_0 rfl (lv_at hl 0 rfl) ?_
  refine lv_iload_n hx hb d_T_missing_1 rfl (lv_at hl 1 rfl) ?_
  refine wr_i (cV (As := [.int u]) (rest := []) (C := "DangerTables") 1 ⟨hx, hb, hml, hown, hts⟩ (c_T_isBox l g w th tx ru rd go bo zo arr xs u ht hL9) k_192 k_189 k_1 k_191 kp_3 (by decide +kernel) ⟨Nat.le_of_ble_eq_true rfl, Nat.le_of_ble_eq_true rfl⟩ rfl rfl ⟨prR_blind _ _ _, hw.recv hK ht rfl, prR_at hG hAB hS hw⟩ rfl hl.1 rfl (Nat.le_of_ble_eq_true rfl) d_T_missing_2 ⟨Nat.zero_le _, Nat.zero_le _⟩) (fun r_1 e_1 => ?_)
  refine lv_if_ne (tgt := 18) hx hb d_T_missing_5 (by decide) (fun c_2 => ?_) (fun c_2 => ?_)
  · have q_2 := b2_t e_1 c_2
    obtain ⟨i, hi, rfl⟩ := inL_of q_2 (by omega)
    obtain ⟨q1, hq01⟩ : ∃ q, xs[i]? = some q := ⟨_, List.getElem?_eq_getElem hi⟩
    have hq1 := hfi i q1 hq01
    obtain ⟨bq1, hr1, hB1⟩ := hbs i q1 hq01
    obtain ⟨pl1, parr1, ps1, hx1, ⟨mc1, cap1, fn1, he1, hcap1, hc1, hfi1, hor1⟩, hlen1, hps1⟩ := id hB1
    have ha := hor.resolve_right (fun z => by rw [z.1] at hi; exact absurd hi (Nat.not_lt_zero _))
    refine lv_aload_n hx hb d_T_missing_18 rfl (lv_at hl 0 rfl) ?_
    refine ww_get (v := .ref bo) (C := R_T) (T := F_T) (N := 6) (ci := 0) hx hb hts i_T hown hK hw ht rfl 4 (by decide) (hts _ k_84) (fun _ h9 => h9) rfl d_T_missing_19 ?_
    refine lv_iload_n hx hb d_T_missing_22 rfl (lv_at hl 1 rfl) ?_
    refine wr_q (cV (As := [.int (nI i)]) (rest := []) (C := "java/util/ArrayList") 1 ⟨hx, hb, hml, hown, hts⟩ (c_AL_get l g w bo arr xs.length cap i q1 mc f he ha hcap (by omega) hi hq1) k_157 k_154 k_6 k_155 k_156 (by decide +kernel) ⟨Nat.le_of_ble_eq_true rfl, Nat.le_of_ble_eq_true rfl⟩ rfl rfl ⟨prR_blind _ _ _, hw.recv hK he rfl, prR_at hG hAB hS hw⟩ rfl hl.1 rfl (Nat.le_of_ble_eq_true rfl) d_T_missing_23 ⟨Nat.zero_le _, Nat.zero_le _⟩) (fun r_3 e_3 => ?_)
    subst e_3
    refine va_castY (C := "DangerTables$Box") hx hb hown (hts _ k_193) (hf.2.1 _ x_873) (hw.recv hK hx1 rfl) d_T_missing_26 ?_
    refine wr_i (cV (As := []) (rest := []) (C := "DangerTables$Box") 0 ⟨hx, hb, hml, hown, hts⟩ (c_X_untoldFields l g w q1 bq1 hB1) k_565 k_562 k_19 k_563 k_564 (by decide +kernel) ⟨Nat.le_of_ble_eq_true rfl, Nat.le_of_ble_eq_true rfl⟩ rfl rfl ⟨prR_blind _ _ _, hw.recv hK hx1 rfl, prR_at hG hAB hS hw⟩ rfl hl.1 rfl (Nat.le_of_ble_eq_true rfl) d_T_missing_29 ⟨Nat.zero_le _, Nat.zero_le _⟩) (fun r_4 e_4 => ?_)
    refine W.widen (k := 1) (n := 6) (Nat.le_of_ble_eq_true rfl) (Nat.le_of_ble_eq_true rfl) ?_
    exact vx_ret (W.iret (v := r_4) hx hb hr (fun t ht hW => ⟨⟨r_4, (), rfl, ⟨by rw [← hlen]; exact q_2, i, bq1, rfl, hr1, e_4⟩, trivial⟩, va_S.rf.F ht⟩) t_nil d_T_missing_32)
  · have q_2 := b2_f e_1 c_2
    obtain ⟨sa_5, hs_5⟩ := hf.2.2.2.2.1 (184, "no such box") (List.mem_of_getElem? (i := 14) rfl)
    exact vx_throwS (own := "DangerTables") (names := ["java/lang/RuntimeException", "java/lang/Exception"]) (ic := 68) (cls := "java/lang/IllegalArgumentException") hx hb hl0 hown (by decide) (by decide) (hts _ k_218) (hts _ k_12) hs_5 (atS_hat at_IAE hts hf.2.1) gd_IAE hUU hNN hS (hl.1.trans hml.symm) d_T_missing_8 d_T_missing_11 d_T_missing_12 d_T_missing_14 d_T_missing_17 (fun x h => (hno x h).elim) (Nat.le_of_ble_eq_true rfl) (Nat.le_of_ble_eq_true rfl) (Nat.le_of_ble_eq_true rfl) (Nat.le_of_ble_eq_true rfl) hlocks (fun t ha h1 h2 => ⟨(), trivial, ⟨rfl, by rw [← hlen]; exact q_2⟩, h1, fun q hq _ => h2 q hq⟩) (fun z h => nomatch h) (Nat.le_of_ble_eq_true rfl) (Nat.le_of_ble_eq_true rfl)

def lkI (b : BX) (k : Nat) : Int32 := match k with
  | 0 => nI b.1.length
  | 1 => b.2.1
  | 2 => b.2.2.1
  | 3 => b.2.2.2.1
  | 4 => kgB b.1
  | 5 => lmB b.1
  | _ => b.2.2.2.2
theorem lk7 {x : Int32} (h : ¬ x < 0) (h7 : x < 7) : ∃ k : Nat, k < 7 ∧ x = nI k := by
  obtain ⟨j, hj, rfl⟩ := nI_of h
  exact ⟨j, (nI_ltI hj (b := 7) (by decide)).mp h7, rfl⟩
set_option maxHeartbeats 4000000 in
set_option maxRecDepth 100000 in
theorem c_T_look (l : Launch) (hl0 : l.stackTraces = false) (g : GT) (w : Nat → Option va_E) (th tx ru : Nat) (rd : Int32) (go bo zo : Nat) (arr : Nat) (xs : List Nat) (bs : List BX) (u x : Int32) (ht : w th = some (cT tx ru rd go bo zo)) (hL : isL g w bo arr xs) (hlen : xs.length = bs.length) (hbs : ∀ i a : Nat, xs[i]? = some a → ∃ b, bs[i]? = some b ∧ isBx g w a b) : vx_Met l y_T_look (.code y_T_look b_T_look 4 ((some .int)) :: GW) ({ frames := 6, cells := 1, slots := 6, locals := 86 }) (prR g [.ref th, .int u, .int x] w) (qR (fun r => (inL u bs.length && (!decide (x < 0) && !decide (7 ≤ x))) = true ∧ ∃ (i : Nat) (bi : BX) (k : Nat), u = nI i ∧ bs[i]? = some bi ∧ x = nI k ∧ k < 7 ∧ r = lkI bi k)) (xQ (fun E => E = "java/lang/IndexOutOfBoundsException" ∧ (inL u bs.length && (!decide (x < 0) && !decide (7 ≤ x))) = false)) 1 6 (fun _ => False) := by
  refine vx_ofW (cc := b_T_look) (maxL := 4) (ret := (some .int)) (by decide) rfl ?_
  intro p e s m args below meth c s₁ B hml hno hv
  obtain ⟨rfl, hG, hw⟩ := hv
  have hx := B.exec
  have hb := B.bytes
  have hr := B.returns
  have hts : ∀ w ∈ GW, w.before _ s = true := fun w h => atoms_spec (ws := .code y_T_look b_T_look 4 ((some .int)) :: GW) B.pre w (List.mem_cons_of_mem _ h)
  have hown : s.vm.findClass "DangerTables" = some m.cls := findClass_of_methodNamed B.named
  have hlocks := B.notSynchronized
  have hf := hG.here
  have hK := hf.1
  have hAB : ∀ q, gB g q → gB g q := fun _ h => h
  have hS : va_S (gB g) s.heap s.heap [] := va_S.rf
  have hUU := hf.2.2.2.2.2.2.2.2.1
  have hNN := hf.2.2.2.2.2.2.2.2.2
  have hl := lv_entry ([.ref th, .int u, .int x]) (n := 4) (Nat.le_of_ble_eq_true rfl)
  rw [lg_entry_eq]
  generalize (lg_sl ([.ref th, .int u, .int x]) ++ List.replicate (4 - (lg_sl ([.ref th, .int u, .int x])).length) Slot.unset).toArray = ls at hl ⊢
  have hl : lv_has ls 4 [(0, .ref th), (1, .int u), (2, .int x)] := hl
  have hL9 := hL
  obtain ⟨mc, cap, f, he, hcap, hc, hfi, hor⟩ := hL
  refine lv_aload_n hx hb d_T_look_0 rfl (lv_at hl 0 rfl) ?_
  refine lv_iload_n hx hb d_T_look_1 rfl (lv_at hl 1 rfl) ?_
  refine wr_i (cV (As := [.int u]) (rest := []) (C := "DangerTables") 1 ⟨hx, hb, hml, hown, hts⟩ (c_T_isBox l g w th tx ru rd go bo zo arr xs u ht hL9) k_192 k_189 k_1 k_191 kp_3 (by decide +kernel) ⟨Nat.le_of_ble_eq_true rfl, Nat.le_of_ble_eq_true rfl⟩ rfl rfl ⟨prR_blind _ _ _, hw.recv hK ht rfl, prR_at hG hAB hS hw⟩ rfl hl.1 rfl (Nat.le_of_ble_eq_true rfl) d_T_look_2 ⟨Nat.zero_le _, Nat.zero_le _⟩) (fun r_1 e_1 => ?_)
  refine lv_if_eq (tgt := 18) hx hb d_T_look_5 (by decide) (fun c_2 => ?_) (fun c_2 => ?_)
  · have q_2 := b2_f e_1 c_2
    obtain ⟨sa_3, hs_3⟩ := hf.2.2.2.2.1 (198, "no such box or what") (List.mem_of_getElem? (i := 15) rfl)
    exact vx_throwS (own := "DangerTables") (names := ["java/lang/RuntimeException", "java/lang/Exception"]) (ic := 200) (cls := "java/lang/IndexOutOfBoundsException") hx hb hl0 hown (by decide) (by decide) (hts _ k_623) (hts _ k_21) hs_3 (atS_hat at_IOE hts hf.2.1) gd_IOE hUU hNN hS (hl.1.trans hml.symm) d_T_look_18 d_T_look_21 d_T_look_22 d_T_look_24 d_T_look_27 (fun x h => (hno x h).elim) (Nat.le_of_ble_eq_true rfl) (Nat.le_of_ble_eq_true rfl) (Nat.le_of_ble_eq_true rfl) (Nat.le_of_ble_eq_true rfl) hlocks (fun t ha h1 h2 => ⟨(), trivial, ⟨rfl, by rw [← hlen, q_2]; rfl⟩, h1, fun q hq _ => h2 q hq⟩) (fun z h => nomatch h) (Nat.le_of_ble_eq_true rfl) (Nat.le_of_ble_eq_true rfl)
  · have q_2 := b2_t e_1 c_2
    obtain ⟨i, hi, rfl⟩ := inL_of q_2 (by omega)
    obtain ⟨q1, hq01⟩ : ∃ q, xs[i]? = some q := ⟨_, List.getElem?_eq_getElem hi⟩
    have hq1 := hfi i q1 hq01
    obtain ⟨bq1, hr1, hB1⟩ := hbs i q1 hq01
    obtain ⟨pl1, parr1, ps1, hx1, ⟨mc1, cap1, fn1, he1, hcap1, hc1, hfi1, hor1⟩, hlen1, hps1⟩ := id hB1
    have ha := hor.resolve_right (fun z => by rw [z.1] at hi; exact absurd hi (Nat.not_lt_zero _))
    refine lv_iload_n hx hb d_T_look_8 rfl (lv_at hl 2 rfl) ?_
    refine lv_if_lt (tgt := 18) hx hb d_T_look_9 (by decide) (fun c_4 => ?_) (fun c_4 => ?_)
    · obtain ⟨sa_5, hs_5⟩ := hf.2.2.2.2.1 (198, "no such box or what") (List.mem_of_getElem? (i := 15) rfl)
      exact vx_throwS (own := "DangerTables") (names := ["java/lang/RuntimeException", "java/lang/Exception"]) (ic := 200) (cls := "java/lang/IndexOutOfBoundsException") hx hb hl0 hown (by decide) (by decide) (hts _ k_623) (hts _ k_21) hs_5 (atS_hat at_IOE hts hf.2.1) gd_IOE hUU hNN hS (hl.1.trans hml.symm) d_T_look_18 d_T_look_21 d_T_look_22 d_T_look_24 d_T_look_27 (fun x h => (hno x h).elim) (Nat.le_of_ble_eq_true rfl) (Nat.le_of_ble_eq_true rfl) (Nat.le_of_ble_eq_true rfl) (Nat.le_of_ble_eq_true rfl) hlocks (fun t ha h1 h2 => ⟨(), trivial, ⟨rfl, by rw [decide_eq_true c_4]; simp⟩, h1, fun q hq _ => h2 q hq⟩) (fun z h => nomatch h) (Nat.le_of_ble_eq_true rfl) (Nat.le_of_ble_eq_true rfl)
    · refine lv_iload_n hx hb d_T_look_12 rfl (lv_at hl 2 rfl) ?_
      refine lv_bipush (v := 7) hx hb d_T_look_13 (by decide) ?_
      refine lv_icmp_lt (tgt := 28) hx hb d_T_look_15 (by decide) (fun c_6 => ?_) (fun c_6 => ?_)
      · refine lv_aload_n hx hb d_T_look_28 rfl (lv_at hl 0 rfl) ?_
        refine ww_get (v := .ref bo) (C := R_T) (T := F_T) (N := 6) (ci := 0) hx hb hts i_T hown hK hw ht rfl 4 (by decide) (hts _ k_84) (fun _ h9 => h9) rfl d_T_look_29 ?_
        refine lv_iload_n hx hb d_T_look_32 rfl (lv_at hl 1 rfl) ?_
        refine wr_q (cV (As := [.int (nI i)]) (rest := []) (C := "java/util/ArrayList") 1 ⟨hx, hb, hml, hown, hts⟩ (c_AL_get l g w bo arr xs.length cap i q1 mc f he ha hcap (by omega) hi hq1) k_157 k_154 k_6 k_155 k_156 (by decide +kernel) ⟨Nat.le_of_ble_eq_true rfl, Nat.le_of_ble_eq_true rfl⟩ rfl rfl ⟨prR_blind _ _ _, hw.recv hK he rfl, prR_at hG hAB hS hw⟩ rfl hl.1 rfl (Nat.le_of_ble_eq_true rfl) d_T_look_33 ⟨Nat.zero_le _, Nat.zero_le _⟩) (fun r_7 e_7 => ?_)
        subst e_7
        refine va_castY (C := "DangerTables$Box") hx hb hown (hts _ k_193) (hf.2.1 _ x_873) (hw.recv hK hx1 rfl) d_T_look_36 ?_
        refine lv_astore_n (lv' := [(3, .ref q1), (0, .ref th), (1, .int (nI i)), (2, .int x)]) hx hb d_T_look_39 rfl hl (by decide) rfl (fun ls hl => ?_)
        refine lv_iload_n hx hb d_T_look_40 rfl (lv_at hl 3 rfl) ?_
        refine lv_sw (N := 5) (tg := fun j => match j with | 0 => 80 | 1 => 85 | 2 => 90 | 3 => 95 | 4 => 100 | _ => 105) (td := 110) hx hb d_T_look_41 rfl (by decide) (by decide) (fun j hj => by rcases (show j = 0 ∨ j = 1 ∨ j = 2 ∨ j = 3 ∨ j = 4 ∨ j = 5 by omega) with rfl | rfl | rfl | rfl | rfl | rfl <;> exact ⟨_, rfl, by decide⟩) (fun j_8 hj_8 ej_8 => ?_) (fun hd_8 => ?_)
        · rcases (show j_8 = 0 ∨ j_8 = 1 ∨ j_8 = 2 ∨ j_8 = 3 ∨ j_8 = 4 ∨ j_8 = 5 by omega) with rfl | rfl | rfl | rfl | rfl | rfl
          · refine lv_aload_n hx hb d_T_look_80 rfl (lv_at hl 0 rfl) ?_
            refine wr_i (cV (As := []) (rest := []) (C := "DangerTables$Box") 0 ⟨hx, hb, hml, hown, hts⟩ (c_X_partCount l g w q1 pl1 bq1.2.1 bq1.2.2.1 bq1.2.2.2.1 bq1.2.2.2.2 mc1 (nI ps1.length) parr1 hx1 he1) k_481 k_478 k_19 k_479 k_480 (by decide +kernel) ⟨Nat.le_of_ble_eq_true rfl, Nat.le_of_ble_eq_true rfl⟩ rfl rfl ⟨prR_blind _ _ _, hw.recv hK hx1 rfl, prR_at hG hAB hS hw⟩ rfl hl.1 rfl (Nat.le_of_ble_eq_true rfl) d_T_look_81 ⟨Nat.zero_le _, Nat.zero_le _⟩) (fun r_9 e_9 => ?_)
            refine W.widen (k := 1) (n := 6) (Nat.le_of_ble_eq_true rfl) (Nat.le_of_ble_eq_true rfl) ?_
            exact vx_ret (W.iret (v := r_9) hx hb hr (fun t ht hW => ⟨⟨r_9, (), rfl, ⟨by rw [← hlen, q_2, decide_eq_false c_4, decide_eq_false (Int32.not_le.mpr c_6)]; rfl, i, bq1, 0, rfl, hr1, ej_8, by omega, by rw [lkI, ← hlen1]; exact e_9⟩, trivial⟩, va_S.rf.F ht⟩) t_nil d_T_look_84)
          · refine lv_aload_n hx hb d_T_look_85 rfl (lv_at hl 0 rfl) ?_
            refine ww_getN (v := .int bq1.2.1) (C := R_X) (T := F_X) (N := 5) (ci := 1) hx hb hts i_X hown hK hw hx1 rfl 1 (by decide) (va_Nw.use rfl (hf.2.1 _ x_420)) (fun _ h9 => h9) rfl d_T_look_86 ?_
            refine W.widen (k := 1) (n := 6) (Nat.le_of_ble_eq_true rfl) (Nat.le_of_ble_eq_true rfl) ?_
            exact vx_ret (W.iret (v := bq1.2.1) hx hb hr (fun t ht hW => ⟨⟨bq1.2.1, (), rfl, ⟨by rw [← hlen, q_2, decide_eq_false c_4, decide_eq_false (Int32.not_le.mpr c_6)]; rfl, i, bq1, 1, rfl, hr1, ej_8, by omega, rfl⟩, trivial⟩, va_S.rf.F ht⟩) t_nil d_T_look_89)
          · refine lv_aload_n hx hb d_T_look_90 rfl (lv_at hl 0 rfl) ?_
            refine ww_getN (v := .int bq1.2.2.1) (C := R_X) (T := F_X) (N := 5) (ci := 1) hx hb hts i_X hown hK hw hx1 rfl 2 (by decide) (va_Nw.use rfl (hf.2.1 _ x_422)) (fun _ h9 => h9) rfl d_T_look_91 ?_
            refine W.widen (k := 1) (n := 6) (Nat.le_of_ble_eq_true rfl) (Nat.le_of_ble_eq_true rfl) ?_
            exact vx_ret (W.iret (v := bq1.2.2.1) hx hb hr (fun t ht hW => ⟨⟨bq1.2.2.1, (), rfl, ⟨by rw [← hlen, q_2, decide_eq_false c_4, decide_eq_false (Int32.not_le.mpr c_6)]; rfl, i, bq1, 2, rfl, hr1, ej_8, by omega, rfl⟩, trivial⟩, va_S.rf.F ht⟩) t_nil d_T_look_94)
          · refine lv_aload_n hx hb d_T_look_95 rfl (lv_at hl 0 rfl) ?_
            refine ww_getN (v := .int bq1.2.2.2.1) (C := R_X) (T := F_X) (N := 5) (ci := 1) hx hb hts i_X hown hK hw hx1 rfl 3 (by decide) (va_Nw.use rfl (hf.2.1 _ x_424)) (fun _ h9 => h9) rfl d_T_look_96 ?_
            refine W.widen (k := 1) (n := 6) (Nat.le_of_ble_eq_true rfl) (Nat.le_of_ble_eq_true rfl) ?_
            exact vx_ret (W.iret (v := bq1.2.2.2.1) hx hb hr (fun t ht hW => ⟨⟨bq1.2.2.2.1, (), rfl, ⟨by rw [← hlen, q_2, decide_eq_false c_4, decide_eq_false (Int32.not_le.mpr c_6)]; rfl, i, bq1, 3, rfl, hr1, ej_8, by omega, rfl⟩, trivial⟩, va_S.rf.F ht⟩) t_nil d_T_look_99)
          · refine lv_aload_n hx hb d_T_look_100 rfl (lv_at hl 0 rfl) ?_
            refine wr_i (cV (As := []) (rest := []) (C := "DangerTables$Box") 0 ⟨hx, hb, hml, hown, hts⟩ (c_X_kilograms l g w q1 bq1 hB1) k_642 k_639 k_19 k_640 k_641 (by decide +kernel) ⟨Nat.le_of_ble_eq_true rfl, Nat.le_of_ble_eq_true rfl⟩ rfl rfl ⟨prR_blind _ _ _, hw.recv hK hx1 rfl, prR_at hG hAB hS hw⟩ rfl hl.1 rfl (Nat.le_of_ble_eq_true rfl) d_T_look_101 ⟨Nat.zero_le _, Nat.zero_le _⟩) (fun r_10 e_10 => ?_)
            refine W.widen (k := 1) (n := 6) (Nat.le_of_ble_eq_true rfl) (Nat.le_of_ble_eq_true rfl) ?_
            exact vx_ret (W.iret (v := r_10) hx hb hr (fun t ht hW => ⟨⟨r_10, (), rfl, ⟨by rw [← hlen, q_2, decide_eq_false c_4, decide_eq_false (Int32.not_le.mpr c_6)]; rfl, i, bq1, 4, rfl, hr1, ej_8, by omega, e_10⟩, trivial⟩, va_S.rf.F ht⟩) t_nil d_T_look_104)
          · refine lv_aload_n hx hb d_T_look_105 rfl (lv_at hl 0 rfl) ?_
            refine wr_i (cV (As := []) (rest := []) (C := "DangerTables$Box") 0 ⟨hx, hb, hml, hown, hts⟩ (c_X_limitedCount l g w q1 bq1 hB1) k_646 k_643 k_19 k_644 k_645 (by decide +kernel) ⟨Nat.le_of_ble_eq_true rfl, Nat.le_of_ble_eq_true rfl⟩ rfl rfl ⟨prR_blind _ _ _, hw.recv hK hx1 rfl, prR_at hG hAB hS hw⟩ rfl hl.1 rfl (Nat.le_of_ble_eq_true rfl) d_T_look_106 ⟨Nat.zero_le _, Nat.zero_le _⟩) (fun r_11 e_11 => ?_)
            refine W.widen (k := 1) (n := 6) (Nat.le_of_ble_eq_true rfl) (Nat.le_of_ble_eq_true rfl) ?_
            exact vx_ret (W.iret (v := r_11) hx hb hr (fun t ht hW => ⟨⟨r_11, (), rfl, ⟨by rw [← hlen, q_2, decide_eq_false c_4, decide_eq_false (Int32.not_le.mpr c_6)]; rfl, i, bq1, 5, rfl, hr1, ej_8, by omega, e_11⟩, trivial⟩, va_S.rf.F ht⟩) t_nil d_T_look_109)
        · refine lv_aload_n hx hb d_T_look_110 rfl (lv_at hl 0 rfl) ?_
          refine ww_getN (v := .int bq1.2.2.2.2) (C := R_X) (T := F_X) (N := 5) (ci := 1) hx hb hts i_X hown hK hw hx1 rfl 4 (by decide) (va_Nw.use rfl (hf.2.1 _ x_426)) (fun _ h9 => h9) rfl d_T_look_111 ?_
          refine W.widen (k := 1) (n := 6) (Nat.le_of_ble_eq_true rfl) (Nat.le_of_ble_eq_true rfl) ?_
          exact vx_ret (W.iret (v := bq1.2.2.2.2) hx hb hr (fun t ht hW => ⟨⟨bq1.2.2.2.2, (), rfl, ⟨by rw [← hlen, q_2, decide_eq_false c_4, decide_eq_false (Int32.not_le.mpr c_6)]; rfl, i, bq1, 6, rfl, hr1, (by obtain ⟨k, hk, ek⟩ := lk7 c_4 c_6; rcases (show k = 0 ∨ k = 1 ∨ k = 2 ∨ k = 3 ∨ k = 4 ∨ k = 5 ∨ k = 6 by omega) with rfl | rfl | rfl | rfl | rfl | rfl | rfl <;> first | exact ek | exact absurd ek (hd_8 _ (by omega))), by omega, rfl⟩, trivial⟩, va_S.rf.F ht⟩) t_nil d_T_look_114)
      · obtain ⟨sa_12, hs_12⟩ := hf.2.2.2.2.1 (198, "no such box or what") (List.mem_of_getElem? (i := 15) rfl)
        exact vx_throwS (own := "DangerTables") (names := ["java/lang/RuntimeException", "java/lang/Exception"]) (ic := 200) (cls := "java/lang/IndexOutOfBoundsException") hx hb hl0 hown (by decide) (by decide) (hts _ k_623) (hts _ k_21) hs_12 (atS_hat at_IOE hts hf.2.1) gd_IOE hUU hNN hS (hl.1.trans hml.symm) d_T_look_18 d_T_look_21 d_T_look_22 d_T_look_24 d_T_look_27 (fun x h => (hno x h).elim) (Nat.le_of_ble_eq_true rfl) (Nat.le_of_ble_eq_true rfl) (Nat.le_of_ble_eq_true rfl) (Nat.le_of_ble_eq_true rfl) hlocks (fun t ha h1 h2 => ⟨(), trivial, ⟨rfl, by rw [decide_eq_true (Int32.not_lt.mp c_6)]; simp⟩, h1, fun q hq _ => h2 q hq⟩) (fun z h => nomatch h) (Nat.le_of_ble_eq_true rfl) (Nat.le_of_ble_eq_true rfl)

