/-! METHODS OF THE FACE THAT WRITE AND MAY THROW -/
theorem ne_ar {w : Nat → Option va_E} {arr1 arr b : Nat} {y : Nat × List Value} (h : (arr1 = arr ∧ ∃ z, w arr = some (.inl z)) ∨ w arr1 = none) (hb : w b = some (.inr y)) : b ≠ arr1 := by
  intro e
  subst e
  rcases h with ⟨h1, z, h2⟩ | h2
  · rw [← h1, hb] at h2
    cases h2
  · rw [hb] at h2
    cases h2
theorem or_back {w : Nat → Option va_E} {q arr arr1 : Nat} {e : Nat × List Value} (h : (arr1 = arr ∧ ∃ z, va_up w q (some (.inr e)) arr = some (.inl z)) ∨ va_up w q (some (.inr e)) arr1 = none) : (arr1 = arr ∧ ∃ z, w arr = some (.inl z)) ∨ w arr1 = none := by
  rcases h with ⟨h1, z, h2⟩ | h2
  · refine Or.inl ⟨h1, z, ?_⟩
    by_cases hq : arr = q
    · rw [hq, va_up_self] at h2
      cases h2
    · rw [va_up_ne _ _ hq] at h2
      exact h2
  · refine Or.inr ?_
    by_cases hq : arr1 = q
    · rw [hq, va_up_self] at h2
      cases h2
    · rw [va_up_ne _ _ hq] at h2
      exact h2
theorem ne_ar2 {w : Nat → Option va_E} {arr1 arr b : Nat} {y : va_E} (h : (arr1 = arr ∧ ∃ z, w arr = some (.inl z)) ∨ w arr1 = none) (hb : w b = some y) (hne : b ≠ arr) : b ≠ arr1 := by
  intro e
  subst e
  rcases h with ⟨h1, -⟩ | h2
  · exact hne h1
  · rw [hb] at h2
    cases h2
set_option maxHeartbeats 4000000 in
set_option maxRecDepth 100000 in
theorem c_T_take (l : Launch) (hl0 : l.stackTraces = false) (g : GT) (sz : Nat) (w : Nat → Option va_E) (th tx ru : Nat) (rd : Int32) (go bo zo : Nat) (arr : Nat) (xs : List Nat) (bs : List BX) (u : Int32) (ht : w th = some (cT tx ru rd go bo zo)) (hL : isL g w bo arr xs) (hlen : xs.length = bs.length) (hbs : ∀ i a : Nat, xs[i]? = some a → ∃ b, bs[i]? = some b ∧ isBx g w a b) : vx_Met l y_T_take (.code y_T_take b_T_take 4 ((some .int)) :: GW) ({ frames := 6, cells := 1, slots := 6, locals := 82 }) (prW g sz [.ref th, .int u] w) (qI g sz w (fun r w1 => inL u xs.length = true ∧ ∃ (i qb pl : Nat) (bi : BX), u = nI i ∧ xs[i]? = some qb ∧ bs[i]? = some bi ∧ w qb = some (cX pl bi.2.1 bi.2.2.1 bi.2.2.2.1 bi.2.2.2.2) ∧ r = bi.2.1 ∧ w1 = va_up w qb (some (cX pl (-1) (-1) (-1) bi.2.2.2.2)))) (xQ (fun E => E = "java/lang/IllegalArgumentException" ∧ inL u xs.length = false)) 1 6 (gA w sz) := by
  refine vx_ofW (cc := b_T_take) (maxL := 4) (ret := (some .int)) (by decide) rfl ?_
  intro p e s m args below meth c s₁ B hml hno hv
  obtain ⟨rfl, hsz, hG, hw0⟩ := hv
  have hx := B.exec
  have hb := B.bytes
  have hr := B.returns
  have hts : ∀ w ∈ GW, w.before _ s = true := fun w h => atoms_spec (ws := .code y_T_take b_T_take 4 ((some .int)) :: GW) B.pre w (List.mem_cons_of_mem _ h)
  have hown : s.vm.findClass "DangerTables" = some m.cls := findClass_of_methodNamed B.named
  have hlocks := B.notSynchronized
  have hf := hG.here
  have hK := hf.1
  subst hsz
  have hw := hw0.self s.heap.size
  have hAB : ∀ q, gA w s.heap.size q → gB g q := fun q h => h.elim (fun z => z.elim (fun _ he => hw0.inA he)) (fun h => Nat.le_trans hG.1 h)
  have hA : ∀ q, s.heap.size ≤ q → gA w s.heap.size q := fun q h => Or.inr h
  have hS : va_S (gA w s.heap.size) s.heap s.heap [] := va_S.rf
  have hUU := (hf.2.2.2.2.2.2.2.2.1).narrow hAB
  have hNN := (hf.2.2.2.2.2.2.2.2.2).narrow hAB
  have hl := lv_entry ([.ref th, .int u]) (n := 4) (Nat.le_of_ble_eq_true rfl)
  rw [lg_entry_eq]
  generalize (lg_sl ([.ref th, .int u]) ++ List.replicate (4 - (lg_sl ([.ref th, .int u])).length) Slot.unset).toArray = ls at hl ⊢
  have hl : lv_has ls 4 [(0, .ref th), (1, .int u)] := hl
  obtain ⟨mc, cap, f, he, hcap, hc, hfi, hor⟩ := id hL
  refine lv_aload_n hx hb d_T_take_0 rfl (lv_at hl 0 rfl) ?_
  refine lv_iload_n hx hb d_T_take_1 rfl (lv_at hl 1 rfl) ?_
  refine wr_i (cV (As := [.int u]) (rest := []) (C := "DangerTables") 1 ⟨hx, hb, hml, hown, hts⟩ (c_T_isBox l g w th tx ru rd go bo zo arr xs u ht hL) k_192 k_189 k_1 k_191 kp_3 (by decide +kernel) ⟨Nat.le_of_ble_eq_true rfl, Nat.le_of_ble_eq_true rfl⟩ rfl rfl ⟨prR_blind _ _ _, hw.recv hK ht rfl, prR_at hG hAB hS hw⟩ rfl hl.1 rfl (Nat.le_of_ble_eq_true rfl) d_T_take_2 ⟨Nat.le_of_ble_eq_true rfl, Nat.le_of_ble_eq_true rfl⟩) (fun r_1 e_1 => ?_)
  refine lv_if_ne (tgt := 18) hx hb d_T_take_5 (by decide) (fun c_2 => ?_) (fun c_2 => ?_)
  · have q_2 := b2_t e_1 c_2
    obtain ⟨i, hi, rfl⟩ := inL_of q_2 (by omega)
    obtain ⟨qb, hq0⟩ : ∃ q, xs[i]? = some q := ⟨_, List.getElem?_eq_getElem hi⟩
    have hq := hfi i qb hq0
    obtain ⟨bb, hr0, hBb⟩ := hbs i qb hq0
    obtain ⟨pl, parr, ps, hxb, hLb, hPb⟩ := id hBb
    have ha := hor.resolve_right (fun z => by rw [z.1] at hi; exact absurd hi (Nat.not_lt_zero _))
    refine lv_aload_n hx hb d_T_take_18 rfl (lv_at hl 0 rfl) ?_
    refine ww_get (v := .ref bo) (C := R_T) (T := F_T) (N := 6) (ci := 0) hx hb hts i_T hown hK hw ht rfl 4 (by decide) (hts _ k_84) (fun _ h9 => h9) rfl d_T_take_19 ?_
    refine lv_iload_n hx hb d_T_take_22 rfl (lv_at hl 1 rfl) ?_
    refine wr_q (cV (As := [.int (nI i)]) (rest := []) (C := "java/util/ArrayList") 1 ⟨hx, hb, hml, hown, hts⟩ (c_AL_get l g w bo arr xs.length cap i qb mc f he ha hcap (by omega) hi hq) k_157 k_154 k_6 k_155 k_156 (by decide +kernel) ⟨Nat.le_of_ble_eq_true rfl, Nat.le_of_ble_eq_true rfl⟩ rfl rfl ⟨prR_blind _ _ _, hw.recv hK he rfl, prR_at hG hAB hS hw⟩ rfl hl.1 rfl (Nat.le_of_ble_eq_true rfl) d_T_take_23 ⟨Nat.le_of_ble_eq_true rfl, Nat.le_of_ble_eq_true rfl⟩) (fun r_3 e_3 => ?_)
    subst e_3
    refine va_castY (C := "DangerTables$Box") hx hb hown (hts _ k_193) (hf.2.1 _ x_873) (hw.recv hK hxb rfl) d_T_take_26 ?_
    refine lv_astore_n (lv' := [(2, .ref qb), (0, .ref th), (1, .int (nI i))]) hx hb d_T_take_29 rfl hl (by decide) rfl (fun ls hl => ?_)
    refine lv_aload_n hx hb d_T_take_30 rfl (lv_at hl 0 rfl) ?_
    refine ww_getN (v := .int bb.2.1) (C := R_X) (T := F_X) (N := 5) (ci := 1) hx hb hts i_X hown hK hw hxb rfl 1 (by decide) (va_Nw.use rfl (hf.2.1 _ x_420)) (fun _ h9 => h9) rfl d_T_take_31 ?_
    refine lv_istore_n (lv' := [(3, .int bb.2.1), (2, .ref qb), (0, .ref th), (1, .int (nI i))]) hx hb d_T_take_34 rfl hl (by decide) rfl (fun ls hl => ?_)
    refine lv_aload_n hx hb d_T_take_35 rfl (lv_at hl 1 rfl) ?_
    refine lv_iconst (v := -1) hx hb d_T_take_36 (by decide) ?_
    refine lv_iconst (v := -1) hx hb d_T_take_37 (by decide) ?_
    refine lv_iconst (v := -1) hx hb d_T_take_38 (by decide) ?_
    refine ww_v (cV (As := [.int (-1), .int (-1), .int (-1)]) (rest := []) (C := "DangerTables$Box") 3 ⟨hx, hb, hml, hown, hts⟩ (c_X_lay l g s.heap.size w qb pl bb.2.1 bb.2.2.1 bb.2.2.2.1 bb.2.2.2.2 (-1) (-1) (-1) hxb) k_599 k_596 k_19 k_597 k_598 (by decide +kernel) ⟨Nat.le_of_ble_eq_true rfl, Nat.le_of_ble_eq_true rfl⟩ rfl rfl ⟨prW_blind _ _ _ _, hw.recv hK hxb rfl, prW_at hG hAB hS hw⟩ rfl hl.1 rfl (Nat.le_of_ble_eq_true rfl) d_T_take_39 ⟨Nat.le_of_ble_eq_true rfl, Nat.le_of_ble_eq_true rfl⟩) hw hS hA (fun w_4 H locs e_4 hw hS hz_4 hk_4 hg_4 => ?_)
    have ew_4 := e_4
    refine lv_iload_n hx hb d_T_take_42 rfl (lv_at hl 0 rfl) ?_
    refine W.widen (k := 1) (n := 6) (Nat.le_of_ble_eq_true rfl) (Nat.le_of_ble_eq_true rfl) ?_
    exact vx_ret (W.iret (v := bb.2.1) hx hb hr (fun t ht hW => ⟨⟨bb.2.1, w_4, rfl, ⟨q_2, i, qb, pl, bb, rfl, hq0, hr0, hxb, rfl, ew_4⟩, ww_t ht hw⟩, hS.F ht⟩) hS.2.2 d_T_take_43)
  · have q_2 := b2_f e_1 c_2
    obtain ⟨sa_5, hs_5⟩ := hf.2.2.2.2.1 (184, "no such box") (List.mem_of_getElem? (i := 14) rfl)
    exact vx_throwS (own := "DangerTables") (names := ["java/lang/RuntimeException", "java/lang/Exception"]) (ic := 68) (cls := "java/lang/IllegalArgumentException") hx hb hl0 hown (by decide) (by decide) (hts _ k_218) (hts _ k_12) hs_5 (atS_hat at_IAE hts hf.2.1) gd_IAE hUU hNN hS (hl.1.trans hml.symm) d_T_take_8 d_T_take_11 d_T_take_12 d_T_take_14 d_T_take_17 (fun x h => (hno x h).elim) (Nat.le_of_ble_eq_true rfl) (Nat.le_of_ble_eq_true rfl) (Nat.le_of_ble_eq_true rfl) (Nat.le_of_ble_eq_true rfl) hlocks (fun t ha h1 h2 => ⟨(), trivial, ⟨rfl, q_2⟩, h1, fun q hq _ => h2 q hq⟩) (fun z h => nomatch h) (Nat.le_of_ble_eq_true rfl) (Nat.le_of_ble_eq_true rfl)

set_option maxHeartbeats 4000000 in
set_option maxRecDepth 100000 in
theorem c_T_put (l : Launch) (hl0 : l.stackTraces = false) (g : GT) (sz : Nat) (w : Nat → Option va_E) (th tx ru : Nat) (rd : Int32) (go bo zo : Nat) (rf : Nat → Int32) (arr : Nat) (xs : List Nat) (bs : List BX) (fz : Nat → Option Nat) (mz : Nat → Nat → Int32) (u v x y : Int32) (ht : w th = some (cT tx ru rd go bo zo)) (hru : w ru = some (cA g 45 rf)) (hL : isL g w bo arr xs) (hlen : xs.length = bs.length) (hbs : ∀ i a : Nat, xs[i]? = some a → ∃ b, bs[i]? = some b ∧ isBx g w a b) (hz : w zo = some (cZ g fz)) (hzr : ∀ k : Nat, k < 4 → ∃ q : Nat, fz k = some q ∧ w q = some (cA g 10 (mz k))) (hrf : okR rf) (hos : ∀ b ∈ bs, ∀ r ∈ b.1, okP r) : vx_Met l y_T_put (.code y_T_put b_T_put 7 ((some .int)) :: GW) ({ frames := 7, cells := 1, slots := 6, locals := 163 }) (prW g sz [.ref th, .int u, .int v, .int x, .int y] w) (qI g sz w (fun r w1 => (isZn u && inL v xs.length && isSl x y) = true ∧ ∃ (zi i qb pl : Nat) (bi : BX), u = nI zi ∧ zi < 4 ∧ v = nI i ∧ xs[i]? = some qb ∧ bs[i]? = some bi ∧ w qb = some (cX pl bi.2.1 bi.2.2.1 bi.2.2.2.1 bi.2.2.2.2) ∧ bi.2.1 = -1 ∧ r = fbB rf (mz zi) bs bi u x y ∧ ((r = 0 ∧ w1 = va_up w qb (some (cX pl u x y bi.2.2.2.2))) ∨ (¬ r = 0 ∧ w1 = w)))) (xQ (fun E => (E = "java/lang/IllegalArgumentException" ∧ (isZn u && inL v xs.length && isSl x y) = false) ∨ (E = "java/lang/IllegalStateException" ∧ (isZn u && inL v xs.length && isSl x y) = true ∧ ∃ (i : Nat) (bi : BX), v = nI i ∧ bs[i]? = some bi ∧ ¬ bi.2.1 = -1))) 1 6 (gA w sz) := by
  refine vx_ofW (cc := b_T_put) (maxL := 7) (ret := (some .int)) (by decide) rfl ?_
  intro p e s m args below meth c s₁ B hml hno hv
  obtain ⟨rfl, hsz, hG, hw0⟩ := hv
  have hx := B.exec
  have hb := B.bytes
  have hr := B.returns
  have hts : ∀ w ∈ GW, w.before _ s = true := fun w h => atoms_spec (ws := .code y_T_put b_T_put 7 ((some .int)) :: GW) B.pre w (List.mem_cons_of_mem _ h)
  have hown : s.vm.findClass "DangerTables" = some m.cls := findClass_of_methodNamed B.named
  have hlocks := B.notSynchronized
  have hf := hG.here
  have hK := hf.1
  subst hsz
  have hw := hw0.self s.heap.size
  have hAB : ∀ q, gA w s.heap.size q → gB g q := fun q h => h.elim (fun z => z.elim (fun _ he => hw0.inA he)) (fun h => Nat.le_trans hG.1 h)
  have hA : ∀ q, s.heap.size ≤ q → gA w s.heap.size q := fun q h => Or.inr h
  have hS : va_S (gA w s.heap.size) s.heap s.heap [] := va_S.rf
  have hUU := (hf.2.2.2.2.2.2.2.2.1).narrow hAB
  have hNN := (hf.2.2.2.2.2.2.2.2.2).narrow hAB
  have hl := lv_entry ([.ref th, .int u, .int v, .int x, .int y]) (n := 7) (Nat.le_of_ble_eq_true rfl)
  rw [lg_entry_eq]
  generalize (lg_sl ([.ref th, .int u, .int v, .int x, .int y]) ++ List.replicate (7 - (lg_sl ([.ref th, .int u, .int v, .int x, .int y])).length) Slot.unset).toArray = ls at hl ⊢
  have hl : lv_has ls 7 [(0, .ref th), (1, .int u), (2, .int v), (3, .int x), (4, .int y)] := hl
  obtain ⟨mc, cap, f, he, hcap, hc, hfi, hor⟩ := id hL
  refine lv_iload_n hx hb d_T_put_0 rfl (lv_at hl 1 rfl) ?_
  refine wr_i (cS (As := [.int u]) (rest := []) 1 ⟨hx, hb, hml, hown, hts⟩ (c_T_isZone l u) k_184 k_182 k_1 k_183 (by decide +kernel) ⟨Nat.le_of_ble_eq_true rfl, Nat.le_of_ble_eq_true rfl⟩ rfl rfl ⟨prN_blind _, fun _ _ _ => ⟨rfl, trivial⟩⟩ rfl hl.1 rfl (Nat.le_of_ble_eq_true rfl) d_T_put_1 ⟨Nat.le_of_ble_eq_true rfl, Nat.le_of_ble_eq_true rfl⟩) (fun r_1 e_1 => ?_)
  refine lv_if_eq (tgt := 24) hx hb d_T_put_4 (by decide) (fun c_2 => ?_) (fun c_2 => ?_)
  · have q_2 := b2_f e_1 c_2
    obtain ⟨sa_3, hs_3⟩ := hf.2.2.2.2.1 (172, "no such zone, box or slot") (List.mem_of_getElem? (i := 12) rfl)
    exact vx_throwS (own := "DangerTables") (names := ["java/lang/RuntimeException", "java/lang/Exception"]) (ic := 68) (cls := "java/lang/IllegalArgumentException") hx hb hl0 hown (by decide) (by decide) (hts _ k_218) (hts _ k_12) hs_3 (atS_hat at_IAE hts hf.2.1) gd_IAE hUU hNN hS (hl.1.trans hml.symm) d_T_put_24 d_T_put_27 d_T_put_28 d_T_put_30 d_T_put_33 (fun x h => (hno x h).elim) (Nat.le_of_ble_eq_true rfl) (Nat.le_of_ble_eq_true rfl) (Nat.le_of_ble_eq_true rfl) (Nat.le_of_ble_eq_true rfl) hlocks (fun t ha h1 h2 => ⟨(), trivial, Or.inl ⟨rfl, by simp [q_2]⟩, h1, fun q hq _ => h2 q hq⟩) (fun z h => nomatch h) (Nat.le_of_ble_eq_true rfl) (Nat.le_of_ble_eq_true rfl)
  · have q_2 := b2_t e_1 c_2
    refine lv_aload_n hx hb d_T_put_7 rfl (lv_at hl 0 rfl) ?_
    refine lv_iload_n hx hb d_T_put_8 rfl (lv_at hl 2 rfl) ?_
    refine wr_i (cV (As := [.int v]) (rest := []) (C := "DangerTables") 1 ⟨hx, hb, hml, hown, hts⟩ (c_T_isBox l g w th tx ru rd go bo zo arr xs v ht hL) k_192 k_189 k_1 k_191 kp_3 (by decide +kernel) ⟨Nat.le_of_ble_eq_true rfl, Nat.le_of_ble_eq_true rfl⟩ rfl rfl ⟨prR_blind _ _ _, hw.recv hK ht rfl, prR_at hG hAB hS hw⟩ rfl hl.1 rfl (Nat.le_of_ble_eq_true rfl) d_T_put_9 ⟨Nat.le_of_ble_eq_true rfl, Nat.le_of_ble_eq_true rfl⟩) (fun r_4 e_4 => ?_)
    refine lv_if_eq (tgt := 24) hx hb d_T_put_12 (by decide) (fun c_5 => ?_) (fun c_5 => ?_)
    · have q_5 := b2_f e_4 c_5
      obtain ⟨sa_6, hs_6⟩ := hf.2.2.2.2.1 (172, "no such zone, box or slot") (List.mem_of_getElem? (i := 12) rfl)
      exact vx_throwS (own := "DangerTables") (names := ["java/lang/RuntimeException", "java/lang/Exception"]) (ic := 68) (cls := "java/lang/IllegalArgumentException") hx hb hl0 hown (by decide) (by decide) (hts _ k_218) (hts _ k_12) hs_6 (atS_hat at_IAE hts hf.2.1) gd_IAE hUU hNN hS (hl.1.trans hml.symm) d_T_put_24 d_T_put_27 d_T_put_28 d_T_put_30 d_T_put_33 (fun x h => (hno x h).elim) (Nat.le_of_ble_eq_true rfl) (Nat.le_of_ble_eq_true rfl) (Nat.le_of_ble_eq_true rfl) (Nat.le_of_ble_eq_true rfl) hlocks (fun t ha h1 h2 => ⟨(), trivial, Or.inl ⟨rfl, by simp [q_2, q_5]⟩, h1, fun q hq _ => h2 q hq⟩) (fun z h => nomatch h) (Nat.le_of_ble_eq_true rfl) (Nat.le_of_ble_eq_true rfl)
    · have q_5 := b2_t e_4 c_5
      refine lv_iload_n hx hb d_T_put_15 rfl (lv_at hl 3 rfl) ?_
      refine lv_iload hx hb d_T_put_16 (lv_at hl 4 rfl) ?_
      refine wr_i (cS (As := [.int x, .int y]) (rest := []) 2 ⟨hx, hb, hml, hown, hts⟩ (c_T_isSlot l x y) k_555 k_553 k_1 k_554 (by decide +kernel) ⟨Nat.le_of_ble_eq_true rfl, Nat.le_of_ble_eq_true rfl⟩ rfl rfl ⟨prN_blind _, fun _ _ _ => ⟨rfl, trivial⟩⟩ rfl hl.1 rfl (Nat.le_of_ble_eq_true rfl) d_T_put_18 ⟨Nat.le_of_ble_eq_true rfl, Nat.le_of_ble_eq_true rfl⟩) (fun r_7 e_7 => ?_)
      refine lv_if_ne (tgt := 34) hx hb d_T_put_21 (by decide) (fun c_8 => ?_) (fun c_8 => ?_)
      · have q_8 := b2_t e_7 c_8
        obtain ⟨zi, hzi, rfl⟩ := isZn_of q_2
        obtain ⟨i, hi, rfl⟩ := inL_of q_5 (by omega)
        obtain ⟨qb, hq0⟩ : ∃ q, xs[i]? = some q := ⟨_, List.getElem?_eq_getElem hi⟩
        have hq := hfi i qb hq0
        obtain ⟨bb, hr0, hBb⟩ := hbs i qb hq0
        obtain ⟨pl, parr, ps, hxb, hLb, hPb⟩ := id hBb
        have ha := hor.resolve_right (fun z => by rw [z.1] at hi; exact absurd hi (Nat.not_lt_zero _))
        refine lv_aload_n hx hb d_T_put_34 rfl (lv_at hl 0 rfl) ?_
        refine ww_get (v := .ref bo) (C := R_T) (T := F_T) (N := 6) (ci := 0) hx hb hts i_T hown hK hw ht rfl 4 (by decide) (hts _ k_84) (fun _ h9 => h9) rfl d_T_put_35 ?_
        refine lv_iload_n hx hb d_T_put_38 rfl (lv_at hl 2 rfl) ?_
        refine wr_q (cV (As := [.int (nI i)]) (rest := []) (C := "java/util/ArrayList") 1 ⟨hx, hb, hml, hown, hts⟩ (c_AL_get l g w bo arr xs.length cap i qb mc f he ha hcap (by omega) hi hq) k_157 k_154 k_6 k_155 k_156 (by decide +kernel) ⟨Nat.le_of_ble_eq_true rfl, Nat.le_of_ble_eq_true rfl⟩ rfl rfl ⟨prR_blind _ _ _, hw.recv hK he rfl, prR_at hG hAB hS hw⟩ rfl hl.1 rfl (Nat.le_of_ble_eq_true rfl) d_T_put_39 ⟨Nat.le_of_ble_eq_true rfl, Nat.le_of_ble_eq_true rfl⟩) (fun r_9 e_9 => ?_)
        subst e_9
        refine va_castY (C := "DangerTables$Box") hx hb hown (hts _ k_193) (hf.2.1 _ x_873) (hw.recv hK hxb rfl) d_T_put_42 ?_
        refine lv_astore (lv' := [(5, .ref qb), (0, .ref th), (1, .int (nI zi)), (2, .int (nI i)), (3, .int x), (4, .int y)]) hx hb d_T_put_45 hl (by decide) rfl (fun ls hl => ?_)
        refine lv_aload hx hb d_T_put_47 (lv_at hl 0 rfl) ?_
        refine wr_i (cV (As := []) (rest := []) (C := "DangerTables$Box") 0 ⟨hx, hb, hml, hown, hts⟩ (c_X_lies l g w qb pl bb.2.1 bb.2.2.1 bb.2.2.2.1 bb.2.2.2.2 hxb) k_209 k_206 k_19 k_207 k_208 (by decide +kernel) ⟨Nat.le_of_ble_eq_true rfl, Nat.le_of_ble_eq_true rfl⟩ rfl rfl ⟨prR_blind _ _ _, hw.recv hK hxb rfl, prR_at hG hAB hS hw⟩ rfl hl.1 rfl (Nat.le_of_ble_eq_true rfl) d_T_put_49 ⟨Nat.le_of_ble_eq_true rfl, Nat.le_of_ble_eq_true rfl⟩) (fun r_10 e_10 => ?_)
        refine lv_if_eq (tgt := 65) hx hb d_T_put_52 (by decide) (fun c_11 => ?_) (fun c_11 => ?_)
        · have q_11 := b2_f e_10 c_11
          have hlie : bb.2.1 = -1 := by simpa using q_11
          refine lv_aload_n hx hb d_T_put_65 rfl (lv_at hl 1 rfl) ?_
          refine lv_aload hx hb d_T_put_66 (lv_at hl 0 rfl) ?_
          refine lv_iload_n hx hb d_T_put_68 rfl (lv_at hl 2 rfl) ?_
          refine lv_iload_n hx hb d_T_put_69 rfl (lv_at hl 4 rfl) ?_
          refine lv_iload hx hb d_T_put_70 (lv_at hl 5 rfl) ?_
          refine wr_i (cV (As := [.ref qb, .int (nI zi), .int x, .int y]) (rest := []) (C := "DangerTables") 4 ⟨hx, hb, hml, hown, hts⟩ (c_T_firstBar l g w th tx ru rd go bo zo rf qb bb arr xs bs x y fz mz zi ht hru hrf hBb (hos _ (List.mem_of_getElem? hr0)) hL hlen hbs hos hz hzr hzi) k_561 k_558 k_1 k_560 kp_14 (by decide +kernel) ⟨Nat.le_of_ble_eq_true rfl, Nat.le_of_ble_eq_true rfl⟩ rfl rfl ⟨prR_blind _ _ _, hw.recv hK ht rfl, prR_at hG hAB hS hw⟩ rfl hl.1 rfl (Nat.le_of_ble_eq_true rfl) d_T_put_72 ⟨Nat.le_of_ble_eq_true rfl, Nat.le_of_ble_eq_true rfl⟩) (fun r_12 e_12 => ?_)
          refine lv_istore (lv' := [(6, .int r_12), (5, .ref qb), (0, .ref th), (1, .int (nI zi)), (2, .int (nI i)), (3, .int x), (4, .int y)]) hx hb d_T_put_75 hl (by decide) rfl (fun ls hl => ?_)
          refine lv_iload hx hb d_T_put_77 (lv_at hl 0 rfl) ?_
          refine lv_if_ne (tgt := 91) hx hb d_T_put_79 (by decide) (fun c_13 => ?_) (fun c_13 => ?_)
          · refine lv_iload hx hb d_T_put_91 (lv_at hl 0 rfl) ?_
            refine W.widen (k := 1) (n := 6) (Nat.le_of_ble_eq_true rfl) (Nat.le_of_ble_eq_true rfl) ?_
            exact vx_ret (W.iret (v := r_12) hx hb hr (fun t ht hW => ⟨⟨r_12, w, rfl, ⟨by rw [q_2, q_5, q_8]; rfl, zi, i, qb, pl, bb, rfl, hzi, rfl, hq0, hr0, hxb, hlie, e_12, Or.inr ⟨c_13, rfl⟩⟩, ww_t ht hw⟩, hS.F ht⟩) hS.2.2 d_T_put_93)
          · refine lv_aload hx hb d_T_put_82 (lv_at hl 1 rfl) ?_
            refine lv_iload_n hx hb d_T_put_84 rfl (lv_at hl 3 rfl) ?_
            refine lv_iload_n hx hb d_T_put_85 rfl (lv_at hl 5 rfl) ?_
            refine lv_iload hx hb d_T_put_86 (lv_at hl 6 rfl) ?_
            refine ww_v (cV (As := [.int (nI zi), .int x, .int y]) (rest := []) (C := "DangerTables$Box") 3 ⟨hx, hb, hml, hown, hts⟩ (c_X_lay l g s.heap.size w qb pl bb.2.1 bb.2.2.1 bb.2.2.2.1 bb.2.2.2.2 (nI zi) x y hxb) k_599 k_596 k_19 k_597 k_598 (by decide +kernel) ⟨Nat.le_of_ble_eq_true rfl, Nat.le_of_ble_eq_true rfl⟩ rfl rfl ⟨prW_blind _ _ _ _, hw.recv hK hxb rfl, prW_at hG hAB hS hw⟩ rfl hl.1 rfl (Nat.le_of_ble_eq_true rfl) d_T_put_88 ⟨Nat.le_of_ble_eq_true rfl, Nat.le_of_ble_eq_true rfl⟩) hw hS hA (fun w_14 H locs e_14 hw hS hz_14 hk_14 hg_14 => ?_)
            have ew_14 := e_14
            refine lv_iload hx hb d_T_put_91 (lv_at hl 0 rfl) ?_
            refine W.widen (k := 1) (n := 6) (Nat.le_of_ble_eq_true rfl) (Nat.le_of_ble_eq_true rfl) ?_
            exact vx_ret (W.iret (v := r_12) hx hb hr (fun t ht hW => ⟨⟨r_12, w_14, rfl, ⟨by rw [q_2, q_5, q_8]; rfl, zi, i, qb, pl, bb, rfl, hzi, rfl, hq0, hr0, hxb, hlie, e_12, Or.inl ⟨c_13, ew_14⟩⟩, ww_t ht hw⟩, hS.F ht⟩) hS.2.2 d_T_put_93)
        · have q_11 := b2_t e_10 c_11
          obtain ⟨sa_15, hs_15⟩ := hf.2.2.2.2.1 (174, "the box lies somewhere") (List.mem_of_getElem? (i := 13) rfl)
          exact vx_throwS (own := "DangerTables") (names := ["java/lang/RuntimeException", "java/lang/Exception"]) (ic := 90) (cls := "java/lang/IllegalStateException") hx hb hl0 hown (by decide) (by decide) (hts _ k_299) (hts _ k_13) hs_15 (atS_hat at_ISE hts hf.2.1) gd_ISE hUU hNN hS (hl.1.trans hml.symm) d_T_put_55 d_T_put_58 d_T_put_59 d_T_put_61 d_T_put_64 (fun x h => (hno x h).elim) (Nat.le_of_ble_eq_true rfl) (Nat.le_of_ble_eq_true rfl) (Nat.le_of_ble_eq_true rfl) (Nat.le_of_ble_eq_true rfl) hlocks (fun t ha h1 h2 => ⟨(), trivial, Or.inr ⟨rfl, by rw [q_2, q_5, q_8]; rfl, i, bb, rfl, hr0, by simpa using q_11⟩, h1, fun q hq _ => h2 q hq⟩) (fun z h => nomatch h) (Nat.le_of_ble_eq_true rfl) (Nat.le_of_ble_eq_true rfl)
      · have q_8 := b2_f e_7 c_8
        obtain ⟨sa_16, hs_16⟩ := hf.2.2.2.2.1 (172, "no such zone, box or slot") (List.mem_of_getElem? (i := 12) rfl)
        exact vx_throwS (own := "DangerTables") (names := ["java/lang/RuntimeException", "java/lang/Exception"]) (ic := 68) (cls := "java/lang/IllegalArgumentException") hx hb hl0 hown (by decide) (by decide) (hts _ k_218) (hts _ k_12) hs_16 (atS_hat at_IAE hts hf.2.1) gd_IAE hUU hNN hS (hl.1.trans hml.symm) d_T_put_24 d_T_put_27 d_T_put_28 d_T_put_30 d_T_put_33 (fun x h => (hno x h).elim) (Nat.le_of_ble_eq_true rfl) (Nat.le_of_ble_eq_true rfl) (Nat.le_of_ble_eq_true rfl) (Nat.le_of_ble_eq_true rfl) hlocks (fun t ha h1 h2 => ⟨(), trivial, Or.inl ⟨rfl, by simp [q_2, q_5, q_8]⟩, h1, fun q hq _ => h2 q hq⟩) (fun z h => nomatch h) (Nat.le_of_ble_eq_true rfl) (Nat.le_of_ble_eq_true rfl)

set_option maxHeartbeats 4000000 in
set_option maxRecDepth 100000 in
theorem c_T_good (l : Launch) (hl0 : l.stackTraces = false) (g : GT) (sz : Nat) (w : Nat → Option va_E) (th tx ru : Nat) (rd : Int32) (go bo zo : Nat) (garr : Nat) (gxs : List Nat) (gd : Nat → GD) (u v x y z t : Int32) (ht : w th = some (cT tx ru rd go bo zo)) (hGL : isL g w go garr gxs) (hgs : ∀ i a : Nat, gxs[i]? = some a → w a = some (cGd (gd i))) : vx_Met l y_T_good (.code y_T_good b_T_good 7 ((some .int)) :: GW) ({ frames := 7, cells := 2, slots := 35, locals := 154 }) (prW g sz [.ref th, .int u, .int v, .int x, .int y, .int z, .int t] w) (qI g sz w (fun r w1 => (isCls u && isSd v u && (inR x 1 3 && inR y 0 1000)) = true ∧ gxs.length < 16 ∧ r = nI gxs.length ∧ ∃ q arr1 : Nat, w q = none ∧ isL g w1 go arr1 (gxs ++ [q]) ∧ w1 q = some (cG u v y (fieI x z t) 0) ∧ ((arr1 = garr ∧ ∃ z, w garr = some (.inl z)) ∨ w arr1 = none) ∧ ∀ (b : Nat) (e : va_E), w b = some e → b ≠ go → b ≠ arr1 → w1 b = w b)) (xQ (fun E => (E = "java/lang/IllegalArgumentException" ∧ (isCls u && isSd v u && (inR x 1 3 && inR y 0 1000)) = false) ∨ (E = "java/lang/IllegalStateException" ∧ (isCls u && isSd v u && (inR x 1 3 && inR y 0 1000)) = true ∧ ¬ gxs.length < 16))) 2 35 (gA w sz) := by
  refine vx_ofW (cc := b_T_good) (maxL := 7) (ret := (some .int)) (by decide) rfl ?_
  intro p e s m args below meth c s₁ B hml hno hv
  obtain ⟨rfl, hsz, hG, hw0⟩ := hv
  have hx := B.exec
  have hb := B.bytes
  have hr := B.returns
  have hts : ∀ w ∈ GW, w.before _ s = true := fun w h => atoms_spec (ws := .code y_T_good b_T_good 7 ((some .int)) :: GW) B.pre w (List.mem_cons_of_mem _ h)
  have hown : s.vm.findClass "DangerTables" = some m.cls := findClass_of_methodNamed B.named
  have hlocks := B.notSynchronized
  have hf := hG.here
  have hK := hf.1
  subst hsz
  have hw := hw0.self s.heap.size
  have hAB : ∀ q, gA w s.heap.size q → gB g q := fun q h => h.elim (fun z => z.elim (fun _ he => hw0.inA he)) (fun h => Nat.le_trans hG.1 h)
  have hA : ∀ q, s.heap.size ≤ q → gA w s.heap.size q := fun q h => Or.inr h
  have hS : va_S (gA w s.heap.size) s.heap s.heap [] := va_S.rf
  have hUU := (hf.2.2.2.2.2.2.2.2.1).narrow hAB
  have hNN := (hf.2.2.2.2.2.2.2.2.2).narrow hAB
  have hl := lv_entry ([.ref th, .int u, .int v, .int x, .int y, .int z, .int t]) (n := 7) (Nat.le_of_ble_eq_true rfl)
  rw [lg_entry_eq]
  generalize (lg_sl ([.ref th, .int u, .int v, .int x, .int y, .int z, .int t]) ++ List.replicate (7 - (lg_sl ([.ref th, .int u, .int v, .int x, .int y, .int z, .int t])).length) Slot.unset).toArray = ls at hl ⊢
  have hl : lv_has ls 7 [(0, .ref th), (1, .int u), (2, .int v), (3, .int x), (4, .int y), (5, .int z), (6, .int t)] := hl
  obtain ⟨mcg, capg, fg, heg, hcapg, hcg, hfig, horg⟩ := id hGL
  refine lv_iload_n hx hb d_T_good_0 rfl (lv_at hl 1 rfl) ?_
  refine wr_i (cS (As := [.int u]) (rest := []) 1 ⟨hx, hb, hml, hown, hts⟩ (c_T_isClass l u) k_126 k_153 k_1 k_125 (by decide +kernel) ⟨Nat.le_of_ble_eq_true rfl, Nat.le_of_ble_eq_true rfl⟩ rfl rfl ⟨prN_blind _, fun _ _ _ => ⟨rfl, trivial⟩⟩ rfl hl.1 rfl (Nat.le_of_ble_eq_true rfl) d_T_good_1 ⟨Nat.le_of_ble_eq_true rfl, Nat.le_of_ble_eq_true rfl⟩) (fun r_1 e_1 => ?_)
  refine lv_if_eq (tgt := 15) hx hb d_T_good_4 (by decide) (fun c_2 => ?_) (fun c_2 => ?_)
  · have q_2 := b2_f e_1 c_2
    obtain ⟨sa_3, hs_3⟩ := hf.2.2.2.2.1 (79, "no such class or side class") (List.mem_of_getElem? (i := 1) rfl)
    exact vx_throwS (own := "DangerTables") (names := ["java/lang/RuntimeException", "java/lang/Exception"]) (ic := 68) (cls := "java/lang/IllegalArgumentException") hx hb hl0 hown (by decide) (by decide) (hts _ k_218) (hts _ k_12) hs_3 (atS_hat at_IAE hts hf.2.1) gd_IAE hUU hNN hS (hl.1.trans hml.symm) d_T_good_15 d_T_good_18 d_T_good_19 d_T_good_21 d_T_good_24 (fun x h => (hno x h).elim) (Nat.le_of_ble_eq_true rfl) (Nat.le_of_ble_eq_true rfl) (Nat.le_of_ble_eq_true rfl) (Nat.le_of_ble_eq_true rfl) hlocks (fun t ha h1 h2 => ⟨(), trivial, Or.inl ⟨rfl, by simp [q_2]⟩, h1, fun q hq _ => h2 q hq⟩) (fun z h => nomatch h) (Nat.le_of_ble_eq_true rfl) (Nat.le_of_ble_eq_true rfl)
  · have q_2 := b2_t e_1 c_2
    refine lv_iload_n hx hb d_T_good_7 rfl (lv_at hl 2 rfl) ?_
    refine lv_iload_n hx hb d_T_good_8 rfl (lv_at hl 1 rfl) ?_
    refine wr_i (cS (As := [.int v, .int u]) (rest := []) 2 ⟨hx, hb, hml, hown, hts⟩ (c_T_isSide l v u) k_296 k_294 k_1 k_295 (by decide +kernel) ⟨Nat.le_of_ble_eq_true rfl, Nat.le_of_ble_eq_true rfl⟩ rfl rfl ⟨prN_blind _, fun _ _ _ => ⟨rfl, trivial⟩⟩ rfl hl.1 rfl (Nat.le_of_ble_eq_true rfl) d_T_good_9 ⟨Nat.le_of_ble_eq_true rfl, Nat.le_of_ble_eq_true rfl⟩) (fun r_4 e_4 => ?_)
    refine lv_if_ne (tgt := 25) hx hb d_T_good_12 (by decide) (fun c_5 => ?_) (fun c_5 => ?_)
    · have q_5 := b2_t e_4 c_5
      refine lv_iload_n hx hb d_T_good_25 rfl (lv_at hl 3 rfl) ?_
      refine lv_iconst (v := 1) hx hb d_T_good_26 (by decide) ?_
      refine lv_icmp_lt (tgt := 48) hx hb d_T_good_27 (by decide) (fun c_6 => ?_) (fun c_6 => ?_)
      · obtain ⟨sa_7, hs_7⟩ := hf.2.2.2.2.1 (81, "no such group or limit") (List.mem_of_getElem? (i := 2) rfl)
        exact vx_throwS (own := "DangerTables") (names := ["java/lang/RuntimeException", "java/lang/Exception"]) (ic := 68) (cls := "java/lang/IllegalArgumentException") hx hb hl0 hown (by decide) (by decide) (hts _ k_218) (hts _ k_12) hs_7 (atS_hat at_IAE hts hf.2.1) gd_IAE hUU hNN hS (hl.1.trans hml.symm) d_T_good_48 d_T_good_51 d_T_good_52 d_T_good_54 d_T_good_57 (fun x h => (hno x h).elim) (Nat.le_of_ble_eq_true rfl) (Nat.le_of_ble_eq_true rfl) (Nat.le_of_ble_eq_true rfl) (Nat.le_of_ble_eq_true rfl) hlocks (fun t ha h1 h2 => ⟨(), trivial, Or.inl ⟨rfl, by unfold inR; rw [decide_eq_true c_6]; simp⟩, h1, fun q hq _ => h2 q hq⟩) (fun z h => nomatch h) (Nat.le_of_ble_eq_true rfl) (Nat.le_of_ble_eq_true rfl)
      · refine lv_iload_n hx hb d_T_good_30 rfl (lv_at hl 3 rfl) ?_
        refine lv_iconst (v := 3) hx hb d_T_good_31 (by decide) ?_
        refine lv_icmp_gt (tgt := 48) hx hb d_T_good_32 (by decide) (fun c_8 => ?_) (fun c_8 => ?_)
        · obtain ⟨sa_9, hs_9⟩ := hf.2.2.2.2.1 (81, "no such group or limit") (List.mem_of_getElem? (i := 2) rfl)
          exact vx_throwS (own := "DangerTables") (names := ["java/lang/RuntimeException", "java/lang/Exception"]) (ic := 68) (cls := "java/lang/IllegalArgumentException") hx hb hl0 hown (by decide) (by decide) (hts _ k_218) (hts _ k_12) hs_9 (atS_hat at_IAE hts hf.2.1) gd_IAE hUU hNN hS (hl.1.trans hml.symm) d_T_good_48 d_T_good_51 d_T_good_52 d_T_good_54 d_T_good_57 (fun x h => (hno x h).elim) (Nat.le_of_ble_eq_true rfl) (Nat.le_of_ble_eq_true rfl) (Nat.le_of_ble_eq_true rfl) (Nat.le_of_ble_eq_true rfl) hlocks (fun t ha h1 h2 => ⟨(), trivial, Or.inl ⟨rfl, by unfold inR; rw [decide_eq_true c_8]; simp⟩, h1, fun q hq _ => h2 q hq⟩) (fun z h => nomatch h) (Nat.le_of_ble_eq_true rfl) (Nat.le_of_ble_eq_true rfl)
        · refine lv_iload hx hb d_T_good_35 (lv_at hl 4 rfl) ?_
          refine lv_if_lt (tgt := 48) hx hb d_T_good_37 (by decide) (fun c_10 => ?_) (fun c_10 => ?_)
          · obtain ⟨sa_11, hs_11⟩ := hf.2.2.2.2.1 (81, "no such group or limit") (List.mem_of_getElem? (i := 2) rfl)
            exact vx_throwS (own := "DangerTables") (names := ["java/lang/RuntimeException", "java/lang/Exception"]) (ic := 68) (cls := "java/lang/IllegalArgumentException") hx hb hl0 hown (by decide) (by decide) (hts _ k_218) (hts _ k_12) hs_11 (atS_hat at_IAE hts hf.2.1) gd_IAE hUU hNN hS (hl.1.trans hml.symm) d_T_good_48 d_T_good_51 d_T_good_52 d_T_good_54 d_T_good_57 (fun x h => (hno x h).elim) (Nat.le_of_ble_eq_true rfl) (Nat.le_of_ble_eq_true rfl) (Nat.le_of_ble_eq_true rfl) (Nat.le_of_ble_eq_true rfl) hlocks (fun t ha h1 h2 => ⟨(), trivial, Or.inl ⟨rfl, by unfold inR; rw [decide_eq_true c_10]; simp⟩, h1, fun q hq _ => h2 q hq⟩) (fun z h => nomatch h) (Nat.le_of_ble_eq_true rfl) (Nat.le_of_ble_eq_true rfl)
          · refine lv_iload hx hb d_T_good_40 (lv_at hl 4 rfl) ?_
            refine lv_sipush (v := 1000) hx hb d_T_good_42 (by decide) ?_
            refine lv_icmp_le (tgt := 58) hx hb d_T_good_45 (by decide) (fun c_12 => ?_) (fun c_12 => ?_)
            · refine lv_aload_n hx hb d_T_good_58 rfl (lv_at hl 0 rfl) ?_
              refine ww_get (v := .ref go) (C := R_T) (T := F_T) (N := 6) (ci := 0) hx hb hts i_T hown hK hw ht rfl 3 (by decide) (hts _ k_83) (fun _ h9 => h9) rfl d_T_good_59 ?_
              refine wr_i (cV (As := []) (rest := []) (C := "java/util/ArrayList") 0 ⟨hx, hb, hml, hown, hts⟩ (c_AL_size l g w go garr mcg (nI gxs.length) heg) k_152 k_149 k_6 k_150 k_151 (by decide +kernel) ⟨Nat.le_of_ble_eq_true rfl, Nat.le_of_ble_eq_true rfl⟩ rfl rfl ⟨prR_blind _ _ _, hw.recv hK heg rfl, prR_at hG hAB hS hw⟩ rfl hl.1 rfl (Nat.le_of_ble_eq_true rfl) d_T_good_62 ⟨Nat.le_of_ble_eq_true rfl, Nat.le_of_ble_eq_true rfl⟩) (fun r_13 e_13 => ?_)
              refine lv_bipush (v := 16) hx hb d_T_good_65 (by decide) ?_
              refine lv_icmp_lt (tgt := 80) hx hb d_T_good_67 (by decide) (fun c_14 => ?_) (fun c_14 => ?_)
              · have hsz16 : gxs.length < 16 := (nI_ltI (by omega) (b := 16) (by decide)).mp (e_13 ▸ c_14)
                refine lv_aload_n hx hb d_T_good_80 rfl (lv_at hl 0 rfl) ?_
                refine ww_get (v := .ref go) (C := R_T) (T := F_T) (N := 6) (ci := 0) hx hb hts i_T hown hK hw ht rfl 3 (by decide) (hts _ k_83) (fun _ h9 => h9) rfl d_T_good_81 ?_
                refine ww_new (C := R_G) (T := F_G) (N := 5) (ci := 2) (fs := [.int 0, .int 0, .int 0, .int 0, .long 0]) hx hb hts i_G ft_G ft_G_ok hown (hts _ k_168) (hts _ k_315) (hts _ k_14) hK hw hS hA rfl (fun j hj => by rcases (show j = 0 ∨ j = 1 ∨ j = 2 ∨ j = 3 ∨ j = 4 by omega) with rfl | rfl | rfl | rfl | rfl <;> rfl) (Nat.le_of_ble_eq_true rfl) (Nat.le_of_ble_eq_true rfl) d_T_good_84 (fun q_15 H hn_15 hw hS => ?_)
                refine W.widen (k := 1) (n := 5) (Nat.le_of_ble_eq_true rfl) (Nat.le_of_ble_eq_true rfl) ?_
                obtain ⟨w_16, ew_16⟩ : ∃ zz9 : Nat → Option va_E, zz9 = va_up w q_15 (some (.inr (2, [.int 0, .int 0, .int 0, .int 0, .long 0]))) := ⟨_, rfl⟩
                rw [← ew_16] at hw
                have h16_th : w_16 th = some (.inr (0, [.ref tx, .ref ru, .int rd, .ref go, .ref bo, .ref zo])) := by rw [ew_16, va_up_ne _ _ (ne_n hn_15 ht)]; exact ht
                have h16_go : w_16 go = some (.inr (6, [.int mcg, .ref garr, .int (nI gxs.length)])) := by rw [ew_16, va_up_ne _ _ (ne_n hn_15 heg)]; exact heg
                have h16_q_15 : w_16 q_15 = some (.inr (2, [.int 0, .int 0, .int 0, .int 0, .long 0])) := by rw [ew_16]; exact va_up_self _ _ _
                refine lv_dup hx hb d_T_good_87 rfl ?_
                refine lv_iload_n hx hb d_T_good_88 rfl (lv_at hl 1 rfl) ?_
                refine lv_iload_n hx hb d_T_good_89 rfl (lv_at hl 2 rfl) ?_
                refine lv_iload hx hb d_T_good_90 (lv_at hl 4 rfl) ?_
                refine lv_iload_n hx hb d_T_good_92 rfl (lv_at hl 3 rfl) ?_
                refine lv_iload hx hb d_T_good_93 (lv_at hl 5 rfl) ?_
                refine lv_iload hx hb d_T_good_95 (lv_at hl 6 rfl) ?_
                refine wr_i (cS (As := [.int x, .int z, .int t]) (rest := [.int y, .int v, .int u, .ref q_15, .ref q_15, .ref go]) 3 ⟨hx, hb, hml, hown, hts⟩ (c_T_fieldsOf l x z t) k_318 k_316 k_1 k_317 (by decide +kernel) ⟨Nat.le_of_ble_eq_true rfl, Nat.le_of_ble_eq_true rfl⟩ rfl rfl ⟨prN_blind _, fun _ _ _ => ⟨rfl, trivial⟩⟩ rfl hl.1 rfl (Nat.le_of_ble_eq_true rfl) d_T_good_97 ⟨Nat.le_of_ble_eq_true rfl, Nat.le_of_ble_eq_true rfl⟩) (fun r_17 e_17 => ?_)
                have hfie := e_17
                refine ww_v (cI (As := [.int u, .int v, .int y, .int r_17]) (rest := [.ref q_15, .ref go]) 4 ⟨hx, hb, hml, hown, hts⟩ (c_G_init l g H.size w_16 q_15 u v y r_17 h16_q_15) k_321 k_319 k_14 k_320 rfl (by decide +kernel) ⟨Nat.le_of_ble_eq_true rfl, Nat.le_of_ble_eq_true rfl⟩ rfl rfl ⟨prW_blind _ _ _ _, prW_at hG hAB hS hw⟩ rfl hl.1 rfl (Nat.le_of_ble_eq_true rfl) d_T_good_100 ⟨Nat.le_of_ble_eq_true rfl, Nat.le_of_ble_eq_true rfl⟩) hw hS hA (fun w_18 H locs e_18 hw hS hz_18 hk_18 hg_18 => ?_)
                have ew_18 := e_18
                have h18_th : w_18 th = some (.inr (0, [.ref tx, .ref ru, .int rd, .ref go, .ref bo, .ref zo])) := by rw [ew_18, va_up_ne _ _ (ne_c h16_q_15 h16_th (fun z => by cases z))]; exact h16_th
                have h18_go : w_18 go = some (.inr (6, [.int mcg, .ref garr, .int (nI gxs.length)])) := by rw [ew_18, va_up_ne _ _ (ne_c h16_q_15 h16_go (fun z => by cases z))]; exact h16_go
                have h18_q_15 : w_18 q_15 = some (.inr (2, [.int u, .int v, .int y, .int r_17, .long 0])) := by rw [ew_18]; exact va_up_self _ _ _
                have hLw : isL g w_18 go garr gxs := by rw [ew_18, ew_16, bx_uu]; exact isL_new hGL hn_15
                have hOq : isO w_18 q_15 := ⟨2, _, h18_q_15, Or.inr (Or.inl rfl)⟩
                have hOs : ∀ z9 ∈ gxs, isO w_18 z9 := fun z9 h9 => by
                        obtain ⟨i9, hi9⟩ := List.mem_iff_getElem?.mp h9
                        rw [ew_18, ew_16, bx_uu]
                        exact isO_up ⟨2, _, hgs i9 z9 hi9, Or.inr (Or.inl rfl)⟩ (Or.inl hn_15)
                refine ww_i (cV (As := [.ref q_15]) (rest := []) (C := "java/util/ArrayList") 1 ⟨hx, hb, hml, hown, hts⟩ (c_AL_add l g H.size w_18 go q_15 garr gxs hLw (by omega) hOq hOs) k_346 k_343 k_6 k_344 k_345 (by decide +kernel) ⟨Nat.le_of_ble_eq_true rfl, Nat.le_of_ble_eq_true rfl⟩ rfl rfl ⟨prW_blind _ _ _ _, hw.recv hK h18_go rfl, prW_at hG hAB hS hw⟩ rfl hl.1 rfl (Nat.le_of_ble_eq_true rfl) d_T_good_103 ⟨Nat.le_of_ble_eq_true rfl, Nat.le_of_ble_eq_true rfl⟩) hw hS hA (fun r_19 w_19 H locs e_19 hw hS hz_19 hk_19 hg_19 => ?_)
                refine W.widen (k := 2) (n := 35) (Nat.le_of_ble_eq_true rfl) (Nat.le_of_ble_eq_true rfl) ?_
                obtain ⟨rfl, arr1, hL1, hor1, hfr1⟩ := e_19
                have eb_19 : (1 : Int32) = b2 true := rfl
                have h19_th : w_19 th = some (.inr (0, [.ref tx, .ref ru, .int rd, .ref go, .ref bo, .ref zo])) := by rw [hfr1 _ (ne_c h18_go h18_th (fun z => by cases z)) (ne_ar hor1 h18_th)]; exact h18_th
                have h19_q_15 : w_19 q_15 = some (.inr (2, [.int u, .int v, .int y, .int r_17, .long 0])) := by rw [hfr1 _ (ne_c h18_go h18_q_15 (fun z => by cases z)) (ne_ar hor1 h18_q_15)]; exact h18_q_15
                obtain ⟨mc_19, cap_19, f_19, he_19, -⟩ := id hL1
                have hor_g : (arr1 = garr ∧ ∃ z, w garr = some (.inl z)) ∨ w arr1 = none := by have h9 := hor1; rw [ew_18, ew_16, bx_uu] at h9; exact or_back h9
                refine lv_pop hx hb d_T_good_106 rfl ?_
                refine lv_aload_n hx hb d_T_good_107 rfl (lv_at hl 0 rfl) ?_
                refine ww_get (v := .ref go) (C := R_T) (T := F_T) (N := 6) (ci := 0) hx hb hts i_T hown hK hw h19_th rfl 3 (by decide) (hts _ k_83) (fun _ h9 => h9) rfl d_T_good_108 ?_
                refine wr_i (cV (As := []) (rest := []) (C := "java/util/ArrayList") 0 ⟨hx, hb, hml, hown, hts⟩ (c_AL_size l g w_19 go arr1 mc_19 (nI (gxs ++ [q_15]).length) he_19) k_152 k_149 k_6 k_150 k_151 (by decide +kernel) ⟨Nat.le_of_ble_eq_true rfl, Nat.le_of_ble_eq_true rfl⟩ rfl rfl ⟨prR_blind _ _ _, hw.recv hK he_19 rfl, prR_at hG hAB hS hw⟩ rfl hl.1 rfl (Nat.le_of_ble_eq_true rfl) d_T_good_111 ⟨Nat.le_of_ble_eq_true rfl, Nat.le_of_ble_eq_true rfl⟩) (fun r_20 e_20 => ?_)
                refine lv_iconst (v := 1) hx hb d_T_good_114 (by decide) ?_
                refine lv_isub hx hb d_T_good_115 ?_
                refine lv_topi (fun v_21 e_21 => ?_)
                exact vx_ret (W.iret (v := v_21) hx hb hr (fun t ht hW => ⟨⟨v_21, w_19, rfl, ⟨by rw [q_2, q_5]; unfold inR; rw [decide_eq_false c_6, decide_eq_false c_8, decide_eq_false c_10, decide_eq_false (Int32.not_lt.mpr c_12)]; rfl, hsz16, by rw [e_21, e_20, List.length_append]; exact nI_pred _, q_15, arr1, hn_15, hL1, by rw [hfr1 _ (ne_n hn_15 heg).symm (ne_ar hor1 h18_q_15), h18_q_15, hfie], hor_g, fun b9 e9 h9 h1 h2 => by rw [hfr1 _ h1 h2, ew_18, ew_16, bx_uu, va_up_ne _ _ (ne_n hn_15 h9)]⟩, ww_t ht hw⟩, hS.F ht⟩) hS.2.2 d_T_good_116)
              · obtain ⟨sa_22, hs_22⟩ := hf.2.2.2.2.1 (88, "no room for one more good") (List.mem_of_getElem? (i := 3) rfl)
                exact vx_throwS (own := "DangerTables") (names := ["java/lang/RuntimeException", "java/lang/Exception"]) (ic := 90) (cls := "java/lang/IllegalStateException") hx hb hl0 hown (by decide) (by decide) (hts _ k_299) (hts _ k_13) hs_22 (atS_hat at_ISE hts hf.2.1) gd_ISE hUU hNN hS (hl.1.trans hml.symm) d_T_good_70 d_T_good_73 d_T_good_74 d_T_good_76 d_T_good_79 (fun x h => (hno x h).elim) (Nat.le_of_ble_eq_true rfl) (Nat.le_of_ble_eq_true rfl) (Nat.le_of_ble_eq_true rfl) (Nat.le_of_ble_eq_true rfl) hlocks (fun t ha h1 h2 => ⟨(), trivial, Or.inr ⟨rfl, by rw [q_2, q_5]; unfold inR; rw [decide_eq_false c_6, decide_eq_false c_8, decide_eq_false c_10, decide_eq_false (Int32.not_lt.mpr c_12)]; rfl, fun z => c_14 (e_13 ▸ nI_lt z (by decide))⟩, h1, fun q hq _ => h2 q hq⟩) (fun z h => nomatch h) (Nat.le_of_ble_eq_true rfl) (Nat.le_of_ble_eq_true rfl)
            · obtain ⟨sa_23, hs_23⟩ := hf.2.2.2.2.1 (81, "no such group or limit") (List.mem_of_getElem? (i := 2) rfl)
              exact vx_throwS (own := "DangerTables") (names := ["java/lang/RuntimeException", "java/lang/Exception"]) (ic := 68) (cls := "java/lang/IllegalArgumentException") hx hb hl0 hown (by decide) (by decide) (hts _ k_218) (hts _ k_12) hs_23 (atS_hat at_IAE hts hf.2.1) gd_IAE hUU hNN hS (hl.1.trans hml.symm) d_T_good_48 d_T_good_51 d_T_good_52 d_T_good_54 d_T_good_57 (fun x h => (hno x h).elim) (Nat.le_of_ble_eq_true rfl) (Nat.le_of_ble_eq_true rfl) (Nat.le_of_ble_eq_true rfl) (Nat.le_of_ble_eq_true rfl) hlocks (fun t ha h1 h2 => ⟨(), trivial, Or.inl ⟨rfl, by unfold inR; rw [decide_eq_true (Int32.not_le.mp c_12)]; simp⟩, h1, fun q hq _ => h2 q hq⟩) (fun z h => nomatch h) (Nat.le_of_ble_eq_true rfl) (Nat.le_of_ble_eq_true rfl)
    · have q_5 := b2_f e_4 c_5
      obtain ⟨sa_24, hs_24⟩ := hf.2.2.2.2.1 (79, "no such class or side class") (List.mem_of_getElem? (i := 1) rfl)
      exact vx_throwS (own := "DangerTables") (names := ["java/lang/RuntimeException", "java/lang/Exception"]) (ic := 68) (cls := "java/lang/IllegalArgumentException") hx hb hl0 hown (by decide) (by decide) (hts _ k_218) (hts _ k_12) hs_24 (atS_hat at_IAE hts hf.2.1) gd_IAE hUU hNN hS (hl.1.trans hml.symm) d_T_good_15 d_T_good_18 d_T_good_19 d_T_good_21 d_T_good_24 (fun x h => (hno x h).elim) (Nat.le_of_ble_eq_true rfl) (Nat.le_of_ble_eq_true rfl) (Nat.le_of_ble_eq_true rfl) (Nat.le_of_ble_eq_true rfl) hlocks (fun t ha h1 h2 => ⟨(), trivial, Or.inl ⟨rfl, by simp [q_2, q_5]⟩, h1, fun q hq _ => h2 q hq⟩) (fun z h => nomatch h) (Nat.le_of_ble_eq_true rfl) (Nat.le_of_ble_eq_true rfl)

