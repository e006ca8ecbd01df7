/-! THE CONSTRUCTOR -/
theorem four {P : Nat → Prop} (h0 : P 0) (h1 : P 1) (h2 : P 2) (h3 : P 3) : ∀ k : Nat, k < 4 → P k := by
  intro k hk
  rcases (show k = 0 ∨ k = 1 ∨ k = 2 ∨ k = 3 by omega) with rfl | rfl | rfl | rfl <;> assumption
theorem va_D.fore {A : Nat → Prop} {X : va_W} {x : Nat × va_E} (h : va_D A (X ++ [x])) : va_D A X := by
  have up : ∀ (i : Nat) (p : Nat × va_E), X[i]? = some p → (X ++ [x])[i]? = some p := fun i p hi => by
    rw [List.getElem?_append_left (List.getElem?_eq_some_iff.mp hi).1]; exact hi
  exact ⟨fun i j p q hp hq e => h.1 i j p q (up i p hp) (up j q hq) e, fun k q hq => h.2 k q (up k q hq)⟩
section MNA
variable {p : Program} {l : Launch} {e : Env} {R : Room} {s : State} {m : MethodId} {args : Array Value} {below : List Frame} {meth : Method} {c : Code} {H H0 : Heap} {locs : List Loc} {cells slots : Nat} {Q : State → Prop}
variable {cc : ByteArray} {pc : Nat} {ls : Array Slot} {rest : List Value} {D : va_G} {cl : List vw_C} {A : Nat → Prop} {tys : List (ClassId × FieldType)} {w : Nat → Option va_E}
theorem ww_mna (hexec : p.tables.exec = Jvm.exec) (hb : c.code = cc) {own : String} {index : Nat} (hown : s.vm.findClass own = some m.cls) (hclink : (Cond.classLink own index "[[I").before args s = true) (hover : va_AOA .int s) (harr : (Cond.arrayClass .int).before args s = true)
    (hK : va_K D cl tys s) (hw : ww D cl A w H) (hS : va_S A H0 H locs) (hA : ∀ q, H0.size ≤ q → A q) (t0 t1 : Nat) {c0 c1 : ClassId} (ht0 : tys[t0]? = some (c0, .int)) (ht1 : tys[t1]? = some (c1, .array .int)) (hcells : cells + 5 ≤ R.cells) (hslots : slots + 44 ≤ R.slots) (hdg : decode cc pc = .ok (.multianewarray index 2, 4))
    (kk : ∀ (q : Nat) (r : Nat → Nat) (H1 : Heap), (∀ i j : Nat, i < 4 → j < 4 → r i = r j → i = j) → w q = none → va_up w q (some (.inl (c1, 4, .inr (.inr (.inr (.inr (fun i => if i < 4 then some (r i) else none))))))) (r 0) = none →
      va_up (va_up w q (some (.inl (c1, 4, .inr (.inr (.inr (.inr (fun i => if i < 4 then some (r i) else none)))))))) (r 0) (some (.inl (c0, 10, .inl (fun _ => 0)))) (r 1) = none →
      va_up (va_up (va_up w q (some (.inl (c1, 4, .inr (.inr (.inr (.inr (fun i => if i < 4 then some (r i) else none)))))))) (r 0) (some (.inl (c0, 10, .inl (fun _ => 0))))) (r 1) (some (.inl (c0, 10, .inl (fun _ => 0)))) (r 2) = none →
      va_up (va_up (va_up (va_up w q (some (.inl (c1, 4, .inr (.inr (.inr (.inr (fun i => if i < 4 then some (r i) else none)))))))) (r 0) (some (.inl (c0, 10, .inl (fun _ => 0))))) (r 1) (some (.inl (c0, 10, .inl (fun _ => 0))))) (r 2) (some (.inl (c0, 10, .inl (fun _ => 0)))) (r 3) = none →
      ww D cl A (va_up (va_up (va_up (va_up (va_up w q (some (.inl (c1, 4, .inr (.inr (.inr (.inr (fun i => if i < 4 then some (r i) else none)))))))) (r 0) (some (.inl (c0, 10, .inl (fun _ => 0))))) (r 1) (some (.inl (c0, 10, .inl (fun _ => 0))))) (r 2) (some (.inl (c0, 10, .inl (fun _ => 0))))) (r 3) (some (.inl (c0, 10, .inl (fun _ => 0))))) H1 → va_S A H0 H1 locs →
      W p l e R s m args below meth c H1 locs (cells + 5) (slots + 44) Q (F0 m (pc + 4) ls (.ref q :: rest))) : W p l e R s m args below meth c H locs cells slots Q (F0 m pc ls (.int 10 :: .int 4 :: rest)) := by
  obtain ⟨L, hP, hD, hL⟩ := hw
  have hc0 : s.vm.findClass "[I" = some c0 := (hK.2 t0 _ ht0).2
  refine va_mna (X := L) (L := []) (f := fun _ => .inl (c0, 10, .inl (fun _ => 0))) (ty := .int) (cy := c0) (N' := 4) (K' := 10) (z := (10, .inl (fun _ => 0))) hexec hb hown hclink hover harr hc0 hK (by rw [show va_pl [] (fun _ => (.inl (c0, 10, .inl (fun _ => 0)) : va_E)) = [] from rfl, List.append_nil]; exact hP) (by rw [show va_pl [] (fun _ => (.inl (c0, 10, .inl (fun _ => 0)) : va_E)) = [] from rfl, List.append_nil]; exact hD) hS hA (by decide) (by decide) (by decide) (by decide) (by decide) (by decide) (by decide) rfl rfl hcells hslots (fun _ => rfl) hdg (fun q r cA H1 hinj _ hK1 hP1 hD1 hS1 => ?_)
  have e0 : s.vm.findClass "[[I" = some c1 := (hK.2 t1 _ ht1).2
  have e1 : s.vm.findClass "[[I" = some cA := (hK1.2 tys.length (cA, .array .int) (by rw [List.getElem?_append_right (Nat.le_refl _), Nat.sub_self]; rfl)).2
  have hc : cA = c1 := Option.some.inj (e1.symm.trans e0)
  subst hc
  have hm : ∀ i : Nat, i < 4 → vr_up (fun _ => (.inl (c0, 10, .inl (fun _ => 0)) : va_E)) ((List.range 4).map r) (.inl (c0, 10, .inl (fun _ => 0))) (r i) = .inl (c0, 10, .inl (fun _ => 0)) := fun i hi => vr_up_in (List.mem_map.mpr ⟨i, List.mem_range.mpr hi, rfl⟩)
  have el : va_pl ([] ++ (List.range 4).map r) (vr_up (fun _ => (.inl (c0, 10, .inl (fun _ => 0)) : va_E)) ((List.range 4).map r) (.inl (c0, 10, .inl (fun _ => 0)))) = [(r 0, .inl (c0, 10, .inl (fun _ => 0))), (r 1, .inl (c0, 10, .inl (fun _ => 0))), (r 2, .inl (c0, 10, .inl (fun _ => 0))), (r 3, .inl (c0, 10, .inl (fun _ => 0)))] := by
    show [(r 0, _), (r 1, _), (r 2, _), (r 3, _)] = _
    rw [hm 0 (by decide), hm 1 (by decide), hm 2 (by decide), hm 3 (by decide)]
  rw [el] at hP1 hD1
  have ea : ∀ (X : va_W) (a b c d : Nat × va_E), X ++ [a, b, c, d] = (((X ++ [a]) ++ [b]) ++ [c]) ++ [d] := fun X a b c d => by simp
  rw [ea] at hP1 hD1
  have d3 := hD1.fore
  have d2 := d3.fore
  have d1 := d2.fore
  have d0 := d1.fore
  have l0 := hL.push d0
  have l1 := l0.push d1
  have l2 := l1.push d2
  have l3 := l2.push d3
  have l4 := l3.push hD1
  exact kk q r H1 hinj (ww_new_out hL d0) (ww_new_out l0 d1) (ww_new_out l1 d2) (ww_new_out l2 d3) (ww_new_out l3 hD1) ⟨_, hP1, hD1, l4⟩ hS1
end MNA
theorem up_none {w : Nat → Option va_E} {a b : Nat} {e : va_E} (h : va_up w a (some e) b = none) : w b = none := by
  by_cases hb : b = a
  · rw [hb, va_up_self] at h
    cases h
  · rw [va_up_ne _ _ hb] at h
    exact h
theorem up_none2 {w : Nat → Option va_E} {a b : Nat} {e : va_E} (h : va_up w a (some e) b = none) : b ≠ a := fun hb => by
  rw [hb, va_up_self] at h
  cases h
set_option maxHeartbeats 4000000 in
set_option maxRecDepth 100000 in
theorem c_U_init (l : Launch) (g : GT) (sz : Nat) (w : Nat → Option va_E) (a : Nat) (he : w a = some (.inr (4, [.null, .int 0, .null]))) : Met l y_U_init (.code y_U_init b_U_init 1 (none) :: GW) ({ frames := 1, cells := 2, slots := 345, locals := 13 }) (prW g sz [.ref a] w) (qV g sz w (fun w1 => ∃ sg fo : Nat, w sg = none ∧ w1 sg = some (cA g 300 (fun _ => 0)) ∧ w1 fo = some (cA g 45 (fun _ => 0)) ∧ w1 a = some (cU sg 0 fo) ∧ (∀ b : Nat, b ≠ a → b ≠ sg → b ≠ fo → w1 b = w b) ∧ w fo = none)) 2 345 (gA w sz) := by
  refine Met.ofW (cc := b_U_init) (maxL := 1) (ret := none) (by decide) rfl ?_
  intro p e s m args below meth c s₁ B hml hv
  obtain ⟨rfl, hsz, hG, hw0⟩ := hv
  have hx := B.exec
  have hb := B.bytes
  have hr := B.returns
  have hts : ∀ w ∈ GW, w.before _ s = true := fun w h => atoms_spec (ws := .code y_U_init b_U_init 1 (none) :: GW) B.pre w (List.mem_cons_of_mem _ h)
  have hown : s.vm.findClass "DangerTables$RuleText" = some m.cls := findClass_of_methodNamed B.named
  have hlocks := B.notSynchronized
  have hf := hG.here
  have hK := hf.1
  subst hsz
  have hw := hw0.self s.heap.size
  have hAB : ∀ q, gA w s.heap.size q → gB g q := fun q h => h.elim (fun z => z.elim (fun _ he => hw0.inA he)) (fun h => Nat.le_trans hG.1 h)
  have hA : ∀ q, s.heap.size ≤ q → gA w s.heap.size q := fun q h => Or.inr h
  have hS : va_S (gA w s.heap.size) s.heap s.heap [] := va_S.rf
  have hin : meth.name = "<init>" := (name_of_methodNamed B.named B.method).1
  have hl := lv_entry ([.ref a]) (n := 1) (Nat.le_of_ble_eq_true rfl)
  rw [lg_entry_eq]
  generalize (lg_sl ([.ref a]) ++ List.replicate (1 - (lg_sl ([.ref a])).length) Slot.unset).toArray = ls at hl ⊢
  have hl : lv_has ls 1 [(0, .ref a)] := hl
  refine lv_aload_n hx hb d_U_init_0 rfl (lv_at hl 0 rfl) ?_
  refine W.objInit hx hb hown (hts _ k_35) (hts _ k_28) (hts _ k_29) rfl (by rw [hml]; exact hl.1) rfl d_U_init_1 (Nat.le_of_ble_eq_true rfl) (Nat.le_of_ble_eq_true rfl) ?_
  refine W.eq (g2 := F0 m 4 ls []) rfl ?_
  refine lv_aload_n hx hb d_U_init_4 rfl (lv_at hl 0 rfl) ?_
  refine lv_sipush (v := 300) hx hb d_U_init_5 (by decide) ?_
  refine ww_newa (atype := .int) (ty := .int) (a0 := (300, .inl (fun _ => 0))) hx hb (hts _ k_47) rfl hK hw hS hA 0 rfl (fun C h => by cases h) (fun _ => rfl) (by decide) (by decide) (by decide) (Nat.le_of_ble_eq_true rfl) (Nat.le_of_ble_eq_true rfl) d_U_init_8 (fun q_1 H hn_1 hw hS => ?_)
  refine W.widen (k := 1) (n := 300) (Nat.le_of_ble_eq_true rfl) (Nat.le_of_ble_eq_true rfl) ?_
  obtain ⟨w_2, ew_2⟩ : ∃ zz9 : Nat → Option va_E, zz9 = va_up w q_1 (some (.inl (g.2.1 0, 300, .inl (fun _ => 0)))) := ⟨_, rfl⟩
  rw [← ew_2] at hw
  have h2_a : w_2 a = some (.inr (4, [.null, .int 0, .null])) := by rw [ew_2, va_up_ne _ _ (ne_n hn_1 he)]; exact he
  have h2_q_1 : w_2 q_1 = some (.inl (g.2.1 0, 300, .inl (fun _ => 0))) := by rw [ew_2]; exact va_up_self _ _ _
  refine ww_putF (v := .ref q_1) (ty := .array .int) (C := R_U) (T := F_U) (N := 3) (ci := 4) (fs' := [.ref q_1, .int 0, .null]) hx hb hts i_U ft_U ft_U_ok fn_U hown hK hw hS h2_a rfl 0 (by decide) (hts _ k_36) (fun _ h9 => h9) rfl hin rfl (by decide +kernel) rfl rfl (Nat.le_of_ble_eq_true rfl) rfl d_U_init_10 (fun H locs hw hS => ?_)
  obtain ⟨w_3, ew_3⟩ : ∃ zz9 : Nat → Option va_E, zz9 = va_up w_2 a (some (.inr (4, [.ref q_1, .int 0, .null]))) := ⟨_, rfl⟩
  rw [← ew_3] at hw
  have h3_q_1 : w_3 q_1 = some (.inl (g.2.1 0, 300, .inl (fun _ => 0))) := by rw [ew_3, va_up_ne _ _ (ne_c h2_a h2_q_1 (fun z => by first | cases z | simp at z))]; exact h2_q_1
  have h3_a : w_3 a = some (.inr (4, [.ref q_1, .int 0, .null])) := by rw [ew_3]; exact va_up_self _ _ _
  refine lv_aload_n hx hb d_U_init_13 rfl (lv_at hl 0 rfl) ?_
  refine lv_bipush (v := 45) hx hb d_U_init_14 (by decide) ?_
  refine ww_newa (atype := .int) (ty := .int) (a0 := (45, .inl (fun _ => 0))) hx hb (hts _ k_47) rfl hK hw hS hA 0 rfl (fun C h => by cases h) (fun _ => rfl) (by decide) (by decide) (by decide) (Nat.le_of_ble_eq_true rfl) (Nat.le_of_ble_eq_true rfl) d_U_init_16 (fun q_4 H hn_4 hw hS => ?_)
  refine W.widen (k := 2) (n := 345) (Nat.le_of_ble_eq_true rfl) (Nat.le_of_ble_eq_true rfl) ?_
  obtain ⟨w_5, ew_5⟩ : ∃ zz9 : Nat → Option va_E, zz9 = va_up w_3 q_4 (some (.inl (g.2.1 0, 45, .inl (fun _ => 0)))) := ⟨_, rfl⟩
  rw [← ew_5] at hw
  have h5_a : w_5 a = some (.inr (4, [.ref q_1, .int 0, .null])) := by rw [ew_5, va_up_ne _ _ (ne_n hn_4 h3_a)]; exact h3_a
  have h5_q_1 : w_5 q_1 = some (.inl (g.2.1 0, 300, .inl (fun _ => 0))) := by rw [ew_5, va_up_ne _ _ (ne_n hn_4 h3_q_1)]; exact h3_q_1
  have h5_q_4 : w_5 q_4 = some (.inl (g.2.1 0, 45, .inl (fun _ => 0))) := by rw [ew_5]; exact va_up_self _ _ _
  refine ww_putF (v := .ref q_4) (ty := .array .int) (C := R_U) (T := F_U) (N := 3) (ci := 4) (fs' := [.ref q_1, .int 0, .ref q_4]) hx hb hts i_U ft_U ft_U_ok fn_U hown hK hw hS h5_a rfl 2 (by decide) (hts _ k_39) (fun _ h9 => h9) rfl hin rfl (by decide +kernel) rfl rfl (Nat.le_of_ble_eq_true rfl) rfl d_U_init_18 (fun H locs hw hS => ?_)
  obtain ⟨w_6, ew_6⟩ : ∃ zz9 : Nat → Option va_E, zz9 = va_up w_5 a (some (.inr (4, [.ref q_1, .int 0, .ref q_4]))) := ⟨_, rfl⟩
  rw [← ew_6] at hw
  have h6_q_1 : w_6 q_1 = some (.inl (g.2.1 0, 300, .inl (fun _ => 0))) := by rw [ew_6, va_up_ne _ _ (ne_c h5_a h5_q_1 (fun z => by first | cases z | simp at z))]; exact h5_q_1
  have h6_q_4 : w_6 q_4 = some (.inl (g.2.1 0, 45, .inl (fun _ => 0))) := by rw [ew_6, va_up_ne _ _ (ne_c h5_a h5_q_4 (fun z => by first | cases z | simp at z))]; exact h5_q_4
  have h6_a : w_6 a = some (.inr (4, [.ref q_1, .int 0, .ref q_4])) := by rw [ew_6]; exact va_up_self _ _ _
  exact W.vret hx hb hr (fun t ht hW => ⟨⟨w_6, rfl, ⟨q_1, q_4, hn_1, h6_q_1, h6_q_4, h6_a, fun b h1 h2 h3 => by rw [ew_6, va_up_ne _ _ h1, ew_5, va_up_ne _ _ h3, ew_3, va_up_ne _ _ h1, ew_2, va_up_ne _ _ h2], by have h9 := hn_4; rw [ew_3, ew_2] at h9; exact up_none (up_none h9)⟩, ww_t ht hw⟩, hS.F ht⟩) hS.2.2 d_U_init_21

set_option maxHeartbeats 4000000 in
set_option maxRecDepth 100000 in
theorem c_T_init (l : Launch) (g : GT) (sz : Nat) (w : Nat → Option va_E) (th : Nat) (ht : w th = some (.inr (0, [.null, .null, .int 0, .null, .null, .null]))) : Met l y_T_init (.code y_T_init b_T_init 2 (none) :: GW) ({ frames := 4, cells := 11, slots := 443, locals := 73 }) (prW g sz [.ref th] w) (qV g sz w (fun w1 => ∃ (tx ru go bo zo sg fo : Nat) (r : Nat → Nat) (f0 ff rf : Nat → Int32), w1 th = some (cT tx ru 0 go bo zo) ∧ w1 tx = some (cU sg 0 fo) ∧ w1 sg = some (cA g 300 f0) ∧ w1 fo = some (cA g 45 ff) ∧ w1 ru = some (cA g 45 rf) ∧ (∀ j : Nat, j < 45 → rf j = 4) ∧ w1 go = some (cL 0 (g.2.2 1) 0) ∧ w1 bo = some (cL 0 (g.2.2 1) 0) ∧ go ≠ bo ∧ ru ≠ fo ∧ w1 zo = some (cZ g (fun i => if i < 4 then some (r i) else none)) ∧ (∀ k : Nat, k < 4 → ∃ m : Nat → Int32, w1 (r k) = some (cA g 10 m) ∧ ∀ j : Nat, j < 10 → m j = 100000) ∧ ∀ i j : Nat, i < 4 → j < 4 → r i = r j → i = j)) 11 443 (gA w sz) := by
  refine Met.ofW (cc := b_T_init) (maxL := 2) (ret := none) (by decide) rfl ?_
  intro p e s m args below meth c s₁ B hml hv
  obtain ⟨rfl, hsz, hG, hw0⟩ := hv
  have hx := B.exec
  have hb := B.bytes
  have hr := B.returns
  have hts : ∀ w ∈ GW, w.before _ s = true := fun w h => atoms_spec (ws := .code y_T_init b_T_init 2 (none) :: GW) B.pre w (List.mem_cons_of_mem _ h)
  have hown : s.vm.findClass "DangerTables" = some m.cls := findClass_of_methodNamed B.named
  have hlocks := B.notSynchronized
  have hf := hG.here
  have hK := hf.1
  subst hsz
  have hw := hw0.self s.heap.size
  have hAB : ∀ q, gA w s.heap.size q → gB g q := fun q h => h.elim (fun z => z.elim (fun _ he => hw0.inA he)) (fun h => Nat.le_trans hG.1 h)
  have hA : ∀ q, s.heap.size ≤ q → gA w s.heap.size q := fun q h => Or.inr h
  have hS : va_S (gA w s.heap.size) s.heap s.heap [] := va_S.rf
  have hin : meth.name = "<init>" := (name_of_methodNamed B.named B.method).1
  have hl := lv_entry ([.ref th]) (n := 2) (Nat.le_of_ble_eq_true rfl)
  rw [lg_entry_eq]
  generalize (lg_sl ([.ref th]) ++ List.replicate (2 - (lg_sl ([.ref th])).length) Slot.unset).toArray = ls at hl ⊢
  have hl : lv_has ls 2 [(0, .ref th)] := hl
  refine lv_aload_n hx hb d_T_init_0 rfl (lv_at hl 0 rfl) ?_
  refine W.objInit hx hb hown (hts _ k_27) (hts _ k_28) (hts _ k_29) rfl (by rw [hml]; exact hl.1) rfl d_T_init_1 (Nat.le_of_ble_eq_true rfl) (Nat.le_of_ble_eq_true rfl) ?_
  refine W.eq (g2 := F0 m 4 ls []) rfl ?_
  refine lv_aload_n hx hb d_T_init_4 rfl (lv_at hl 0 rfl) ?_
  refine ww_new (C := R_U) (T := F_U) (N := 3) (ci := 4) (fs := [.null, .int 0, .null]) hx hb hts i_U ft_U ft_U_ok hown (hts _ k_30) (hts _ k_31) (hts _ k_2) hK hw hS hA rfl (fun j hj => by rcases (show j = 0 ∨ j = 1 ∨ j = 2 by omega) with rfl | rfl | rfl <;> rfl) (Nat.le_of_ble_eq_true rfl) (Nat.le_of_ble_eq_true rfl) d_T_init_5 (fun q_1 H hn_1 hw hS => ?_)
  refine W.widen (k := 1) (n := 3) (Nat.le_of_ble_eq_true rfl) (Nat.le_of_ble_eq_true rfl) ?_
  obtain ⟨w_2, ew_2⟩ : ∃ zz9 : Nat → Option va_E, zz9 = va_up w q_1 (some (.inr (4, [.null, .int 0, .null]))) := ⟨_, rfl⟩
  rw [← ew_2] at hw
  have h2_th : w_2 th = some (.inr (0, [.null, .null, .int 0, .null, .null, .null])) := by rw [ew_2, va_up_ne _ _ (ne_n hn_1 ht)]; exact ht
  have h2_q_1 : w_2 q_1 = some (.inr (4, [.null, .int 0, .null])) := by rw [ew_2]; exact va_up_self _ _ _
  refine lv_dup hx hb d_T_init_8 rfl ?_
  refine ww_v (cI (As := []) (rest := [.ref q_1, .ref th]) 0 ⟨hx, hb, hml, hown, hts⟩ (c_U_init l g H.size w_2 q_1 h2_q_1) k_34 k_32 k_2 k_33 rfl (by decide +kernel) ⟨Nat.le_of_ble_eq_true rfl, Nat.le_of_ble_eq_true rfl⟩ rfl rfl ⟨prW_blind _ _ _ _, prW_at hG hAB hS hw⟩ rfl hl.1 rfl (Nat.le_of_ble_eq_true rfl) d_T_init_9 ⟨Nat.le_of_ble_eq_true rfl, Nat.le_of_ble_eq_true rfl⟩) hw hS hA (fun w_3 H locs e_3 hw hS hz_3 hk_3 hg_3 => ?_)
  refine W.widen (k := 3) (n := 348) (Nat.le_of_ble_eq_true rfl) (Nat.le_of_ble_eq_true rfl) ?_
  obtain ⟨sg, fo, hnsg, hsg_3, hfo_3, htx_3, hfr_3, hnfo⟩ := e_3
  have h3_th : w_3 th = some (.inr (0, [.null, .null, .int 0, .null, .null, .null])) := by rw [hfr_3 _ (ne_c h2_q_1 h2_th (fun z => by first | cases z | simp at z)) (ne_n hnsg h2_th) (ne_n hnfo h2_th)]; exact h2_th
  refine ww_putF (v := .ref q_1) (ty := .object "DangerTables$RuleText") (C := R_T) (T := F_T) (N := 6) (ci := 0) (fs' := [.ref q_1, .null, .int 0, .null, .null, .null]) hx hb hts i_T ft_T ft_T_ok fn_T hown hK hw hS h3_th rfl 0 (by decide) (hts _ k_80) (fun _ h9 => h9) rfl hin rfl (by decide +kernel) rfl rfl (Nat.le_of_ble_eq_true rfl) rfl d_T_init_12 (fun H locs hw hS => ?_)
  obtain ⟨w_4, ew_4⟩ : ∃ zz9 : Nat → Option va_E, zz9 = va_up w_3 th (some (.inr (0, [.ref q_1, .null, .int 0, .null, .null, .null]))) := ⟨_, rfl⟩
  rw [← ew_4] at hw
  have h4_q_1 : w_4 q_1 = some (.inr (4, [.ref sg, .int 0, .ref fo])) := by rw [ew_4, va_up_ne _ _ (ne_c h3_th htx_3 (fun z => by first | cases z | simp at z))]; exact htx_3
  have h4_sg : w_4 sg = some (cA g 300 (fun _ => 0)) := by rw [ew_4, va_up_ne _ _ (ne_c h3_th hsg_3 (fun z => by first | cases z | simp at z))]; exact hsg_3
  have h4_fo : w_4 fo = some (cA g 45 (fun _ => 0)) := by rw [ew_4, va_up_ne _ _ (ne_c h3_th hfo_3 (fun z => by first | cases z | simp at z))]; exact hfo_3
  have h4_th : w_4 th = some (.inr (0, [.ref q_1, .null, .int 0, .null, .null, .null])) := by rw [ew_4]; exact va_up_self _ _ _
  refine lv_aload_n hx hb d_T_init_15 rfl (lv_at hl 0 rfl) ?_
  refine lv_bipush (v := 45) hx hb d_T_init_16 (by decide) ?_
  refine ww_newa (atype := .int) (ty := .int) (a0 := (45, .inl (fun _ => 0))) hx hb (hts _ k_47) rfl hK hw hS hA 0 rfl (fun C h => by cases h) (fun _ => rfl) (by decide) (by decide) (by decide) (Nat.le_of_ble_eq_true rfl) (Nat.le_of_ble_eq_true rfl) d_T_init_18 (fun q_5 H hn_5 hw hS => ?_)
  refine W.widen (k := 4) (n := 393) (Nat.le_of_ble_eq_true rfl) (Nat.le_of_ble_eq_true rfl) ?_
  obtain ⟨w_6, ew_6⟩ : ∃ zz9 : Nat → Option va_E, zz9 = va_up w_4 q_5 (some (.inl (g.2.1 0, 45, .inl (fun _ => 0)))) := ⟨_, rfl⟩
  rw [← ew_6] at hw
  have h6_q_1 : w_6 q_1 = some (.inr (4, [.ref sg, .int 0, .ref fo])) := by rw [ew_6, va_up_ne _ _ (ne_n hn_5 h4_q_1)]; exact h4_q_1
  have h6_th : w_6 th = some (.inr (0, [.ref q_1, .null, .int 0, .null, .null, .null])) := by rw [ew_6, va_up_ne _ _ (ne_n hn_5 h4_th)]; exact h4_th
  have h6_sg : w_6 sg = some (cA g 300 (fun _ => 0)) := by rw [ew_6, va_up_ne _ _ (ne_n hn_5 h4_sg)]; exact h4_sg
  have h6_fo : w_6 fo = some (cA g 45 (fun _ => 0)) := by rw [ew_6, va_up_ne _ _ (ne_n hn_5 h4_fo)]; exact h4_fo
  have h6_q_5 : w_6 q_5 = some (.inl (g.2.1 0, 45, .inl (fun _ => 0))) := by rw [ew_6]; exact va_up_self _ _ _
  have hrf : q_5 ≠ fo := (ne_n hn_5 h4_fo).symm
  refine ww_putF (v := .ref q_5) (ty := .array .int) (C := R_T) (T := F_T) (N := 6) (ci := 0) (fs' := [.ref q_1, .ref q_5, .int 0, .null, .null, .null]) hx hb hts i_T ft_T ft_T_ok fn_T hown hK hw hS h6_th rfl 1 (by decide) (hts _ k_81) (fun _ h9 => h9) rfl hin rfl (by decide +kernel) rfl rfl (Nat.le_of_ble_eq_true rfl) rfl d_T_init_20 (fun H locs hw hS => ?_)
  obtain ⟨w_7, ew_7⟩ : ∃ zz9 : Nat → Option va_E, zz9 = va_up w_6 th (some (.inr (0, [.ref q_1, .ref q_5, .int 0, .null, .null, .null]))) := ⟨_, rfl⟩
  rw [← ew_7] at hw
  have h7_q_1 : w_7 q_1 = some (.inr (4, [.ref sg, .int 0, .ref fo])) := by rw [ew_7, va_up_ne _ _ (ne_c h6_th h6_q_1 (fun z => by first | cases z | simp at z))]; exact h6_q_1
  have h7_sg : w_7 sg = some (cA g 300 (fun _ => 0)) := by rw [ew_7, va_up_ne _ _ (ne_c h6_th h6_sg (fun z => by first | cases z | simp at z))]; exact h6_sg
  have h7_fo : w_7 fo = some (cA g 45 (fun _ => 0)) := by rw [ew_7, va_up_ne _ _ (ne_c h6_th h6_fo (fun z => by first | cases z | simp at z))]; exact h6_fo
  have h7_q_5 : w_7 q_5 = some (.inl (g.2.1 0, 45, .inl (fun _ => 0))) := by rw [ew_7, va_up_ne _ _ (ne_c h6_th h6_q_5 (fun z => by first | cases z | simp at z))]; exact h6_q_5
  have h7_th : w_7 th = some (.inr (0, [.ref q_1, .ref q_5, .int 0, .null, .null, .null])) := by rw [ew_7]; exact va_up_self _ _ _
  refine lv_aload_n hx hb d_T_init_23 rfl (lv_at hl 0 rfl) ?_
  refine ww_get (v := .ref q_5) (C := R_T) (T := F_T) (N := 6) (ci := 0) hx hb hts i_T hown hK hw h7_th rfl 1 (by decide) (hts _ k_81) (fun _ h9 => h9) rfl d_T_init_24 ?_
  refine lv_iconst (v := 4) hx hb d_T_init_27 (by decide) ?_
  refine ww_v (cS (As := [.ref q_5, .int 4]) (rest := []) 2 ⟨hx, hb, hml, hown, hts⟩ (c_AR_fill l g H.size w_7 q_5 45 (fun _ => 0) 4 h7_q_5 (by decide)) k_50 k_48 k_3 k_49 (by decide +kernel) ⟨Nat.le_of_ble_eq_true rfl, Nat.le_of_ble_eq_true rfl⟩ rfl rfl ⟨prW_blind _ _ _ _, prW_at hG hAB hS hw⟩ rfl hl.1 rfl (Nat.le_of_ble_eq_true rfl) d_T_init_28 ⟨Nat.le_of_ble_eq_true rfl, Nat.le_of_ble_eq_true rfl⟩) hw hS hA (fun w_8 H locs e_8 hw hS hz_8 hk_8 hg_8 => ?_)
  obtain ⟨f_8, hfl_8, ew_8⟩ := e_8
  have h8_q_1 : w_8 q_1 = some (.inr (4, [.ref sg, .int 0, .ref fo])) := by rw [ew_8, va_up_ne _ _ (ne_c h7_q_5 h7_q_1 (fun z => by first | cases z | simp at z))]; exact h7_q_1
  have h8_th : w_8 th = some (.inr (0, [.ref q_1, .ref q_5, .int 0, .null, .null, .null])) := by rw [ew_8, va_up_ne _ _ (ne_c h7_q_5 h7_th (fun z => by first | cases z | simp at z))]; exact h7_th
  have h8_sg : w_8 sg = some (cA g 300 (fun _ => 0)) := by rw [ew_8, va_up_ne _ _ (ne_c h7_q_5 h7_sg (fun z => by first | cases z | simp at z))]; exact h7_sg
  have h8_fo : w_8 fo = some (cA g 45 (fun _ => 0)) := by rw [ew_8, va_up_ne _ _ hrf.symm]; exact h7_fo
  have h8_q_5 : w_8 q_5 = some (cA g 45 f_8) := by rw [ew_8]; exact va_up_self _ _ _
  refine lv_aload_n hx hb d_T_init_31 rfl (lv_at hl 0 rfl) ?_
  refine ww_new (C := R_AL) (T := F_AL) (N := 3) (ci := 6) (fs := [.int 0, .null, .int 0]) hx hb hts i_AL ft_AL ft_AL_ok hown (hts _ k_51) (hts _ k_52) (hts _ k_6) hK hw hS hA rfl (fun j hj => by rcases (show j = 0 ∨ j = 1 ∨ j = 2 by omega) with rfl | rfl | rfl <;> rfl) (Nat.le_of_ble_eq_true rfl) (Nat.le_of_ble_eq_true rfl) d_T_init_32 (fun q_9 H hn_9 hw hS => ?_)
  refine W.widen (k := 5) (n := 396) (Nat.le_of_ble_eq_true rfl) (Nat.le_of_ble_eq_true rfl) ?_
  obtain ⟨w_10, ew_10⟩ : ∃ zz9 : Nat → Option va_E, zz9 = va_up w_8 q_9 (some (.inr (6, [.int 0, .null, .int 0]))) := ⟨_, rfl⟩
  rw [← ew_10] at hw
  have h10_q_1 : w_10 q_1 = some (.inr (4, [.ref sg, .int 0, .ref fo])) := by rw [ew_10, va_up_ne _ _ (ne_n hn_9 h8_q_1)]; exact h8_q_1
  have h10_th : w_10 th = some (.inr (0, [.ref q_1, .ref q_5, .int 0, .null, .null, .null])) := by rw [ew_10, va_up_ne _ _ (ne_n hn_9 h8_th)]; exact h8_th
  have h10_sg : w_10 sg = some (cA g 300 (fun _ => 0)) := by rw [ew_10, va_up_ne _ _ (ne_n hn_9 h8_sg)]; exact h8_sg
  have h10_fo : w_10 fo = some (cA g 45 (fun _ => 0)) := by rw [ew_10, va_up_ne _ _ (ne_n hn_9 h8_fo)]; exact h8_fo
  have h10_q_5 : w_10 q_5 = some (cA g 45 f_8) := by rw [ew_10, va_up_ne _ _ (ne_n hn_9 h8_q_5)]; exact h8_q_5
  have h10_q_9 : w_10 q_9 = some (.inr (6, [.int 0, .null, .int 0])) := by rw [ew_10]; exact va_up_self _ _ _
  refine lv_dup hx hb d_T_init_35 rfl ?_
  refine ww_v (cI (As := []) (rest := [.ref q_9, .ref th]) 0 ⟨hx, hb, hml, hown, hts⟩ (c_AL_init l g H.size w_10 q_9 h10_q_9) k_55 k_53 k_6 k_54 rfl (by decide +kernel) ⟨Nat.le_of_ble_eq_true rfl, Nat.le_of_ble_eq_true rfl⟩ rfl rfl ⟨prW_blind _ _ _ _, prW_at hG hAB hS hw⟩ rfl hl.1 rfl (Nat.le_of_ble_eq_true rfl) d_T_init_36 ⟨Nat.le_of_ble_eq_true rfl, Nat.le_of_ble_eq_true rfl⟩) hw hS hA (fun w_11 H locs e_11 hw hS hz_11 hk_11 hg_11 => ?_)
  have ew_11 := e_11
  have h11_q_1 : w_11 q_1 = some (.inr (4, [.ref sg, .int 0, .ref fo])) := by rw [ew_11, va_up_ne _ _ (ne_c h10_q_9 h10_q_1 (fun z => by first | cases z | simp at z))]; exact h10_q_1
  have h11_th : w_11 th = some (.inr (0, [.ref q_1, .ref q_5, .int 0, .null, .null, .null])) := by rw [ew_11, va_up_ne _ _ (ne_c h10_q_9 h10_th (fun z => by first | cases z | simp at z))]; exact h10_th
  have h11_sg : w_11 sg = some (cA g 300 (fun _ => 0)) := by rw [ew_11, va_up_ne _ _ (ne_c h10_q_9 h10_sg (fun z => by first | cases z | simp at z))]; exact h10_sg
  have h11_fo : w_11 fo = some (cA g 45 (fun _ => 0)) := by rw [ew_11, va_up_ne _ _ (ne_c h10_q_9 h10_fo (fun z => by first | cases z | simp at z))]; exact h10_fo
  have h11_q_5 : w_11 q_5 = some (cA g 45 f_8) := by rw [ew_11, va_up_ne _ _ (ne_c h10_q_9 h10_q_5 (fun z => by first | cases z | simp at z))]; exact h10_q_5
  have h11_q_9 : w_11 q_9 = some (cL 0 (g.2.2 1) 0) := by rw [ew_11]; exact va_up_self _ _ _
  refine ww_putF (v := .ref q_9) (ty := .object "java/util/ArrayList") (C := R_T) (T := F_T) (N := 6) (ci := 0) (fs' := [.ref q_1, .ref q_5, .int 0, .ref q_9, .null, .null]) hx hb hts i_T ft_T ft_T_ok fn_T hown hK hw hS h11_th rfl 3 (by decide) (hts _ k_83) (fun _ h9 => h9) rfl hin rfl (by decide +kernel) rfl rfl (Nat.le_of_ble_eq_true rfl) rfl d_T_init_39 (fun H locs hw hS => ?_)
  obtain ⟨w_12, ew_12⟩ : ∃ zz9 : Nat → Option va_E, zz9 = va_up w_11 th (some (.inr (0, [.ref q_1, .ref q_5, .int 0, .ref q_9, .null, .null]))) := ⟨_, rfl⟩
  rw [← ew_12] at hw
  have h12_q_1 : w_12 q_1 = some (.inr (4, [.ref sg, .int 0, .ref fo])) := by rw [ew_12, va_up_ne _ _ (ne_c h11_th h11_q_1 (fun z => by first | cases z | simp at z))]; exact h11_q_1
  have h12_q_9 : w_12 q_9 = some (.inr (6, [.int 0, .ref (g.2.2 1), .int 0])) := by rw [ew_12, va_up_ne _ _ (ne_c h11_th h11_q_9 (fun z => by first | cases z | simp at z))]; exact h11_q_9
  have h12_sg : w_12 sg = some (cA g 300 (fun _ => 0)) := by rw [ew_12, va_up_ne _ _ (ne_c h11_th h11_sg (fun z => by first | cases z | simp at z))]; exact h11_sg
  have h12_fo : w_12 fo = some (cA g 45 (fun _ => 0)) := by rw [ew_12, va_up_ne _ _ (ne_c h11_th h11_fo (fun z => by first | cases z | simp at z))]; exact h11_fo
  have h12_q_5 : w_12 q_5 = some (cA g 45 f_8) := by rw [ew_12, va_up_ne _ _ (ne_c h11_th h11_q_5 (fun z => by first | cases z | simp at z))]; exact h11_q_5
  have h12_th : w_12 th = some (.inr (0, [.ref q_1, .ref q_5, .int 0, .ref q_9, .null, .null])) := by rw [ew_12]; exact va_up_self _ _ _
  refine lv_aload_n hx hb d_T_init_42 rfl (lv_at hl 0 rfl) ?_
  refine ww_new (C := R_AL) (T := F_AL) (N := 3) (ci := 6) (fs := [.int 0, .null, .int 0]) hx hb hts i_AL ft_AL ft_AL_ok hown (hts _ k_51) (hts _ k_52) (hts _ k_6) hK hw hS hA rfl (fun j hj => by rcases (show j = 0 ∨ j = 1 ∨ j = 2 by omega) with rfl | rfl | rfl <;> rfl) (Nat.le_of_ble_eq_true rfl) (Nat.le_of_ble_eq_true rfl) d_T_init_43 (fun q_13 H hn_13 hw hS => ?_)
  refine W.widen (k := 6) (n := 399) (Nat.le_of_ble_eq_true rfl) (Nat.le_of_ble_eq_true rfl) ?_
  obtain ⟨w_14, ew_14⟩ : ∃ zz9 : Nat → Option va_E, zz9 = va_up w_12 q_13 (some (.inr (6, [.int 0, .null, .int 0]))) := ⟨_, rfl⟩
  rw [← ew_14] at hw
  have h14_q_1 : w_14 q_1 = some (.inr (4, [.ref sg, .int 0, .ref fo])) := by rw [ew_14, va_up_ne _ _ (ne_n hn_13 h12_q_1)]; exact h12_q_1
  have h14_q_9 : w_14 q_9 = some (.inr (6, [.int 0, .ref (g.2.2 1), .int 0])) := by rw [ew_14, va_up_ne _ _ (ne_n hn_13 h12_q_9)]; exact h12_q_9
  have h14_th : w_14 th = some (.inr (0, [.ref q_1, .ref q_5, .int 0, .ref q_9, .null, .null])) := by rw [ew_14, va_up_ne _ _ (ne_n hn_13 h12_th)]; exact h12_th
  have h14_sg : w_14 sg = some (cA g 300 (fun _ => 0)) := by rw [ew_14, va_up_ne _ _ (ne_n hn_13 h12_sg)]; exact h12_sg
  have h14_fo : w_14 fo = some (cA g 45 (fun _ => 0)) := by rw [ew_14, va_up_ne _ _ (ne_n hn_13 h12_fo)]; exact h12_fo
  have h14_q_5 : w_14 q_5 = some (cA g 45 f_8) := by rw [ew_14, va_up_ne _ _ (ne_n hn_13 h12_q_5)]; exact h12_q_5
  have h14_q_13 : w_14 q_13 = some (.inr (6, [.int 0, .null, .int 0])) := by rw [ew_14]; exact va_up_self _ _ _
  have hgb : q_9 ≠ q_13 := ne_n hn_13 h12_q_9
  refine lv_dup hx hb d_T_init_46 rfl ?_
  refine ww_v (cI (As := []) (rest := [.ref q_13, .ref th]) 0 ⟨hx, hb, hml, hown, hts⟩ (c_AL_init l g H.size w_14 q_13 h14_q_13) k_55 k_53 k_6 k_54 rfl (by decide +kernel) ⟨Nat.le_of_ble_eq_true rfl, Nat.le_of_ble_eq_true rfl⟩ rfl rfl ⟨prW_blind _ _ _ _, prW_at hG hAB hS hw⟩ rfl hl.1 rfl (Nat.le_of_ble_eq_true rfl) d_T_init_47 ⟨Nat.le_of_ble_eq_true rfl, Nat.le_of_ble_eq_true rfl⟩) hw hS hA (fun w_15 H locs e_15 hw hS hz_15 hk_15 hg_15 => ?_)
  have ew_15 := e_15
  have h15_q_1 : w_15 q_1 = some (.inr (4, [.ref sg, .int 0, .ref fo])) := by rw [ew_15, va_up_ne _ _ (ne_c h14_q_13 h14_q_1 (fun z => by first | cases z | simp at z))]; exact h14_q_1
  have h15_q_9 : w_15 q_9 = some (.inr (6, [.int 0, .ref (g.2.2 1), .int 0])) := by rw [ew_15, va_up_ne _ _ hgb]; exact h14_q_9
  have h15_th : w_15 th = some (.inr (0, [.ref q_1, .ref q_5, .int 0, .ref q_9, .null, .null])) := by rw [ew_15, va_up_ne _ _ (ne_c h14_q_13 h14_th (fun z => by first | cases z | simp at z))]; exact h14_th
  have h15_sg : w_15 sg = some (cA g 300 (fun _ => 0)) := by rw [ew_15, va_up_ne _ _ (ne_c h14_q_13 h14_sg (fun z => by first | cases z | simp at z))]; exact h14_sg
  have h15_fo : w_15 fo = some (cA g 45 (fun _ => 0)) := by rw [ew_15, va_up_ne _ _ (ne_c h14_q_13 h14_fo (fun z => by first | cases z | simp at z))]; exact h14_fo
  have h15_q_5 : w_15 q_5 = some (cA g 45 f_8) := by rw [ew_15, va_up_ne _ _ (ne_c h14_q_13 h14_q_5 (fun z => by first | cases z | simp at z))]; exact h14_q_5
  have h15_q_13 : w_15 q_13 = some (cL 0 (g.2.2 1) 0) := by rw [ew_15]; exact va_up_self _ _ _
  refine ww_putF (v := .ref q_13) (ty := .object "java/util/ArrayList") (C := R_T) (T := F_T) (N := 6) (ci := 0) (fs' := [.ref q_1, .ref q_5, .int 0, .ref q_9, .ref q_13, .null]) hx hb hts i_T ft_T ft_T_ok fn_T hown hK hw hS h15_th rfl 4 (by decide) (hts _ k_84) (fun _ h9 => h9) rfl hin rfl (by decide +kernel) rfl rfl (Nat.le_of_ble_eq_true rfl) rfl d_T_init_50 (fun H locs hw hS => ?_)
  obtain ⟨w_16, ew_16⟩ : ∃ zz9 : Nat → Option va_E, zz9 = va_up w_15 th (some (.inr (0, [.ref q_1, .ref q_5, .int 0, .ref q_9, .ref q_13, .null]))) := ⟨_, rfl⟩
  rw [← ew_16] at hw
  have h16_q_1 : w_16 q_1 = some (.inr (4, [.ref sg, .int 0, .ref fo])) := by rw [ew_16, va_up_ne _ _ (ne_c h15_th h15_q_1 (fun z => by first | cases z | simp at z))]; exact h15_q_1
  have h16_q_9 : w_16 q_9 = some (.inr (6, [.int 0, .ref (g.2.2 1), .int 0])) := by rw [ew_16, va_up_ne _ _ (ne_c h15_th h15_q_9 (fun z => by first | cases z | simp at z))]; exact h15_q_9
  have h16_q_13 : w_16 q_13 = some (.inr (6, [.int 0, .ref (g.2.2 1), .int 0])) := by rw [ew_16, va_up_ne _ _ (ne_c h15_th h15_q_13 (fun z => by first | cases z | simp at z))]; exact h15_q_13
  have h16_sg : w_16 sg = some (cA g 300 (fun _ => 0)) := by rw [ew_16, va_up_ne _ _ (ne_c h15_th h15_sg (fun z => by first | cases z | simp at z))]; exact h15_sg
  have h16_fo : w_16 fo = some (cA g 45 (fun _ => 0)) := by rw [ew_16, va_up_ne _ _ (ne_c h15_th h15_fo (fun z => by first | cases z | simp at z))]; exact h15_fo
  have h16_q_5 : w_16 q_5 = some (cA g 45 f_8) := by rw [ew_16, va_up_ne _ _ (ne_c h15_th h15_q_5 (fun z => by first | cases z | simp at z))]; exact h15_q_5
  have h16_th : w_16 th = some (.inr (0, [.ref q_1, .ref q_5, .int 0, .ref q_9, .ref q_13, .null])) := by rw [ew_16]; exact va_up_self _ _ _
  refine lv_aload_n hx hb d_T_init_53 rfl (lv_at hl 0 rfl) ?_
  refine lv_iconst (v := 4) hx hb d_T_init_54 (by decide) ?_
  refine lv_bipush (v := 10) hx hb d_T_init_55 (by decide) ?_
  refine ww_mna hx hb hown (hts _ k_77) hf.2.2.2.1 (hts _ k_47) hK hw hS hA 0 4 rfl rfl (Nat.le_of_ble_eq_true rfl) (Nat.le_of_ble_eq_true rfl) d_T_init_57 (fun zo r H hinj hnz0 hnz1 hnz2 hnz3 hnz4 hw hS => ?_)
  refine W.widen (k := 11) (n := 443) (Nat.le_of_ble_eq_true rfl) (Nat.le_of_ble_eq_true rfl) ?_
  obtain ⟨w_18, ew_18⟩ : ∃ zz9 : Nat → Option va_E, zz9 = va_up w_16 zo (some (.inl (g.2.1 4, 4, .inr (.inr (.inr (.inr (fun i => if i < 4 then some (r i) else none))))))) := ⟨_, rfl⟩
  rw [← ew_18] at hw
  have h18_q_1 : w_18 q_1 = some (.inr (4, [.ref sg, .int 0, .ref fo])) := by rw [ew_18, va_up_ne _ _ (ne_n hnz0 h16_q_1)]; exact h16_q_1
  have h18_q_9 : w_18 q_9 = some (.inr (6, [.int 0, .ref (g.2.2 1), .int 0])) := by rw [ew_18, va_up_ne _ _ (ne_n hnz0 h16_q_9)]; exact h16_q_9
  have h18_q_13 : w_18 q_13 = some (.inr (6, [.int 0, .ref (g.2.2 1), .int 0])) := by rw [ew_18, va_up_ne _ _ (ne_n hnz0 h16_q_13)]; exact h16_q_13
  have h18_th : w_18 th = some (.inr (0, [.ref q_1, .ref q_5, .int 0, .ref q_9, .ref q_13, .null])) := by rw [ew_18, va_up_ne _ _ (ne_n hnz0 h16_th)]; exact h16_th
  have h18_sg : w_18 sg = some (cA g 300 (fun _ => 0)) := by rw [ew_18, va_up_ne _ _ (ne_n hnz0 h16_sg)]; exact h16_sg
  have h18_fo : w_18 fo = some (cA g 45 (fun _ => 0)) := by rw [ew_18, va_up_ne _ _ (ne_n hnz0 h16_fo)]; exact h16_fo
  have h18_q_5 : w_18 q_5 = some (cA g 45 f_8) := by rw [ew_18, va_up_ne _ _ (ne_n hnz0 h16_q_5)]; exact h16_q_5
  have h18_zo : w_18 zo = some (.inl (g.2.1 4, 4, .inr (.inr (.inr (.inr (fun i => if i < 4 then some (r i) else none)))))) := by rw [ew_18]; exact va_up_self _ _ _
  have hny0 : w_18 (r 0) = none := by rw [ew_18]; exact hnz1
  obtain ⟨w_19, ew_19⟩ : ∃ zz9 : Nat → Option va_E, zz9 = va_up w_18 (r 0) (some (cA g 10 (fun _ => 0))) := ⟨_, rfl⟩
  rw [← ew_19] at hw
  have h19_q_1 : w_19 q_1 = some (.inr (4, [.ref sg, .int 0, .ref fo])) := by rw [ew_19, va_up_ne _ _ (ne_n hny0 h18_q_1)]; exact h18_q_1
  have h19_q_9 : w_19 q_9 = some (.inr (6, [.int 0, .ref (g.2.2 1), .int 0])) := by rw [ew_19, va_up_ne _ _ (ne_n hny0 h18_q_9)]; exact h18_q_9
  have h19_q_13 : w_19 q_13 = some (.inr (6, [.int 0, .ref (g.2.2 1), .int 0])) := by rw [ew_19, va_up_ne _ _ (ne_n hny0 h18_q_13)]; exact h18_q_13
  have h19_th : w_19 th = some (.inr (0, [.ref q_1, .ref q_5, .int 0, .ref q_9, .ref q_13, .null])) := by rw [ew_19, va_up_ne _ _ (ne_n hny0 h18_th)]; exact h18_th
  have h19_sg : w_19 sg = some (cA g 300 (fun _ => 0)) := by rw [ew_19, va_up_ne _ _ (ne_n hny0 h18_sg)]; exact h18_sg
  have h19_fo : w_19 fo = some (cA g 45 (fun _ => 0)) := by rw [ew_19, va_up_ne _ _ (ne_n hny0 h18_fo)]; exact h18_fo
  have h19_q_5 : w_19 q_5 = some (cA g 45 f_8) := by rw [ew_19, va_up_ne _ _ (ne_n hny0 h18_q_5)]; exact h18_q_5
  have h19_zo : w_19 zo = some (.inl (g.2.1 4, 4, .inr (.inr (.inr (.inr (fun i => if i < 4 then some (r i) else none)))))) := by rw [ew_19, va_up_ne _ _ (ne_n hny0 h18_zo)]; exact h18_zo
  have h19__r_0_ : w_19 (r 0) = some (cA g 10 (fun _ => 0)) := by rw [ew_19]; exact va_up_self _ _ _
  have hny1 : w_19 (r 1) = none := by rw [ew_19, ew_18]; exact hnz2
  obtain ⟨w_20, ew_20⟩ : ∃ zz9 : Nat → Option va_E, zz9 = va_up w_19 (r 1) (some (cA g 10 (fun _ => 0))) := ⟨_, rfl⟩
  rw [← ew_20] at hw
  have h20_q_1 : w_20 q_1 = some (.inr (4, [.ref sg, .int 0, .ref fo])) := by rw [ew_20, va_up_ne _ _ (ne_n hny1 h19_q_1)]; exact h19_q_1
  have h20_q_9 : w_20 q_9 = some (.inr (6, [.int 0, .ref (g.2.2 1), .int 0])) := by rw [ew_20, va_up_ne _ _ (ne_n hny1 h19_q_9)]; exact h19_q_9
  have h20_q_13 : w_20 q_13 = some (.inr (6, [.int 0, .ref (g.2.2 1), .int 0])) := by rw [ew_20, va_up_ne _ _ (ne_n hny1 h19_q_13)]; exact h19_q_13
  have h20_th : w_20 th = some (.inr (0, [.ref q_1, .ref q_5, .int 0, .ref q_9, .ref q_13, .null])) := by rw [ew_20, va_up_ne _ _ (ne_n hny1 h19_th)]; exact h19_th
  have h20_sg : w_20 sg = some (cA g 300 (fun _ => 0)) := by rw [ew_20, va_up_ne _ _ (ne_n hny1 h19_sg)]; exact h19_sg
  have h20_fo : w_20 fo = some (cA g 45 (fun _ => 0)) := by rw [ew_20, va_up_ne _ _ (ne_n hny1 h19_fo)]; exact h19_fo
  have h20_q_5 : w_20 q_5 = some (cA g 45 f_8) := by rw [ew_20, va_up_ne _ _ (ne_n hny1 h19_q_5)]; exact h19_q_5
  have h20_zo : w_20 zo = some (.inl (g.2.1 4, 4, .inr (.inr (.inr (.inr (fun i => if i < 4 then some (r i) else none)))))) := by rw [ew_20, va_up_ne _ _ (ne_n hny1 h19_zo)]; exact h19_zo
  have h20__r_0_ : w_20 (r 0) = some (cA g 10 (fun _ => 0)) := by rw [ew_20, va_up_ne _ _ (ne_n hny1 h19__r_0_)]; exact h19__r_0_
  have h20__r_1_ : w_20 (r 1) = some (cA g 10 (fun _ => 0)) := by rw [ew_20]; exact va_up_self _ _ _
  have hny2 : w_20 (r 2) = none := by rw [ew_20, ew_19, ew_18]; exact hnz3
  obtain ⟨w_21, ew_21⟩ : ∃ zz9 : Nat → Option va_E, zz9 = va_up w_20 (r 2) (some (cA g 10 (fun _ => 0))) := ⟨_, rfl⟩
  rw [← ew_21] at hw
  have h21_q_1 : w_21 q_1 = some (.inr (4, [.ref sg, .int 0, .ref fo])) := by rw [ew_21, va_up_ne _ _ (ne_n hny2 h20_q_1)]; exact h20_q_1
  have h21_q_9 : w_21 q_9 = some (.inr (6, [.int 0, .ref (g.2.2 1), .int 0])) := by rw [ew_21, va_up_ne _ _ (ne_n hny2 h20_q_9)]; exact h20_q_9
  have h21_q_13 : w_21 q_13 = some (.inr (6, [.int 0, .ref (g.2.2 1), .int 0])) := by rw [ew_21, va_up_ne _ _ (ne_n hny2 h20_q_13)]; exact h20_q_13
  have h21_th : w_21 th = some (.inr (0, [.ref q_1, .ref q_5, .int 0, .ref q_9, .ref q_13, .null])) := by rw [ew_21, va_up_ne _ _ (ne_n hny2 h20_th)]; exact h20_th
  have h21_sg : w_21 sg = some (cA g 300 (fun _ => 0)) := by rw [ew_21, va_up_ne _ _ (ne_n hny2 h20_sg)]; exact h20_sg
  have h21_fo : w_21 fo = some (cA g 45 (fun _ => 0)) := by rw [ew_21, va_up_ne _ _ (ne_n hny2 h20_fo)]; exact h20_fo
  have h21_q_5 : w_21 q_5 = some (cA g 45 f_8) := by rw [ew_21, va_up_ne _ _ (ne_n hny2 h20_q_5)]; exact h20_q_5
  have h21_zo : w_21 zo = some (.inl (g.2.1 4, 4, .inr (.inr (.inr (.inr (fun i => if i < 4 then some (r i) else none)))))) := by rw [ew_21, va_up_ne _ _ (ne_n hny2 h20_zo)]; exact h20_zo
  have h21__r_0_ : w_21 (r 0) = some (cA g 10 (fun _ => 0)) := by rw [ew_21, va_up_ne _ _ (ne_n hny2 h20__r_0_)]; exact h20__r_0_
  have h21__r_1_ : w_21 (r 1) = some (cA g 10 (fun _ => 0)) := by rw [ew_21, va_up_ne _ _ (ne_n hny2 h20__r_1_)]; exact h20__r_1_
  have h21__r_2_ : w_21 (r 2) = some (cA g 10 (fun _ => 0)) := by rw [ew_21]; exact va_up_self _ _ _
  have hny3 : w_21 (r 3) = none := by rw [ew_21, ew_20, ew_19, ew_18]; exact hnz4
  obtain ⟨w_22, ew_22⟩ : ∃ zz9 : Nat → Option va_E, zz9 = va_up w_21 (r 3) (some (cA g 10 (fun _ => 0))) := ⟨_, rfl⟩
  rw [← ew_22] at hw
  have h22_q_1 : w_22 q_1 = some (.inr (4, [.ref sg, .int 0, .ref fo])) := by rw [ew_22, va_up_ne _ _ (ne_n hny3 h21_q_1)]; exact h21_q_1
  have h22_q_9 : w_22 q_9 = some (.inr (6, [.int 0, .ref (g.2.2 1), .int 0])) := by rw [ew_22, va_up_ne _ _ (ne_n hny3 h21_q_9)]; exact h21_q_9
  have h22_q_13 : w_22 q_13 = some (.inr (6, [.int 0, .ref (g.2.2 1), .int 0])) := by rw [ew_22, va_up_ne _ _ (ne_n hny3 h21_q_13)]; exact h21_q_13
  have h22_th : w_22 th = some (.inr (0, [.ref q_1, .ref q_5, .int 0, .ref q_9, .ref q_13, .null])) := by rw [ew_22, va_up_ne _ _ (ne_n hny3 h21_th)]; exact h21_th
  have h22_sg : w_22 sg = some (cA g 300 (fun _ => 0)) := by rw [ew_22, va_up_ne _ _ (ne_n hny3 h21_sg)]; exact h21_sg
  have h22_fo : w_22 fo = some (cA g 45 (fun _ => 0)) := by rw [ew_22, va_up_ne _ _ (ne_n hny3 h21_fo)]; exact h21_fo
  have h22_q_5 : w_22 q_5 = some (cA g 45 f_8) := by rw [ew_22, va_up_ne _ _ (ne_n hny3 h21_q_5)]; exact h21_q_5
  have h22_zo : w_22 zo = some (.inl (g.2.1 4, 4, .inr (.inr (.inr (.inr (fun i => if i < 4 then some (r i) else none)))))) := by rw [ew_22, va_up_ne _ _ (ne_n hny3 h21_zo)]; exact h21_zo
  have h22__r_0_ : w_22 (r 0) = some (cA g 10 (fun _ => 0)) := by rw [ew_22, va_up_ne _ _ (ne_n hny3 h21__r_0_)]; exact h21__r_0_
  have h22__r_1_ : w_22 (r 1) = some (cA g 10 (fun _ => 0)) := by rw [ew_22, va_up_ne _ _ (ne_n hny3 h21__r_1_)]; exact h21__r_1_
  have h22__r_2_ : w_22 (r 2) = some (cA g 10 (fun _ => 0)) := by rw [ew_22, va_up_ne _ _ (ne_n hny3 h21__r_2_)]; exact h21__r_2_
  have h22__r_3_ : w_22 (r 3) = some (cA g 10 (fun _ => 0)) := by rw [ew_22]; exact va_up_self _ _ _
  refine ww_putF (v := .ref zo) (ty := .array (.array .int)) (C := R_T) (T := F_T) (N := 6) (ci := 0) (fs' := [.ref q_1, .ref q_5, .int 0, .ref q_9, .ref q_13, .ref zo]) hx hb hts i_T ft_T ft_T_ok fn_T hown hK hw hS h22_th rfl 5 (by decide) (hts _ k_85) (fun _ h9 => h9) rfl hin rfl (by decide +kernel) rfl rfl (Nat.le_of_ble_eq_true rfl) rfl d_T_init_61 (fun H locs hw hS => ?_)
  obtain ⟨w_23, ew_23⟩ : ∃ zz9 : Nat → Option va_E, zz9 = va_up w_22 th (some (.inr (0, [.ref q_1, .ref q_5, .int 0, .ref q_9, .ref q_13, .ref zo]))) := ⟨_, rfl⟩
  rw [← ew_23] at hw
  have h23_q_1 : w_23 q_1 = some (.inr (4, [.ref sg, .int 0, .ref fo])) := by rw [ew_23, va_up_ne _ _ (ne_c h22_th h22_q_1 (fun z => by first | cases z | simp at z))]; exact h22_q_1
  have h23_q_9 : w_23 q_9 = some (.inr (6, [.int 0, .ref (g.2.2 1), .int 0])) := by rw [ew_23, va_up_ne _ _ (ne_c h22_th h22_q_9 (fun z => by first | cases z | simp at z))]; exact h22_q_9
  have h23_q_13 : w_23 q_13 = some (.inr (6, [.int 0, .ref (g.2.2 1), .int 0])) := by rw [ew_23, va_up_ne _ _ (ne_c h22_th h22_q_13 (fun z => by first | cases z | simp at z))]; exact h22_q_13
  have h23_sg : w_23 sg = some (cA g 300 (fun _ => 0)) := by rw [ew_23, va_up_ne _ _ (ne_c h22_th h22_sg (fun z => by first | cases z | simp at z))]; exact h22_sg
  have h23_fo : w_23 fo = some (cA g 45 (fun _ => 0)) := by rw [ew_23, va_up_ne _ _ (ne_c h22_th h22_fo (fun z => by first | cases z | simp at z))]; exact h22_fo
  have h23_q_5 : w_23 q_5 = some (cA g 45 f_8) := by rw [ew_23, va_up_ne _ _ (ne_c h22_th h22_q_5 (fun z => by first | cases z | simp at z))]; exact h22_q_5
  have h23_zo : w_23 zo = some (.inl (g.2.1 4, 4, .inr (.inr (.inr (.inr (fun i => if i < 4 then some (r i) else none)))))) := by rw [ew_23, va_up_ne _ _ (ne_c h22_th h22_zo (fun z => by first | cases z | simp at z))]; exact h22_zo
  have h23__r_0_ : w_23 (r 0) = some (cA g 10 (fun _ => 0)) := by rw [ew_23, va_up_ne _ _ (ne_c h22_th h22__r_0_ (fun z => by first | cases z | simp at z))]; exact h22__r_0_
  have h23__r_1_ : w_23 (r 1) = some (cA g 10 (fun _ => 0)) := by rw [ew_23, va_up_ne _ _ (ne_c h22_th h22__r_1_ (fun z => by first | cases z | simp at z))]; exact h22__r_1_
  have h23__r_2_ : w_23 (r 2) = some (cA g 10 (fun _ => 0)) := by rw [ew_23, va_up_ne _ _ (ne_c h22_th h22__r_2_ (fun z => by first | cases z | simp at z))]; exact h22__r_2_
  have h23__r_3_ : w_23 (r 3) = some (cA g 10 (fun _ => 0)) := by rw [ew_23, va_up_ne _ _ (ne_c h22_th h22__r_3_ (fun z => by first | cases z | simp at z))]; exact h22__r_3_
  have h23_th : w_23 th = some (.inr (0, [.ref q_1, .ref q_5, .int 0, .ref q_9, .ref q_13, .ref zo])) := by rw [ew_23]; exact va_up_self _ _ _
  refine lv_iconst (v := 0) hx hb d_T_init_64 (by decide) ?_
  refine lv_istore_n (lv' := [(1, .int 0), (0, .ref th)]) hx hb d_T_init_65 rfl hl (by decide) rfl (fun ls hl => ?_)
  refine lv_iload_n hx hb d_T_init_66 rfl (lv_at hl 0 rfl) ?_
  refine lv_iconst (v := 4) hx hb d_T_init_67 (by decide) ?_
  refine lv_icmp_ge (tgt := 88) hx hb d_T_init_68 (by decide) (fun z => absurd z (by decide)) (fun _ => ?_)
  refine lv_aload_n hx hb d_T_init_71 rfl (lv_at hl 1 rfl) ?_
  refine ww_get (v := .ref zo) (C := R_T) (T := F_T) (N := 6) (ci := 0) hx hb hts i_T hown hK hw h23_th rfl 5 (by decide) (hts _ k_85) (fun _ h9 => h9) rfl d_T_init_72 ?_
  refine lv_iload_n hx hb d_T_init_75 rfl (lv_at hl 0 rfl) ?_
  refine ww_aldA (v := .ref (r 0)) (i := nI 0) hx hb hK hw 4 h23_zo rfl (vp_in_nI (by decide) (by decide)) rfl d_T_init_76 ?_
  refine lv_ldc (v := 100000) hx hb hown (hts _ k_79) d_T_init_77 ?_
  refine ww_v (cS (As := [.ref (r 0), .int 100000]) (rest := []) 2 ⟨hx, hb, hml, hown, hts⟩ (c_AR_fill l g H.size w_23 (r 0) 10 (fun _ => 0) 100000 h23__r_0_ (by decide)) k_50 k_48 k_3 k_49 (by decide +kernel) ⟨Nat.le_of_ble_eq_true rfl, Nat.le_of_ble_eq_true rfl⟩ rfl rfl ⟨prW_blind _ _ _ _, prW_at hG hAB hS hw⟩ rfl hl.1 rfl (Nat.le_of_ble_eq_true rfl) d_T_init_79 ⟨Nat.le_of_ble_eq_true rfl, Nat.le_of_ble_eq_true rfl⟩) hw hS hA (fun w_25 H locs e_25 hw hS hz_25 hk_25 hg_25 => ?_)
  obtain ⟨f_25, hfl_25, ew_25⟩ := e_25
  have h25_q_1 : w_25 q_1 = some (.inr (4, [.ref sg, .int 0, .ref fo])) := by rw [ew_25, va_up_ne _ _ (ne_c h23__r_0_ h23_q_1 (fun z => by first | cases z | simp at z))]; exact h23_q_1
  have h25_q_9 : w_25 q_9 = some (.inr (6, [.int 0, .ref (g.2.2 1), .int 0])) := by rw [ew_25, va_up_ne _ _ (ne_c h23__r_0_ h23_q_9 (fun z => by first | cases z | simp at z))]; exact h23_q_9
  have h25_q_13 : w_25 q_13 = some (.inr (6, [.int 0, .ref (g.2.2 1), .int 0])) := by rw [ew_25, va_up_ne _ _ (ne_c h23__r_0_ h23_q_13 (fun z => by first | cases z | simp at z))]; exact h23_q_13
  have h25_th : w_25 th = some (.inr (0, [.ref q_1, .ref q_5, .int 0, .ref q_9, .ref q_13, .ref zo])) := by rw [ew_25, va_up_ne _ _ (ne_c h23__r_0_ h23_th (fun z => by first | cases z | simp at z))]; exact h23_th
  have h25_sg : w_25 sg = some (cA g 300 (fun _ => 0)) := by rw [ew_25, va_up_ne _ _ (ne_c h23__r_0_ h23_sg (fun z => by first | cases z | simp at z))]; exact h23_sg
  have h25_fo : w_25 fo = some (cA g 45 (fun _ => 0)) := by rw [ew_25, va_up_ne _ _ (ne_c h23__r_0_ h23_fo (fun z => by first | cases z | simp at z))]; exact h23_fo
  have h25_q_5 : w_25 q_5 = some (cA g 45 f_8) := by rw [ew_25, va_up_ne _ _ (ne_c h23__r_0_ h23_q_5 (fun z => by first | cases z | simp at z))]; exact h23_q_5
  have h25_zo : w_25 zo = some (.inl (g.2.1 4, 4, .inr (.inr (.inr (.inr (fun i => if i < 4 then some (r i) else none)))))) := by rw [ew_25, va_up_ne _ _ (ne_c h23__r_0_ h23_zo (fun z => by first | cases z | simp at z))]; exact h23_zo
  have h25__r_1_ : w_25 (r 1) = some (cA g 10 (fun _ => 0)) := by rw [ew_25, va_up_ne _ _ (fun e9 => absurd (hinj 1 0 (by decide) (by decide) e9) (by decide))]; exact h23__r_1_
  have h25__r_2_ : w_25 (r 2) = some (cA g 10 (fun _ => 0)) := by rw [ew_25, va_up_ne _ _ (fun e9 => absurd (hinj 2 0 (by decide) (by decide) e9) (by decide))]; exact h23__r_2_
  have h25__r_3_ : w_25 (r 3) = some (cA g 10 (fun _ => 0)) := by rw [ew_25, va_up_ne _ _ (fun e9 => absurd (hinj 3 0 (by decide) (by decide) e9) (by decide))]; exact h23__r_3_
  have h25__r_0_ : w_25 (r 0) = some (cA g 10 f_25) := by rw [ew_25]; exact va_up_self _ _ _
  refine lv_iinc (v := 1) (lv' := [(1, .int 1), (0, .ref th)]) hx hb d_T_init_82 hl (k := 0) rfl (by decide) (by decide) rfl (fun ls hl => ?_)
  refine lv_goto (tgt := 66) hx hb d_T_init_85 (by decide) ?_
  refine lv_iload_n hx hb d_T_init_66 rfl (lv_at hl 0 rfl) ?_
  refine lv_iconst (v := 4) hx hb d_T_init_67 (by decide) ?_
  refine lv_icmp_ge (tgt := 88) hx hb d_T_init_68 (by decide) (fun z => absurd z (by decide)) (fun _ => ?_)
  refine lv_aload_n hx hb d_T_init_71 rfl (lv_at hl 1 rfl) ?_
  refine ww_get (v := .ref zo) (C := R_T) (T := F_T) (N := 6) (ci := 0) hx hb hts i_T hown hK hw h25_th rfl 5 (by decide) (hts _ k_85) (fun _ h9 => h9) rfl d_T_init_72 ?_
  refine lv_iload_n hx hb d_T_init_75 rfl (lv_at hl 0 rfl) ?_
  refine ww_aldA (v := .ref (r 1)) (i := nI 1) hx hb hK hw 4 h25_zo rfl (vp_in_nI (by decide) (by decide)) rfl d_T_init_76 ?_
  refine lv_ldc (v := 100000) hx hb hown (hts _ k_79) d_T_init_77 ?_
  refine ww_v (cS (As := [.ref (r 1), .int 100000]) (rest := []) 2 ⟨hx, hb, hml, hown, hts⟩ (c_AR_fill l g H.size w_25 (r 1) 10 (fun _ => 0) 100000 h25__r_1_ (by decide)) k_50 k_48 k_3 k_49 (by decide +kernel) ⟨Nat.le_of_ble_eq_true rfl, Nat.le_of_ble_eq_true rfl⟩ rfl rfl ⟨prW_blind _ _ _ _, prW_at hG hAB hS hw⟩ rfl hl.1 rfl (Nat.le_of_ble_eq_true rfl) d_T_init_79 ⟨Nat.le_of_ble_eq_true rfl, Nat.le_of_ble_eq_true rfl⟩) hw hS hA (fun w_27 H locs e_27 hw hS hz_27 hk_27 hg_27 => ?_)
  obtain ⟨f_27, hfl_27, ew_27⟩ := e_27
  have h27_q_1 : w_27 q_1 = some (.inr (4, [.ref sg, .int 0, .ref fo])) := by rw [ew_27, va_up_ne _ _ (ne_c h25__r_1_ h25_q_1 (fun z => by first | cases z | simp at z))]; exact h25_q_1
  have h27_q_9 : w_27 q_9 = some (.inr (6, [.int 0, .ref (g.2.2 1), .int 0])) := by rw [ew_27, va_up_ne _ _ (ne_c h25__r_1_ h25_q_9 (fun z => by first | cases z | simp at z))]; exact h25_q_9
  have h27_q_13 : w_27 q_13 = some (.inr (6, [.int 0, .ref (g.2.2 1), .int 0])) := by rw [ew_27, va_up_ne _ _ (ne_c h25__r_1_ h25_q_13 (fun z => by first | cases z | simp at z))]; exact h25_q_13
  have h27_th : w_27 th = some (.inr (0, [.ref q_1, .ref q_5, .int 0, .ref q_9, .ref q_13, .ref zo])) := by rw [ew_27, va_up_ne _ _ (ne_c h25__r_1_ h25_th (fun z => by first | cases z | simp at z))]; exact h25_th
  have h27_sg : w_27 sg = some (cA g 300 (fun _ => 0)) := by rw [ew_27, va_up_ne _ _ (ne_c h25__r_1_ h25_sg (fun z => by first | cases z | simp at z))]; exact h25_sg
  have h27_fo : w_27 fo = some (cA g 45 (fun _ => 0)) := by rw [ew_27, va_up_ne _ _ (ne_c h25__r_1_ h25_fo (fun z => by first | cases z | simp at z))]; exact h25_fo
  have h27_q_5 : w_27 q_5 = some (cA g 45 f_8) := by rw [ew_27, va_up_ne _ _ (ne_c h25__r_1_ h25_q_5 (fun z => by first | cases z | simp at z))]; exact h25_q_5
  have h27_zo : w_27 zo = some (.inl (g.2.1 4, 4, .inr (.inr (.inr (.inr (fun i => if i < 4 then some (r i) else none)))))) := by rw [ew_27, va_up_ne _ _ (ne_c h25__r_1_ h25_zo (fun z => by first | cases z | simp at z))]; exact h25_zo
  have h27__r_2_ : w_27 (r 2) = some (cA g 10 (fun _ => 0)) := by rw [ew_27, va_up_ne _ _ (fun e9 => absurd (hinj 2 1 (by decide) (by decide) e9) (by decide))]; exact h25__r_2_
  have h27__r_3_ : w_27 (r 3) = some (cA g 10 (fun _ => 0)) := by rw [ew_27, va_up_ne _ _ (fun e9 => absurd (hinj 3 1 (by decide) (by decide) e9) (by decide))]; exact h25__r_3_
  have h27__r_0_ : w_27 (r 0) = some (cA g 10 f_25) := by rw [ew_27, va_up_ne _ _ (fun e9 => absurd (hinj 0 1 (by decide) (by decide) e9) (by decide))]; exact h25__r_0_
  have h27__r_1_ : w_27 (r 1) = some (cA g 10 f_27) := by rw [ew_27]; exact va_up_self _ _ _
  refine lv_iinc (v := 2) (lv' := [(1, .int 2), (0, .ref th)]) hx hb d_T_init_82 hl (k := 0) rfl (by decide) (by decide) rfl (fun ls hl => ?_)
  refine lv_goto (tgt := 66) hx hb d_T_init_85 (by decide) ?_
  refine lv_iload_n hx hb d_T_init_66 rfl (lv_at hl 0 rfl) ?_
  refine lv_iconst (v := 4) hx hb d_T_init_67 (by decide) ?_
  refine lv_icmp_ge (tgt := 88) hx hb d_T_init_68 (by decide) (fun z => absurd z (by decide)) (fun _ => ?_)
  refine lv_aload_n hx hb d_T_init_71 rfl (lv_at hl 1 rfl) ?_
  refine ww_get (v := .ref zo) (C := R_T) (T := F_T) (N := 6) (ci := 0) hx hb hts i_T hown hK hw h27_th rfl 5 (by decide) (hts _ k_85) (fun _ h9 => h9) rfl d_T_init_72 ?_
  refine lv_iload_n hx hb d_T_init_75 rfl (lv_at hl 0 rfl) ?_
  refine ww_aldA (v := .ref (r 2)) (i := nI 2) hx hb hK hw 4 h27_zo rfl (vp_in_nI (by decide) (by decide)) rfl d_T_init_76 ?_
  refine lv_ldc (v := 100000) hx hb hown (hts _ k_79) d_T_init_77 ?_
  refine ww_v (cS (As := [.ref (r 2), .int 100000]) (rest := []) 2 ⟨hx, hb, hml, hown, hts⟩ (c_AR_fill l g H.size w_27 (r 2) 10 (fun _ => 0) 100000 h27__r_2_ (by decide)) k_50 k_48 k_3 k_49 (by decide +kernel) ⟨Nat.le_of_ble_eq_true rfl, Nat.le_of_ble_eq_true rfl⟩ rfl rfl ⟨prW_blind _ _ _ _, prW_at hG hAB hS hw⟩ rfl hl.1 rfl (Nat.le_of_ble_eq_true rfl) d_T_init_79 ⟨Nat.le_of_ble_eq_true rfl, Nat.le_of_ble_eq_true rfl⟩) hw hS hA (fun w_29 H locs e_29 hw hS hz_29 hk_29 hg_29 => ?_)
  obtain ⟨f_29, hfl_29, ew_29⟩ := e_29
  have h29_q_1 : w_29 q_1 = some (.inr (4, [.ref sg, .int 0, .ref fo])) := by rw [ew_29, va_up_ne _ _ (ne_c h27__r_2_ h27_q_1 (fun z => by first | cases z | simp at z))]; exact h27_q_1
  have h29_q_9 : w_29 q_9 = some (.inr (6, [.int 0, .ref (g.2.2 1), .int 0])) := by rw [ew_29, va_up_ne _ _ (ne_c h27__r_2_ h27_q_9 (fun z => by first | cases z | simp at z))]; exact h27_q_9
  have h29_q_13 : w_29 q_13 = some (.inr (6, [.int 0, .ref (g.2.2 1), .int 0])) := by rw [ew_29, va_up_ne _ _ (ne_c h27__r_2_ h27_q_13 (fun z => by first | cases z | simp at z))]; exact h27_q_13
  have h29_th : w_29 th = some (.inr (0, [.ref q_1, .ref q_5, .int 0, .ref q_9, .ref q_13, .ref zo])) := by rw [ew_29, va_up_ne _ _ (ne_c h27__r_2_ h27_th (fun z => by first | cases z | simp at z))]; exact h27_th
  have h29_sg : w_29 sg = some (cA g 300 (fun _ => 0)) := by rw [ew_29, va_up_ne _ _ (ne_c h27__r_2_ h27_sg (fun z => by first | cases z | simp at z))]; exact h27_sg
  have h29_fo : w_29 fo = some (cA g 45 (fun _ => 0)) := by rw [ew_29, va_up_ne _ _ (ne_c h27__r_2_ h27_fo (fun z => by first | cases z | simp at z))]; exact h27_fo
  have h29_q_5 : w_29 q_5 = some (cA g 45 f_8) := by rw [ew_29, va_up_ne _ _ (ne_c h27__r_2_ h27_q_5 (fun z => by first | cases z | simp at z))]; exact h27_q_5
  have h29_zo : w_29 zo = some (.inl (g.2.1 4, 4, .inr (.inr (.inr (.inr (fun i => if i < 4 then some (r i) else none)))))) := by rw [ew_29, va_up_ne _ _ (ne_c h27__r_2_ h27_zo (fun z => by first | cases z | simp at z))]; exact h27_zo
  have h29__r_3_ : w_29 (r 3) = some (cA g 10 (fun _ => 0)) := by rw [ew_29, va_up_ne _ _ (fun e9 => absurd (hinj 3 2 (by decide) (by decide) e9) (by decide))]; exact h27__r_3_
  have h29__r_0_ : w_29 (r 0) = some (cA g 10 f_25) := by rw [ew_29, va_up_ne _ _ (fun e9 => absurd (hinj 0 2 (by decide) (by decide) e9) (by decide))]; exact h27__r_0_
  have h29__r_1_ : w_29 (r 1) = some (cA g 10 f_27) := by rw [ew_29, va_up_ne _ _ (fun e9 => absurd (hinj 1 2 (by decide) (by decide) e9) (by decide))]; exact h27__r_1_
  have h29__r_2_ : w_29 (r 2) = some (cA g 10 f_29) := by rw [ew_29]; exact va_up_self _ _ _
  refine lv_iinc (v := 3) (lv' := [(1, .int 3), (0, .ref th)]) hx hb d_T_init_82 hl (k := 0) rfl (by decide) (by decide) rfl (fun ls hl => ?_)
  refine lv_goto (tgt := 66) hx hb d_T_init_85 (by decide) ?_
  refine lv_iload_n hx hb d_T_init_66 rfl (lv_at hl 0 rfl) ?_
  refine lv_iconst (v := 4) hx hb d_T_init_67 (by decide) ?_
  refine lv_icmp_ge (tgt := 88) hx hb d_T_init_68 (by decide) (fun z => absurd z (by decide)) (fun _ => ?_)
  refine lv_aload_n hx hb d_T_init_71 rfl (lv_at hl 1 rfl) ?_
  refine ww_get (v := .ref zo) (C := R_T) (T := F_T) (N := 6) (ci := 0) hx hb hts i_T hown hK hw h29_th rfl 5 (by decide) (hts _ k_85) (fun _ h9 => h9) rfl d_T_init_72 ?_
  refine lv_iload_n hx hb d_T_init_75 rfl (lv_at hl 0 rfl) ?_
  refine ww_aldA (v := .ref (r 3)) (i := nI 3) hx hb hK hw 4 h29_zo rfl (vp_in_nI (by decide) (by decide)) rfl d_T_init_76 ?_
  refine lv_ldc (v := 100000) hx hb hown (hts _ k_79) d_T_init_77 ?_
  refine ww_v (cS (As := [.ref (r 3), .int 100000]) (rest := []) 2 ⟨hx, hb, hml, hown, hts⟩ (c_AR_fill l g H.size w_29 (r 3) 10 (fun _ => 0) 100000 h29__r_3_ (by decide)) k_50 k_48 k_3 k_49 (by decide +kernel) ⟨Nat.le_of_ble_eq_true rfl, Nat.le_of_ble_eq_true rfl⟩ rfl rfl ⟨prW_blind _ _ _ _, prW_at hG hAB hS hw⟩ rfl hl.1 rfl (Nat.le_of_ble_eq_true rfl) d_T_init_79 ⟨Nat.le_of_ble_eq_true rfl, Nat.le_of_ble_eq_true rfl⟩) hw hS hA (fun w_31 H locs e_31 hw hS hz_31 hk_31 hg_31 => ?_)
  obtain ⟨f_31, hfl_31, ew_31⟩ := e_31
  have h31_q_1 : w_31 q_1 = some (.inr (4, [.ref sg, .int 0, .ref fo])) := by rw [ew_31, va_up_ne _ _ (ne_c h29__r_3_ h29_q_1 (fun z => by first | cases z | simp at z))]; exact h29_q_1
  have h31_q_9 : w_31 q_9 = some (.inr (6, [.int 0, .ref (g.2.2 1), .int 0])) := by rw [ew_31, va_up_ne _ _ (ne_c h29__r_3_ h29_q_9 (fun z => by first | cases z | simp at z))]; exact h29_q_9
  have h31_q_13 : w_31 q_13 = some (.inr (6, [.int 0, .ref (g.2.2 1), .int 0])) := by rw [ew_31, va_up_ne _ _ (ne_c h29__r_3_ h29_q_13 (fun z => by first | cases z | simp at z))]; exact h29_q_13
  have h31_th : w_31 th = some (.inr (0, [.ref q_1, .ref q_5, .int 0, .ref q_9, .ref q_13, .ref zo])) := by rw [ew_31, va_up_ne _ _ (ne_c h29__r_3_ h29_th (fun z => by first | cases z | simp at z))]; exact h29_th
  have h31_sg : w_31 sg = some (cA g 300 (fun _ => 0)) := by rw [ew_31, va_up_ne _ _ (ne_c h29__r_3_ h29_sg (fun z => by first | cases z | simp at z))]; exact h29_sg
  have h31_fo : w_31 fo = some (cA g 45 (fun _ => 0)) := by rw [ew_31, va_up_ne _ _ (ne_c h29__r_3_ h29_fo (fun z => by first | cases z | simp at z))]; exact h29_fo
  have h31_q_5 : w_31 q_5 = some (cA g 45 f_8) := by rw [ew_31, va_up_ne _ _ (ne_c h29__r_3_ h29_q_5 (fun z => by first | cases z | simp at z))]; exact h29_q_5
  have h31_zo : w_31 zo = some (.inl (g.2.1 4, 4, .inr (.inr (.inr (.inr (fun i => if i < 4 then some (r i) else none)))))) := by rw [ew_31, va_up_ne _ _ (ne_c h29__r_3_ h29_zo (fun z => by first | cases z | simp at z))]; exact h29_zo
  have h31__r_0_ : w_31 (r 0) = some (cA g 10 f_25) := by rw [ew_31, va_up_ne _ _ (fun e9 => absurd (hinj 0 3 (by decide) (by decide) e9) (by decide))]; exact h29__r_0_
  have h31__r_1_ : w_31 (r 1) = some (cA g 10 f_27) := by rw [ew_31, va_up_ne _ _ (fun e9 => absurd (hinj 1 3 (by decide) (by decide) e9) (by decide))]; exact h29__r_1_
  have h31__r_2_ : w_31 (r 2) = some (cA g 10 f_29) := by rw [ew_31, va_up_ne _ _ (fun e9 => absurd (hinj 2 3 (by decide) (by decide) e9) (by decide))]; exact h29__r_2_
  have h31__r_3_ : w_31 (r 3) = some (cA g 10 f_31) := by rw [ew_31]; exact va_up_self _ _ _
  refine lv_iinc (v := 4) (lv' := [(1, .int 4), (0, .ref th)]) hx hb d_T_init_82 hl (k := 0) rfl (by decide) (by decide) rfl (fun ls hl => ?_)
  refine lv_goto (tgt := 66) hx hb d_T_init_85 (by decide) ?_
  refine lv_iload_n hx hb d_T_init_66 rfl (lv_at hl 0 rfl) ?_
  refine lv_iconst (v := 4) hx hb d_T_init_67 (by decide) ?_
  refine lv_icmp_ge (tgt := 88) hx hb d_T_init_68 (by decide) (fun _ => ?_) (fun z => absurd z (by decide))
  exact W.vret hx hb hr (fun t ht hW => ⟨⟨w_31, rfl, ⟨q_1, q_5, q_9, q_13, zo, sg, fo, r, _, _, _, h31_th, h31_q_1, h31_sg, h31_fo, h31_q_5, hfl_8, h31_q_9, h31_q_13, hgb, hrf, h31_zo, four ⟨_, h31__r_0_, hfl_25⟩ ⟨_, h31__r_1_, hfl_27⟩ ⟨_, h31__r_2_, hfl_29⟩ ⟨_, h31__r_3_, hfl_31⟩, hinj⟩, ww_t ht hw⟩, hS.F ht⟩) hS.2.2 d_T_init_88

