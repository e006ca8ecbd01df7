/-! ARRAYLIST: add, with its growing -/
theorem cpy_at {f g0 : Nat → Option Nat} {n i : Nat} (hn : n < 2 ^ 31) (hi : i < n) : va_cpy f g0 (0 : Int32).toNatClampNeg (0 : Int32).toNatClampNeg (nI n).toNatClampNeg i = f i := by
  rw [nI_clamp hn, sb_cl0, pk_cpy_in (Nat.zero_le _) (by omega), Nat.sub_zero, Nat.zero_add]
set_option maxHeartbeats 4000000 in
set_option maxRecDepth 100000 in
theorem c_AR_copyOf2 (l : Launch) (g : GT) (sz : Nat) (w : Nat → Option va_E) (a0 n N : Nat) (f : Nat → Option Nat) (ha : w a0 = some (cO g n f)) (hn : n ≤ N) (hN : N ≤ 30) (hel : ∀ i : Nat, i < n → ∀ y : Nat, f i = some y → isO w y) : Met l y_AR_copyOf2 (.code y_AR_copyOf2 b_AR_copyOf2 4 ((some (.array (.object "java/lang/Object")))) :: GW) ({ frames := 1, cells := 1, slots := 30, locals := 23 }) (prW g sz [.ref a0, .int (nI N), .ref (g.2.2 4)] w) (qQ g sz w (fun w1 ra => w ra = none ∧ ∃ f1 : Nat → Option Nat, (∀ i : Nat, i < n → f1 i = f i) ∧ w1 = va_up w ra (some (cO g N f1)))) 1 30 (gA w sz) := by
  refine Met.ofW (cc := b_AR_copyOf2) (maxL := 4) (ret := (some (.array (.object "java/lang/Object")))) (by decide) rfl ?_
  intro p e s m args below meth c s₁ B hml hv
  obtain ⟨rfl, hsz, hG, hw0⟩ := hv
  have hx := B.exec
  have hb := B.bytes
  have hr := B.returns
  have hts : ∀ w ∈ GW, w.before _ s = true := fun w h => atoms_spec (ws := .code y_AR_copyOf2 b_AR_copyOf2 4 ((some (.array (.object "java/lang/Object")))) :: GW) B.pre w (List.mem_cons_of_mem _ h)
  have hown : s.vm.findClass "java/util/Arrays" = some m.cls := findClass_of_methodNamed B.named
  have hlocks := B.notSynchronized
  have hf := hG.here
  have hK := hf.1
  subst hsz
  have hw := hw0.self s.heap.size
  have hAB : ∀ q, gA w s.heap.size q → gB g q := fun q h => h.elim (fun z => z.elim (fun _ he => hw0.inA he)) (fun h => Nat.le_trans hG.1 h)
  have hA : ∀ q, s.heap.size ≤ q → gA w s.heap.size q := fun q h => Or.inr h
  have hS : va_S (gA w s.heap.size) s.heap s.heap [] := va_S.rf
  have hl := lv_entry ([.ref a0, .int (nI N), .ref (g.2.2 4)]) (n := 4) (Nat.le_of_ble_eq_true rfl)
  rw [lg_entry_eq]
  generalize (lg_sl ([.ref a0, .int (nI N), .ref (g.2.2 4)]) ++ List.replicate (4 - (lg_sl ([.ref a0, .int (nI N), .ref (g.2.2 4)])).length) Slot.unset).toArray = ls at hl ⊢
  have hl : lv_has ls 4 [(0, .ref a0), (1, .int (nI N)), (2, .ref (g.2.2 4))] := hl
  refine lv_aload_n hx hb d_AR_copyOf2_0 rfl (lv_at hl 2 rfl) ?_
  refine va_ldcM hx hb hown (hts _ k_389) hf.2.2.2.2.2.2.1 d_AR_copyOf2_1 ?_
  refine lv_acmp_ne (rx := some (g.2.2 4)) (ry := some (g.2.2 4)) (tgt := 13) hx hb d_AR_copyOf2_3 (by decide) (fun z => absurd rfl z) (fun _ => ?_)
  refine lv_iload_n hx hb d_AR_copyOf2_6 rfl (lv_at hl 1 rfl) ?_
  refine ww_newq hx hb hown (hts _ k_391) hf.2.2.1 hK hw hS hA 3 rfl (nI_pos (by omega)) (nI_clamp (by omega)) (by omega) (Nat.le_of_ble_eq_true rfl) (show 0 + N ≤ 30 by omega) d_AR_copyOf2_7 (fun q_1 H hn_1 hw hS => ?_)
  refine W.widen (k := 1) (n := 30) (by omega) (by omega) ?_
  obtain ⟨w_2, ew_2⟩ : ∃ zz9 : Nat → Option va_E, zz9 = va_up w q_1 (some (cO g N (fun _ => none))) := ⟨_, rfl⟩
  rw [← ew_2] at hw
  have h2_a0 : w_2 a0 = some (cO g n f) := by rw [ew_2, va_up_ne _ _ (ne_n hn_1 ha)]; exact ha
  have h2_q_1 : w_2 q_1 = some (cO g N (fun _ => none)) := by rw [ew_2]; exact va_up_self _ _ _
  refine lv_goto (tgt := 24) hx hb d_AR_copyOf2_10 (by decide) ?_
  refine lv_astore_n (lv' := [(3, .ref q_1), (0, .ref a0), (1, .int (nI N)), (2, .ref (g.2.2 4))]) hx hb d_AR_copyOf2_24 rfl hl (by decide) rfl (fun ls hl => ?_)
  refine lv_aload_n hx hb d_AR_copyOf2_25 rfl (lv_at hl 1 rfl) ?_
  refine lv_iconst (v := 0) hx hb d_AR_copyOf2_26 (by decide) ?_
  refine lv_aload_n hx hb d_AR_copyOf2_27 rfl (lv_at hl 0 rfl) ?_
  refine lv_iconst (v := 0) hx hb d_AR_copyOf2_28 (by decide) ?_
  refine lv_aload_n hx hb d_AR_copyOf2_29 rfl (lv_at hl 1 rfl) ?_
  refine ww_alen (v := nI n) hx hb hK hw 3 h2_a0 rfl rfl d_AR_copyOf2_30 ?_
  refine lv_iload_n hx hb d_AR_copyOf2_31 rfl (lv_at hl 2 rfl) ?_
  refine va_mmin hx hb (hml.trans hl.1.symm) hown (hts _ k_392) (hts _ k_393) (hts _ k_16) (hts _ k_394) (Nat.le_of_ble_eq_true rfl) (Nat.le_of_ble_eq_true rfl) (Nat.le_of_ble_eq_true rfl) (Nat.le_of_ble_eq_true rfl) d_AR_copyOf2_32 ?_
  refine lv_topi (fun v_3 e_3 => ?_)
  obtain rfl : v_3 = nI n := by rw [e_3, mn_nI (by omega) (by omega), Nat.min_eq_left hn]
  refine ww_copyM hx hb (hml.trans hl.1.symm) hown (hts _ k_395) (hts _ k_140) (hts _ k_139) (hts _ k_8) hK hw hS 3 3 h2_a0 h2_q_1 rfl rfl (by decide) (by decide) (nI_pos (by omega)) (by rw [nI_clamp (by omega), sb_cl0]; omega) (by rw [nI_clamp (by omega), sb_cl0]; omega) (fun i hi y hy => isO_any hf hw (by
      rw [nI_clamp (by omega)] at hi
      rw [sb_cl0, Nat.zero_add] at hy
      obtain ⟨ci, vs, g1, g2⟩ := hel i hi y hy
      exact ⟨ci, vs, by rw [ew_2, va_up_ne _ _ (ne_n hn_1 g1)]; exact g1, g2⟩)) (Nat.le_of_ble_eq_true rfl) (Nat.le_of_ble_eq_true rfl) d_AR_copyOf2_35 (fun H locs hw hS => ?_)
  obtain ⟨w_5, ew_5⟩ : ∃ zz9 : Nat → Option va_E, zz9 = va_up w_2 q_1 (some (cO g N (va_cpy f (fun _ => none) (0 : Int32).toNatClampNeg (0 : Int32).toNatClampNeg (nI n).toNatClampNeg))) := ⟨_, rfl⟩
  rw [← ew_5] at hw
  have h5_a0 : w_5 a0 = some (cO g n f) := by rw [ew_5, va_up_ne _ _ (ne_n hn_1 ha)]; exact h2_a0
  have h5_q_1 : w_5 q_1 = some (cO g N (va_cpy f (fun _ => none) (0 : Int32).toNatClampNeg (0 : Int32).toNatClampNeg (nI n).toNatClampNeg)) := by rw [ew_5]; exact va_up_self _ _ _
  refine lv_aload_n hx hb d_AR_copyOf2_38 rfl (lv_at hl 0 rfl) ?_
  exact W.aret (v := .ref q_1) hx hb hr (Or.inr ⟨_, rfl⟩) (Or.inr ⟨_, rfl⟩) (fun t ht hW => ⟨⟨w_5, q_1, rfl, trivial, ⟨hn_1, _, fun i hi => cpy_at (by omega) hi, by rw [ew_5, ew_2, bx_uu]⟩, ww_t ht hw⟩, hS.F ht⟩) hS.2.2 d_AR_copyOf2_39

set_option maxHeartbeats 4000000 in
set_option maxRecDepth 100000 in
theorem c_AR_copyOf (l : Launch) (g : GT) (sz : Nat) (w : Nat → Option va_E) (a0 n N : Nat) (f : Nat → Option Nat) (ha : w a0 = some (cO g n f)) (hn : n ≤ N) (hN : N ≤ 30) (hel : ∀ i : Nat, i < n → ∀ y : Nat, f i = some y → isO w y) : Met l y_AR_copyOf (.code y_AR_copyOf b_AR_copyOf 2 ((some (.array (.object "java/lang/Object")))) :: GW) ({ frames := 2, cells := 1, slots := 30, locals := 46 }) (prW g sz [.ref a0, .int (nI N)] w) (qQ g sz w (fun w1 ra => w ra = none ∧ ∃ f1 : Nat → Option Nat, (∀ i : Nat, i < n → f1 i = f i) ∧ w1 = va_up w ra (some (cO g N f1)))) 1 30 (gA w sz) := by
  refine Met.ofW (cc := b_AR_copyOf) (maxL := 2) (ret := (some (.array (.object "java/lang/Object")))) (by decide) rfl ?_
  intro p e s m args below meth c s₁ B hml hv
  obtain ⟨rfl, hsz, hG, hw0⟩ := hv
  have hx := B.exec
  have hb := B.bytes
  have hr := B.returns
  have hts : ∀ w ∈ GW, w.before _ s = true := fun w h => atoms_spec (ws := .code y_AR_copyOf b_AR_copyOf 2 ((some (.array (.object "java/lang/Object")))) :: GW) B.pre w (List.mem_cons_of_mem _ h)
  have hown : s.vm.findClass "java/util/Arrays" = some m.cls := findClass_of_methodNamed B.named
  have hlocks := B.notSynchronized
  have hf := hG.here
  have hK := hf.1
  subst hsz
  have hw := hw0.self s.heap.size
  have hAB : ∀ q, gA w s.heap.size q → gB g q := fun q h => h.elim (fun z => z.elim (fun _ he => hw0.inA he)) (fun h => Nat.le_trans hG.1 h)
  have hA : ∀ q, s.heap.size ≤ q → gA w s.heap.size q := fun q h => Or.inr h
  have hS : va_S (gA w s.heap.size) s.heap s.heap [] := va_S.rf
  have hl := lv_entry ([.ref a0, .int (nI N)]) (n := 2) (Nat.le_of_ble_eq_true rfl)
  rw [lg_entry_eq]
  generalize (lg_sl ([.ref a0, .int (nI N)]) ++ List.replicate (2 - (lg_sl ([.ref a0, .int (nI N)])).length) Slot.unset).toArray = ls at hl ⊢
  have hl : lv_has ls 2 [(0, .ref a0), (1, .int (nI N))] := hl
  refine lv_aload_n hx hb d_AR_copyOf_0 rfl (lv_at hl 0 rfl) ?_
  refine lv_iload_n hx hb d_AR_copyOf_1 rfl (lv_at hl 1 rfl) ?_
  refine lv_aload_n hx hb d_AR_copyOf_2 rfl (lv_at hl 0 rfl) ?_
  refine va_getC (C := "[Ljava/lang/Object;") hx hb (hml.trans hl.1.symm) hown (hts _ k_372) (va_Nw.use rfl (hf.2.1 _ x_877)) (hts _ k_876) (hts _ k_373) (hts _ k_385) hf.2.2.2.2.2.2.1 (obj_cls hf hw ha) (Nat.le_of_ble_eq_true rfl) (Nat.le_of_ble_eq_true rfl) d_AR_copyOf_3 ?_
  refine ww_r (cS (As := [.ref a0, .int (nI N), .ref (g.2.2 4)]) (rest := []) 3 ⟨hx, hb, hml, hown, hts⟩ (c_AR_copyOf2 l g s.heap.size w a0 n N f ha hn hN hel) k_388 k_386 k_3 k_387 (by decide +kernel) ⟨Nat.le_of_ble_eq_true rfl, Nat.le_of_ble_eq_true rfl⟩ rfl rfl ⟨prW_blind _ _ _ _, prW_at hG hAB hS hw⟩ rfl hl.1 rfl (Nat.le_of_ble_eq_true rfl) d_AR_copyOf_6 ⟨Nat.le_of_ble_eq_true rfl, Nat.le_of_ble_eq_true rfl⟩) hw hS hA (fun w_1 q_1 H locs e_1 hw hS hz_1 hk_1 hg_1 => ?_)
  refine W.widen (k := 1) (n := 30) (Nat.le_of_ble_eq_true rfl) (Nat.le_of_ble_eq_true rfl) ?_
  obtain ⟨hnw_1, f_1, hf1_1, ew_1⟩ := e_1
  have h1_a0 : w_1 a0 = some (cO g n f) := by rw [ew_1, va_up_ne _ _ (ne_n hnw_1 ha)]; exact ha
  exact W.aret (v := .ref q_1) hx hb hr (Or.inr ⟨_, rfl⟩) (Or.inr ⟨_, rfl⟩) (fun t ht hW => ⟨⟨w_1, q_1, rfl, trivial, ⟨hnw_1, f_1, hf1_1, ew_1⟩, ww_t ht hw⟩, hS.F ht⟩) hS.2.2 d_AR_copyOf_9

set_option maxHeartbeats 4000000 in
set_option maxRecDepth 100000 in
theorem c_AL_grow2 (l : Launch) (g : GT) (sz : Nat) (w : Nat → Option va_E) (a arr n : Nat) (mc : Int32) (f : Nat → Option Nat) (hn : n ≤ 19) (hor : (w a = some (cL mc arr (nI n)) ∧ 0 < n ∧ w arr = some (cO g n f) ∧ ∀ i : Nat, i < n → ∀ y : Nat, f i = some y → isO w y) ∨ (w a = some (cL mc (g.2.2 1) (nI n)) ∧ n = 0)) : Met l y_AL_grow2 (.code y_AL_grow2 b_AL_grow2 4 ((some (.array (.object "java/lang/Object")))) :: GW) ({ frames := 3, cells := 1, slots := 30, locals := 67 }) (prW g sz [.ref a, .int (nI (n + 1))] w) (qQ g sz w (fun w1 ra => w ra = none ∧ ∃ (cap : Nat) (f1 : Nat → Option Nat), n < cap ∧ cap ≤ 30 ∧ (∀ i : Nat, i < n → f1 i = f i) ∧ w1 = va_up (va_up w ra (some (cO g cap f1))) a (some (cL mc ra (nI n))))) 1 30 (gA w sz) := by
  refine Met.ofW (cc := b_AL_grow2) (maxL := 4) (ret := (some (.array (.object "java/lang/Object")))) (by decide) rfl ?_
  intro p e s m args below meth c s₁ B hml hv
  obtain ⟨rfl, hsz, hG, hw0⟩ := hv
  have hx := B.exec
  have hb := B.bytes
  have hr := B.returns
  have hts : ∀ w ∈ GW, w.before _ s = true := fun w h => atoms_spec (ws := .code y_AL_grow2 b_AL_grow2 4 ((some (.array (.object "java/lang/Object")))) :: GW) B.pre w (List.mem_cons_of_mem _ h)
  have hown : s.vm.findClass "java/util/ArrayList" = some m.cls := findClass_of_methodNamed B.named
  have hlocks := B.notSynchronized
  have hf := hG.here
  have hK := hf.1
  subst hsz
  have hw := hw0.self s.heap.size
  have hAB : ∀ q, gA w s.heap.size q → gB g q := fun q h => h.elim (fun z => z.elim (fun _ he => hw0.inA he)) (fun h => Nat.le_trans hG.1 h)
  have hA : ∀ q, s.heap.size ≤ q → gA w s.heap.size q := fun q h => Or.inr h
  have hS : va_S (gA w s.heap.size) s.heap s.heap [] := va_S.rf
  have hl := lv_entry ([.ref a, .int (nI (n + 1))]) (n := 4) (Nat.le_of_ble_eq_true rfl)
  rw [lg_entry_eq]
  generalize (lg_sl ([.ref a, .int (nI (n + 1))]) ++ List.replicate (4 - (lg_sl ([.ref a, .int (nI (n + 1))])).length) Slot.unset).toArray = ls at hl ⊢
  have hl : lv_has ls 4 [(0, .ref a), (1, .int (nI (n + 1)))] := hl
  rcases hor with ⟨he, hp, ha, hel⟩ | ⟨he, rfl⟩
  · skip
    refine lv_aload_n hx hb d_AL_grow2_0 rfl (lv_at hl 0 rfl) ?_
    refine ww_get (v := .ref arr) (C := R_AL) (T := F_AL) (N := 3) (ci := 6) hx hb hts i_AL hown hK hw he rfl 1 (by decide) (hts _ k_65) (fun _ h9 => h9) rfl d_AL_grow2_1 ?_
    refine ww_alen (v := nI n) hx hb hK hw 3 ha rfl rfl d_AL_grow2_4 ?_
    refine lv_istore_n (lv' := [(2, .int (nI n)), (0, .ref a), (1, .int (nI (n + 1)))]) hx hb d_AL_grow2_5 rfl hl (by decide) rfl (fun ls hl => ?_)
    refine lv_iload_n hx hb d_AL_grow2_6 rfl (lv_at hl 0 rfl) ?_
    refine lv_if_gt (tgt := 20) hx hb d_AL_grow2_7 (by decide) (fun _ => ?_) (fun z => absurd (nI_lt (a := 0) hp (by omega)) z)
    refine lv_iload_n hx hb d_AL_grow2_20 rfl (lv_at hl 0 rfl) ?_
    refine lv_iload_n hx hb d_AL_grow2_21 rfl (lv_at hl 2 rfl) ?_
    refine lv_iload_n hx hb d_AL_grow2_22 rfl (lv_at hl 0 rfl) ?_
    refine lv_isub hx hb d_AL_grow2_23 ?_
    refine lv_topi (fun v_2 e_2 => ?_)
    obtain rfl : v_2 = nI 1 := by rw [e_2, pk_sub (by omega)]; congr 1; omega
    refine lv_iload_n hx hb d_AL_grow2_24 rfl (lv_at hl 0 rfl) ?_
    refine lv_iconst (v := 1) hx hb d_AL_grow2_25 (by decide) ?_
    refine lv_ishr hx hb d_AL_grow2_26 ?_
    refine lv_topi (fun v_3 e_3 => ?_)
    obtain rfl : v_3 = nI (n / 2) := by rw [e_3]; exact pk_shrN (n := n) (by omega) ((1 : Int32) &&& 31) 1 (by decide)
    refine wr_i (cS (As := [.int (nI n), .int (nI 1), .int (nI (n / 2))]) (rest := []) 3 ⟨hx, hb, hml, hown, hts⟩ (c_AS_newLength l n 1 (n / 2) (by omega) (by omega) (by omega) hp) k_361 k_359 k_15 k_360 (by decide +kernel) ⟨Nat.le_of_ble_eq_true rfl, Nat.le_of_ble_eq_true rfl⟩ rfl rfl ⟨prN_blind _, fun _ _ _ => ⟨rfl, trivial⟩⟩ rfl hl.1 rfl (Nat.le_of_ble_eq_true rfl) d_AL_grow2_27 ⟨Nat.le_of_ble_eq_true rfl, Nat.le_of_ble_eq_true rfl⟩) (fun r_4 e_4 => ?_)
    subst e_4
    refine lv_istore_n (lv' := [(3, .int (nI (n + max 1 (n / 2)))), (2, .int (nI n)), (0, .ref a), (1, .int (nI (n + 1)))]) hx hb d_AL_grow2_30 rfl hl (by decide) rfl (fun ls hl => ?_)
    refine lv_aload_n hx hb d_AL_grow2_31 rfl (lv_at hl 2 rfl) ?_
    refine lv_aload_n hx hb d_AL_grow2_32 rfl (lv_at hl 2 rfl) ?_
    refine ww_get (v := .ref arr) (C := R_AL) (T := F_AL) (N := 3) (ci := 6) hx hb hts i_AL hown hK hw he rfl 1 (by decide) (hts _ k_65) (fun _ h9 => h9) rfl d_AL_grow2_33 ?_
    refine lv_iload_n hx hb d_AL_grow2_36 rfl (lv_at hl 0 rfl) ?_
    refine ww_r (cS (As := [.ref arr, .int (nI (n + max 1 (n / 2)))]) (rest := [.ref a]) 2 ⟨hx, hb, hml, hown, hts⟩ (c_AR_copyOf l g s.heap.size w arr n (n + max 1 (n / 2)) f ha (by omega) (by omega) hel) k_371 k_369 k_3 k_370 (by decide +kernel) ⟨Nat.le_of_ble_eq_true rfl, Nat.le_of_ble_eq_true rfl⟩ rfl rfl ⟨prW_blind _ _ _ _, prW_at hG hAB hS hw⟩ rfl hl.1 rfl (Nat.le_of_ble_eq_true rfl) d_AL_grow2_37 ⟨Nat.le_of_ble_eq_true rfl, Nat.le_of_ble_eq_true rfl⟩) hw hS hA (fun w_5 q_5 H locs e_5 hw hS hz_5 hk_5 hg_5 => ?_)
    refine W.widen (k := 1) (n := 30) (Nat.le_of_ble_eq_true rfl) (Nat.le_of_ble_eq_true rfl) ?_
    obtain ⟨hnw_5, f_5, hf1_5, ew_5⟩ := e_5
    have h5_a : w_5 a = some (.inr (6, [.int mc, .ref arr, .int (nI n)])) := by rw [ew_5, va_up_ne _ _ (ne_n hnw_5 he)]; exact he
    have h5_arr : w_5 arr = some (cO g n f) := by rw [ew_5, va_up_ne _ _ (ne_n hnw_5 ha)]; exact ha
    refine lv_dup_x1 hx hb d_AL_grow2_40 rfl rfl ?_
    refine ww_put (v := .ref q_5) (ty := .array (.object "java/lang/Object")) (C := R_AL) (T := F_AL) (N := 3) (ci := 6) (fs' := [.int mc, .ref q_5, .int (nI n)]) hx hb hts i_AL ft_AL ft_AL_ok fn_AL hown hK hw hS h5_a rfl 1 (by decide) (hts _ k_65) (fun _ h9 => h9) rfl (by decide +kernel) rfl rfl (Nat.le_of_ble_eq_true rfl) rfl d_AL_grow2_41 (fun H locs hw hS => ?_)
    obtain ⟨w_6, ew_6⟩ : ∃ zz9 : Nat → Option va_E, zz9 = va_up w_5 a (some (.inr (6, [.int mc, .ref q_5, .int (nI n)]))) := ⟨_, rfl⟩
    rw [← ew_6] at hw
    have h6_arr : w_6 arr = some (cO g n f) := by rw [ew_6, va_up_ne _ _ (ne_c h5_a h5_arr (fun z => by first | cases z | simp at z))]; exact h5_arr
    have h6_a : w_6 a = some (.inr (6, [.int mc, .ref q_5, .int (nI n)])) := by rw [ew_6]; exact va_up_self _ _ _
    exact W.aret (v := .ref q_5) hx hb hr (Or.inr ⟨_, rfl⟩) (Or.inr ⟨_, rfl⟩) (fun t ht hW => ⟨⟨w_6, q_5, rfl, trivial, ⟨hnw_5, _, f_5, (show n < n + max 1 (n / 2) by omega), by omega, hf1_5, by rw [ew_6, ew_5]⟩, ww_t ht hw⟩, hS.F ht⟩) hS.2.2 d_AL_grow2_44
  · skip
    refine lv_aload_n hx hb d_AL_grow2_0 rfl (lv_at hl 0 rfl) ?_
    refine ww_get (v := .ref (g.2.2 1)) (C := R_AL) (T := F_AL) (N := 3) (ci := 6) hx hb hts i_AL hown hK hw he rfl 1 (by decide) (hts _ k_65) (fun _ h9 => h9) rfl d_AL_grow2_1 ?_
    refine va_tlen (v := nI 0) hx hb (hf.2.2.2.2.2.2.2.1.2.narrow hAB) hS rfl d_AL_grow2_4 ?_
    refine lv_istore_n (lv' := [(2, .int (nI 0)), (0, .ref a), (1, .int (nI (0 + 1)))]) hx hb d_AL_grow2_5 rfl hl (by decide) rfl (fun ls hl => ?_)
    refine lv_iload_n hx hb d_AL_grow2_6 rfl (lv_at hl 0 rfl) ?_
    refine lv_if_gt (tgt := 20) hx hb d_AL_grow2_7 (by decide) (fun z => absurd z (by decide)) (fun _ => ?_)
    refine lv_aload_n hx hb d_AL_grow2_10 rfl (lv_at hl 1 rfl) ?_
    refine ww_get (v := .ref (g.2.2 1)) (C := R_AL) (T := F_AL) (N := 3) (ci := 6) hx hb hts i_AL hown hK hw he rfl 1 (by decide) (hts _ k_65) (fun _ h9 => h9) rfl d_AL_grow2_11 ?_
    refine va_gets (v := .ref (g.2.2 1)) hx hb (hf.2.2.2.2.2.2.2.1.1.narrow hAB) hS hown (hts _ k_63) (fun _ h9 => h9) d_AL_grow2_14 ?_
    refine lv_acmp_eq (rx := some (g.2.2 1)) (ry := some (g.2.2 1)) (tgt := 45) hx hb d_AL_grow2_17 (by decide) (fun _ => ?_) (fun z => absurd rfl z)
    refine lv_aload_n hx hb d_AL_grow2_45 rfl (lv_at hl 1 rfl) ?_
    refine lv_bipush (v := 10) hx hb d_AL_grow2_46 (by decide) ?_
    refine lv_iload_n hx hb d_AL_grow2_48 rfl (lv_at hl 2 rfl) ?_
    refine va_mmax hx hb (hml.trans hl.1.symm) hown (hts _ k_396) (hts _ k_363) (hts _ k_16) (hts _ k_364) (Nat.le_of_ble_eq_true rfl) (Nat.le_of_ble_eq_true rfl) (Nat.le_of_ble_eq_true rfl) (Nat.le_of_ble_eq_true rfl) d_AL_grow2_49 ?_
    refine lv_topi (fun v_8 e_8 => ?_)
    obtain rfl : v_8 = nI 10 := by rw [e_8]; decide
    refine ww_newq hx hb hown (hts _ k_397) hf.2.2.1 hK hw hS hA 3 rfl (by decide) (N' := 10) (by decide) (by decide) (Nat.le_of_ble_eq_true rfl) (Nat.le_of_ble_eq_true rfl) d_AL_grow2_52 (fun q_9 H hn_9 hw hS => ?_)
    refine W.widen (k := 1) (n := 30) (by omega) (by omega) ?_
    obtain ⟨w_10, ew_10⟩ : ∃ zz9 : Nat → Option va_E, zz9 = va_up w q_9 (some (cO g 10 (fun _ => none))) := ⟨_, rfl⟩
    rw [← ew_10] at hw
    have h10_a : w_10 a = some (.inr (6, [.int mc, .ref (g.2.2 1), .int (nI 0)])) := by rw [ew_10, va_up_ne _ _ (ne_n hn_9 he)]; exact he
    have h10_q_9 : w_10 q_9 = some (cO g 10 (fun _ => none)) := by rw [ew_10]; exact va_up_self _ _ _
    refine lv_dup_x1 hx hb d_AL_grow2_55 rfl rfl ?_
    refine ww_put (v := .ref q_9) (ty := .array (.object "java/lang/Object")) (C := R_AL) (T := F_AL) (N := 3) (ci := 6) (fs' := [.int mc, .ref q_9, .int (nI 0)]) hx hb hts i_AL ft_AL ft_AL_ok fn_AL hown hK hw hS h10_a rfl 1 (by decide) (hts _ k_65) (fun _ h9 => h9) rfl (by decide +kernel) rfl rfl (Nat.le_of_ble_eq_true rfl) rfl d_AL_grow2_56 (fun H locs hw hS => ?_)
    obtain ⟨w_11, ew_11⟩ : ∃ zz9 : Nat → Option va_E, zz9 = va_up w_10 a (some (.inr (6, [.int mc, .ref q_9, .int (nI 0)]))) := ⟨_, rfl⟩
    rw [← ew_11] at hw
    have h11_q_9 : w_11 q_9 = some (cO g 10 (fun _ => none)) := by rw [ew_11, va_up_ne _ _ (ne_c h10_a h10_q_9 (fun z => by first | cases z | simp at z))]; exact h10_q_9
    have h11_a : w_11 a = some (.inr (6, [.int mc, .ref q_9, .int (nI 0)])) := by rw [ew_11]; exact va_up_self _ _ _
    exact W.aret (v := .ref q_9) hx hb hr (Or.inr ⟨_, rfl⟩) (Or.inr ⟨_, rfl⟩) (fun t ht hW => ⟨⟨w_11, q_9, rfl, trivial, ⟨hn_9, 10, _, by omega, by omega, fun i hi => absurd hi (Nat.not_lt_zero _), by rw [ew_11, ew_10]⟩, ww_t ht hw⟩, hS.F ht⟩) hS.2.2 d_AL_grow2_59

