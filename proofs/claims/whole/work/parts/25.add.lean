/-! ARRAYLIST: add -/
theorem up_nest {w : Nat → Option va_E} {a q : Nat} {c1 l1 c2 l2 : Option va_E} (h : a ≠ q) : va_up (va_up (va_up (va_up w q c1) a l1) q c2) a l2 = va_up (va_up w q c2) a l2 := by
  funext x
  by_cases hx : x = a
  · subst hx
    rw [va_up_self, va_up_self]
  · rw [va_up_ne _ _ hx, va_up_ne _ _ hx]
    by_cases hq : x = q
    · subst hq
      rw [va_up_self, va_up_self]
    · rw [va_up_ne _ _ hq, va_up_ne _ _ hx, va_up_ne _ _ hq, va_up_ne _ _ hq]
theorem isO_keep {w w1 : Nat → Option va_E} {y : Nat} (h : isO w y) (hk : ∀ (ci : Nat) (vs : List Value), w y = some (.inr (ci, vs)) → (ci = 1 ∨ ci = 2 ∨ ci = 3) → w1 y = w y) : isO w1 y := by
  obtain ⟨ci, vs, h1, h2⟩ := h
  exact ⟨ci, vs, by rw [hk ci vs h1 h2]; exact h1, h2⟩
theorem isO_up {w : Nat → Option va_E} {y a : Nat} {e : Option va_E} (h : isO w y) (ha : w a = none ∨ (∃ z, w a = some (.inl z)) ∨ ∃ vs, w a = some (.inr (6, vs))) : isO (va_up w a e) y := by
  refine isO_keep h (fun ci vs h1 h2 => va_up_ne _ _ (fun z => ?_))
  subst z
  rcases ha with h3 | ⟨z, h3⟩ | ⟨vs3, h3⟩
  · rw [h3] at h1; cases h1
  · rw [h3] at h1; cases h1
  · rw [h3] at h1
    cases h1
    omega
theorem add_at {f : Nat → Option Nat} {xs : List Nat} {v n : Nat} {f1 : Nat → Option Nat} (hn : n = xs.length) (hfi : ∀ i q : Nat, xs[i]? = some q → f i = some q) (h1 : ∀ i : Nat, i < n → f1 i = f i) : ∀ i q : Nat, (xs ++ [v])[i]? = some q → va_up f1 n (some v) i = some q := by
  intro i q hq
  subst hn
  rcases Nat.lt_or_ge i xs.length with h | h
  · rw [List.getElem?_append_left h] at hq
    rw [va_up_ne _ _ (by omega), h1 i h]
    exact hfi i q hq
  · rw [List.getElem?_append_right h] at hq
    rcases Nat.lt_or_ge 0 (i - xs.length) with h2 | h2
    · rw [List.getElem?_eq_none (by simp; omega)] at hq
      cases hq
    · obtain rfl : i = xs.length := by omega
      rw [Nat.sub_self] at hq
      cases hq
      exact va_up_self _ _ _
set_option maxHeartbeats 4000000 in
set_option maxRecDepth 100000 in
theorem c_AL_grow (l : Launch) (g : GT) (sz : Nat) (w : Nat → Option va_E) (a arr n : Nat) (mc : Int32) (f : Nat → Option Nat) (hn : n ≤ 19) (hor : (w a = some (cL mc arr (nI n)) ∧ 0 < n ∧ w arr = some (cO g n f) ∧ ∀ i : Nat, i < n → ∀ y : Nat, f i = some y → isO w y) ∨ (w a = some (cL mc (g.2.2 1) (nI n)) ∧ n = 0)) : Met l y_AL_grow (.code y_AL_grow b_AL_grow 1 ((some (.array (.object "java/lang/Object")))) :: GW) ({ frames := 4, cells := 1, slots := 30, locals := 90 }) (prW g sz [.ref a] w) (qQ g sz w (fun w1 ra => w ra = none ∧ ∃ (cap : Nat) (f1 : Nat → Option Nat), n < cap ∧ cap ≤ 30 ∧ (∀ i : Nat, i < n → f1 i = f i) ∧ w1 = va_up (va_up w ra (some (cO g cap f1))) a (some (cL mc ra (nI n))))) 1 30 (gA w sz) := by
  refine Met.ofW (cc := b_AL_grow) (maxL := 1) (ret := (some (.array (.object "java/lang/Object")))) (by decide) rfl ?_
  intro p e s m args below meth c s₁ B hml hv
  obtain ⟨rfl, hsz, hG, hw0⟩ := hv
  have hx := B.exec
  have hb := B.bytes
  have hr := B.returns
  have hts : ∀ w ∈ GW, w.before _ s = true := fun w h => atoms_spec (ws := .code y_AL_grow b_AL_grow 1 ((some (.array (.object "java/lang/Object")))) :: GW) B.pre w (List.mem_cons_of_mem _ h)
  have hown : s.vm.findClass "java/util/ArrayList" = some m.cls := findClass_of_methodNamed B.named
  have hlocks := B.notSynchronized
  have hf := hG.here
  have hK := hf.1
  subst hsz
  have hw := hw0.self s.heap.size
  have hAB : ∀ q, gA w s.heap.size q → gB g q := fun q h => h.elim (fun z => z.elim (fun _ he => hw0.inA he)) (fun h => Nat.le_trans hG.1 h)
  have hA : ∀ q, s.heap.size ≤ q → gA w s.heap.size q := fun q h => Or.inr h
  have hS : va_S (gA w s.heap.size) s.heap s.heap [] := va_S.rf
  have hl := lv_entry ([.ref a]) (n := 1) (Nat.le_of_ble_eq_true rfl)
  rw [lg_entry_eq]
  generalize (lg_sl ([.ref a]) ++ List.replicate (1 - (lg_sl ([.ref a])).length) Slot.unset).toArray = ls at hl ⊢
  have hl : lv_has ls 1 [(0, .ref a)] := hl
  rcases hor with ⟨he, hp, ha, hel⟩ | ⟨he, rfl⟩
  · skip
    refine lv_aload_n hx hb d_AL_grow_0 rfl (lv_at hl 0 rfl) ?_
    refine lv_aload_n hx hb d_AL_grow_1 rfl (lv_at hl 0 rfl) ?_
    refine ww_get (v := .int (nI n)) (C := R_AL) (T := F_AL) (N := 3) (ci := 6) hx hb hts i_AL hown hK hw he rfl 2 (by decide) (hts _ k_66) (fun _ h9 => h9) rfl d_AL_grow_2 ?_
    refine lv_iconst (v := 1) hx hb d_AL_grow_5 (by decide) ?_
    refine lv_iadd hx hb d_AL_grow_6 ?_
    refine lv_topi (fun v_1 e_1 => ?_)
    obtain rfl : v_1 = nI (n + 1) := by rw [e_1]; exact nI_1 _
    refine ww_r (cV (As := [.int (nI (n + 1))]) (rest := []) (C := "java/util/ArrayList") 1 ⟨hx, hb, hml, hown, hts⟩ (c_AL_grow2 l g s.heap.size w a arr n mc f hn (Or.inl ⟨he, hp, ha, hel⟩)) k_358 k_355 k_6 k_357 kp_8 (by decide +kernel) ⟨Nat.le_of_ble_eq_true rfl, Nat.le_of_ble_eq_true rfl⟩ rfl rfl ⟨prW_blind _ _ _ _, hw.recv hK he rfl, prW_at hG hAB hS hw⟩ rfl hl.1 rfl (Nat.le_of_ble_eq_true rfl) d_AL_grow_7 ⟨Nat.le_of_ble_eq_true rfl, Nat.le_of_ble_eq_true rfl⟩) hw hS hA (fun w_2 q_2 H locs e_2 hw hS hz_2 hk_2 hg_2 => ?_)
    refine W.widen (k := 1) (n := 30) (Nat.le_of_ble_eq_true rfl) (Nat.le_of_ble_eq_true rfl) ?_
    exact W.aret (v := .ref q_2) hx hb hr (Or.inr ⟨_, rfl⟩) (Or.inr ⟨_, rfl⟩) (fun t ht hW => ⟨⟨w_2, q_2, rfl, trivial, e_2, ww_t ht hw⟩, hS.F ht⟩) hS.2.2 d_AL_grow_10
  · skip
    refine lv_aload_n hx hb d_AL_grow_0 rfl (lv_at hl 0 rfl) ?_
    refine lv_aload_n hx hb d_AL_grow_1 rfl (lv_at hl 0 rfl) ?_
    refine ww_get (v := .int (nI 0)) (C := R_AL) (T := F_AL) (N := 3) (ci := 6) hx hb hts i_AL hown hK hw he rfl 2 (by decide) (hts _ k_66) (fun _ h9 => h9) rfl d_AL_grow_2 ?_
    refine lv_iconst (v := 1) hx hb d_AL_grow_5 (by decide) ?_
    refine lv_iadd hx hb d_AL_grow_6 ?_
    refine lv_topi (fun v_3 e_3 => ?_)
    obtain rfl : v_3 = nI (0 + 1) := by rw [e_3]; exact nI_1 _
    refine ww_r (cV (As := [.int (nI (0 + 1))]) (rest := []) (C := "java/util/ArrayList") 1 ⟨hx, hb, hml, hown, hts⟩ (c_AL_grow2 l g s.heap.size w a (g.2.2 1) 0 mc f (by omega) (Or.inr ⟨he, rfl⟩)) k_358 k_355 k_6 k_357 kp_8 (by decide +kernel) ⟨Nat.le_of_ble_eq_true rfl, Nat.le_of_ble_eq_true rfl⟩ rfl rfl ⟨prW_blind _ _ _ _, hw.recv hK he rfl, prW_at hG hAB hS hw⟩ rfl hl.1 rfl (Nat.le_of_ble_eq_true rfl) d_AL_grow_7 ⟨Nat.le_of_ble_eq_true rfl, Nat.le_of_ble_eq_true rfl⟩) hw hS hA (fun w_4 q_4 H locs e_4 hw hS hz_4 hk_4 hg_4 => ?_)
    refine W.widen (k := 1) (n := 30) (Nat.le_of_ble_eq_true rfl) (Nat.le_of_ble_eq_true rfl) ?_
    exact W.aret (v := .ref q_4) hx hb hr (Or.inr ⟨_, rfl⟩) (Or.inr ⟨_, rfl⟩) (fun t ht hW => ⟨⟨w_4, q_4, rfl, trivial, e_4, ww_t ht hw⟩, hS.F ht⟩) hS.2.2 d_AL_grow_10

set_option maxHeartbeats 4000000 in
set_option maxRecDepth 100000 in
theorem c_AL_add2 (l : Launch) (g : GT) (sz : Nat) (w : Nat → Option va_E) (a v arr n cap : Nat) (mc : Int32) (f : Nat → Option Nat) (hv : isO w v) (he : w a = some (cL mc arr (nI n))) (hn : n ≤ 19) (hor : (w arr = some (cO g cap f) ∧ n < cap ∧ cap < 1000) ∨ (0 < n ∧ w arr = some (cO g n f) ∧ ∀ i : Nat, i < n → ∀ y : Nat, f i = some y → isO w y) ∨ (arr = g.2.2 1 ∧ n = 0)) : Met l y_AL_add2 (.code y_AL_add2 b_AL_add2 4 (none) :: GW) ({ frames := 5, cells := 1, slots := 30, locals := 110 }) (prW g sz [.ref a, .ref v, .ref arr, .int (nI n)] w) (qV g sz w (fun w1 => ∃ (arr1 cap1 : Nat) (f1 : Nat → Option Nat), n < cap1 ∧ cap1 < 1000 ∧ (∀ i : Nat, i < n → f1 i = f i) ∧ ((arr1 = arr ∧ ∃ z, w arr = some (.inl z)) ∨ w arr1 = none) ∧ w1 = va_up (va_up w arr1 (some (cO g cap1 (va_up f1 n (some v))))) a (some (cL mc arr1 (nI (n + 1)))))) 1 30 (gA w sz) := by
  refine Met.ofW (cc := b_AL_add2) (maxL := 4) (ret := none) (by decide) rfl ?_
  intro p e s m args below meth c s₁ B hml hv
  obtain ⟨rfl, hsz, hG, hw0⟩ := hv
  have hx := B.exec
  have hb := B.bytes
  have hr := B.returns
  have hts : ∀ w ∈ GW, w.before _ s = true := fun w h => atoms_spec (ws := .code y_AL_add2 b_AL_add2 4 (none) :: GW) B.pre w (List.mem_cons_of_mem _ h)
  have hown : s.vm.findClass "java/util/ArrayList" = some m.cls := findClass_of_methodNamed B.named
  have hlocks := B.notSynchronized
  have hf := hG.here
  have hK := hf.1
  subst hsz
  have hw := hw0.self s.heap.size
  have hAB : ∀ q, gA w s.heap.size q → gB g q := fun q h => h.elim (fun z => z.elim (fun _ he => hw0.inA he)) (fun h => Nat.le_trans hG.1 h)
  have hA : ∀ q, s.heap.size ≤ q → gA w s.heap.size q := fun q h => Or.inr h
  have hS : va_S (gA w s.heap.size) s.heap s.heap [] := va_S.rf
  have hl := lv_entry ([.ref a, .ref v, .ref arr, .int (nI n)]) (n := 4) (Nat.le_of_ble_eq_true rfl)
  rw [lg_entry_eq]
  generalize (lg_sl ([.ref a, .ref v, .ref arr, .int (nI n)]) ++ List.replicate (4 - (lg_sl ([.ref a, .ref v, .ref arr, .int (nI n)])).length) Slot.unset).toArray = ls at hl ⊢
  have hl : lv_has ls 4 [(0, .ref a), (1, .ref v), (2, .ref arr), (3, .int (nI n))] := hl
  rcases hor with ⟨ha, hc1, hc2⟩ | ⟨hp, ha, hel⟩ | ⟨rfl, rfl⟩
  · skip
    refine lv_iload_n hx hb d_AL_add2_0 rfl (lv_at hl 3 rfl) ?_
    refine lv_aload_n hx hb d_AL_add2_1 rfl (lv_at hl 2 rfl) ?_
    refine ww_alen (v := nI cap) hx hb hK hw 3 ha rfl rfl d_AL_add2_2 ?_
    refine lv_icmp_ne (tgt := 11) hx hb d_AL_add2_3 (by decide) (fun _ => ?_) (fun z => absurd ((nI_eq (by omega) (by omega)).mp z) (by omega))
    refine lv_aload_n hx hb d_AL_add2_11 rfl (lv_at hl 2 rfl) ?_
    refine lv_iload_n hx hb d_AL_add2_12 rfl (lv_at hl 3 rfl) ?_
    refine lv_aload_n hx hb d_AL_add2_13 rfl (lv_at hl 1 rfl) ?_
    refine ww_astq hx hb hK hw hS 3 ha rfl (isO_any hf hw hv) (vp_in_nI (by omega) (by omega)) d_AL_add2_14 (fun H locs hw hS => ?_)
    obtain ⟨w_1, ew_1⟩ : ∃ zz9 : Nat → Option va_E, zz9 = va_up w arr (some (cO g cap (va_up f (nI n).toNatClampNeg (some v)))) := ⟨_, rfl⟩
    rw [← ew_1] at hw
    have h1_a : w_1 a = some (.inr (6, [.int mc, .ref arr, .int (nI n)])) := by rw [ew_1, va_up_ne _ _ (ne_c ha he (fun z => by first | cases z | simp at z))]; exact he
    have h1_arr : w_1 arr = some (cO g cap (va_up f (nI n).toNatClampNeg (some v))) := by rw [ew_1]; exact va_up_self _ _ _
    refine lv_aload_n hx hb d_AL_add2_15 rfl (lv_at hl 0 rfl) ?_
    refine lv_iload_n hx hb d_AL_add2_16 rfl (lv_at hl 3 rfl) ?_
    refine lv_iconst (v := 1) hx hb d_AL_add2_17 (by decide) ?_
    refine lv_iadd hx hb d_AL_add2_18 ?_
    refine lv_topi (fun v_2 e_2 => ?_)
    obtain rfl : v_2 = nI (n + 1) := by rw [e_2]; exact nI_1 _
    refine ww_put (v := .int (nI (n + 1))) (ty := .int) (C := R_AL) (T := F_AL) (N := 3) (ci := 6) (fs' := [.int mc, .ref arr, .int (nI (n + 1))]) hx hb hts i_AL ft_AL ft_AL_ok fn_AL hown hK hw hS h1_a rfl 2 (by decide) (hts _ k_66) (fun _ h9 => h9) rfl (by decide +kernel) rfl rfl (Nat.le_of_ble_eq_true rfl) rfl d_AL_add2_19 (fun H locs hw hS => ?_)
    obtain ⟨w_3, ew_3⟩ : ∃ zz9 : Nat → Option va_E, zz9 = va_up w_1 a (some (.inr (6, [.int mc, .ref arr, .int (nI (n + 1))]))) := ⟨_, rfl⟩
    rw [← ew_3] at hw
    have h3_arr : w_3 arr = some (cO g cap (va_up f (nI n).toNatClampNeg (some v))) := by rw [ew_3, va_up_ne _ _ (ne_c h1_a h1_arr (fun z => by first | cases z | simp at z))]; exact h1_arr
    have h3_a : w_3 a = some (.inr (6, [.int mc, .ref arr, .int (nI (n + 1))])) := by rw [ew_3]; exact va_up_self _ _ _
    refine W.widen (k := 1) (n := 30) (Nat.le_of_ble_eq_true rfl) (Nat.le_of_ble_eq_true rfl) ?_
    exact W.vret hx hb hr (fun t ht hW => ⟨⟨w_3, rfl, ⟨arr, cap, f, hc1, hc2, fun _ _ => rfl, Or.inl ⟨rfl, _, ha⟩, by rw [ew_3, ew_1, nI_clamp (by omega)]⟩, ww_t ht hw⟩, hS.F ht⟩) hS.2.2 d_AL_add2_22
  · skip
    refine lv_iload_n hx hb d_AL_add2_0 rfl (lv_at hl 3 rfl) ?_
    refine lv_aload_n hx hb d_AL_add2_1 rfl (lv_at hl 2 rfl) ?_
    refine ww_alen (v := nI n) hx hb hK hw 3 ha rfl rfl d_AL_add2_2 ?_
    refine lv_icmp_ne (tgt := 11) hx hb d_AL_add2_3 (by decide) (fun z => absurd rfl z) (fun _ => ?_)
    refine lv_aload_n hx hb d_AL_add2_6 rfl (lv_at hl 0 rfl) ?_
    refine ww_r (cV (As := []) (rest := []) (C := "java/util/ArrayList") 0 ⟨hx, hb, hml, hown, hts⟩ (c_AL_grow l g s.heap.size w a arr n mc f hn (Or.inl ⟨he, hp, ha, hel⟩)) k_354 k_351 k_6 k_353 kp_7 (by decide +kernel) ⟨Nat.le_of_ble_eq_true rfl, Nat.le_of_ble_eq_true rfl⟩ rfl rfl ⟨prW_blind _ _ _ _, hw.recv hK he rfl, prW_at hG hAB hS hw⟩ rfl hl.1 rfl (Nat.le_of_ble_eq_true rfl) d_AL_add2_7 ⟨Nat.le_of_ble_eq_true rfl, Nat.le_of_ble_eq_true rfl⟩) hw hS hA (fun w_4 q_4 H locs e_4 hw hS hz_4 hk_4 hg_4 => ?_)
    refine W.widen (k := 1) (n := 30) (Nat.le_of_ble_eq_true rfl) (Nat.le_of_ble_eq_true rfl) ?_
    obtain ⟨hnw_4, cap_4, f_4, hc1_4, hc2_4, hf1_4, ew_4⟩ := e_4
    have ha_4 : w_4 a = some (cL mc q_4 (nI n)) := by rw [ew_4]; exact va_up_self _ _ _
    have hq_4 : w_4 q_4 = some (cO g cap_4 f_4) := by rw [ew_4, va_up_ne _ _ (ne_n hnw_4 he).symm]; exact va_up_self _ _ _
    have hvo : isO w_4 v := by rw [ew_4]; exact isO_up (isO_up hv (Or.inl hnw_4)) (Or.inr (Or.inr ⟨_, by rw [va_up_ne _ _ (ne_n hnw_4 he)]; exact he⟩))
    refine lv_astore_n (lv' := [(2, .ref q_4), (0, .ref a), (1, .ref v), (3, .int (nI n))]) hx hb d_AL_add2_10 rfl hl (by decide) rfl (fun ls hl => ?_)
    refine lv_aload_n hx hb d_AL_add2_11 rfl (lv_at hl 0 rfl) ?_
    refine lv_iload_n hx hb d_AL_add2_12 rfl (lv_at hl 3 rfl) ?_
    refine lv_aload_n hx hb d_AL_add2_13 rfl (lv_at hl 2 rfl) ?_
    refine ww_astq hx hb hK hw hS 3 hq_4 rfl (isO_any hf hw hvo) (vp_in_nI (by omega) (by omega)) d_AL_add2_14 (fun H locs hw hS => ?_)
    obtain ⟨w_5, ew_5⟩ : ∃ zz9 : Nat → Option va_E, zz9 = va_up w_4 q_4 (some (cO g cap_4 (va_up f_4 (nI n).toNatClampNeg (some v)))) := ⟨_, rfl⟩
    rw [← ew_5] at hw
    have h5_a : w_5 a = some (.inr (6, [.int mc, .ref q_4, .int (nI n)])) := by rw [ew_5, va_up_ne _ _ (ne_n hnw_4 he)]; exact ha_4
    have h5_q_4 : w_5 q_4 = some (cO g cap_4 (va_up f_4 (nI n).toNatClampNeg (some v))) := by rw [ew_5]; exact va_up_self _ _ _
    refine lv_aload_n hx hb d_AL_add2_15 rfl (lv_at hl 1 rfl) ?_
    refine lv_iload_n hx hb d_AL_add2_16 rfl (lv_at hl 3 rfl) ?_
    refine lv_iconst (v := 1) hx hb d_AL_add2_17 (by decide) ?_
    refine lv_iadd hx hb d_AL_add2_18 ?_
    refine lv_topi (fun v_6 e_6 => ?_)
    obtain rfl : v_6 = nI (n + 1) := by rw [e_6]; exact nI_1 _
    refine ww_put (v := .int (nI (n + 1))) (ty := .int) (C := R_AL) (T := F_AL) (N := 3) (ci := 6) (fs' := [.int mc, .ref q_4, .int (nI (n + 1))]) hx hb hts i_AL ft_AL ft_AL_ok fn_AL hown hK hw hS h5_a rfl 2 (by decide) (hts _ k_66) (fun _ h9 => h9) rfl (by decide +kernel) rfl rfl (Nat.le_of_ble_eq_true rfl) rfl d_AL_add2_19 (fun H locs hw hS => ?_)
    obtain ⟨w_7, ew_7⟩ : ∃ zz9 : Nat → Option va_E, zz9 = va_up w_5 a (some (.inr (6, [.int mc, .ref q_4, .int (nI (n + 1))]))) := ⟨_, rfl⟩
    rw [← ew_7] at hw
    have h7_q_4 : w_7 q_4 = some (cO g cap_4 (va_up f_4 (nI n).toNatClampNeg (some v))) := by rw [ew_7, va_up_ne _ _ (ne_n hnw_4 he).symm]; exact h5_q_4
    have h7_a : w_7 a = some (.inr (6, [.int mc, .ref q_4, .int (nI (n + 1))])) := by rw [ew_7]; exact va_up_self _ _ _
    exact W.vret hx hb hr (fun t ht hW => ⟨⟨w_7, rfl, ⟨q_4, cap_4, f_4, hc1_4, by omega, hf1_4, Or.inr hnw_4, by rw [ew_7, ew_5, ew_4, up_nest (ne_n hnw_4 he), nI_clamp (by omega)]⟩, ww_t ht hw⟩, hS.F ht⟩) hS.2.2 d_AL_add2_22
  · skip
    refine lv_iload_n hx hb d_AL_add2_0 rfl (lv_at hl 3 rfl) ?_
    refine lv_aload_n hx hb d_AL_add2_1 rfl (lv_at hl 2 rfl) ?_
    refine va_tlen (v := nI 0) hx hb (hf.2.2.2.2.2.2.2.1.2.narrow hAB) hS rfl d_AL_add2_2 ?_
    refine lv_icmp_ne (tgt := 11) hx hb d_AL_add2_3 (by decide) (fun z => absurd rfl z) (fun _ => ?_)
    refine lv_aload_n hx hb d_AL_add2_6 rfl (lv_at hl 0 rfl) ?_
    refine ww_r (cV (As := []) (rest := []) (C := "java/util/ArrayList") 0 ⟨hx, hb, hml, hown, hts⟩ (c_AL_grow l g s.heap.size w a (g.2.2 1) 0 mc f (by omega) (Or.inr ⟨he, rfl⟩)) k_354 k_351 k_6 k_353 kp_7 (by decide +kernel) ⟨Nat.le_of_ble_eq_true rfl, Nat.le_of_ble_eq_true rfl⟩ rfl rfl ⟨prW_blind _ _ _ _, hw.recv hK he rfl, prW_at hG hAB hS hw⟩ rfl hl.1 rfl (Nat.le_of_ble_eq_true rfl) d_AL_add2_7 ⟨Nat.le_of_ble_eq_true rfl, Nat.le_of_ble_eq_true rfl⟩) hw hS hA (fun w_8 q_8 H locs e_8 hw hS hz_8 hk_8 hg_8 => ?_)
    refine W.widen (k := 1) (n := 30) (Nat.le_of_ble_eq_true rfl) (Nat.le_of_ble_eq_true rfl) ?_
    obtain ⟨hnw_8, cap_8, f_8, hc1_8, hc2_8, hf1_8, ew_8⟩ := e_8
    have ha_8 : w_8 a = some (cL mc q_8 (nI 0)) := by rw [ew_8]; exact va_up_self _ _ _
    have hq_8 : w_8 q_8 = some (cO g cap_8 f_8) := by rw [ew_8, va_up_ne _ _ (ne_n hnw_8 he).symm]; exact va_up_self _ _ _
    have hvo : isO w_8 v := by rw [ew_8]; exact isO_up (isO_up hv (Or.inl hnw_8)) (Or.inr (Or.inr ⟨_, by rw [va_up_ne _ _ (ne_n hnw_8 he)]; exact he⟩))
    refine lv_astore_n (lv' := [(2, .ref q_8), (0, .ref a), (1, .ref v), (3, .int (nI 0))]) hx hb d_AL_add2_10 rfl hl (by decide) rfl (fun ls hl => ?_)
    refine lv_aload_n hx hb d_AL_add2_11 rfl (lv_at hl 0 rfl) ?_
    refine lv_iload_n hx hb d_AL_add2_12 rfl (lv_at hl 3 rfl) ?_
    refine lv_aload_n hx hb d_AL_add2_13 rfl (lv_at hl 2 rfl) ?_
    refine ww_astq hx hb hK hw hS 3 hq_8 rfl (isO_any hf hw hvo) (vp_in_nI (by omega) (by omega)) d_AL_add2_14 (fun H locs hw hS => ?_)
    obtain ⟨w_9, ew_9⟩ : ∃ zz9 : Nat → Option va_E, zz9 = va_up w_8 q_8 (some (cO g cap_8 (va_up f_8 (nI 0).toNatClampNeg (some v)))) := ⟨_, rfl⟩
    rw [← ew_9] at hw
    have h9_a : w_9 a = some (.inr (6, [.int mc, .ref q_8, .int (nI 0)])) := by rw [ew_9, va_up_ne _ _ (ne_n hnw_8 he)]; exact ha_8
    have h9_q_8 : w_9 q_8 = some (cO g cap_8 (va_up f_8 (nI 0).toNatClampNeg (some v))) := by rw [ew_9]; exact va_up_self _ _ _
    refine lv_aload_n hx hb d_AL_add2_15 rfl (lv_at hl 1 rfl) ?_
    refine lv_iload_n hx hb d_AL_add2_16 rfl (lv_at hl 3 rfl) ?_
    refine lv_iconst (v := 1) hx hb d_AL_add2_17 (by decide) ?_
    refine lv_iadd hx hb d_AL_add2_18 ?_
    refine lv_topi (fun v_10 e_10 => ?_)
    obtain rfl : v_10 = nI (0 + 1) := by rw [e_10]; exact nI_1 _
    refine ww_put (v := .int (nI (0 + 1))) (ty := .int) (C := R_AL) (T := F_AL) (N := 3) (ci := 6) (fs' := [.int mc, .ref q_8, .int (nI (0 + 1))]) hx hb hts i_AL ft_AL ft_AL_ok fn_AL hown hK hw hS h9_a rfl 2 (by decide) (hts _ k_66) (fun _ h9 => h9) rfl (by decide +kernel) rfl rfl (Nat.le_of_ble_eq_true rfl) rfl d_AL_add2_19 (fun H locs hw hS => ?_)
    obtain ⟨w_11, ew_11⟩ : ∃ zz9 : Nat → Option va_E, zz9 = va_up w_9 a (some (.inr (6, [.int mc, .ref q_8, .int (nI (0 + 1))]))) := ⟨_, rfl⟩
    rw [← ew_11] at hw
    have h11_q_8 : w_11 q_8 = some (cO g cap_8 (va_up f_8 (nI 0).toNatClampNeg (some v))) := by rw [ew_11, va_up_ne _ _ (ne_n hnw_8 he).symm]; exact h9_q_8
    have h11_a : w_11 a = some (.inr (6, [.int mc, .ref q_8, .int (nI (0 + 1))])) := by rw [ew_11]; exact va_up_self _ _ _
    exact W.vret hx hb hr (fun t ht hW => ⟨⟨w_11, rfl, ⟨q_8, cap_8, f_8, hc1_8, by omega, hf1_8, Or.inr hnw_8, by rw [ew_11, ew_9, ew_8, up_nest (ne_n hnw_8 he), nI_clamp (by omega)]⟩, ww_t ht hw⟩, hS.F ht⟩) hS.2.2 d_AL_add2_22

set_option maxHeartbeats 4000000 in
set_option maxRecDepth 100000 in
theorem c_AL_add (l : Launch) (g : GT) (sz : Nat) (w : Nat → Option va_E) (a v arr : Nat) (xs : List Nat) (hL : isL g w a arr xs) (hn : xs.length ≤ 19) (hv : isO w v) (hxs : ∀ x ∈ xs, isO w x) : Met l y_AL_add (.code y_AL_add b_AL_add 2 ((some .boolean)) :: GW) ({ frames := 6, cells := 1, slots := 30, locals := 133 }) (prW g sz [.ref a, .ref v] w) (qI g sz w (fun r w1 => r = 1 ∧ ∃ arr1 : Nat, isL g w1 a arr1 (xs ++ [v]) ∧ ((arr1 = arr ∧ ∃ z, w arr = some (.inl z)) ∨ w arr1 = none) ∧ ∀ b : Nat, b ≠ a → b ≠ arr1 → w1 b = w b)) 1 30 (gA w sz) := by
  refine Met.ofW (cc := b_AL_add) (maxL := 2) (ret := (some .boolean)) (by decide) rfl ?_
  intro p e s m args below meth c s₁ B hml hv
  obtain ⟨rfl, hsz, hG, hw0⟩ := hv
  have hx := B.exec
  have hb := B.bytes
  have hr := B.returns
  have hts : ∀ w ∈ GW, w.before _ s = true := fun w h => atoms_spec (ws := .code y_AL_add b_AL_add 2 ((some .boolean)) :: GW) B.pre w (List.mem_cons_of_mem _ h)
  have hown : s.vm.findClass "java/util/ArrayList" = some m.cls := findClass_of_methodNamed B.named
  have hlocks := B.notSynchronized
  have hf := hG.here
  have hK := hf.1
  subst hsz
  have hw := hw0.self s.heap.size
  have hAB : ∀ q, gA w s.heap.size q → gB g q := fun q h => h.elim (fun z => z.elim (fun _ he => hw0.inA he)) (fun h => Nat.le_trans hG.1 h)
  have hA : ∀ q, s.heap.size ≤ q → gA w s.heap.size q := fun q h => Or.inr h
  have hS : va_S (gA w s.heap.size) s.heap s.heap [] := va_S.rf
  have hl := lv_entry ([.ref a, .ref v]) (n := 2) (Nat.le_of_ble_eq_true rfl)
  rw [lg_entry_eq]
  generalize (lg_sl ([.ref a, .ref v]) ++ List.replicate (2 - (lg_sl ([.ref a, .ref v])).length) Slot.unset).toArray = ls at hl ⊢
  have hl : lv_has ls 2 [(0, .ref a), (1, .ref v)] := hl
  obtain ⟨mc, cap, f, he, hcap, hc, hfi, hor⟩ := hL
  refine lv_aload_n hx hb d_AL_add_0 rfl (lv_at hl 0 rfl) ?_
  refine lv_dup hx hb d_AL_add_1 rfl ?_
  refine ww_get (v := .int mc) (C := R_AL) (T := F_AL) (N := 3) (ci := 6) hx hb hts i_AL hown hK hw he rfl 0 (by decide) (hts _ k_68) (u_same (hts _ k_69)) rfl d_AL_add_2 ?_
  refine lv_iconst (v := 1) hx hb d_AL_add_5 (by decide) ?_
  refine lv_iadd hx hb d_AL_add_6 ?_
  refine lv_topi (fun v_1 e_1 => ?_)
  refine ww_put (v := .int v_1) (ty := .int) (C := R_AL) (T := F_AL) (N := 3) (ci := 6) (fs' := [.int v_1, .ref arr, .int (nI xs.length)]) hx hb hts i_AL ft_AL ft_AL_ok fn_AL hown hK hw hS he rfl 0 (by decide) (hts _ k_68) (u_same (hts _ k_69)) rfl (by decide +kernel) rfl rfl (Nat.le_of_ble_eq_true rfl) rfl d_AL_add_7 (fun H locs hw hS => ?_)
  obtain ⟨w_2, ew_2⟩ : ∃ zz9 : Nat → Option va_E, zz9 = va_up w a (some (.inr (6, [.int v_1, .ref arr, .int (nI xs.length)]))) := ⟨_, rfl⟩
  rw [← ew_2] at hw
  have h2_a : w_2 a = some (.inr (6, [.int v_1, .ref arr, .int (nI xs.length)])) := by rw [ew_2]; exact va_up_self _ _ _
  refine lv_aload_n hx hb d_AL_add_10 rfl (lv_at hl 0 rfl) ?_
  refine lv_aload_n hx hb d_AL_add_11 rfl (lv_at hl 1 rfl) ?_
  refine lv_aload_n hx hb d_AL_add_12 rfl (lv_at hl 0 rfl) ?_
  refine ww_get (v := .ref arr) (C := R_AL) (T := F_AL) (N := 3) (ci := 6) hx hb hts i_AL hown hK hw h2_a rfl 1 (by decide) (hts _ k_65) (fun _ h9 => h9) rfl d_AL_add_13 ?_
  refine lv_aload_n hx hb d_AL_add_16 rfl (lv_at hl 0 rfl) ?_
  refine ww_get (v := .int (nI xs.length)) (C := R_AL) (T := F_AL) (N := 3) (ci := 6) hx hb hts i_AL hown hK hw h2_a rfl 2 (by decide) (hts _ k_66) (fun _ h9 => h9) rfl d_AL_add_17 ?_
  have hor2 : (w_2 arr = some (cO g cap f) ∧ xs.length < cap ∧ cap < 1000) ∨ (0 < xs.length ∧ w_2 arr = some (cO g xs.length f) ∧ ∀ i : Nat, i < xs.length → ∀ y : Nat, f i = some y → isO w_2 y) ∨ (arr = g.2.2 1 ∧ xs.length = 0) := by
    rcases hor with ha | ⟨h1, h2⟩
    · have ha2 : w_2 arr = some (cO g cap f) := by rw [ew_2, va_up_ne _ _ (ne_c he ha (fun z => by cases z))]; exact ha
      rcases Nat.lt_or_ge xs.length cap with h3 | h3
      · exact Or.inl ⟨ha2, h3, hc.1⟩
      · obtain rfl : cap = xs.length := by omega
        refine Or.inr (Or.inl ⟨hc.2, ha2, fun i hi y hy => ?_⟩)
        have h4 := hfi i _ (List.getElem?_eq_getElem hi)
        rw [hy] at h4
        cases h4
        rw [ew_2]
        exact isO_up (hxs _ (List.getElem_mem hi)) (Or.inr (Or.inr ⟨_, he⟩))
    · exact Or.inr (Or.inr ⟨h2, by rw [h1]; rfl⟩)
  have hv2 : isO w_2 v := by rw [ew_2]; exact isO_up hv (Or.inr (Or.inr ⟨_, he⟩))
  refine ww_v (cV (As := [.ref v, .ref arr, .int (nI xs.length)]) (rest := []) (C := "java/util/ArrayList") 3 ⟨hx, hb, hml, hown, hts⟩ (c_AL_add2 l g H.size w_2 a v arr xs.length cap v_1 f hv2 h2_a hn hor2) k_350 k_347 k_6 k_349 kp_6 (by decide +kernel) ⟨Nat.le_of_ble_eq_true rfl, Nat.le_of_ble_eq_true rfl⟩ rfl rfl ⟨prW_blind _ _ _ _, hw.recv hK h2_a rfl, prW_at hG hAB hS hw⟩ rfl hl.1 rfl (Nat.le_of_ble_eq_true rfl) d_AL_add_20 ⟨Nat.le_of_ble_eq_true rfl, Nat.le_of_ble_eq_true rfl⟩) hw hS hA (fun w_3 H locs e_3 hw hS hz_3 hk_3 hg_3 => ?_)
  refine W.widen (k := 1) (n := 30) (Nat.le_of_ble_eq_true rfl) (Nat.le_of_ble_eq_true rfl) ?_
  obtain ⟨arr1, cap1, f1, g1, g2, g3, g4, g5⟩ := e_3
  refine lv_iconst (v := 1) hx hb d_AL_add_23 (by decide) ?_
  exact W.zret (v := 1) (ty := .boolean) hx hb hr rfl (fun t ht hW => ⟨⟨1, w_3, rfl, (by
      have hne : arr1 ≠ a := by
        rcases g4 with ⟨rfl, z, hz⟩ | hz
        · rw [ew_2] at hz
          intro e9
          rw [e9, va_up_self] at hz
          cases hz
        · rw [ew_2] at hz
          intro e9
          rw [e9, va_up_self] at hz
          cases hz
      show (1 : Int32) = 1 ∧ _
      refine ⟨rfl, arr1, ⟨v_1, cap1, va_up f1 xs.length (some v), ?_, ?_, ⟨g2, by omega⟩, add_at rfl hfi g3, Or.inl ?_⟩, ?_, ?_⟩
      · rw [g5, List.length_append]
        exact va_up_self _ _ _
      · rw [List.length_append]
        exact g1
      · rw [g5, va_up_ne _ _ hne]
        exact va_up_self _ _ _
      · rcases g4 with ⟨h1, z, hz⟩ | hz
        · exact Or.inl ⟨h1, z, by rw [ew_2, va_up_ne _ _ (h1 ▸ hne)] at hz; exact hz⟩
        · exact Or.inr (by rw [ew_2, va_up_ne _ _ hne] at hz; exact hz)
      · intro b hb1 hb2
        rw [g5, va_up_ne _ _ hb1, va_up_ne _ _ hb2, ew_2, va_up_ne _ _ hb1]), ww_t ht hw⟩, hS.F ht⟩) hS.2.2 d_AL_add_24

