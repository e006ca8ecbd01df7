/-! METHODS THAT WRITE: the small ones -/
theorem ne_c {w : Nat → Option va_E} {a b : Nat} {x y : va_E} (ha : w a = some x) (hb : w b = some y) (h : x ≠ y) : b ≠ a := fun e => h (Option.some.inj (ha.symm.trans (e ▸ hb)))
theorem ne_n {w : Nat → Option va_E} {a b : Nat} {y : va_E} (ha : w a = none) (hb : w b = some y) : b ≠ a := fun e => by rw [e, ha] at hb; cases hb
theorem ww_t {D : va_G} {cl : List vw_C} {A : Nat → Prop} {w : Nat → Option va_E} {H : Heap} {t : State} (ht : t.heap = H) (hw : ww D cl A w H) : ww D cl A w t.heap := by rw [ht]; exact hw
def exAdd (x : Int64) (v : Int32) : Int64 := x ||| ((1 : Int64) <<< (v.toInt64 &&& 63))
set_option maxHeartbeats 4000000 in
set_option maxRecDepth 100000 in
theorem c_X_lay (l : Launch) (g : GT) (sz : Nat) (w : Nat → Option va_E) (a pl : Nat) (z x y t : Int32) (z1 x1 y1 : Int32) (hx0 : w a = some (cX pl z x y t)) : Met l y_X_lay (.code y_X_lay b_X_lay 4 (none) :: GW) ({ frames := 0, cells := 0, slots := 0, locals := 0 }) (prW g sz [.ref a, .int z1, .int x1, .int y1] w) (qV g sz w (fun w1 => w1 = va_up w a (some (cX pl z1 x1 y1 t)))) 0 0 (gA w sz) := by
  refine Met.ofW (cc := b_X_lay) (maxL := 4) (ret := none) (by decide) rfl ?_
  intro p e s m args below meth c s₁ B hml hv
  obtain ⟨rfl, hsz, hG, hw0⟩ := hv
  have hx := B.exec
  have hb := B.bytes
  have hr := B.returns
  have hts : ∀ w ∈ GW, w.before _ s = true := fun w h => atoms_spec (ws := .code y_X_lay b_X_lay 4 (none) :: GW) B.pre w (List.mem_cons_of_mem _ h)
  have hown : s.vm.findClass "DangerTables$Box" = some m.cls := findClass_of_methodNamed B.named
  have hlocks := B.notSynchronized
  have hf := hG.here
  have hK := hf.1
  subst hsz
  have hw := hw0.self s.heap.size
  have hAB : ∀ q, gA w s.heap.size q → gB g q := fun q h => h.elim (fun z => z.elim (fun _ he => hw0.inA he)) (fun h => Nat.le_trans hG.1 h)
  have hA : ∀ q, s.heap.size ≤ q → gA w s.heap.size q := fun q h => Or.inr h
  have hS : va_S (gA w s.heap.size) s.heap s.heap [] := va_S.rf
  have hl := lv_entry ([.ref a, .int z1, .int x1, .int y1]) (n := 4) (Nat.le_of_ble_eq_true rfl)
  rw [lg_entry_eq]
  generalize (lg_sl ([.ref a, .int z1, .int x1, .int y1]) ++ List.replicate (4 - (lg_sl ([.ref a, .int z1, .int x1, .int y1])).length) Slot.unset).toArray = ls at hl ⊢
  have hl : lv_has ls 4 [(0, .ref a), (1, .int z1), (2, .int x1), (3, .int y1)] := hl
  refine lv_aload_n hx hb d_X_lay_0 rfl (lv_at hl 0 rfl) ?_
  refine lv_iload_n hx hb d_X_lay_1 rfl (lv_at hl 1 rfl) ?_
  refine ww_put (v := .int z1) (ty := .int) (C := R_X) (T := F_X) (N := 5) (ci := 1) (fs' := [.ref pl, .int z1, .int x, .int y, .int t]) hx hb hts i_X ft_X ft_X_ok fn_X hown hK hw hS hx0 rfl 1 (by decide) (hts _ k_419) (fun _ h9 => h9) rfl (by decide +kernel) rfl rfl (Nat.le_of_ble_eq_true rfl) rfl d_X_lay_2 (fun H locs hw hS => ?_)
  obtain ⟨w_1, ew_1⟩ : ∃ zz9 : Nat → Option va_E, zz9 = va_up w a (some (.inr (1, [.ref pl, .int z1, .int x, .int y, .int t]))) := ⟨_, rfl⟩
  rw [← ew_1] at hw
  have h1_a : w_1 a = some (.inr (1, [.ref pl, .int z1, .int x, .int y, .int t])) := by rw [ew_1]; exact va_up_self _ _ _
  refine lv_aload_n hx hb d_X_lay_5 rfl (lv_at hl 0 rfl) ?_
  refine lv_iload_n hx hb d_X_lay_6 rfl (lv_at hl 2 rfl) ?_
  refine ww_put (v := .int x1) (ty := .int) (C := R_X) (T := F_X) (N := 5) (ci := 1) (fs' := [.ref pl, .int z1, .int x1, .int y, .int t]) hx hb hts i_X ft_X ft_X_ok fn_X hown hK hw hS h1_a rfl 2 (by decide) (hts _ k_421) (fun _ h9 => h9) rfl (by decide +kernel) rfl rfl (Nat.le_of_ble_eq_true rfl) rfl d_X_lay_7 (fun H locs hw hS => ?_)
  obtain ⟨w_2, ew_2⟩ : ∃ zz9 : Nat → Option va_E, zz9 = va_up w_1 a (some (.inr (1, [.ref pl, .int z1, .int x1, .int y, .int t]))) := ⟨_, rfl⟩
  rw [← ew_2] at hw
  have h2_a : w_2 a = some (.inr (1, [.ref pl, .int z1, .int x1, .int y, .int t])) := by rw [ew_2]; exact va_up_self _ _ _
  refine lv_aload_n hx hb d_X_lay_10 rfl (lv_at hl 0 rfl) ?_
  refine lv_iload_n hx hb d_X_lay_11 rfl (lv_at hl 3 rfl) ?_
  refine ww_put (v := .int y1) (ty := .int) (C := R_X) (T := F_X) (N := 5) (ci := 1) (fs' := [.ref pl, .int z1, .int x1, .int y1, .int t]) hx hb hts i_X ft_X ft_X_ok fn_X hown hK hw hS h2_a rfl 3 (by decide) (hts _ k_423) (fun _ h9 => h9) rfl (by decide +kernel) rfl rfl (Nat.le_of_ble_eq_true rfl) rfl d_X_lay_12 (fun H locs hw hS => ?_)
  obtain ⟨w_3, ew_3⟩ : ∃ zz9 : Nat → Option va_E, zz9 = va_up w_2 a (some (.inr (1, [.ref pl, .int z1, .int x1, .int y1, .int t]))) := ⟨_, rfl⟩
  rw [← ew_3] at hw
  have h3_a : w_3 a = some (.inr (1, [.ref pl, .int z1, .int x1, .int y1, .int t])) := by rw [ew_3]; exact va_up_self _ _ _
  exact W.vret hx hb hr (fun t ht hW => ⟨⟨w_3, rfl, (by rw [ew_3, ew_2, ew_1, bx_uu, bx_uu]), ww_t ht hw⟩, hS.F ht⟩) hS.2.2 d_X_lay_15

set_option maxHeartbeats 4000000 in
set_option maxRecDepth 100000 in
theorem c_X_tell (l : Launch) (g : GT) (sz : Nat) (w : Nat → Option va_E) (a pl : Nat) (z x y t v : Int32) (hx0 : w a = some (cX pl z x y t)) : Met l y_X_tell (.code y_X_tell b_X_tell 2 ((some .boolean)) :: GW) ({ frames := 0, cells := 0, slots := 0, locals := 0 }) (prW g sz [.ref a, .int v] w) (qI g sz w (fun r w1 => (t &&& v = 0 ∧ r = 1 ∧ w1 = va_up w a (some (cX pl z x y (t ||| v)))) ∨ (¬ t &&& v = 0 ∧ r = 0 ∧ w1 = w))) 0 0 (gA w sz) := by
  refine Met.ofW (cc := b_X_tell) (maxL := 2) (ret := (some .boolean)) (by decide) rfl ?_
  intro p e s m args below meth c s₁ B hml hv
  obtain ⟨rfl, hsz, hG, hw0⟩ := hv
  have hx := B.exec
  have hb := B.bytes
  have hr := B.returns
  have hts : ∀ w ∈ GW, w.before _ s = true := fun w h => atoms_spec (ws := .code y_X_tell b_X_tell 2 ((some .boolean)) :: GW) B.pre w (List.mem_cons_of_mem _ h)
  have hown : s.vm.findClass "DangerTables$Box" = some m.cls := findClass_of_methodNamed B.named
  have hlocks := B.notSynchronized
  have hf := hG.here
  have hK := hf.1
  subst hsz
  have hw := hw0.self s.heap.size
  have hAB : ∀ q, gA w s.heap.size q → gB g q := fun q h => h.elim (fun z => z.elim (fun _ he => hw0.inA he)) (fun h => Nat.le_trans hG.1 h)
  have hA : ∀ q, s.heap.size ≤ q → gA w s.heap.size q := fun q h => Or.inr h
  have hS : va_S (gA w s.heap.size) s.heap s.heap [] := va_S.rf
  have hl := lv_entry ([.ref a, .int v]) (n := 2) (Nat.le_of_ble_eq_true rfl)
  rw [lg_entry_eq]
  generalize (lg_sl ([.ref a, .int v]) ++ List.replicate (2 - (lg_sl ([.ref a, .int v])).length) Slot.unset).toArray = ls at hl ⊢
  have hl : lv_has ls 2 [(0, .ref a), (1, .int v)] := hl
  refine lv_aload_n hx hb d_X_tell_0 rfl (lv_at hl 0 rfl) ?_
  refine ww_get (v := .int t) (C := R_X) (T := F_X) (N := 5) (ci := 1) hx hb hts i_X hown hK hw hx0 rfl 4 (by decide) (hts _ k_425) (fun _ h9 => h9) rfl d_X_tell_1 ?_
  refine lv_iload_n hx hb d_X_tell_4 rfl (lv_at hl 1 rfl) ?_
  refine lv_iand hx hb d_X_tell_5 ?_
  refine lv_topi (fun v_1 e_1 => ?_)
  refine lv_if_eq (tgt := 11) hx hb d_X_tell_6 (by decide) (fun c_2 => ?_) (fun c_2 => ?_)
  · refine lv_aload_n hx hb d_X_tell_11 rfl (lv_at hl 0 rfl) ?_
    refine lv_dup hx hb d_X_tell_12 rfl ?_
    refine ww_get (v := .int t) (C := R_X) (T := F_X) (N := 5) (ci := 1) hx hb hts i_X hown hK hw hx0 rfl 4 (by decide) (hts _ k_425) (fun _ h9 => h9) rfl d_X_tell_13 ?_
    refine lv_iload_n hx hb d_X_tell_16 rfl (lv_at hl 1 rfl) ?_
    refine lv_ior hx hb d_X_tell_17 ?_
    refine lv_topi (fun v_3 e_3 => ?_)
    refine ww_put (v := .int v_3) (ty := .int) (C := R_X) (T := F_X) (N := 5) (ci := 1) (fs' := [.ref pl, .int z, .int x, .int y, .int v_3]) hx hb hts i_X ft_X ft_X_ok fn_X hown hK hw hS hx0 rfl 4 (by decide) (hts _ k_425) (fun _ h9 => h9) rfl (by decide +kernel) rfl rfl (Nat.le_of_ble_eq_true rfl) rfl d_X_tell_18 (fun H locs hw hS => ?_)
    obtain ⟨w_4, ew_4⟩ : ∃ zz9 : Nat → Option va_E, zz9 = va_up w a (some (.inr (1, [.ref pl, .int z, .int x, .int y, .int v_3]))) := ⟨_, rfl⟩
    rw [← ew_4] at hw
    have h4_a : w_4 a = some (.inr (1, [.ref pl, .int z, .int x, .int y, .int v_3])) := by rw [ew_4]; exact va_up_self _ _ _
    refine lv_iconst (v := 1) hx hb d_X_tell_21 (by decide) ?_
    exact W.zret (v := 1) (ty := .boolean) hx hb hr rfl (fun t ht hW => ⟨⟨1, w_4, rfl, Or.inl ⟨by rw [← e_1]; exact c_2, rfl, by rw [ew_4, e_3]⟩, ww_t ht hw⟩, hS.F ht⟩) hS.2.2 d_X_tell_22
  · refine lv_iconst (v := 0) hx hb d_X_tell_9 (by decide) ?_
    exact W.zret (v := 0) (ty := .boolean) hx hb hr rfl (fun t ht hW => ⟨⟨0, w, rfl, Or.inr ⟨by rw [← e_1]; exact c_2, rfl, rfl⟩, ww_t ht hw⟩, hS.F ht⟩) hS.2.2 d_X_tell_10

set_option maxHeartbeats 4000000 in
set_option maxRecDepth 100000 in
theorem c_G_addExemption (l : Launch) (g : GT) (sz : Nat) (w : Nat → Option va_E) (a : Nat) (cl sd lm fl : Int32) (x : Int64) (v : Int32) (he : w a = some (cG cl sd lm fl x)) : Met l y_G_addExemption (.code y_G_addExemption b_G_addExemption 2 ((some .boolean)) :: GW) ({ frames := 1, cells := 0, slots := 0, locals := 21 }) (prW g sz [.ref a, .int v] w) (qI g sz w (fun r w1 => (isEx x v = true ∧ r = 0 ∧ w1 = w) ∨ (isEx x v = false ∧ r = 1 ∧ w1 = va_up w a (some (cG cl sd lm fl (exAdd x v)))))) 0 0 (gA w sz) := by
  refine Met.ofW (cc := b_G_addExemption) (maxL := 2) (ret := (some .boolean)) (by decide) rfl ?_
  intro p e s m args below meth c s₁ B hml hv
  obtain ⟨rfl, hsz, hG, hw0⟩ := hv
  have hx := B.exec
  have hb := B.bytes
  have hr := B.returns
  have hts : ∀ w ∈ GW, w.before _ s = true := fun w h => atoms_spec (ws := .code y_G_addExemption b_G_addExemption 2 ((some .boolean)) :: GW) B.pre w (List.mem_cons_of_mem _ h)
  have hown : s.vm.findClass "DangerTables$Good" = some m.cls := findClass_of_methodNamed B.named
  have hlocks := B.notSynchronized
  have hf := hG.here
  have hK := hf.1
  subst hsz
  have hw := hw0.self s.heap.size
  have hAB : ∀ q, gA w s.heap.size q → gB g q := fun q h => h.elim (fun z => z.elim (fun _ he => hw0.inA he)) (fun h => Nat.le_trans hG.1 h)
  have hA : ∀ q, s.heap.size ≤ q → gA w s.heap.size q := fun q h => Or.inr h
  have hS : va_S (gA w s.heap.size) s.heap s.heap [] := va_S.rf
  have hl := lv_entry ([.ref a, .int v]) (n := 2) (Nat.le_of_ble_eq_true rfl)
  rw [lg_entry_eq]
  generalize (lg_sl ([.ref a, .int v]) ++ List.replicate (2 - (lg_sl ([.ref a, .int v])).length) Slot.unset).toArray = ls at hl ⊢
  have hl : lv_has ls 2 [(0, .ref a), (1, .int v)] := hl
  refine lv_aload_n hx hb d_G_addExemption_0 rfl (lv_at hl 0 rfl) ?_
  refine lv_iload_n hx hb d_G_addExemption_1 rfl (lv_at hl 1 rfl) ?_
  refine wr_i (cV (As := [.int v]) (rest := []) (C := "DangerTables$Good") 1 ⟨hx, hb, hml, hown, hts⟩ (c_G_isExempt l g w a cl sd lm fl x v he) k_177 k_174 k_14 k_175 k_176 (by decide +kernel) ⟨Nat.le_of_ble_eq_true rfl, Nat.le_of_ble_eq_true rfl⟩ rfl rfl ⟨prR_blind _ _ _, hw.recv hK he rfl, prR_at hG hAB hS hw⟩ rfl hl.1 rfl (Nat.le_of_ble_eq_true rfl) d_G_addExemption_2 ⟨Nat.le_of_ble_eq_true rfl, Nat.le_of_ble_eq_true rfl⟩) (fun r_1 e_1 => ?_)
  refine lv_if_eq (tgt := 10) hx hb d_G_addExemption_5 (by decide) (fun c_2 => ?_) (fun c_2 => ?_)
  · have q_2 := b2_f e_1 c_2
    refine lv_aload_n hx hb d_G_addExemption_10 rfl (lv_at hl 0 rfl) ?_
    refine lv_dup hx hb d_G_addExemption_11 rfl ?_
    refine ww_get (v := .long x) (C := R_G) (T := F_G) (N := 5) (ci := 2) hx hb hts i_G hown hK hw he rfl 4 (by decide) (hts _ k_331) (fun _ h9 => h9) rfl d_G_addExemption_12 ?_
    refine lv_lconst (v := 1) hx hb d_G_addExemption_15 (by decide) ?_
    refine lv_iload_n hx hb d_G_addExemption_16 rfl (lv_at hl 1 rfl) ?_
    refine lv_lshl hx hb d_G_addExemption_17 rfl ?_
    refine lv_topl (fun v_3 e_3 => ?_)
    refine lv_lor hx hb d_G_addExemption_18 ?_
    refine lv_topl (fun v_4 e_4 => ?_)
    refine ww_put (v := .long v_4) (ty := .long) (C := R_G) (T := F_G) (N := 5) (ci := 2) (fs' := [.int cl, .int sd, .int lm, .int fl, .long v_4]) hx hb hts i_G ft_G ft_G_ok fn_G hown hK hw hS he rfl 4 (by decide) (hts _ k_331) (fun _ h9 => h9) rfl (by decide +kernel) rfl rfl (Nat.le_of_ble_eq_true rfl) rfl d_G_addExemption_19 (fun H locs hw hS => ?_)
    obtain ⟨w_5, ew_5⟩ : ∃ zz9 : Nat → Option va_E, zz9 = va_up w a (some (.inr (2, [.int cl, .int sd, .int lm, .int fl, .long v_4]))) := ⟨_, rfl⟩
    rw [← ew_5] at hw
    have h5_a : w_5 a = some (.inr (2, [.int cl, .int sd, .int lm, .int fl, .long v_4])) := by rw [ew_5]; exact va_up_self _ _ _
    refine lv_iconst (v := 1) hx hb d_G_addExemption_22 (by decide) ?_
    exact W.zret (v := 1) (ty := .boolean) hx hb hr rfl (fun t ht hW => ⟨⟨1, w_5, rfl, Or.inr ⟨q_2, rfl, by rw [ew_5, e_4, e_3]; rfl⟩, ww_t ht hw⟩, hS.F ht⟩) hS.2.2 d_G_addExemption_23
  · have q_2 := b2_t e_1 c_2
    refine lv_iconst (v := 0) hx hb d_G_addExemption_8 (by decide) ?_
    exact W.zret (v := 0) (ty := .boolean) hx hb hr rfl (fun t ht hW => ⟨⟨0, w, rfl, Or.inl ⟨q_2, rfl, rfl⟩, ww_t ht hw⟩, hS.F ht⟩) hS.2.2 d_G_addExemption_9

set_option maxHeartbeats 4000000 in
set_option maxRecDepth 100000 in
theorem c_U_drop (l : Launch) (g : GT) (sz : Nat) (w : Nat → Option va_E) (a sg fo : Nat) (n : Int32) (hu : w a = some (cU sg n fo)) : Met l y_U_drop (.code y_U_drop b_U_drop 1 (none) :: GW) ({ frames := 0, cells := 0, slots := 0, locals := 0 }) (prW g sz [.ref a] w) (qV g sz w (fun w1 => w1 = va_up w a (some (cU sg 0 fo)))) 0 0 (gA w sz) := by
  refine Met.ofW (cc := b_U_drop) (maxL := 1) (ret := none) (by decide) rfl ?_
  intro p e s m args below meth c s₁ B hml hv
  obtain ⟨rfl, hsz, hG, hw0⟩ := hv
  have hx := B.exec
  have hb := B.bytes
  have hr := B.returns
  have hts : ∀ w ∈ GW, w.before _ s = true := fun w h => atoms_spec (ws := .code y_U_drop b_U_drop 1 (none) :: GW) B.pre w (List.mem_cons_of_mem _ h)
  have hown : s.vm.findClass "DangerTables$RuleText" = some m.cls := findClass_of_methodNamed B.named
  have hlocks := B.notSynchronized
  have hf := hG.here
  have hK := hf.1
  subst hsz
  have hw := hw0.self s.heap.size
  have hAB : ∀ q, gA w s.heap.size q → gB g q := fun q h => h.elim (fun z => z.elim (fun _ he => hw0.inA he)) (fun h => Nat.le_trans hG.1 h)
  have hA : ∀ q, s.heap.size ≤ q → gA w s.heap.size q := fun q h => Or.inr h
  have hS : va_S (gA w s.heap.size) s.heap s.heap [] := va_S.rf
  have hl := lv_entry ([.ref a]) (n := 1) (Nat.le_of_ble_eq_true rfl)
  rw [lg_entry_eq]
  generalize (lg_sl ([.ref a]) ++ List.replicate (1 - (lg_sl ([.ref a])).length) Slot.unset).toArray = ls at hl ⊢
  have hl : lv_has ls 1 [(0, .ref a)] := hl
  refine lv_aload_n hx hb d_U_drop_0 rfl (lv_at hl 0 rfl) ?_
  refine lv_iconst (v := 0) hx hb d_U_drop_1 (by decide) ?_
  refine ww_put (v := .int 0) (ty := .int) (C := R_U) (T := F_U) (N := 3) (ci := 4) (fs' := [.ref sg, .int 0, .ref fo]) hx hb hts i_U ft_U ft_U_ok fn_U hown hK hw hS hu rfl 1 (by decide) (hts _ k_37) (fun _ h9 => h9) rfl (by decide +kernel) rfl rfl (Nat.le_of_ble_eq_true rfl) rfl d_U_drop_2 (fun H locs hw hS => ?_)
  obtain ⟨w_1, ew_1⟩ : ∃ zz9 : Nat → Option va_E, zz9 = va_up w a (some (.inr (4, [.ref sg, .int 0, .ref fo]))) := ⟨_, rfl⟩
  rw [← ew_1] at hw
  have h1_a : w_1 a = some (.inr (4, [.ref sg, .int 0, .ref fo])) := by rw [ew_1]; exact va_up_self _ _ _
  exact W.vret hx hb hr (fun t ht hW => ⟨⟨w_1, rfl, (by rw [ew_1]), ww_t ht hw⟩, hS.F ht⟩) hS.2.2 d_U_drop_5

set_option maxHeartbeats 4000000 in
set_option maxRecDepth 100000 in
theorem c_G_init (l : Launch) (g : GT) (sz : Nat) (w : Nat → Option va_E) (a : Nat) (c0 s0 l0 f0 : Int32) (he : w a = some (cG 0 0 0 0 0)) : Met l y_G_init (.code y_G_init b_G_init 5 (none) :: GW) ({ frames := 1, cells := 0, slots := 0, locals := 13 }) (prW g sz [.ref a, .int c0, .int s0, .int l0, .int f0] w) (qV g sz w (fun w1 => w1 = va_up w a (some (cG c0 s0 l0 f0 0)))) 0 0 (gA w sz) := by
  refine Met.ofW (cc := b_G_init) (maxL := 5) (ret := none) (by decide) rfl ?_
  intro p e s m args below meth c s₁ B hml hv
  obtain ⟨rfl, hsz, hG, hw0⟩ := hv
  have hx := B.exec
  have hb := B.bytes
  have hr := B.returns
  have hts : ∀ w ∈ GW, w.before _ s = true := fun w h => atoms_spec (ws := .code y_G_init b_G_init 5 (none) :: GW) B.pre w (List.mem_cons_of_mem _ h)
  have hown : s.vm.findClass "DangerTables$Good" = some m.cls := findClass_of_methodNamed B.named
  have hlocks := B.notSynchronized
  have hf := hG.here
  have hK := hf.1
  subst hsz
  have hw := hw0.self s.heap.size
  have hAB : ∀ q, gA w s.heap.size q → gB g q := fun q h => h.elim (fun z => z.elim (fun _ he => hw0.inA he)) (fun h => Nat.le_trans hG.1 h)
  have hA : ∀ q, s.heap.size ≤ q → gA w s.heap.size q := fun q h => Or.inr h
  have hS : va_S (gA w s.heap.size) s.heap s.heap [] := va_S.rf
  have hin : meth.name = "<init>" := (name_of_methodNamed B.named B.method).1
  have hl := lv_entry ([.ref a, .int c0, .int s0, .int l0, .int f0]) (n := 5) (Nat.le_of_ble_eq_true rfl)
  rw [lg_entry_eq]
  generalize (lg_sl ([.ref a, .int c0, .int s0, .int l0, .int f0]) ++ List.replicate (5 - (lg_sl ([.ref a, .int c0, .int s0, .int l0, .int f0])).length) Slot.unset).toArray = ls at hl ⊢
  have hl : lv_has ls 5 [(0, .ref a), (1, .int c0), (2, .int s0), (3, .int l0), (4, .int f0)] := hl
  refine lv_aload_n hx hb d_G_init_0 rfl (lv_at hl 0 rfl) ?_
  refine W.objInit hx hb hown (hts _ k_322) (hts _ k_28) (hts _ k_29) rfl (by rw [hml]; exact hl.1) rfl d_G_init_1 (Nat.le_of_ble_eq_true rfl) (Nat.le_of_ble_eq_true rfl) ?_
  refine W.eq (g2 := F0 m 4 ls []) rfl ?_
  refine lv_aload_n hx hb d_G_init_4 rfl (lv_at hl 0 rfl) ?_
  refine lv_iload_n hx hb d_G_init_5 rfl (lv_at hl 1 rfl) ?_
  refine ww_putF (v := .int c0) (ty := .int) (C := R_G) (T := F_G) (N := 5) (ci := 2) (fs' := [.int c0, .int 0, .int 0, .int 0, .long 0]) hx hb hts i_G ft_G ft_G_ok fn_G hown hK hw hS he rfl 0 (by decide) (hts _ k_323) (fun _ h9 => h9) rfl hin rfl (by decide +kernel) rfl rfl (Nat.le_of_ble_eq_true rfl) rfl d_G_init_6 (fun H locs hw hS => ?_)
  obtain ⟨w_1, ew_1⟩ : ∃ zz9 : Nat → Option va_E, zz9 = va_up w a (some (.inr (2, [.int c0, .int 0, .int 0, .int 0, .long 0]))) := ⟨_, rfl⟩
  rw [← ew_1] at hw
  have h1_a : w_1 a = some (.inr (2, [.int c0, .int 0, .int 0, .int 0, .long 0])) := by rw [ew_1]; exact va_up_self _ _ _
  refine lv_aload_n hx hb d_G_init_9 rfl (lv_at hl 0 rfl) ?_
  refine lv_iload_n hx hb d_G_init_10 rfl (lv_at hl 2 rfl) ?_
  refine ww_putF (v := .int s0) (ty := .int) (C := R_G) (T := F_G) (N := 5) (ci := 2) (fs' := [.int c0, .int s0, .int 0, .int 0, .long 0]) hx hb hts i_G ft_G ft_G_ok fn_G hown hK hw hS h1_a rfl 1 (by decide) (hts _ k_325) (fun _ h9 => h9) rfl hin rfl (by decide +kernel) rfl rfl (Nat.le_of_ble_eq_true rfl) rfl d_G_init_11 (fun H locs hw hS => ?_)
  obtain ⟨w_2, ew_2⟩ : ∃ zz9 : Nat → Option va_E, zz9 = va_up w_1 a (some (.inr (2, [.int c0, .int s0, .int 0, .int 0, .long 0]))) := ⟨_, rfl⟩
  rw [← ew_2] at hw
  have h2_a : w_2 a = some (.inr (2, [.int c0, .int s0, .int 0, .int 0, .long 0])) := by rw [ew_2]; exact va_up_self _ _ _
  refine lv_aload_n hx hb d_G_init_14 rfl (lv_at hl 0 rfl) ?_
  refine lv_iload_n hx hb d_G_init_15 rfl (lv_at hl 3 rfl) ?_
  refine ww_putF (v := .int l0) (ty := .int) (C := R_G) (T := F_G) (N := 5) (ci := 2) (fs' := [.int c0, .int s0, .int l0, .int 0, .long 0]) hx hb hts i_G ft_G ft_G_ok fn_G hown hK hw hS h2_a rfl 2 (by decide) (hts _ k_327) (fun _ h9 => h9) rfl hin rfl (by decide +kernel) rfl rfl (Nat.le_of_ble_eq_true rfl) rfl d_G_init_16 (fun H locs hw hS => ?_)
  obtain ⟨w_3, ew_3⟩ : ∃ zz9 : Nat → Option va_E, zz9 = va_up w_2 a (some (.inr (2, [.int c0, .int s0, .int l0, .int 0, .long 0]))) := ⟨_, rfl⟩
  rw [← ew_3] at hw
  have h3_a : w_3 a = some (.inr (2, [.int c0, .int s0, .int l0, .int 0, .long 0])) := by rw [ew_3]; exact va_up_self _ _ _
  refine lv_aload_n hx hb d_G_init_19 rfl (lv_at hl 0 rfl) ?_
  refine lv_iload hx hb d_G_init_20 (lv_at hl 4 rfl) ?_
  refine ww_putF (v := .int f0) (ty := .int) (C := R_G) (T := F_G) (N := 5) (ci := 2) (fs' := [.int c0, .int s0, .int l0, .int f0, .long 0]) hx hb hts i_G ft_G ft_G_ok fn_G hown hK hw hS h3_a rfl 3 (by decide) (hts _ k_329) (fun _ h9 => h9) rfl hin rfl (by decide +kernel) rfl rfl (Nat.le_of_ble_eq_true rfl) rfl d_G_init_22 (fun H locs hw hS => ?_)
  obtain ⟨w_4, ew_4⟩ : ∃ zz9 : Nat → Option va_E, zz9 = va_up w_3 a (some (.inr (2, [.int c0, .int s0, .int l0, .int f0, .long 0]))) := ⟨_, rfl⟩
  rw [← ew_4] at hw
  have h4_a : w_4 a = some (.inr (2, [.int c0, .int s0, .int l0, .int f0, .long 0])) := by rw [ew_4]; exact va_up_self _ _ _
  exact W.vret hx hb hr (fun t ht hW => ⟨⟨w_4, rfl, (by rw [ew_4, ew_3, ew_2, ew_1, bx_uu, bx_uu, bx_uu]), ww_t ht hw⟩, hS.F ht⟩) hS.2.2 d_G_init_25

set_option maxHeartbeats 4000000 in
set_option maxRecDepth 100000 in
theorem c_P_init (l : Launch) (g : GT) (sz : Nat) (w : Nat → Option va_E) (a ga : Nat) (n0 a0 : Int32) (he : w a = some (.inr (3, [.null, .int 0, .int 0]))) : Met l y_P_init (.code y_P_init b_P_init 4 (none) :: GW) ({ frames := 1, cells := 0, slots := 0, locals := 13 }) (prW g sz [.ref a, .ref ga, .int n0, .int a0] w) (qV g sz w (fun w1 => w1 = va_up w a (some (cP ga n0 a0)))) 0 0 (gA w sz) := by
  refine Met.ofW (cc := b_P_init) (maxL := 4) (ret := none) (by decide) rfl ?_
  intro p e s m args below meth c s₁ B hml hv
  obtain ⟨rfl, hsz, hG, hw0⟩ := hv
  have hx := B.exec
  have hb := B.bytes
  have hr := B.returns
  have hts : ∀ w ∈ GW, w.before _ s = true := fun w h => atoms_spec (ws := .code y_P_init b_P_init 4 (none) :: GW) B.pre w (List.mem_cons_of_mem _ h)
  have hown : s.vm.findClass "DangerTables$Part" = some m.cls := findClass_of_methodNamed B.named
  have hlocks := B.notSynchronized
  have hf := hG.here
  have hK := hf.1
  subst hsz
  have hw := hw0.self s.heap.size
  have hAB : ∀ q, gA w s.heap.size q → gB g q := fun q h => h.elim (fun z => z.elim (fun _ he => hw0.inA he)) (fun h => Nat.le_trans hG.1 h)
  have hA : ∀ q, s.heap.size ≤ q → gA w s.heap.size q := fun q h => Or.inr h
  have hS : va_S (gA w s.heap.size) s.heap s.heap [] := va_S.rf
  have hin : meth.name = "<init>" := (name_of_methodNamed B.named B.method).1
  have hl := lv_entry ([.ref a, .ref ga, .int n0, .int a0]) (n := 4) (Nat.le_of_ble_eq_true rfl)
  rw [lg_entry_eq]
  generalize (lg_sl ([.ref a, .ref ga, .int n0, .int a0]) ++ List.replicate (4 - (lg_sl ([.ref a, .ref ga, .int n0, .int a0])).length) Slot.unset).toArray = ls at hl ⊢
  have hl : lv_has ls 4 [(0, .ref a), (1, .ref ga), (2, .int n0), (3, .int a0)] := hl
  refine lv_aload_n hx hb d_P_init_0 rfl (lv_at hl 0 rfl) ?_
  refine W.objInit hx hb hown (hts _ k_447) (hts _ k_28) (hts _ k_29) rfl (by rw [hml]; exact hl.1) rfl d_P_init_1 (Nat.le_of_ble_eq_true rfl) (Nat.le_of_ble_eq_true rfl) ?_
  refine W.eq (g2 := F0 m 4 ls []) rfl ?_
  refine lv_aload_n hx hb d_P_init_4 rfl (lv_at hl 0 rfl) ?_
  refine lv_aload_n hx hb d_P_init_5 rfl (lv_at hl 1 rfl) ?_
  refine ww_putF (v := .ref ga) (ty := .object "DangerTables$Good") (C := R_P) (T := F_P) (N := 3) (ci := 3) (fs' := [.ref ga, .int 0, .int 0]) hx hb hts i_P ft_P ft_P_ok fn_P hown hK hw hS he rfl 0 (by decide) (hts _ k_448) (fun _ h9 => h9) rfl hin rfl (by decide +kernel) rfl rfl (Nat.le_of_ble_eq_true rfl) rfl d_P_init_6 (fun H locs hw hS => ?_)
  obtain ⟨w_1, ew_1⟩ : ∃ zz9 : Nat → Option va_E, zz9 = va_up w a (some (.inr (3, [.ref ga, .int 0, .int 0]))) := ⟨_, rfl⟩
  rw [← ew_1] at hw
  have h1_a : w_1 a = some (.inr (3, [.ref ga, .int 0, .int 0])) := by rw [ew_1]; exact va_up_self _ _ _
  refine lv_aload_n hx hb d_P_init_9 rfl (lv_at hl 0 rfl) ?_
  refine lv_iload_n hx hb d_P_init_10 rfl (lv_at hl 2 rfl) ?_
  refine ww_putF (v := .int n0) (ty := .int) (C := R_P) (T := F_P) (N := 3) (ci := 3) (fs' := [.ref ga, .int n0, .int 0]) hx hb hts i_P ft_P ft_P_ok fn_P hown hK hw hS h1_a rfl 1 (by decide) (hts _ k_451) (fun _ h9 => h9) rfl hin rfl (by decide +kernel) rfl rfl (Nat.le_of_ble_eq_true rfl) rfl d_P_init_11 (fun H locs hw hS => ?_)
  obtain ⟨w_2, ew_2⟩ : ∃ zz9 : Nat → Option va_E, zz9 = va_up w_1 a (some (.inr (3, [.ref ga, .int n0, .int 0]))) := ⟨_, rfl⟩
  rw [← ew_2] at hw
  have h2_a : w_2 a = some (.inr (3, [.ref ga, .int n0, .int 0])) := by rw [ew_2]; exact va_up_self _ _ _
  refine lv_aload_n hx hb d_P_init_14 rfl (lv_at hl 0 rfl) ?_
  refine lv_iload_n hx hb d_P_init_15 rfl (lv_at hl 3 rfl) ?_
  refine ww_putF (v := .int a0) (ty := .int) (C := R_P) (T := F_P) (N := 3) (ci := 3) (fs' := [.ref ga, .int n0, .int a0]) hx hb hts i_P ft_P ft_P_ok fn_P hown hK hw hS h2_a rfl 2 (by decide) (hts _ k_453) (fun _ h9 => h9) rfl hin rfl (by decide +kernel) rfl rfl (Nat.le_of_ble_eq_true rfl) rfl d_P_init_16 (fun H locs hw hS => ?_)
  obtain ⟨w_3, ew_3⟩ : ∃ zz9 : Nat → Option va_E, zz9 = va_up w_2 a (some (.inr (3, [.ref ga, .int n0, .int a0]))) := ⟨_, rfl⟩
  rw [← ew_3] at hw
  have h3_a : w_3 a = some (.inr (3, [.ref ga, .int n0, .int a0])) := by rw [ew_3]; exact va_up_self _ _ _
  exact W.vret hx hb hr (fun t ht hW => ⟨⟨w_3, rfl, (by rw [ew_3, ew_2, ew_1, bx_uu, bx_uu]), ww_t ht hw⟩, hS.F ht⟩) hS.2.2 d_P_init_19

