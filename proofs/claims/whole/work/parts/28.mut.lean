/-! METHODS OF THE FACE THAT WRITE, without throws -/
abbrev GD : Type := Int32 × Int32 × Int32 × Int32 × Int64
abbrev cGd (d : GD) : va_E := cG d.1 d.2.1 d.2.2.1 d.2.2.2.1 d.2.2.2.2
theorem isL_keep {g : GT} {w w1 : Nat → Option va_E} {a arr : Nat} {xs : List Nat} (h : isL g w a arr xs) (ha : w1 a = w a) (hr : ∀ z, w arr = some (.inl z) → w1 arr = w arr) : isL g w1 a arr xs := by
  obtain ⟨mc, cap, f, he, hcap, hc, hfi, hor⟩ := h
  exact ⟨mc, cap, f, by rw [ha]; exact he, hcap, hc, hfi, hor.imp (fun h => by rw [hr _ h]; exact h) id⟩
theorem isL_new {g : GT} {w : Nat → Option va_E} {a arr q : Nat} {e : Option va_E} {xs : List Nat} (h : isL g w a arr xs) (hq : w q = none) : isL g (va_up w q e) a arr xs := by
  refine isL_keep h ?_ (fun z hz => ?_)
  · obtain ⟨mc, cap, f, he, -⟩ := h
    exact va_up_ne _ _ (ne_n hq he)
  · exact va_up_ne _ _ (ne_n hq hz)
def ctI (n ng nb : Nat) (ly rd v : Int32) : Int32 := if v = 0 then nI n else if v = 1 then nI ng else if v = 2 then nI nb else if v = 3 then ly else if v = 4 then rd else -1
set_option maxHeartbeats 4000000 in
set_option maxRecDepth 100000 in
theorem c_X_init (l : Launch) (g : GT) (sz : Nat) (w : Nat → Option va_E) (a : Nat) (he : w a = some (.inr (1, [.null, .int 0, .int 0, .int 0, .int 0]))) : Met l y_X_init (.code y_X_init b_X_init 1 (none) :: GW) ({ frames := 4, cells := 1, slots := 3, locals := 73 }) (prW g sz [.ref a] w) (qV g sz w (fun w1 => ∃ q : Nat, w q = none ∧ w1 = va_up (va_up w q (some (cL 0 (g.2.2 1) 0))) a (some (cX q (-1) (-1) (-1) 0)))) 1 3 (gA w sz) := by
  refine Met.ofW (cc := b_X_init) (maxL := 1) (ret := none) (by decide) rfl ?_
  intro p e s m args below meth c s₁ B hml hv
  obtain ⟨rfl, hsz, hG, hw0⟩ := hv
  have hx := B.exec
  have hb := B.bytes
  have hr := B.returns
  have hts : ∀ w ∈ GW, w.before _ s = true := fun w h => atoms_spec (ws := .code y_X_init b_X_init 1 (none) :: GW) B.pre w (List.mem_cons_of_mem _ h)
  have hown : s.vm.findClass "DangerTables$Box" = some m.cls := findClass_of_methodNamed B.named
  have hlocks := B.notSynchronized
  have hf := hG.here
  have hK := hf.1
  subst hsz
  have hw := hw0.self s.heap.size
  have hAB : ∀ q, gA w s.heap.size q → gB g q := fun q h => h.elim (fun z => z.elim (fun _ he => hw0.inA he)) (fun h => Nat.le_trans hG.1 h)
  have hA : ∀ q, s.heap.size ≤ q → gA w s.heap.size q := fun q h => Or.inr h
  have hS : va_S (gA w s.heap.size) s.heap s.heap [] := va_S.rf
  have hin : meth.name = "<init>" := (name_of_methodNamed B.named B.method).1
  have hl := lv_entry ([.ref a]) (n := 1) (Nat.le_of_ble_eq_true rfl)
  rw [lg_entry_eq]
  generalize (lg_sl ([.ref a]) ++ List.replicate (1 - (lg_sl ([.ref a])).length) Slot.unset).toArray = ls at hl ⊢
  have hl : lv_has ls 1 [(0, .ref a)] := hl
  refine lv_aload_n hx hb d_X_init_0 rfl (lv_at hl 0 rfl) ?_
  refine W.objInit hx hb hown (hts _ k_414) (hts _ k_28) (hts _ k_29) rfl (by rw [hml]; exact hl.1) rfl d_X_init_1 (Nat.le_of_ble_eq_true rfl) (Nat.le_of_ble_eq_true rfl) ?_
  refine W.eq (g2 := F0 m 4 ls []) rfl ?_
  refine lv_aload_n hx hb d_X_init_4 rfl (lv_at hl 0 rfl) ?_
  refine ww_new (C := R_AL) (T := F_AL) (N := 3) (ci := 6) (fs := [.int 0, .null, .int 0]) hx hb hts i_AL ft_AL ft_AL_ok hown (hts _ k_415) (hts _ k_52) (hts _ k_6) hK hw hS hA rfl (fun j hj => by rcases (show j = 0 ∨ j = 1 ∨ j = 2 by omega) with rfl | rfl | rfl <;> rfl) (Nat.le_of_ble_eq_true rfl) (Nat.le_of_ble_eq_true rfl) d_X_init_5 (fun q_1 H hn_1 hw hS => ?_)
  refine W.widen (k := 1) (n := 3) (Nat.le_of_ble_eq_true rfl) (Nat.le_of_ble_eq_true rfl) ?_
  obtain ⟨w_2, ew_2⟩ : ∃ zz9 : Nat → Option va_E, zz9 = va_up w q_1 (some (.inr (6, [.int 0, .null, .int 0]))) := ⟨_, rfl⟩
  rw [← ew_2] at hw
  have h2_a : w_2 a = some (.inr (1, [.null, .int 0, .int 0, .int 0, .int 0])) := by rw [ew_2, va_up_ne _ _ (ne_n hn_1 he)]; exact he
  have h2_q_1 : w_2 q_1 = some (.inr (6, [.int 0, .null, .int 0])) := by rw [ew_2]; exact va_up_self _ _ _
  refine lv_dup hx hb d_X_init_8 rfl ?_
  refine ww_v (cI (As := []) (rest := [.ref q_1, .ref a]) 0 ⟨hx, hb, hml, hown, hts⟩ (c_AL_init l g H.size w_2 q_1 h2_q_1) k_55 k_416 k_6 k_54 rfl (by decide +kernel) ⟨Nat.le_of_ble_eq_true rfl, Nat.le_of_ble_eq_true rfl⟩ rfl rfl ⟨prW_blind _ _ _ _, prW_at hG hAB hS hw⟩ rfl hl.1 rfl (Nat.le_of_ble_eq_true rfl) d_X_init_9 ⟨Nat.le_of_ble_eq_true rfl, Nat.le_of_ble_eq_true rfl⟩) hw hS hA (fun w_3 H locs e_3 hw hS hz_3 hk_3 hg_3 => ?_)
  have ew_3 := e_3
  have h3_a : w_3 a = some (.inr (1, [.null, .int 0, .int 0, .int 0, .int 0])) := by rw [e_3, va_up_ne _ _ (ne_c h2_q_1 h2_a (fun z => by cases z))]; exact h2_a
  have h3_q_1 : w_3 q_1 = some (.inr (6, [.int 0, .ref (g.2.2 1), .int 0])) := by rw [e_3]; exact va_up_self _ _ _
  refine ww_putF (v := .ref q_1) (ty := .object "java/util/ArrayList") (C := R_X) (T := F_X) (N := 5) (ci := 1) (fs' := [.ref q_1, .int 0, .int 0, .int 0, .int 0]) hx hb hts i_X ft_X ft_X_ok fn_X hown hK hw hS h3_a rfl 0 (by decide) (hts _ k_417) (fun _ h9 => h9) rfl hin rfl (by decide +kernel) rfl rfl (Nat.le_of_ble_eq_true rfl) rfl d_X_init_12 (fun H locs hw hS => ?_)
  obtain ⟨w_4, ew_4⟩ : ∃ zz9 : Nat → Option va_E, zz9 = va_up w_3 a (some (.inr (1, [.ref q_1, .int 0, .int 0, .int 0, .int 0]))) := ⟨_, rfl⟩
  rw [← ew_4] at hw
  have h4_q_1 : w_4 q_1 = some (.inr (6, [.int 0, .ref (g.2.2 1), .int 0])) := by rw [ew_4, va_up_ne _ _ (ne_c h3_a h3_q_1 (fun z => by first | cases z | simp at z))]; exact h3_q_1
  have h4_a : w_4 a = some (.inr (1, [.ref q_1, .int 0, .int 0, .int 0, .int 0])) := by rw [ew_4]; exact va_up_self _ _ _
  refine lv_aload_n hx hb d_X_init_15 rfl (lv_at hl 0 rfl) ?_
  refine lv_iconst (v := -1) hx hb d_X_init_16 (by decide) ?_
  refine ww_put (v := .int (-1)) (ty := .int) (C := R_X) (T := F_X) (N := 5) (ci := 1) (fs' := [.ref q_1, .int (-1), .int 0, .int 0, .int 0]) hx hb hts i_X ft_X ft_X_ok fn_X hown hK hw hS h4_a rfl 1 (by decide) (hts _ k_419) (fun _ h9 => h9) rfl (by decide +kernel) rfl rfl (Nat.le_of_ble_eq_true rfl) rfl d_X_init_17 (fun H locs hw hS => ?_)
  obtain ⟨w_5, ew_5⟩ : ∃ zz9 : Nat → Option va_E, zz9 = va_up w_4 a (some (.inr (1, [.ref q_1, .int (-1), .int 0, .int 0, .int 0]))) := ⟨_, rfl⟩
  rw [← ew_5] at hw
  have h5_q_1 : w_5 q_1 = some (.inr (6, [.int 0, .ref (g.2.2 1), .int 0])) := by rw [ew_5, va_up_ne _ _ (ne_c h4_a h4_q_1 (fun z => by first | cases z | simp at z))]; exact h4_q_1
  have h5_a : w_5 a = some (.inr (1, [.ref q_1, .int (-1), .int 0, .int 0, .int 0])) := by rw [ew_5]; exact va_up_self _ _ _
  refine lv_aload_n hx hb d_X_init_20 rfl (lv_at hl 0 rfl) ?_
  refine lv_iconst (v := -1) hx hb d_X_init_21 (by decide) ?_
  refine ww_put (v := .int (-1)) (ty := .int) (C := R_X) (T := F_X) (N := 5) (ci := 1) (fs' := [.ref q_1, .int (-1), .int (-1), .int 0, .int 0]) hx hb hts i_X ft_X ft_X_ok fn_X hown hK hw hS h5_a rfl 2 (by decide) (hts _ k_421) (fun _ h9 => h9) rfl (by decide +kernel) rfl rfl (Nat.le_of_ble_eq_true rfl) rfl d_X_init_22 (fun H locs hw hS => ?_)
  obtain ⟨w_6, ew_6⟩ : ∃ zz9 : Nat → Option va_E, zz9 = va_up w_5 a (some (.inr (1, [.ref q_1, .int (-1), .int (-1), .int 0, .int 0]))) := ⟨_, rfl⟩
  rw [← ew_6] at hw
  have h6_q_1 : w_6 q_1 = some (.inr (6, [.int 0, .ref (g.2.2 1), .int 0])) := by rw [ew_6, va_up_ne _ _ (ne_c h5_a h5_q_1 (fun z => by first | cases z | simp at z))]; exact h5_q_1
  have h6_a : w_6 a = some (.inr (1, [.ref q_1, .int (-1), .int (-1), .int 0, .int 0])) := by rw [ew_6]; exact va_up_self _ _ _
  refine lv_aload_n hx hb d_X_init_25 rfl (lv_at hl 0 rfl) ?_
  refine lv_iconst (v := -1) hx hb d_X_init_26 (by decide) ?_
  refine ww_put (v := .int (-1)) (ty := .int) (C := R_X) (T := F_X) (N := 5) (ci := 1) (fs' := [.ref q_1, .int (-1), .int (-1), .int (-1), .int 0]) hx hb hts i_X ft_X ft_X_ok fn_X hown hK hw hS h6_a rfl 3 (by decide) (hts _ k_423) (fun _ h9 => h9) rfl (by decide +kernel) rfl rfl (Nat.le_of_ble_eq_true rfl) rfl d_X_init_27 (fun H locs hw hS => ?_)
  obtain ⟨w_7, ew_7⟩ : ∃ zz9 : Nat → Option va_E, zz9 = va_up w_6 a (some (.inr (1, [.ref q_1, .int (-1), .int (-1), .int (-1), .int 0]))) := ⟨_, rfl⟩
  rw [← ew_7] at hw
  have h7_q_1 : w_7 q_1 = some (.inr (6, [.int 0, .ref (g.2.2 1), .int 0])) := by rw [ew_7, va_up_ne _ _ (ne_c h6_a h6_q_1 (fun z => by first | cases z | simp at z))]; exact h6_q_1
  have h7_a : w_7 a = some (.inr (1, [.ref q_1, .int (-1), .int (-1), .int (-1), .int 0])) := by rw [ew_7]; exact va_up_self _ _ _
  exact W.vret hx hb hr (fun t ht hW => ⟨⟨w_7, rfl, ⟨q_1, hn_1, by rw [ew_7, ew_6, ew_5, ew_4, e_3, ew_2, bx_uu, bx_uu, bx_uu, bx_uu]⟩, ww_t ht hw⟩, hS.F ht⟩) hS.2.2 d_X_init_30

set_option maxHeartbeats 4000000 in
set_option maxRecDepth 100000 in
theorem c_X_fill (l : Launch) (g : GT) (sz : Nat) (w : Nat → Option va_E) (a ga pl parr : Nat) (z x y t nu am : Int32) (ps : List Nat) (hx0 : w a = some (cX pl z x y t)) (hL : isL g w pl parr ps) (hlen : ps.length ≤ 19) (hps : ∀ x ∈ ps, isO w x) : Met l y_X_fill (.code y_X_fill b_X_fill 4 (none) :: GW) ({ frames := 7, cells := 2, slots := 33, locals := 154 }) (prW g sz [.ref a, .ref ga, .int nu, .int am] w) (qV g sz w (fun w1 => ∃ q arr1 : Nat, w q = none ∧ isL g w1 pl arr1 (ps ++ [q]) ∧ w1 q = some (cP ga nu am) ∧ ((arr1 = parr ∧ ∃ z, w parr = some (.inl z)) ∨ w arr1 = none) ∧ ∀ b : Nat, b ≠ pl → b ≠ arr1 → b ≠ q → w1 b = w b)) 2 33 (gA w sz) := by
  refine Met.ofW (cc := b_X_fill) (maxL := 4) (ret := none) (by decide) rfl ?_
  intro p e s m args below meth c s₁ B hml hv
  obtain ⟨rfl, hsz, hG, hw0⟩ := hv
  have hx := B.exec
  have hb := B.bytes
  have hr := B.returns
  have hts : ∀ w ∈ GW, w.before _ s = true := fun w h => atoms_spec (ws := .code y_X_fill b_X_fill 4 (none) :: GW) B.pre w (List.mem_cons_of_mem _ h)
  have hown : s.vm.findClass "DangerTables$Box" = some m.cls := findClass_of_methodNamed B.named
  have hlocks := B.notSynchronized
  have hf := hG.here
  have hK := hf.1
  subst hsz
  have hw := hw0.self s.heap.size
  have hAB : ∀ q, gA w s.heap.size q → gB g q := fun q h => h.elim (fun z => z.elim (fun _ he => hw0.inA he)) (fun h => Nat.le_trans hG.1 h)
  have hA : ∀ q, s.heap.size ≤ q → gA w s.heap.size q := fun q h => Or.inr h
  have hS : va_S (gA w s.heap.size) s.heap s.heap [] := va_S.rf
  have hl := lv_entry ([.ref a, .ref ga, .int nu, .int am]) (n := 4) (Nat.le_of_ble_eq_true rfl)
  rw [lg_entry_eq]
  generalize (lg_sl ([.ref a, .ref ga, .int nu, .int am]) ++ List.replicate (4 - (lg_sl ([.ref a, .ref ga, .int nu, .int am])).length) Slot.unset).toArray = ls at hl ⊢
  have hl : lv_has ls 4 [(0, .ref a), (1, .ref ga), (2, .int nu), (3, .int am)] := hl
  obtain ⟨mc, cap, fn, hpl, -⟩ := id hL
  refine lv_aload_n hx hb d_X_fill_0 rfl (lv_at hl 0 rfl) ?_
  refine ww_get (v := .ref pl) (C := R_X) (T := F_X) (N := 5) (ci := 1) hx hb hts i_X hown hK hw hx0 rfl 0 (by decide) (hts _ k_417) (fun _ h9 => h9) rfl d_X_fill_1 ?_
  refine ww_new (C := R_P) (T := F_P) (N := 3) (ci := 3) (fs := [.null, .int 0, .int 0]) hx hb hts i_P ft_P ft_P_ok hown (hts _ k_442) (hts _ k_443) (hts _ k_20) hK hw hS hA rfl (fun j hj => by rcases (show j = 0 ∨ j = 1 ∨ j = 2 by omega) with rfl | rfl | rfl <;> rfl) (Nat.le_of_ble_eq_true rfl) (Nat.le_of_ble_eq_true rfl) d_X_fill_4 (fun q_1 H hn_1 hw hS => ?_)
  refine W.widen (k := 1) (n := 3) (Nat.le_of_ble_eq_true rfl) (Nat.le_of_ble_eq_true rfl) ?_
  obtain ⟨w_2, ew_2⟩ : ∃ zz9 : Nat → Option va_E, zz9 = va_up w q_1 (some (.inr (3, [.null, .int 0, .int 0]))) := ⟨_, rfl⟩
  rw [← ew_2] at hw
  have h2_a : w_2 a = some (.inr (1, [.ref pl, .int z, .int x, .int y, .int t])) := by rw [ew_2, va_up_ne _ _ (ne_n hn_1 hx0)]; exact hx0
  have h2_pl : w_2 pl = some (.inr (6, [.int mc, .ref parr, .int (nI ps.length)])) := by rw [ew_2, va_up_ne _ _ (ne_n hn_1 hpl)]; exact hpl
  have h2_q_1 : w_2 q_1 = some (.inr (3, [.null, .int 0, .int 0])) := by rw [ew_2]; exact va_up_self _ _ _
  refine lv_dup hx hb d_X_fill_7 rfl ?_
  refine lv_aload_n hx hb d_X_fill_8 rfl (lv_at hl 1 rfl) ?_
  refine lv_iload_n hx hb d_X_fill_9 rfl (lv_at hl 2 rfl) ?_
  refine lv_iload_n hx hb d_X_fill_10 rfl (lv_at hl 3 rfl) ?_
  refine ww_v (cI (As := [.ref ga, .int nu, .int am]) (rest := [.ref q_1, .ref pl]) 3 ⟨hx, hb, hml, hown, hts⟩ (c_P_init l g H.size w_2 q_1 ga nu am h2_q_1) k_446 k_444 k_20 k_445 rfl (by decide +kernel) ⟨Nat.le_of_ble_eq_true rfl, Nat.le_of_ble_eq_true rfl⟩ rfl rfl ⟨prW_blind _ _ _ _, prW_at hG hAB hS hw⟩ rfl hl.1 rfl (Nat.le_of_ble_eq_true rfl) d_X_fill_11 ⟨Nat.le_of_ble_eq_true rfl, Nat.le_of_ble_eq_true rfl⟩) hw hS hA (fun w_3 H locs e_3 hw hS hz_3 hk_3 hg_3 => ?_)
  have ew_3 := e_3
  have h3_a : w_3 a = some (.inr (1, [.ref pl, .int z, .int x, .int y, .int t])) := by rw [ew_3, va_up_ne _ _ (ne_c h2_q_1 h2_a (fun z => by cases z))]; exact h2_a
  have h3_pl : w_3 pl = some (.inr (6, [.int mc, .ref parr, .int (nI ps.length)])) := by rw [ew_3, va_up_ne _ _ (ne_c h2_q_1 h2_pl (fun z => by cases z))]; exact h2_pl
  have h3_q_1 : w_3 q_1 = some (.inr (3, [.ref ga, .int nu, .int am])) := by rw [ew_3]; exact va_up_self _ _ _
  have hLw : isL g w_3 pl parr ps := by rw [ew_3, ew_2, bx_uu]; exact isL_new hL hn_1
  have hOq : isO w_3 q_1 := ⟨3, _, h3_q_1, Or.inr (Or.inr rfl)⟩
  have hOs : ∀ x ∈ ps, isO w_3 x := fun x9 h9 => by rw [ew_3, ew_2, bx_uu]; exact isO_up (hps x9 h9) (Or.inl hn_1)
  refine ww_i (cV (As := [.ref q_1]) (rest := []) (C := "java/util/ArrayList") 1 ⟨hx, hb, hml, hown, hts⟩ (c_AL_add l g H.size w_3 pl q_1 parr ps hLw hlen hOq hOs) k_346 k_462 k_6 k_344 k_345 (by decide +kernel) ⟨Nat.le_of_ble_eq_true rfl, Nat.le_of_ble_eq_true rfl⟩ rfl rfl ⟨prW_blind _ _ _ _, hw.recv hK h3_pl rfl, prW_at hG hAB hS hw⟩ rfl hl.1 rfl (Nat.le_of_ble_eq_true rfl) d_X_fill_14 ⟨Nat.le_of_ble_eq_true rfl, Nat.le_of_ble_eq_true rfl⟩) hw hS hA (fun r_4 w_4 H locs e_4 hw hS hz_4 hk_4 hg_4 => ?_)
  refine W.widen (k := 2) (n := 33) (Nat.le_of_ble_eq_true rfl) (Nat.le_of_ble_eq_true rfl) ?_
  obtain ⟨rfl, arr1, hL1, hor1, hfr1⟩ := e_4
  have eb_4 : (1 : Int32) = b2 true := rfl
  refine lv_pop hx hb d_X_fill_17 rfl ?_
  exact W.vret hx hb hr (fun t ht hW => ⟨⟨w_4, rfl, (by
    have hqp : q_1 ≠ pl := (ne_n hn_1 hpl).symm
    have hqa : q_1 ≠ arr1 := by
      intro e9
      rcases hor1 with ⟨h1, z9, h2⟩ | h2
      · rw [← h1, ← e9, h3_q_1] at h2
        cases h2
      · rw [← e9, h3_q_1] at h2
        cases h2
    refine ⟨q_1, arr1, hn_1, hL1, ?_, ?_, ?_⟩
    · rw [hfr1 _ hqp hqa]
      exact h3_q_1
    · rcases hor1 with ⟨h1, z9, h2⟩ | h2
      · exact Or.inl ⟨h1, z9, by rw [ew_3, ew_2, bx_uu, va_up_ne _ _ (h1 ▸ hqa.symm)] at h2; exact h2⟩
      · exact Or.inr (by rw [ew_3, ew_2, bx_uu, va_up_ne _ _ hqa.symm] at h2; exact h2)
    · intro b9 h1 h2 h3
      rw [hfr1 _ h1 h2, ew_3, ew_2, bx_uu, va_up_ne _ _ h3]), ww_t ht hw⟩, hS.F ht⟩) hS.2.2 d_X_fill_18

set_option maxHeartbeats 4000000 in
set_option maxRecDepth 100000 in
theorem c_T_count (l : Launch) (g : GT) (w : Nat → Option va_E) (th tx ru : Nat) (rd : Int32) (go bo zo : Nat) (arr : Nat) (xs : List Nat) (bs : List BX) (garr : Nat) (gxs : List Nat) (gd : Nat → GD) (sg fo n : Nat) (rb : Bool) (v : Int32) (ht : w th = some (cT tx ru rd go bo zo)) (hL : isL g w bo arr xs) (hlen : xs.length = bs.length) (hbs : ∀ i a : Nat, xs[i]? = some a → ∃ b, bs[i]? = some b ∧ isBx g w a b) (hGL : isL g w go garr gxs) (hgs : ∀ i a : Nat, gxs[i]? = some a → w a = some (cGd (gd i))) (hu : w tx = some (cU sg (nI n) fo)) (erd : rd = b2 rb) : Met l y_T_count (.code y_T_count b_T_count 2 ((some .int)) :: GW) ({ frames := 4, cells := 0, slots := 0, locals := 86 }) (prR g [.ref th, .int v] w) (vp_Si (fun r => r = ctI n gxs.length xs.length (lyB bs) rd v)) 0 0 (fun _ => False) := by
  refine Met.ofW (cc := b_T_count) (maxL := 2) (ret := (some .int)) (by decide) rfl ?_
  intro p e s m args below meth c s₁ B hml hv
  obtain ⟨rfl, hG, hw⟩ := hv
  have hx := B.exec
  have hb := B.bytes
  have hr := B.returns
  have hts : ∀ w ∈ GW, w.before _ s = true := fun w h => atoms_spec (ws := .code y_T_count b_T_count 2 ((some .int)) :: GW) B.pre w (List.mem_cons_of_mem _ h)
  have hown : s.vm.findClass "DangerTables" = some m.cls := findClass_of_methodNamed B.named
  have hlocks := B.notSynchronized
  have hf := hG.here
  have hK := hf.1
  have hAB : ∀ q, gB g q → gB g q := fun _ h => h
  have hS : va_S (gB g) s.heap s.heap [] := va_S.rf
  have hl := lv_entry ([.ref th, .int v]) (n := 2) (Nat.le_of_ble_eq_true rfl)
  rw [lg_entry_eq]
  generalize (lg_sl ([.ref th, .int v]) ++ List.replicate (2 - (lg_sl ([.ref th, .int v])).length) Slot.unset).toArray = ls at hl ⊢
  have hl : lv_has ls 2 [(0, .ref th), (1, .int v)] := hl
  obtain ⟨mcb, capb, fb, heb, -⟩ := id hL
  obtain ⟨mcg, capg, fg, heg, -⟩ := id hGL
  refine lv_iload_n hx hb d_T_count_0 rfl (lv_at hl 1 rfl) ?_
  refine lv_sw (N := 4) (tg := fun j => match j with | 0 => 36 | 1 => 44 | 2 => 52 | 3 => 60 | _ => 65) (td := 78) hx hb d_T_count_1 rfl (by decide) (by decide) (fun j hj => by rcases (show j = 0 ∨ j = 1 ∨ j = 2 ∨ j = 3 ∨ j = 4 by omega) with rfl | rfl | rfl | rfl | rfl <;> exact ⟨_, rfl, by decide⟩) (fun j_1 hj_1 ej_1 => ?_) (fun hd_1 => ?_)
  · rcases (show j_1 = 0 ∨ j_1 = 1 ∨ j_1 = 2 ∨ j_1 = 3 ∨ j_1 = 4 by omega) with rfl | rfl | rfl | rfl | rfl
    · refine lv_aload_n hx hb d_T_count_36 rfl (lv_at hl 0 rfl) ?_
      refine ww_get (v := .ref tx) (C := R_T) (T := F_T) (N := 6) (ci := 0) hx hb hts i_T hown hK hw ht rfl 0 (by decide) (hts _ k_80) (fun _ h9 => h9) rfl d_T_count_37 ?_
      refine ww_getN (v := .int (nI n)) (C := R_U) (T := F_U) (N := 3) (ci := 4) hx hb hts i_U hown hK hw hu rfl 1 (by decide) (va_Nw.use rfl (hf.2.1 _ x_38)) (fun _ h9 => h9) rfl d_T_count_40 ?_
      exact W.iret (v := (nI n)) hx hb hr (fun t ht hW => ⟨(nI n), rfl, (by rw [ctI, ej_1, if_pos (by rfl)]), ht⟩) t_nil d_T_count_43
    · refine lv_aload_n hx hb d_T_count_44 rfl (lv_at hl 0 rfl) ?_
      refine ww_get (v := .ref go) (C := R_T) (T := F_T) (N := 6) (ci := 0) hx hb hts i_T hown hK hw ht rfl 3 (by decide) (hts _ k_83) (fun _ h9 => h9) rfl d_T_count_45 ?_
      refine wr_i (cV (As := []) (rest := []) (C := "java/util/ArrayList") 0 ⟨hx, hb, hml, hown, hts⟩ (c_AL_size l g w go garr mcg (nI gxs.length) heg) k_152 k_149 k_6 k_150 k_151 (by decide +kernel) ⟨Nat.le_of_ble_eq_true rfl, Nat.le_of_ble_eq_true rfl⟩ rfl rfl ⟨prR_blind _ _ _, hw.recv hK heg rfl, prR_at hG hAB hS hw⟩ rfl hl.1 rfl (Nat.le_of_ble_eq_true rfl) d_T_count_48 ⟨Nat.zero_le _, Nat.zero_le _⟩) (fun r_2 e_2 => ?_)
      exact W.iret (v := r_2) hx hb hr (fun t ht hW => ⟨r_2, rfl, (by rw [ctI, ej_1, if_neg (by decide), if_pos (by rfl)]; exact e_2), ht⟩) t_nil d_T_count_51
    · refine lv_aload_n hx hb d_T_count_52 rfl (lv_at hl 0 rfl) ?_
      refine ww_get (v := .ref bo) (C := R_T) (T := F_T) (N := 6) (ci := 0) hx hb hts i_T hown hK hw ht rfl 4 (by decide) (hts _ k_84) (fun _ h9 => h9) rfl d_T_count_53 ?_
      refine wr_i (cV (As := []) (rest := []) (C := "java/util/ArrayList") 0 ⟨hx, hb, hml, hown, hts⟩ (c_AL_size l g w bo arr mcb (nI xs.length) heb) k_152 k_149 k_6 k_150 k_151 (by decide +kernel) ⟨Nat.le_of_ble_eq_true rfl, Nat.le_of_ble_eq_true rfl⟩ rfl rfl ⟨prR_blind _ _ _, hw.recv hK heb rfl, prR_at hG hAB hS hw⟩ rfl hl.1 rfl (Nat.le_of_ble_eq_true rfl) d_T_count_56 ⟨Nat.zero_le _, Nat.zero_le _⟩) (fun r_3 e_3 => ?_)
      exact W.iret (v := r_3) hx hb hr (fun t ht hW => ⟨r_3, rfl, (by rw [ctI, ej_1, if_neg (by decide), if_neg (by decide), if_pos (by rfl)]; exact e_3), ht⟩) t_nil d_T_count_59
    · refine lv_aload_n hx hb d_T_count_60 rfl (lv_at hl 0 rfl) ?_
      refine wr_i (cV (As := []) (rest := []) (C := "DangerTables") 0 ⟨hx, hb, hml, hown, hts⟩ (c_T_lyingCount l g w th tx ru rd go bo zo arr xs bs ht hL hlen hbs) k_205 k_202 k_1 k_204 kp_4 (by decide +kernel) ⟨Nat.le_of_ble_eq_true rfl, Nat.le_of_ble_eq_true rfl⟩ rfl rfl ⟨prR_blind _ _ _, hw.recv hK ht rfl, prR_at hG hAB hS hw⟩ rfl hl.1 rfl (Nat.le_of_ble_eq_true rfl) d_T_count_61 ⟨Nat.zero_le _, Nat.zero_le _⟩) (fun r_4 e_4 => ?_)
      exact W.iret (v := r_4) hx hb hr (fun t ht hW => ⟨r_4, rfl, (by rw [ctI, ej_1, if_neg (by decide), if_neg (by decide), if_neg (by decide), if_pos (by rfl)]; exact e_4), ht⟩) t_nil d_T_count_64
    · refine lv_aload_n hx hb d_T_count_65 rfl (lv_at hl 0 rfl) ?_
      refine ww_get (v := .int rd) (C := R_T) (T := F_T) (N := 6) (ci := 0) hx hb hts i_T hown hK hw ht rfl 2 (by decide) (hts _ k_82) (fun _ h9 => h9) rfl d_T_count_66 ?_
      refine lv_if_eq (tgt := 76) hx hb d_T_count_69 (by decide) (fun c_5 => ?_) (fun c_5 => ?_)
      · have q_5 := b2_f erd c_5
        refine lv_iconst (v := 0) hx hb d_T_count_76 (by decide) ?_
        exact W.iret (v := 0) hx hb hr (fun t ht hW => ⟨0, rfl, (by rw [ctI, ej_1, if_neg (by decide), if_neg (by decide), if_neg (by decide), if_neg (by decide), if_pos (by rfl)]; rw [erd, q_5]; rfl), ht⟩) t_nil d_T_count_77
      · have q_5 := b2_t erd c_5
        refine lv_iconst (v := 1) hx hb d_T_count_72 (by decide) ?_
        refine lv_goto (tgt := 77) hx hb d_T_count_73 (by decide) ?_
        exact W.iret (v := 1) hx hb hr (fun t ht hW => ⟨1, rfl, (by rw [ctI, ej_1, if_neg (by decide), if_neg (by decide), if_neg (by decide), if_neg (by decide), if_pos (by rfl)]; rw [erd, q_5]; rfl), ht⟩) t_nil d_T_count_77
  · refine lv_iconst (v := -1) hx hb d_T_count_78 (by decide) ?_
    exact W.iret (v := (-1)) hx hb hr (fun t ht hW => ⟨(-1), rfl, (by rw [ctI, if_neg (show ¬ v = 0 from hd_1 0 (by omega)), if_neg (show ¬ v = 1 from hd_1 1 (by omega)), if_neg (show ¬ v = 2 from hd_1 2 (by omega)), if_neg (show ¬ v = 3 from hd_1 3 (by omega)), if_neg (show ¬ v = 4 from hd_1 4 (by omega))]), ht⟩) t_nil d_T_count_79

set_option maxHeartbeats 4000000 in
set_option maxRecDepth 100000 in
theorem c_T_sign (l : Launch) (g : GT) (sz : Nat) (w : Nat → Option va_E) (th tx ru : Nat) (rd : Int32) (go bo zo : Nat) (sg fo n : Nat) (f : Nat → Int32) (v : Int32) (ht : w th = some (cT tx ru rd go bo zo)) (hu : w tx = some (cU sg (nI n) fo)) (hs : w sg = some (cA g 300 f)) (hn : n ≤ 300) : Met l y_T_sign (.code y_T_sign b_T_sign 2 ((some .boolean)) :: GW) ({ frames := 1, cells := 0, slots := 0, locals := 22 }) (prW g sz [.ref th, .int v] w) (qI g sz w (fun r w1 => (okS v = true ∧ n < 300 ∧ r = 1 ∧ w1 = va_up (va_up w sg (some (cA g 300 (upd f n v)))) tx (some (cU sg (nI (n + 1)) fo))) ∨ ((okS v = false ∨ n = 300) ∧ r = 0 ∧ w1 = w))) 0 0 (gA w sz) := by
  refine Met.ofW (cc := b_T_sign) (maxL := 2) (ret := (some .boolean)) (by decide) rfl ?_
  intro p e s m args below meth c s₁ B hml hv
  obtain ⟨rfl, hsz, hG, hw0⟩ := hv
  have hx := B.exec
  have hb := B.bytes
  have hr := B.returns
  have hts : ∀ w ∈ GW, w.before _ s = true := fun w h => atoms_spec (ws := .code y_T_sign b_T_sign 2 ((some .boolean)) :: GW) B.pre w (List.mem_cons_of_mem _ h)
  have hown : s.vm.findClass "DangerTables" = some m.cls := findClass_of_methodNamed B.named
  have hlocks := B.notSynchronized
  have hf := hG.here
  have hK := hf.1
  subst hsz
  have hw := hw0.self s.heap.size
  have hAB : ∀ q, gA w s.heap.size q → gB g q := fun q h => h.elim (fun z => z.elim (fun _ he => hw0.inA he)) (fun h => Nat.le_trans hG.1 h)
  have hA : ∀ q, s.heap.size ≤ q → gA w s.heap.size q := fun q h => Or.inr h
  have hS : va_S (gA w s.heap.size) s.heap s.heap [] := va_S.rf
  have hl := lv_entry ([.ref th, .int v]) (n := 2) (Nat.le_of_ble_eq_true rfl)
  rw [lg_entry_eq]
  generalize (lg_sl ([.ref th, .int v]) ++ List.replicate (2 - (lg_sl ([.ref th, .int v])).length) Slot.unset).toArray = ls at hl ⊢
  have hl : lv_has ls 2 [(0, .ref th), (1, .int v)] := hl
  refine lv_aload_n hx hb d_T_sign_0 rfl (lv_at hl 0 rfl) ?_
  refine ww_get (v := .ref tx) (C := R_T) (T := F_T) (N := 6) (ci := 0) hx hb hts i_T hown hK hw ht rfl 0 (by decide) (hts _ k_80) (fun _ h9 => h9) rfl d_T_sign_1 ?_
  refine lv_iload_n hx hb d_T_sign_4 rfl (lv_at hl 1 rfl) ?_
  refine ww_i (cV (As := [.int v]) (rest := []) (C := "DangerTables$RuleText") 1 ⟨hx, hb, hml, hown, hts⟩ (c_U_append l g s.heap.size w tx sg fo n f v hu hs hn) k_106 k_103 k_2 k_104 k_105 (by decide +kernel) ⟨Nat.le_of_ble_eq_true rfl, Nat.le_of_ble_eq_true rfl⟩ rfl rfl ⟨prW_blind _ _ _ _, hw.recv hK hu rfl, prW_at hG hAB hS hw⟩ rfl hl.1 rfl (Nat.le_of_ble_eq_true rfl) d_T_sign_5 ⟨Nat.le_of_ble_eq_true rfl, Nat.le_of_ble_eq_true rfl⟩) hw hS hA (fun r_1 w_1 H locs e_1 hw hS hz_1 hk_1 hg_1 => ?_)
  have eb_1 : ∃ bb, r_1 = b2 bb := by rcases e_1 with ⟨-, -, h9, -⟩ | ⟨-, h9, -⟩ <;> rw [h9] <;> first | exact ⟨true, rfl⟩ | exact ⟨false, rfl⟩
  obtain ⟨bb_1, eb_1⟩ := eb_1
  exact W.zret (v := r_1) (ty := .boolean) hx hb hr (b2_n eb_1) (fun t ht hW => ⟨⟨r_1, w_1, rfl, e_1, ww_t ht hw⟩, hS.F ht⟩) hS.2.2 d_T_sign_8

set_option maxHeartbeats 4000000 in
set_option maxRecDepth 100000 in
theorem c_T_read (l : Launch) (g : GT) (sz : Nat) (w : Nat → Option va_E) (th tx ru : Nat) (rd : Int32) (go bo zo : Nat) (sg fo n : Nat) (f ff rf : Nat → Int32) (ht : w th = some (cT tx ru rd go bo zo)) (hu : w tx = some (cU sg (nI n) fo)) (hs : w sg = some (cA g 300 f)) (hn : n ≤ 300) (hf0 : w fo = some (cA g 45 ff)) (hru : w ru = some (cA g 45 rf)) (hne : ru ≠ fo) : Met l y_T_read (.code y_T_read b_T_read 2 ((some .int)) :: GW) ({ frames := 3, cells := 0, slots := 0, locals := 69 }) (prW g sz [.ref th] w) (qI g sz w (fun r w1 => (¬ WR f n = -1 ∧ r = -1 - WR f n ∧ ∃ ff1 : Nat → Int32, w1 = va_up (va_up w fo (some (cA g 45 ff1))) tx (some (cU sg 0 fo))) ∨ (WR f n = -1 ∧ r = 45 ∧ n = 180 ∧ (∀ t : Nat, t < 180 → okPl f t = true) ∧ ∃ ff1 : Nat → Int32, (∀ j : Nat, j < 45 → ff1 j = tabAt f 45 j) ∧ w1 = va_up (va_up (va_up (va_up w fo (some (cA g 45 ff1))) tx (some (cU sg 0 fo))) ru (some (cA g 45 (va_cpy ff1 rf 0 0 45)))) th (some (cT tx ru 1 go bo zo))))) 0 0 (gA w sz) := by
  refine Met.ofW (cc := b_T_read) (maxL := 2) (ret := (some .int)) (by decide) rfl ?_
  intro p e s m args below meth c s₁ B hml hv
  obtain ⟨rfl, hsz, hG, hw0⟩ := hv
  have hx := B.exec
  have hb := B.bytes
  have hr := B.returns
  have hts : ∀ w ∈ GW, w.before _ s = true := fun w h => atoms_spec (ws := .code y_T_read b_T_read 2 ((some .int)) :: GW) B.pre w (List.mem_cons_of_mem _ h)
  have hown : s.vm.findClass "DangerTables" = some m.cls := findClass_of_methodNamed B.named
  have hlocks := B.notSynchronized
  have hf := hG.here
  have hK := hf.1
  subst hsz
  have hw := hw0.self s.heap.size
  have hAB : ∀ q, gA w s.heap.size q → gB g q := fun q h => h.elim (fun z => z.elim (fun _ he => hw0.inA he)) (fun h => Nat.le_trans hG.1 h)
  have hA : ∀ q, s.heap.size ≤ q → gA w s.heap.size q := fun q h => Or.inr h
  have hS : va_S (gA w s.heap.size) s.heap s.heap [] := va_S.rf
  have hl := lv_entry ([.ref th]) (n := 2) (Nat.le_of_ble_eq_true rfl)
  rw [lg_entry_eq]
  generalize (lg_sl ([.ref th]) ++ List.replicate (2 - (lg_sl ([.ref th])).length) Slot.unset).toArray = ls at hl ⊢
  have hl : lv_has ls 2 [(0, .ref th)] := hl
  refine lv_aload_n hx hb d_T_read_0 rfl (lv_at hl 0 rfl) ?_
  refine ww_get (v := .ref tx) (C := R_T) (T := F_T) (N := 6) (ci := 0) hx hb hts i_T hown hK hw ht rfl 0 (by decide) (hts _ k_80) (fun _ h9 => h9) rfl d_T_read_1 ?_
  refine ww_i (cV (As := []) (rest := []) (C := "DangerTables$RuleText") 0 ⟨hx, hb, hml, hown, hts⟩ (c_U_firstWrongPlace l g s.heap.size w tx sg fo n f ff hu hs hn hf0) k_114 k_111 k_2 k_112 k_113 (by decide +kernel) ⟨Nat.le_of_ble_eq_true rfl, Nat.le_of_ble_eq_true rfl⟩ rfl rfl ⟨prW_blind _ _ _ _, hw.recv hK hu rfl, prW_at hG hAB hS hw⟩ rfl hl.1 rfl (Nat.le_of_ble_eq_true rfl) d_T_read_4 ⟨Nat.le_of_ble_eq_true rfl, Nat.le_of_ble_eq_true rfl⟩) hw hS hA (fun r_1 w_1 H locs e_1 hw hS hz_1 hk_1 hg_1 => ?_)
  obtain ⟨er_1, f_1, ew_1, hok_1⟩ := e_1
  have h1_th : w_1 th = some (.inr (0, [.ref tx, .ref ru, .int rd, .ref go, .ref bo, .ref zo])) := by rw [ew_1, va_up_ne _ _ (ne_c hf0 ht (fun z => by cases z))]; exact ht
  have h1_tx : w_1 tx = some (.inr (4, [.ref sg, .int (nI n), .ref fo])) := by rw [ew_1, va_up_ne _ _ (ne_c hf0 hu (fun z => by cases z))]; exact hu
  have h1_sg : w_1 sg = some (cA g 300 f) := by rw [ew_1, va_up_ne _ _ (ne_c hf0 hs (fun z => by cases z))]; exact hs
  have h1_ru : w_1 ru = some (cA g 45 rf) := by rw [ew_1, va_up_ne _ _ hne]; exact hru
  have h1_fo : w_1 fo = some (cA g 45 f_1) := by rw [ew_1]; exact va_up_self _ _ _
  refine lv_istore_n (lv' := [(1, .int r_1), (0, .ref th)]) hx hb d_T_read_7 rfl hl (by decide) rfl (fun ls hl => ?_)
  refine lv_aload_n hx hb d_T_read_8 rfl (lv_at hl 1 rfl) ?_
  refine ww_get (v := .ref tx) (C := R_T) (T := F_T) (N := 6) (ci := 0) hx hb hts i_T hown hK hw h1_th rfl 0 (by decide) (hts _ k_80) (fun _ h9 => h9) rfl d_T_read_9 ?_
  refine ww_v (cV (As := []) (rest := []) (C := "DangerTables$RuleText") 0 ⟨hx, hb, hml, hown, hts⟩ (c_U_drop l g H.size w_1 tx sg fo (nI n) h1_tx) k_133 k_130 k_2 k_131 k_132 (by decide +kernel) ⟨Nat.le_of_ble_eq_true rfl, Nat.le_of_ble_eq_true rfl⟩ rfl rfl ⟨prW_blind _ _ _ _, hw.recv hK h1_tx rfl, prW_at hG hAB hS hw⟩ rfl hl.1 rfl (Nat.le_of_ble_eq_true rfl) d_T_read_12 ⟨Nat.le_of_ble_eq_true rfl, Nat.le_of_ble_eq_true rfl⟩) hw hS hA (fun w_2 H locs e_2 hw hS hz_2 hk_2 hg_2 => ?_)
  have ew_2 := e_2
  have h2_th : w_2 th = some (.inr (0, [.ref tx, .ref ru, .int rd, .ref go, .ref bo, .ref zo])) := by rw [ew_2, va_up_ne _ _ (ne_c h1_tx h1_th (fun z => by cases z))]; exact h1_th
  have h2_sg : w_2 sg = some (cA g 300 f) := by rw [ew_2, va_up_ne _ _ (ne_c h1_tx h1_sg (fun z => by cases z))]; exact h1_sg
  have h2_ru : w_2 ru = some (cA g 45 rf) := by rw [ew_2, va_up_ne _ _ (ne_c h1_tx h1_ru (fun z => by cases z))]; exact h1_ru
  have h2_fo : w_2 fo = some (cA g 45 f_1) := by rw [ew_2, va_up_ne _ _ (ne_c h1_tx h1_fo (fun z => by cases z))]; exact h1_fo
  have h2_tx : w_2 tx = some (.inr (4, [.ref sg, .int 0, .ref fo])) := by rw [ew_2]; exact va_up_self _ _ _
  refine lv_iload_n hx hb d_T_read_15 rfl (lv_at hl 0 rfl) ?_
  refine lv_iconst (v := -1) hx hb d_T_read_16 (by decide) ?_
  refine lv_icmp_eq (tgt := 24) hx hb d_T_read_17 (by decide) (fun c_3 => ?_) (fun c_3 => ?_)
  · refine lv_aload_n hx hb d_T_read_24 rfl (lv_at hl 1 rfl) ?_
    refine ww_get (v := .ref tx) (C := R_T) (T := F_T) (N := 6) (ci := 0) hx hb hts i_T hown hK hw h2_th rfl 0 (by decide) (hts _ k_80) (fun _ h9 => h9) rfl d_T_read_25 ?_
    refine lv_aload_n hx hb d_T_read_28 rfl (lv_at hl 1 rfl) ?_
    refine ww_get (v := .ref ru) (C := R_T) (T := F_T) (N := 6) (ci := 0) hx hb hts i_T hown hK hw h2_th rfl 1 (by decide) (hts _ k_81) (fun _ h9 => h9) rfl d_T_read_29 ?_
    refine ww_v (cV (As := [.ref ru]) (rest := []) (C := "DangerTables$RuleText") 1 ⟨hx, hb, hml, hown, hts⟩ (c_U_copyRulesTo l g H.size w_2 tx sg fo ru 0 f_1 rf h2_tx h2_fo h2_ru hne.symm) k_137 k_134 k_2 k_135 k_136 (by decide +kernel) ⟨Nat.le_of_ble_eq_true rfl, Nat.le_of_ble_eq_true rfl⟩ rfl rfl ⟨prW_blind _ _ _ _, hw.recv hK h2_tx rfl, prW_at hG hAB hS hw⟩ rfl hl.1 rfl (Nat.le_of_ble_eq_true rfl) d_T_read_32 ⟨Nat.le_of_ble_eq_true rfl, Nat.le_of_ble_eq_true rfl⟩) hw hS hA (fun w_4 H locs e_4 hw hS hz_4 hk_4 hg_4 => ?_)
    have ew_4 := e_4
    have h4_th : w_4 th = some (.inr (0, [.ref tx, .ref ru, .int rd, .ref go, .ref bo, .ref zo])) := by rw [ew_4, va_up_ne _ _ (ne_c h2_ru h2_th (fun z => by cases z))]; exact h2_th
    have h4_tx : w_4 tx = some (.inr (4, [.ref sg, .int 0, .ref fo])) := by rw [ew_4, va_up_ne _ _ (ne_c h2_ru h2_tx (fun z => by cases z))]; exact h2_tx
    have h4_sg : w_4 sg = some (cA g 300 f) := by rw [ew_4, va_up_ne _ _ (ne_c h2_ru h2_sg (fun z => by cases z))]; exact h2_sg
    have h4_fo : w_4 fo = some (cA g 45 f_1) := by rw [ew_4, va_up_ne _ _ hne.symm]; exact h2_fo
    have h4_ru : w_4 ru = some (cA g 45 (va_cpy f_1 rf 0 0 45)) := by rw [ew_4]; exact va_up_self _ _ _
    refine lv_aload_n hx hb d_T_read_35 rfl (lv_at hl 1 rfl) ?_
    refine lv_iconst (v := 1) hx hb d_T_read_36 (by decide) ?_
    refine ww_put (v := .int 1) (ty := .boolean) (C := R_T) (T := F_T) (N := 6) (ci := 0) (fs' := [.ref tx, .ref ru, .int 1, .ref go, .ref bo, .ref zo]) hx hb hts i_T ft_T ft_T_ok fn_T hown hK hw hS h4_th rfl 2 (by decide) (hts _ k_82) (fun _ h9 => h9) rfl (by decide +kernel) rfl rfl (Nat.le_of_ble_eq_true rfl) rfl d_T_read_37 (fun H locs hw hS => ?_)
    obtain ⟨w_5, ew_5⟩ : ∃ zz9 : Nat → Option va_E, zz9 = va_up w_4 th (some (.inr (0, [.ref tx, .ref ru, .int 1, .ref go, .ref bo, .ref zo]))) := ⟨_, rfl⟩
    rw [← ew_5] at hw
    have h5_tx : w_5 tx = some (.inr (4, [.ref sg, .int 0, .ref fo])) := by rw [ew_5, va_up_ne _ _ (ne_c h4_th h4_tx (fun z => by first | cases z | simp at z))]; exact h4_tx
    have h5_sg : w_5 sg = some (cA g 300 f) := by rw [ew_5, va_up_ne _ _ (ne_c h4_th h4_sg (fun z => by first | cases z | simp at z))]; exact h4_sg
    have h5_fo : w_5 fo = some (cA g 45 f_1) := by rw [ew_5, va_up_ne _ _ (ne_c h4_th h4_fo (fun z => by first | cases z | simp at z))]; exact h4_fo
    have h5_ru : w_5 ru = some (cA g 45 (va_cpy f_1 rf 0 0 45)) := by rw [ew_5, va_up_ne _ _ (ne_c h4_th h4_ru (fun z => by first | cases z | simp at z))]; exact h4_ru
    have h5_th : w_5 th = some (.inr (0, [.ref tx, .ref ru, .int 1, .ref go, .ref bo, .ref zo])) := by rw [ew_5]; exact va_up_self _ _ _
    refine lv_bipush (v := 45) hx hb d_T_read_40 (by decide) ?_
    exact W.iret (v := 45) hx hb hr (fun t ht hW => ⟨⟨45, w_5, rfl, Or.inr ⟨er_1.symm.trans c_3, rfl, (hok_1 (er_1.symm.trans c_3)).1, (hok_1 (er_1.symm.trans c_3)).2.1, f_1, (hok_1 (er_1.symm.trans c_3)).2.2, by rw [ew_5, ew_4, ew_2, ew_1]⟩, ww_t ht hw⟩, hS.F ht⟩) hS.2.2 d_T_read_42
  · refine lv_iconst (v := -1) hx hb d_T_read_20 (by decide) ?_
    refine lv_iload_n hx hb d_T_read_21 rfl (lv_at hl 0 rfl) ?_
    refine lv_isub hx hb d_T_read_22 ?_
    refine lv_topi (fun v_6 e_6 => ?_)
    exact W.iret (v := v_6) hx hb hr (fun t ht hW => ⟨⟨v_6, w_2, rfl, Or.inl ⟨fun z => c_3 (er_1.trans z), by rw [e_6, er_1], f_1, by rw [ew_2, ew_1]⟩, ww_t ht hw⟩, hS.F ht⟩) hS.2.2 d_T_read_23

set_option maxHeartbeats 4000000 in
set_option maxRecDepth 100000 in
theorem c_T_exempt (l : Launch) (g : GT) (sz : Nat) (w : Nat → Option va_E) (th tx ru : Nat) (rd : Int32) (go bo zo : Nat) (garr : Nat) (gxs : List Nat) (gd : Nat → GD) (u x y : Int32) (ht : w th = some (cT tx ru rd go bo zo)) (hGL : isL g w go garr gxs) (hgs : ∀ i a : Nat, gxs[i]? = some a → w a = some (cGd (gd i))) : Met l y_T_exempt (.code y_T_exempt b_T_exempt 4 ((some .boolean)) :: GW) ({ frames := 3, cells := 0, slots := 0, locals := 64 }) (prW g sz [.ref th, .int u, .int x, .int y] w) (qI g sz w (fun r w1 => ((inL u gxs.length && isCls x && isCls y) = false ∧ r = 0 ∧ w1 = w) ∨ ((inL u gxs.length && isCls x && isCls y) = true ∧ ∃ i qg : Nat, u = nI i ∧ gxs[i]? = some qg ∧ ((isEx (gd i).2.2.2.2 (prI x y) = true ∧ r = 0 ∧ w1 = w) ∨ (isEx (gd i).2.2.2.2 (prI x y) = false ∧ r = 1 ∧ w1 = va_up w qg (some (cG (gd i).1 (gd i).2.1 (gd i).2.2.1 (gd i).2.2.2.1 (exAdd (gd i).2.2.2.2 (prI x y))))))))) 0 0 (gA w sz) := by
  refine Met.ofW (cc := b_T_exempt) (maxL := 4) (ret := (some .boolean)) (by decide) rfl ?_
  intro p e s m args below meth c s₁ B hml hv
  obtain ⟨rfl, hsz, hG, hw0⟩ := hv
  have hx := B.exec
  have hb := B.bytes
  have hr := B.returns
  have hts : ∀ w ∈ GW, w.before _ s = true := fun w h => atoms_spec (ws := .code y_T_exempt b_T_exempt 4 ((some .boolean)) :: GW) B.pre w (List.mem_cons_of_mem _ h)
  have hown : s.vm.findClass "DangerTables" = some m.cls := findClass_of_methodNamed B.named
  have hlocks := B.notSynchronized
  have hf := hG.here
  have hK := hf.1
  subst hsz
  have hw := hw0.self s.heap.size
  have hAB : ∀ q, gA w s.heap.size q → gB g q := fun q h => h.elim (fun z => z.elim (fun _ he => hw0.inA he)) (fun h => Nat.le_trans hG.1 h)
  have hA : ∀ q, s.heap.size ≤ q → gA w s.heap.size q := fun q h => Or.inr h
  have hS : va_S (gA w s.heap.size) s.heap s.heap [] := va_S.rf
  have hl := lv_entry ([.ref th, .int u, .int x, .int y]) (n := 4) (Nat.le_of_ble_eq_true rfl)
  rw [lg_entry_eq]
  generalize (lg_sl ([.ref th, .int u, .int x, .int y]) ++ List.replicate (4 - (lg_sl ([.ref th, .int u, .int x, .int y])).length) Slot.unset).toArray = ls at hl ⊢
  have hl : lv_has ls 4 [(0, .ref th), (1, .int u), (2, .int x), (3, .int y)] := hl
  obtain ⟨mcg, capg, fg, heg, hcap, hc, hfi, hor⟩ := id hGL
  refine lv_aload_n hx hb d_T_exempt_0 rfl (lv_at hl 0 rfl) ?_
  refine lv_iload_n hx hb d_T_exempt_1 rfl (lv_at hl 1 rfl) ?_
  refine wr_i (cV (As := [.int u]) (rest := []) (C := "DangerTables") 1 ⟨hx, hb, hml, hown, hts⟩ (c_T_isGood l g w th tx ru rd go bo zo garr gxs u ht hGL) k_148 k_145 k_1 k_147 kp_2 (by decide +kernel) ⟨Nat.le_of_ble_eq_true rfl, Nat.le_of_ble_eq_true rfl⟩ rfl rfl ⟨prR_blind _ _ _, hw.recv hK ht rfl, prR_at hG hAB hS hw⟩ rfl hl.1 rfl (Nat.le_of_ble_eq_true rfl) d_T_exempt_2 ⟨Nat.le_of_ble_eq_true rfl, Nat.le_of_ble_eq_true rfl⟩) (fun r_1 e_1 => ?_)
  refine lv_if_eq (tgt := 22) hx hb d_T_exempt_5 (by decide) (fun c_2 => ?_) (fun c_2 => ?_)
  · have q_2 := b2_f e_1 c_2
    refine lv_iconst (v := 0) hx hb d_T_exempt_22 (by decide) ?_
    exact W.zret (v := 0) (ty := .boolean) hx hb hr rfl (fun t ht hW => ⟨⟨0, w, rfl, Or.inl ⟨by simp [q_2], rfl, rfl⟩, ww_t ht hw⟩, hS.F ht⟩) hS.2.2 d_T_exempt_23
  · have q_2 := b2_t e_1 c_2
    refine lv_iload_n hx hb d_T_exempt_8 rfl (lv_at hl 2 rfl) ?_
    refine wr_i (cS (As := [.int x]) (rest := []) 1 ⟨hx, hb, hml, hown, hts⟩ (c_T_isClass l x) k_126 k_153 k_1 k_125 (by decide +kernel) ⟨Nat.le_of_ble_eq_true rfl, Nat.le_of_ble_eq_true rfl⟩ rfl rfl ⟨prN_blind _, fun _ _ _ => ⟨rfl, trivial⟩⟩ rfl hl.1 rfl (Nat.le_of_ble_eq_true rfl) d_T_exempt_9 ⟨Nat.le_of_ble_eq_true rfl, Nat.le_of_ble_eq_true rfl⟩) (fun r_3 e_3 => ?_)
    refine lv_if_eq (tgt := 22) hx hb d_T_exempt_12 (by decide) (fun c_4 => ?_) (fun c_4 => ?_)
    · have q_4 := b2_f e_3 c_4
      refine lv_iconst (v := 0) hx hb d_T_exempt_22 (by decide) ?_
      exact W.zret (v := 0) (ty := .boolean) hx hb hr rfl (fun t ht hW => ⟨⟨0, w, rfl, Or.inl ⟨by simp [q_2, q_4], rfl, rfl⟩, ww_t ht hw⟩, hS.F ht⟩) hS.2.2 d_T_exempt_23
    · have q_4 := b2_t e_3 c_4
      refine lv_iload_n hx hb d_T_exempt_15 rfl (lv_at hl 3 rfl) ?_
      refine wr_i (cS (As := [.int y]) (rest := []) 1 ⟨hx, hb, hml, hown, hts⟩ (c_T_isClass l y) k_126 k_153 k_1 k_125 (by decide +kernel) ⟨Nat.le_of_ble_eq_true rfl, Nat.le_of_ble_eq_true rfl⟩ rfl rfl ⟨prN_blind _, fun _ _ _ => ⟨rfl, trivial⟩⟩ rfl hl.1 rfl (Nat.le_of_ble_eq_true rfl) d_T_exempt_16 ⟨Nat.le_of_ble_eq_true rfl, Nat.le_of_ble_eq_true rfl⟩) (fun r_5 e_5 => ?_)
      refine lv_if_ne (tgt := 24) hx hb d_T_exempt_19 (by decide) (fun c_6 => ?_) (fun c_6 => ?_)
      · have q_6 := b2_t e_5 c_6
        obtain ⟨i, hi, rfl⟩ := inL_of q_2 (by omega)
        obtain ⟨qg, hq0⟩ : ∃ q, gxs[i]? = some q := ⟨_, List.getElem?_eq_getElem hi⟩
        have hq := hfi i qg hq0
        have hgq := hgs i qg hq0
        have hga := hor.resolve_right (fun z => by rw [z.1] at hi; exact absurd hi (Nat.not_lt_zero _))
        refine lv_aload_n hx hb d_T_exempt_24 rfl (lv_at hl 0 rfl) ?_
        refine ww_get (v := .ref go) (C := R_T) (T := F_T) (N := 6) (ci := 0) hx hb hts i_T hown hK hw ht rfl 3 (by decide) (hts _ k_83) (fun _ h9 => h9) rfl d_T_exempt_25 ?_
        refine lv_iload_n hx hb d_T_exempt_28 rfl (lv_at hl 1 rfl) ?_
        refine wr_q (cV (As := [.int (nI i)]) (rest := []) (C := "java/util/ArrayList") 1 ⟨hx, hb, hml, hown, hts⟩ (c_AL_get l g w go garr gxs.length capg i qg mcg fg heg hga hcap (by omega) hi hq) k_157 k_154 k_6 k_155 k_156 (by decide +kernel) ⟨Nat.le_of_ble_eq_true rfl, Nat.le_of_ble_eq_true rfl⟩ rfl rfl ⟨prR_blind _ _ _, hw.recv hK heg rfl, prR_at hG hAB hS hw⟩ rfl hl.1 rfl (Nat.le_of_ble_eq_true rfl) d_T_exempt_29 ⟨Nat.le_of_ble_eq_true rfl, Nat.le_of_ble_eq_true rfl⟩) (fun r_7 e_7 => ?_)
        subst e_7
        refine va_castY (C := "DangerTables$Good") hx hb hown (hts _ k_168) (hf.2.1 _ x_872) (hw.recv hK hgq rfl) d_T_exempt_32 ?_
        refine lv_iload_n hx hb d_T_exempt_35 rfl (lv_at hl 2 rfl) ?_
        refine lv_iload_n hx hb d_T_exempt_36 rfl (lv_at hl 3 rfl) ?_
        refine wr_i (cS (As := [.int x, .int y]) (rest := [.ref qg]) 2 ⟨hx, hb, hml, hown, hts⟩ (c_T_pairNumber l x y) k_129 k_169 k_1 k_128 (by decide +kernel) ⟨Nat.le_of_ble_eq_true rfl, Nat.le_of_ble_eq_true rfl⟩ rfl rfl ⟨prN_blind _, fun _ _ _ => ⟨rfl, trivial⟩⟩ rfl hl.1 rfl (Nat.le_of_ble_eq_true rfl) d_T_exempt_37 ⟨Nat.le_of_ble_eq_true rfl, Nat.le_of_ble_eq_true rfl⟩) (fun r_8 e_8 => ?_)
        obtain rfl : r_8 = prI x y := e_8
        refine ww_i (cV (As := [.int (prI x y)]) (rest := []) (C := "DangerTables$Good") 1 ⟨hx, hb, hml, hown, hts⟩ (c_G_addExemption l g s.heap.size w qg (gd i).1 (gd i).2.1 (gd i).2.2.1 (gd i).2.2.2.1 (gd i).2.2.2.2 (prI x y) hgq) k_173 k_170 k_14 k_171 k_172 (by decide +kernel) ⟨Nat.le_of_ble_eq_true rfl, Nat.le_of_ble_eq_true rfl⟩ rfl rfl ⟨prW_blind _ _ _ _, hw.recv hK hgq rfl, prW_at hG hAB hS hw⟩ rfl hl.1 rfl (Nat.le_of_ble_eq_true rfl) d_T_exempt_40 ⟨Nat.le_of_ble_eq_true rfl, Nat.le_of_ble_eq_true rfl⟩) hw hS hA (fun r_9 w_9 H locs e_9 hw hS hz_9 hk_9 hg_9 => ?_)
        have eb_9 : ∃ bb, r_9 = b2 bb := by rcases e_9 with ⟨-, h9, -⟩ | ⟨-, h9, -⟩ <;> rw [h9] <;> first | exact ⟨true, rfl⟩ | exact ⟨false, rfl⟩
        obtain ⟨bb_9, eb_9⟩ := eb_9
        exact W.zret (v := r_9) (ty := .boolean) hx hb hr (b2_n eb_9) (fun t ht hW => ⟨⟨r_9, w_9, rfl, Or.inr ⟨by rw [q_2, q_4, q_6]; rfl, i, qg, rfl, hq0, e_9⟩, ww_t ht hw⟩, hS.F ht⟩) hS.2.2 d_T_exempt_43
      · have q_6 := b2_f e_5 c_6
        refine lv_iconst (v := 0) hx hb d_T_exempt_22 (by decide) ?_
        exact W.zret (v := 0) (ty := .boolean) hx hb hr rfl (fun t ht hW => ⟨⟨0, w, rfl, Or.inl ⟨by simp [q_2, q_4, q_6], rfl, rfl⟩, ww_t ht hw⟩, hS.F ht⟩) hS.2.2 d_T_exempt_23

theorem isZn_of {x : Int32} (h : isZn x = true) : ∃ k : Nat, k < 4 ∧ x = nI k := by
  simp only [isZn, Bool.and_eq_true, Bool.not_eq_true', decide_eq_false_iff_not] at h
  obtain ⟨j, hj, rfl⟩ := nI_of h.1
  refine ⟨j, ?_, rfl⟩
  rcases Nat.lt_or_ge j 4 with h2 | h2
  · exact h2
  · exact absurd (nI_le (a := 4) h2 hj) h.2
set_option maxHeartbeats 4000000 in
set_option maxRecDepth 100000 in
theorem c_T_most (l : Launch) (g : GT) (sz : Nat) (w : Nat → Option va_E) (th tx ru : Nat) (rd : Int32) (go bo zo : Nat) (fz : Nat → Option Nat) (mz : Nat → Nat → Int32) (u v x : Int32) (ht : w th = some (cT tx ru rd go bo zo)) (hz : w zo = some (cZ g fz)) (hzr : ∀ k : Nat, k < 4 → ∃ q : Nat, fz k = some q ∧ w q = some (cA g 10 (mz k))) : Met l y_T_most (.code y_T_most b_T_most 4 ((some .boolean)) :: GW) ({ frames := 1, cells := 0, slots := 0, locals := 20 }) (prW g sz [.ref th, .int u, .int v, .int x] w) (qI g sz w (fun r w1 => ((isZn u && isCls v && (!decide (x < 0) && !decide (100000 < x))) = false ∧ r = 0 ∧ w1 = w) ∨ ((isZn u && isCls v && (!decide (x < 0) && !decide (100000 < x))) = true ∧ r = 1 ∧ ∃ zi ci zr : Nat, u = nI zi ∧ zi < 4 ∧ v = nI ci ∧ 1 ≤ ci ∧ ci ≤ 9 ∧ fz zi = some zr ∧ w1 = va_up w zr (some (cA g 10 (upd (mz zi) ci x)))))) 0 0 (gA w sz) := by
  refine Met.ofW (cc := b_T_most) (maxL := 4) (ret := (some .boolean)) (by decide) rfl ?_
  intro p e s m args below meth c s₁ B hml hv
  obtain ⟨rfl, hsz, hG, hw0⟩ := hv
  have hx := B.exec
  have hb := B.bytes
  have hr := B.returns
  have hts : ∀ w ∈ GW, w.before _ s = true := fun w h => atoms_spec (ws := .code y_T_most b_T_most 4 ((some .boolean)) :: GW) B.pre w (List.mem_cons_of_mem _ h)
  have hown : s.vm.findClass "DangerTables" = some m.cls := findClass_of_methodNamed B.named
  have hlocks := B.notSynchronized
  have hf := hG.here
  have hK := hf.1
  subst hsz
  have hw := hw0.self s.heap.size
  have hAB : ∀ q, gA w s.heap.size q → gB g q := fun q h => h.elim (fun z => z.elim (fun _ he => hw0.inA he)) (fun h => Nat.le_trans hG.1 h)
  have hA : ∀ q, s.heap.size ≤ q → gA w s.heap.size q := fun q h => Or.inr h
  have hS : va_S (gA w s.heap.size) s.heap s.heap [] := va_S.rf
  have hl := lv_entry ([.ref th, .int u, .int v, .int x]) (n := 4) (Nat.le_of_ble_eq_true rfl)
  rw [lg_entry_eq]
  generalize (lg_sl ([.ref th, .int u, .int v, .int x]) ++ List.replicate (4 - (lg_sl ([.ref th, .int u, .int v, .int x])).length) Slot.unset).toArray = ls at hl ⊢
  have hl : lv_has ls 4 [(0, .ref th), (1, .int u), (2, .int v), (3, .int x)] := hl
  refine lv_iload_n hx hb d_T_most_0 rfl (lv_at hl 1 rfl) ?_
  refine wr_i (cS (As := [.int u]) (rest := []) 1 ⟨hx, hb, hml, hown, hts⟩ (c_T_isZone l u) k_184 k_182 k_1 k_183 (by decide +kernel) ⟨Nat.le_of_ble_eq_true rfl, Nat.le_of_ble_eq_true rfl⟩ rfl rfl ⟨prN_blind _, fun _ _ _ => ⟨rfl, trivial⟩⟩ rfl hl.1 rfl (Nat.le_of_ble_eq_true rfl) d_T_most_1 ⟨Nat.le_of_ble_eq_true rfl, Nat.le_of_ble_eq_true rfl⟩) (fun r_1 e_1 => ?_)
  refine lv_if_eq (tgt := 24) hx hb d_T_most_4 (by decide) (fun c_2 => ?_) (fun c_2 => ?_)
  · have q_2 := b2_f e_1 c_2
    refine lv_iconst (v := 0) hx hb d_T_most_24 (by decide) ?_
    exact W.zret (v := 0) (ty := .boolean) hx hb hr rfl (fun t ht hW => ⟨⟨0, w, rfl, Or.inl ⟨by simp [q_2], rfl, rfl⟩, ww_t ht hw⟩, hS.F ht⟩) hS.2.2 d_T_most_25
  · have q_2 := b2_t e_1 c_2
    refine lv_iload_n hx hb d_T_most_7 rfl (lv_at hl 2 rfl) ?_
    refine wr_i (cS (As := [.int v]) (rest := []) 1 ⟨hx, hb, hml, hown, hts⟩ (c_T_isClass l v) k_126 k_153 k_1 k_125 (by decide +kernel) ⟨Nat.le_of_ble_eq_true rfl, Nat.le_of_ble_eq_true rfl⟩ rfl rfl ⟨prN_blind _, fun _ _ _ => ⟨rfl, trivial⟩⟩ rfl hl.1 rfl (Nat.le_of_ble_eq_true rfl) d_T_most_8 ⟨Nat.le_of_ble_eq_true rfl, Nat.le_of_ble_eq_true rfl⟩) (fun r_3 e_3 => ?_)
    refine lv_if_eq (tgt := 24) hx hb d_T_most_11 (by decide) (fun c_4 => ?_) (fun c_4 => ?_)
    · have q_4 := b2_f e_3 c_4
      refine lv_iconst (v := 0) hx hb d_T_most_24 (by decide) ?_
      exact W.zret (v := 0) (ty := .boolean) hx hb hr rfl (fun t ht hW => ⟨⟨0, w, rfl, Or.inl ⟨by simp [q_2, q_4], rfl, rfl⟩, ww_t ht hw⟩, hS.F ht⟩) hS.2.2 d_T_most_25
    · have q_4 := b2_t e_3 c_4
      refine lv_iload_n hx hb d_T_most_14 rfl (lv_at hl 3 rfl) ?_
      refine lv_if_lt (tgt := 24) hx hb d_T_most_15 (by decide) (fun c_5 => ?_) (fun c_5 => ?_)
      · refine lv_iconst (v := 0) hx hb d_T_most_24 (by decide) ?_
        exact W.zret (v := 0) (ty := .boolean) hx hb hr rfl (fun t ht hW => ⟨⟨0, w, rfl, Or.inl ⟨by rw [decide_eq_true c_5]; simp, rfl, rfl⟩, ww_t ht hw⟩, hS.F ht⟩) hS.2.2 d_T_most_25
      · refine lv_iload_n hx hb d_T_most_18 rfl (lv_at hl 3 rfl) ?_
        refine lv_ldc (v := 100000) hx hb hown (hts _ k_79) d_T_most_19 ?_
        refine lv_icmp_le (tgt := 26) hx hb d_T_most_21 (by decide) (fun c_6 => ?_) (fun c_6 => ?_)
        · obtain ⟨zi, hzi, rfl⟩ := isZn_of q_2
          obtain ⟨ci, hci, rfl⟩ := isCls_of q_4
          obtain ⟨zr, hfz, hzq⟩ := hzr zi hzi
          refine lv_aload_n hx hb d_T_most_26 rfl (lv_at hl 0 rfl) ?_
          refine ww_get (v := .ref zo) (C := R_T) (T := F_T) (N := 6) (ci := 0) hx hb hts i_T hown hK hw ht rfl 5 (by decide) (hts _ k_85) (fun _ h9 => h9) rfl d_T_most_27 ?_
          refine lv_iload_n hx hb d_T_most_30 rfl (lv_at hl 1 rfl) ?_
          refine ww_aldA (v := .ref zr) hx hb hK hw 4 hz rfl (vp_in_nI hzi (by decide)) (rf_at (by omega) hfz) d_T_most_31 ?_
          refine lv_iload_n hx hb d_T_most_32 rfl (lv_at hl 2 rfl) ?_
          refine lv_iload_n hx hb d_T_most_33 rfl (lv_at hl 3 rfl) ?_
          refine ww_iast hx hb hK hw hS 0 hzq rfl (vp_in_nI (by omega) (by decide)) d_T_most_34 (fun H locs hw hS => ?_)
          rw [nI_clamp (show ci + 1 < 2 ^ 31 by omega)] at hw
          obtain ⟨w_7, ew_7⟩ : ∃ zz9 : Nat → Option va_E, zz9 = va_up w zr (some (cA g 10 (upd (mz zi) (ci + 1) x))) := ⟨_, rfl⟩
          rw [← ew_7] at hw
          have h7_th : w_7 th = some (.inr (0, [.ref tx, .ref ru, .int rd, .ref go, .ref bo, .ref zo])) := by rw [ew_7, va_up_ne _ _ (ne_c hzq ht (fun z => by first | cases z | simp at z))]; exact ht
          have h7_zr : w_7 zr = some (cA g 10 (upd (mz zi) (ci + 1) x)) := by rw [ew_7]; exact va_up_self _ _ _
          refine lv_iconst (v := 1) hx hb d_T_most_35 (by decide) ?_
          exact W.zret (v := 1) (ty := .boolean) hx hb hr rfl (fun t ht hW => ⟨⟨1, w_7, rfl, Or.inr ⟨by rw [q_2, q_4, decide_eq_false c_5, decide_eq_false (Int32.not_lt.mpr c_6)]; rfl, rfl, zi, ci + 1, zr, rfl, hzi, rfl, by omega, by omega, hfz, ew_7⟩, ww_t ht hw⟩, hS.F ht⟩) hS.2.2 d_T_most_36
        · refine lv_iconst (v := 0) hx hb d_T_most_24 (by decide) ?_
          exact W.zret (v := 0) (ty := .boolean) hx hb hr rfl (fun t ht hW => ⟨⟨0, w, rfl, Or.inl ⟨by rw [decide_eq_true (Int32.not_le.mp c_6)]; simp, rfl, rfl⟩, ww_t ht hw⟩, hS.F ht⟩) hS.2.2 d_T_most_25

set_option maxHeartbeats 4000000 in
set_option maxRecDepth 100000 in
theorem c_T_paper (l : Launch) (g : GT) (sz : Nat) (w : Nat → Option va_E) (th tx ru : Nat) (rd : Int32) (go bo zo : Nat) (arr : Nat) (xs : List Nat) (bs : List BX) (u v : Int32) (ht : w th = some (cT tx ru rd go bo zo)) (hL : isL g w bo arr xs) (hlen : xs.length = bs.length) (hbs : ∀ i a : Nat, xs[i]? = some a → ∃ b, bs[i]? = some b ∧ isBx g w a b) : Met l y_T_paper (.code y_T_paper b_T_paper 3 ((some .boolean)) :: GW) ({ frames := 3, cells := 0, slots := 0, locals := 64 }) (prW g sz [.ref th, .int u, .int v] w) (qI g sz w (fun r w1 => ((inL u xs.length && (!decide (v < 0) && decide (v < 5))) = false ∧ r = 0 ∧ w1 = w) ∨ ((inL u xs.length && (!decide (v < 0) && decide (v < 5))) = true ∧ ∃ (i qb pl : Nat) (bi : BX), u = nI i ∧ xs[i]? = some qb ∧ bs[i]? = some bi ∧ w qb = some (cX pl bi.2.1 bi.2.2.1 bi.2.2.2.1 bi.2.2.2.2) ∧ ((bi.2.2.2.2 &&& ((1 : Int32) <<< (v &&& 31)) = 0 ∧ r = 1 ∧ w1 = va_up w qb (some (cX pl bi.2.1 bi.2.2.1 bi.2.2.2.1 (bi.2.2.2.2 ||| ((1 : Int32) <<< (v &&& 31)))))) ∨ (¬ bi.2.2.2.2 &&& ((1 : Int32) <<< (v &&& 31)) = 0 ∧ r = 0 ∧ w1 = w))))) 0 0 (gA w sz) := by
  refine Met.ofW (cc := b_T_paper) (maxL := 3) (ret := (some .boolean)) (by decide) rfl ?_
  intro p e s m args below meth c s₁ B hml hv
  obtain ⟨rfl, hsz, hG, hw0⟩ := hv
  have hx := B.exec
  have hb := B.bytes
  have hr := B.returns
  have hts : ∀ w ∈ GW, w.before _ s = true := fun w h => atoms_spec (ws := .code y_T_paper b_T_paper 3 ((some .boolean)) :: GW) B.pre w (List.mem_cons_of_mem _ h)
  have hown : s.vm.findClass "DangerTables" = some m.cls := findClass_of_methodNamed B.named
  have hlocks := B.notSynchronized
  have hf := hG.here
  have hK := hf.1
  subst hsz
  have hw := hw0.self s.heap.size
  have hAB : ∀ q, gA w s.heap.size q → gB g q := fun q h => h.elim (fun z => z.elim (fun _ he => hw0.inA he)) (fun h => Nat.le_trans hG.1 h)
  have hA : ∀ q, s.heap.size ≤ q → gA w s.heap.size q := fun q h => Or.inr h
  have hS : va_S (gA w s.heap.size) s.heap s.heap [] := va_S.rf
  have hl := lv_entry ([.ref th, .int u, .int v]) (n := 3) (Nat.le_of_ble_eq_true rfl)
  rw [lg_entry_eq]
  generalize (lg_sl ([.ref th, .int u, .int v]) ++ List.replicate (3 - (lg_sl ([.ref th, .int u, .int v])).length) Slot.unset).toArray = ls at hl ⊢
  have hl : lv_has ls 3 [(0, .ref th), (1, .int u), (2, .int v)] := hl
  obtain ⟨mc, cap, f, he, hcap, hc, hfi, hor⟩ := id hL
  refine lv_aload_n hx hb d_T_paper_0 rfl (lv_at hl 0 rfl) ?_
  refine lv_iload_n hx hb d_T_paper_1 rfl (lv_at hl 1 rfl) ?_
  refine wr_i (cV (As := [.int u]) (rest := []) (C := "DangerTables") 1 ⟨hx, hb, hml, hown, hts⟩ (c_T_isBox l g w th tx ru rd go bo zo arr xs u ht hL) k_192 k_189 k_1 k_191 kp_3 (by decide +kernel) ⟨Nat.le_of_ble_eq_true rfl, Nat.le_of_ble_eq_true rfl⟩ rfl rfl ⟨prR_blind _ _ _, hw.recv hK ht rfl, prR_at hG hAB hS hw⟩ rfl hl.1 rfl (Nat.le_of_ble_eq_true rfl) d_T_paper_2 ⟨Nat.le_of_ble_eq_true rfl, Nat.le_of_ble_eq_true rfl⟩) (fun r_1 e_1 => ?_)
  refine lv_if_eq (tgt := 17) hx hb d_T_paper_5 (by decide) (fun c_2 => ?_) (fun c_2 => ?_)
  · have q_2 := b2_f e_1 c_2
    refine lv_iconst (v := 0) hx hb d_T_paper_17 (by decide) ?_
    exact W.zret (v := 0) (ty := .boolean) hx hb hr rfl (fun t ht hW => ⟨⟨0, w, rfl, Or.inl ⟨by simp [q_2], rfl, rfl⟩, ww_t ht hw⟩, hS.F ht⟩) hS.2.2 d_T_paper_18
  · have q_2 := b2_t e_1 c_2
    refine lv_iload_n hx hb d_T_paper_8 rfl (lv_at hl 2 rfl) ?_
    refine lv_if_lt (tgt := 17) hx hb d_T_paper_9 (by decide) (fun c_3 => ?_) (fun c_3 => ?_)
    · refine lv_iconst (v := 0) hx hb d_T_paper_17 (by decide) ?_
      exact W.zret (v := 0) (ty := .boolean) hx hb hr rfl (fun t ht hW => ⟨⟨0, w, rfl, Or.inl ⟨by rw [decide_eq_true c_3]; simp, rfl, rfl⟩, ww_t ht hw⟩, hS.F ht⟩) hS.2.2 d_T_paper_18
    · refine lv_iload_n hx hb d_T_paper_12 rfl (lv_at hl 2 rfl) ?_
      refine lv_iconst (v := 5) hx hb d_T_paper_13 (by decide) ?_
      refine lv_icmp_lt (tgt := 19) hx hb d_T_paper_14 (by decide) (fun c_4 => ?_) (fun c_4 => ?_)
      · obtain ⟨i, hi, rfl⟩ := inL_of q_2 (by omega)
        obtain ⟨qb, hq0⟩ : ∃ q, xs[i]? = some q := ⟨_, List.getElem?_eq_getElem hi⟩
        have hq := hfi i qb hq0
        obtain ⟨bb, hr0, hBb⟩ := hbs i qb hq0
        obtain ⟨pl, parr, ps, hxb, hLb, hPb⟩ := id hBb
        have ha := hor.resolve_right (fun z => by rw [z.1] at hi; exact absurd hi (Nat.not_lt_zero _))
        refine lv_aload_n hx hb d_T_paper_19 rfl (lv_at hl 0 rfl) ?_
        refine ww_get (v := .ref bo) (C := R_T) (T := F_T) (N := 6) (ci := 0) hx hb hts i_T hown hK hw ht rfl 4 (by decide) (hts _ k_84) (fun _ h9 => h9) rfl d_T_paper_20 ?_
        refine lv_iload_n hx hb d_T_paper_23 rfl (lv_at hl 1 rfl) ?_
        refine wr_q (cV (As := [.int (nI i)]) (rest := []) (C := "java/util/ArrayList") 1 ⟨hx, hb, hml, hown, hts⟩ (c_AL_get l g w bo arr xs.length cap i qb mc f he ha hcap (by omega) hi hq) k_157 k_154 k_6 k_155 k_156 (by decide +kernel) ⟨Nat.le_of_ble_eq_true rfl, Nat.le_of_ble_eq_true rfl⟩ rfl rfl ⟨prR_blind _ _ _, hw.recv hK he rfl, prR_at hG hAB hS hw⟩ rfl hl.1 rfl (Nat.le_of_ble_eq_true rfl) d_T_paper_24 ⟨Nat.le_of_ble_eq_true rfl, Nat.le_of_ble_eq_true rfl⟩) (fun r_5 e_5 => ?_)
        subst e_5
        refine va_castY (C := "DangerTables$Box") hx hb hown (hts _ k_193) (hf.2.1 _ x_873) (hw.recv hK hxb rfl) d_T_paper_27 ?_
        refine lv_iconst (v := 1) hx hb d_T_paper_30 (by decide) ?_
        refine lv_iload_n hx hb d_T_paper_31 rfl (lv_at hl 2 rfl) ?_
        refine lv_ishl hx hb d_T_paper_32 ?_
        refine lv_topi (fun v_6 e_6 => ?_)
        obtain rfl : v_6 = (1 : Int32) <<< (v &&& 31) := e_6
        refine ww_i (cV (As := [.int ((1 : Int32) <<< (v &&& 31))]) (rest := []) (C := "DangerTables$Box") 1 ⟨hx, hb, hml, hown, hts⟩ (c_X_tell l g s.heap.size w qb pl bb.2.1 bb.2.2.1 bb.2.2.2.1 bb.2.2.2.2 ((1 : Int32) <<< (v &&& 31)) hxb) k_197 k_194 k_19 k_195 k_196 (by decide +kernel) ⟨Nat.le_of_ble_eq_true rfl, Nat.le_of_ble_eq_true rfl⟩ rfl rfl ⟨prW_blind _ _ _ _, hw.recv hK hxb rfl, prW_at hG hAB hS hw⟩ rfl hl.1 rfl (Nat.le_of_ble_eq_true rfl) d_T_paper_33 ⟨Nat.le_of_ble_eq_true rfl, Nat.le_of_ble_eq_true rfl⟩) hw hS hA (fun r_7 w_7 H locs e_7 hw hS hz_7 hk_7 hg_7 => ?_)
        have eb_7 : ∃ bb9, r_7 = b2 bb9 := by rcases e_7 with ⟨-, h9, -⟩ | ⟨-, h9, -⟩ <;> rw [h9] <;> first | exact ⟨true, rfl⟩ | exact ⟨false, rfl⟩
        obtain ⟨bb_7, eb_7⟩ := eb_7
        exact W.zret (v := r_7) (ty := .boolean) hx hb hr (b2_n eb_7) (fun t ht hW => ⟨⟨r_7, w_7, rfl, Or.inr ⟨by rw [q_2, decide_eq_false c_3, decide_eq_true c_4]; rfl, i, qb, pl, bb, rfl, hq0, hr0, hxb, e_7⟩, ww_t ht hw⟩, hS.F ht⟩) hS.2.2 d_T_paper_36
      · refine lv_iconst (v := 0) hx hb d_T_paper_17 (by decide) ?_
        exact W.zret (v := 0) (ty := .boolean) hx hb hr rfl (fun t ht hW => ⟨⟨0, w, rfl, Or.inl ⟨by rw [decide_eq_false c_4]; simp, rfl, rfl⟩, ww_t ht hw⟩, hS.F ht⟩) hS.2.2 d_T_paper_18

