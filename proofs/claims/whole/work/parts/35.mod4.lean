/-! THE REFERENCE: methods that write -/
theorem nar_b {r : Int32} {b : Bool} (e : r = b2 b) : vp_nar .boolean r = r := by
  subst e
  cases b <;> rfl
theorem nar_1 : vp_nar .boolean 1 = 1 := rfl
theorem sd_eq {u v : Int32} (h : isCls u = true) : (inR v 0 9 && !decide (v = u)) = isSd v u := by
  obtain ⟨k, hk, rfl⟩ := isCls_of h
  by_cases h0 : v = 0
  · subst h0
    unfold isSd
    rw [decide_eq_true rfl, Bool.true_or, show inR 0 0 9 = true from rfl, decide_eq_false (fun z => nI_ne0 (n := k + 1) (by omega) (by omega) z.symm)]
    rfl
  · unfold isSd inR isCls
    rw [decide_eq_false h0, Bool.false_or]
    congr 2
    by_cases h1 : v < 1
    · rw [decide_eq_true h1]
      congr 1
      refine decide_eq_true ?_
      rw [Int32.lt_iff_toInt_lt] at h1 ⊢
      rw [show (1 : Int32).toInt = 1 from rfl] at h1
      rw [Int32.toInt_zero]
      have : v.toInt ≠ 0 := fun z => h0 (Int32.toInt_inj.mp (by rw [z]; rfl))
      omega
    · rw [decide_eq_false h1]
      congr 1
      refine decide_eq_false (fun z => h1 ?_)
      rw [Int32.lt_iff_toInt_lt] at z ⊢
      rw [Int32.toInt_zero] at z
      rw [show (1 : Int32).toInt = 1 from rfl]
      omega
set_option maxHeartbeats 4000000 in
set_option maxRecDepth 100000 in
theorem c_M_refuse (l : Launch) (g : GT) (sz : Nat) (w : Nat → Option va_E) (mo : Nat) (ad : Nat → Nat) (t0 hd : Int32) (sn gn bn : Nat) (F : Nat → Nat → Int32) (v : Int32) (hM : isM g w mo ad t0 sn hd gn bn F)  : Met l y_M_refuse (.code y_M_refuse b_M_refuse 2 ((some .int)) :: GW) ({ frames := 0, cells := 0, slots := 0, locals := 0 }) (prW g sz [.ref mo, .int v] w) (qI g sz w (fun r w1 => r = 0 ∧ isM g w1 mo ad v sn hd gn bn F)) 0 0 (gA w sz) := by
  refine Met.ofW (cc := b_M_refuse) (maxL := 2) (ret := (some .int)) (by decide) rfl ?_
  intro p e s m args below meth c s₁ B hml hv
  obtain ⟨rfl, hsz, hG, hw0⟩ := hv
  have hx := B.exec
  have hb := B.bytes
  have hr := B.returns
  have hts : ∀ w ∈ GW, w.before _ s = true := fun w h => atoms_spec (ws := .code y_M_refuse b_M_refuse 2 ((some .int)) :: GW) B.pre w (List.mem_cons_of_mem _ h)
  have hown : s.vm.findClass "DangerTablesModel" = some m.cls := findClass_of_methodNamed B.named
  have hlocks := B.notSynchronized
  have hf := hG.here
  have hK := hf.1
  subst hsz
  have hw := hw0.self s.heap.size
  have hAB : ∀ q, gA w s.heap.size q → gB g q := fun q h => h.elim (fun z => z.elim (fun _ he => hw0.inA he)) (fun h => Nat.le_trans hG.1 h)
  have hA : ∀ q, s.heap.size ≤ q → gA w s.heap.size q := fun q h => Or.inr h
  have hS : va_S (gA w s.heap.size) s.heap s.heap [] := va_S.rf
  have hl := lv_entry ([.ref mo, .int v]) (n := 2) (Nat.le_of_ble_eq_true rfl)
  rw [lg_entry_eq]
  generalize (lg_sl ([.ref mo, .int v]) ++ List.replicate (2 - (lg_sl ([.ref mo, .int v])).length) Slot.unset).toArray = ls at hl ⊢
  have hl : lv_has ls 2 [(0, .ref mo), (1, .int v)] := hl
  refine lv_aload_n hx hb d_M_refuse_0 rfl (lv_at hl 0 rfl) ?_
  refine lv_iload_n hx hb d_M_refuse_1 rfl (lv_at hl 1 rfl) ?_
  refine ww_put (v := .int v) (ty := .int) (C := R_M) (T := F_M) (N := 22) (ci := 5) (fs' := [.int v, .ref (ad 0), .int (nI sn), .int hd, .ref (ad 1), .int (nI gn), .ref (ad 2), .ref (ad 3), .ref (ad 4), .ref (ad 5), .ref (ad 6), .ref (ad 7), .ref (ad 8), .int (nI bn), .ref (ad 9), .ref (ad 10), .ref (ad 11), .ref (ad 12), .ref (ad 13), .ref (ad 14), .ref (ad 15), .ref (ad 16)]) hx hb hts i_M ft_M ft_M_ok fn_M hown hK hw hS hM.1 rfl 0 (by decide) (hts _ k_655) (fun _ h9 => h9) rfl (by decide +kernel) rfl rfl (Nat.le_of_ble_eq_true rfl) rfl d_M_refuse_2 (fun H locs hw hS => ?_)
  obtain ⟨w_1, ew_1⟩ : ∃ zz9 : Nat → Option va_E, zz9 = va_up w mo (some (.inr (5, [.int v, .ref (ad 0), .int (nI sn), .int hd, .ref (ad 1), .int (nI gn), .ref (ad 2), .ref (ad 3), .ref (ad 4), .ref (ad 5), .ref (ad 6), .ref (ad 7), .ref (ad 8), .int (nI bn), .ref (ad 9), .ref (ad 10), .ref (ad 11), .ref (ad 12), .ref (ad 13), .ref (ad 14), .ref (ad 15), .ref (ad 16)]))) := ⟨_, rfl⟩
  rw [← ew_1] at hw
  have hM_1 : isM g w_1 mo ad v sn hd gn bn F := by rw [ew_1]; exact isM_put hM
  refine lv_iconst (v := 0) hx hb d_M_refuse_5 (by decide) ?_
  exact W.iret (v := 0) hx hb hr (fun t ht hW => ⟨⟨0, w_1, rfl, ⟨rfl, hM_1⟩, ww_t ht hw⟩, hS.F ht⟩) hS.2.2 d_M_refuse_6

set_option maxHeartbeats 4000000 in
set_option maxRecDepth 100000 in
theorem c_M_sign (l : Launch) (g : GT) (sz : Nat) (w : Nat → Option va_E) (mo : Nat) (ad : Nat → Nat) (t0 hd : Int32) (sn gn bn : Nat) (F : Nat → Nat → Int32) (v : Int32) (hM : isM g w mo ad t0 sn hd gn bn F) (hsn : sn ≤ 300) : Met l y_M_sign (.code y_M_sign b_M_sign 2 ((some .boolean)) :: GW) ({ frames := 1, cells := 0, slots := 0, locals := 22 }) (prW g sz [.ref mo, .int v] w) (qI g sz w (fun r w1 => (okS v = true ∧ sn < 300 ∧ r = 1 ∧ isM g w1 mo ad 0 (sn + 1) hd gn bn (upd2 F 0 (upd (F 0) sn v))) ∨ ((okS v = false ∨ sn = 300) ∧ r = 0 ∧ isM g w1 mo ad 0 sn hd gn bn F))) 0 0 (gA w sz) := by
  refine Met.ofW (cc := b_M_sign) (maxL := 2) (ret := (some .boolean)) (by decide) rfl ?_
  intro p e s m args below meth c s₁ B hml hv
  obtain ⟨rfl, hsz, hG, hw0⟩ := hv
  have hx := B.exec
  have hb := B.bytes
  have hr := B.returns
  have hts : ∀ w ∈ GW, w.before _ s = true := fun w h => atoms_spec (ws := .code y_M_sign b_M_sign 2 ((some .boolean)) :: GW) B.pre w (List.mem_cons_of_mem _ h)
  have hown : s.vm.findClass "DangerTablesModel" = some m.cls := findClass_of_methodNamed B.named
  have hlocks := B.notSynchronized
  have hf := hG.here
  have hK := hf.1
  subst hsz
  have hw := hw0.self s.heap.size
  have hAB : ∀ q, gA w s.heap.size q → gB g q := fun q h => h.elim (fun z => z.elim (fun _ he => hw0.inA he)) (fun h => Nat.le_trans hG.1 h)
  have hA : ∀ q, s.heap.size ≤ q → gA w s.heap.size q := fun q h => Or.inr h
  have hS : va_S (gA w s.heap.size) s.heap s.heap [] := va_S.rf
  have hl := lv_entry ([.ref mo, .int v]) (n := 2) (Nat.le_of_ble_eq_true rfl)
  rw [lg_entry_eq]
  generalize (lg_sl ([.ref mo, .int v]) ++ List.replicate (2 - (lg_sl ([.ref mo, .int v])).length) Slot.unset).toArray = ls at hl ⊢
  have hl : lv_has ls 2 [(0, .ref mo), (1, .int v)] := hl
  refine lv_aload_n hx hb d_M_sign_0 rfl (lv_at hl 0 rfl) ?_
  refine lv_iconst (v := 0) hx hb d_M_sign_1 (by decide) ?_
  refine ww_put (v := .int 0) (ty := .int) (C := R_M) (T := F_M) (N := 22) (ci := 5) (fs' := [.int 0, .ref (ad 0), .int (nI sn), .int hd, .ref (ad 1), .int (nI gn), .ref (ad 2), .ref (ad 3), .ref (ad 4), .ref (ad 5), .ref (ad 6), .ref (ad 7), .ref (ad 8), .int (nI bn), .ref (ad 9), .ref (ad 10), .ref (ad 11), .ref (ad 12), .ref (ad 13), .ref (ad 14), .ref (ad 15), .ref (ad 16)]) hx hb hts i_M ft_M ft_M_ok fn_M hown hK hw hS hM.1 rfl 0 (by decide) (hts _ k_655) (fun _ h9 => h9) rfl (by decide +kernel) rfl rfl (Nat.le_of_ble_eq_true rfl) rfl d_M_sign_2 (fun H locs hw hS => ?_)
  obtain ⟨w_1, ew_1⟩ : ∃ zz9 : Nat → Option va_E, zz9 = va_up w mo (some (.inr (5, [.int 0, .ref (ad 0), .int (nI sn), .int hd, .ref (ad 1), .int (nI gn), .ref (ad 2), .ref (ad 3), .ref (ad 4), .ref (ad 5), .ref (ad 6), .ref (ad 7), .ref (ad 8), .int (nI bn), .ref (ad 9), .ref (ad 10), .ref (ad 11), .ref (ad 12), .ref (ad 13), .ref (ad 14), .ref (ad 15), .ref (ad 16)]))) := ⟨_, rfl⟩
  rw [← ew_1] at hw
  have hM_1 : isM g w_1 mo ad 0 sn hd gn bn F := by rw [ew_1]; exact isM_put hM
  refine lv_iload_n hx hb d_M_sign_5 rfl (lv_at hl 1 rfl) ?_
  refine lv_bipush (v := 48) hx hb d_M_sign_6 (by decide) ?_
  refine lv_bipush (v := 57) hx hb d_M_sign_8 (by decide) ?_
  refine wr_i (cS (As := [.int v, .int 48, .int 57]) (rest := []) 3 ⟨hx, hb, hml, hown, hts⟩ (c_M_in l v 48 57) k_733 k_731 k_7 k_732 (by decide +kernel) ⟨Nat.le_of_ble_eq_true rfl, Nat.le_of_ble_eq_true rfl⟩ rfl rfl ⟨prN_blind _, fun _ _ _ => ⟨rfl, trivial⟩⟩ rfl hl.1 rfl (Nat.le_of_ble_eq_true rfl) d_M_sign_10 ⟨Nat.le_of_ble_eq_true rfl, Nat.le_of_ble_eq_true rfl⟩) (fun r_2 e_2 => ?_)
  refine lv_if_ne (tgt := 22) hx hb d_M_sign_13 (by decide) (fun c_3 => ?_) (fun c_3 => ?_)
  · have q_3 := b2_t e_2 c_3
    refine lv_aload_n hx hb d_M_sign_22 rfl (lv_at hl 0 rfl) ?_
    refine ww_get (v := .int (nI sn)) (C := R_M) (T := F_M) (N := 22) (ci := 5) hx hb hts i_M hown hK hw hM_1.1 rfl 2 (by decide) (hts _ k_657) (fun _ h9 => h9) rfl d_M_sign_23 ?_
    refine lv_sipush (v := 300) hx hb d_M_sign_26 (by decide) ?_
    refine lv_icmp_ne (tgt := 34) hx hb d_M_sign_29 (by decide) (fun c_4 => ?_) (fun c_4 => ?_)
    · have hs3 : sn < 300 := by rcases Nat.lt_or_ge sn 300 with h | h; exact h; exact absurd (by rw [show sn = 300 by omega]; rfl) c_4
      refine lv_aload_n hx hb d_M_sign_34 rfl (lv_at hl 0 rfl) ?_
      refine ww_get (v := .ref (ad 0)) (C := R_M) (T := F_M) (N := 22) (ci := 5) hx hb hts i_M hown hK hw hM_1.1 rfl 1 (by decide) (hts _ k_656) (fun _ h9 => h9) rfl d_M_sign_35 ?_
      refine lv_aload_n hx hb d_M_sign_38 rfl (lv_at hl 0 rfl) ?_
      refine ww_get (v := .int (nI sn)) (C := R_M) (T := F_M) (N := 22) (ci := 5) hx hb hts i_M hown hK hw hM_1.1 rfl 2 (by decide) (hts _ k_657) (fun _ h9 => h9) rfl d_M_sign_39 ?_
      refine lv_iload_n hx hb d_M_sign_42 rfl (lv_at hl 1 rfl) ?_
      refine ww_iast hx hb hK hw hS 0 (show w_1 (ad 0) = some (cA g 300 (F 0)) from hM_1.2.1 0 (by decide)) rfl (vp_in_nI (by omega) (by decide)) d_M_sign_43 (fun H locs hw hS => ?_)
      rw [nI_clamp (show sn < 2 ^ 31 by omega)] at hw
      obtain ⟨w_5, ew_5⟩ : ∃ zz9 : Nat → Option va_E, zz9 = va_up w_1 (ad 0) (some (cA g 300 (upd (F 0) sn v))) := ⟨_, rfl⟩
      rw [← ew_5] at hw
      have hM_5 : isM g w_5 mo ad 0 sn hd gn bn (upd2 F 0 (upd (F 0) sn v)) := by rw [ew_5]; exact isM_arr 0 (by decide) hM_1
      refine lv_aload_n hx hb d_M_sign_44 rfl (lv_at hl 0 rfl) ?_
      refine lv_dup hx hb d_M_sign_45 rfl ?_
      refine ww_get (v := .int (nI sn)) (C := R_M) (T := F_M) (N := 22) (ci := 5) hx hb hts i_M hown hK hw hM_5.1 rfl 2 (by decide) (hts _ k_657) (fun _ h9 => h9) rfl d_M_sign_46 ?_
      refine lv_iconst (v := 1) hx hb d_M_sign_49 (by decide) ?_
      refine lv_iadd hx hb d_M_sign_50 ?_
      refine lv_topi (fun v_6 e_6 => ?_)
      obtain rfl : v_6 = nI (sn + 1) := by rw [e_6]; exact nI_add sn 1
      refine ww_put (v := .int (nI (sn + 1))) (ty := .int) (C := R_M) (T := F_M) (N := 22) (ci := 5) (fs' := [.int 0, .ref (ad 0), .int (nI (sn + 1)), .int hd, .ref (ad 1), .int (nI gn), .ref (ad 2), .ref (ad 3), .ref (ad 4), .ref (ad 5), .ref (ad 6), .ref (ad 7), .ref (ad 8), .int (nI bn), .ref (ad 9), .ref (ad 10), .ref (ad 11), .ref (ad 12), .ref (ad 13), .ref (ad 14), .ref (ad 15), .ref (ad 16)]) hx hb hts i_M ft_M ft_M_ok fn_M hown hK hw hS hM_5.1 rfl 2 (by decide) (hts _ k_657) (fun _ h9 => h9) rfl (by decide +kernel) rfl rfl (Nat.le_of_ble_eq_true rfl) rfl d_M_sign_51 (fun H locs hw hS => ?_)
      obtain ⟨w_7, ew_7⟩ : ∃ zz9 : Nat → Option va_E, zz9 = va_up w_5 mo (some (.inr (5, [.int 0, .ref (ad 0), .int (nI (sn + 1)), .int hd, .ref (ad 1), .int (nI gn), .ref (ad 2), .ref (ad 3), .ref (ad 4), .ref (ad 5), .ref (ad 6), .ref (ad 7), .ref (ad 8), .int (nI bn), .ref (ad 9), .ref (ad 10), .ref (ad 11), .ref (ad 12), .ref (ad 13), .ref (ad 14), .ref (ad 15), .ref (ad 16)]))) := ⟨_, rfl⟩
      rw [← ew_7] at hw
      have hM_7 : isM g w_7 mo ad 0 (sn + 1) hd gn bn (upd2 F 0 (upd (F 0) sn v)) := by rw [ew_7]; exact isM_put hM_5
      refine lv_iconst (v := 1) hx hb d_M_sign_54 (by decide) ?_
      exact W.zret (v := 1) (ty := .boolean) hx hb hr rfl (fun t ht hW => ⟨⟨1, w_7, rfl, Or.inl ⟨by unfold okS; rw [show (!decide (v < 48) && !decide (57 < v)) = true from q_3]; rfl, hs3, rfl, hM_7⟩, ww_t ht hw⟩, hS.F ht⟩) hS.2.2 d_M_sign_55
    · have hs3 : sn = 300 := (nI_eq (by omega) (b := 300) (by decide)).mp c_4
      refine lv_iconst (v := 0) hx hb d_M_sign_32 (by decide) ?_
      exact W.zret (v := 0) (ty := .boolean) hx hb hr rfl (fun t ht hW => ⟨⟨0, w_1, rfl, Or.inr ⟨Or.inr hs3, rfl, hM_1⟩, ww_t ht hw⟩, hS.F ht⟩) hS.2.2 d_M_sign_33
  · have q_3 := b2_f e_2 c_3
    refine lv_iload_n hx hb d_M_sign_16 rfl (lv_at hl 1 rfl) ?_
    refine lv_bipush (v := 59) hx hb d_M_sign_17 (by decide) ?_
    refine lv_icmp_ne (tgt := 32) hx hb d_M_sign_19 (by decide) (fun c_8 => ?_) (fun c_8 => ?_)
    · refine lv_iconst (v := 0) hx hb d_M_sign_32 (by decide) ?_
      exact W.zret (v := 0) (ty := .boolean) hx hb hr rfl (fun t ht hW => ⟨⟨0, w_1, rfl, Or.inr ⟨Or.inl (by unfold okS; rw [show (!decide (v < 48) && !decide (57 < v)) = false from q_3, decide_eq_false c_8]; rfl), rfl, hM_1⟩, ww_t ht hw⟩, hS.F ht⟩) hS.2.2 d_M_sign_33
    · refine lv_aload_n hx hb d_M_sign_22 rfl (lv_at hl 0 rfl) ?_
      refine ww_get (v := .int (nI sn)) (C := R_M) (T := F_M) (N := 22) (ci := 5) hx hb hts i_M hown hK hw hM_1.1 rfl 2 (by decide) (hts _ k_657) (fun _ h9 => h9) rfl d_M_sign_23 ?_
      refine lv_sipush (v := 300) hx hb d_M_sign_26 (by decide) ?_
      refine lv_icmp_ne (tgt := 34) hx hb d_M_sign_29 (by decide) (fun c_9 => ?_) (fun c_9 => ?_)
      · have hs3 : sn < 300 := by rcases Nat.lt_or_ge sn 300 with h | h; exact h; exact absurd (by rw [show sn = 300 by omega]; rfl) c_9
        refine lv_aload_n hx hb d_M_sign_34 rfl (lv_at hl 0 rfl) ?_
        refine ww_get (v := .ref (ad 0)) (C := R_M) (T := F_M) (N := 22) (ci := 5) hx hb hts i_M hown hK hw hM_1.1 rfl 1 (by decide) (hts _ k_656) (fun _ h9 => h9) rfl d_M_sign_35 ?_
        refine lv_aload_n hx hb d_M_sign_38 rfl (lv_at hl 0 rfl) ?_
        refine ww_get (v := .int (nI sn)) (C := R_M) (T := F_M) (N := 22) (ci := 5) hx hb hts i_M hown hK hw hM_1.1 rfl 2 (by decide) (hts _ k_657) (fun _ h9 => h9) rfl d_M_sign_39 ?_
        refine lv_iload_n hx hb d_M_sign_42 rfl (lv_at hl 1 rfl) ?_
        refine ww_iast hx hb hK hw hS 0 (show w_1 (ad 0) = some (cA g 300 (F 0)) from hM_1.2.1 0 (by decide)) rfl (vp_in_nI (by omega) (by decide)) d_M_sign_43 (fun H locs hw hS => ?_)
        rw [nI_clamp (show sn < 2 ^ 31 by omega)] at hw
        obtain ⟨w_10, ew_10⟩ : ∃ zz9 : Nat → Option va_E, zz9 = va_up w_1 (ad 0) (some (cA g 300 (upd (F 0) sn v))) := ⟨_, rfl⟩
        rw [← ew_10] at hw
        have hM_10 : isM g w_10 mo ad 0 sn hd gn bn (upd2 F 0 (upd (F 0) sn v)) := by rw [ew_10]; exact isM_arr 0 (by decide) hM_1
        refine lv_aload_n hx hb d_M_sign_44 rfl (lv_at hl 0 rfl) ?_
        refine lv_dup hx hb d_M_sign_45 rfl ?_
        refine ww_get (v := .int (nI sn)) (C := R_M) (T := F_M) (N := 22) (ci := 5) hx hb hts i_M hown hK hw hM_10.1 rfl 2 (by decide) (hts _ k_657) (fun _ h9 => h9) rfl d_M_sign_46 ?_
        refine lv_iconst (v := 1) hx hb d_M_sign_49 (by decide) ?_
        refine lv_iadd hx hb d_M_sign_50 ?_
        refine lv_topi (fun v_11 e_11 => ?_)
        obtain rfl : v_11 = nI (sn + 1) := by rw [e_11]; exact nI_add sn 1
        refine ww_put (v := .int (nI (sn + 1))) (ty := .int) (C := R_M) (T := F_M) (N := 22) (ci := 5) (fs' := [.int 0, .ref (ad 0), .int (nI (sn + 1)), .int hd, .ref (ad 1), .int (nI gn), .ref (ad 2), .ref (ad 3), .ref (ad 4), .ref (ad 5), .ref (ad 6), .ref (ad 7), .ref (ad 8), .int (nI bn), .ref (ad 9), .ref (ad 10), .ref (ad 11), .ref (ad 12), .ref (ad 13), .ref (ad 14), .ref (ad 15), .ref (ad 16)]) hx hb hts i_M ft_M ft_M_ok fn_M hown hK hw hS hM_10.1 rfl 2 (by decide) (hts _ k_657) (fun _ h9 => h9) rfl (by decide +kernel) rfl rfl (Nat.le_of_ble_eq_true rfl) rfl d_M_sign_51 (fun H locs hw hS => ?_)
        obtain ⟨w_12, ew_12⟩ : ∃ zz9 : Nat → Option va_E, zz9 = va_up w_10 mo (some (.inr (5, [.int 0, .ref (ad 0), .int (nI (sn + 1)), .int hd, .ref (ad 1), .int (nI gn), .ref (ad 2), .ref (ad 3), .ref (ad 4), .ref (ad 5), .ref (ad 6), .ref (ad 7), .ref (ad 8), .int (nI bn), .ref (ad 9), .ref (ad 10), .ref (ad 11), .ref (ad 12), .ref (ad 13), .ref (ad 14), .ref (ad 15), .ref (ad 16)]))) := ⟨_, rfl⟩
        rw [← ew_12] at hw
        have hM_12 : isM g w_12 mo ad 0 (sn + 1) hd gn bn (upd2 F 0 (upd (F 0) sn v)) := by rw [ew_12]; exact isM_put hM_10
        refine lv_iconst (v := 1) hx hb d_M_sign_54 (by decide) ?_
        exact W.zret (v := 1) (ty := .boolean) hx hb hr rfl (fun t ht hW => ⟨⟨1, w_12, rfl, Or.inl ⟨okS_b c_8, hs3, rfl, hM_12⟩, ww_t ht hw⟩, hS.F ht⟩) hS.2.2 d_M_sign_55
      · have hs3 : sn = 300 := (nI_eq (by omega) (b := 300) (by decide)).mp c_9
        refine lv_iconst (v := 0) hx hb d_M_sign_32 (by decide) ?_
        exact W.zret (v := 0) (ty := .boolean) hx hb hr rfl (fun t ht hW => ⟨⟨0, w_1, rfl, Or.inr ⟨Or.inr hs3, rfl, hM_1⟩, ww_t ht hw⟩, hS.F ht⟩) hS.2.2 d_M_sign_33

set_option maxHeartbeats 4000000 in
set_option maxRecDepth 100000 in
theorem c_M_rule (l : Launch) (g : GT) (sz : Nat) (w : Nat → Option va_E) (mo : Nat) (ad : Nat → Nat) (t0 hd : Int32) (sn gn bn : Nat) (F : Nat → Nat → Int32) (rf : Nat → Int32) (u v : Int32) (hM : isM g w mo ad t0 sn hd gn bn F) (hRT : RT rf F) : Met l y_M_rule (.code y_M_rule b_M_rule 3 ((some .int)) :: GW) ({ frames := 1, cells := 0, slots := 0, locals := 21 }) (prW g sz [.ref mo, .int u, .int v] w) (qI g sz w (fun r w1 => ((isCls u && isCls v) = true ∧ r = rf (prI u v).toNatClampNeg ∧ isM g w1 mo ad 0 sn hd gn bn F) ∨ ((isCls u && isCls v) = false ∧ r = 0 ∧ isM g w1 mo ad 1 sn hd gn bn F))) 0 0 (gA w sz) := by
  refine Met.ofW (cc := b_M_rule) (maxL := 3) (ret := (some .int)) (by decide) rfl ?_
  intro p e s m args below meth c s₁ B hml hv
  obtain ⟨rfl, hsz, hG, hw0⟩ := hv
  have hx := B.exec
  have hb := B.bytes
  have hr := B.returns
  have hts : ∀ w ∈ GW, w.before _ s = true := fun w h => atoms_spec (ws := .code y_M_rule b_M_rule 3 ((some .int)) :: GW) B.pre w (List.mem_cons_of_mem _ h)
  have hown : s.vm.findClass "DangerTablesModel" = some m.cls := findClass_of_methodNamed B.named
  have hlocks := B.notSynchronized
  have hf := hG.here
  have hK := hf.1
  subst hsz
  have hw := hw0.self s.heap.size
  have hAB : ∀ q, gA w s.heap.size q → gB g q := fun q h => h.elim (fun z => z.elim (fun _ he => hw0.inA he)) (fun h => Nat.le_trans hG.1 h)
  have hA : ∀ q, s.heap.size ≤ q → gA w s.heap.size q := fun q h => Or.inr h
  have hS : va_S (gA w s.heap.size) s.heap s.heap [] := va_S.rf
  have hl := lv_entry ([.ref mo, .int u, .int v]) (n := 3) (Nat.le_of_ble_eq_true rfl)
  rw [lg_entry_eq]
  generalize (lg_sl ([.ref mo, .int u, .int v]) ++ List.replicate (3 - (lg_sl ([.ref mo, .int u, .int v])).length) Slot.unset).toArray = ls at hl ⊢
  have hl : lv_has ls 3 [(0, .ref mo), (1, .int u), (2, .int v)] := hl
  refine lv_aload_n hx hb d_M_rule_0 rfl (lv_at hl 0 rfl) ?_
  refine lv_iload_n hx hb d_M_rule_1 rfl (lv_at hl 1 rfl) ?_
  refine wr_i (cS (As := [.int u]) (rest := [.ref mo]) 1 ⟨hx, hb, hml, hown, hts⟩ (c_M_isClass l u) k_744 k_742 k_7 k_743 (by decide +kernel) ⟨Nat.le_of_ble_eq_true rfl, Nat.le_of_ble_eq_true rfl⟩ rfl rfl ⟨prN_blind _, fun _ _ _ => ⟨rfl, trivial⟩⟩ rfl hl.1 rfl (Nat.le_of_ble_eq_true rfl) d_M_rule_2 ⟨Nat.le_of_ble_eq_true rfl, Nat.le_of_ble_eq_true rfl⟩) (fun r_1 e_1 => ?_)
  refine lv_if_eq (tgt := 19) hx hb d_M_rule_5 (by decide) (fun c_2 => ?_) (fun c_2 => ?_)
  · have q_2 := b2_f e_1 c_2
    refine lv_iconst (v := 1) hx hb d_M_rule_19 (by decide) ?_
    refine ww_put (v := .int 1) (ty := .int) (C := R_M) (T := F_M) (N := 22) (ci := 5) (fs' := [.int 1, .ref (ad 0), .int (nI sn), .int hd, .ref (ad 1), .int (nI gn), .ref (ad 2), .ref (ad 3), .ref (ad 4), .ref (ad 5), .ref (ad 6), .ref (ad 7), .ref (ad 8), .int (nI bn), .ref (ad 9), .ref (ad 10), .ref (ad 11), .ref (ad 12), .ref (ad 13), .ref (ad 14), .ref (ad 15), .ref (ad 16)]) hx hb hts i_M ft_M ft_M_ok fn_M hown hK hw hS hM.1 rfl 0 (by decide) (hts _ k_655) (fun _ h9 => h9) rfl (by decide +kernel) rfl rfl (Nat.le_of_ble_eq_true rfl) rfl d_M_rule_20 (fun H locs hw hS => ?_)
    obtain ⟨w_3, ew_3⟩ : ∃ zz9 : Nat → Option va_E, zz9 = va_up w mo (some (.inr (5, [.int 1, .ref (ad 0), .int (nI sn), .int hd, .ref (ad 1), .int (nI gn), .ref (ad 2), .ref (ad 3), .ref (ad 4), .ref (ad 5), .ref (ad 6), .ref (ad 7), .ref (ad 8), .int (nI bn), .ref (ad 9), .ref (ad 10), .ref (ad 11), .ref (ad 12), .ref (ad 13), .ref (ad 14), .ref (ad 15), .ref (ad 16)]))) := ⟨_, rfl⟩
    rw [← ew_3] at hw
    have hM_3 : isM g w_3 mo ad 1 sn hd gn bn F := by rw [ew_3]; exact isM_put hM
    refine lv_aload_n hx hb d_M_rule_23 rfl (lv_at hl 0 rfl) ?_
    refine ww_get (v := .int 1) (C := R_M) (T := F_M) (N := 22) (ci := 5) hx hb hts i_M hown hK hw hM_3.1 rfl 0 (by decide) (hts _ k_655) (fun _ h9 => h9) rfl d_M_rule_24 ?_
    refine lv_if_le (tgt := 34) hx hb d_M_rule_27 (by decide) (fun z => absurd z (by decide)) (fun _ => ?_)
    refine lv_iconst (v := 0) hx hb d_M_rule_30 (by decide) ?_
    refine lv_goto (tgt := 44) hx hb d_M_rule_31 (by decide) ?_
    exact W.iret (v := 0) hx hb hr (fun t ht hW => ⟨⟨0, w_3, rfl, Or.inr ⟨by simp [q_2], rfl, hM_3⟩, ww_t ht hw⟩, hS.F ht⟩) hS.2.2 d_M_rule_44
  · have q_2 := b2_t e_1 c_2
    refine lv_iload_n hx hb d_M_rule_8 rfl (lv_at hl 2 rfl) ?_
    refine wr_i (cS (As := [.int v]) (rest := [.ref mo]) 1 ⟨hx, hb, hml, hown, hts⟩ (c_M_isClass l v) k_744 k_742 k_7 k_743 (by decide +kernel) ⟨Nat.le_of_ble_eq_true rfl, Nat.le_of_ble_eq_true rfl⟩ rfl rfl ⟨prN_blind _, fun _ _ _ => ⟨rfl, trivial⟩⟩ rfl hl.1 rfl (Nat.le_of_ble_eq_true rfl) d_M_rule_9 ⟨Nat.le_of_ble_eq_true rfl, Nat.le_of_ble_eq_true rfl⟩) (fun r_5 e_5 => ?_)
    refine lv_if_eq (tgt := 19) hx hb d_M_rule_12 (by decide) (fun c_6 => ?_) (fun c_6 => ?_)
    · have q_6 := b2_f e_5 c_6
      refine lv_iconst (v := 1) hx hb d_M_rule_19 (by decide) ?_
      refine ww_put (v := .int 1) (ty := .int) (C := R_M) (T := F_M) (N := 22) (ci := 5) (fs' := [.int 1, .ref (ad 0), .int (nI sn), .int hd, .ref (ad 1), .int (nI gn), .ref (ad 2), .ref (ad 3), .ref (ad 4), .ref (ad 5), .ref (ad 6), .ref (ad 7), .ref (ad 8), .int (nI bn), .ref (ad 9), .ref (ad 10), .ref (ad 11), .ref (ad 12), .ref (ad 13), .ref (ad 14), .ref (ad 15), .ref (ad 16)]) hx hb hts i_M ft_M ft_M_ok fn_M hown hK hw hS hM.1 rfl 0 (by decide) (hts _ k_655) (fun _ h9 => h9) rfl (by decide +kernel) rfl rfl (Nat.le_of_ble_eq_true rfl) rfl d_M_rule_20 (fun H locs hw hS => ?_)
      obtain ⟨w_7, ew_7⟩ : ∃ zz9 : Nat → Option va_E, zz9 = va_up w mo (some (.inr (5, [.int 1, .ref (ad 0), .int (nI sn), .int hd, .ref (ad 1), .int (nI gn), .ref (ad 2), .ref (ad 3), .ref (ad 4), .ref (ad 5), .ref (ad 6), .ref (ad 7), .ref (ad 8), .int (nI bn), .ref (ad 9), .ref (ad 10), .ref (ad 11), .ref (ad 12), .ref (ad 13), .ref (ad 14), .ref (ad 15), .ref (ad 16)]))) := ⟨_, rfl⟩
      rw [← ew_7] at hw
      have hM_7 : isM g w_7 mo ad 1 sn hd gn bn F := by rw [ew_7]; exact isM_put hM
      refine lv_aload_n hx hb d_M_rule_23 rfl (lv_at hl 0 rfl) ?_
      refine ww_get (v := .int 1) (C := R_M) (T := F_M) (N := 22) (ci := 5) hx hb hts i_M hown hK hw hM_7.1 rfl 0 (by decide) (hts _ k_655) (fun _ h9 => h9) rfl d_M_rule_24 ?_
      refine lv_if_le (tgt := 34) hx hb d_M_rule_27 (by decide) (fun z => absurd z (by decide)) (fun _ => ?_)
      refine lv_iconst (v := 0) hx hb d_M_rule_30 (by decide) ?_
      refine lv_goto (tgt := 44) hx hb d_M_rule_31 (by decide) ?_
      exact W.iret (v := 0) hx hb hr (fun t ht hW => ⟨⟨0, w_7, rfl, Or.inr ⟨by simp [q_2, q_6], rfl, hM_7⟩, ww_t ht hw⟩, hS.F ht⟩) hS.2.2 d_M_rule_44
    · have q_6 := b2_t e_5 c_6
      obtain ⟨i, hi, hui⟩ := isCls_of q_2
      obtain ⟨j, hj, hvj⟩ := isCls_of q_6
      subst hui
      subst hvj
      refine lv_iconst (v := 0) hx hb d_M_rule_15 (by decide) ?_
      refine lv_goto (tgt := 20) hx hb d_M_rule_16 (by decide) ?_
      refine ww_put (v := .int 0) (ty := .int) (C := R_M) (T := F_M) (N := 22) (ci := 5) (fs' := [.int 0, .ref (ad 0), .int (nI sn), .int hd, .ref (ad 1), .int (nI gn), .ref (ad 2), .ref (ad 3), .ref (ad 4), .ref (ad 5), .ref (ad 6), .ref (ad 7), .ref (ad 8), .int (nI bn), .ref (ad 9), .ref (ad 10), .ref (ad 11), .ref (ad 12), .ref (ad 13), .ref (ad 14), .ref (ad 15), .ref (ad 16)]) hx hb hts i_M ft_M ft_M_ok fn_M hown hK hw hS hM.1 rfl 0 (by decide) (hts _ k_655) (fun _ h9 => h9) rfl (by decide +kernel) rfl rfl (Nat.le_of_ble_eq_true rfl) rfl d_M_rule_20 (fun H locs hw hS => ?_)
      obtain ⟨w_9, ew_9⟩ : ∃ zz9 : Nat → Option va_E, zz9 = va_up w mo (some (.inr (5, [.int 0, .ref (ad 0), .int (nI sn), .int hd, .ref (ad 1), .int (nI gn), .ref (ad 2), .ref (ad 3), .ref (ad 4), .ref (ad 5), .ref (ad 6), .ref (ad 7), .ref (ad 8), .int (nI bn), .ref (ad 9), .ref (ad 10), .ref (ad 11), .ref (ad 12), .ref (ad 13), .ref (ad 14), .ref (ad 15), .ref (ad 16)]))) := ⟨_, rfl⟩
      rw [← ew_9] at hw
      have hM_9 : isM g w_9 mo ad 0 sn hd gn bn F := by rw [ew_9]; exact isM_put hM
      refine lv_aload_n hx hb d_M_rule_23 rfl (lv_at hl 0 rfl) ?_
      refine ww_get (v := .int 0) (C := R_M) (T := F_M) (N := 22) (ci := 5) hx hb hts i_M hown hK hw hM_9.1 rfl 0 (by decide) (hts _ k_655) (fun _ h9 => h9) rfl d_M_rule_24 ?_
      refine lv_if_le (tgt := 34) hx hb d_M_rule_27 (by decide) (fun _ => ?_) (fun z => absurd z (by decide))
      refine lv_aload_n hx hb d_M_rule_34 rfl (lv_at hl 0 rfl) ?_
      refine ww_get (v := .ref (ad 1)) (C := R_M) (T := F_M) (N := 22) (ci := 5) hx hb hts i_M hown hK hw hM_9.1 rfl 4 (by decide) (hts _ k_659) (fun _ h9 => h9) rfl d_M_rule_35 ?_
      refine lv_iload_n hx hb d_M_rule_38 rfl (lv_at hl 1 rfl) ?_
      refine lv_iload_n hx hb d_M_rule_39 rfl (lv_at hl 2 rfl) ?_
      refine wr_i (cS (As := [.int (nI (i + 1)), .int (nI (j + 1))]) (rest := [.ref (ad 1)]) 2 ⟨hx, hb, hml, hown, hts⟩ (c_M_pair l (nI (i + 1)) (nI (j + 1))) k_747 k_745 k_7 k_746 (by decide +kernel) ⟨Nat.le_of_ble_eq_true rfl, Nat.le_of_ble_eq_true rfl⟩ rfl rfl ⟨prN_blind _, fun _ _ _ => ⟨rfl, trivial⟩⟩ rfl hl.1 rfl (Nat.le_of_ble_eq_true rfl) d_M_rule_40 ⟨Nat.le_of_ble_eq_true rfl, Nat.le_of_ble_eq_true rfl⟩) (fun r_11 e_11 => ?_)
      obtain rfl : nI (9 * i + j) = r_11 := (e_11.trans (prM_nat hi hj)).symm
      refine ww_iald (v := (F 1) (9 * i + j)) hx hb hK hw 0 (show w_9 (ad 1) = some (cA g 162 (F 1)) from hM_9.2.1 1 (by decide)) rfl (vp_in_nI (by omega) (by decide)) (by rw [nI_clamp (by omega)]) d_M_rule_43 ?_
      refine lv_topi (fun v_12 e_12 => ?_)
      obtain rfl : rf (prI (nI (i + 1)) (nI (j + 1))).toNatClampNeg = v_12 := (e_12.trans (hRT i j hi hj)).symm
      exact W.iret (v := (rf (prI (nI (i + 1)) (nI (j + 1))).toNatClampNeg)) hx hb hr (fun t ht hW => ⟨⟨(rf (prI (nI (i + 1)) (nI (j + 1))).toNatClampNeg), w_9, rfl, Or.inl ⟨by rw [q_2, q_6]; rfl, rfl, hM_9⟩, ww_t ht hw⟩, hS.F ht⟩) hS.2.2 d_M_rule_44

set_option maxHeartbeats 4000000 in
set_option maxRecDepth 100000 in
theorem c_M_good (l : Launch) (g : GT) (sz : Nat) (w : Nat → Option va_E) (mo : Nat) (ad : Nat → Nat) (t0 hd : Int32) (sn gn bn : Nat) (F : Nat → Nat → Int32) (u v x y z t : Int32) (zb tb : Bool) (hM : isM g w mo ad t0 sn hd gn bn F) (hgn : gn ≤ 16) (ez : z = b2 zb) (et : t = b2 tb) : Met l y_M_good (.code y_M_good b_M_good 7 ((some .int)) :: GW) ({ frames := 1, cells := 0, slots := 0, locals := 22 }) (prW g sz [.ref mo, .int u, .int v, .int x, .int y, .int z, .int t] w) (qI g sz w (fun r w1 => ((isCls u && isSd v u && (inR x 1 3 && inR y 0 1000)) = true ∧ gn < 16 ∧ r = nI gn ∧ isM g w1 mo ad 0 sn hd (gn + 1) bn (upd2 (upd2 (upd2 (upd2 (upd2 (upd2 F 2 (upd (F 2) gn u)) 3 (upd (F 3) gn v)) 4 (upd (F 4) gn x)) 5 (upd (F 5) gn y)) 6 (upd (F 6) gn z)) 7 (upd (F 7) gn t))) ∨ ((isCls u && isSd v u && (inR x 1 3 && inR y 0 1000)) = false ∧ r = 0 ∧ isM g w1 mo ad 1 sn hd gn bn F) ∨ ((isCls u && isSd v u && (inR x 1 3 && inR y 0 1000)) = true ∧ gn = 16 ∧ r = 0 ∧ isM g w1 mo ad 2 sn hd gn bn F))) 0 0 (gA w sz) := by
  refine Met.ofW (cc := b_M_good) (maxL := 7) (ret := (some .int)) (by decide) rfl ?_
  intro p e s m args below meth c s₁ B hml hv
  obtain ⟨rfl, hsz, hG, hw0⟩ := hv
  have hx := B.exec
  have hb := B.bytes
  have hr := B.returns
  have hts : ∀ w ∈ GW, w.before _ s = true := fun w h => atoms_spec (ws := .code y_M_good b_M_good 7 ((some .int)) :: GW) B.pre w (List.mem_cons_of_mem _ h)
  have hown : s.vm.findClass "DangerTablesModel" = some m.cls := findClass_of_methodNamed B.named
  have hlocks := B.notSynchronized
  have hf := hG.here
  have hK := hf.1
  subst hsz
  have hw := hw0.self s.heap.size
  have hAB : ∀ q, gA w s.heap.size q → gB g q := fun q h => h.elim (fun z => z.elim (fun _ he => hw0.inA he)) (fun h => Nat.le_trans hG.1 h)
  have hA : ∀ q, s.heap.size ≤ q → gA w s.heap.size q := fun q h => Or.inr h
  have hS : va_S (gA w s.heap.size) s.heap s.heap [] := va_S.rf
  have hl := lv_entry ([.ref mo, .int u, .int v, .int x, .int y, .int z, .int t]) (n := 7) (Nat.le_of_ble_eq_true rfl)
  rw [lg_entry_eq]
  generalize (lg_sl ([.ref mo, .int u, .int v, .int x, .int y, .int z, .int t]) ++ List.replicate (7 - (lg_sl ([.ref mo, .int u, .int v, .int x, .int y, .int z, .int t])).length) Slot.unset).toArray = ls at hl ⊢
  have hl : lv_has ls 7 [(0, .ref mo), (1, .int u), (2, .int v), (3, .int x), (4, .int y), (5, .int z), (6, .int t)] := hl
  refine lv_iload_n hx hb d_M_good_0 rfl (lv_at hl 1 rfl) ?_
  refine wr_i (cS (As := [.int u]) (rest := []) 1 ⟨hx, hb, hml, hown, hts⟩ (c_M_isClass l u) k_744 k_742 k_7 k_743 (by decide +kernel) ⟨Nat.le_of_ble_eq_true rfl, Nat.le_of_ble_eq_true rfl⟩ rfl rfl ⟨prN_blind _, fun _ _ _ => ⟨rfl, trivial⟩⟩ rfl hl.1 rfl (Nat.le_of_ble_eq_true rfl) d_M_good_1 ⟨Nat.le_of_ble_eq_true rfl, Nat.le_of_ble_eq_true rfl⟩) (fun r_1 e_1 => ?_)
  refine lv_if_eq (tgt := 43) hx hb d_M_good_4 (by decide) (fun c_2 => ?_) (fun c_2 => ?_)
  · have q_2 := b2_f e_1 c_2
    refine lv_aload_n hx hb d_M_good_43 rfl (lv_at hl 0 rfl) ?_
    refine lv_iconst (v := 1) hx hb d_M_good_44 (by decide) ?_
    refine ww_i (cV (As := [.int 1]) (rest := []) (C := "DangerTablesModel") 1 ⟨hx, hb, hml, hown, hts⟩ (c_M_refuse l g s.heap.size w mo ad t0 hd sn gn bn F 1 hM) k_759 k_756 k_7 k_758 kp_19 (by decide +kernel) ⟨Nat.le_of_ble_eq_true rfl, Nat.le_of_ble_eq_true rfl⟩ rfl rfl ⟨prW_blind _ _ _ _, hw.recv hK hM.1 rfl, prW_at hG hAB hS hw⟩ rfl hl.1 rfl (Nat.le_of_ble_eq_true rfl) d_M_good_45 ⟨Nat.le_of_ble_eq_true rfl, Nat.le_of_ble_eq_true rfl⟩) hw hS hA (fun r_3 w_3 H locs e_3 hw hS hz_3 hk_3 hg_3 => ?_)
    exact W.iret (v := r_3) hx hb hr (fun t ht hW => ⟨⟨r_3, w_3, rfl, Or.inr (Or.inl ⟨by rw [q_2]; rfl, e_3.1, e_3.2⟩), ww_t ht hw⟩, hS.F ht⟩) hS.2.2 d_M_good_48
  · have q_2 := b2_t e_1 c_2
    refine lv_iload_n hx hb d_M_good_7 rfl (lv_at hl 2 rfl) ?_
    refine lv_iconst (v := 0) hx hb d_M_good_8 (by decide) ?_
    refine lv_bipush (v := 9) hx hb d_M_good_9 (by decide) ?_
    refine wr_i (cS (As := [.int v, .int 0, .int 9]) (rest := []) 3 ⟨hx, hb, hml, hown, hts⟩ (c_M_in l v 0 9) k_733 k_731 k_7 k_732 (by decide +kernel) ⟨Nat.le_of_ble_eq_true rfl, Nat.le_of_ble_eq_true rfl⟩ rfl rfl ⟨prN_blind _, fun _ _ _ => ⟨rfl, trivial⟩⟩ rfl hl.1 rfl (Nat.le_of_ble_eq_true rfl) d_M_good_11 ⟨Nat.le_of_ble_eq_true rfl, Nat.le_of_ble_eq_true rfl⟩) (fun r_4 e_4 => ?_)
    refine lv_if_eq (tgt := 43) hx hb d_M_good_14 (by decide) (fun c_5 => ?_) (fun c_5 => ?_)
    · have q_5 := b2_f e_4 c_5
      refine lv_aload_n hx hb d_M_good_43 rfl (lv_at hl 0 rfl) ?_
      refine lv_iconst (v := 1) hx hb d_M_good_44 (by decide) ?_
      refine ww_i (cV (As := [.int 1]) (rest := []) (C := "DangerTablesModel") 1 ⟨hx, hb, hml, hown, hts⟩ (c_M_refuse l g s.heap.size w mo ad t0 hd sn gn bn F 1 hM) k_759 k_756 k_7 k_758 kp_19 (by decide +kernel) ⟨Nat.le_of_ble_eq_true rfl, Nat.le_of_ble_eq_true rfl⟩ rfl rfl ⟨prW_blind _ _ _ _, hw.recv hK hM.1 rfl, prW_at hG hAB hS hw⟩ rfl hl.1 rfl (Nat.le_of_ble_eq_true rfl) d_M_good_45 ⟨Nat.le_of_ble_eq_true rfl, Nat.le_of_ble_eq_true rfl⟩) hw hS hA (fun r_6 w_6 H locs e_6 hw hS hz_6 hk_6 hg_6 => ?_)
      exact W.iret (v := r_6) hx hb hr (fun t ht hW => ⟨⟨r_6, w_6, rfl, Or.inr (Or.inl ⟨by rw [← sd_eq q_2, q_5, q_2]; rfl, e_6.1, e_6.2⟩), ww_t ht hw⟩, hS.F ht⟩) hS.2.2 d_M_good_48
    · have q_5 := b2_t e_4 c_5
      refine lv_iload_n hx hb d_M_good_17 rfl (lv_at hl 2 rfl) ?_
      refine lv_iload_n hx hb d_M_good_18 rfl (lv_at hl 1 rfl) ?_
      refine lv_icmp_eq (tgt := 43) hx hb d_M_good_19 (by decide) (fun c_7 => ?_) (fun c_7 => ?_)
      · refine lv_aload_n hx hb d_M_good_43 rfl (lv_at hl 0 rfl) ?_
        refine lv_iconst (v := 1) hx hb d_M_good_44 (by decide) ?_
        refine ww_i (cV (As := [.int 1]) (rest := []) (C := "DangerTablesModel") 1 ⟨hx, hb, hml, hown, hts⟩ (c_M_refuse l g s.heap.size w mo ad t0 hd sn gn bn F 1 hM) k_759 k_756 k_7 k_758 kp_19 (by decide +kernel) ⟨Nat.le_of_ble_eq_true rfl, Nat.le_of_ble_eq_true rfl⟩ rfl rfl ⟨prW_blind _ _ _ _, hw.recv hK hM.1 rfl, prW_at hG hAB hS hw⟩ rfl hl.1 rfl (Nat.le_of_ble_eq_true rfl) d_M_good_45 ⟨Nat.le_of_ble_eq_true rfl, Nat.le_of_ble_eq_true rfl⟩) hw hS hA (fun r_8 w_8 H locs e_8 hw hS hz_8 hk_8 hg_8 => ?_)
        exact W.iret (v := r_8) hx hb hr (fun t ht hW => ⟨⟨r_8, w_8, rfl, Or.inr (Or.inl ⟨by rw [← sd_eq q_2, decide_eq_true c_7]; simp, e_8.1, e_8.2⟩), ww_t ht hw⟩, hS.F ht⟩) hS.2.2 d_M_good_48
      · refine lv_iload_n hx hb d_M_good_22 rfl (lv_at hl 3 rfl) ?_
        refine lv_iconst (v := 1) hx hb d_M_good_23 (by decide) ?_
        refine lv_iconst (v := 3) hx hb d_M_good_24 (by decide) ?_
        refine wr_i (cS (As := [.int x, .int 1, .int 3]) (rest := []) 3 ⟨hx, hb, hml, hown, hts⟩ (c_M_in l x 1 3) k_733 k_731 k_7 k_732 (by decide +kernel) ⟨Nat.le_of_ble_eq_true rfl, Nat.le_of_ble_eq_true rfl⟩ rfl rfl ⟨prN_blind _, fun _ _ _ => ⟨rfl, trivial⟩⟩ rfl hl.1 rfl (Nat.le_of_ble_eq_true rfl) d_M_good_25 ⟨Nat.le_of_ble_eq_true rfl, Nat.le_of_ble_eq_true rfl⟩) (fun r_9 e_9 => ?_)
        refine lv_if_eq (tgt := 43) hx hb d_M_good_28 (by decide) (fun c_10 => ?_) (fun c_10 => ?_)
        · have q_10 := b2_f e_9 c_10
          refine lv_aload_n hx hb d_M_good_43 rfl (lv_at hl 0 rfl) ?_
          refine lv_iconst (v := 1) hx hb d_M_good_44 (by decide) ?_
          refine ww_i (cV (As := [.int 1]) (rest := []) (C := "DangerTablesModel") 1 ⟨hx, hb, hml, hown, hts⟩ (c_M_refuse l g s.heap.size w mo ad t0 hd sn gn bn F 1 hM) k_759 k_756 k_7 k_758 kp_19 (by decide +kernel) ⟨Nat.le_of_ble_eq_true rfl, Nat.le_of_ble_eq_true rfl⟩ rfl rfl ⟨prW_blind _ _ _ _, hw.recv hK hM.1 rfl, prW_at hG hAB hS hw⟩ rfl hl.1 rfl (Nat.le_of_ble_eq_true rfl) d_M_good_45 ⟨Nat.le_of_ble_eq_true rfl, Nat.le_of_ble_eq_true rfl⟩) hw hS hA (fun r_11 w_11 H locs e_11 hw hS hz_11 hk_11 hg_11 => ?_)
          exact W.iret (v := r_11) hx hb hr (fun t ht hW => ⟨⟨r_11, w_11, rfl, Or.inr (Or.inl ⟨by rw [q_10]; simp, e_11.1, e_11.2⟩), ww_t ht hw⟩, hS.F ht⟩) hS.2.2 d_M_good_48
        · have q_10 := b2_t e_9 c_10
          refine lv_iload hx hb d_M_good_31 (lv_at hl 4 rfl) ?_
          refine lv_iconst (v := 0) hx hb d_M_good_33 (by decide) ?_
          refine lv_sipush (v := 1000) hx hb d_M_good_34 (by decide) ?_
          refine wr_i (cS (As := [.int y, .int 0, .int 1000]) (rest := []) 3 ⟨hx, hb, hml, hown, hts⟩ (c_M_in l y 0 1000) k_733 k_731 k_7 k_732 (by decide +kernel) ⟨Nat.le_of_ble_eq_true rfl, Nat.le_of_ble_eq_true rfl⟩ rfl rfl ⟨prN_blind _, fun _ _ _ => ⟨rfl, trivial⟩⟩ rfl hl.1 rfl (Nat.le_of_ble_eq_true rfl) d_M_good_37 ⟨Nat.le_of_ble_eq_true rfl, Nat.le_of_ble_eq_true rfl⟩) (fun r_12 e_12 => ?_)
          refine lv_if_ne (tgt := 49) hx hb d_M_good_40 (by decide) (fun c_13 => ?_) (fun c_13 => ?_)
          · have q_13 := b2_t e_12 c_13
            refine lv_aload_n hx hb d_M_good_49 rfl (lv_at hl 0 rfl) ?_
            refine ww_get (v := .int (nI gn)) (C := R_M) (T := F_M) (N := 22) (ci := 5) hx hb hts i_M hown hK hw hM.1 rfl 5 (by decide) (hts _ k_660) (fun _ h9 => h9) rfl d_M_good_50 ?_
            refine lv_bipush (v := 16) hx hb d_M_good_53 (by decide) ?_
            refine lv_icmp_ne (tgt := 64) hx hb d_M_good_55 (by decide) (fun c_14 => ?_) (fun c_14 => ?_)
            · have hg16 : gn < 16 := by rcases Nat.lt_or_ge gn 16 with h | h; exact h; exact absurd (by rw [show gn = 16 by omega]; rfl) c_14
              refine lv_aload_n hx hb d_M_good_64 rfl (lv_at hl 0 rfl) ?_
              refine lv_iconst (v := 0) hx hb d_M_good_65 (by decide) ?_
              refine ww_put (v := .int 0) (ty := .int) (C := R_M) (T := F_M) (N := 22) (ci := 5) (fs' := [.int 0, .ref (ad 0), .int (nI sn), .int hd, .ref (ad 1), .int (nI gn), .ref (ad 2), .ref (ad 3), .ref (ad 4), .ref (ad 5), .ref (ad 6), .ref (ad 7), .ref (ad 8), .int (nI bn), .ref (ad 9), .ref (ad 10), .ref (ad 11), .ref (ad 12), .ref (ad 13), .ref (ad 14), .ref (ad 15), .ref (ad 16)]) hx hb hts i_M ft_M ft_M_ok fn_M hown hK hw hS hM.1 rfl 0 (by decide) (hts _ k_655) (fun _ h9 => h9) rfl (by decide +kernel) rfl rfl (Nat.le_of_ble_eq_true rfl) rfl d_M_good_66 (fun H locs hw hS => ?_)
              obtain ⟨w_15, ew_15⟩ : ∃ zz9 : Nat → Option va_E, zz9 = va_up w mo (some (.inr (5, [.int 0, .ref (ad 0), .int (nI sn), .int hd, .ref (ad 1), .int (nI gn), .ref (ad 2), .ref (ad 3), .ref (ad 4), .ref (ad 5), .ref (ad 6), .ref (ad 7), .ref (ad 8), .int (nI bn), .ref (ad 9), .ref (ad 10), .ref (ad 11), .ref (ad 12), .ref (ad 13), .ref (ad 14), .ref (ad 15), .ref (ad 16)]))) := ⟨_, rfl⟩
              rw [← ew_15] at hw
              have hM_15 : isM g w_15 mo ad 0 sn hd gn bn F := by rw [ew_15]; exact isM_put hM
              refine lv_aload_n hx hb d_M_good_69 rfl (lv_at hl 0 rfl) ?_
              refine ww_get (v := .ref (ad 2)) (C := R_M) (T := F_M) (N := 22) (ci := 5) hx hb hts i_M hown hK hw hM_15.1 rfl 6 (by decide) (hts _ k_661) (fun _ h9 => h9) rfl d_M_good_70 ?_
              refine lv_aload_n hx hb d_M_good_73 rfl (lv_at hl 0 rfl) ?_
              refine ww_get (v := .int (nI gn)) (C := R_M) (T := F_M) (N := 22) (ci := 5) hx hb hts i_M hown hK hw hM_15.1 rfl 5 (by decide) (hts _ k_660) (fun _ h9 => h9) rfl d_M_good_74 ?_
              refine lv_iload_n hx hb d_M_good_77 rfl (lv_at hl 1 rfl) ?_
              refine ww_iast hx hb hK hw hS 0 (show w_15 (ad 2) = some (cA g 16 (F 2)) from hM_15.2.1 2 (by decide)) rfl (vp_in_nI (by omega) (by decide)) d_M_good_78 (fun H locs hw hS => ?_)
              rw [nI_clamp (show gn < 2 ^ 31 by omega)] at hw
              obtain ⟨w_16, ew_16⟩ : ∃ zz9 : Nat → Option va_E, zz9 = va_up w_15 (ad 2) (some (cA g 16 (upd (F 2) gn u))) := ⟨_, rfl⟩
              rw [← ew_16] at hw
              have hM_16 : isM g w_16 mo ad 0 sn hd gn bn (upd2 F 2 (upd (F 2) gn u)) := by rw [ew_16]; exact isM_arr 2 (by decide) hM_15
              refine lv_aload_n hx hb d_M_good_79 rfl (lv_at hl 0 rfl) ?_
              refine ww_get (v := .ref (ad 3)) (C := R_M) (T := F_M) (N := 22) (ci := 5) hx hb hts i_M hown hK hw hM_16.1 rfl 7 (by decide) (hts _ k_662) (fun _ h9 => h9) rfl d_M_good_80 ?_
              refine lv_aload_n hx hb d_M_good_83 rfl (lv_at hl 0 rfl) ?_
              refine ww_get (v := .int (nI gn)) (C := R_M) (T := F_M) (N := 22) (ci := 5) hx hb hts i_M hown hK hw hM_16.1 rfl 5 (by decide) (hts _ k_660) (fun _ h9 => h9) rfl d_M_good_84 ?_
              refine lv_iload_n hx hb d_M_good_87 rfl (lv_at hl 2 rfl) ?_
              refine ww_iast hx hb hK hw hS 0 (show w_16 (ad 3) = some (cA g 16 (F 3)) from hM_16.2.1 3 (by decide)) rfl (vp_in_nI (by omega) (by decide)) d_M_good_88 (fun H locs hw hS => ?_)
              rw [nI_clamp (show gn < 2 ^ 31 by omega)] at hw
              obtain ⟨w_17, ew_17⟩ : ∃ zz9 : Nat → Option va_E, zz9 = va_up w_16 (ad 3) (some (cA g 16 (upd (F 3) gn v))) := ⟨_, rfl⟩
              rw [← ew_17] at hw
              have hM_17 : isM g w_17 mo ad 0 sn hd gn bn (upd2 (upd2 F 2 (upd (F 2) gn u)) 3 (upd (F 3) gn v)) := by rw [ew_17]; exact isM_arr 3 (by decide) hM_16
              refine lv_aload_n hx hb d_M_good_89 rfl (lv_at hl 0 rfl) ?_
              refine ww_get (v := .ref (ad 4)) (C := R_M) (T := F_M) (N := 22) (ci := 5) hx hb hts i_M hown hK hw hM_17.1 rfl 8 (by decide) (hts _ k_663) (fun _ h9 => h9) rfl d_M_good_90 ?_
              refine lv_aload_n hx hb d_M_good_93 rfl (lv_at hl 0 rfl) ?_
              refine ww_get (v := .int (nI gn)) (C := R_M) (T := F_M) (N := 22) (ci := 5) hx hb hts i_M hown hK hw hM_17.1 rfl 5 (by decide) (hts _ k_660) (fun _ h9 => h9) rfl d_M_good_94 ?_
              refine lv_iload_n hx hb d_M_good_97 rfl (lv_at hl 3 rfl) ?_
              refine ww_iast hx hb hK hw hS 0 (show w_17 (ad 4) = some (cA g 16 (F 4)) from hM_17.2.1 4 (by decide)) rfl (vp_in_nI (by omega) (by decide)) d_M_good_98 (fun H locs hw hS => ?_)
              rw [nI_clamp (show gn < 2 ^ 31 by omega)] at hw
              obtain ⟨w_18, ew_18⟩ : ∃ zz9 : Nat → Option va_E, zz9 = va_up w_17 (ad 4) (some (cA g 16 (upd (F 4) gn x))) := ⟨_, rfl⟩
              rw [← ew_18] at hw
              have hM_18 : isM g w_18 mo ad 0 sn hd gn bn (upd2 (upd2 (upd2 F 2 (upd (F 2) gn u)) 3 (upd (F 3) gn v)) 4 (upd (F 4) gn x)) := by rw [ew_18]; exact isM_arr 4 (by decide) hM_17
              refine lv_aload_n hx hb d_M_good_99 rfl (lv_at hl 0 rfl) ?_
              refine ww_get (v := .ref (ad 5)) (C := R_M) (T := F_M) (N := 22) (ci := 5) hx hb hts i_M hown hK hw hM_18.1 rfl 9 (by decide) (hts _ k_664) (fun _ h9 => h9) rfl d_M_good_100 ?_
              refine lv_aload_n hx hb d_M_good_103 rfl (lv_at hl 0 rfl) ?_
              refine ww_get (v := .int (nI gn)) (C := R_M) (T := F_M) (N := 22) (ci := 5) hx hb hts i_M hown hK hw hM_18.1 rfl 5 (by decide) (hts _ k_660) (fun _ h9 => h9) rfl d_M_good_104 ?_
              refine lv_iload hx hb d_M_good_107 (lv_at hl 4 rfl) ?_
              refine ww_iast hx hb hK hw hS 0 (show w_18 (ad 5) = some (cA g 16 (F 5)) from hM_18.2.1 5 (by decide)) rfl (vp_in_nI (by omega) (by decide)) d_M_good_109 (fun H locs hw hS => ?_)
              rw [nI_clamp (show gn < 2 ^ 31 by omega)] at hw
              obtain ⟨w_19, ew_19⟩ : ∃ zz9 : Nat → Option va_E, zz9 = va_up w_18 (ad 5) (some (cA g 16 (upd (F 5) gn y))) := ⟨_, rfl⟩
              rw [← ew_19] at hw
              have hM_19 : isM g w_19 mo ad 0 sn hd gn bn (upd2 (upd2 (upd2 (upd2 F 2 (upd (F 2) gn u)) 3 (upd (F 3) gn v)) 4 (upd (F 4) gn x)) 5 (upd (F 5) gn y)) := by rw [ew_19]; exact isM_arr 5 (by decide) hM_18
              refine lv_aload_n hx hb d_M_good_110 rfl (lv_at hl 0 rfl) ?_
              refine ww_get (v := .ref (ad 6)) (C := R_M) (T := F_M) (N := 22) (ci := 5) hx hb hts i_M hown hK hw hM_19.1 rfl 10 (by decide) (hts _ k_665) (fun _ h9 => h9) rfl d_M_good_111 ?_
              refine lv_aload_n hx hb d_M_good_114 rfl (lv_at hl 0 rfl) ?_
              refine ww_get (v := .int (nI gn)) (C := R_M) (T := F_M) (N := 22) (ci := 5) hx hb hts i_M hown hK hw hM_19.1 rfl 5 (by decide) (hts _ k_660) (fun _ h9 => h9) rfl d_M_good_115 ?_
              refine lv_iload hx hb d_M_good_118 (lv_at hl 5 rfl) ?_
              refine ww_zast hx hb hK hw hS 1 (show w_19 (ad 6) = some (cB g 16 (F 6)) from hM_19.2.1 6 (by decide)) rfl (vp_in_nI (by omega) (by decide)) d_M_good_120 (fun H locs hw hS => ?_)
              rw [nI_clamp (show gn < 2 ^ 31 by omega), nar_b ez] at hw
              obtain ⟨w_20, ew_20⟩ : ∃ zz9 : Nat → Option va_E, zz9 = va_up w_19 (ad 6) (some (cB g 16 (upd (F 6) gn z))) := ⟨_, rfl⟩
              rw [← ew_20] at hw
              have hM_20 : isM g w_20 mo ad 0 sn hd gn bn (upd2 (upd2 (upd2 (upd2 (upd2 F 2 (upd (F 2) gn u)) 3 (upd (F 3) gn v)) 4 (upd (F 4) gn x)) 5 (upd (F 5) gn y)) 6 (upd (F 6) gn z)) := by rw [ew_20]; exact isM_arr 6 (by decide) hM_19
              refine lv_aload_n hx hb d_M_good_121 rfl (lv_at hl 0 rfl) ?_
              refine ww_get (v := .ref (ad 7)) (C := R_M) (T := F_M) (N := 22) (ci := 5) hx hb hts i_M hown hK hw hM_20.1 rfl 11 (by decide) (hts _ k_666) (fun _ h9 => h9) rfl d_M_good_122 ?_
              refine lv_aload_n hx hb d_M_good_125 rfl (lv_at hl 0 rfl) ?_
              refine ww_get (v := .int (nI gn)) (C := R_M) (T := F_M) (N := 22) (ci := 5) hx hb hts i_M hown hK hw hM_20.1 rfl 5 (by decide) (hts _ k_660) (fun _ h9 => h9) rfl d_M_good_126 ?_
              refine lv_iload hx hb d_M_good_129 (lv_at hl 6 rfl) ?_
              refine ww_zast hx hb hK hw hS 1 (show w_20 (ad 7) = some (cB g 16 (F 7)) from hM_20.2.1 7 (by decide)) rfl (vp_in_nI (by omega) (by decide)) d_M_good_131 (fun H locs hw hS => ?_)
              rw [nI_clamp (show gn < 2 ^ 31 by omega), nar_b et] at hw
              obtain ⟨w_21, ew_21⟩ : ∃ zz9 : Nat → Option va_E, zz9 = va_up w_20 (ad 7) (some (cB g 16 (upd (F 7) gn t))) := ⟨_, rfl⟩
              rw [← ew_21] at hw
              have hM_21 : isM g w_21 mo ad 0 sn hd gn bn (upd2 (upd2 (upd2 (upd2 (upd2 (upd2 F 2 (upd (F 2) gn u)) 3 (upd (F 3) gn v)) 4 (upd (F 4) gn x)) 5 (upd (F 5) gn y)) 6 (upd (F 6) gn z)) 7 (upd (F 7) gn t)) := by rw [ew_21]; exact isM_arr 7 (by decide) hM_20
              refine lv_aload_n hx hb d_M_good_132 rfl (lv_at hl 0 rfl) ?_
              refine lv_dup hx hb d_M_good_133 rfl ?_
              refine ww_get (v := .int (nI gn)) (C := R_M) (T := F_M) (N := 22) (ci := 5) hx hb hts i_M hown hK hw hM_21.1 rfl 5 (by decide) (hts _ k_660) (fun _ h9 => h9) rfl d_M_good_134 ?_
              refine lv_iconst (v := 1) hx hb d_M_good_137 (by decide) ?_
              refine lv_iadd hx hb d_M_good_138 ?_
              refine lv_topi (fun v_22 e_22 => ?_)
              obtain rfl : v_22 = nI (gn + 1) := by rw [e_22]; exact nI_add gn 1
              refine ww_put (v := .int (nI (gn + 1))) (ty := .int) (C := R_M) (T := F_M) (N := 22) (ci := 5) (fs' := [.int 0, .ref (ad 0), .int (nI sn), .int hd, .ref (ad 1), .int (nI (gn + 1)), .ref (ad 2), .ref (ad 3), .ref (ad 4), .ref (ad 5), .ref (ad 6), .ref (ad 7), .ref (ad 8), .int (nI bn), .ref (ad 9), .ref (ad 10), .ref (ad 11), .ref (ad 12), .ref (ad 13), .ref (ad 14), .ref (ad 15), .ref (ad 16)]) hx hb hts i_M ft_M ft_M_ok fn_M hown hK hw hS hM_21.1 rfl 5 (by decide) (hts _ k_660) (fun _ h9 => h9) rfl (by decide +kernel) rfl rfl (Nat.le_of_ble_eq_true rfl) rfl d_M_good_139 (fun H locs hw hS => ?_)
              obtain ⟨w_23, ew_23⟩ : ∃ zz9 : Nat → Option va_E, zz9 = va_up w_21 mo (some (.inr (5, [.int 0, .ref (ad 0), .int (nI sn), .int hd, .ref (ad 1), .int (nI (gn + 1)), .ref (ad 2), .ref (ad 3), .ref (ad 4), .ref (ad 5), .ref (ad 6), .ref (ad 7), .ref (ad 8), .int (nI bn), .ref (ad 9), .ref (ad 10), .ref (ad 11), .ref (ad 12), .ref (ad 13), .ref (ad 14), .ref (ad 15), .ref (ad 16)]))) := ⟨_, rfl⟩
              rw [← ew_23] at hw
              have hM_23 : isM g w_23 mo ad 0 sn hd (gn + 1) bn (upd2 (upd2 (upd2 (upd2 (upd2 (upd2 F 2 (upd (F 2) gn u)) 3 (upd (F 3) gn v)) 4 (upd (F 4) gn x)) 5 (upd (F 5) gn y)) 6 (upd (F 6) gn z)) 7 (upd (F 7) gn t)) := by rw [ew_23]; exact isM_put hM_21
              refine lv_aload_n hx hb d_M_good_142 rfl (lv_at hl 0 rfl) ?_
              refine ww_get (v := .int (nI (gn + 1))) (C := R_M) (T := F_M) (N := 22) (ci := 5) hx hb hts i_M hown hK hw hM_23.1 rfl 5 (by decide) (hts _ k_660) (fun _ h9 => h9) rfl d_M_good_143 ?_
              refine lv_iconst (v := 1) hx hb d_M_good_146 (by decide) ?_
              refine lv_isub hx hb d_M_good_147 ?_
              refine lv_topi (fun v_24 e_24 => ?_)
              obtain rfl : v_24 = nI ((gn + 1) - 1) := by rw [e_24]; exact pk_sub (a := gn + 1) (b := 1) (by omega)
              have hlast : nI ((gn + 1) - 1) = nI gn := rfl
              exact W.iret (v := (nI gn)) hx hb hr (fun t ht hW => ⟨⟨(nI gn), w_23, rfl, Or.inl ⟨by rw [← sd_eq q_2, q_5, decide_eq_false c_7, q_10, q_13, q_2]; rfl, hg16, rfl, hM_23⟩, ww_t ht hw⟩, hS.F ht⟩) hS.2.2 d_M_good_148
            · have hg16 : gn = 16 := (nI_eq (by omega) (b := 16) (by decide)).mp c_14
              refine lv_aload_n hx hb d_M_good_58 rfl (lv_at hl 0 rfl) ?_
              refine lv_iconst (v := 2) hx hb d_M_good_59 (by decide) ?_
              refine ww_i (cV (As := [.int 2]) (rest := []) (C := "DangerTablesModel") 1 ⟨hx, hb, hml, hown, hts⟩ (c_M_refuse l g s.heap.size w mo ad t0 hd sn gn bn F 2 hM) k_759 k_756 k_7 k_758 kp_19 (by decide +kernel) ⟨Nat.le_of_ble_eq_true rfl, Nat.le_of_ble_eq_true rfl⟩ rfl rfl ⟨prW_blind _ _ _ _, hw.recv hK hM.1 rfl, prW_at hG hAB hS hw⟩ rfl hl.1 rfl (Nat.le_of_ble_eq_true rfl) d_M_good_60 ⟨Nat.le_of_ble_eq_true rfl, Nat.le_of_ble_eq_true rfl⟩) hw hS hA (fun r_25 w_25 H locs e_25 hw hS hz_25 hk_25 hg_25 => ?_)
              exact W.iret (v := r_25) hx hb hr (fun t ht hW => ⟨⟨r_25, w_25, rfl, Or.inr (Or.inr ⟨by rw [← sd_eq q_2, q_5, decide_eq_false c_7, q_10, q_13, q_2]; rfl, hg16, e_25.1, e_25.2⟩), ww_t ht hw⟩, hS.F ht⟩) hS.2.2 d_M_good_63
          · have q_13 := b2_f e_12 c_13
            refine lv_aload_n hx hb d_M_good_43 rfl (lv_at hl 0 rfl) ?_
            refine lv_iconst (v := 1) hx hb d_M_good_44 (by decide) ?_
            refine ww_i (cV (As := [.int 1]) (rest := []) (C := "DangerTablesModel") 1 ⟨hx, hb, hml, hown, hts⟩ (c_M_refuse l g s.heap.size w mo ad t0 hd sn gn bn F 1 hM) k_759 k_756 k_7 k_758 kp_19 (by decide +kernel) ⟨Nat.le_of_ble_eq_true rfl, Nat.le_of_ble_eq_true rfl⟩ rfl rfl ⟨prW_blind _ _ _ _, hw.recv hK hM.1 rfl, prW_at hG hAB hS hw⟩ rfl hl.1 rfl (Nat.le_of_ble_eq_true rfl) d_M_good_45 ⟨Nat.le_of_ble_eq_true rfl, Nat.le_of_ble_eq_true rfl⟩) hw hS hA (fun r_26 w_26 H locs e_26 hw hS hz_26 hk_26 hg_26 => ?_)
            exact W.iret (v := r_26) hx hb hr (fun t ht hW => ⟨⟨r_26, w_26, rfl, Or.inr (Or.inl ⟨by rw [q_13]; simp, e_26.1, e_26.2⟩), ww_t ht hw⟩, hS.F ht⟩) hS.2.2 d_M_good_48

set_option maxHeartbeats 4000000 in
set_option maxRecDepth 100000 in
theorem c_M_exempt (l : Launch) (g : GT) (sz : Nat) (w : Nat → Option va_E) (mo : Nat) (ad : Nat → Nat) (t0 hd : Int32) (sn gn bn : Nat) (F : Nat → Nat → Int32) (gd : Nat → GD) (u x y : Int32) (hM : isM g w mo ad t0 sn hd gn bn F) (hRG : RG gd gn F) : Met l y_M_exempt (.code y_M_exempt b_M_exempt 4 ((some .boolean)) :: GW) ({ frames := 1, cells := 0, slots := 0, locals := 21 }) (prW g sz [.ref mo, .int u, .int x, .int y] w) (qI g sz w (fun r w1 => ((inL u gn && isCls x && isCls y) = false ∧ r = 0 ∧ isM g w1 mo ad 0 sn hd gn bn F) ∨ ((inL u gn && isCls x && isCls y) = true ∧ ∃ n a b : Nat, u = nI n ∧ n < gn ∧ x = nI (a + 1) ∧ a < 9 ∧ y = nI (b + 1) ∧ b < 9 ∧ ((isEx (gd n).2.2.2.2 (prI x y) = true ∧ r = 0 ∧ isM g w1 mo ad 0 sn hd gn bn F) ∨ (isEx (gd n).2.2.2.2 (prI x y) = false ∧ r = 1 ∧ isM g w1 mo ad 0 sn hd gn bn (upd2 (upd2 F 8 (upd (F 8) ((81 * n) + (9 * a + b)) 1)) 8 (upd (upd (F 8) ((81 * n) + (9 * a + b)) 1) ((81 * n) + (9 * b + a)) 1))))))) 0 0 (gA w sz) := by
  refine Met.ofW (cc := b_M_exempt) (maxL := 4) (ret := (some .boolean)) (by decide) rfl ?_
  intro p e s m args below meth c s₁ B hml hv
  obtain ⟨rfl, hsz, hG, hw0⟩ := hv
  have hx := B.exec
  have hb := B.bytes
  have hr := B.returns
  have hts : ∀ w ∈ GW, w.before _ s = true := fun w h => atoms_spec (ws := .code y_M_exempt b_M_exempt 4 ((some .boolean)) :: GW) B.pre w (List.mem_cons_of_mem _ h)
  have hown : s.vm.findClass "DangerTablesModel" = some m.cls := findClass_of_methodNamed B.named
  have hlocks := B.notSynchronized
  have hf := hG.here
  have hK := hf.1
  subst hsz
  have hw := hw0.self s.heap.size
  have hAB : ∀ q, gA w s.heap.size q → gB g q := fun q h => h.elim (fun z => z.elim (fun _ he => hw0.inA he)) (fun h => Nat.le_trans hG.1 h)
  have hA : ∀ q, s.heap.size ≤ q → gA w s.heap.size q := fun q h => Or.inr h
  have hS : va_S (gA w s.heap.size) s.heap s.heap [] := va_S.rf
  have hl := lv_entry ([.ref mo, .int u, .int x, .int y]) (n := 4) (Nat.le_of_ble_eq_true rfl)
  rw [lg_entry_eq]
  generalize (lg_sl ([.ref mo, .int u, .int x, .int y]) ++ List.replicate (4 - (lg_sl ([.ref mo, .int u, .int x, .int y])).length) Slot.unset).toArray = ls at hl ⊢
  have hl : lv_has ls 4 [(0, .ref mo), (1, .int u), (2, .int x), (3, .int y)] := hl
  have hgn := hRG.1
  refine lv_aload_n hx hb d_M_exempt_0 rfl (lv_at hl 0 rfl) ?_
  refine lv_iconst (v := 0) hx hb d_M_exempt_1 (by decide) ?_
  refine ww_put (v := .int 0) (ty := .int) (C := R_M) (T := F_M) (N := 22) (ci := 5) (fs' := [.int 0, .ref (ad 0), .int (nI sn), .int hd, .ref (ad 1), .int (nI gn), .ref (ad 2), .ref (ad 3), .ref (ad 4), .ref (ad 5), .ref (ad 6), .ref (ad 7), .ref (ad 8), .int (nI bn), .ref (ad 9), .ref (ad 10), .ref (ad 11), .ref (ad 12), .ref (ad 13), .ref (ad 14), .ref (ad 15), .ref (ad 16)]) hx hb hts i_M ft_M ft_M_ok fn_M hown hK hw hS hM.1 rfl 0 (by decide) (hts _ k_655) (fun _ h9 => h9) rfl (by decide +kernel) rfl rfl (Nat.le_of_ble_eq_true rfl) rfl d_M_exempt_2 (fun H locs hw hS => ?_)
  obtain ⟨w_1, ew_1⟩ : ∃ zz9 : Nat → Option va_E, zz9 = va_up w mo (some (.inr (5, [.int 0, .ref (ad 0), .int (nI sn), .int hd, .ref (ad 1), .int (nI gn), .ref (ad 2), .ref (ad 3), .ref (ad 4), .ref (ad 5), .ref (ad 6), .ref (ad 7), .ref (ad 8), .int (nI bn), .ref (ad 9), .ref (ad 10), .ref (ad 11), .ref (ad 12), .ref (ad 13), .ref (ad 14), .ref (ad 15), .ref (ad 16)]))) := ⟨_, rfl⟩
  rw [← ew_1] at hw
  have hM_1 : isM g w_1 mo ad 0 sn hd gn bn F := by rw [ew_1]; exact isM_put hM
  refine lv_aload_n hx hb d_M_exempt_5 rfl (lv_at hl 0 rfl) ?_
  refine lv_iload_n hx hb d_M_exempt_6 rfl (lv_at hl 1 rfl) ?_
  refine wr_i (cV (As := [.int u]) (rest := []) (C := "DangerTablesModel") 1 ⟨hx, hb, hml, hown, hts⟩ (c_M_isGood l g w_1 mo ad 0 hd sn gn bn F u hM_1) k_767 k_764 k_7 k_766 kp_20 (by decide +kernel) ⟨Nat.le_of_ble_eq_true rfl, Nat.le_of_ble_eq_true rfl⟩ rfl rfl ⟨prR_blind _ _ _, hw.recv hK hM_1.1 rfl, prR_at hG hAB hS hw⟩ rfl hl.1 rfl (Nat.le_of_ble_eq_true rfl) d_M_exempt_7 ⟨Nat.le_of_ble_eq_true rfl, Nat.le_of_ble_eq_true rfl⟩) (fun r_2 e_2 => ?_)
  refine lv_if_eq (tgt := 45) hx hb d_M_exempt_10 (by decide) (fun c_3 => ?_) (fun c_3 => ?_)
  · have q_3 := b2_f e_2 c_3
    refine lv_iconst (v := 0) hx hb d_M_exempt_45 (by decide) ?_
    exact W.zret (v := 0) (ty := .boolean) hx hb hr rfl (fun t ht hW => ⟨⟨0, w_1, rfl, Or.inl ⟨by simp [q_3], rfl, hM_1⟩, ww_t ht hw⟩, hS.F ht⟩) hS.2.2 d_M_exempt_46
  · have q_3 := b2_t e_2 c_3
    refine lv_iload_n hx hb d_M_exempt_13 rfl (lv_at hl 2 rfl) ?_
    refine wr_i (cS (As := [.int x]) (rest := []) 1 ⟨hx, hb, hml, hown, hts⟩ (c_M_isClass l x) k_744 k_742 k_7 k_743 (by decide +kernel) ⟨Nat.le_of_ble_eq_true rfl, Nat.le_of_ble_eq_true rfl⟩ rfl rfl ⟨prN_blind _, fun _ _ _ => ⟨rfl, trivial⟩⟩ rfl hl.1 rfl (Nat.le_of_ble_eq_true rfl) d_M_exempt_14 ⟨Nat.le_of_ble_eq_true rfl, Nat.le_of_ble_eq_true rfl⟩) (fun r_4 e_4 => ?_)
    refine lv_if_eq (tgt := 45) hx hb d_M_exempt_17 (by decide) (fun c_5 => ?_) (fun c_5 => ?_)
    · have q_5 := b2_f e_4 c_5
      refine lv_iconst (v := 0) hx hb d_M_exempt_45 (by decide) ?_
      exact W.zret (v := 0) (ty := .boolean) hx hb hr rfl (fun t ht hW => ⟨⟨0, w_1, rfl, Or.inl ⟨by simp [q_3, q_5], rfl, hM_1⟩, ww_t ht hw⟩, hS.F ht⟩) hS.2.2 d_M_exempt_46
    · have q_5 := b2_t e_4 c_5
      refine lv_iload_n hx hb d_M_exempt_20 rfl (lv_at hl 3 rfl) ?_
      refine wr_i (cS (As := [.int y]) (rest := []) 1 ⟨hx, hb, hml, hown, hts⟩ (c_M_isClass l y) k_744 k_742 k_7 k_743 (by decide +kernel) ⟨Nat.le_of_ble_eq_true rfl, Nat.le_of_ble_eq_true rfl⟩ rfl rfl ⟨prN_blind _, fun _ _ _ => ⟨rfl, trivial⟩⟩ rfl hl.1 rfl (Nat.le_of_ble_eq_true rfl) d_M_exempt_21 ⟨Nat.le_of_ble_eq_true rfl, Nat.le_of_ble_eq_true rfl⟩) (fun r_6 e_6 => ?_)
      refine lv_if_eq (tgt := 45) hx hb d_M_exempt_24 (by decide) (fun c_7 => ?_) (fun c_7 => ?_)
      · have q_7 := b2_f e_6 c_7
        refine lv_iconst (v := 0) hx hb d_M_exempt_45 (by decide) ?_
        exact W.zret (v := 0) (ty := .boolean) hx hb hr rfl (fun t ht hW => ⟨⟨0, w_1, rfl, Or.inl ⟨by simp [q_3, q_5, q_7], rfl, hM_1⟩, ww_t ht hw⟩, hS.F ht⟩) hS.2.2 d_M_exempt_46
      · have q_7 := b2_t e_6 c_7
        obtain ⟨n, hn, hun⟩ := inL_of q_3 (by omega)
        obtain ⟨a, ha, hxa⟩ := isCls_of q_5
        obtain ⟨b, hb9, hyb⟩ := isCls_of q_7
        subst hun
        subst hxa
        subst hyb
        have hGn := hRG.2 n hn
        refine lv_aload_n hx hb d_M_exempt_27 rfl (lv_at hl 0 rfl) ?_
        refine ww_get (v := .ref (ad 8)) (C := R_M) (T := F_M) (N := 22) (ci := 5) hx hb hts i_M hown hK hw hM_1.1 rfl 12 (by decide) (hts _ k_667) (fun _ h9 => h9) rfl d_M_exempt_28 ?_
        refine lv_bipush (v := 81) hx hb d_M_exempt_31 (by decide) ?_
        refine lv_iload_n hx hb d_M_exempt_33 rfl (lv_at hl 1 rfl) ?_
        refine lv_imul hx hb d_M_exempt_34 ?_
        refine lv_topi (fun v_8 e_8 => ?_)
        obtain rfl : v_8 = nI (81 * n) := by rw [e_8]; exact pk_mul 81 n
        refine lv_iload_n hx hb d_M_exempt_35 rfl (lv_at hl 2 rfl) ?_
        refine lv_iload_n hx hb d_M_exempt_36 rfl (lv_at hl 3 rfl) ?_
        refine wr_i (cS (As := [.int (nI (a + 1)), .int (nI (b + 1))]) (rest := [.int (nI (81 * n)), .ref (ad 8)]) 2 ⟨hx, hb, hml, hown, hts⟩ (c_M_pair l (nI (a + 1)) (nI (b + 1))) k_747 k_745 k_7 k_746 (by decide +kernel) ⟨Nat.le_of_ble_eq_true rfl, Nat.le_of_ble_eq_true rfl⟩ rfl rfl ⟨prN_blind _, fun _ _ _ => ⟨rfl, trivial⟩⟩ rfl hl.1 rfl (Nat.le_of_ble_eq_true rfl) d_M_exempt_37 ⟨Nat.le_of_ble_eq_true rfl, Nat.le_of_ble_eq_true rfl⟩) (fun r_9 e_9 => ?_)
        obtain rfl : nI (9 * a + b) = r_9 := (e_9.trans (prM_nat ha hb9)).symm
        refine lv_iadd hx hb d_M_exempt_40 ?_
        refine lv_topi (fun v_10 e_10 => ?_)
        obtain rfl : v_10 = nI ((81 * n) + (9 * a + b)) := by rw [e_10]; exact nI_add (81 * n) (9 * a + b)
        refine ww_zald (v := (F 8) ((81 * n) + (9 * a + b))) hx hb hK hw 1 (show w_1 (ad 8) = some (cB g 1296 (F 8)) from hM_1.2.1 8 (by decide)) rfl (vp_in_nI (by omega) (by decide)) (by rw [nI_clamp (by omega)]) d_M_exempt_41 ?_
        refine lv_topi (fun v_11 e_11 => ?_)
        have e2_11 : v_11 = b2 (isEx (gd n).2.2.2.2 (prI (nI (a + 1)) (nI (b + 1)))) := e_11.trans (hGn.2.2.2.2.2.2 a b ha hb9)
        refine lv_if_eq (tgt := 47) hx hb d_M_exempt_42 (by decide) (fun c_12 => ?_) (fun c_12 => ?_)
        · have q_12 := b2_f e2_11 c_12
          refine lv_aload_n hx hb d_M_exempt_47 rfl (lv_at hl 0 rfl) ?_
          refine ww_get (v := .ref (ad 8)) (C := R_M) (T := F_M) (N := 22) (ci := 5) hx hb hts i_M hown hK hw hM_1.1 rfl 12 (by decide) (hts _ k_667) (fun _ h9 => h9) rfl d_M_exempt_48 ?_
          refine lv_bipush (v := 81) hx hb d_M_exempt_51 (by decide) ?_
          refine lv_iload_n hx hb d_M_exempt_53 rfl (lv_at hl 1 rfl) ?_
          refine lv_imul hx hb d_M_exempt_54 ?_
          refine lv_topi (fun v_13 e_13 => ?_)
          obtain rfl : v_13 = nI (81 * n) := by rw [e_13]; exact pk_mul 81 n
          refine lv_iload_n hx hb d_M_exempt_55 rfl (lv_at hl 2 rfl) ?_
          refine lv_iload_n hx hb d_M_exempt_56 rfl (lv_at hl 3 rfl) ?_
          refine wr_i (cS (As := [.int (nI (a + 1)), .int (nI (b + 1))]) (rest := [.int (nI (81 * n)), .ref (ad 8)]) 2 ⟨hx, hb, hml, hown, hts⟩ (c_M_pair l (nI (a + 1)) (nI (b + 1))) k_747 k_745 k_7 k_746 (by decide +kernel) ⟨Nat.le_of_ble_eq_true rfl, Nat.le_of_ble_eq_true rfl⟩ rfl rfl ⟨prN_blind _, fun _ _ _ => ⟨rfl, trivial⟩⟩ rfl hl.1 rfl (Nat.le_of_ble_eq_true rfl) d_M_exempt_57 ⟨Nat.le_of_ble_eq_true rfl, Nat.le_of_ble_eq_true rfl⟩) (fun r_14 e_14 => ?_)
          obtain rfl : nI (9 * a + b) = r_14 := (e_14.trans (prM_nat ha hb9)).symm
          refine lv_iadd hx hb d_M_exempt_60 ?_
          refine lv_topi (fun v_15 e_15 => ?_)
          obtain rfl : v_15 = nI ((81 * n) + (9 * a + b)) := by rw [e_15]; exact nI_add (81 * n) (9 * a + b)
          refine lv_iconst (v := 1) hx hb d_M_exempt_61 (by decide) ?_
          refine ww_zast hx hb hK hw hS 1 (show w_1 (ad 8) = some (cB g 1296 (F 8)) from hM_1.2.1 8 (by decide)) rfl (vp_in_nI (by omega) (by decide)) d_M_exempt_62 (fun H locs hw hS => ?_)
          rw [nI_clamp (show (81 * n) + (9 * a + b) < 2 ^ 31 by omega), nar_1] at hw
          obtain ⟨w_16, ew_16⟩ : ∃ zz9 : Nat → Option va_E, zz9 = va_up w_1 (ad 8) (some (cB g 1296 (upd (F 8) ((81 * n) + (9 * a + b)) 1))) := ⟨_, rfl⟩
          rw [← ew_16] at hw
          have hM_16 : isM g w_16 mo ad 0 sn hd gn bn (upd2 F 8 (upd (F 8) ((81 * n) + (9 * a + b)) 1)) := by rw [ew_16]; exact isM_arr 8 (by decide) hM_1
          refine lv_aload_n hx hb d_M_exempt_63 rfl (lv_at hl 0 rfl) ?_
          refine ww_get (v := .ref (ad 8)) (C := R_M) (T := F_M) (N := 22) (ci := 5) hx hb hts i_M hown hK hw hM_16.1 rfl 12 (by decide) (hts _ k_667) (fun _ h9 => h9) rfl d_M_exempt_64 ?_
          refine lv_bipush (v := 81) hx hb d_M_exempt_67 (by decide) ?_
          refine lv_iload_n hx hb d_M_exempt_69 rfl (lv_at hl 1 rfl) ?_
          refine lv_imul hx hb d_M_exempt_70 ?_
          refine lv_topi (fun v_17 e_17 => ?_)
          obtain rfl : v_17 = nI (81 * n) := by rw [e_17]; exact pk_mul 81 n
          refine lv_iload_n hx hb d_M_exempt_71 rfl (lv_at hl 3 rfl) ?_
          refine lv_iload_n hx hb d_M_exempt_72 rfl (lv_at hl 2 rfl) ?_
          refine wr_i (cS (As := [.int (nI (b + 1)), .int (nI (a + 1))]) (rest := [.int (nI (81 * n)), .ref (ad 8)]) 2 ⟨hx, hb, hml, hown, hts⟩ (c_M_pair l (nI (b + 1)) (nI (a + 1))) k_747 k_745 k_7 k_746 (by decide +kernel) ⟨Nat.le_of_ble_eq_true rfl, Nat.le_of_ble_eq_true rfl⟩ rfl rfl ⟨prN_blind _, fun _ _ _ => ⟨rfl, trivial⟩⟩ rfl hl.1 rfl (Nat.le_of_ble_eq_true rfl) d_M_exempt_73 ⟨Nat.le_of_ble_eq_true rfl, Nat.le_of_ble_eq_true rfl⟩) (fun r_18 e_18 => ?_)
          obtain rfl : nI (9 * b + a) = r_18 := (e_18.trans (prM_nat hb9 ha)).symm
          refine lv_iadd hx hb d_M_exempt_76 ?_
          refine lv_topi (fun v_19 e_19 => ?_)
          obtain rfl : v_19 = nI ((81 * n) + (9 * b + a)) := by rw [e_19]; exact nI_add (81 * n) (9 * b + a)
          refine lv_iconst (v := 1) hx hb d_M_exempt_77 (by decide) ?_
          refine ww_zast hx hb hK hw hS 1 (show w_16 (ad 8) = some (cB g 1296 (upd (F 8) ((81 * n) + (9 * a + b)) 1)) from hM_16.2.1 8 (by decide)) rfl (vp_in_nI (by omega) (by decide)) d_M_exempt_78 (fun H locs hw hS => ?_)
          rw [nI_clamp (show (81 * n) + (9 * b + a) < 2 ^ 31 by omega), nar_1] at hw
          obtain ⟨w_20, ew_20⟩ : ∃ zz9 : Nat → Option va_E, zz9 = va_up w_16 (ad 8) (some (cB g 1296 (upd (upd (F 8) ((81 * n) + (9 * a + b)) 1) ((81 * n) + (9 * b + a)) 1))) := ⟨_, rfl⟩
          rw [← ew_20] at hw
          have hM_20 : isM g w_20 mo ad 0 sn hd gn bn (upd2 (upd2 F 8 (upd (F 8) ((81 * n) + (9 * a + b)) 1)) 8 (upd (upd (F 8) ((81 * n) + (9 * a + b)) 1) ((81 * n) + (9 * b + a)) 1)) := by rw [ew_20]; exact isM_arr 8 (by decide) hM_16
          refine lv_iconst (v := 1) hx hb d_M_exempt_79 (by decide) ?_
          exact W.zret (v := 1) (ty := .boolean) hx hb hr rfl (fun t ht hW => ⟨⟨1, w_20, rfl, Or.inr ⟨by rw [q_3, q_5, q_7]; rfl, n, a, b, rfl, hn, rfl, ha, rfl, hb9, Or.inr ⟨q_12, rfl, hM_20⟩⟩, ww_t ht hw⟩, hS.F ht⟩) hS.2.2 d_M_exempt_80
        · have q_12 := b2_t e2_11 c_12
          refine lv_iconst (v := 0) hx hb d_M_exempt_45 (by decide) ?_
          exact W.zret (v := 0) (ty := .boolean) hx hb hr rfl (fun t ht hW => ⟨⟨0, w_1, rfl, Or.inr ⟨by rw [q_3, q_5, q_7]; rfl, n, a, b, rfl, hn, rfl, ha, rfl, hb9, Or.inl ⟨q_12, rfl, hM_1⟩⟩, ww_t ht hw⟩, hS.F ht⟩) hS.2.2 d_M_exempt_46

set_option maxHeartbeats 4000000 in
set_option maxRecDepth 100000 in
theorem c_M_adds (l : Launch) (g : GT) (sz : Nat) (w : Nat → Option va_E) (mo : Nat) (ad : Nat → Nat) (t0 hd : Int32) (sn gn bn : Nat) (F : Nat → Nat → Int32) (i n : Nat) (v x : Int32) (hM : isM g w mo ad t0 sn hd gn bn F) (hi : i < 12) (hn : n < 4) (h9 : F 9 i = nI n) : Met l y_M_adds (.code y_M_adds b_M_adds 4 (none) :: GW) ({ frames := 0, cells := 0, slots := 0, locals := 0 }) (prW g sz [.ref mo, .int (nI i), .int v, .int x] w) (qV g sz w (fun w1 => isM g w1 mo ad t0 sn hd gn bn (upd2 (upd2 (upd2 F 14 (upd (F 14) (4 * i + n) v)) 15 (upd (F 15) (4 * i + n) x)) 9 (upd (F 9) i (nI (n + 1)))))) 0 0 (gA w sz) := by
  refine Met.ofW (cc := b_M_adds) (maxL := 4) (ret := none) (by decide) rfl ?_
  intro p e s m args below meth c s₁ B hml hv
  obtain ⟨rfl, hsz, hG, hw0⟩ := hv
  have hx := B.exec
  have hb := B.bytes
  have hr := B.returns
  have hts : ∀ w ∈ GW, w.before _ s = true := fun w h => atoms_spec (ws := .code y_M_adds b_M_adds 4 (none) :: GW) B.pre w (List.mem_cons_of_mem _ h)
  have hown : s.vm.findClass "DangerTablesModel" = some m.cls := findClass_of_methodNamed B.named
  have hlocks := B.notSynchronized
  have hf := hG.here
  have hK := hf.1
  subst hsz
  have hw := hw0.self s.heap.size
  have hAB : ∀ q, gA w s.heap.size q → gB g q := fun q h => h.elim (fun z => z.elim (fun _ he => hw0.inA he)) (fun h => Nat.le_trans hG.1 h)
  have hA : ∀ q, s.heap.size ≤ q → gA w s.heap.size q := fun q h => Or.inr h
  have hS : va_S (gA w s.heap.size) s.heap s.heap [] := va_S.rf
  have hl := lv_entry ([.ref mo, .int (nI i), .int v, .int x]) (n := 4) (Nat.le_of_ble_eq_true rfl)
  rw [lg_entry_eq]
  generalize (lg_sl ([.ref mo, .int (nI i), .int v, .int x]) ++ List.replicate (4 - (lg_sl ([.ref mo, .int (nI i), .int v, .int x])).length) Slot.unset).toArray = ls at hl ⊢
  have hl : lv_has ls 4 [(0, .ref mo), (1, .int (nI i)), (2, .int v), (3, .int x)] := hl
  refine lv_aload_n hx hb d_M_adds_0 rfl (lv_at hl 0 rfl) ?_
  refine ww_get (v := .ref (ad 14)) (C := R_M) (T := F_M) (N := 22) (ci := 5) hx hb hts i_M hown hK hw hM.1 rfl 19 (by decide) (hts _ k_674) (fun _ h9 => h9) rfl d_M_adds_1 ?_
  refine lv_iconst (v := 4) hx hb d_M_adds_4 (by decide) ?_
  refine lv_iload_n hx hb d_M_adds_5 rfl (lv_at hl 1 rfl) ?_
  refine lv_imul hx hb d_M_adds_6 ?_
  refine lv_topi (fun v_1 e_1 => ?_)
  obtain rfl : v_1 = nI (4 * i) := by rw [e_1]; exact pk_mul 4 i
  refine lv_aload_n hx hb d_M_adds_7 rfl (lv_at hl 0 rfl) ?_
  refine ww_get (v := .ref (ad 9)) (C := R_M) (T := F_M) (N := 22) (ci := 5) hx hb hts i_M hown hK hw hM.1 rfl 14 (by decide) (hts _ k_669) (fun _ h9 => h9) rfl d_M_adds_8 ?_
  refine lv_iload_n hx hb d_M_adds_11 rfl (lv_at hl 1 rfl) ?_
  refine ww_iald (v := (F 9) i) hx hb hK hw 0 (show w (ad 9) = some (cA g 12 (F 9)) from hM.2.1 9 (by decide)) rfl (vp_in_nI (by omega) (by decide)) (by rw [nI_clamp (by omega)]) d_M_adds_12 ?_
  refine lv_topi (fun v_2 e_2 => ?_)
  obtain rfl : nI n = v_2 := (e_2.trans h9).symm
  refine lv_iadd hx hb d_M_adds_13 ?_
  refine lv_topi (fun v_3 e_3 => ?_)
  obtain rfl : v_3 = nI ((4 * i) + n) := by rw [e_3]; exact nI_add (4 * i) n
  refine lv_iload_n hx hb d_M_adds_14 rfl (lv_at hl 2 rfl) ?_
  refine ww_iast hx hb hK hw hS 0 (show w (ad 14) = some (cA g 48 (F 14)) from hM.2.1 14 (by decide)) rfl (vp_in_nI (by omega) (by decide)) d_M_adds_15 (fun H locs hw hS => ?_)
  rw [nI_clamp (show (4 * i) + n < 2 ^ 31 by omega)] at hw
  obtain ⟨w_4, ew_4⟩ : ∃ zz9 : Nat → Option va_E, zz9 = va_up w (ad 14) (some (cA g 48 (upd (F 14) ((4 * i) + n) v))) := ⟨_, rfl⟩
  rw [← ew_4] at hw
  have hM_4 : isM g w_4 mo ad t0 sn hd gn bn (upd2 F 14 (upd (F 14) ((4 * i) + n) v)) := by rw [ew_4]; exact isM_arr 14 (by decide) hM
  refine lv_aload_n hx hb d_M_adds_16 rfl (lv_at hl 0 rfl) ?_
  refine ww_get (v := .ref (ad 15)) (C := R_M) (T := F_M) (N := 22) (ci := 5) hx hb hts i_M hown hK hw hM_4.1 rfl 20 (by decide) (hts _ k_675) (fun _ h9 => h9) rfl d_M_adds_17 ?_
  refine lv_iconst (v := 4) hx hb d_M_adds_20 (by decide) ?_
  refine lv_iload_n hx hb d_M_adds_21 rfl (lv_at hl 1 rfl) ?_
  refine lv_imul hx hb d_M_adds_22 ?_
  refine lv_topi (fun v_5 e_5 => ?_)
  obtain rfl : v_5 = nI (4 * i) := by rw [e_5]; exact pk_mul 4 i
  refine lv_aload_n hx hb d_M_adds_23 rfl (lv_at hl 0 rfl) ?_
  refine ww_get (v := .ref (ad 9)) (C := R_M) (T := F_M) (N := 22) (ci := 5) hx hb hts i_M hown hK hw hM_4.1 rfl 14 (by decide) (hts _ k_669) (fun _ h9 => h9) rfl d_M_adds_24 ?_
  refine lv_iload_n hx hb d_M_adds_27 rfl (lv_at hl 1 rfl) ?_
  refine ww_iald (v := (F 9) i) hx hb hK hw 0 (show w_4 (ad 9) = some (cA g 12 (F 9)) from hM_4.2.1 9 (by decide)) rfl (vp_in_nI (by omega) (by decide)) (by rw [nI_clamp (by omega)]) d_M_adds_28 ?_
  refine lv_topi (fun v_6 e_6 => ?_)
  obtain rfl : nI n = v_6 := (e_6.trans h9).symm
  refine lv_iadd hx hb d_M_adds_29 ?_
  refine lv_topi (fun v_7 e_7 => ?_)
  obtain rfl : v_7 = nI ((4 * i) + n) := by rw [e_7]; exact nI_add (4 * i) n
  refine lv_iload_n hx hb d_M_adds_30 rfl (lv_at hl 3 rfl) ?_
  refine ww_iast hx hb hK hw hS 0 (show w_4 (ad 15) = some (cA g 48 (F 15)) from hM_4.2.1 15 (by decide)) rfl (vp_in_nI (by omega) (by decide)) d_M_adds_31 (fun H locs hw hS => ?_)
  rw [nI_clamp (show (4 * i) + n < 2 ^ 31 by omega)] at hw
  obtain ⟨w_8, ew_8⟩ : ∃ zz9 : Nat → Option va_E, zz9 = va_up w_4 (ad 15) (some (cA g 48 (upd (F 15) ((4 * i) + n) x))) := ⟨_, rfl⟩
  rw [← ew_8] at hw
  have hM_8 : isM g w_8 mo ad t0 sn hd gn bn (upd2 (upd2 F 14 (upd (F 14) ((4 * i) + n) v)) 15 (upd (F 15) ((4 * i) + n) x)) := by rw [ew_8]; exact isM_arr 15 (by decide) hM_4
  refine lv_aload_n hx hb d_M_adds_32 rfl (lv_at hl 0 rfl) ?_
  refine ww_get (v := .ref (ad 9)) (C := R_M) (T := F_M) (N := 22) (ci := 5) hx hb hts i_M hown hK hw hM_8.1 rfl 14 (by decide) (hts _ k_669) (fun _ h9 => h9) rfl d_M_adds_33 ?_
  refine lv_iload_n hx hb d_M_adds_36 rfl (lv_at hl 1 rfl) ?_
  refine lv_dup2_11 hx hb d_M_adds_37 rfl rfl ?_
  refine ww_iald (v := (F 9) i) hx hb hK hw 0 (show w_8 (ad 9) = some (cA g 12 (F 9)) from hM_8.2.1 9 (by decide)) rfl (vp_in_nI (by omega) (by decide)) (by rw [nI_clamp (by omega)]) d_M_adds_38 ?_
  refine lv_topi (fun v_9 e_9 => ?_)
  obtain rfl : nI n = v_9 := (e_9.trans h9).symm
  refine lv_iconst (v := 1) hx hb d_M_adds_39 (by decide) ?_
  refine lv_iadd hx hb d_M_adds_40 ?_
  refine lv_topi (fun v_10 e_10 => ?_)
  obtain rfl : v_10 = nI (n + 1) := by rw [e_10]; exact nI_add n 1
  refine ww_iast hx hb hK hw hS 0 (show w_8 (ad 9) = some (cA g 12 (F 9)) from hM_8.2.1 9 (by decide)) rfl (vp_in_nI (by omega) (by decide)) d_M_adds_41 (fun H locs hw hS => ?_)
  rw [nI_clamp (show i < 2 ^ 31 by omega)] at hw
  obtain ⟨w_11, ew_11⟩ : ∃ zz9 : Nat → Option va_E, zz9 = va_up w_8 (ad 9) (some (cA g 12 (upd (F 9) i (nI (n + 1))))) := ⟨_, rfl⟩
  rw [← ew_11] at hw
  have hM_11 : isM g w_11 mo ad t0 sn hd gn bn (upd2 (upd2 (upd2 F 14 (upd (F 14) ((4 * i) + n) v)) 15 (upd (F 15) ((4 * i) + n) x)) 9 (upd (F 9) i (nI (n + 1)))) := by rw [ew_11]; exact isM_arr 9 (by decide) hM_8
  exact W.vret hx hb hr (fun t ht hW => ⟨⟨w_11, rfl, hM_11, ww_t ht hw⟩, hS.F ht⟩) hS.2.2 d_M_adds_42

set_option maxHeartbeats 4000000 in
set_option maxRecDepth 100000 in
theorem c_M_box (l : Launch) (g : GT) (sz : Nat) (w : Nat → Option va_E) (mo : Nat) (ad : Nat → Nat) (t0 hd : Int32) (sn gn bn : Nat) (F : Nat → Nat → Int32) (u v : Int32) (hM : isM g w mo ad t0 sn hd gn bn F) (hbn : bn ≤ 12) (h9 : bn < 12 → F 9 bn = 0) : Met l y_M_box (.code y_M_box b_M_box 3 ((some .int)) :: GW) ({ frames := 1, cells := 0, slots := 0, locals := 23 }) (prW g sz [.ref mo, .int u, .int v] w) (qI g sz w (fun r w1 => ((inL u gn && inR v 1 30000) = true ∧ bn < 12 ∧ r = nI bn ∧ isM g w1 mo ad 0 sn hd gn (bn + 1) (upd2 (upd2 (upd2 F 14 (upd (F 14) (4 * bn + 0) u)) 15 (upd (F 15) (4 * bn + 0) v)) 9 (upd (F 9) bn (nI (0 + 1))))) ∨ ((inL u gn && inR v 1 30000) = false ∧ r = 0 ∧ isM g w1 mo ad 1 sn hd gn bn F) ∨ ((inL u gn && inR v 1 30000) = true ∧ bn = 12 ∧ r = 0 ∧ isM g w1 mo ad 2 sn hd gn bn F))) 0 0 (gA w sz) := by
  refine Met.ofW (cc := b_M_box) (maxL := 3) (ret := (some .int)) (by decide) rfl ?_
  intro p e s m args below meth c s₁ B hml hv
  obtain ⟨rfl, hsz, hG, hw0⟩ := hv
  have hx := B.exec
  have hb := B.bytes
  have hr := B.returns
  have hts : ∀ w ∈ GW, w.before _ s = true := fun w h => atoms_spec (ws := .code y_M_box b_M_box 3 ((some .int)) :: GW) B.pre w (List.mem_cons_of_mem _ h)
  have hown : s.vm.findClass "DangerTablesModel" = some m.cls := findClass_of_methodNamed B.named
  have hlocks := B.notSynchronized
  have hf := hG.here
  have hK := hf.1
  subst hsz
  have hw := hw0.self s.heap.size
  have hAB : ∀ q, gA w s.heap.size q → gB g q := fun q h => h.elim (fun z => z.elim (fun _ he => hw0.inA he)) (fun h => Nat.le_trans hG.1 h)
  have hA : ∀ q, s.heap.size ≤ q → gA w s.heap.size q := fun q h => Or.inr h
  have hS : va_S (gA w s.heap.size) s.heap s.heap [] := va_S.rf
  have hl := lv_entry ([.ref mo, .int u, .int v]) (n := 3) (Nat.le_of_ble_eq_true rfl)
  rw [lg_entry_eq]
  generalize (lg_sl ([.ref mo, .int u, .int v]) ++ List.replicate (3 - (lg_sl ([.ref mo, .int u, .int v])).length) Slot.unset).toArray = ls at hl ⊢
  have hl : lv_has ls 3 [(0, .ref mo), (1, .int u), (2, .int v)] := hl
  refine lv_aload_n hx hb d_M_box_0 rfl (lv_at hl 0 rfl) ?_
  refine lv_iload_n hx hb d_M_box_1 rfl (lv_at hl 1 rfl) ?_
  refine wr_i (cV (As := [.int u]) (rest := []) (C := "DangerTablesModel") 1 ⟨hx, hb, hml, hown, hts⟩ (c_M_isGood l g w mo ad t0 hd sn gn bn F u hM) k_767 k_764 k_7 k_766 kp_20 (by decide +kernel) ⟨Nat.le_of_ble_eq_true rfl, Nat.le_of_ble_eq_true rfl⟩ rfl rfl ⟨prR_blind _ _ _, hw.recv hK hM.1 rfl, prR_at hG hAB hS hw⟩ rfl hl.1 rfl (Nat.le_of_ble_eq_true rfl) d_M_box_2 ⟨Nat.le_of_ble_eq_true rfl, Nat.le_of_ble_eq_true rfl⟩) (fun r_1 e_1 => ?_)
  refine lv_if_eq (tgt := 19) hx hb d_M_box_5 (by decide) (fun c_2 => ?_) (fun c_2 => ?_)
  · have q_2 := b2_f e_1 c_2
    refine lv_aload_n hx hb d_M_box_19 rfl (lv_at hl 0 rfl) ?_
    refine lv_iconst (v := 1) hx hb d_M_box_20 (by decide) ?_
    refine ww_i (cV (As := [.int 1]) (rest := []) (C := "DangerTablesModel") 1 ⟨hx, hb, hml, hown, hts⟩ (c_M_refuse l g s.heap.size w mo ad t0 hd sn gn bn F 1 hM) k_759 k_756 k_7 k_758 kp_19 (by decide +kernel) ⟨Nat.le_of_ble_eq_true rfl, Nat.le_of_ble_eq_true rfl⟩ rfl rfl ⟨prW_blind _ _ _ _, hw.recv hK hM.1 rfl, prW_at hG hAB hS hw⟩ rfl hl.1 rfl (Nat.le_of_ble_eq_true rfl) d_M_box_21 ⟨Nat.le_of_ble_eq_true rfl, Nat.le_of_ble_eq_true rfl⟩) hw hS hA (fun r_3 w_3 H locs e_3 hw hS hz_3 hk_3 hg_3 => ?_)
    exact W.iret (v := r_3) hx hb hr (fun t ht hW => ⟨⟨r_3, w_3, rfl, Or.inr (Or.inl ⟨by simp [q_2], e_3.1, e_3.2⟩), ww_t ht hw⟩, hS.F ht⟩) hS.2.2 d_M_box_24
  · have q_2 := b2_t e_1 c_2
    refine lv_iload_n hx hb d_M_box_8 rfl (lv_at hl 2 rfl) ?_
    refine lv_iconst (v := 1) hx hb d_M_box_9 (by decide) ?_
    refine lv_sipush (v := 30000) hx hb d_M_box_10 (by decide) ?_
    refine wr_i (cS (As := [.int v, .int 1, .int 30000]) (rest := []) 3 ⟨hx, hb, hml, hown, hts⟩ (c_M_in l v 1 30000) k_733 k_731 k_7 k_732 (by decide +kernel) ⟨Nat.le_of_ble_eq_true rfl, Nat.le_of_ble_eq_true rfl⟩ rfl rfl ⟨prN_blind _, fun _ _ _ => ⟨rfl, trivial⟩⟩ rfl hl.1 rfl (Nat.le_of_ble_eq_true rfl) d_M_box_13 ⟨Nat.le_of_ble_eq_true rfl, Nat.le_of_ble_eq_true rfl⟩) (fun r_4 e_4 => ?_)
    refine lv_if_ne (tgt := 25) hx hb d_M_box_16 (by decide) (fun c_5 => ?_) (fun c_5 => ?_)
    · have q_5 := b2_t e_4 c_5
      refine lv_aload_n hx hb d_M_box_25 rfl (lv_at hl 0 rfl) ?_
      refine ww_get (v := .int (nI bn)) (C := R_M) (T := F_M) (N := 22) (ci := 5) hx hb hts i_M hown hK hw hM.1 rfl 13 (by decide) (hts _ k_668) (fun _ h9 => h9) rfl d_M_box_26 ?_
      refine lv_bipush (v := 12) hx hb d_M_box_29 (by decide) ?_
      refine lv_icmp_ne (tgt := 40) hx hb d_M_box_31 (by decide) (fun c_6 => ?_) (fun c_6 => ?_)
      · have hb12 : bn < 12 := by rcases Nat.lt_or_ge bn 12 with h | h; exact h; exact absurd (by rw [show bn = 12 by omega]; rfl) c_6
        refine lv_aload_n hx hb d_M_box_40 rfl (lv_at hl 0 rfl) ?_
        refine lv_iconst (v := 0) hx hb d_M_box_41 (by decide) ?_
        refine ww_put (v := .int 0) (ty := .int) (C := R_M) (T := F_M) (N := 22) (ci := 5) (fs' := [.int 0, .ref (ad 0), .int (nI sn), .int hd, .ref (ad 1), .int (nI gn), .ref (ad 2), .ref (ad 3), .ref (ad 4), .ref (ad 5), .ref (ad 6), .ref (ad 7), .ref (ad 8), .int (nI bn), .ref (ad 9), .ref (ad 10), .ref (ad 11), .ref (ad 12), .ref (ad 13), .ref (ad 14), .ref (ad 15), .ref (ad 16)]) hx hb hts i_M ft_M ft_M_ok fn_M hown hK hw hS hM.1 rfl 0 (by decide) (hts _ k_655) (fun _ h9 => h9) rfl (by decide +kernel) rfl rfl (Nat.le_of_ble_eq_true rfl) rfl d_M_box_42 (fun H locs hw hS => ?_)
        obtain ⟨w_7, ew_7⟩ : ∃ zz9 : Nat → Option va_E, zz9 = va_up w mo (some (.inr (5, [.int 0, .ref (ad 0), .int (nI sn), .int hd, .ref (ad 1), .int (nI gn), .ref (ad 2), .ref (ad 3), .ref (ad 4), .ref (ad 5), .ref (ad 6), .ref (ad 7), .ref (ad 8), .int (nI bn), .ref (ad 9), .ref (ad 10), .ref (ad 11), .ref (ad 12), .ref (ad 13), .ref (ad 14), .ref (ad 15), .ref (ad 16)]))) := ⟨_, rfl⟩
        rw [← ew_7] at hw
        have hM_7 : isM g w_7 mo ad 0 sn hd gn bn F := by rw [ew_7]; exact isM_put hM
        refine lv_aload_n hx hb d_M_box_45 rfl (lv_at hl 0 rfl) ?_
        refine lv_aload_n hx hb d_M_box_46 rfl (lv_at hl 0 rfl) ?_
        refine ww_get (v := .int (nI bn)) (C := R_M) (T := F_M) (N := 22) (ci := 5) hx hb hts i_M hown hK hw hM_7.1 rfl 13 (by decide) (hts _ k_668) (fun _ h9 => h9) rfl d_M_box_47 ?_
        refine lv_iload_n hx hb d_M_box_50 rfl (lv_at hl 1 rfl) ?_
        refine lv_iload_n hx hb d_M_box_51 rfl (lv_at hl 2 rfl) ?_
        refine ww_v (cV (As := [.int (nI bn), .int u, .int v]) (rest := []) (C := "DangerTablesModel") 3 ⟨hx, hb, hml, hown, hts⟩ (c_M_adds l g H.size w_7 mo ad 0 hd sn gn bn F bn 0 u v hM_7 (by omega) (by omega) (h9 (by omega))) k_775 k_772 k_7 k_774 kp_21 (by decide +kernel) ⟨Nat.le_of_ble_eq_true rfl, Nat.le_of_ble_eq_true rfl⟩ rfl rfl ⟨prW_blind _ _ _ _, hw.recv hK hM_7.1 rfl, prW_at hG hAB hS hw⟩ rfl hl.1 rfl (Nat.le_of_ble_eq_true rfl) d_M_box_52 ⟨Nat.le_of_ble_eq_true rfl, Nat.le_of_ble_eq_true rfl⟩) hw hS hA (fun w_8 H locs e_8 hw hS hz_8 hk_8 hg_8 => ?_)
        refine lv_aload_n hx hb d_M_box_55 rfl (lv_at hl 0 rfl) ?_
        refine lv_dup hx hb d_M_box_56 rfl ?_
        refine ww_get (v := .int (nI bn)) (C := R_M) (T := F_M) (N := 22) (ci := 5) hx hb hts i_M hown hK hw e_8.1 rfl 13 (by decide) (hts _ k_668) (fun _ h9 => h9) rfl d_M_box_57 ?_
        refine lv_iconst (v := 1) hx hb d_M_box_60 (by decide) ?_
        refine lv_iadd hx hb d_M_box_61 ?_
        refine lv_topi (fun v_9 e_9 => ?_)
        obtain rfl : v_9 = nI (bn + 1) := by rw [e_9]; exact nI_add bn 1
        refine ww_put (v := .int (nI (bn + 1))) (ty := .int) (C := R_M) (T := F_M) (N := 22) (ci := 5) (fs' := [.int 0, .ref (ad 0), .int (nI sn), .int hd, .ref (ad 1), .int (nI gn), .ref (ad 2), .ref (ad 3), .ref (ad 4), .ref (ad 5), .ref (ad 6), .ref (ad 7), .ref (ad 8), .int (nI (bn + 1)), .ref (ad 9), .ref (ad 10), .ref (ad 11), .ref (ad 12), .ref (ad 13), .ref (ad 14), .ref (ad 15), .ref (ad 16)]) hx hb hts i_M ft_M ft_M_ok fn_M hown hK hw hS e_8.1 rfl 13 (by decide) (hts _ k_668) (fun _ h9 => h9) rfl (by decide +kernel) rfl rfl (Nat.le_of_ble_eq_true rfl) rfl d_M_box_62 (fun H locs hw hS => ?_)
        obtain ⟨w_10, ew_10⟩ : ∃ zz9 : Nat → Option va_E, zz9 = va_up w_8 mo (some (.inr (5, [.int 0, .ref (ad 0), .int (nI sn), .int hd, .ref (ad 1), .int (nI gn), .ref (ad 2), .ref (ad 3), .ref (ad 4), .ref (ad 5), .ref (ad 6), .ref (ad 7), .ref (ad 8), .int (nI (bn + 1)), .ref (ad 9), .ref (ad 10), .ref (ad 11), .ref (ad 12), .ref (ad 13), .ref (ad 14), .ref (ad 15), .ref (ad 16)]))) := ⟨_, rfl⟩
        rw [← ew_10] at hw
        have hM_10 : isM g w_10 mo ad 0 sn hd gn (bn + 1) (upd2 (upd2 (upd2 F 14 (upd (F 14) (4 * bn + 0) u)) 15 (upd (F 15) (4 * bn + 0) v)) 9 (upd (F 9) bn (nI (0 + 1)))) := by rw [ew_10]; exact isM_put e_8
        refine lv_aload_n hx hb d_M_box_65 rfl (lv_at hl 0 rfl) ?_
        refine ww_get (v := .int (nI (bn + 1))) (C := R_M) (T := F_M) (N := 22) (ci := 5) hx hb hts i_M hown hK hw hM_10.1 rfl 13 (by decide) (hts _ k_668) (fun _ h9 => h9) rfl d_M_box_66 ?_
        refine lv_iconst (v := 1) hx hb d_M_box_69 (by decide) ?_
        refine lv_isub hx hb d_M_box_70 ?_
        refine lv_topi (fun v_11 e_11 => ?_)
        obtain rfl : v_11 = nI ((bn + 1) - 1) := by rw [e_11]; exact pk_sub (a := bn + 1) (b := 1) (by omega)
        have hlast : nI ((bn + 1) - 1) = nI bn := rfl
        exact W.iret (v := (nI bn)) hx hb hr (fun t ht hW => ⟨⟨(nI bn), w_10, rfl, Or.inl ⟨by rw [q_2, q_5]; rfl, hb12, rfl, hM_10⟩, ww_t ht hw⟩, hS.F ht⟩) hS.2.2 d_M_box_71
      · have hb12 : bn = 12 := (nI_eq (by omega) (b := 12) (by decide)).mp c_6
        refine lv_aload_n hx hb d_M_box_34 rfl (lv_at hl 0 rfl) ?_
        refine lv_iconst (v := 2) hx hb d_M_box_35 (by decide) ?_
        refine ww_i (cV (As := [.int 2]) (rest := []) (C := "DangerTablesModel") 1 ⟨hx, hb, hml, hown, hts⟩ (c_M_refuse l g s.heap.size w mo ad t0 hd sn gn bn F 2 hM) k_759 k_756 k_7 k_758 kp_19 (by decide +kernel) ⟨Nat.le_of_ble_eq_true rfl, Nat.le_of_ble_eq_true rfl⟩ rfl rfl ⟨prW_blind _ _ _ _, hw.recv hK hM.1 rfl, prW_at hG hAB hS hw⟩ rfl hl.1 rfl (Nat.le_of_ble_eq_true rfl) d_M_box_36 ⟨Nat.le_of_ble_eq_true rfl, Nat.le_of_ble_eq_true rfl⟩) hw hS hA (fun r_12 w_12 H locs e_12 hw hS hz_12 hk_12 hg_12 => ?_)
        exact W.iret (v := r_12) hx hb hr (fun t ht hW => ⟨⟨r_12, w_12, rfl, Or.inr (Or.inr ⟨by rw [q_2, q_5]; rfl, hb12, e_12.1, e_12.2⟩), ww_t ht hw⟩, hS.F ht⟩) hS.2.2 d_M_box_39
    · have q_5 := b2_f e_4 c_5
      refine lv_aload_n hx hb d_M_box_19 rfl (lv_at hl 0 rfl) ?_
      refine lv_iconst (v := 1) hx hb d_M_box_20 (by decide) ?_
      refine ww_i (cV (As := [.int 1]) (rest := []) (C := "DangerTablesModel") 1 ⟨hx, hb, hml, hown, hts⟩ (c_M_refuse l g s.heap.size w mo ad t0 hd sn gn bn F 1 hM) k_759 k_756 k_7 k_758 kp_19 (by decide +kernel) ⟨Nat.le_of_ble_eq_true rfl, Nat.le_of_ble_eq_true rfl⟩ rfl rfl ⟨prW_blind _ _ _ _, hw.recv hK hM.1 rfl, prW_at hG hAB hS hw⟩ rfl hl.1 rfl (Nat.le_of_ble_eq_true rfl) d_M_box_21 ⟨Nat.le_of_ble_eq_true rfl, Nat.le_of_ble_eq_true rfl⟩) hw hS hA (fun r_13 w_13 H locs e_13 hw hS hz_13 hk_13 hg_13 => ?_)
      exact W.iret (v := r_13) hx hb hr (fun t ht hW => ⟨⟨r_13, w_13, rfl, Or.inr (Or.inl ⟨by simp [q_2, q_5], e_13.1, e_13.2⟩), ww_t ht hw⟩, hS.F ht⟩) hS.2.2 d_M_box_24

set_option maxHeartbeats 4000000 in
set_option maxRecDepth 100000 in
theorem c_M_also (l : Launch) (g : GT) (sz : Nat) (w : Nat → Option va_E) (mo : Nat) (ad : Nat → Nat) (t0 hd : Int32) (sn gn bn : Nat) (F : Nat → Nat → Int32) (gd : Nat → GD) (br : List BR) (u v x : Int32) (hM : isM g w mo ad t0 sn hd gn bn F) (hRG : RG gd gn F) (hRB : RBs F gn bn br) : Met l y_M_also (.code y_M_also b_M_also 4 ((some .int)) :: GW) ({ frames := 1, cells := 0, slots := 0, locals := 24 }) (prW g sz [.ref mo, .int u, .int v, .int x] w) (qI g sz w (fun r w1 => ((inL u bn && inL v gn && inR x 1 30000) = true ∧ ∃ (i : Nat) (b : BR), u = nI i ∧ i < bn ∧ br[i]? = some b ∧ hsB (b.1.map (prOf gd)) v = false ∧ b.2.1 = -1 ∧ b.1.length < 4 ∧ r = nI (b.1.length + 1) ∧ isM g w1 mo ad 0 sn hd gn bn (upd2 (upd2 (upd2 F 14 (upd (F 14) (4 * i + b.1.length) v)) 15 (upd (F 15) (4 * i + b.1.length) x)) 9 (upd (F 9) i (nI (b.1.length + 1))))) ∨ (((inL u bn && inL v gn && inR x 1 30000) = false ∨ ((inL u bn && inL v gn && inR x 1 30000) = true ∧ ∃ (i : Nat) (b : BR), u = nI i ∧ i < bn ∧ br[i]? = some b ∧ hsB (b.1.map (prOf gd)) v = true)) ∧ r = 0 ∧ isM g w1 mo ad 1 sn hd gn bn F) ∨ ((inL u bn && inL v gn && inR x 1 30000) = true ∧ ∃ (i : Nat) (b : BR), u = nI i ∧ i < bn ∧ br[i]? = some b ∧ hsB (b.1.map (prOf gd)) v = false ∧ (¬ b.2.1 = -1 ∨ ¬ b.1.length < 4) ∧ r = 0 ∧ isM g w1 mo ad 2 sn hd gn bn F))) 0 0 (gA w sz) := by
  refine Met.ofW (cc := b_M_also) (maxL := 4) (ret := (some .int)) (by decide) rfl ?_
  intro p e s m args below meth c s₁ B hml hv
  obtain ⟨rfl, hsz, hG, hw0⟩ := hv
  have hx := B.exec
  have hb := B.bytes
  have hr := B.returns
  have hts : ∀ w ∈ GW, w.before _ s = true := fun w h => atoms_spec (ws := .code y_M_also b_M_also 4 ((some .int)) :: GW) B.pre w (List.mem_cons_of_mem _ h)
  have hown : s.vm.findClass "DangerTablesModel" = some m.cls := findClass_of_methodNamed B.named
  have hlocks := B.notSynchronized
  have hf := hG.here
  have hK := hf.1
  subst hsz
  have hw := hw0.self s.heap.size
  have hAB : ∀ q, gA w s.heap.size q → gB g q := fun q h => h.elim (fun z => z.elim (fun _ he => hw0.inA he)) (fun h => Nat.le_trans hG.1 h)
  have hA : ∀ q, s.heap.size ≤ q → gA w s.heap.size q := fun q h => Or.inr h
  have hS : va_S (gA w s.heap.size) s.heap s.heap [] := va_S.rf
  have hl := lv_entry ([.ref mo, .int u, .int v, .int x]) (n := 4) (Nat.le_of_ble_eq_true rfl)
  rw [lg_entry_eq]
  generalize (lg_sl ([.ref mo, .int u, .int v, .int x]) ++ List.replicate (4 - (lg_sl ([.ref mo, .int u, .int v, .int x])).length) Slot.unset).toArray = ls at hl ⊢
  have hl : lv_has ls 4 [(0, .ref mo), (1, .int u), (2, .int v), (3, .int x)] := hl
  have hgn := hRG.1
  have hbn := hRB.1
  have hbl := hRB.2.1
  refine lv_aload_n hx hb d_M_also_0 rfl (lv_at hl 0 rfl) ?_
  refine lv_iload_n hx hb d_M_also_1 rfl (lv_at hl 1 rfl) ?_
  refine wr_i (cV (As := [.int u]) (rest := []) (C := "DangerTablesModel") 1 ⟨hx, hb, hml, hown, hts⟩ (c_M_isBox l g w mo ad t0 hd sn gn bn F u hM) k_783 k_780 k_7 k_782 kp_22 (by decide +kernel) ⟨Nat.le_of_ble_eq_true rfl, Nat.le_of_ble_eq_true rfl⟩ rfl rfl ⟨prR_blind _ _ _, hw.recv hK hM.1 rfl, prR_at hG hAB hS hw⟩ rfl hl.1 rfl (Nat.le_of_ble_eq_true rfl) d_M_also_2 ⟨Nat.le_of_ble_eq_true rfl, Nat.le_of_ble_eq_true rfl⟩) (fun r_1 e_1 => ?_)
  refine lv_if_eq (tgt := 36) hx hb d_M_also_5 (by decide) (fun c_2 => ?_) (fun c_2 => ?_)
  · have q_2 := b2_f e_1 c_2
    refine lv_aload_n hx hb d_M_also_36 rfl (lv_at hl 0 rfl) ?_
    refine lv_iconst (v := 1) hx hb d_M_also_37 (by decide) ?_
    refine ww_i (cV (As := [.int 1]) (rest := []) (C := "DangerTablesModel") 1 ⟨hx, hb, hml, hown, hts⟩ (c_M_refuse l g s.heap.size w mo ad t0 hd sn gn bn F 1 hM) k_759 k_756 k_7 k_758 kp_19 (by decide +kernel) ⟨Nat.le_of_ble_eq_true rfl, Nat.le_of_ble_eq_true rfl⟩ rfl rfl ⟨prW_blind _ _ _ _, hw.recv hK hM.1 rfl, prW_at hG hAB hS hw⟩ rfl hl.1 rfl (Nat.le_of_ble_eq_true rfl) d_M_also_38 ⟨Nat.le_of_ble_eq_true rfl, Nat.le_of_ble_eq_true rfl⟩) hw hS hA (fun r_3 w_3 H locs e_3 hw hS hz_3 hk_3 hg_3 => ?_)
    exact W.iret (v := r_3) hx hb hr (fun t ht hW => ⟨⟨r_3, w_3, rfl, Or.inr (Or.inl ⟨Or.inl (by simp [q_2]), e_3.1, e_3.2⟩), ww_t ht hw⟩, hS.F ht⟩) hS.2.2 d_M_also_41
  · have q_2 := b2_t e_1 c_2
    refine lv_aload_n hx hb d_M_also_8 rfl (lv_at hl 0 rfl) ?_
    refine lv_iload_n hx hb d_M_also_9 rfl (lv_at hl 2 rfl) ?_
    refine wr_i (cV (As := [.int v]) (rest := []) (C := "DangerTablesModel") 1 ⟨hx, hb, hml, hown, hts⟩ (c_M_isGood l g w mo ad t0 hd sn gn bn F v hM) k_767 k_764 k_7 k_766 kp_20 (by decide +kernel) ⟨Nat.le_of_ble_eq_true rfl, Nat.le_of_ble_eq_true rfl⟩ rfl rfl ⟨prR_blind _ _ _, hw.recv hK hM.1 rfl, prR_at hG hAB hS hw⟩ rfl hl.1 rfl (Nat.le_of_ble_eq_true rfl) d_M_also_10 ⟨Nat.le_of_ble_eq_true rfl, Nat.le_of_ble_eq_true rfl⟩) (fun r_4 e_4 => ?_)
    refine lv_if_eq (tgt := 36) hx hb d_M_also_13 (by decide) (fun c_5 => ?_) (fun c_5 => ?_)
    · have q_5 := b2_f e_4 c_5
      refine lv_aload_n hx hb d_M_also_36 rfl (lv_at hl 0 rfl) ?_
      refine lv_iconst (v := 1) hx hb d_M_also_37 (by decide) ?_
      refine ww_i (cV (As := [.int 1]) (rest := []) (C := "DangerTablesModel") 1 ⟨hx, hb, hml, hown, hts⟩ (c_M_refuse l g s.heap.size w mo ad t0 hd sn gn bn F 1 hM) k_759 k_756 k_7 k_758 kp_19 (by decide +kernel) ⟨Nat.le_of_ble_eq_true rfl, Nat.le_of_ble_eq_true rfl⟩ rfl rfl ⟨prW_blind _ _ _ _, hw.recv hK hM.1 rfl, prW_at hG hAB hS hw⟩ rfl hl.1 rfl (Nat.le_of_ble_eq_true rfl) d_M_also_38 ⟨Nat.le_of_ble_eq_true rfl, Nat.le_of_ble_eq_true rfl⟩) hw hS hA (fun r_6 w_6 H locs e_6 hw hS hz_6 hk_6 hg_6 => ?_)
      exact W.iret (v := r_6) hx hb hr (fun t ht hW => ⟨⟨r_6, w_6, rfl, Or.inr (Or.inl ⟨Or.inl (by simp [q_2, q_5]), e_6.1, e_6.2⟩), ww_t ht hw⟩, hS.F ht⟩) hS.2.2 d_M_also_41
    · have q_5 := b2_t e_4 c_5
      refine lv_iload_n hx hb d_M_also_16 rfl (lv_at hl 3 rfl) ?_
      refine lv_iconst (v := 1) hx hb d_M_also_17 (by decide) ?_
      refine lv_sipush (v := 30000) hx hb d_M_also_18 (by decide) ?_
      refine wr_i (cS (As := [.int x, .int 1, .int 30000]) (rest := []) 3 ⟨hx, hb, hml, hown, hts⟩ (c_M_in l x 1 30000) k_733 k_731 k_7 k_732 (by decide +kernel) ⟨Nat.le_of_ble_eq_true rfl, Nat.le_of_ble_eq_true rfl⟩ rfl rfl ⟨prN_blind _, fun _ _ _ => ⟨rfl, trivial⟩⟩ rfl hl.1 rfl (Nat.le_of_ble_eq_true rfl) d_M_also_21 ⟨Nat.le_of_ble_eq_true rfl, Nat.le_of_ble_eq_true rfl⟩) (fun r_7 e_7 => ?_)
      refine lv_if_eq (tgt := 36) hx hb d_M_also_24 (by decide) (fun c_8 => ?_) (fun c_8 => ?_)
      · have q_8 := b2_f e_7 c_8
        refine lv_aload_n hx hb d_M_also_36 rfl (lv_at hl 0 rfl) ?_
        refine lv_iconst (v := 1) hx hb d_M_also_37 (by decide) ?_
        refine ww_i (cV (As := [.int 1]) (rest := []) (C := "DangerTablesModel") 1 ⟨hx, hb, hml, hown, hts⟩ (c_M_refuse l g s.heap.size w mo ad t0 hd sn gn bn F 1 hM) k_759 k_756 k_7 k_758 kp_19 (by decide +kernel) ⟨Nat.le_of_ble_eq_true rfl, Nat.le_of_ble_eq_true rfl⟩ rfl rfl ⟨prW_blind _ _ _ _, hw.recv hK hM.1 rfl, prW_at hG hAB hS hw⟩ rfl hl.1 rfl (Nat.le_of_ble_eq_true rfl) d_M_also_38 ⟨Nat.le_of_ble_eq_true rfl, Nat.le_of_ble_eq_true rfl⟩) hw hS hA (fun r_9 w_9 H locs e_9 hw hS hz_9 hk_9 hg_9 => ?_)
        exact W.iret (v := r_9) hx hb hr (fun t ht hW => ⟨⟨r_9, w_9, rfl, Or.inr (Or.inl ⟨Or.inl (by simp [q_2, q_5, q_8]), e_9.1, e_9.2⟩), ww_t ht hw⟩, hS.F ht⟩) hS.2.2 d_M_also_41
      · have q_8 := b2_t e_7 c_8
        obtain ⟨i, hi, hui⟩ := inL_of q_2 (by omega)
        subst hui
        obtain ⟨b, hb0⟩ : ∃ b, br[i]? = some b := ⟨_, List.getElem?_eq_getElem (by omega)⟩
        have hB := hRB.2.2 i b hb0
        obtain ⟨hB1, hB9, hB10, hB13, hBz, hBp⟩ := id hB
        refine lv_aload_n hx hb d_M_also_27 rfl (lv_at hl 0 rfl) ?_
        refine lv_iload_n hx hb d_M_also_28 rfl (lv_at hl 1 rfl) ?_
        refine lv_iload_n hx hb d_M_also_29 rfl (lv_at hl 2 rfl) ?_
        refine wr_i (cV (As := [.int (nI i), .int v]) (rest := []) (C := "DangerTablesModel") 2 ⟨hx, hb, hml, hown, hts⟩ (c_M_has l g w mo ad t0 hd sn gn bn F gd i b v hM hRG (by omega) hB) k_787 k_784 k_7 k_786 kp_23 (by decide +kernel) ⟨Nat.le_of_ble_eq_true rfl, Nat.le_of_ble_eq_true rfl⟩ rfl rfl ⟨prR_blind _ _ _, hw.recv hK hM.1 rfl, prR_at hG hAB hS hw⟩ rfl hl.1 rfl (Nat.le_of_ble_eq_true rfl) d_M_also_30 ⟨Nat.le_of_ble_eq_true rfl, Nat.le_of_ble_eq_true rfl⟩) (fun r_10 e_10 => ?_)
        refine lv_if_eq (tgt := 42) hx hb d_M_also_33 (by decide) (fun c_11 => ?_) (fun c_11 => ?_)
        · have q_11 := b2_f e_10 c_11
          refine lv_aload_n hx hb d_M_also_42 rfl (lv_at hl 0 rfl) ?_
          refine ww_get (v := .ref (ad 10)) (C := R_M) (T := F_M) (N := 22) (ci := 5) hx hb hts i_M hown hK hw hM.1 rfl 15 (by decide) (hts _ k_670) (fun _ h9 => h9) rfl d_M_also_43 ?_
          refine lv_iload_n hx hb d_M_also_46 rfl (lv_at hl 1 rfl) ?_
          refine ww_iald (v := (F 10) i) hx hb hK hw 0 (show w (ad 10) = some (cA g 12 (F 10)) from hM.2.1 10 (by decide)) rfl (vp_in_nI (by omega) (by decide)) (by rw [nI_clamp (by omega)]) d_M_also_47 ?_
          refine lv_topi (fun v_12 e_12 => ?_)
          obtain rfl : b.2.1 = v_12 := (e_12.trans hB10).symm
          refine lv_iconst (v := -1) hx hb d_M_also_48 (by decide) ?_
          refine lv_icmp_ne (tgt := 62) hx hb d_M_also_49 (by decide) (fun c_13 => ?_) (fun c_13 => ?_)
          · refine lv_aload_n hx hb d_M_also_62 rfl (lv_at hl 0 rfl) ?_
            refine lv_iconst (v := 2) hx hb d_M_also_63 (by decide) ?_
            refine ww_i (cV (As := [.int 2]) (rest := []) (C := "DangerTablesModel") 1 ⟨hx, hb, hml, hown, hts⟩ (c_M_refuse l g s.heap.size w mo ad t0 hd sn gn bn F 2 hM) k_759 k_756 k_7 k_758 kp_19 (by decide +kernel) ⟨Nat.le_of_ble_eq_true rfl, Nat.le_of_ble_eq_true rfl⟩ rfl rfl ⟨prW_blind _ _ _ _, hw.recv hK hM.1 rfl, prW_at hG hAB hS hw⟩ rfl hl.1 rfl (Nat.le_of_ble_eq_true rfl) d_M_also_64 ⟨Nat.le_of_ble_eq_true rfl, Nat.le_of_ble_eq_true rfl⟩) hw hS hA (fun r_14 w_14 H locs e_14 hw hS hz_14 hk_14 hg_14 => ?_)
            exact W.iret (v := r_14) hx hb hr (fun t ht hW => ⟨⟨r_14, w_14, rfl, Or.inr (Or.inr ⟨by rw [q_2, q_5, q_8]; rfl, i, b, rfl, hi, hb0, q_11, Or.inl c_13, e_14.1, e_14.2⟩), ww_t ht hw⟩, hS.F ht⟩) hS.2.2 d_M_also_67
          · refine lv_aload_n hx hb d_M_also_52 rfl (lv_at hl 0 rfl) ?_
            refine ww_get (v := .ref (ad 9)) (C := R_M) (T := F_M) (N := 22) (ci := 5) hx hb hts i_M hown hK hw hM.1 rfl 14 (by decide) (hts _ k_669) (fun _ h9 => h9) rfl d_M_also_53 ?_
            refine lv_iload_n hx hb d_M_also_56 rfl (lv_at hl 1 rfl) ?_
            refine ww_iald (v := (F 9) i) hx hb hK hw 0 (show w (ad 9) = some (cA g 12 (F 9)) from hM.2.1 9 (by decide)) rfl (vp_in_nI (by omega) (by decide)) (by rw [nI_clamp (by omega)]) d_M_also_57 ?_
            refine lv_topi (fun v_15 e_15 => ?_)
            obtain rfl : nI b.1.length = v_15 := (e_15.trans hB9).symm
            refine lv_iconst (v := 4) hx hb d_M_also_58 (by decide) ?_
            refine lv_icmp_ne (tgt := 68) hx hb d_M_also_59 (by decide) (fun c_16 => ?_) (fun c_16 => ?_)
            · have hl4 : b.1.length < 4 := by rcases Nat.lt_or_ge b.1.length 4 with h | h; exact h; exact absurd (by rw [show b.1.length = 4 by omega]; rfl) c_16
              refine lv_aload_n hx hb d_M_also_68 rfl (lv_at hl 0 rfl) ?_
              refine lv_iconst (v := 0) hx hb d_M_also_69 (by decide) ?_
              refine ww_put (v := .int 0) (ty := .int) (C := R_M) (T := F_M) (N := 22) (ci := 5) (fs' := [.int 0, .ref (ad 0), .int (nI sn), .int hd, .ref (ad 1), .int (nI gn), .ref (ad 2), .ref (ad 3), .ref (ad 4), .ref (ad 5), .ref (ad 6), .ref (ad 7), .ref (ad 8), .int (nI bn), .ref (ad 9), .ref (ad 10), .ref (ad 11), .ref (ad 12), .ref (ad 13), .ref (ad 14), .ref (ad 15), .ref (ad 16)]) hx hb hts i_M ft_M ft_M_ok fn_M hown hK hw hS hM.1 rfl 0 (by decide) (hts _ k_655) (fun _ h9 => h9) rfl (by decide +kernel) rfl rfl (Nat.le_of_ble_eq_true rfl) rfl d_M_also_70 (fun H locs hw hS => ?_)
              obtain ⟨w_17, ew_17⟩ : ∃ zz9 : Nat → Option va_E, zz9 = va_up w mo (some (.inr (5, [.int 0, .ref (ad 0), .int (nI sn), .int hd, .ref (ad 1), .int (nI gn), .ref (ad 2), .ref (ad 3), .ref (ad 4), .ref (ad 5), .ref (ad 6), .ref (ad 7), .ref (ad 8), .int (nI bn), .ref (ad 9), .ref (ad 10), .ref (ad 11), .ref (ad 12), .ref (ad 13), .ref (ad 14), .ref (ad 15), .ref (ad 16)]))) := ⟨_, rfl⟩
              rw [← ew_17] at hw
              have hM_17 : isM g w_17 mo ad 0 sn hd gn bn F := by rw [ew_17]; exact isM_put hM
              refine lv_aload_n hx hb d_M_also_73 rfl (lv_at hl 0 rfl) ?_
              refine lv_iload_n hx hb d_M_also_74 rfl (lv_at hl 1 rfl) ?_
              refine lv_iload_n hx hb d_M_also_75 rfl (lv_at hl 2 rfl) ?_
              refine lv_iload_n hx hb d_M_also_76 rfl (lv_at hl 3 rfl) ?_
              refine ww_v (cV (As := [.int (nI i), .int v, .int x]) (rest := []) (C := "DangerTablesModel") 3 ⟨hx, hb, hml, hown, hts⟩ (c_M_adds l g H.size w_17 mo ad 0 hd sn gn bn F i b.1.length v x hM_17 (by omega) hl4 hB9) k_775 k_772 k_7 k_774 kp_21 (by decide +kernel) ⟨Nat.le_of_ble_eq_true rfl, Nat.le_of_ble_eq_true rfl⟩ rfl rfl ⟨prW_blind _ _ _ _, hw.recv hK hM_17.1 rfl, prW_at hG hAB hS hw⟩ rfl hl.1 rfl (Nat.le_of_ble_eq_true rfl) d_M_also_77 ⟨Nat.le_of_ble_eq_true rfl, Nat.le_of_ble_eq_true rfl⟩) hw hS hA (fun w_18 H locs e_18 hw hS hz_18 hk_18 hg_18 => ?_)
              refine lv_aload_n hx hb d_M_also_80 rfl (lv_at hl 0 rfl) ?_
              refine ww_get (v := .ref (ad 9)) (C := R_M) (T := F_M) (N := 22) (ci := 5) hx hb hts i_M hown hK hw e_18.1 rfl 14 (by decide) (hts _ k_669) (fun _ h9 => h9) rfl d_M_also_81 ?_
              refine lv_iload_n hx hb d_M_also_84 rfl (lv_at hl 1 rfl) ?_
              refine ww_iald (v := (upd (F 9) i (nI (b.1.length + 1))) i) hx hb hK hw 0 (show w_18 (ad 9) = some (cA g 12 (upd (F 9) i (nI (b.1.length + 1)))) from e_18.2.1 9 (by decide)) rfl (vp_in_nI (by omega) (by decide)) (by rw [nI_clamp (by omega)]) d_M_also_85 ?_
              refine lv_topi (fun v_19 e_19 => ?_)
              exact W.iret (v := v_19) hx hb hr (fun t ht hW => ⟨⟨v_19, w_18, rfl, Or.inl ⟨by rw [q_2, q_5, q_8]; rfl, i, b, rfl, hi, hb0, q_11, c_13, hl4, by rw [e_19, pk_us], e_18⟩, ww_t ht hw⟩, hS.F ht⟩) hS.2.2 d_M_also_86
            · refine lv_aload_n hx hb d_M_also_62 rfl (lv_at hl 0 rfl) ?_
              refine lv_iconst (v := 2) hx hb d_M_also_63 (by decide) ?_
              refine ww_i (cV (As := [.int 2]) (rest := []) (C := "DangerTablesModel") 1 ⟨hx, hb, hml, hown, hts⟩ (c_M_refuse l g s.heap.size w mo ad t0 hd sn gn bn F 2 hM) k_759 k_756 k_7 k_758 kp_19 (by decide +kernel) ⟨Nat.le_of_ble_eq_true rfl, Nat.le_of_ble_eq_true rfl⟩ rfl rfl ⟨prW_blind _ _ _ _, hw.recv hK hM.1 rfl, prW_at hG hAB hS hw⟩ rfl hl.1 rfl (Nat.le_of_ble_eq_true rfl) d_M_also_64 ⟨Nat.le_of_ble_eq_true rfl, Nat.le_of_ble_eq_true rfl⟩) hw hS hA (fun r_20 w_20 H locs e_20 hw hS hz_20 hk_20 hg_20 => ?_)
              exact W.iret (v := r_20) hx hb hr (fun t ht hW => ⟨⟨r_20, w_20, rfl, Or.inr (Or.inr ⟨by rw [q_2, q_5, q_8]; rfl, i, b, rfl, hi, hb0, q_11, Or.inr (by rw [(nI_eq (by omega) (b := 4) (by decide)).mp c_16]; decide), e_20.1, e_20.2⟩), ww_t ht hw⟩, hS.F ht⟩) hS.2.2 d_M_also_67
        · have q_11 := b2_t e_10 c_11
          refine lv_aload_n hx hb d_M_also_36 rfl (lv_at hl 0 rfl) ?_
          refine lv_iconst (v := 1) hx hb d_M_also_37 (by decide) ?_
          refine ww_i (cV (As := [.int 1]) (rest := []) (C := "DangerTablesModel") 1 ⟨hx, hb, hml, hown, hts⟩ (c_M_refuse l g s.heap.size w mo ad t0 hd sn gn bn F 1 hM) k_759 k_756 k_7 k_758 kp_19 (by decide +kernel) ⟨Nat.le_of_ble_eq_true rfl, Nat.le_of_ble_eq_true rfl⟩ rfl rfl ⟨prW_blind _ _ _ _, hw.recv hK hM.1 rfl, prW_at hG hAB hS hw⟩ rfl hl.1 rfl (Nat.le_of_ble_eq_true rfl) d_M_also_38 ⟨Nat.le_of_ble_eq_true rfl, Nat.le_of_ble_eq_true rfl⟩) hw hS hA (fun r_21 w_21 H locs e_21 hw hS hz_21 hk_21 hg_21 => ?_)
          exact W.iret (v := r_21) hx hb hr (fun t ht hW => ⟨⟨r_21, w_21, rfl, Or.inr (Or.inl ⟨Or.inr ⟨by rw [q_2, q_5, q_8]; rfl, i, b, rfl, hi, hb0, q_11⟩, e_21.1, e_21.2⟩), ww_t ht hw⟩, hS.F ht⟩) hS.2.2 d_M_also_41

