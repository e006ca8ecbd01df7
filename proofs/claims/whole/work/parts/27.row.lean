/-! READING A TEXT: a row, and all rows -/
theorem nI_nm1 {p : Nat} (h : p < 2 ^ 31) : ¬ nI p = -1 := fun z => nI_pos h (by rw [z]; decide)
set_option maxHeartbeats 4000000 in
set_option maxRecDepth 100000 in
theorem c_U_firstWrongPlaceOfRow (l : Launch) (g : GT) (sz : Nat) (w : Nat → Option va_E) (a sg fo n q : Nat) (f ff : Nat → Int32) (hu : w a = some (cU sg (nI n) fo)) (hs : w sg = some (cA g 300 f)) (hn : n ≤ 300) (hq : 4 * q < n) (hf0 : w fo = some (cA g 45 ff)) (htab : ∀ j : Nat, j < 45 → ff j = tabAt f q j) : Met l y_U_firstWrongPlaceOfRow (.code y_U_firstWrongPlaceOfRow b_U_firstWrongPlaceOfRow 5 ((some .int)) :: GW) ({ frames := 1, cells := 0, slots := 0, locals := 23 }) (prW g sz [.ref a, .int (nI (4 * q))] w) (qI g sz w (fun r w1 => (r = -1 ∧ 4 * q + 3 < n ∧ okPl f (4 * q) = true ∧ okPl f (4 * q + 1) = true ∧ okPl f (4 * q + 2) = true ∧ okPl f (4 * q + 3) = true ∧ w1 = va_up w fo (some (cA g 45 (upd ff (prI (f (4 * q) - 48) (f (4 * q + 1) - 48)).toNatClampNeg (f (4 * q + 2) - 48))))) ∨ (∃ p : Nat, 4 * q ≤ p ∧ p ≤ 4 * q + 3 ∧ p ≤ n ∧ r = nI p ∧ (∀ t : Nat, 4 * q ≤ t → t < p → okPl f t = true) ∧ (p < n → okPl f p = false) ∧ w1 = w))) 0 0 (gA w sz) := by
  refine Met.ofW (cc := b_U_firstWrongPlaceOfRow) (maxL := 5) (ret := (some .int)) (by decide) rfl ?_
  intro p e s m args below meth c s₁ B hml hv
  obtain ⟨rfl, hsz, hG, hw0⟩ := hv
  have hx := B.exec
  have hb := B.bytes
  have hr := B.returns
  have hts : ∀ w ∈ GW, w.before _ s = true := fun w h => atoms_spec (ws := .code y_U_firstWrongPlaceOfRow b_U_firstWrongPlaceOfRow 5 ((some .int)) :: GW) B.pre w (List.mem_cons_of_mem _ h)
  have hown : s.vm.findClass "DangerTables$RuleText" = some m.cls := findClass_of_methodNamed B.named
  have hlocks := B.notSynchronized
  have hf := hG.here
  have hK := hf.1
  subst hsz
  have hw := hw0.self s.heap.size
  have hAB : ∀ q, gA w s.heap.size q → gB g q := fun q h => h.elim (fun z => z.elim (fun _ he => hw0.inA he)) (fun h => Nat.le_trans hG.1 h)
  have hA : ∀ q, s.heap.size ≤ q → gA w s.heap.size q := fun q h => Or.inr h
  have hS : va_S (gA w s.heap.size) s.heap s.heap [] := va_S.rf
  have hl := lv_entry ([.ref a, .int (nI (4 * q))]) (n := 5) (Nat.le_of_ble_eq_true rfl)
  rw [lg_entry_eq]
  generalize (lg_sl ([.ref a, .int (nI (4 * q))]) ++ List.replicate (5 - (lg_sl ([.ref a, .int (nI (4 * q))])).length) Slot.unset).toArray = ls at hl ⊢
  have hl : lv_has ls 5 [(0, .ref a), (1, .int (nI (4 * q)))] := hl
  refine lv_aload_n hx hb d_U_firstWrongPlaceOfRow_0 rfl (lv_at hl 0 rfl) ?_
  refine lv_iload_n hx hb d_U_firstWrongPlaceOfRow_1 rfl (lv_at hl 1 rfl) ?_
  refine wr_i (cV (As := [.int (nI (4 * q))]) (rest := []) (C := "DangerTables$RuleText") 1 ⟨hx, hb, hml, hown, hts⟩ (c_U_digitAt l g w a sg fo n (4 * q) f hu hs hn (by omega)) k_123 k_120 k_2 k_122 kp_1 (by decide +kernel) ⟨Nat.le_of_ble_eq_true rfl, Nat.le_of_ble_eq_true rfl⟩ rfl rfl ⟨prR_blind _ _ _, hw.recv hK hu rfl, prR_at hG hAB hS hw⟩ rfl hl.1 rfl (Nat.le_of_ble_eq_true rfl) d_U_firstWrongPlaceOfRow_2 ⟨Nat.le_of_ble_eq_true rfl, Nat.le_of_ble_eq_true rfl⟩) (fun r_1 e_1 => ?_)
  refine lv_istore_n (lv' := [(2, .int r_1), (0, .ref a), (1, .int (nI (4 * q)))]) hx hb d_U_firstWrongPlaceOfRow_5 rfl hl (by decide) rfl (fun ls hl => ?_)
  refine lv_iload_n hx hb d_U_firstWrongPlaceOfRow_6 rfl (lv_at hl 0 rfl) ?_
  refine wr_i (cSN (As := [.int r_1]) (rest := []) 1 ⟨hx, hb, hml, hown, hts⟩ (c_T_isClass l r_1) k_126 (hf.2.1 _ x_124) k_1 k_125 (by decide +kernel) ⟨Nat.le_of_ble_eq_true rfl, Nat.le_of_ble_eq_true rfl⟩ rfl rfl ⟨prN_blind _, fun _ _ _ => ⟨rfl, trivial⟩⟩ rfl hl.1 rfl (Nat.le_of_ble_eq_true rfl) d_U_firstWrongPlaceOfRow_7 ⟨Nat.le_of_ble_eq_true rfl, Nat.le_of_ble_eq_true rfl⟩) (fun r_2 e_2 => ?_)
  refine lv_if_ne (tgt := 15) hx hb d_U_firstWrongPlaceOfRow_10 (by decide) (fun c_3 => ?_) (fun c_3 => ?_)
  · have q_3 := b2_t e_2 c_3
    obtain ⟨hp1, hd1⟩ := dg_cls (f := f) (n := n) (p := 4 * q) (by rw [← e_1]; exact q_3)
    rw [← e_1] at hd1
    have ho0 : okPl f (4 * q) = true := by rw [okPl_0, ← hd1]; exact q_3
    refine lv_aload_n hx hb d_U_firstWrongPlaceOfRow_15 rfl (lv_at hl 1 rfl) ?_
    refine lv_iload_n hx hb d_U_firstWrongPlaceOfRow_16 rfl (lv_at hl 2 rfl) ?_
    refine lv_iconst (v := 1) hx hb d_U_firstWrongPlaceOfRow_17 (by decide) ?_
    refine lv_iadd hx hb d_U_firstWrongPlaceOfRow_18 ?_
    refine lv_topi (fun v_4 e_4 => ?_)
    obtain rfl : v_4 = nI ((4 * q) + 1) := by rw [e_4]; exact nI_add (4 * q) 1
    refine wr_i (cV (As := [.int (nI ((4 * q) + 1))]) (rest := []) (C := "DangerTables$RuleText") 1 ⟨hx, hb, hml, hown, hts⟩ (c_U_digitAt l g w a sg fo n (4 * q + 1) f hu hs hn (by omega)) k_123 k_120 k_2 k_122 kp_1 (by decide +kernel) ⟨Nat.le_of_ble_eq_true rfl, Nat.le_of_ble_eq_true rfl⟩ rfl rfl ⟨prR_blind _ _ _, hw.recv hK hu rfl, prR_at hG hAB hS hw⟩ rfl hl.1 rfl (Nat.le_of_ble_eq_true rfl) d_U_firstWrongPlaceOfRow_19 ⟨Nat.le_of_ble_eq_true rfl, Nat.le_of_ble_eq_true rfl⟩) (fun r_5 e_5 => ?_)
    refine lv_istore_n (lv' := [(3, .int r_5), (2, .int r_1), (0, .ref a), (1, .int (nI (4 * q)))]) hx hb d_U_firstWrongPlaceOfRow_22 rfl hl (by decide) rfl (fun ls hl => ?_)
    refine lv_iload_n hx hb d_U_firstWrongPlaceOfRow_23 rfl (lv_at hl 0 rfl) ?_
    refine wr_i (cSN (As := [.int r_5]) (rest := []) 1 ⟨hx, hb, hml, hown, hts⟩ (c_T_isClass l r_5) k_126 (hf.2.1 _ x_124) k_1 k_125 (by decide +kernel) ⟨Nat.le_of_ble_eq_true rfl, Nat.le_of_ble_eq_true rfl⟩ rfl rfl ⟨prN_blind _, fun _ _ _ => ⟨rfl, trivial⟩⟩ rfl hl.1 rfl (Nat.le_of_ble_eq_true rfl) d_U_firstWrongPlaceOfRow_24 ⟨Nat.le_of_ble_eq_true rfl, Nat.le_of_ble_eq_true rfl⟩) (fun r_6 e_6 => ?_)
    refine lv_if_eq (tgt := 44) hx hb d_U_firstWrongPlaceOfRow_27 (by decide) (fun c_7 => ?_) (fun c_7 => ?_)
    · have q_7 := b2_f e_6 c_7
      refine lv_iload_n hx hb d_U_firstWrongPlaceOfRow_44 rfl (lv_at hl 3 rfl) ?_
      refine lv_iconst (v := 1) hx hb d_U_firstWrongPlaceOfRow_45 (by decide) ?_
      refine lv_iadd hx hb d_U_firstWrongPlaceOfRow_46 ?_
      refine lv_topi (fun v_8 e_8 => ?_)
      obtain rfl : v_8 = nI ((4 * q) + 1) := by rw [e_8]; exact nI_add (4 * q) 1
      exact W.iret (v := (nI ((4 * q) + 1))) hx hb hr (fun t ht hW => ⟨⟨(nI ((4 * q) + 1)), w, rfl, Or.inr ⟨4 * q + 1, by omega, by omega, by omega, rfl, fun t h1 h2 => by rcases (show t = 4 * q by omega) with rfl <;> assumption, fun hh => by rw [okPl_1, dg_ncls (by rw [← e_5]; exact q_7) hh]; rfl, rfl⟩, ww_t ht hw⟩, hS.F ht⟩) hS.2.2 d_U_firstWrongPlaceOfRow_47
    · have q_7 := b2_t e_6 c_7
      obtain ⟨hp2, hd2⟩ := dg_cls (f := f) (n := n) (p := 4 * q + 1) (by rw [← e_5]; exact q_7)
      rw [← e_5] at hd2
      obtain ⟨j, hj, ej⟩ := prI_in q_3 q_7
      refine lv_aload_n hx hb d_U_firstWrongPlaceOfRow_30 rfl (lv_at hl 2 rfl) ?_
      refine ww_get (v := .ref fo) (C := R_U) (T := F_U) (N := 3) (ci := 4) hx hb hts i_U hown hK hw hu rfl 2 (by decide) (hts _ k_39) (fun _ h9 => h9) rfl d_U_firstWrongPlaceOfRow_31 ?_
      refine lv_iload_n hx hb d_U_firstWrongPlaceOfRow_34 rfl (lv_at hl 1 rfl) ?_
      refine lv_iload_n hx hb d_U_firstWrongPlaceOfRow_35 rfl (lv_at hl 0 rfl) ?_
      refine wr_i (cSN (As := [.int r_1, .int r_5]) (rest := [.ref fo]) 2 ⟨hx, hb, hml, hown, hts⟩ (c_T_pairNumber l r_1 r_5) k_129 (hf.2.1 _ x_127) k_1 k_128 (by decide +kernel) ⟨Nat.le_of_ble_eq_true rfl, Nat.le_of_ble_eq_true rfl⟩ rfl rfl ⟨prN_blind _, fun _ _ _ => ⟨rfl, trivial⟩⟩ rfl hl.1 rfl (Nat.le_of_ble_eq_true rfl) d_U_firstWrongPlaceOfRow_36 ⟨Nat.le_of_ble_eq_true rfl, Nat.le_of_ble_eq_true rfl⟩) (fun r_9 e_9 => ?_)
      refine ww_iald (v := ff j) hx hb hK hw 0 hf0 rfl (by rw [e_9, ej]; exact vp_in_nI hj (by decide)) (by rw [e_9, ej, nI_clamp (by omega)]) d_U_firstWrongPlaceOfRow_39 ?_
      refine lv_topi (fun v_10 e_10 => ?_)
      refine lv_iconst (v := -1) hx hb d_U_firstWrongPlaceOfRow_40 (by decide) ?_
      refine lv_icmp_eq (tgt := 48) hx hb d_U_firstWrongPlaceOfRow_41 (by decide) (fun c_11 => ?_) (fun c_11 => ?_)
      · have ho1 : okPl f (4 * q + 1) = true := by rw [okPl_1, ← hd1, ← hd2, ej, nI_clamp (by omega), ← htab j hj, ← e_10, decide_eq_true c_11, Bool.and_true]; exact q_7
        refine lv_aload_n hx hb d_U_firstWrongPlaceOfRow_48 rfl (lv_at hl 2 rfl) ?_
        refine lv_iload_n hx hb d_U_firstWrongPlaceOfRow_49 rfl (lv_at hl 3 rfl) ?_
        refine lv_iconst (v := 2) hx hb d_U_firstWrongPlaceOfRow_50 (by decide) ?_
        refine lv_iadd hx hb d_U_firstWrongPlaceOfRow_51 ?_
        refine lv_topi (fun v_12 e_12 => ?_)
        obtain rfl : v_12 = nI ((4 * q) + 2) := by rw [e_12]; exact nI_add (4 * q) 2
        refine wr_i (cV (As := [.int (nI ((4 * q) + 2))]) (rest := []) (C := "DangerTables$RuleText") 1 ⟨hx, hb, hml, hown, hts⟩ (c_U_digitAt l g w a sg fo n (4 * q + 2) f hu hs hn (by omega)) k_123 k_120 k_2 k_122 kp_1 (by decide +kernel) ⟨Nat.le_of_ble_eq_true rfl, Nat.le_of_ble_eq_true rfl⟩ rfl rfl ⟨prR_blind _ _ _, hw.recv hK hu rfl, prR_at hG hAB hS hw⟩ rfl hl.1 rfl (Nat.le_of_ble_eq_true rfl) d_U_firstWrongPlaceOfRow_52 ⟨Nat.le_of_ble_eq_true rfl, Nat.le_of_ble_eq_true rfl⟩) (fun r_13 e_13 => ?_)
        refine lv_istore (lv' := [(4, .int r_13), (3, .int r_5), (2, .int r_1), (0, .ref a), (1, .int (nI (4 * q)))]) hx hb d_U_firstWrongPlaceOfRow_55 hl (by decide) rfl (fun ls hl => ?_)
        refine lv_iload hx hb d_U_firstWrongPlaceOfRow_57 (lv_at hl 0 rfl) ?_
        refine lv_if_lt (tgt := 68) hx hb d_U_firstWrongPlaceOfRow_59 (by decide) (fun c_14 => ?_) (fun c_14 => ?_)
        · refine lv_iload_n hx hb d_U_firstWrongPlaceOfRow_68 rfl (lv_at hl 4 rfl) ?_
          refine lv_iconst (v := 2) hx hb d_U_firstWrongPlaceOfRow_69 (by decide) ?_
          refine lv_iadd hx hb d_U_firstWrongPlaceOfRow_70 ?_
          refine lv_topi (fun v_15 e_15 => ?_)
          obtain rfl : v_15 = nI ((4 * q) + 2) := by rw [e_15]; exact nI_add (4 * q) 2
          exact W.iret (v := (nI ((4 * q) + 2))) hx hb hr (fun t ht hW => ⟨⟨(nI ((4 * q) + 2)), w, rfl, Or.inr ⟨4 * q + 2, by omega, by omega, by omega, rfl, fun t h1 h2 => by rcases (show t = 4 * q ∨ t = 4 * q + 1 by omega) with rfl | rfl <;> assumption, fun hh => by rw [okPl_2]; exact dg_lt (by rw [← e_13]; exact c_14) hh, rfl⟩, ww_t ht hw⟩, hS.F ht⟩) hS.2.2 d_U_firstWrongPlaceOfRow_71
        · obtain ⟨hp3, hd3⟩ := dg_in (f := f) (n := n) (p := 4 * q + 2) (by rw [← e_13]; exact c_14)
          rw [← e_13] at hd3
          refine lv_iload hx hb d_U_firstWrongPlaceOfRow_62 (lv_at hl 0 rfl) ?_
          refine lv_iconst (v := 4) hx hb d_U_firstWrongPlaceOfRow_64 (by decide) ?_
          refine lv_icmp_le (tgt := 72) hx hb d_U_firstWrongPlaceOfRow_65 (by decide) (fun c_16 => ?_) (fun c_16 => ?_)
          · have ho2 : okPl f (4 * q + 2) = true := by rw [okPl_2, ← hd3]; unfold inR; rw [decide_eq_false c_14, decide_eq_false (Int32.not_lt.mpr c_16)]; rfl
            refine lv_iload_n hx hb d_U_firstWrongPlaceOfRow_72 rfl (lv_at hl 4 rfl) ?_
            refine lv_iconst (v := 3) hx hb d_U_firstWrongPlaceOfRow_73 (by decide) ?_
            refine lv_iadd hx hb d_U_firstWrongPlaceOfRow_74 ?_
            refine lv_topi (fun v_17 e_17 => ?_)
            obtain rfl : v_17 = nI ((4 * q) + 3) := by rw [e_17]; exact nI_add (4 * q) 3
            refine lv_aload_n hx hb d_U_firstWrongPlaceOfRow_75 rfl (lv_at hl 3 rfl) ?_
            refine ww_get (v := .int (nI n)) (C := R_U) (T := F_U) (N := 3) (ci := 4) hx hb hts i_U hown hK hw hu rfl 1 (by decide) (hts _ k_37) (fun _ h9 => h9) rfl d_U_firstWrongPlaceOfRow_76 ?_
            refine lv_icmp_ge (tgt := 95) hx hb d_U_firstWrongPlaceOfRow_79 (by decide) (fun c_18 => ?_) (fun c_18 => ?_)
            · have hge : n ≤ 4 * q + 3 := (nI_leI (by omega) (by omega)).mp c_18
              refine lv_iload_n hx hb d_U_firstWrongPlaceOfRow_95 rfl (lv_at hl 4 rfl) ?_
              refine lv_iconst (v := 3) hx hb d_U_firstWrongPlaceOfRow_96 (by decide) ?_
              refine lv_iadd hx hb d_U_firstWrongPlaceOfRow_97 ?_
              refine lv_topi (fun v_19 e_19 => ?_)
              obtain rfl : v_19 = nI ((4 * q) + 3) := by rw [e_19]; exact nI_add (4 * q) 3
              exact W.iret (v := (nI ((4 * q) + 3))) hx hb hr (fun t ht hW => ⟨⟨(nI ((4 * q) + 3)), w, rfl, Or.inr ⟨4 * q + 3, by omega, by omega, by omega, rfl, fun t h1 h2 => by rcases (show t = 4 * q ∨ t = 4 * q + 1 ∨ t = 4 * q + 2 by omega) with rfl | rfl | rfl <;> assumption, fun hh => absurd hh (by omega), rfl⟩, ww_t ht hw⟩, hS.F ht⟩) hS.2.2 d_U_firstWrongPlaceOfRow_98
            · have hlt3 : 4 * q + 3 < n := lp_lt rfl c_18 (by omega) (by omega)
              refine lv_aload_n hx hb d_U_firstWrongPlaceOfRow_82 rfl (lv_at hl 3 rfl) ?_
              refine ww_get (v := .ref sg) (C := R_U) (T := F_U) (N := 3) (ci := 4) hx hb hts i_U hown hK hw hu rfl 0 (by decide) (hts _ k_36) (fun _ h9 => h9) rfl d_U_firstWrongPlaceOfRow_83 ?_
              refine lv_iload_n hx hb d_U_firstWrongPlaceOfRow_86 rfl (lv_at hl 4 rfl) ?_
              refine lv_iconst (v := 3) hx hb d_U_firstWrongPlaceOfRow_87 (by decide) ?_
              refine lv_iadd hx hb d_U_firstWrongPlaceOfRow_88 ?_
              refine lv_topi (fun v_20 e_20 => ?_)
              obtain rfl : v_20 = nI ((4 * q) + 3) := by rw [e_20]; exact nI_add (4 * q) 3
              refine ww_iald (v := f ((4 * q) + 3)) hx hb hK hw 0 hs rfl (vp_in_nI (by omega) (by decide)) (by rw [nI_clamp (by omega)]) d_U_firstWrongPlaceOfRow_89 ?_
              refine lv_topi (fun v_21 e_21 => ?_)
              refine lv_bipush (v := 59) hx hb d_U_firstWrongPlaceOfRow_90 (by decide) ?_
              refine lv_icmp_eq (tgt := 99) hx hb d_U_firstWrongPlaceOfRow_92 (by decide) (fun c_22 => ?_) (fun c_22 => ?_)
              · have ho3 : okPl f (4 * q + 3) = true := by rw [okPl_3]; exact decide_eq_true (e_21 ▸ c_22)
                refine lv_aload_n hx hb d_U_firstWrongPlaceOfRow_99 rfl (lv_at hl 3 rfl) ?_
                refine ww_get (v := .ref fo) (C := R_U) (T := F_U) (N := 3) (ci := 4) hx hb hts i_U hown hK hw hu rfl 2 (by decide) (hts _ k_39) (fun _ h9 => h9) rfl d_U_firstWrongPlaceOfRow_100 ?_
                refine lv_iload_n hx hb d_U_firstWrongPlaceOfRow_103 rfl (lv_at hl 2 rfl) ?_
                refine lv_iload_n hx hb d_U_firstWrongPlaceOfRow_104 rfl (lv_at hl 1 rfl) ?_
                refine wr_i (cSN (As := [.int r_1, .int r_5]) (rest := [.ref fo]) 2 ⟨hx, hb, hml, hown, hts⟩ (c_T_pairNumber l r_1 r_5) k_129 (hf.2.1 _ x_127) k_1 k_128 (by decide +kernel) ⟨Nat.le_of_ble_eq_true rfl, Nat.le_of_ble_eq_true rfl⟩ rfl rfl ⟨prN_blind _, fun _ _ _ => ⟨rfl, trivial⟩⟩ rfl hl.1 rfl (Nat.le_of_ble_eq_true rfl) d_U_firstWrongPlaceOfRow_105 ⟨Nat.le_of_ble_eq_true rfl, Nat.le_of_ble_eq_true rfl⟩) (fun r_23 e_23 => ?_)
                refine lv_iload hx hb d_U_firstWrongPlaceOfRow_108 (lv_at hl 0 rfl) ?_
                refine ww_iast hx hb hK hw hS 0 hf0 rfl (by rw [e_23, ej]; exact vp_in_nI hj (by decide)) d_U_firstWrongPlaceOfRow_110 (fun H locs hw hS => ?_)
                rw [e_23, hd1, hd2, hd3] at hw
                obtain ⟨w_24, ew_24⟩ : ∃ zz9 : Nat → Option va_E, zz9 = va_up w fo (some (cA g 45 (upd ff (prI (f (4 * q) - 48) (f (4 * q + 1) - 48)).toNatClampNeg (f (4 * q + 2) - 48)))) := ⟨_, rfl⟩
                rw [← ew_24] at hw
                have h24_a : w_24 a = some (.inr (4, [.ref sg, .int (nI n), .ref fo])) := by rw [ew_24, va_up_ne _ _ (ne_c hf0 hu (fun z => by first | cases z | simp at z))]; exact hu
                have h24_sg : w_24 sg = some (cA g 300 f) := by rw [ew_24, va_up_ne _ _ (ne_c hf0 hs (fun z => by cases z))]; exact hs
                have h24_fo : w_24 fo = some (cA g 45 (upd ff (prI (f (4 * q) - 48) (f (4 * q + 1) - 48)).toNatClampNeg (f (4 * q + 2) - 48))) := by rw [ew_24]; exact va_up_self _ _ _
                refine lv_iconst (v := -1) hx hb d_U_firstWrongPlaceOfRow_111 (by decide) ?_
                exact W.iret (v := (-1)) hx hb hr (fun t ht hW => ⟨⟨(-1), w_24, rfl, Or.inl ⟨rfl, hlt3, ho0, ho1, ho2, ho3, ew_24⟩, ww_t ht hw⟩, hS.F ht⟩) hS.2.2 d_U_firstWrongPlaceOfRow_112
              · have hb3 : okPl f (4 * q + 3) = false := by rw [okPl_3]; exact decide_eq_false (e_21 ▸ c_22)
                refine lv_iload_n hx hb d_U_firstWrongPlaceOfRow_95 rfl (lv_at hl 4 rfl) ?_
                refine lv_iconst (v := 3) hx hb d_U_firstWrongPlaceOfRow_96 (by decide) ?_
                refine lv_iadd hx hb d_U_firstWrongPlaceOfRow_97 ?_
                refine lv_topi (fun v_25 e_25 => ?_)
                obtain rfl : v_25 = nI ((4 * q) + 3) := by rw [e_25]; exact nI_add (4 * q) 3
                exact W.iret (v := (nI ((4 * q) + 3))) hx hb hr (fun t ht hW => ⟨⟨(nI ((4 * q) + 3)), w, rfl, Or.inr ⟨4 * q + 3, by omega, by omega, by omega, rfl, fun t h1 h2 => by rcases (show t = 4 * q ∨ t = 4 * q + 1 ∨ t = 4 * q + 2 by omega) with rfl | rfl | rfl <;> assumption, fun _ => hb3, rfl⟩, ww_t ht hw⟩, hS.F ht⟩) hS.2.2 d_U_firstWrongPlaceOfRow_98
          · have hb2 : okPl f (4 * q + 2) = false := by rw [okPl_2, ← hd3]; unfold inR; rw [decide_eq_true (Int32.not_le.mp c_16)]; simp
            refine lv_iload_n hx hb d_U_firstWrongPlaceOfRow_68 rfl (lv_at hl 4 rfl) ?_
            refine lv_iconst (v := 2) hx hb d_U_firstWrongPlaceOfRow_69 (by decide) ?_
            refine lv_iadd hx hb d_U_firstWrongPlaceOfRow_70 ?_
            refine lv_topi (fun v_26 e_26 => ?_)
            obtain rfl : v_26 = nI ((4 * q) + 2) := by rw [e_26]; exact nI_add (4 * q) 2
            exact W.iret (v := (nI ((4 * q) + 2))) hx hb hr (fun t ht hW => ⟨⟨(nI ((4 * q) + 2)), w, rfl, Or.inr ⟨4 * q + 2, by omega, by omega, by omega, rfl, fun t h1 h2 => by rcases (show t = 4 * q ∨ t = 4 * q + 1 by omega) with rfl | rfl <;> assumption, fun _ => hb2, rfl⟩, ww_t ht hw⟩, hS.F ht⟩) hS.2.2 d_U_firstWrongPlaceOfRow_71
      · have hb1 : okPl f (4 * q + 1) = false := by rw [okPl_1, ← hd1, ← hd2, ej, nI_clamp (by omega), ← htab j hj, ← e_10, decide_eq_false c_11, Bool.and_false]
        refine lv_iload_n hx hb d_U_firstWrongPlaceOfRow_44 rfl (lv_at hl 3 rfl) ?_
        refine lv_iconst (v := 1) hx hb d_U_firstWrongPlaceOfRow_45 (by decide) ?_
        refine lv_iadd hx hb d_U_firstWrongPlaceOfRow_46 ?_
        refine lv_topi (fun v_27 e_27 => ?_)
        obtain rfl : v_27 = nI ((4 * q) + 1) := by rw [e_27]; exact nI_add (4 * q) 1
        exact W.iret (v := (nI ((4 * q) + 1))) hx hb hr (fun t ht hW => ⟨⟨(nI ((4 * q) + 1)), w, rfl, Or.inr ⟨4 * q + 1, by omega, by omega, by omega, rfl, fun t h1 h2 => by rcases (show t = 4 * q by omega) with rfl <;> assumption, fun _ => hb1, rfl⟩, ww_t ht hw⟩, hS.F ht⟩) hS.2.2 d_U_firstWrongPlaceOfRow_47
  · have q_3 := b2_f e_2 c_3
    refine lv_iload_n hx hb d_U_firstWrongPlaceOfRow_13 rfl (lv_at hl 2 rfl) ?_
    exact W.iret (v := (nI (4 * q))) hx hb hr (fun t ht hW => ⟨⟨(nI (4 * q)), w, rfl, Or.inr ⟨4 * q, by omega, by omega, by omega, rfl, fun t h1 h2 => absurd h1 (by omega), fun _ => by rw [okPl_0]; exact dg_ncls (by rw [← e_1]; exact q_3) (by omega), rfl⟩, ww_t ht hw⟩, hS.F ht⟩) hS.2.2 d_U_firstWrongPlaceOfRow_14

theorem tab_up {f ff2 : Nat → Int32} {q j : Nat} (h : ff2 j = tabAt f q j) : upd ff2 (prI (f (4 * q) - 48) (f (4 * q + 1) - 48)).toNatClampNeg (f (4 * q + 2) - 48) j = tabAt f (q + 1) j := by
  unfold tabAt upd
  split
  · rfl
  · exact h
set_option maxHeartbeats 4000000 in
set_option maxRecDepth 100000 in
theorem c_U_firstWrongPlace (l : Launch) (g : GT) (sz : Nat) (w : Nat → Option va_E) (a sg fo n : Nat) (f ff : Nat → Int32) (hu : w a = some (cU sg (nI n) fo)) (hs : w sg = some (cA g 300 f)) (hn : n ≤ 300) (hf0 : w fo = some (cA g 45 ff)) : Met l y_U_firstWrongPlace (.code y_U_firstWrongPlace b_U_firstWrongPlace 3 ((some .int)) :: GW) ({ frames := 2, cells := 0, slots := 0, locals := 47 }) (prW g sz [.ref a] w) (qI g sz w (fun r w1 => r = WR f n ∧ ∃ ff1 : Nat → Int32, w1 = va_up w fo (some (cA g 45 ff1)) ∧ (WR f n = -1 → n = 180 ∧ (∀ t : Nat, t < 180 → okPl f t = true) ∧ ∀ j : Nat, j < 45 → ff1 j = tabAt f 45 j))) 0 0 (gA w sz) := by
  refine Met.ofW (cc := b_U_firstWrongPlace) (maxL := 3) (ret := (some .int)) (by decide) rfl ?_
  intro p e s m args below meth c s₁ B hml hv
  obtain ⟨rfl, hsz, hG, hw0⟩ := hv
  have hx := B.exec
  have hb := B.bytes
  have hr := B.returns
  have hts : ∀ w ∈ GW, w.before _ s = true := fun w h => atoms_spec (ws := .code y_U_firstWrongPlace b_U_firstWrongPlace 3 ((some .int)) :: GW) B.pre w (List.mem_cons_of_mem _ h)
  have hown : s.vm.findClass "DangerTables$RuleText" = some m.cls := findClass_of_methodNamed B.named
  have hlocks := B.notSynchronized
  have hf := hG.here
  have hK := hf.1
  subst hsz
  have hw := hw0.self s.heap.size
  have hAB : ∀ q, gA w s.heap.size q → gB g q := fun q h => h.elim (fun z => z.elim (fun _ he => hw0.inA he)) (fun h => Nat.le_trans hG.1 h)
  have hA : ∀ q, s.heap.size ≤ q → gA w s.heap.size q := fun q h => Or.inr h
  have hS : va_S (gA w s.heap.size) s.heap s.heap [] := va_S.rf
  have hl := lv_entry ([.ref a]) (n := 3) (Nat.le_of_ble_eq_true rfl)
  rw [lg_entry_eq]
  generalize (lg_sl ([.ref a]) ++ List.replicate (3 - (lg_sl ([.ref a])).length) Slot.unset).toArray = ls at hl ⊢
  have hl : lv_has ls 3 [(0, .ref a)] := hl
  refine lv_aload_n hx hb d_U_firstWrongPlace_0 rfl (lv_at hl 0 rfl) ?_
  refine ww_get (v := .ref fo) (C := R_U) (T := F_U) (N := 3) (ci := 4) hx hb hts i_U hown hK hw hu rfl 2 (by decide) (hts _ k_39) (fun _ h9 => h9) rfl d_U_firstWrongPlace_1 ?_
  refine lv_iconst (v := -1) hx hb d_U_firstWrongPlace_4 (by decide) ?_
  refine ww_v (cS (As := [.ref fo, .int (-1)]) (rest := []) 2 ⟨hx, hb, hml, hown, hts⟩ (c_AR_fill l g s.heap.size w fo 45 ff (-1) hf0 (by omega)) k_50 k_115 k_3 k_49 (by decide +kernel) ⟨Nat.le_of_ble_eq_true rfl, Nat.le_of_ble_eq_true rfl⟩ rfl rfl ⟨prW_blind _ _ _ _, prW_at hG hAB hS hw⟩ rfl hl.1 rfl (Nat.le_of_ble_eq_true rfl) d_U_firstWrongPlace_5 ⟨Nat.le_of_ble_eq_true rfl, Nat.le_of_ble_eq_true rfl⟩) hw hS hA (fun w_1 H locs e_1 hw hS hz_1 hk_1 hg_1 => ?_)
  obtain ⟨f_1, hfl_1, ew_1⟩ := e_1
  have h1_a : w_1 a = some (.inr (4, [.ref sg, .int (nI n), .ref fo])) := by rw [ew_1, va_up_ne _ _ (ne_c hf0 hu (fun z => by cases z))]; exact hu
  have h1_sg : w_1 sg = some (cA g 300 f) := by rw [ew_1, va_up_ne _ _ (ne_c hf0 hs (fun z => by cases z))]; exact hs
  have h1_fo : w_1 fo = some (cA g 45 f_1) := by rw [ew_1]; exact va_up_self _ _ _
  refine lv_iconst (v := 0) hx hb d_U_firstWrongPlace_8 (by decide) ?_
  refine lv_istore_n (lv' := [(1, .int 0), (0, .ref a)]) hx hb d_U_firstWrongPlace_9 rfl hl (by decide) rfl (fun ls hl => ?_)
  have loop_10 : ∀ (k q : Nat) (w2 : Nat → Option va_E) (ff2 : Nat → Int32) (H : Heap) (locs : List Loc) (ls : Array Slot), q ≤ 75 → 75 < q + k → ww g.1 vwCl (gA w s.heap.size) w2 H ∧ va_S (gA w s.heap.size) s.heap H locs ∧ w2 = va_up w fo (some (cA g 45 ff2)) ∧ (∀ j : Nat, j < 45 → ff2 j = tabAt f q j) ∧ 4 * q ≤ n ∧ (∀ t : Nat, t < 4 * q → okPl f t = true) ∧ WR f n = wrF f n (n - 4 * q) (4 * q) → lv_has ls 3 [(0, .ref a), (1, .int (nI (4 * q)))] → W p l e (headSpec (.code y_U_firstWrongPlace b_U_firstWrongPlace 3 ((some .int)) :: GW) ({ frames := 2, cells := 0, slots := 0, locals := 47 })).room s m (#[.ref a] : Array Value) below meth c H locs 0 0 (MQ below (qI g s.heap.size w (fun r w1 => r = WR f n ∧ ∃ ff1 : Nat → Int32, w1 = va_up w fo (some (cA g 45 ff1)) ∧ (WR f n = -1 → n = 180 ∧ (∀ t : Nat, t < 180 → okPl f t = true) ∧ ∀ j : Nat, j < 45 → ff1 j = tabAt f 45 j))) (#[.ref a] : Array Value) s 0 0 (gA w s.heap.size)) (F0 m 10 ls []) := by
    intro k
    induction k with
    | zero =>
      intro q w2 ff2 H locs ls h1_10 h2_10
      exact absurd h2_10 (by omega)
    | succ k ih_10 =>
      intro q w2 ff2 H locs ls h1_10 h2_10 hI_10 hl
      obtain ⟨hw, hS, ew2, htab, h4q, hall, hWR⟩ := hI_10
      have hu2 : w2 a = some (cU sg (nI n) fo) := by rw [ew2, va_up_ne _ _ (ne_c hf0 hu (fun z => by cases z))]; exact hu
      have hs2 : w2 sg = some (cA g 300 f) := by rw [ew2, va_up_ne _ _ (ne_c hf0 hs (fun z => by cases z))]; exact hs
      have hf2 : w2 fo = some (cA g 45 ff2) := by rw [ew2]; exact va_up_self _ _ _
      refine lv_iload_n hx hb d_U_firstWrongPlace_10 rfl (lv_at hl 1 rfl) ?_
      refine lv_aload_n hx hb d_U_firstWrongPlace_11 rfl (lv_at hl 0 rfl) ?_
      refine ww_get (v := .int (nI n)) (C := R_U) (T := F_U) (N := 3) (ci := 4) hx hb hts i_U hown hK hw hu2 rfl 1 (by decide) (hts _ k_37) (fun _ h9 => h9) rfl d_U_firstWrongPlace_12 ?_
      refine lv_icmp_ge (tgt := 37) hx hb d_U_firstWrongPlace_15 (by decide) (fun c_2 => ?_) (fun c_2 => ?_)
      · have hge : n ≤ 4 * q := (nI_leI (by omega) (by omega)).mp c_2
        refine lv_aload_n hx hb d_U_firstWrongPlace_37 rfl (lv_at hl 0 rfl) ?_
        refine ww_get (v := .int (nI n)) (C := R_U) (T := F_U) (N := 3) (ci := 4) hx hb hts i_U hown hK hw hu2 rfl 1 (by decide) (hts _ k_37) (fun _ h9 => h9) rfl d_U_firstWrongPlace_38 ?_
        refine lv_sipush (v := 180) hx hb d_U_firstWrongPlace_41 (by decide) ?_
        refine lv_icmp_ne (tgt := 51) hx hb d_U_firstWrongPlace_44 (by decide) (fun c_3 => ?_) (fun c_3 => ?_)
        · refine lv_aload_n hx hb d_U_firstWrongPlace_51 rfl (lv_at hl 0 rfl) ?_
          refine ww_get (v := .int (nI n)) (C := R_U) (T := F_U) (N := 3) (ci := 4) hx hb hts i_U hown hK hw hu2 rfl 1 (by decide) (hts _ k_37) (fun _ h9 => h9) rfl d_U_firstWrongPlace_52 ?_
          exact W.iret (v := (nI n)) hx hb hr (fun t ht hW => ⟨⟨(nI n), w2, rfl, (by
        have h180 : ¬ n = 180 := fun z => c_3 (by rw [z]; rfl)
        have hw1 : WR f n = nI n := by rw [hWR, show n - 4 * q = 0 by omega, wrF, if_neg h180]
        exact ⟨hw1.symm, ff2, ew2, fun z => absurd (hw1.symm.trans z) (nI_nm1 (by omega))⟩), ww_t ht hw⟩, hS.F ht⟩) hS.2.2 d_U_firstWrongPlace_55
        · refine lv_iconst (v := -1) hx hb d_U_firstWrongPlace_47 (by decide) ?_
          refine lv_goto (tgt := 55) hx hb d_U_firstWrongPlace_48 (by decide) ?_
          exact W.iret (v := (-1)) hx hb hr (fun t ht hW => ⟨⟨(-1), w2, rfl, (by
        have h180 : n = 180 := (nI_eq (by omega) (b := 180) (by decide)).mp c_3
        have hw1 : WR f n = -1 := by rw [hWR, show n - 4 * q = 0 by omega, wrF, if_pos h180]
        exact ⟨hw1.symm, ff2, ew2, fun _ => ⟨h180, fun t ht => hall t (by omega), fun j hj => by rw [htab j hj, show q = 45 by omega]⟩⟩), ww_t ht hw⟩, hS.F ht⟩) hS.2.2 d_U_firstWrongPlace_55
      · have hlt : 4 * q < n := lp_lt rfl c_2 (by omega) (by omega)
        refine lv_aload_n hx hb d_U_firstWrongPlace_18 rfl (lv_at hl 0 rfl) ?_
        refine lv_iload_n hx hb d_U_firstWrongPlace_19 rfl (lv_at hl 1 rfl) ?_
        refine ww_i (cV (As := [.int (nI (4 * q))]) (rest := []) (C := "DangerTables$RuleText") 1 ⟨hx, hb, hml, hown, hts⟩ (c_U_firstWrongPlaceOfRow l g H.size w2 a sg fo n q f ff2 hu2 hs2 hn hlt hf2 htab) k_119 k_116 k_2 k_118 kp_0 (by decide +kernel) ⟨Nat.le_of_ble_eq_true rfl, Nat.le_of_ble_eq_true rfl⟩ rfl rfl ⟨prW_blind _ _ _ _, hw.recv hK hu2 rfl, prW_at hG hAB hS hw⟩ rfl hl.1 rfl (Nat.le_of_ble_eq_true rfl) d_U_firstWrongPlace_20 ⟨Nat.le_of_ble_eq_true rfl, Nat.le_of_ble_eq_true rfl⟩) hw hS hA (fun r_4 w_4 H locs e_4 hw hS hz_4 hk_4 hg_4 => ?_)
        refine lv_istore_n (lv' := [(2, .int r_4), (0, .ref a), (1, .int (nI (4 * q)))]) hx hb d_U_firstWrongPlace_23 rfl hl (by decide) rfl (fun ls hl => ?_)
        refine lv_iload_n hx hb d_U_firstWrongPlace_24 rfl (lv_at hl 0 rfl) ?_
        refine lv_iconst (v := -1) hx hb d_U_firstWrongPlace_25 (by decide) ?_
        refine lv_icmp_eq (tgt := 31) hx hb d_U_firstWrongPlace_26 (by decide) (fun c_5 => ?_) (fun c_5 => ?_)
        · obtain ⟨-, hlt3, ho0, ho1, ho2, ho3, ewr⟩ := e_4.resolve_right (fun z => by obtain ⟨p9, z1, z2, z3, z4, -⟩ := z; rw [z4] at c_5; exact nI_nm1 (by omega) c_5)
          refine lv_iinc (v := (nI ((4 * q) + 4))) (lv' := [(1, .int (nI ((4 * q) + 4))), (2, .int r_4), (0, .ref a)]) hx hb d_U_firstWrongPlace_31 hl (k := 2) rfl (nI_add _ 4) (by decide) rfl (fun ls hl => ?_)
          refine lv_goto (tgt := 10) hx hb d_U_firstWrongPlace_34 (by decide) ?_
          exact ih_10 (q + 1) w_4 (upd ff2 (prI (f (4 * q) - 48) (f (4 * q + 1) - 48)).toNatClampNeg (f (4 * q + 2) - 48)) H locs ls (by omega) (by omega) ⟨hw, hS, by rw [ewr, ew2, bx_uu], fun j hj => tab_up (htab j hj), by omega, fun t ht => by rcases (show t < 4 * q ∨ t = 4 * q ∨ t = 4 * q + 1 ∨ t = 4 * q + 2 ∨ t = 4 * q + 3 by omega) with h | rfl | rfl | rfl | rfl <;> first | assumption | exact hall _ h, by rw [hWR, wrF_to 4 (by omega) (fun t h1 h2 => by rcases (show t = 4 * q ∨ t = 4 * q + 1 ∨ t = 4 * q + 2 ∨ t = 4 * q + 3 by omega) with rfl | rfl | rfl | rfl <;> assumption)]; rfl⟩ (lv_sub hl [2, 0] rfl)
        · obtain ⟨p9, z1, z2, z3, z4, z5, z6, z7⟩ := e_4.resolve_left (fun z => c_5 z.1)
          refine lv_iload_n hx hb d_U_firstWrongPlace_29 rfl (lv_at hl 0 rfl) ?_
          exact W.iret (v := r_4) hx hb hr (fun t ht hW => ⟨⟨r_4, w_4, rfl, ⟨by rw [z4, hWR]; exact (wr_row hlt z1 z2 z3 z5 z6).symm, ff2, by rw [z7]; exact ew2, fun z => absurd (by rw [← z, hWR]; exact (wr_row hlt z1 z2 z3 z5 z6).symm) (nI_nm1 (p := p9) (by omega))⟩, ww_t ht hw⟩, hS.F ht⟩) hS.2.2 d_U_firstWrongPlace_30
  exact loop_10 (75 + 1) 0 w_1 f_1 H locs ls (by omega) (by omega) ⟨hw, hS, ew_1, hfl_1, Nat.zero_le _, fun t ht => absurd ht (Nat.not_lt_zero _), rfl⟩ (lv_sub hl [1, 0] rfl)

