/-! THE REFERENCE: nearness, bars -/
theorem okP_of {gd : Nat → GD} {gn : Nat} {F : Nat → Nat → Int32} (hG : RG gd gn F) {i : Nat} {b : BR} (hB : RBx F gn i b) : ∀ r ∈ b.1.map (prOf gd), okP r := by
  intro r hr
  obtain ⟨p, hp, rfl⟩ := List.mem_map.mp hr
  obtain ⟨j, hj⟩ := List.mem_iff_getElem?.mp hp
  have h := hG.2 p.1 (hB.2.2.2.2.2 j p hj).1
  exact ⟨h.2.2.2.2.1, h.2.2.2.2.2.1⟩
theorem near_d {x y x2 y2 : Int32} (h : isSl x y = true) (h2 : isSl x2 y2 = true) : (∃ d : Nat, d < 40 ∧ absI (x2 - x) + absI (y2 - y) = nI d) ∧ farI (x - x2) + farI (y - y2) = absI (x2 - x) + absI (y2 - y) := by
  obtain ⟨⟨a, ha, rfl⟩, b, hb, rfl⟩ := sl_of h
  obtain ⟨⟨a2, ha2, rfl⟩, b2, hb2, rfl⟩ := sl_of h2
  obtain ⟨d1, hd1, e1⟩ := abs_tab a ha a2 ha2
  obtain ⟨d2, hd2, e2⟩ := abs_tab b hb b2 hb2
  refine ⟨⟨d1 + d2, by omega, by rw [e1, e2, nI_add]⟩, ?_⟩
  rw [far_tab a ha a2 ha2, far_tab b hb b2 hb2]
theorem near_4 {k d : Nat} (h : nI k = 4) : tnI (nI k) (nI d) = true := by rw [h]; rfl
theorem near_0 {k d : Nat} (hk : k ≤ 4) (hd : d < 40) (h : nI k ≤ 0) : tnI (nI k) (nI d) = false := by
  have hk0 : k = 0 := by
    have := (nI_leI (by omega) (b := 0) (by decide)).mp h
    omega
  subst hk0
  unfold tnI
  rw [show yardI (nI 0).toNatClampNeg = nI 0 from rfl, decide_eq_true (nI_le (Nat.zero_le d) (by omega))]
  rfl
theorem near_t {k d : Nat} (hk : k ≤ 4) (hk0 : 0 < k) (h4 : ¬ nI k = 4) : tnI (nI k) (nI d) = !decide ((3 : Int32) <<< (nI (k - 1) &&& 31) ≤ nI d) := by
  unfold tnI
  rcases (show k = 1 ∨ k = 2 ∨ k = 3 ∨ k = 4 by omega) with rfl | rfl | rfl | rfl
  · rfl
  · rfl
  · rfl
  · exact absurd rfl h4
set_option maxHeartbeats 4000000 in
set_option maxRecDepth 100000 in
theorem c_M_isNear (l : Launch) (g : GT) (w : Nat → Option va_E) (mo : Nat) (ad : Nat → Nat) (t0 hd : Int32) (sn gn bn : Nat) (F : Nat → Nat → Int32) (gd : Nat → GD) (rf : Nat → Int32) (i1 i2 : Nat) (b1 b2_ : BR) (x y : Int32) (hM : isM g w mo ad t0 sn hd gn bn F) (hRG : RG gd gn F) (hRT : RT rf F) (hrf : okR rf) (hi1 : i1 < 12) (hi2 : i2 < 12) (hBA : RBx F gn i1 b1) (hBB : RBx F gn i2 b2_) (hxy : isSl x y = true) (h11 : F 11 i2 = b2_.2.2.1) (h12 : F 12 i2 = b2_.2.2.2.1) (hsl : isSl b2_.2.2.1 b2_.2.2.2.1 = true) : Met l y_M_isNear (.code y_M_isNear b_M_isNear 7 ((some .boolean)) :: GW) ({ frames := 4, cells := 0, slots := 0, locals := 96 }) (prR g [.ref mo, .int (nI i1), .int (nI i2), .int x, .int y] w) (vp_Si (fun r => r = b2 (tnI (ruB rf (b1.1.map (prOf gd)) (b2_.1.map (prOf gd))) (absI (b2_.2.2.1 - x) + absI (b2_.2.2.2.1 - y))))) 0 0 (fun _ => False) := by
  refine Met.ofW (cc := b_M_isNear) (maxL := 7) (ret := (some .boolean)) (by decide) rfl ?_
  intro p e s m args below meth c s₁ B hml hv
  obtain ⟨rfl, hG, hw⟩ := hv
  have hx := B.exec
  have hb := B.bytes
  have hr := B.returns
  have hts : ∀ w ∈ GW, w.before _ s = true := fun w h => atoms_spec (ws := .code y_M_isNear b_M_isNear 7 ((some .boolean)) :: GW) B.pre w (List.mem_cons_of_mem _ h)
  have hown : s.vm.findClass "DangerTablesModel" = some m.cls := findClass_of_methodNamed B.named
  have hlocks := B.notSynchronized
  have hf := hG.here
  have hK := hf.1
  have hAB : ∀ q, gB g q → gB g q := fun _ h => h
  have hS : va_S (gB g) s.heap s.heap [] := va_S.rf
  have hl := lv_entry ([.ref mo, .int (nI i1), .int (nI i2), .int x, .int y]) (n := 7) (Nat.le_of_ble_eq_true rfl)
  rw [lg_entry_eq]
  generalize (lg_sl ([.ref mo, .int (nI i1), .int (nI i2), .int x, .int y]) ++ List.replicate (7 - (lg_sl ([.ref mo, .int (nI i1), .int (nI i2), .int x, .int y])).length) Slot.unset).toArray = ls at hl ⊢
  have hl : lv_has ls 7 [(0, .ref mo), (1, .int (nI i1)), (2, .int (nI i2)), (3, .int x), (4, .int y)] := hl
  refine lv_aload_n hx hb d_M_isNear_0 rfl (lv_at hl 0 rfl) ?_
  refine lv_iload_n hx hb d_M_isNear_1 rfl (lv_at hl 1 rfl) ?_
  refine lv_iload_n hx hb d_M_isNear_2 rfl (lv_at hl 2 rfl) ?_
  refine wr_i (cV (As := [.int (nI i1), .int (nI i2)]) (rest := []) (C := "DangerTablesModel") 2 ⟨hx, hb, hml, hown, hts⟩ (c_M_strictest l g w mo ad t0 hd sn gn bn F gd rf i1 i2 b1 b2_ hM hRG hRT hi1 hi2 hBA hBB) k_795 k_792 k_7 k_794 kp_24 (by decide +kernel) ⟨Nat.le_of_ble_eq_true rfl, Nat.le_of_ble_eq_true rfl⟩ rfl rfl ⟨prR_blind _ _ _, hw.recv hK hM.1 rfl, prR_at hG hAB hS hw⟩ rfl hl.1 rfl (Nat.le_of_ble_eq_true rfl) d_M_isNear_3 ⟨Nat.zero_le _, Nat.zero_le _⟩) (fun r_1 e_1 => ?_)
  obtain ⟨k0, hk0, ek0⟩ := in4_ruB hrf (okP_of hRG hBA) (okP_of hRG hBB)
  obtain rfl : r_1 = nI k0 := e_1.trans ek0
  obtain ⟨⟨d0, hd0, ed0⟩, efar⟩ := near_d hxy hsl
  refine lv_istore (lv' := [(5, .int (nI k0)), (0, .ref mo), (1, .int (nI i1)), (2, .int (nI i2)), (3, .int x), (4, .int y)]) hx hb d_M_isNear_6 hl (by decide) rfl (fun ls hl => ?_)
  refine lv_iload_n hx hb d_M_isNear_8 rfl (lv_at hl 4 rfl) ?_
  refine lv_aload_n hx hb d_M_isNear_9 rfl (lv_at hl 1 rfl) ?_
  refine ww_get (v := .ref (ad 11)) (C := R_M) (T := F_M) (N := 22) (ci := 5) hx hb hts i_M hown hK hw hM.1 rfl 16 (by decide) (hts _ k_671) (fun _ h9 => h9) rfl d_M_isNear_10 ?_
  refine lv_iload_n hx hb d_M_isNear_13 rfl (lv_at hl 3 rfl) ?_
  refine ww_iald (v := (F 11) i2) hx hb hK hw 0 (show w (ad 11) = some (cA g 12 (F 11)) from hM.2.1 11 (by decide)) rfl (vp_in_nI (by omega) (by decide)) (by rw [nI_clamp (by omega)]) d_M_isNear_14 ?_
  refine lv_topi (fun v_2 e_2 => ?_)
  obtain rfl : b2_.2.2.1 = v_2 := (e_2.trans h11).symm
  refine lv_isub hx hb d_M_isNear_15 ?_
  refine lv_topi (fun v_3 e_3 => ?_)
  refine wr_i (cS (As := [.int v_3]) (rest := []) 1 ⟨hx, hb, hml, hown, hts⟩ (c_M_far l v_3) k_849 k_847 k_7 k_848 (by decide +kernel) ⟨Nat.le_of_ble_eq_true rfl, Nat.le_of_ble_eq_true rfl⟩ rfl rfl ⟨prN_blind _, fun _ _ _ => ⟨rfl, trivial⟩⟩ rfl hl.1 rfl (Nat.le_of_ble_eq_true rfl) d_M_isNear_16 ⟨Nat.zero_le _, Nat.zero_le _⟩) (fun r_4 e_4 => ?_)
  refine lv_iload hx hb d_M_isNear_19 (lv_at hl 5 rfl) ?_
  refine lv_aload_n hx hb d_M_isNear_21 rfl (lv_at hl 1 rfl) ?_
  refine ww_get (v := .ref (ad 12)) (C := R_M) (T := F_M) (N := 22) (ci := 5) hx hb hts i_M hown hK hw hM.1 rfl 17 (by decide) (hts _ k_672) (fun _ h9 => h9) rfl d_M_isNear_22 ?_
  refine lv_iload_n hx hb d_M_isNear_25 rfl (lv_at hl 3 rfl) ?_
  refine ww_iald (v := (F 12) i2) hx hb hK hw 0 (show w (ad 12) = some (cA g 12 (F 12)) from hM.2.1 12 (by decide)) rfl (vp_in_nI (by omega) (by decide)) (by rw [nI_clamp (by omega)]) d_M_isNear_26 ?_
  refine lv_topi (fun v_5 e_5 => ?_)
  obtain rfl : b2_.2.2.2.1 = v_5 := (e_5.trans h12).symm
  refine lv_isub hx hb d_M_isNear_27 ?_
  refine lv_topi (fun v_6 e_6 => ?_)
  refine wr_i (cS (As := [.int v_6]) (rest := [.int r_4]) 1 ⟨hx, hb, hml, hown, hts⟩ (c_M_far l v_6) k_849 k_847 k_7 k_848 (by decide +kernel) ⟨Nat.le_of_ble_eq_true rfl, Nat.le_of_ble_eq_true rfl⟩ rfl rfl ⟨prN_blind _, fun _ _ _ => ⟨rfl, trivial⟩⟩ rfl hl.1 rfl (Nat.le_of_ble_eq_true rfl) d_M_isNear_28 ⟨Nat.zero_le _, Nat.zero_le _⟩) (fun r_7 e_7 => ?_)
  refine lv_iadd hx hb d_M_isNear_31 ?_
  refine lv_topi (fun v_8 e_8 => ?_)
  refine lv_istore (lv' := [(6, .int v_8), (5, .int (nI k0)), (0, .ref mo), (1, .int (nI i1)), (2, .int (nI i2)), (3, .int x), (4, .int y)]) hx hb d_M_isNear_32 hl (by decide) rfl (fun ls hl => ?_)
  have hdd : v_8 = nI d0 := by rw [e_8, e_4, e_3, e_7, e_6, efar, ed0]
  refine lv_iload hx hb d_M_isNear_34 (lv_at hl 1 rfl) ?_
  refine lv_iconst (v := 4) hx hb d_M_isNear_36 (by decide) ?_
  refine lv_icmp_eq (tgt := 56) hx hb d_M_isNear_37 (by decide) (fun c_9 => ?_) (fun c_9 => ?_)
  · refine lv_iconst (v := 1) hx hb d_M_isNear_56 (by decide) ?_
    refine lv_goto (tgt := 61) hx hb d_M_isNear_57 (by decide) ?_
    exact W.zret (v := 1) (ty := .boolean) hx hb hr rfl (fun t ht hW => ⟨1, rfl, (by rw [ek0, ed0, near_4 c_9]; rfl), ht⟩) t_nil d_M_isNear_61
  · refine lv_iload hx hb d_M_isNear_40 (lv_at hl 1 rfl) ?_
    refine lv_if_le (tgt := 60) hx hb d_M_isNear_42 (by decide) (fun c_10 => ?_) (fun c_10 => ?_)
    · refine lv_iconst (v := 0) hx hb d_M_isNear_60 (by decide) ?_
      exact W.zret (v := 0) (ty := .boolean) hx hb hr rfl (fun t ht hW => ⟨0, rfl, (by rw [ek0, ed0, near_0 hk0 hd0 c_10]; rfl), ht⟩) t_nil d_M_isNear_61
    · have hkp : 0 < k0 := by rcases Nat.eq_zero_or_pos k0 with h | h; exact absurd (by rw [h]; decide) c_10; exact h
      refine lv_iload hx hb d_M_isNear_45 (lv_at hl 0 rfl) ?_
      refine lv_iconst (v := 3) hx hb d_M_isNear_47 (by decide) ?_
      refine lv_iload hx hb d_M_isNear_48 (lv_at hl 1 rfl) ?_
      refine lv_iconst (v := 1) hx hb d_M_isNear_50 (by decide) ?_
      refine lv_isub hx hb d_M_isNear_51 ?_
      refine lv_topi (fun v_11 e_11 => ?_)
      obtain rfl : v_11 = nI (k0 - 1) := by rw [e_11]; exact pk_sub (a := k0) (b := 1) (by omega)
      refine lv_ishl hx hb d_M_isNear_52 ?_
      refine lv_topi (fun v_12 e_12 => ?_)
      refine lv_icmp_ge (tgt := 60) hx hb d_M_isNear_53 (by decide) (fun c_13 => ?_) (fun c_13 => ?_)
      · have hc9 : (3 : Int32) <<< (nI (k0 - 1) &&& 31) ≤ nI d0 := by rw [← hdd, ← e_12]; exact c_13
        refine lv_iconst (v := 0) hx hb d_M_isNear_60 (by decide) ?_
        exact W.zret (v := 0) (ty := .boolean) hx hb hr rfl (fun t ht hW => ⟨0, rfl, (by rw [ek0, ed0, near_t hk0 hkp c_9, decide_eq_true hc9]; rfl), ht⟩) t_nil d_M_isNear_61
      · have hc9 : ¬ (3 : Int32) <<< (nI (k0 - 1) &&& 31) ≤ nI d0 := by rw [← hdd, ← e_12]; exact c_13
        refine lv_iconst (v := 1) hx hb d_M_isNear_56 (by decide) ?_
        refine lv_goto (tgt := 61) hx hb d_M_isNear_57 (by decide) ?_
        exact W.zret (v := 1) (ty := .boolean) hx hb hr rfl (fun t ht hW => ⟨1, rfl, (by rw [ek0, ed0, near_t hk0 hkp c_9, decide_eq_false hc9]; rfl), ht⟩) t_nil d_M_isNear_61

theorem mzAt {mz : Nat → Nat → Int32} {F : Nat → Nat → Int32} {z j : Nat} (h : RZ mz F) (hz : z < 4) (h1 : 1 ≤ j) (h9 : j < 10) : F 16 (9 * z + j - 1) = mz z j := by
  have := h z (j - 1) hz (by omega)
  rw [show 9 * z + (j - 1) = 9 * z + j - 1 by omega, show j - 1 + 1 = j by omega] at this
  exact this
set_option maxHeartbeats 4000000 in
set_option maxRecDepth 100000 in
theorem c_M_bars (l : Launch) (g : GT) (w : Nat → Option va_E) (mo : Nat) (ad : Nat → Nat) (t0 hd : Int32) (sn gn bn : Nat) (F : Nat → Nat → Int32) (gd : Nat → GD) (rf : Nat → Int32) (mz : Nat → Nat → Int32) (zi i : Nat) (b : BR) (br : List BR) (x y : Int32) (hM : isM g w mo ad t0 sn hd gn bn F) (hRG : RG gd gn F) (hRT : RT rf F) (hRZ : RZ mz F) (hrf : okR rf) (hzi : zi < 4) (hi : i < 12) (hB : RBx F gn i b) (hRB : RBs F gn bn br) (hxy : isSl x y = true) : Met l y_M_bars (.code y_M_bars b_M_bars 6 ((some .int)) :: GW) ({ frames := 5, cells := 0, slots := 0, locals := 122 }) (prR g [.ref mo, .int (nI zi), .int (nI i), .int x, .int y] w) (vp_Si (fun r => r = fbB rf (mz zi) (br.map (bxOf gd)) (bxOf gd b) (nI zi) x y)) 0 0 (fun _ => False) := by
  refine Met.ofW (cc := b_M_bars) (maxL := 6) (ret := (some .int)) (by decide) rfl ?_
  intro p e s m args below meth c s₁ B hml hv
  obtain ⟨rfl, hG, hw⟩ := hv
  have hx := B.exec
  have hb := B.bytes
  have hr := B.returns
  have hts : ∀ w ∈ GW, w.before _ s = true := fun w h => atoms_spec (ws := .code y_M_bars b_M_bars 6 ((some .int)) :: GW) B.pre w (List.mem_cons_of_mem _ h)
  have hown : s.vm.findClass "DangerTablesModel" = some m.cls := findClass_of_methodNamed B.named
  have hlocks := B.notSynchronized
  have hf := hG.here
  have hK := hf.1
  have hAB : ∀ q, gB g q → gB g q := fun _ h => h
  have hS : va_S (gB g) s.heap s.heap [] := va_S.rf
  have hl := lv_entry ([.ref mo, .int (nI zi), .int (nI i), .int x, .int y]) (n := 6) (Nat.le_of_ble_eq_true rfl)
  rw [lg_entry_eq]
  generalize (lg_sl ([.ref mo, .int (nI zi), .int (nI i), .int x, .int y]) ++ List.replicate (6 - (lg_sl ([.ref mo, .int (nI zi), .int (nI i), .int x, .int y])).length) Slot.unset).toArray = ls at hl ⊢
  have hl : lv_has ls 6 [(0, .ref mo), (1, .int (nI zi)), (2, .int (nI i)), (3, .int x), (4, .int y)] := hl
  have hgn := hRG.1
  have hbn := hRB.1
  have hbl := hRB.2.1
  obtain ⟨hB1, hB9, hB10, hB13, hBz, hBp⟩ := id hB
  have hwt := wt_1 hRG hB1.1 (fun j p h => (hBp j p h).1)
  refine lv_aload_n hx hb d_M_bars_0 rfl (lv_at hl 0 rfl) ?_
  refine lv_iload_n hx hb d_M_bars_1 rfl (lv_at hl 2 rfl) ?_
  refine wr_i (cV (As := [.int (nI i)]) (rest := []) (C := "DangerTablesModel") 1 ⟨hx, hb, hml, hown, hts⟩ (c_M_wanted l g w mo ad t0 hd sn gn bn F gd i b hM hRG hi hB) k_842 k_839 k_7 k_841 kp_31 (by decide +kernel) ⟨Nat.le_of_ble_eq_true rfl, Nat.le_of_ble_eq_true rfl⟩ rfl rfl ⟨prR_blind _ _ _, hw.recv hK hM.1 rfl, prR_at hG hAB hS hw⟩ rfl hl.1 rfl (Nat.le_of_ble_eq_true rfl) d_M_bars_2 ⟨Nat.zero_le _, Nat.zero_le _⟩) (fun r_1 e_1 => ?_)
  refine lv_aload_n hx hb d_M_bars_5 rfl (lv_at hl 0 rfl) ?_
  refine ww_get (v := .ref (ad 13)) (C := R_M) (T := F_M) (N := 22) (ci := 5) hx hb hts i_M hown hK hw hM.1 rfl 18 (by decide) (hts _ k_673) (fun _ h9 => h9) rfl d_M_bars_6 ?_
  refine lv_iload_n hx hb d_M_bars_9 rfl (lv_at hl 2 rfl) ?_
  refine ww_iald (v := (F 13) i) hx hb hK hw 0 (show w (ad 13) = some (cA g 12 (F 13)) from hM.2.1 13 (by decide)) rfl (vp_in_nI (by omega) (by decide)) (by rw [nI_clamp (by omega)]) d_M_bars_10 ?_
  refine lv_topi (fun v_2 e_2 => ?_)
  obtain rfl : b.2.2.2.2 = v_2 := (e_2.trans hB13).symm
  refine lv_iconst (v := -1) hx hb d_M_bars_11 (by decide) ?_
  refine lv_ixor hx hb d_M_bars_12 ?_
  refine lv_topi (fun v_3 e_3 => ?_)
  refine lv_iand hx hb d_M_bars_13 ?_
  refine lv_topi (fun v_4 e_4 => ?_)
  refine lv_if_eq (tgt := 20) hx hb d_M_bars_14 (by decide) (fun c_5 => ?_) (fun c_5 => ?_)
  · have hw0 : wtB (bxOf gd b).1 &&& ((bxOf gd b).2.2.2.2 ^^^ -1) = 0 := by show wtB (b.1.map (prOf gd)) &&& (b.2.2.2.2 ^^^ -1) = 0; rw [← hwt, ← e_1, ← e_3, ← e_4]; exact c_5
    refine lv_iconst (v := 0) hx hb d_M_bars_20 (by decide) ?_
    refine lv_istore (lv' := [(5, .int 0), (0, .ref mo), (1, .int (nI zi)), (2, .int (nI i)), (3, .int x), (4, .int y)]) hx hb d_M_bars_21 hl (by decide) rfl (fun ls hl => ?_)
    have loop_23 : ∀ (k j : Nat)  (ls : Array Slot), j ≤ bn → bn < j + k → tkB (br.map (bxOf gd)) (nI zi) x y = ((br.map (bxOf gd)).drop j).any (tkP (nI zi) x y) → lv_has ls 6 [(0, .ref mo), (1, .int (nI zi)), (2, .int (nI i)), (3, .int x), (4, .int y), (5, .int (nI j))] → W p l e (headSpec (.code y_M_bars b_M_bars 6 ((some .int)) :: GW) ({ frames := 5, cells := 0, slots := 0, locals := 122 })).room s m (#[.ref mo, .int (nI zi), .int (nI i), .int x, .int y] : Array Value) below meth c s.heap [] 0 0 (MQ below (vp_Si (fun r => r = fbB rf (mz zi) (br.map (bxOf gd)) (bxOf gd b) (nI zi) x y)) (#[.ref mo, .int (nI zi), .int (nI i), .int x, .int y] : Array Value) s 0 0 (fun _ => False)) (F0 m 23 ls []) := by
      intro k
      induction k with
      | zero =>
        intro j  ls h1_23 h2_23
        exact absurd h2_23 (by omega)
      | succ k ih_23 =>
        intro j  ls h1_23 h2_23 hI_23 hl
        refine lv_iload hx hb d_M_bars_23 (lv_at hl 5 rfl) ?_
        refine lv_aload_n hx hb d_M_bars_25 rfl (lv_at hl 0 rfl) ?_
        refine ww_get (v := .int (nI bn)) (C := R_M) (T := F_M) (N := 22) (ci := 5) hx hb hts i_M hown hK hw hM.1 rfl 13 (by decide) (hts _ k_668) (fun _ h9 => h9) rfl d_M_bars_26 ?_
        refine lv_icmp_ge (tgt := 75) hx hb d_M_bars_29 (by decide) (fun c_6 => ?_) (fun c_6 => ?_)
        · have hgeb : bn ≤ j := lp_ge rfl c_6 (by omega) (by omega)
          have hdrb : (br.map (bxOf gd)).drop j = [] := dr_n (by rw [List.length_map]; omega)
          have htk0 : tkB (br.map (bxOf gd)) (nI zi) x y = false := by rw [hI_23, hdrb]; rfl
          refine lv_iconst (v := 1) hx hb d_M_bars_75 (by decide) ?_
          refine lv_istore (lv' := [(5, .int 1), (0, .ref mo), (1, .int (nI zi)), (2, .int (nI i)), (3, .int x), (4, .int y)]) hx hb d_M_bars_76 hl (by decide) rfl (fun ls hl => ?_)
          have loop_78 : ∀ (k j : Nat)  (ls : Array Slot), j ≤ 10 → 10 < j + k → 1 ≤ j ∧ lpB (mz zi) (br.map (bxOf gd)) (bxOf gd b).1 (nI zi) = lpC (lpP (mz zi) (br.map (bxOf gd)) (bxOf gd b).1 (nI zi)) (10 - j) j → lv_has ls 6 [(0, .ref mo), (1, .int (nI zi)), (2, .int (nI i)), (3, .int x), (4, .int y), (5, .int (nI j))] → W p l e (headSpec (.code y_M_bars b_M_bars 6 ((some .int)) :: GW) ({ frames := 5, cells := 0, slots := 0, locals := 122 })).room s m (#[.ref mo, .int (nI zi), .int (nI i), .int x, .int y] : Array Value) below meth c s.heap [] 0 0 (MQ below (vp_Si (fun r => r = fbB rf (mz zi) (br.map (bxOf gd)) (bxOf gd b) (nI zi) x y)) (#[.ref mo, .int (nI zi), .int (nI i), .int x, .int y] : Array Value) s 0 0 (fun _ => False)) (F0 m 78 ls []) := by
            intro k
            induction k with
            | zero =>
              intro j  ls h1_78 h2_78
              exact absurd h2_78 (by omega)
            | succ k ih_78 =>
              intro j  ls h1_78 h2_78 hI_78 hl
              have hj1 := hI_78.1
              refine lv_iload hx hb d_M_bars_78 (lv_at hl 5 rfl) ?_
              refine lv_bipush (v := 10) hx hb d_M_bars_80 (by decide) ?_
              refine lv_icmp_ge (tgt := 139) hx hb d_M_bars_82 (by decide) (fun c_7 => ?_) (fun c_7 => ?_)
              · have hlp0 : lpB (mz zi) (br.map (bxOf gd)) (bxOf gd b).1 (nI zi) = -1 := by rw [hI_78.2, show 10 - j = 0 from by have := lp_ge (n := 10) rfl c_7 (by decide) (by omega); omega]; rfl
                refine lv_iconst (v := 0) hx hb d_M_bars_139 (by decide) ?_
                refine lv_istore (lv' := [(5, .int 0), (0, .ref mo), (1, .int (nI zi)), (2, .int (nI i)), (3, .int x), (4, .int y)]) hx hb d_M_bars_140 hl (by decide) rfl (fun ls hl => ?_)
                have loop_142 : ∀ (k j : Nat)  (ls : Array Slot), j ≤ bn → bn < j + k → nrB rf (bxOf gd b).1 (nI zi) x y (br.map (bxOf gd)) = ffx (nrP rf (bxOf gd b).1 (nI zi) x y) ((br.map (bxOf gd)).drop j) j → lv_has ls 6 [(0, .ref mo), (1, .int (nI zi)), (2, .int (nI i)), (3, .int x), (4, .int y), (5, .int (nI j))] → W p l e (headSpec (.code y_M_bars b_M_bars 6 ((some .int)) :: GW) ({ frames := 5, cells := 0, slots := 0, locals := 122 })).room s m (#[.ref mo, .int (nI zi), .int (nI i), .int x, .int y] : Array Value) below meth c s.heap [] 0 0 (MQ below (vp_Si (fun r => r = fbB rf (mz zi) (br.map (bxOf gd)) (bxOf gd b) (nI zi) x y)) (#[.ref mo, .int (nI zi), .int (nI i), .int x, .int y] : Array Value) s 0 0 (fun _ => False)) (F0 m 142 ls []) := by
                  intro k
                  induction k with
                  | zero =>
                    intro j  ls h1_142 h2_142
                    exact absurd h2_142 (by omega)
                  | succ k ih_142 =>
                    intro j  ls h1_142 h2_142 hI_142 hl
                    refine lv_iload hx hb d_M_bars_142 (lv_at hl 5 rfl) ?_
                    refine lv_aload_n hx hb d_M_bars_144 rfl (lv_at hl 0 rfl) ?_
                    refine ww_get (v := .int (nI bn)) (C := R_M) (T := F_M) (N := 22) (ci := 5) hx hb hts i_M hown hK hw hM.1 rfl 13 (by decide) (hts _ k_668) (fun _ h9 => h9) rfl d_M_bars_145 ?_
                    refine lv_icmp_ge (tgt := 187) hx hb d_M_bars_148 (by decide) (fun c_8 => ?_) (fun c_8 => ?_)
                    · have hgeb : bn ≤ j := lp_ge rfl c_8 (by omega) (by omega)
                      have hdrb : (br.map (bxOf gd)).drop j = [] := dr_n (by rw [List.length_map]; omega)
                      refine lv_iconst (v := 0) hx hb d_M_bars_187 (by decide) ?_
                      exact W.iret (v := 0) hx hb hr (fun t ht hW => ⟨0, rfl, (by unfold fbB; rw [if_pos hw0, if_neg (by rw [htk0]; decide), if_pos hlp0, if_pos (by rw [show nrB rf (bxOf gd b).1 (nI zi) x y (br.map (bxOf gd)) = ffx (nrP rf (bxOf gd b).1 (nI zi) x y) ((br.map (bxOf gd)).drop j) j from hI_142, hdrb]; rfl)]), ht⟩) t_nil d_M_bars_188
                    · have hltb : j < bn := lp_lt rfl c_8 (by omega) (by omega)
                      obtain ⟨bj, hb0⟩ : ∃ b, br[j]? = some b := ⟨_, List.getElem?_eq_getElem (by omega)⟩
                      have hBj := hRB.2.2 j bj hb0
                      obtain ⟨hB1j, hB9j, hB10j, hB13j, hBzj, hBpj⟩ := id hBj
                      have hdrb := dr_c (bx_at (gd := gd) hb0)
                      refine lv_aload_n hx hb d_M_bars_151 rfl (lv_at hl 0 rfl) ?_
                      refine ww_get (v := .ref (ad 10)) (C := R_M) (T := F_M) (N := 22) (ci := 5) hx hb hts i_M hown hK hw hM.1 rfl 15 (by decide) (hts _ k_670) (fun _ h9 => h9) rfl d_M_bars_152 ?_
                      refine lv_iload hx hb d_M_bars_155 (lv_at hl 5 rfl) ?_
                      refine ww_iald (v := (F 10) j) hx hb hK hw 0 (show w (ad 10) = some (cA g 12 (F 10)) from hM.2.1 10 (by decide)) rfl (vp_in_nI (by omega) (by decide)) (by rw [nI_clamp (by omega)]) d_M_bars_157 ?_
                      refine lv_topi (fun v_9 e_9 => ?_)
                      obtain rfl : bj.2.1 = v_9 := (e_9.trans hB10j).symm
                      refine lv_iload_n hx hb d_M_bars_158 rfl (lv_at hl 1 rfl) ?_
                      refine lv_icmp_ne (tgt := 181) hx hb d_M_bars_159 (by decide) (fun c_10 => ?_) (fun c_10 => ?_)
                      · have hnr : nrP rf (bxOf gd b).1 (nI zi) x y (bxOf gd bj) = false := by unfold nrP; rw [show decide ((bxOf gd bj).2.1 = nI zi) = false from decide_eq_false c_10]; rfl
                        refine lv_iinc (v := (nI (j + 1))) (lv' := [(5, .int (nI (j + 1))), (0, .ref mo), (1, .int (nI zi)), (2, .int (nI i)), (3, .int x), (4, .int y)]) hx hb d_M_bars_181 hl (k := 5) rfl (nI_1 _) (by decide) rfl (fun ls hl => ?_)
                        refine lv_goto (tgt := 142) hx hb d_M_bars_184 (by decide) ?_
                        exact ih_142 (j + 1)  ls (by omega) (by omega) (by rw [hI_142, hdrb, ffx, hnr]; rfl) (lv_sub hl [1, 2, 3, 4, 5, 0] rfl)
                      · obtain ⟨hzzj, h11j, h12j, hslj⟩ := hBzj.resolve_left (fun z => nI_nm1 (p := zi) (by omega) (c_10.symm.trans z.1))
                        refine lv_aload_n hx hb d_M_bars_162 rfl (lv_at hl 0 rfl) ?_
                        refine lv_iload_n hx hb d_M_bars_163 rfl (lv_at hl 2 rfl) ?_
                        refine lv_iload hx hb d_M_bars_164 (lv_at hl 5 rfl) ?_
                        refine lv_iload_n hx hb d_M_bars_166 rfl (lv_at hl 3 rfl) ?_
                        refine lv_iload hx hb d_M_bars_167 (lv_at hl 4 rfl) ?_
                        refine wr_i (cV (As := [.int (nI i), .int (nI j), .int x, .int y]) (rest := []) (C := "DangerTablesModel") 4 ⟨hx, hb, hml, hown, hts⟩ (c_M_isNear l g w mo ad t0 hd sn gn bn F gd rf i j b bj x y hM hRG hRT hrf hi (by omega) hB hBj hxy h11j h12j hslj) k_846 k_843 k_7 k_845 kp_32 (by decide +kernel) ⟨Nat.le_of_ble_eq_true rfl, Nat.le_of_ble_eq_true rfl⟩ rfl rfl ⟨prR_blind _ _ _, hw.recv hK hM.1 rfl, prR_at hG hAB hS hw⟩ rfl hl.1 rfl (Nat.le_of_ble_eq_true rfl) d_M_bars_169 ⟨Nat.zero_le _, Nat.zero_le _⟩) (fun r_11 e_11 => ?_)
                        refine lv_if_eq (tgt := 181) hx hb d_M_bars_172 (by decide) (fun c_12 => ?_) (fun c_12 => ?_)
                        · have q_12 := b2_f e_11 c_12
                          have hnr : nrP rf (bxOf gd b).1 (nI zi) x y (bxOf gd bj) = false := by unfold nrP; rw [show decide ((bxOf gd bj).2.1 = nI zi) = true from decide_eq_true c_10]; exact q_12
                          refine lv_iinc (v := (nI (j + 1))) (lv' := [(5, .int (nI (j + 1))), (0, .ref mo), (1, .int (nI zi)), (2, .int (nI i)), (3, .int x), (4, .int y)]) hx hb d_M_bars_181 hl (k := 5) rfl (nI_1 _) (by decide) rfl (fun ls hl => ?_)
                          refine lv_goto (tgt := 142) hx hb d_M_bars_184 (by decide) ?_
                          exact ih_142 (j + 1)  ls (by omega) (by omega) (by rw [hI_142, hdrb, ffx, hnr]; rfl) (lv_sub hl [1, 2, 3, 4, 5, 0] rfl)
                        · have q_12 := b2_t e_11 c_12
                          have hnr : nrP rf (bxOf gd b).1 (nI zi) x y (bxOf gd bj) = true := by unfold nrP; rw [show decide ((bxOf gd bj).2.1 = nI zi) = true from decide_eq_true c_10]; exact q_12
                          have hnrv : nrB rf (bxOf gd b).1 (nI zi) x y (br.map (bxOf gd)) = nI j := by rw [hI_142, hdrb, ffx, hnr]; rfl
                          refine lv_bipush (v := 64) hx hb d_M_bars_175 (by decide) ?_
                          refine lv_iload hx hb d_M_bars_177 (lv_at hl 5 rfl) ?_
                          refine lv_iadd hx hb d_M_bars_179 ?_
                          refine lv_topi (fun v_13 e_13 => ?_)
                          obtain rfl : v_13 = nI (64 + j) := by rw [e_13]; exact nI_add 64 j
                          exact W.iret (v := (nI (64 + j))) hx hb hr (fun t ht hW => ⟨(nI (64 + j)), rfl, (by unfold fbB; rw [if_pos hw0, if_neg (by rw [htk0]; decide), if_pos hlp0, if_neg (by rw [hnrv]; exact nI_nm1 (by omega)), hnrv]; exact (nI_add 64 j).symm), ht⟩) t_nil d_M_bars_180
                exact loop_142 (bn + 1) 0  ls (by omega) (by omega) rfl (lv_sub hl [1, 2, 3, 4, 5, 0] rfl)
              · have hlt9 : j < 10 := lp_lt (n := 10) rfl c_7 (by decide) (by omega)
                refine lv_aload_n hx hb d_M_bars_85 rfl (lv_at hl 0 rfl) ?_
                refine lv_iload_n hx hb d_M_bars_86 rfl (lv_at hl 2 rfl) ?_
                refine lv_iload hx hb d_M_bars_87 (lv_at hl 5 rfl) ?_
                refine wr_i (cV (As := [.int (nI i), .int (nI j)]) (rest := []) (C := "DangerTablesModel") 2 ⟨hx, hb, hml, hown, hts⟩ (c_M_inBox l g w mo ad t0 hd sn gn bn F gd i b (nI j) hM hRG hi hB) k_830 k_827 k_7 k_829 kp_29 (by decide +kernel) ⟨Nat.le_of_ble_eq_true rfl, Nat.le_of_ble_eq_true rfl⟩ rfl rfl ⟨prR_blind _ _ _, hw.recv hK hM.1 rfl, prR_at hG hAB hS hw⟩ rfl hl.1 rfl (Nat.le_of_ble_eq_true rfl) d_M_bars_89 ⟨Nat.zero_le _, Nat.zero_le _⟩) (fun r_14 e_14 => ?_)
                refine lv_if_le (tgt := 133) hx hb d_M_bars_92 (by decide) (fun c_15 => ?_) (fun c_15 => ?_)
                · have hP : lpP (mz zi) (br.map (bxOf gd)) (bxOf gd b).1 (nI zi) j = false := by unfold lpP; rw [show kcB (bxOf gd b).1 (nI j) = r_14 from e_14.symm, decide_eq_true c_15]; rfl
                  refine lv_iinc (v := (nI (j + 1))) (lv' := [(5, .int (nI (j + 1))), (0, .ref mo), (1, .int (nI zi)), (2, .int (nI i)), (3, .int x), (4, .int y)]) hx hb d_M_bars_133 hl (k := 5) rfl (nI_1 _) (by decide) rfl (fun ls hl => ?_)
                  refine lv_goto (tgt := 78) hx hb d_M_bars_136 (by decide) ?_
                  exact ih_78 (j + 1)  ls (by omega) (by omega) ⟨by omega, by rw [hI_78.2, show 10 - j = (10 - (j + 1)) + 1 by omega, lpC_f hP]⟩ (lv_sub hl [1, 2, 3, 4, 5, 0] rfl)
                · refine lv_aload_n hx hb d_M_bars_95 rfl (lv_at hl 0 rfl) ?_
                  refine lv_iload_n hx hb d_M_bars_96 rfl (lv_at hl 1 rfl) ?_
                  refine lv_iload hx hb d_M_bars_97 (lv_at hl 5 rfl) ?_
                  refine wr_i (cV (As := [.int (nI zi), .int (nI j)]) (rest := []) (C := "DangerTablesModel") 2 ⟨hx, hb, hml, hown, hts⟩ (c_M_inZone l g w mo ad t0 hd sn gn bn F gd br (nI zi) (nI j) hM hRG hRB) k_826 k_823 k_7 k_825 kp_28 (by decide +kernel) ⟨Nat.le_of_ble_eq_true rfl, Nat.le_of_ble_eq_true rfl⟩ rfl rfl ⟨prR_blind _ _ _, hw.recv hK hM.1 rfl, prR_at hG hAB hS hw⟩ rfl hl.1 rfl (Nat.le_of_ble_eq_true rfl) d_M_bars_99 ⟨Nat.zero_le _, Nat.zero_le _⟩) (fun r_16 e_16 => ?_)
                  refine lv_aload_n hx hb d_M_bars_102 rfl (lv_at hl 0 rfl) ?_
                  refine lv_iload_n hx hb d_M_bars_103 rfl (lv_at hl 2 rfl) ?_
                  refine lv_iload hx hb d_M_bars_104 (lv_at hl 5 rfl) ?_
                  refine wr_i (cV (As := [.int (nI i), .int (nI j)]) (rest := [.int r_16]) (C := "DangerTablesModel") 2 ⟨hx, hb, hml, hown, hts⟩ (c_M_inBox l g w mo ad t0 hd sn gn bn F gd i b (nI j) hM hRG hi hB) k_830 k_827 k_7 k_829 kp_29 (by decide +kernel) ⟨Nat.le_of_ble_eq_true rfl, Nat.le_of_ble_eq_true rfl⟩ rfl rfl ⟨prR_blind _ _ _, hw.recv hK hM.1 rfl, prR_at hG hAB hS hw⟩ rfl hl.1 rfl (Nat.le_of_ble_eq_true rfl) d_M_bars_106 ⟨Nat.zero_le _, Nat.zero_le _⟩) (fun r_17 e_17 => ?_)
                  refine lv_iadd hx hb d_M_bars_109 ?_
                  refine lv_topi (fun v_18 e_18 => ?_)
                  refine lv_aload_n hx hb d_M_bars_110 rfl (lv_at hl 0 rfl) ?_
                  refine ww_get (v := .ref (ad 16)) (C := R_M) (T := F_M) (N := 22) (ci := 5) hx hb hts i_M hown hK hw hM.1 rfl 21 (by decide) (hts _ k_676) (fun _ h9 => h9) rfl d_M_bars_111 ?_
                  refine lv_bipush (v := 9) hx hb d_M_bars_114 (by decide) ?_
                  refine lv_iload_n hx hb d_M_bars_116 rfl (lv_at hl 1 rfl) ?_
                  refine lv_imul hx hb d_M_bars_117 ?_
                  refine lv_topi (fun v_19 e_19 => ?_)
                  obtain rfl : v_19 = nI (9 * zi) := by rw [e_19]; exact pk_mul 9 zi
                  refine lv_iload hx hb d_M_bars_118 (lv_at hl 5 rfl) ?_
                  refine lv_iadd hx hb d_M_bars_120 ?_
                  refine lv_topi (fun v_20 e_20 => ?_)
                  obtain rfl : v_20 = nI ((9 * zi) + j) := by rw [e_20]; exact nI_add (9 * zi) j
                  refine lv_iconst (v := 1) hx hb d_M_bars_121 (by decide) ?_
                  refine lv_isub hx hb d_M_bars_122 ?_
                  refine lv_topi (fun v_21 e_21 => ?_)
                  obtain rfl : v_21 = nI (((9 * zi) + j) - 1) := by rw [e_21]; exact pk_sub (a := (9 * zi) + j) (b := 1) (by omega)
                  refine ww_iald (v := (F 16) (((9 * zi) + j) - 1)) hx hb hK hw 0 (show w (ad 16) = some (cA g 36 (F 16)) from hM.2.1 16 (by decide)) rfl (vp_in_nI (by omega) (by decide)) (by rw [nI_clamp (by omega)]) d_M_bars_123 ?_
                  refine lv_topi (fun v_22 e_22 => ?_)
                  obtain rfl : mz zi j = v_22 := (e_22.trans (mzAt hRZ hzi hj1 (by omega))).symm
                  refine lv_icmp_le (tgt := 133) hx hb d_M_bars_124 (by decide) (fun c_23 => ?_) (fun c_23 => ?_)
                  · have hP : lpP (mz zi) (br.map (bxOf gd)) (bxOf gd b).1 (nI zi) j = false := by unfold lpP; rw [show kcB (bxOf gd b).1 (nI j) + kzB (br.map (bxOf gd)) (nI zi) (nI j) = v_18 from by rw [Int32.add_comm, e_18, e_16, e_17]; rfl, decide_eq_true c_23, Bool.not_true, Bool.and_false]
                    refine lv_iinc (v := (nI (j + 1))) (lv' := [(5, .int (nI (j + 1))), (0, .ref mo), (1, .int (nI zi)), (2, .int (nI i)), (3, .int x), (4, .int y)]) hx hb d_M_bars_133 hl (k := 5) rfl (nI_1 _) (by decide) rfl (fun ls hl => ?_)
                    refine lv_goto (tgt := 78) hx hb d_M_bars_136 (by decide) ?_
                    exact ih_78 (j + 1)  ls (by omega) (by omega) ⟨by omega, by rw [hI_78.2, show 10 - j = (10 - (j + 1)) + 1 by omega, lpC_f hP]⟩ (lv_sub hl [1, 2, 3, 4, 5, 0] rfl)
                  · have hP : lpP (mz zi) (br.map (bxOf gd)) (bxOf gd b).1 (nI zi) j = true := by unfold lpP; rw [show kcB (bxOf gd b).1 (nI j) + kzB (br.map (bxOf gd)) (nI zi) (nI j) = v_18 from by rw [Int32.add_comm, e_18, e_16, e_17]; rfl, show kcB (bxOf gd b).1 (nI j) = _ from e_14.symm, decide_eq_false c_15, decide_eq_false c_23]; rfl
                    have hlpv : lpB (mz zi) (br.map (bxOf gd)) (bxOf gd b).1 (nI zi) = nI j := by rw [hI_78.2, show 10 - j = (10 - (j + 1)) + 1 by omega, lpC_t hP]
                    refine lv_bipush (v := 48) hx hb d_M_bars_127 (by decide) ?_
                    refine lv_iload hx hb d_M_bars_129 (lv_at hl 5 rfl) ?_
                    refine lv_iadd hx hb d_M_bars_131 ?_
                    refine lv_topi (fun v_24 e_24 => ?_)
                    obtain rfl : v_24 = nI (48 + j) := by rw [e_24]; exact nI_add 48 j
                    exact W.iret (v := (nI (48 + j))) hx hb hr (fun t ht hW => ⟨(nI (48 + j)), rfl, (by unfold fbB; rw [if_pos hw0, if_neg (by rw [htk0]; decide), if_neg (by rw [hlpv]; exact nI_nm1 (by omega)), hlpv]; exact (nI_add 48 j).symm), ht⟩) t_nil d_M_bars_132
          exact loop_78 (10 + 1) 1  ls (by omega) (by omega) ⟨Nat.le_refl 1, rfl⟩ (lv_sub hl [1, 2, 3, 4, 5, 0] rfl)
        · have hltb : j < bn := lp_lt rfl c_6 (by omega) (by omega)
          obtain ⟨bj, hb0⟩ : ∃ b, br[j]? = some b := ⟨_, List.getElem?_eq_getElem (by omega)⟩
          have hBj := hRB.2.2 j bj hb0
          obtain ⟨hB1j, hB9j, hB10j, hB13j, hBzj, hBpj⟩ := id hBj
          have hdrb := dr_c (bx_at (gd := gd) hb0)
          refine lv_aload_n hx hb d_M_bars_32 rfl (lv_at hl 0 rfl) ?_
          refine ww_get (v := .ref (ad 10)) (C := R_M) (T := F_M) (N := 22) (ci := 5) hx hb hts i_M hown hK hw hM.1 rfl 15 (by decide) (hts _ k_670) (fun _ h9 => h9) rfl d_M_bars_33 ?_
          refine lv_iload hx hb d_M_bars_36 (lv_at hl 5 rfl) ?_
          refine ww_iald (v := (F 10) j) hx hb hK hw 0 (show w (ad 10) = some (cA g 12 (F 10)) from hM.2.1 10 (by decide)) rfl (vp_in_nI (by omega) (by decide)) (by rw [nI_clamp (by omega)]) d_M_bars_38 ?_
          refine lv_topi (fun v_25 e_25 => ?_)
          obtain rfl : bj.2.1 = v_25 := (e_25.trans hB10j).symm
          refine lv_iload_n hx hb d_M_bars_39 rfl (lv_at hl 1 rfl) ?_
          refine lv_icmp_ne (tgt := 69) hx hb d_M_bars_40 (by decide) (fun c_26 => ?_) (fun c_26 => ?_)
          · have htk : tkP (nI zi) x y (bxOf gd bj) = false := by show (decide (bj.2.1 = nI zi) && decide (bj.2.2.1 = x) && decide (bj.2.2.2.1 = y)) = false; rw [decide_eq_false c_26]; simp
            refine lv_iinc (v := (nI (j + 1))) (lv' := [(5, .int (nI (j + 1))), (0, .ref mo), (1, .int (nI zi)), (2, .int (nI i)), (3, .int x), (4, .int y)]) hx hb d_M_bars_69 hl (k := 5) rfl (nI_1 _) (by decide) rfl (fun ls hl => ?_)
            refine lv_goto (tgt := 23) hx hb d_M_bars_72 (by decide) ?_
            exact ih_23 (j + 1)  ls (by omega) (by omega) (by rw [hI_23, hdrb, List.any_cons, htk]; rfl) (lv_sub hl [1, 2, 3, 4, 5, 0] rfl)
          · obtain ⟨hzzj, h11j, h12j, hslj⟩ := hBzj.resolve_left (fun z => nI_nm1 (p := zi) (by omega) (c_26.symm.trans z.1))
            refine lv_aload_n hx hb d_M_bars_43 rfl (lv_at hl 0 rfl) ?_
            refine ww_get (v := .ref (ad 11)) (C := R_M) (T := F_M) (N := 22) (ci := 5) hx hb hts i_M hown hK hw hM.1 rfl 16 (by decide) (hts _ k_671) (fun _ h9 => h9) rfl d_M_bars_44 ?_
            refine lv_iload hx hb d_M_bars_47 (lv_at hl 5 rfl) ?_
            refine ww_iald (v := (F 11) j) hx hb hK hw 0 (show w (ad 11) = some (cA g 12 (F 11)) from hM.2.1 11 (by decide)) rfl (vp_in_nI (by omega) (by decide)) (by rw [nI_clamp (by omega)]) d_M_bars_49 ?_
            refine lv_topi (fun v_27 e_27 => ?_)
            obtain rfl : bj.2.2.1 = v_27 := (e_27.trans h11j).symm
            refine lv_iload_n hx hb d_M_bars_50 rfl (lv_at hl 3 rfl) ?_
            refine lv_icmp_ne (tgt := 69) hx hb d_M_bars_51 (by decide) (fun c_28 => ?_) (fun c_28 => ?_)
            · have htk : tkP (nI zi) x y (bxOf gd bj) = false := by show (decide (bj.2.1 = nI zi) && decide (bj.2.2.1 = x) && decide (bj.2.2.2.1 = y)) = false; rw [decide_eq_false c_28]; simp
              refine lv_iinc (v := (nI (j + 1))) (lv' := [(5, .int (nI (j + 1))), (0, .ref mo), (1, .int (nI zi)), (2, .int (nI i)), (3, .int x), (4, .int y)]) hx hb d_M_bars_69 hl (k := 5) rfl (nI_1 _) (by decide) rfl (fun ls hl => ?_)
              refine lv_goto (tgt := 23) hx hb d_M_bars_72 (by decide) ?_
              exact ih_23 (j + 1)  ls (by omega) (by omega) (by rw [hI_23, hdrb, List.any_cons, htk]; rfl) (lv_sub hl [1, 2, 3, 4, 5, 0] rfl)
            · refine lv_aload_n hx hb d_M_bars_54 rfl (lv_at hl 0 rfl) ?_
              refine ww_get (v := .ref (ad 12)) (C := R_M) (T := F_M) (N := 22) (ci := 5) hx hb hts i_M hown hK hw hM.1 rfl 17 (by decide) (hts _ k_672) (fun _ h9 => h9) rfl d_M_bars_55 ?_
              refine lv_iload hx hb d_M_bars_58 (lv_at hl 5 rfl) ?_
              refine ww_iald (v := (F 12) j) hx hb hK hw 0 (show w (ad 12) = some (cA g 12 (F 12)) from hM.2.1 12 (by decide)) rfl (vp_in_nI (by omega) (by decide)) (by rw [nI_clamp (by omega)]) d_M_bars_60 ?_
              refine lv_topi (fun v_29 e_29 => ?_)
              obtain rfl : bj.2.2.2.1 = v_29 := (e_29.trans h12j).symm
              refine lv_iload hx hb d_M_bars_61 (lv_at hl 4 rfl) ?_
              refine lv_icmp_ne (tgt := 69) hx hb d_M_bars_63 (by decide) (fun c_30 => ?_) (fun c_30 => ?_)
              · have htk : tkP (nI zi) x y (bxOf gd bj) = false := by show (decide (bj.2.1 = nI zi) && decide (bj.2.2.1 = x) && decide (bj.2.2.2.1 = y)) = false; rw [decide_eq_false c_30]; simp
                refine lv_iinc (v := (nI (j + 1))) (lv' := [(5, .int (nI (j + 1))), (0, .ref mo), (1, .int (nI zi)), (2, .int (nI i)), (3, .int x), (4, .int y)]) hx hb d_M_bars_69 hl (k := 5) rfl (nI_1 _) (by decide) rfl (fun ls hl => ?_)
                refine lv_goto (tgt := 23) hx hb d_M_bars_72 (by decide) ?_
                exact ih_23 (j + 1)  ls (by omega) (by omega) (by rw [hI_23, hdrb, List.any_cons, htk]; rfl) (lv_sub hl [1, 2, 3, 4, 5, 0] rfl)
              · refine lv_bipush (v := 32) hx hb d_M_bars_66 (by decide) ?_
                exact W.iret (v := 32) hx hb hr (fun t ht hW => ⟨32, rfl, (by unfold fbB; rw [if_pos hw0, if_pos (by rw [hI_23, hdrb, List.any_cons, show tkP (nI zi) x y (bxOf gd bj) = true from by show (decide (bj.2.1 = nI zi) && decide (bj.2.2.1 = x) && decide (bj.2.2.2.1 = y)) = true; rw [decide_eq_true c_26, decide_eq_true c_28, decide_eq_true c_30]; rfl]; rfl)]), ht⟩) t_nil d_M_bars_68
    exact loop_23 (bn + 1) 0  ls (by omega) (by omega) rfl (lv_sub hl [1, 2, 3, 4, 5, 0] rfl)
  · have hw0 : ¬ wtB (bxOf gd b).1 &&& ((bxOf gd b).2.2.2.2 ^^^ -1) = 0 := by show ¬ wtB (b.1.map (prOf gd)) &&& (b.2.2.2.2 ^^^ -1) = 0; rw [← hwt, ← e_1, ← e_3, ← e_4]; exact c_5
    refine lv_bipush (v := 16) hx hb d_M_bars_17 (by decide) ?_
    exact W.iret (v := 16) hx hb hr (fun t ht hW => ⟨16, rfl, (by unfold fbB; rw [if_neg hw0]), ht⟩) t_nil d_M_bars_19

