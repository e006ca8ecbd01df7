/-! WHAT BARS A PLACE, the rest -/
theorem gt9 {i : Nat} (c : (9 : Int32) < nI i) (hi : i < 2 ^ 31) : 9 < i := (nI_ltI (a := 9) (by decide) hi).mp c
theorem le9 {i : Nat} (c : ¬ (9 : Int32) < nI i) (hi : i < 2 ^ 31) : i ≤ 9 := by
  rcases Nat.lt_or_ge 9 i with h | h
  · exact absurd ((nI_ltI (a := 9) (by decide) hi).mpr h) c
  · exact h
theorem lpC_t {p : Nat → Bool} {n i : Nat} (h : p i = true) : lpC p (n + 1) i = nI i := by rw [lpC, if_pos h]
theorem lpC_f {p : Nat → Bool} {n i : Nat} (h : p i = false) : lpC p (n + 1) i = lpC p n (i + 1) := by rw [lpC, if_neg (by rw [h]; decide)]
set_option maxHeartbeats 4000000 in
set_option maxRecDepth 100000 in
theorem c_T_leastPassedClass (l : Launch) (g : GT) (w : Nat → Option va_E) (th tx ru : Nat) (rd : Int32) (go bo zo : Nat) (aA : Nat) (bA : BX) (arr : Nat) (xs : List Nat) (bs : List BX) (fz : Nat → Option Nat) (mz : Nat → Nat → Int32) (zi : Nat) (ht : w th = some (cT tx ru rd go bo zo)) (hB1 : isBx g w aA bA) (hL : isL g w bo arr xs) (hlen : xs.length = bs.length) (hbs : ∀ i a : Nat, xs[i]? = some a → ∃ b, bs[i]? = some b ∧ isBx g w a b) (hz : w zo = some (cZ g fz)) (hzr : ∀ k : Nat, k < 4 → ∃ q : Nat, fz k = some q ∧ w q = some (cA g 10 (mz k))) (hzi : zi < 4) : Met l y_T_leastPassedClass (.code y_T_leastPassedClass b_T_leastPassedClass 5 ((some .int)) :: GW) ({ frames := 5, cells := 0, slots := 0, locals := 113 }) (prR g [.ref th, .ref aA, .int (nI zi)] w) (vp_Si (fun r => r = lpB (mz zi) bs bA.1 (nI zi))) 0 0 (fun _ => False) := by
  refine Met.ofW (cc := b_T_leastPassedClass) (maxL := 5) (ret := (some .int)) (by decide) rfl ?_
  intro p e s m args below meth c s₁ B hml hv
  obtain ⟨rfl, hG, hw⟩ := hv
  have hx := B.exec
  have hb := B.bytes
  have hr := B.returns
  have hts : ∀ w ∈ GW, w.before _ s = true := fun w h => atoms_spec (ws := .code y_T_leastPassedClass b_T_leastPassedClass 5 ((some .int)) :: GW) B.pre w (List.mem_cons_of_mem _ h)
  have hown : s.vm.findClass "DangerTables" = some m.cls := findClass_of_methodNamed B.named
  have hlocks := B.notSynchronized
  have hf := hG.here
  have hK := hf.1
  have hAB : ∀ q, gB g q → gB g q := fun _ h => h
  have hS : va_S (gB g) s.heap s.heap [] := va_S.rf
  have hl := lv_entry ([.ref th, .ref aA, .int (nI zi)]) (n := 5) (Nat.le_of_ble_eq_true rfl)
  rw [lg_entry_eq]
  generalize (lg_sl ([.ref th, .ref aA, .int (nI zi)]) ++ List.replicate (5 - (lg_sl ([.ref th, .ref aA, .int (nI zi)])).length) Slot.unset).toArray = ls at hl ⊢
  have hl : lv_has ls 5 [(0, .ref th), (1, .ref aA), (2, .int (nI zi))] := hl
  obtain ⟨plA, parrA, psA, hxA, -⟩ := id hB1
  refine lv_iconst (v := 1) hx hb d_T_leastPassedClass_0 (by decide) ?_
  refine lv_istore_n (lv' := [(3, .int 1), (0, .ref th), (1, .ref aA), (2, .int (nI zi))]) hx hb d_T_leastPassedClass_1 rfl hl (by decide) rfl (fun ls hl => ?_)
  have loop_2 : ∀ (k i : Nat)  (ls : Array Slot), i ≤ 10 → 10 < i + k → lpB (mz zi) bs bA.1 (nI zi) = lpC (lpP (mz zi) bs bA.1 (nI zi)) (10 - i) i → lv_has ls 5 [(0, .ref th), (1, .ref aA), (2, .int (nI zi)), (3, .int (nI i))] → W p l e (headSpec (.code y_T_leastPassedClass b_T_leastPassedClass 5 ((some .int)) :: GW) ({ frames := 5, cells := 0, slots := 0, locals := 113 })).room s m (#[.ref th, .ref aA, .int (nI zi)] : Array Value) below meth c s.heap [] 0 0 (MQ below (vp_Si (fun r => r = lpB (mz zi) bs bA.1 (nI zi))) (#[.ref th, .ref aA, .int (nI zi)] : Array Value) s 0 0 (fun _ => False)) (F0 m 2 ls []) := by
    intro k
    induction k with
    | zero =>
      intro i  ls h1_2 h2_2
      exact absurd h2_2 (by omega)
    | succ k ih_2 =>
      intro i  ls h1_2 h2_2 hI_2 hl
      refine lv_iload_n hx hb d_T_leastPassedClass_2 rfl (lv_at hl 3 rfl) ?_
      refine lv_bipush (v := 9) hx hb d_T_leastPassedClass_3 (by decide) ?_
      refine lv_icmp_gt (tgt := 48) hx hb d_T_leastPassedClass_5 (by decide) (fun c_1 => ?_) (fun c_1 => ?_)
      · have hge := gt9 c_1 (by omega)
        obtain rfl : i = 10 := by omega
        refine lv_iconst (v := -1) hx hb d_T_leastPassedClass_48 (by decide) ?_
        exact W.iret (v := (-1)) hx hb hr (fun t ht hW => ⟨(-1), rfl, (by rw [hI_2]; rfl), ht⟩) t_nil d_T_leastPassedClass_49
      · have hlt := le9 c_1 (by omega)
        refine lv_aload_n hx hb d_T_leastPassedClass_8 rfl (lv_at hl 1 rfl) ?_
        refine lv_iload_n hx hb d_T_leastPassedClass_9 rfl (lv_at hl 3 rfl) ?_
        refine wr_i (cV (As := [.int (nI i)]) (rest := []) (C := "DangerTables$Box") 1 ⟨hx, hb, hml, hown, hts⟩ (c_X_kilogramsOf l g w aA bA (nI i) hB1) k_541 k_538 k_19 k_539 k_540 (by decide +kernel) ⟨Nat.le_of_ble_eq_true rfl, Nat.le_of_ble_eq_true rfl⟩ rfl rfl ⟨prR_blind _ _ _, hw.recv hK hxA rfl, prR_at hG hAB hS hw⟩ rfl hl.1 rfl (Nat.le_of_ble_eq_true rfl) d_T_leastPassedClass_10 ⟨Nat.zero_le _, Nat.zero_le _⟩) (fun r_2 e_2 => ?_)
        refine lv_istore (lv' := [(4, .int r_2), (0, .ref th), (1, .ref aA), (2, .int (nI zi)), (3, .int (nI i))]) hx hb d_T_leastPassedClass_13 hl (by decide) rfl (fun ls hl => ?_)
        refine lv_iload hx hb d_T_leastPassedClass_15 (lv_at hl 0 rfl) ?_
        refine lv_if_le (tgt := 42) hx hb d_T_leastPassedClass_17 (by decide) (fun c_3 => ?_) (fun c_3 => ?_)
        · have hP : lpP (mz zi) bs bA.1 (nI zi) i = false := by unfold lpP; rw [← e_2, decide_eq_true c_3]; rfl
          refine lv_iinc (v := (nI (i + 1))) (lv' := [(3, .int (nI (i + 1))), (4, .int r_2), (0, .ref th), (1, .ref aA), (2, .int (nI zi))]) hx hb d_T_leastPassedClass_42 hl (k := 4) rfl (nI_1 _) (by decide) rfl (fun ls hl => ?_)
          refine lv_goto (tgt := 2) hx hb d_T_leastPassedClass_45 (by decide) ?_
          exact ih_2 (i + 1)  ls (by omega) (by omega) (by rw [hI_2, show 10 - i = (10 - (i + 1)) + 1 by omega, lpC_f hP]) (lv_sub hl [2, 3, 4, 0] rfl)
        · refine lv_iload hx hb d_T_leastPassedClass_20 (lv_at hl 0 rfl) ?_
          refine lv_aload_n hx hb d_T_leastPassedClass_22 rfl (lv_at hl 1 rfl) ?_
          refine lv_iload_n hx hb d_T_leastPassedClass_23 rfl (lv_at hl 3 rfl) ?_
          refine lv_iload_n hx hb d_T_leastPassedClass_24 rfl (lv_at hl 4 rfl) ?_
          refine wr_i (cV (As := [.int (nI zi), .int (nI i)]) (rest := [.int r_2]) (C := "DangerTables") 2 ⟨hx, hb, hml, hown, hts⟩ (c_T_kilogramsInZone l g w th tx ru rd go bo zo arr xs bs (nI zi) (nI i) ht hL hlen hbs) k_537 k_534 k_1 k_536 kp_13 (by decide +kernel) ⟨Nat.le_of_ble_eq_true rfl, Nat.le_of_ble_eq_true rfl⟩ rfl rfl ⟨prR_blind _ _ _, hw.recv hK ht rfl, prR_at hG hAB hS hw⟩ rfl hl.1 rfl (Nat.le_of_ble_eq_true rfl) d_T_leastPassedClass_25 ⟨Nat.zero_le _, Nat.zero_le _⟩) (fun r_4 e_4 => ?_)
          refine lv_iadd hx hb d_T_leastPassedClass_28 ?_
          refine lv_topi (fun v_5 e_5 => ?_)
          refine lv_aload_n hx hb d_T_leastPassedClass_29 rfl (lv_at hl 1 rfl) ?_
          refine ww_get (v := .ref zo) (C := R_T) (T := F_T) (N := 6) (ci := 0) hx hb hts i_T hown hK hw ht rfl 5 (by decide) (hts _ k_85) (fun _ h9 => h9) rfl d_T_leastPassedClass_30 ?_
          refine lv_iload_n hx hb d_T_leastPassedClass_33 rfl (lv_at hl 3 rfl) ?_
          obtain ⟨zr, hfz, hzq⟩ := hzr zi hzi
          refine ww_aldA (v := .ref zr) hx hb hK hw 4 hz rfl (vp_in_nI hzi (by decide)) (rf_at (by omega) hfz) d_T_leastPassedClass_34 ?_
          refine lv_iload_n hx hb d_T_leastPassedClass_35 rfl (lv_at hl 4 rfl) ?_
          refine ww_iald (v := mz zi i) hx hb hK hw 0 hzq rfl (vp_in_nI (by omega) (by decide)) (by rw [nI_clamp (by omega)]) d_T_leastPassedClass_36 ?_
          refine lv_icmp_le (tgt := 42) hx hb d_T_leastPassedClass_37 (by decide) (fun c_6 => ?_) (fun c_6 => ?_)
          · have hP : lpP (mz zi) bs bA.1 (nI zi) i = false := by unfold lpP; rw [← e_4, ← e_2, ← e_5, decide_eq_true c_6, Bool.not_true, Bool.and_false]
            refine lv_iinc (v := (nI (i + 1))) (lv' := [(3, .int (nI (i + 1))), (4, .int r_2), (0, .ref th), (1, .ref aA), (2, .int (nI zi))]) hx hb d_T_leastPassedClass_42 hl (k := 4) rfl (nI_1 _) (by decide) rfl (fun ls hl => ?_)
            refine lv_goto (tgt := 2) hx hb d_T_leastPassedClass_45 (by decide) ?_
            exact ih_2 (i + 1)  ls (by omega) (by omega) (by rw [hI_2, show 10 - i = (10 - (i + 1)) + 1 by omega, lpC_f hP]) (lv_sub hl [2, 3, 4, 0] rfl)
          · have hP : lpP (mz zi) bs bA.1 (nI zi) i = true := by unfold lpP; rw [← e_4, ← e_2, ← e_5, decide_eq_false c_3, decide_eq_false c_6]; rfl
            refine lv_iload_n hx hb d_T_leastPassedClass_40 rfl (lv_at hl 4 rfl) ?_
            exact W.iret (v := (nI i)) hx hb hr (fun t ht hW => ⟨(nI i), rfl, (by rw [hI_2, show 10 - i = (10 - (i + 1)) + 1 by omega, lpC_t hP]), ht⟩) t_nil d_T_leastPassedClass_41
  exact loop_2 (10 + 1) 1  ls (by omega) (by omega) rfl (lv_sub hl [1, 2, 3, 0] rfl)

set_option maxHeartbeats 4000000 in
set_option maxRecDepth 100000 in
theorem c_T_firstBar (l : Launch) (g : GT) (w : Nat → Option va_E) (th tx ru : Nat) (rd : Int32) (go bo zo : Nat) (rf : Nat → Int32) (aA : Nat) (bA : BX) (arr : Nat) (xs : List Nat) (bs : List BX) (x y : Int32) (fz : Nat → Option Nat) (mz : Nat → Nat → Int32) (zi : Nat) (ht : w th = some (cT tx ru rd go bo zo)) (hru : w ru = some (cA g 45 rf)) (hrf : okR rf) (hB1 : isBx g w aA bA) (ho1 : ∀ r ∈ bA.1, okP r) (hL : isL g w bo arr xs) (hlen : xs.length = bs.length) (hbs : ∀ i a : Nat, xs[i]? = some a → ∃ b, bs[i]? = some b ∧ isBx g w a b) (hos : ∀ b ∈ bs, ∀ r ∈ b.1, okP r) (hz : w zo = some (cZ g fz)) (hzr : ∀ k : Nat, k < 4 → ∃ q : Nat, fz k = some q ∧ w q = some (cA g 10 (mz k))) (hzi : zi < 4) : Met l y_T_firstBar (.code y_T_firstBar b_T_firstBar 7 ((some .int)) :: GW) ({ frames := 6, cells := 0, slots := 0, locals := 137 }) (prR g [.ref th, .ref aA, .int (nI zi), .int x, .int y] w) (vp_Si (fun r => r = fbB rf (mz zi) bs bA (nI zi) x y)) 0 0 (fun _ => False) := by
  refine Met.ofW (cc := b_T_firstBar) (maxL := 7) (ret := (some .int)) (by decide) rfl ?_
  intro p e s m args below meth c s₁ B hml hv
  obtain ⟨rfl, hG, hw⟩ := hv
  have hx := B.exec
  have hb := B.bytes
  have hr := B.returns
  have hts : ∀ w ∈ GW, w.before _ s = true := fun w h => atoms_spec (ws := .code y_T_firstBar b_T_firstBar 7 ((some .int)) :: GW) B.pre w (List.mem_cons_of_mem _ h)
  have hown : s.vm.findClass "DangerTables" = some m.cls := findClass_of_methodNamed B.named
  have hlocks := B.notSynchronized
  have hf := hG.here
  have hK := hf.1
  have hAB : ∀ q, gB g q → gB g q := fun _ h => h
  have hS : va_S (gB g) s.heap s.heap [] := va_S.rf
  have hl := lv_entry ([.ref th, .ref aA, .int (nI zi), .int x, .int y]) (n := 7) (Nat.le_of_ble_eq_true rfl)
  rw [lg_entry_eq]
  generalize (lg_sl ([.ref th, .ref aA, .int (nI zi), .int x, .int y]) ++ List.replicate (7 - (lg_sl ([.ref th, .ref aA, .int (nI zi), .int x, .int y])).length) Slot.unset).toArray = ls at hl ⊢
  have hl : lv_has ls 7 [(0, .ref th), (1, .ref aA), (2, .int (nI zi)), (3, .int x), (4, .int y)] := hl
  obtain ⟨plA, parrA, psA, hxA, -⟩ := id hB1
  refine lv_aload_n hx hb d_T_firstBar_0 rfl (lv_at hl 1 rfl) ?_
  refine wr_i (cV (As := []) (rest := []) (C := "DangerTables$Box") 0 ⟨hx, hb, hml, hown, hts⟩ (c_X_untoldFields l g w aA bA hB1) k_565 k_562 k_19 k_563 k_564 (by decide +kernel) ⟨Nat.le_of_ble_eq_true rfl, Nat.le_of_ble_eq_true rfl⟩ rfl rfl ⟨prR_blind _ _ _, hw.recv hK hxA rfl, prR_at hG hAB hS hw⟩ rfl hl.1 rfl (Nat.le_of_ble_eq_true rfl) d_T_firstBar_1 ⟨Nat.zero_le _, Nat.zero_le _⟩) (fun r_1 e_1 => ?_)
  refine lv_if_eq (tgt := 10) hx hb d_T_firstBar_4 (by decide) (fun c_2 => ?_) (fun c_2 => ?_)
  · refine lv_aload_n hx hb d_T_firstBar_10 rfl (lv_at hl 0 rfl) ?_
    refine lv_iload_n hx hb d_T_firstBar_11 rfl (lv_at hl 2 rfl) ?_
    refine lv_iload_n hx hb d_T_firstBar_12 rfl (lv_at hl 3 rfl) ?_
    refine lv_iload hx hb d_T_firstBar_13 (lv_at hl 4 rfl) ?_
    refine wr_i (cV (As := [.int (nI zi), .int x, .int y]) (rest := []) (C := "DangerTables") 3 ⟨hx, hb, hml, hown, hts⟩ (c_T_isTaken l g w th tx ru rd go bo zo arr xs bs (nI zi) x y ht hL hlen hbs) k_574 k_571 k_1 k_573 kp_15 (by decide +kernel) ⟨Nat.le_of_ble_eq_true rfl, Nat.le_of_ble_eq_true rfl⟩ rfl rfl ⟨prR_blind _ _ _, hw.recv hK ht rfl, prR_at hG hAB hS hw⟩ rfl hl.1 rfl (Nat.le_of_ble_eq_true rfl) d_T_firstBar_15 ⟨Nat.zero_le _, Nat.zero_le _⟩) (fun r_3 e_3 => ?_)
    refine lv_if_eq (tgt := 24) hx hb d_T_firstBar_18 (by decide) (fun c_4 => ?_) (fun c_4 => ?_)
    · have q_4 := b2_f e_3 c_4
      refine lv_aload_n hx hb d_T_firstBar_24 rfl (lv_at hl 0 rfl) ?_
      refine lv_aload_n hx hb d_T_firstBar_25 rfl (lv_at hl 1 rfl) ?_
      refine lv_iload_n hx hb d_T_firstBar_26 rfl (lv_at hl 2 rfl) ?_
      refine wr_i (cV (As := [.ref aA, .int (nI zi)]) (rest := []) (C := "DangerTables") 2 ⟨hx, hb, hml, hown, hts⟩ (c_T_leastPassedClass l g w th tx ru rd go bo zo aA bA arr xs bs fz mz zi ht hB1 hL hlen hbs hz hzr hzi) k_578 k_575 k_1 k_577 kp_16 (by decide +kernel) ⟨Nat.le_of_ble_eq_true rfl, Nat.le_of_ble_eq_true rfl⟩ rfl rfl ⟨prR_blind _ _ _, hw.recv hK ht rfl, prR_at hG hAB hS hw⟩ rfl hl.1 rfl (Nat.le_of_ble_eq_true rfl) d_T_firstBar_27 ⟨Nat.zero_le _, Nat.zero_le _⟩) (fun r_5 e_5 => ?_)
      refine lv_istore (lv' := [(5, .int r_5), (0, .ref th), (1, .ref aA), (2, .int (nI zi)), (3, .int x), (4, .int y)]) hx hb d_T_firstBar_30 hl (by decide) rfl (fun ls hl => ?_)
      refine lv_iload hx hb d_T_firstBar_32 (lv_at hl 0 rfl) ?_
      refine lv_iconst (v := -1) hx hb d_T_firstBar_34 (by decide) ?_
      refine lv_icmp_eq (tgt := 44) hx hb d_T_firstBar_35 (by decide) (fun c_6 => ?_) (fun c_6 => ?_)
      · refine lv_aload_n hx hb d_T_firstBar_44 rfl (lv_at hl 1 rfl) ?_
        refine lv_aload_n hx hb d_T_firstBar_45 rfl (lv_at hl 2 rfl) ?_
        refine lv_iload_n hx hb d_T_firstBar_46 rfl (lv_at hl 3 rfl) ?_
        refine lv_iload_n hx hb d_T_firstBar_47 rfl (lv_at hl 4 rfl) ?_
        refine lv_iload hx hb d_T_firstBar_48 (lv_at hl 5 rfl) ?_
        refine wr_i (cV (As := [.ref aA, .int (nI zi), .int x, .int y]) (rest := []) (C := "DangerTables") 4 ⟨hx, hb, hml, hown, hts⟩ (c_T_leastTooNear l g w th tx ru rd go bo zo rf aA bA arr xs bs (nI zi) x y ht hru hrf hB1 ho1 hL hlen hbs hos) k_582 k_579 k_1 k_581 kp_17 (by decide +kernel) ⟨Nat.le_of_ble_eq_true rfl, Nat.le_of_ble_eq_true rfl⟩ rfl rfl ⟨prR_blind _ _ _, hw.recv hK ht rfl, prR_at hG hAB hS hw⟩ rfl hl.1 rfl (Nat.le_of_ble_eq_true rfl) d_T_firstBar_50 ⟨Nat.zero_le _, Nat.zero_le _⟩) (fun r_7 e_7 => ?_)
        refine lv_istore (lv' := [(6, .int r_7), (5, .int r_5), (0, .ref th), (1, .ref aA), (2, .int (nI zi)), (3, .int x), (4, .int y)]) hx hb d_T_firstBar_53 hl (by decide) rfl (fun ls hl => ?_)
        refine lv_iload hx hb d_T_firstBar_55 (lv_at hl 0 rfl) ?_
        refine lv_iconst (v := -1) hx hb d_T_firstBar_57 (by decide) ?_
        refine lv_icmp_ne (tgt := 65) hx hb d_T_firstBar_58 (by decide) (fun c_8 => ?_) (fun c_8 => ?_)
        · refine lv_bipush (v := 64) hx hb d_T_firstBar_65 (by decide) ?_
          refine lv_iload hx hb d_T_firstBar_67 (lv_at hl 0 rfl) ?_
          refine lv_iadd hx hb d_T_firstBar_69 ?_
          refine lv_topi (fun v_9 e_9 => ?_)
          exact W.iret (v := v_9) hx hb hr (fun t ht hW => ⟨v_9, rfl, (by unfold fbB; rw [← e_1, if_pos c_2, if_neg (by rw [q_4]; decide), ← e_5, if_pos c_6, ← e_7, if_neg c_8]; exact e_9), ht⟩) t_nil d_T_firstBar_70
        · refine lv_iconst (v := 0) hx hb d_T_firstBar_61 (by decide) ?_
          refine lv_goto (tgt := 70) hx hb d_T_firstBar_62 (by decide) ?_
          exact W.iret (v := 0) hx hb hr (fun t ht hW => ⟨0, rfl, (by unfold fbB; rw [← e_1, if_pos c_2, if_neg (by rw [q_4]; decide), ← e_5, if_pos c_6, ← e_7, if_pos c_8]), ht⟩) t_nil d_T_firstBar_70
      · refine lv_bipush (v := 48) hx hb d_T_firstBar_38 (by decide) ?_
        refine lv_iload hx hb d_T_firstBar_40 (lv_at hl 0 rfl) ?_
        refine lv_iadd hx hb d_T_firstBar_42 ?_
        refine lv_topi (fun v_10 e_10 => ?_)
        exact W.iret (v := v_10) hx hb hr (fun t ht hW => ⟨v_10, rfl, (by unfold fbB; rw [← e_1, if_pos c_2, if_neg (by rw [q_4]; decide), ← e_5, if_neg c_6]; exact e_10), ht⟩) t_nil d_T_firstBar_43
    · have q_4 := b2_t e_3 c_4
      refine lv_bipush (v := 32) hx hb d_T_firstBar_21 (by decide) ?_
      exact W.iret (v := 32) hx hb hr (fun t ht hW => ⟨32, rfl, (by unfold fbB; rw [← e_1, if_pos c_2, if_pos q_4]), ht⟩) t_nil d_T_firstBar_23
  · refine lv_bipush (v := 16) hx hb d_T_firstBar_7 (by decide) ?_
    exact W.iret (v := 16) hx hb hr (fun t ht hW => ⟨16, rfl, (by unfold fbB; rw [← e_1, if_neg c_2]), ht⟩) t_nil d_T_firstBar_9

