/-! THE REFERENCE: reading a text -/
def pzN (i j : Nat) : Nat := if i ≤ j then j * (j + 1) / 2 + i else i * (i + 1) / 2 + j
theorem pzN_eq : ∀ i : Nat, i < 9 → ∀ j : Nat, j < 9 → (prI (nI (i + 1)) (nI (j + 1))).toNatClampNeg = pzN i j := by decide
theorem pzN_lt : ∀ i : Nat, i < 9 → ∀ j : Nat, j < 9 → pzN i j < 45 := by decide
theorem pzN_sym : ∀ i : Nat, i < 9 → ∀ j : Nat, j < 9 → pzN i j = pzN j i := by decide
theorem pzN_chk : ((List.range 9).all fun i => (List.range 9).all fun j => (List.range 9).all fun a => (List.range 9).all fun b => !(decide (pzN i j = pzN a b)) || (decide (i = a) && decide (j = b)) || (decide (i = b) && decide (j = a))) = true := by decide +kernel
theorem pzN_inj (i : Nat) (hi : i < 9) (j : Nat) (hj : j < 9) (a : Nat) (ha : a < 9) (b : Nat) (hb : b < 9) (h : pzN i j = pzN a b) : (i = a ∧ j = b) ∨ (i = b ∧ j = a) := by
  have h1 := List.all_eq_true.mp (List.all_eq_true.mp (List.all_eq_true.mp (List.all_eq_true.mp pzN_chk i (List.mem_range.mpr hi)) j (List.mem_range.mpr hj)) a (List.mem_range.mpr ha)) b (List.mem_range.mpr hb)
  rw [decide_eq_true h] at h1
  simpa using h1
theorem m4_3 {p : Nat} (h : ∀ j : Nat, j ≤ 2 → ¬ nI (p % 4) = nI j) : p % 4 = 3 := by
  rcases (show p % 4 = 0 ∨ p % 4 = 1 ∨ p % 4 = 2 ∨ p % 4 = 3 by omega) with h1 | h1 | h1 | h1
  · exact absurd (by rw [h1]) (h 0 (by omega))
  · exact absurd (by rw [h1]) (h 1 (by omega))
  · exact absurd (by rw [h1]) (h 2 (by omega))
  · exact h1
theorem p1_0 {x : Int32} : x + 1 = 0 ↔ x = -1 := by
  constructor
  · intro h
    have : x + 1 - 1 = 0 - 1 := by rw [h]
    rw [Int32.add_sub_cancel] at this
    exact this
  · rintro rfl
    rfl
def qAt (p : Nat) : Nat := if p % 4 = 3 then p / 4 + 1 else p / 4
def TM (f f2 : Nat → Int32) (q : Nat) : Prop := ∀ i j : Nat, i < 9 → j < 9 → f2 (81 + (9 * i + j)) = tabAt f q (prI (nI (i + 1)) (nI (j + 1))).toNatClampNeg + 1
theorem TM_0 {f f2 : Nat → Int32} (h : ∀ j : Nat, 81 ≤ j → j < 162 → f2 j = 0) : TM f f2 (qAt 0) := by
  intro i j hi hj
  rw [h _ (by omega) (by omega)]
  show (0 : Int32) = -1 + 1
  decide
theorem TM_up {f f2 : Nat → Int32} {q a b : Nat} (h : TM f f2 q) (ha : a < 9) (hb : b < 9) (e1 : f (4 * q) - 48 = nI (a + 1)) (e2 : f (4 * q + 1) - 48 = nI (b + 1)) : TM f (upd (upd f2 (81 + (9 * a + b)) (f (4 * q + 2) - 48 + 1)) (81 + (9 * b + a)) (f (4 * q + 2) - 48 + 1)) (q + 1) := by
  intro i j hi hj
  unfold tabAt
  rw [e1, e2, pzN_eq a ha b hb, pzN_eq i hi j hj]
  by_cases h1 : i = b ∧ j = a
  · obtain ⟨rfl, rfl⟩ := h1
    rw [pk_us, pzN_sym i hi j hj, pk_us]
  · rw [pk_un (by omega)]
    by_cases h2 : i = a ∧ j = b
    · obtain ⟨rfl, rfl⟩ := h2
      rw [pk_us, pk_us]
    · rw [pk_un (by omega), pk_un (fun z => (pzN_inj i hi j hj a ha b hb z).elim h2 h1), h i j hi hj, pzN_eq i hi j hj]
theorem upd2_2 {F : Nat → Nat → Int32} {k : Nat} {f f1 : Nat → Int32} : upd2 (upd2 F k f) k f1 = upd2 F k f1 := by
  funext j
  unfold upd2
  by_cases h : j = k
  · rw [if_pos h, if_pos h]
  · rw [if_neg h, if_neg h, if_neg h]
theorem upd2_same (F : Nat → Nat → Int32) (k : Nat) : upd2 F k (F k) = F := by
  funext j
  unfold upd2
  by_cases h : j = k
  · rw [if_pos h, h]
  · rw [if_neg h]
set_option maxHeartbeats 4000000 in
set_option maxRecDepth 100000 in
theorem c_M_stands (l : Launch) (g : GT) (w : Nat → Option va_E) (mo : Nat) (ad : Nat → Nat) (t0 hd : Int32) (sn gn bn : Nat) (F : Nat → Nat → Int32) (p0 : Nat) (hM : isM g w mo ad t0 sn hd gn bn F) (hp : p0 < 300) (htab : p0 % 4 = 1 → TM (F 0) (F 1) (p0 / 4)) (hfirst : p0 % 4 = 1 → isCls (F 0 (p0 - 1) - 48) = true) : Met l y_M_stands (.code y_M_stands b_M_stands 4 ((some .boolean)) :: GW) ({ frames := 1, cells := 0, slots := 0, locals := 22 }) (prR g [.ref mo, .int (nI p0)] w) (vp_Si (fun r => r = b2 (okPl (F 0) p0))) 0 0 (fun _ => False) := by
  refine Met.ofW (cc := b_M_stands) (maxL := 4) (ret := (some .boolean)) (by decide) rfl ?_
  intro p e s m args below meth c s₁ B hml hv
  obtain ⟨rfl, hG, hw⟩ := hv
  have hx := B.exec
  have hb := B.bytes
  have hr := B.returns
  have hts : ∀ w ∈ GW, w.before _ s = true := fun w h => atoms_spec (ws := .code y_M_stands b_M_stands 4 ((some .boolean)) :: GW) B.pre w (List.mem_cons_of_mem _ h)
  have hown : s.vm.findClass "DangerTablesModel" = some m.cls := findClass_of_methodNamed B.named
  have hlocks := B.notSynchronized
  have hf := hG.here
  have hK := hf.1
  have hAB : ∀ q, gB g q → gB g q := fun _ h => h
  have hS : va_S (gB g) s.heap s.heap [] := va_S.rf
  have hl := lv_entry ([.ref mo, .int (nI p0)]) (n := 4) (Nat.le_of_ble_eq_true rfl)
  rw [lg_entry_eq]
  generalize (lg_sl ([.ref mo, .int (nI p0)]) ++ List.replicate (4 - (lg_sl ([.ref mo, .int (nI p0)])).length) Slot.unset).toArray = ls at hl ⊢
  have hl : lv_has ls 4 [(0, .ref mo), (1, .int (nI p0))] := hl
  refine lv_aload_n hx hb d_M_stands_0 rfl (lv_at hl 0 rfl) ?_
  refine ww_get (v := .ref (ad 0)) (C := R_M) (T := F_M) (N := 22) (ci := 5) hx hb hts i_M hown hK hw hM.1 rfl 1 (by decide) (hts _ k_656) (fun _ h9 => h9) rfl d_M_stands_1 ?_
  refine lv_iload_n hx hb d_M_stands_4 rfl (lv_at hl 1 rfl) ?_
  refine ww_iald (v := (F 0) p0) hx hb hK hw 0 (show w (ad 0) = some (cA g 300 (F 0)) from hM.2.1 0 (by decide)) rfl (vp_in_nI (by omega) (by decide)) (by rw [nI_clamp (by omega)]) d_M_stands_5 ?_
  refine lv_topi (fun v_1 e_1 => ?_)
  refine lv_bipush (v := 48) hx hb d_M_stands_6 (by decide) ?_
  refine lv_isub hx hb d_M_stands_8 ?_
  refine lv_topi (fun v_2 e_2 => ?_)
  refine lv_istore_n (lv' := [(2, .int v_2), (0, .ref mo), (1, .int (nI p0))]) hx hb d_M_stands_9 rfl hl (by decide) rfl (fun ls hl => ?_)
  refine lv_aload_n hx hb d_M_stands_10 rfl (lv_at hl 1 rfl) ?_
  refine ww_get (v := .ref (ad 0)) (C := R_M) (T := F_M) (N := 22) (ci := 5) hx hb hts i_M hown hK hw hM.1 rfl 1 (by decide) (hts _ k_656) (fun _ h9 => h9) rfl d_M_stands_11 ?_
  refine lv_iload_n hx hb d_M_stands_14 rfl (lv_at hl 2 rfl) ?_
  refine lv_iload_n hx hb d_M_stands_15 rfl (lv_at hl 2 rfl) ?_
  refine lv_iconst (v := 4) hx hb d_M_stands_16 (by decide) ?_
  refine lv_irem hx hb d_M_stands_17 (by decide) ?_
  refine lv_topi (fun v_3 e_3 => ?_)
  obtain rfl : v_3 = nI (p0 % 4) := by rw [e_3]; exact pk_rem (a := p0) (d := 4) (by omega) (by decide) (by decide)
  refine lv_isub hx hb d_M_stands_18 ?_
  refine lv_topi (fun v_4 e_4 => ?_)
  obtain rfl : v_4 = nI (p0 - (p0 % 4)) := by rw [e_4]; exact pk_sub (a := p0) (b := p0 % 4) (by omega)
  refine ww_iald (v := (F 0) (p0 - (p0 % 4))) hx hb hK hw 0 (show w (ad 0) = some (cA g 300 (F 0)) from hM.2.1 0 (by decide)) rfl (vp_in_nI (by omega) (by decide)) (by rw [nI_clamp (by omega)]) d_M_stands_19 ?_
  refine lv_topi (fun v_5 e_5 => ?_)
  refine lv_bipush (v := 48) hx hb d_M_stands_20 (by decide) ?_
  refine lv_isub hx hb d_M_stands_22 ?_
  refine lv_topi (fun v_6 e_6 => ?_)
  refine lv_istore_n (lv' := [(3, .int v_6), (2, .int v_2), (0, .ref mo), (1, .int (nI p0))]) hx hb d_M_stands_23 rfl hl (by decide) rfl (fun ls hl => ?_)
  refine lv_iload_n hx hb d_M_stands_24 rfl (lv_at hl 3 rfl) ?_
  refine lv_iconst (v := 4) hx hb d_M_stands_25 (by decide) ?_
  refine lv_irem hx hb d_M_stands_26 (by decide) ?_
  refine lv_topi (fun v_7 e_7 => ?_)
  obtain rfl : v_7 = nI (p0 % 4) := by rw [e_7]; exact pk_rem (a := p0) (d := 4) (by omega) (by decide) (by decide)
  refine lv_sw (N := 2) (tg := fun j => match j with | 0 => 52 | 1 => 57 | _ => 97) (td := 104) hx hb d_M_stands_27 rfl (by decide) (by decide) (fun j hj => by rcases (show j = 0 ∨ j = 1 ∨ j = 2 by omega) with rfl | rfl | rfl <;> exact ⟨_, rfl, by decide⟩) (fun j_8 hj_8 ej_8 => ?_) (fun hd_8 => ?_)
  · rcases (show j_8 = 0 ∨ j_8 = 1 ∨ j_8 = 2 by omega) with rfl | rfl | rfl
    · refine lv_iload_n hx hb d_M_stands_52 rfl (lv_at hl 1 rfl) ?_
      refine wr_i (cS (As := [.int v_2]) (rest := []) 1 ⟨hx, hb, hml, hown, hts⟩ (c_M_isClass l v_2) k_744 k_742 k_7 k_743 (by decide +kernel) ⟨Nat.le_of_ble_eq_true rfl, Nat.le_of_ble_eq_true rfl⟩ rfl rfl ⟨prN_blind _, fun _ _ _ => ⟨rfl, trivial⟩⟩ rfl hl.1 rfl (Nat.le_of_ble_eq_true rfl) d_M_stands_53 ⟨Nat.zero_le _, Nat.zero_le _⟩) (fun r_9 e_9 => ?_)
      exact W.zret (v := r_9) (ty := .boolean) hx hb hr (b2_n e_9) (fun t ht hW => ⟨r_9, rfl, (by unfold okPl; rw [if_pos ((nI_eq (by omega) (by omega)).mp ej_8), ← e_1, ← e_2]; exact e_9), ht⟩) t_nil d_M_stands_56
    · refine lv_iload_n hx hb d_M_stands_57 rfl (lv_at hl 1 rfl) ?_
      refine wr_i (cS (As := [.int v_2]) (rest := []) 1 ⟨hx, hb, hml, hown, hts⟩ (c_M_isClass l v_2) k_744 k_742 k_7 k_743 (by decide +kernel) ⟨Nat.le_of_ble_eq_true rfl, Nat.le_of_ble_eq_true rfl⟩ rfl rfl ⟨prN_blind _, fun _ _ _ => ⟨rfl, trivial⟩⟩ rfl hl.1 rfl (Nat.le_of_ble_eq_true rfl) d_M_stands_58 ⟨Nat.zero_le _, Nat.zero_le _⟩) (fun r_10 e_10 => ?_)
      refine lv_if_eq (tgt := 95) hx hb d_M_stands_61 (by decide) (fun c_11 => ?_) (fun c_11 => ?_)
      · have q_11 := b2_f e_10 c_11
        refine lv_iconst (v := 0) hx hb d_M_stands_95 (by decide) ?_
        exact W.zret (v := 0) (ty := .boolean) hx hb hr rfl (fun t ht hW => ⟨0, rfl, (by have hp4 : p0 % 4 = 1 := (nI_eq (by omega) (by omega)).mp ej_8; unfold okPl; rw [if_neg (by omega), if_pos hp4, ← e_1, ← e_2, q_11]; rfl), ht⟩) t_nil d_M_stands_96
      · have q_11 := b2_t e_10 c_11
        have hp4 : p0 % 4 = 1 := (nI_eq (by omega) (by omega)).mp ej_8
        have hf1 : isCls v_6 = true := by rw [e_6, e_5, hp4]; exact hfirst hp4
        obtain ⟨j, hj, hvj⟩ := isCls_of q_11
        obtain ⟨i, hi, hvi⟩ := isCls_of hf1
        subst hvj
        subst hvi
        have htab1 := htab hp4
        refine lv_aload_n hx hb d_M_stands_64 rfl (lv_at hl 2 rfl) ?_
        refine ww_get (v := .ref (ad 1)) (C := R_M) (T := F_M) (N := 22) (ci := 5) hx hb hts i_M hown hK hw hM.1 rfl 4 (by decide) (hts _ k_659) (fun _ h9 => h9) rfl d_M_stands_65 ?_
        refine lv_bipush (v := 81) hx hb d_M_stands_68 (by decide) ?_
        refine lv_iload_n hx hb d_M_stands_70 rfl (lv_at hl 0 rfl) ?_
        refine lv_iload_n hx hb d_M_stands_71 rfl (lv_at hl 1 rfl) ?_
        refine wr_i (cS (As := [.int (nI (j + 1))]) (rest := [.int (nI (i + 1)), .int 81, .ref (ad 1)]) 1 ⟨hx, hb, hml, hown, hts⟩ (c_M_isClass l (nI (j + 1))) k_744 k_742 k_7 k_743 (by decide +kernel) ⟨Nat.le_of_ble_eq_true rfl, Nat.le_of_ble_eq_true rfl⟩ rfl rfl ⟨prN_blind _, fun _ _ _ => ⟨rfl, trivial⟩⟩ rfl hl.1 rfl (Nat.le_of_ble_eq_true rfl) d_M_stands_72 ⟨Nat.zero_le _, Nat.zero_le _⟩) (fun r_12 e_12 => ?_)
        refine lv_if_eq (tgt := 82) hx hb d_M_stands_75 (by decide) (fun c_13 => ?_) (fun c_13 => ?_)
        · have q_13 := b2_f e_12 c_13
          rw [show isCls (nI (j + 1)) = true from q_11] at q_13
          cases q_13
        · have q_13 := b2_t e_12 c_13
          refine lv_iload_n hx hb d_M_stands_78 rfl (lv_at hl 1 rfl) ?_
          refine lv_goto (tgt := 83) hx hb d_M_stands_79 (by decide) ?_
          refine wr_i (cS (As := [.int (nI (i + 1)), .int (nI (j + 1))]) (rest := [.int 81, .ref (ad 1)]) 2 ⟨hx, hb, hml, hown, hts⟩ (c_M_pair l (nI (i + 1)) (nI (j + 1))) k_747 k_745 k_7 k_746 (by decide +kernel) ⟨Nat.le_of_ble_eq_true rfl, Nat.le_of_ble_eq_true rfl⟩ rfl rfl ⟨prN_blind _, fun _ _ _ => ⟨rfl, trivial⟩⟩ rfl hl.1 rfl (Nat.le_of_ble_eq_true rfl) d_M_stands_83 ⟨Nat.zero_le _, Nat.zero_le _⟩) (fun r_14 e_14 => ?_)
          obtain rfl : nI (9 * i + j) = r_14 := (e_14.trans (prM_nat hi hj)).symm
          refine lv_iadd hx hb d_M_stands_86 ?_
          refine lv_topi (fun v_15 e_15 => ?_)
          obtain rfl : v_15 = nI (81 + (9 * i + j)) := by rw [e_15]; exact nI_add 81 (9 * i + j)
          refine ww_iald (v := (F 1) (81 + (9 * i + j))) hx hb hK hw 0 (show w (ad 1) = some (cA g 162 (F 1)) from hM.2.1 1 (by decide)) rfl (vp_in_nI (by omega) (by decide)) (by rw [nI_clamp (by omega)]) d_M_stands_87 ?_
          refine lv_topi (fun v_16 e_16 => ?_)
          refine lv_if_ne (tgt := 95) hx hb d_M_stands_88 (by decide) (fun c_17 => ?_) (fun c_17 => ?_)
          · refine lv_iconst (v := 0) hx hb d_M_stands_95 (by decide) ?_
            exact W.zret (v := 0) (ty := .boolean) hx hb hr rfl (fun t ht hW => ⟨0, rfl, (by unfold okPl; rw [if_neg (by omega), if_pos hp4, show p0 - 1 = p0 - p0 % 4 by omega, ← e_1, ← e_2, ← e_5, ← e_6, show isCls (nI (j + 1)) = true from q_11, decide_eq_false (fun z => c_17 (by rw [e_16, htab1 i j hi hj]; exact p1_0.mpr z))]; rfl), ht⟩) t_nil d_M_stands_96
          · refine lv_iconst (v := 1) hx hb d_M_stands_91 (by decide) ?_
            refine lv_goto (tgt := 96) hx hb d_M_stands_92 (by decide) ?_
            exact W.zret (v := 1) (ty := .boolean) hx hb hr rfl (fun t ht hW => ⟨1, rfl, (by unfold okPl; rw [if_neg (by omega), if_pos hp4, show p0 - 1 = p0 - p0 % 4 by omega, ← e_1, ← e_2, ← e_5, ← e_6, show isCls (nI (j + 1)) = true from q_11, decide_eq_true (p1_0.mp (by rw [← htab1 i j hi hj, ← e_16]; exact c_17))]; rfl), ht⟩) t_nil d_M_stands_96
    · refine lv_iload_n hx hb d_M_stands_97 rfl (lv_at hl 1 rfl) ?_
      refine lv_iconst (v := 0) hx hb d_M_stands_98 (by decide) ?_
      refine lv_iconst (v := 4) hx hb d_M_stands_99 (by decide) ?_
      refine wr_i (cS (As := [.int v_2, .int 0, .int 4]) (rest := []) 3 ⟨hx, hb, hml, hown, hts⟩ (c_M_in l v_2 0 4) k_733 k_731 k_7 k_732 (by decide +kernel) ⟨Nat.le_of_ble_eq_true rfl, Nat.le_of_ble_eq_true rfl⟩ rfl rfl ⟨prN_blind _, fun _ _ _ => ⟨rfl, trivial⟩⟩ rfl hl.1 rfl (Nat.le_of_ble_eq_true rfl) d_M_stands_100 ⟨Nat.zero_le _, Nat.zero_le _⟩) (fun r_18 e_18 => ?_)
      exact W.zret (v := r_18) (ty := .boolean) hx hb hr (b2_n e_18) (fun t ht hW => ⟨r_18, rfl, (by have hp4 : p0 % 4 = 2 := (nI_eq (by omega) (by omega)).mp ej_8; unfold okPl; rw [if_neg (by omega), if_neg (by omega), if_pos hp4, ← e_1, ← e_2]; exact e_18), ht⟩) t_nil d_M_stands_103
  · refine lv_aload_n hx hb d_M_stands_104 rfl (lv_at hl 2 rfl) ?_
    refine ww_get (v := .ref (ad 0)) (C := R_M) (T := F_M) (N := 22) (ci := 5) hx hb hts i_M hown hK hw hM.1 rfl 1 (by decide) (hts _ k_656) (fun _ h9 => h9) rfl d_M_stands_105 ?_
    refine lv_iload_n hx hb d_M_stands_108 rfl (lv_at hl 3 rfl) ?_
    refine ww_iald (v := (F 0) p0) hx hb hK hw 0 (show w (ad 0) = some (cA g 300 (F 0)) from hM.2.1 0 (by decide)) rfl (vp_in_nI (by omega) (by decide)) (by rw [nI_clamp (by omega)]) d_M_stands_109 ?_
    refine lv_topi (fun v_19 e_19 => ?_)
    refine lv_bipush (v := 59) hx hb d_M_stands_110 (by decide) ?_
    refine lv_icmp_ne (tgt := 119) hx hb d_M_stands_112 (by decide) (fun c_20 => ?_) (fun c_20 => ?_)
    · refine lv_iconst (v := 0) hx hb d_M_stands_119 (by decide) ?_
      exact W.zret (v := 0) (ty := .boolean) hx hb hr rfl (fun t ht hW => ⟨0, rfl, (by have hp4 : p0 % 4 = 3 := m4_3 hd_8; unfold okPl; rw [if_neg (by omega), if_neg (by omega), if_neg (by omega), decide_eq_false (by rw [← e_19]; exact c_20)]; rfl), ht⟩) t_nil d_M_stands_120
    · refine lv_iconst (v := 1) hx hb d_M_stands_115 (by decide) ?_
      refine lv_goto (tgt := 120) hx hb d_M_stands_116 (by decide) ?_
      exact W.zret (v := 1) (ty := .boolean) hx hb hr rfl (fun t ht hW => ⟨1, rfl, (by have hp4 : p0 % 4 = 3 := m4_3 hd_8; unfold okPl; rw [if_neg (by omega), if_neg (by omega), if_neg (by omega), decide_eq_true (by rw [← e_19]; exact c_20)]; rfl), ht⟩) t_nil d_M_stands_120

set_option maxHeartbeats 4000000 in
set_option maxRecDepth 100000 in
theorem c_M_read (l : Launch) (g : GT) (sz : Nat) (w : Nat → Option va_E) (mo : Nat) (ad : Nat → Nat) (t0 hd : Int32) (sn gn bn : Nat) (F : Nat → Nat → Int32)  (hM : isM g w mo ad t0 sn hd gn bn F) (hsn : sn ≤ 300) : Met l y_M_read (.code y_M_read b_M_read 5 ((some .int)) :: GW) ({ frames := 2, cells := 0, slots := 0, locals := 45 }) (prW g sz [.ref mo] w) (qI g sz w (fun r w1 => (¬ WR (F 0) sn = -1 ∧ r = -1 - WR (F 0) sn ∧ ∃ f2 : Nat → Int32, (∀ j : Nat, j < 81 → f2 j = F 1 j) ∧ isM g w1 mo ad 0 0 hd gn bn (upd2 F 1 f2)) ∨ (WR (F 0) sn = -1 ∧ r = 45 ∧ ∃ f2 : Nat → Int32, (∀ i j : Nat, i < 9 → j < 9 → f2 (9 * i + j) = tabAt (F 0) 45 (prI (nI (i + 1)) (nI (j + 1))).toNatClampNeg) ∧ isM g w1 mo ad 0 0 1 gn bn (upd2 F 1 f2)))) 0 0 (gA w sz) := by
  refine Met.ofW (cc := b_M_read) (maxL := 5) (ret := (some .int)) (by decide) rfl ?_
  intro p e s m args below meth c s₁ B hml hv
  obtain ⟨rfl, hsz, hG, hw0⟩ := hv
  have hx := B.exec
  have hb := B.bytes
  have hr := B.returns
  have hts : ∀ w ∈ GW, w.before _ s = true := fun w h => atoms_spec (ws := .code y_M_read b_M_read 5 ((some .int)) :: GW) B.pre w (List.mem_cons_of_mem _ h)
  have hown : s.vm.findClass "DangerTablesModel" = some m.cls := findClass_of_methodNamed B.named
  have hlocks := B.notSynchronized
  have hf := hG.here
  have hK := hf.1
  subst hsz
  have hw := hw0.self s.heap.size
  have hAB : ∀ q, gA w s.heap.size q → gB g q := fun q h => h.elim (fun z => z.elim (fun _ he => hw0.inA he)) (fun h => Nat.le_trans hG.1 h)
  have hA : ∀ q, s.heap.size ≤ q → gA w s.heap.size q := fun q h => Or.inr h
  have hS : va_S (gA w s.heap.size) s.heap s.heap [] := va_S.rf
  have hl := lv_entry ([.ref mo]) (n := 5) (Nat.le_of_ble_eq_true rfl)
  rw [lg_entry_eq]
  generalize (lg_sl ([.ref mo]) ++ List.replicate (5 - (lg_sl ([.ref mo])).length) Slot.unset).toArray = ls at hl ⊢
  have hl : lv_has ls 5 [(0, .ref mo)] := hl
  refine lv_aload_n hx hb d_M_read_0 rfl (lv_at hl 0 rfl) ?_
  refine lv_iconst (v := 0) hx hb d_M_read_1 (by decide) ?_
  refine ww_put (v := .int 0) (ty := .int) (C := R_M) (T := F_M) (N := 22) (ci := 5) (fs' := [.int 0, .ref (ad 0), .int (nI sn), .int hd, .ref (ad 1), .int (nI gn), .ref (ad 2), .ref (ad 3), .ref (ad 4), .ref (ad 5), .ref (ad 6), .ref (ad 7), .ref (ad 8), .int (nI bn), .ref (ad 9), .ref (ad 10), .ref (ad 11), .ref (ad 12), .ref (ad 13), .ref (ad 14), .ref (ad 15), .ref (ad 16)]) hx hb hts i_M ft_M ft_M_ok fn_M hown hK hw hS hM.1 rfl 0 (by decide) (hts _ k_655) (fun _ h9 => h9) rfl (by decide +kernel) rfl rfl (Nat.le_of_ble_eq_true rfl) rfl d_M_read_2 (fun H locs hw hS => ?_)
  obtain ⟨w_1, ew_1⟩ : ∃ zz9 : Nat → Option va_E, zz9 = va_up w mo (some (.inr (5, [.int 0, .ref (ad 0), .int (nI sn), .int hd, .ref (ad 1), .int (nI gn), .ref (ad 2), .ref (ad 3), .ref (ad 4), .ref (ad 5), .ref (ad 6), .ref (ad 7), .ref (ad 8), .int (nI bn), .ref (ad 9), .ref (ad 10), .ref (ad 11), .ref (ad 12), .ref (ad 13), .ref (ad 14), .ref (ad 15), .ref (ad 16)]))) := ⟨_, rfl⟩
  rw [← ew_1] at hw
  have hM_1 : isM g w_1 mo ad 0 sn hd gn bn F := by rw [ew_1]; exact isM_put hM
  refine lv_bipush (v := 81) hx hb d_M_read_5 (by decide) ?_
  refine lv_istore_n (lv' := [(1, .int 81), (0, .ref mo)]) hx hb d_M_read_7 rfl hl (by decide) rfl (fun ls hl => ?_)
  have loop_8 : ∀ (k i : Nat) (w2 : Nat → Option va_E) (f2 : Nat → Int32) (H : Heap) (locs : List Loc) (ls : Array Slot), i ≤ 162 → 162 < i + k → ww g.1 vwCl (gA w s.heap.size) w2 H ∧ va_S (gA w s.heap.size) s.heap H locs ∧ isM g w2 mo ad 0 sn hd gn bn (upd2 F 1 f2) ∧ (∀ j : Nat, j < 81 → f2 j = F 1 j) ∧ (81 ≤ i ∧ ∀ j : Nat, 81 ≤ j → j < i → f2 j = 0) → lv_has ls 5 [(0, .ref mo), (1, .int (nI i))] → W p l e (headSpec (.code y_M_read b_M_read 5 ((some .int)) :: GW) ({ frames := 2, cells := 0, slots := 0, locals := 45 })).room s m (#[.ref mo] : Array Value) below meth c H locs 0 0 (MQ below (qI g s.heap.size w (fun r w1 => (¬ WR (F 0) sn = -1 ∧ r = -1 - WR (F 0) sn ∧ ∃ f2 : Nat → Int32, (∀ j : Nat, j < 81 → f2 j = F 1 j) ∧ isM g w1 mo ad 0 0 hd gn bn (upd2 F 1 f2)) ∨ (WR (F 0) sn = -1 ∧ r = 45 ∧ ∃ f2 : Nat → Int32, (∀ i j : Nat, i < 9 → j < 9 → f2 (9 * i + j) = tabAt (F 0) 45 (prI (nI (i + 1)) (nI (j + 1))).toNatClampNeg) ∧ isM g w1 mo ad 0 0 1 gn bn (upd2 F 1 f2)))) (#[.ref mo] : Array Value) s 0 0 (gA w s.heap.size)) (F0 m 8 ls []) := by
    intro k
    induction k with
    | zero =>
      intro i w2 f2 H locs ls h1_8 h2_8
      exact absurd h2_8 (by omega)
    | succ k ih_8 =>
      intro i w2 f2 H locs ls h1_8 h2_8 hI_8 hl
      obtain ⟨hw, hS, hM2, hlow, hi81, hz⟩ := hI_8
      refine lv_iload_n hx hb d_M_read_8 rfl (lv_at hl 1 rfl) ?_
      refine lv_sipush (v := 162) hx hb d_M_read_9 (by decide) ?_
      refine lv_icmp_ge (tgt := 28) hx hb d_M_read_12 (by decide) (fun c_2 => ?_) (fun c_2 => ?_)
      · have hgeA : 162 ≤ i := lp_ge (n := 162) rfl c_2 (by omega) (by omega)
        refine lv_iconst (v := -1) hx hb d_M_read_28 (by decide) ?_
        refine lv_istore_n (lv' := [(1, .int (-1)), (0, .ref mo)]) hx hb d_M_read_29 rfl hl (by decide) rfl (fun ls hl => ?_)
        refine lv_iconst (v := 0) hx hb d_M_read_30 (by decide) ?_
        refine lv_istore_n (lv' := [(2, .int 0), (1, .int (-1)), (0, .ref mo)]) hx hb d_M_read_31 rfl hl (by decide) rfl (fun ls hl => ?_)
        have loop_32 : ∀ (k p0 : Nat) (w2 : Nat → Option va_E) (f2 : Nat → Int32) (wr : Int32) (H : Heap) (locs : List Loc) (ls : Array Slot), p0 ≤ sn → sn < p0 + k → ww g.1 vwCl (gA w s.heap.size) w2 H ∧ va_S (gA w s.heap.size) s.heap H locs ∧ isM g w2 mo ad 0 sn hd gn bn (upd2 F 1 f2) ∧ (∀ j : Nat, j < 81 → f2 j = F 1 j) ∧ ((wr = -1 ∧ (∀ t : Nat, t < p0 → okPl (F 0) t = true) ∧ WR (F 0) sn = wrF (F 0) sn (sn - p0) p0 ∧ TM (F 0) f2 (qAt p0)) ∨ (∃ p9 : Nat, p9 < 300 ∧ wr = nI p9 ∧ WR (F 0) sn = nI p9)) → lv_has ls 5 [(0, .ref mo), (1, .int wr), (2, .int (nI p0))] → W p l e (headSpec (.code y_M_read b_M_read 5 ((some .int)) :: GW) ({ frames := 2, cells := 0, slots := 0, locals := 45 })).room s m (#[.ref mo] : Array Value) below meth c H locs 0 0 (MQ below (qI g s.heap.size w (fun r w1 => (¬ WR (F 0) sn = -1 ∧ r = -1 - WR (F 0) sn ∧ ∃ f2 : Nat → Int32, (∀ j : Nat, j < 81 → f2 j = F 1 j) ∧ isM g w1 mo ad 0 0 hd gn bn (upd2 F 1 f2)) ∨ (WR (F 0) sn = -1 ∧ r = 45 ∧ ∃ f2 : Nat → Int32, (∀ i j : Nat, i < 9 → j < 9 → f2 (9 * i + j) = tabAt (F 0) 45 (prI (nI (i + 1)) (nI (j + 1))).toNatClampNeg) ∧ isM g w1 mo ad 0 0 1 gn bn (upd2 F 1 f2)))) (#[.ref mo] : Array Value) s 0 0 (gA w s.heap.size)) (F0 m 32 ls []) := by
          intro k
          induction k with
          | zero =>
            intro p0 w2 f2 wr H locs ls h1_32 h2_32
            exact absurd h2_32 (by omega)
          | succ k ih_32 =>
            intro p0 w2 f2 wr H locs ls h1_32 h2_32 hI_32 hl
            obtain ⟨hw, hS, hM2, hlow, hst⟩ := hI_32
            refine lv_iload_n hx hb d_M_read_32 rfl (lv_at hl 2 rfl) ?_
            refine lv_aload_n hx hb d_M_read_33 rfl (lv_at hl 0 rfl) ?_
            refine ww_get (v := .int (nI sn)) (C := R_M) (T := F_M) (N := 22) (ci := 5) hx hb hts i_M hown hK hw hM2.1 rfl 2 (by decide) (hts _ k_657) (fun _ h9 => h9) rfl d_M_read_34 ?_
            refine lv_icmp_ge (tgt := 150) hx hb d_M_read_37 (by decide) (fun c_3 => ?_) (fun c_3 => ?_)
            · have hgep : sn ≤ p0 := lp_ge rfl c_3 (by omega) (by omega)
              refine lv_iload_n hx hb d_M_read_150 rfl (lv_at hl 1 rfl) ?_
              refine lv_if_ge (tgt := 169) hx hb d_M_read_151 (by decide) (fun c_4 => ?_) (fun c_4 => ?_)
              · obtain ⟨p9, hp9, hwr9, hW9⟩ := hst.resolve_left (fun z => by rw [z.1] at c_4; exact absurd c_4 (by decide))
                refine lv_aload_n hx hb d_M_read_169 rfl (lv_at hl 0 rfl) ?_
                refine lv_iconst (v := 0) hx hb d_M_read_170 (by decide) ?_
                refine ww_put (v := .int 0) (ty := .int) (C := R_M) (T := F_M) (N := 22) (ci := 5) (fs' := [.int 0, .ref (ad 0), .int 0, .int hd, .ref (ad 1), .int (nI gn), .ref (ad 2), .ref (ad 3), .ref (ad 4), .ref (ad 5), .ref (ad 6), .ref (ad 7), .ref (ad 8), .int (nI bn), .ref (ad 9), .ref (ad 10), .ref (ad 11), .ref (ad 12), .ref (ad 13), .ref (ad 14), .ref (ad 15), .ref (ad 16)]) hx hb hts i_M ft_M ft_M_ok fn_M hown hK hw hS hM2.1 rfl 2 (by decide) (hts _ k_657) (fun _ h9 => h9) rfl (by decide +kernel) rfl rfl (Nat.le_of_ble_eq_true rfl) rfl d_M_read_171 (fun H locs hw hS => ?_)
                obtain ⟨w_5, ew_5⟩ : ∃ zz9 : Nat → Option va_E, zz9 = va_up w2 mo (some (.inr (5, [.int 0, .ref (ad 0), .int 0, .int hd, .ref (ad 1), .int (nI gn), .ref (ad 2), .ref (ad 3), .ref (ad 4), .ref (ad 5), .ref (ad 6), .ref (ad 7), .ref (ad 8), .int (nI bn), .ref (ad 9), .ref (ad 10), .ref (ad 11), .ref (ad 12), .ref (ad 13), .ref (ad 14), .ref (ad 15), .ref (ad 16)]))) := ⟨_, rfl⟩
                rw [← ew_5] at hw
                have hM_5 : isM g w_5 mo ad 0 0 hd gn bn (upd2 F 1 f2) := by rw [ew_5]; exact isM_put hM2
                refine lv_iload_n hx hb d_M_read_174 rfl (lv_at hl 1 rfl) ?_
                refine lv_if_lt (tgt := 182) hx hb d_M_read_175 (by decide) (fun c_6 => ?_) (fun c_6 => ?_)
                · rw [hwr9] at c_6
                  exact absurd c_6 (nI_pos (by omega))
                · refine lv_iconst (v := -1) hx hb d_M_read_178 (by decide) ?_
                  refine lv_iload_n hx hb d_M_read_179 rfl (lv_at hl 1 rfl) ?_
                  refine lv_isub hx hb d_M_read_180 ?_
                  refine lv_topi (fun v_7 e_7 => ?_)
                  exact W.iret (v := v_7) hx hb hr (fun t ht hW => ⟨⟨v_7, w_5, rfl, Or.inl ⟨by rw [hW9]; exact nI_nm1 (by omega), by rw [e_7, hW9, hwr9], f2, hlow, hM_5⟩, ww_t ht hw⟩, hS.F ht⟩) hS.2.2 d_M_read_181
              · obtain ⟨hwr, hall, hWR, hTM⟩ := hst.resolve_right (fun z => by obtain ⟨p9, z1, z2, -⟩ := z; rw [z2] at c_4; exact c_4 (nI_pos' (by omega)))
                refine lv_aload_n hx hb d_M_read_154 rfl (lv_at hl 0 rfl) ?_
                refine ww_get (v := .int (nI sn)) (C := R_M) (T := F_M) (N := 22) (ci := 5) hx hb hts i_M hown hK hw hM2.1 rfl 2 (by decide) (hts _ k_657) (fun _ h9 => h9) rfl d_M_read_155 ?_
                refine lv_sipush (v := 180) hx hb d_M_read_158 (by decide) ?_
                refine lv_icmp_eq (tgt := 169) hx hb d_M_read_161 (by decide) (fun c_8 => ?_) (fun c_8 => ?_)
                · have h180 : sn = 180 := (nI_eq (by omega) (b := 180) (by decide)).mp c_8
                  have hW9 : WR (F 0) sn = -1 := by rw [hWR, show sn - p0 = 0 by omega, wrF, if_pos h180]
                  refine lv_aload_n hx hb d_M_read_169 rfl (lv_at hl 0 rfl) ?_
                  refine lv_iconst (v := 0) hx hb d_M_read_170 (by decide) ?_
                  refine ww_put (v := .int 0) (ty := .int) (C := R_M) (T := F_M) (N := 22) (ci := 5) (fs' := [.int 0, .ref (ad 0), .int 0, .int hd, .ref (ad 1), .int (nI gn), .ref (ad 2), .ref (ad 3), .ref (ad 4), .ref (ad 5), .ref (ad 6), .ref (ad 7), .ref (ad 8), .int (nI bn), .ref (ad 9), .ref (ad 10), .ref (ad 11), .ref (ad 12), .ref (ad 13), .ref (ad 14), .ref (ad 15), .ref (ad 16)]) hx hb hts i_M ft_M ft_M_ok fn_M hown hK hw hS hM2.1 rfl 2 (by decide) (hts _ k_657) (fun _ h9 => h9) rfl (by decide +kernel) rfl rfl (Nat.le_of_ble_eq_true rfl) rfl d_M_read_171 (fun H locs hw hS => ?_)
                  obtain ⟨w_9, ew_9⟩ : ∃ zz9 : Nat → Option va_E, zz9 = va_up w2 mo (some (.inr (5, [.int 0, .ref (ad 0), .int 0, .int hd, .ref (ad 1), .int (nI gn), .ref (ad 2), .ref (ad 3), .ref (ad 4), .ref (ad 5), .ref (ad 6), .ref (ad 7), .ref (ad 8), .int (nI bn), .ref (ad 9), .ref (ad 10), .ref (ad 11), .ref (ad 12), .ref (ad 13), .ref (ad 14), .ref (ad 15), .ref (ad 16)]))) := ⟨_, rfl⟩
                  rw [← ew_9] at hw
                  have hM_9 : isM g w_9 mo ad 0 0 hd gn bn (upd2 F 1 f2) := by rw [ew_9]; exact isM_put hM2
                  refine lv_iload_n hx hb d_M_read_174 rfl (lv_at hl 1 rfl) ?_
                  refine lv_if_lt (tgt := 182) hx hb d_M_read_175 (by decide) (fun c_10 => ?_) (fun c_10 => ?_)
                  · refine lv_aload_n hx hb d_M_read_182 rfl (lv_at hl 0 rfl) ?_
                    refine lv_iconst (v := 1) hx hb d_M_read_183 (by decide) ?_
                    refine ww_put (v := .int 1) (ty := .boolean) (C := R_M) (T := F_M) (N := 22) (ci := 5) (fs' := [.int 0, .ref (ad 0), .int (nI 0), .int 1, .ref (ad 1), .int (nI gn), .ref (ad 2), .ref (ad 3), .ref (ad 4), .ref (ad 5), .ref (ad 6), .ref (ad 7), .ref (ad 8), .int (nI bn), .ref (ad 9), .ref (ad 10), .ref (ad 11), .ref (ad 12), .ref (ad 13), .ref (ad 14), .ref (ad 15), .ref (ad 16)]) hx hb hts i_M ft_M ft_M_ok fn_M hown hK hw hS hM_9.1 rfl 3 (by decide) (hts _ k_658) (fun _ h9 => h9) rfl (by decide +kernel) rfl rfl (Nat.le_of_ble_eq_true rfl) rfl d_M_read_184 (fun H locs hw hS => ?_)
                    obtain ⟨w_11, ew_11⟩ : ∃ zz9 : Nat → Option va_E, zz9 = va_up w_9 mo (some (.inr (5, [.int 0, .ref (ad 0), .int (nI 0), .int 1, .ref (ad 1), .int (nI gn), .ref (ad 2), .ref (ad 3), .ref (ad 4), .ref (ad 5), .ref (ad 6), .ref (ad 7), .ref (ad 8), .int (nI bn), .ref (ad 9), .ref (ad 10), .ref (ad 11), .ref (ad 12), .ref (ad 13), .ref (ad 14), .ref (ad 15), .ref (ad 16)]))) := ⟨_, rfl⟩
                    rw [← ew_11] at hw
                    have hM_11 : isM g w_11 mo ad 0 0 1 gn bn (upd2 F 1 f2) := by rw [ew_11]; exact isM_put hM_9
                    refine lv_iconst (v := 0) hx hb d_M_read_187 (by decide) ?_
                    refine lv_istore_n (lv' := [(2, .int 0), (0, .ref mo), (1, .int wr)]) hx hb d_M_read_188 rfl hl (by decide) rfl (fun ls hl => ?_)
                    have loop_189 : ∀ (k i : Nat) (w3 : Nat → Option va_E) (f3 : Nat → Int32) (H : Heap) (locs : List Loc) (ls : Array Slot), i ≤ 81 → 81 < i + k → ww g.1 vwCl (gA w s.heap.size) w3 H ∧ va_S (gA w s.heap.size) s.heap H locs ∧ isM g w3 mo ad 0 0 1 gn bn (upd2 F 1 f3) ∧ (∀ j : Nat, 81 ≤ j → f3 j = f2 j) ∧ (∀ j : Nat, j < i → f3 j = f2 (81 + j) - 1) → lv_has ls 5 [(0, .ref mo), (2, .int (nI i))] → W p l e (headSpec (.code y_M_read b_M_read 5 ((some .int)) :: GW) ({ frames := 2, cells := 0, slots := 0, locals := 45 })).room s m (#[.ref mo] : Array Value) below meth c H locs 0 0 (MQ below (qI g s.heap.size w (fun r w1 => (¬ WR (F 0) sn = -1 ∧ r = -1 - WR (F 0) sn ∧ ∃ f2 : Nat → Int32, (∀ j : Nat, j < 81 → f2 j = F 1 j) ∧ isM g w1 mo ad 0 0 hd gn bn (upd2 F 1 f2)) ∨ (WR (F 0) sn = -1 ∧ r = 45 ∧ ∃ f2 : Nat → Int32, (∀ i j : Nat, i < 9 → j < 9 → f2 (9 * i + j) = tabAt (F 0) 45 (prI (nI (i + 1)) (nI (j + 1))).toNatClampNeg) ∧ isM g w1 mo ad 0 0 1 gn bn (upd2 F 1 f2)))) (#[.ref mo] : Array Value) s 0 0 (gA w s.heap.size)) (F0 m 189 ls []) := by
                      intro k
                      induction k with
                      | zero =>
                        intro i w3 f3 H locs ls h1_189 h2_189
                        exact absurd h2_189 (by omega)
                      | succ k ih_189 =>
                        intro i w3 f3 H locs ls h1_189 h2_189 hI_189 hl
                        obtain ⟨hw, hS, hM3, hup, hdn⟩ := hI_189
                        refine lv_iload_n hx hb d_M_read_189 rfl (lv_at hl 1 rfl) ?_
                        refine lv_bipush (v := 81) hx hb d_M_read_190 (by decide) ?_
                        refine lv_icmp_ge (tgt := 218) hx hb d_M_read_192 (by decide) (fun c_12 => ?_) (fun c_12 => ?_)
                        · have hgeC : 81 ≤ i := lp_ge (n := 81) rfl c_12 (by omega) (by omega)
                          refine lv_bipush (v := 45) hx hb d_M_read_218 (by decide) ?_
                          exact W.iret (v := 45) hx hb hr (fun t ht hW => ⟨⟨45, w3, rfl, Or.inr ⟨hW9, rfl, f3, fun i9 j9 h1 h2 => by rw [hdn _ (by omega), show f2 (81 + (9 * i9 + j9)) = _ from hTM i9 j9 h1 h2, show qAt p0 = 45 by unfold qAt; rw [show p0 = 180 by omega]; rfl, Int32.add_sub_cancel], hM3⟩, ww_t ht hw⟩, hS.F ht⟩) hS.2.2 d_M_read_220
                        · have hltC : i < 81 := lp_lt (n := 81) rfl c_12 (by omega) (by omega)
                          refine lv_aload_n hx hb d_M_read_195 rfl (lv_at hl 0 rfl) ?_
                          refine ww_get (v := .ref (ad 1)) (C := R_M) (T := F_M) (N := 22) (ci := 5) hx hb hts i_M hown hK hw hM3.1 rfl 4 (by decide) (hts _ k_659) (fun _ h9 => h9) rfl d_M_read_196 ?_
                          refine lv_iload_n hx hb d_M_read_199 rfl (lv_at hl 1 rfl) ?_
                          refine lv_aload_n hx hb d_M_read_200 rfl (lv_at hl 0 rfl) ?_
                          refine ww_get (v := .ref (ad 1)) (C := R_M) (T := F_M) (N := 22) (ci := 5) hx hb hts i_M hown hK hw hM3.1 rfl 4 (by decide) (hts _ k_659) (fun _ h9 => h9) rfl d_M_read_201 ?_
                          refine lv_bipush (v := 81) hx hb d_M_read_204 (by decide) ?_
                          refine lv_iload_n hx hb d_M_read_206 rfl (lv_at hl 1 rfl) ?_
                          refine lv_iadd hx hb d_M_read_207 ?_
                          refine lv_topi (fun v_13 e_13 => ?_)
                          obtain rfl : v_13 = nI (81 + i) := by rw [e_13]; exact nI_add 81 i
                          refine ww_iald (v := f3 (81 + i)) hx hb hK hw 0 (show w3 (ad 1) = some (cA g 162 f3) from hM3.2.1 1 (by decide)) rfl (vp_in_nI (by omega) (by decide)) (by rw [nI_clamp (by omega)]) d_M_read_208 ?_
                          refine lv_topi (fun v_14 e_14 => ?_)
                          refine lv_iconst (v := 1) hx hb d_M_read_209 (by decide) ?_
                          refine lv_isub hx hb d_M_read_210 ?_
                          refine lv_topi (fun v_15 e_15 => ?_)
                          have hcv : v_15 = f2 (81 + i) - 1 := by rw [e_15, e_14, hup (81 + i) (by omega)]
                          refine ww_iast hx hb hK hw hS 0 (show w3 (ad 1) = some (cA g 162 f3) from hM3.2.1 1 (by decide)) rfl (vp_in_nI (by omega) (by decide)) d_M_read_211 (fun H locs hw hS => ?_)
                          rw [nI_clamp (show i < 2 ^ 31 by omega)] at hw
                          obtain ⟨w_16, ew_16⟩ : ∃ zz9 : Nat → Option va_E, zz9 = va_up w3 (ad 1) (some (cA g 162 (upd f3 i v_15))) := ⟨_, rfl⟩
                          rw [← ew_16] at hw
                          have hM_16 : isM g w_16 mo ad 0 0 1 gn bn (upd2 (upd2 F 1 f3) 1 (upd f3 i v_15)) := by rw [ew_16]; exact isM_arr 1 (by decide) hM3
                          refine lv_iinc (v := (nI (i + 1))) (lv' := [(2, .int (nI (i + 1))), (0, .ref mo)]) hx hb d_M_read_212 hl (k := 1) rfl (nI_1 _) (by decide) rfl (fun ls hl => ?_)
                          refine lv_goto (tgt := 189) hx hb d_M_read_215 (by decide) ?_
                          exact ih_189 (i + 1) w_16 (upd f3 i v_15) H locs ls (by omega) (by omega) ⟨hw, hS, by have h9 := hM_16; rw [upd2_2] at h9; exact h9, fun j hj => by rw [pk_un (by omega)]; exact hup j hj, fun j hj => lt2 (P := fun j => upd f3 i v_15 j = f2 (81 + j) - 1) hj (by rw [pk_us]; exact hcv) (fun h => by rw [pk_un (by omega)]; exact hdn j h)⟩ (lv_sub hl [1, 0] rfl)
                    exact loop_189 (81 + 1) 0 w_11 f2 H locs ls (by omega) (by omega) ⟨hw, hS, hM_11, fun _ _ => rfl, fun j hj => absurd hj (Nat.not_lt_zero _)⟩ (lv_sub hl [1, 0] rfl)
                  · rw [hwr] at c_10
                    exact absurd (by decide) c_10
                · have h180 : ¬ sn = 180 := fun z => c_8 (by rw [z]; rfl)
                  have hW9 : WR (F 0) sn = nI sn := by rw [hWR, show sn - p0 = 0 by omega, wrF, if_neg h180]
                  refine lv_aload_n hx hb d_M_read_164 rfl (lv_at hl 0 rfl) ?_
                  refine ww_get (v := .int (nI sn)) (C := R_M) (T := F_M) (N := 22) (ci := 5) hx hb hts i_M hown hK hw hM2.1 rfl 2 (by decide) (hts _ k_657) (fun _ h9 => h9) rfl d_M_read_165 ?_
                  refine lv_istore_n (lv' := [(1, .int (nI sn)), (0, .ref mo), (2, .int (nI p0))]) hx hb d_M_read_168 rfl hl (by decide) rfl (fun ls hl => ?_)
                  refine lv_aload_n hx hb d_M_read_169 rfl (lv_at hl 1 rfl) ?_
                  refine lv_iconst (v := 0) hx hb d_M_read_170 (by decide) ?_
                  refine ww_put (v := .int 0) (ty := .int) (C := R_M) (T := F_M) (N := 22) (ci := 5) (fs' := [.int 0, .ref (ad 0), .int 0, .int hd, .ref (ad 1), .int (nI gn), .ref (ad 2), .ref (ad 3), .ref (ad 4), .ref (ad 5), .ref (ad 6), .ref (ad 7), .ref (ad 8), .int (nI bn), .ref (ad 9), .ref (ad 10), .ref (ad 11), .ref (ad 12), .ref (ad 13), .ref (ad 14), .ref (ad 15), .ref (ad 16)]) hx hb hts i_M ft_M ft_M_ok fn_M hown hK hw hS hM2.1 rfl 2 (by decide) (hts _ k_657) (fun _ h9 => h9) rfl (by decide +kernel) rfl rfl (Nat.le_of_ble_eq_true rfl) rfl d_M_read_171 (fun H locs hw hS => ?_)
                  obtain ⟨w_17, ew_17⟩ : ∃ zz9 : Nat → Option va_E, zz9 = va_up w2 mo (some (.inr (5, [.int 0, .ref (ad 0), .int 0, .int hd, .ref (ad 1), .int (nI gn), .ref (ad 2), .ref (ad 3), .ref (ad 4), .ref (ad 5), .ref (ad 6), .ref (ad 7), .ref (ad 8), .int (nI bn), .ref (ad 9), .ref (ad 10), .ref (ad 11), .ref (ad 12), .ref (ad 13), .ref (ad 14), .ref (ad 15), .ref (ad 16)]))) := ⟨_, rfl⟩
                  rw [← ew_17] at hw
                  have hM_17 : isM g w_17 mo ad 0 0 hd gn bn (upd2 F 1 f2) := by rw [ew_17]; exact isM_put hM2
                  refine lv_iload_n hx hb d_M_read_174 rfl (lv_at hl 0 rfl) ?_
                  refine lv_if_lt (tgt := 182) hx hb d_M_read_175 (by decide) (fun c_18 => ?_) (fun c_18 => ?_)
                  · exact absurd c_18 (nI_pos (by omega))
                  · refine lv_iconst (v := -1) hx hb d_M_read_178 (by decide) ?_
                    refine lv_iload_n hx hb d_M_read_179 rfl (lv_at hl 0 rfl) ?_
                    refine lv_isub hx hb d_M_read_180 ?_
                    refine lv_topi (fun v_19 e_19 => ?_)
                    exact W.iret (v := v_19) hx hb hr (fun t ht hW => ⟨⟨v_19, w_17, rfl, Or.inl ⟨by rw [hW9]; exact nI_nm1 (by omega), by rw [e_19, hW9], f2, hlow, hM_17⟩, ww_t ht hw⟩, hS.F ht⟩) hS.2.2 d_M_read_181
            · have hltp : p0 < sn := lp_lt rfl c_3 (by omega) (by omega)
              refine lv_iload_n hx hb d_M_read_40 rfl (lv_at hl 1 rfl) ?_
              refine lv_if_ge (tgt := 150) hx hb d_M_read_41 (by decide) (fun c_20 => ?_) (fun c_20 => ?_)
              · have hwge := c_20
                refine lv_iload_n hx hb d_M_read_150 rfl (lv_at hl 1 rfl) ?_
                refine lv_if_ge (tgt := 169) hx hb d_M_read_151 (by decide) (fun c_21 => ?_) (fun c_21 => ?_)
                · obtain ⟨p9, hp9, hwr9, hW9⟩ := hst.resolve_left (fun z => by rw [z.1] at c_21; exact absurd c_21 (by decide))
                  refine lv_aload_n hx hb d_M_read_169 rfl (lv_at hl 0 rfl) ?_
                  refine lv_iconst (v := 0) hx hb d_M_read_170 (by decide) ?_
                  refine ww_put (v := .int 0) (ty := .int) (C := R_M) (T := F_M) (N := 22) (ci := 5) (fs' := [.int 0, .ref (ad 0), .int 0, .int hd, .ref (ad 1), .int (nI gn), .ref (ad 2), .ref (ad 3), .ref (ad 4), .ref (ad 5), .ref (ad 6), .ref (ad 7), .ref (ad 8), .int (nI bn), .ref (ad 9), .ref (ad 10), .ref (ad 11), .ref (ad 12), .ref (ad 13), .ref (ad 14), .ref (ad 15), .ref (ad 16)]) hx hb hts i_M ft_M ft_M_ok fn_M hown hK hw hS hM2.1 rfl 2 (by decide) (hts _ k_657) (fun _ h9 => h9) rfl (by decide +kernel) rfl rfl (Nat.le_of_ble_eq_true rfl) rfl d_M_read_171 (fun H locs hw hS => ?_)
                  obtain ⟨w_22, ew_22⟩ : ∃ zz9 : Nat → Option va_E, zz9 = va_up w2 mo (some (.inr (5, [.int 0, .ref (ad 0), .int 0, .int hd, .ref (ad 1), .int (nI gn), .ref (ad 2), .ref (ad 3), .ref (ad 4), .ref (ad 5), .ref (ad 6), .ref (ad 7), .ref (ad 8), .int (nI bn), .ref (ad 9), .ref (ad 10), .ref (ad 11), .ref (ad 12), .ref (ad 13), .ref (ad 14), .ref (ad 15), .ref (ad 16)]))) := ⟨_, rfl⟩
                  rw [← ew_22] at hw
                  have hM_22 : isM g w_22 mo ad 0 0 hd gn bn (upd2 F 1 f2) := by rw [ew_22]; exact isM_put hM2
                  refine lv_iload_n hx hb d_M_read_174 rfl (lv_at hl 1 rfl) ?_
                  refine lv_if_lt (tgt := 182) hx hb d_M_read_175 (by decide) (fun c_23 => ?_) (fun c_23 => ?_)
                  · rw [hwr9] at c_23
                    exact absurd c_23 (nI_pos (by omega))
                  · refine lv_iconst (v := -1) hx hb d_M_read_178 (by decide) ?_
                    refine lv_iload_n hx hb d_M_read_179 rfl (lv_at hl 1 rfl) ?_
                    refine lv_isub hx hb d_M_read_180 ?_
                    refine lv_topi (fun v_24 e_24 => ?_)
                    exact W.iret (v := v_24) hx hb hr (fun t ht hW => ⟨⟨v_24, w_22, rfl, Or.inl ⟨by rw [hW9]; exact nI_nm1 (by omega), by rw [e_24, hW9, hwr9], f2, hlow, hM_22⟩, ww_t ht hw⟩, hS.F ht⟩) hS.2.2 d_M_read_181
                · exact absurd hwge c_21
              · obtain ⟨rfl, hall, hWR, hTM⟩ := hst.resolve_right (fun z => by obtain ⟨p9, z1, z2, -⟩ := z; rw [z2] at c_20; exact c_20 (nI_pos' (by omega)))
                refine lv_aload_n hx hb d_M_read_44 rfl (lv_at hl 0 rfl) ?_
                refine lv_iload_n hx hb d_M_read_45 rfl (lv_at hl 2 rfl) ?_
                refine wr_i (cV (As := [.int (nI p0)]) (rest := []) (C := "DangerTablesModel") 1 ⟨hx, hb, hml, hown, hts⟩ (c_M_stands l g w2 mo ad 0 hd sn gn bn (upd2 F 1 f2) p0 hM2 (by omega) (fun h1 => by have h9 := hTM; unfold qAt at h9; rw [if_neg (by omega)] at h9; exact h9) (fun h1 => by have h9 := hall (4 * (p0 / 4)) (by omega); rw [okPl_0] at h9; rw [show p0 - 1 = 4 * (p0 / 4) by omega]; exact h9)) k_741 k_738 k_7 k_740 kp_18 (by decide +kernel) ⟨Nat.le_of_ble_eq_true rfl, Nat.le_of_ble_eq_true rfl⟩ rfl rfl ⟨prR_blind _ _ _, hw.recv hK hM2.1 rfl, prR_at hG hAB hS hw⟩ rfl hl.1 rfl (Nat.le_of_ble_eq_true rfl) d_M_read_46 ⟨Nat.le_of_ble_eq_true rfl, Nat.le_of_ble_eq_true rfl⟩) (fun r_25 e_25 => ?_)
                refine lv_if_eq (tgt := 56) hx hb d_M_read_49 (by decide) (fun c_26 => ?_) (fun c_26 => ?_)
                · have q_26 := b2_f e_25 c_26
                  have hokp : okPl (F 0) p0 = false := q_26
                  refine lv_iload_n hx hb d_M_read_56 rfl (lv_at hl 2 rfl) ?_
                  refine lv_istore_n (lv' := [(1, .int (nI p0)), (0, .ref mo), (2, .int (nI p0))]) hx hb d_M_read_57 rfl hl (by decide) rfl (fun ls hl => ?_)
                  refine lv_iload_n hx hb d_M_read_58 rfl (lv_at hl 0 rfl) ?_
                  refine lv_if_ge (tgt := 144) hx hb d_M_read_59 (by decide) (fun c_27 => ?_) (fun c_27 => ?_)
                  · refine lv_iinc (v := (nI (p0 + 1))) (lv' := [(2, .int (nI (p0 + 1))), (1, .int (nI p0)), (0, .ref mo)]) hx hb d_M_read_144 hl (k := 2) rfl (nI_1 _) (by decide) rfl (fun ls hl => ?_)
                    refine lv_goto (tgt := 32) hx hb d_M_read_147 (by decide) ?_
                    exact ih_32 (p0 + 1) w2 f2 (nI p0) H locs ls (by omega) (by omega) ⟨hw, hS, hM2, hlow, Or.inr ⟨p0, by omega, rfl, by rw [hWR, wrF_bad hltp hokp]⟩⟩ (lv_sub hl [2, 1, 0] rfl)
                  · exact absurd (nI_pos' (by omega)) c_27
                · have q_26 := b2_t e_25 c_26
                  have hokp : okPl (F 0) p0 = true := q_26
                  refine lv_iconst (v := -1) hx hb d_M_read_52 (by decide) ?_
                  refine lv_goto (tgt := 57) hx hb d_M_read_53 (by decide) ?_
                  refine lv_istore_n (lv' := [(1, .int (-1)), (0, .ref mo), (2, .int (nI p0))]) hx hb d_M_read_57 rfl hl (by decide) rfl (fun ls hl => ?_)
                  refine lv_iload_n hx hb d_M_read_58 rfl (lv_at hl 0 rfl) ?_
                  refine lv_if_ge (tgt := 144) hx hb d_M_read_59 (by decide) (fun z => absurd z (by decide)) (fun _ => ?_)
                  refine lv_iload_n hx hb d_M_read_62 rfl (lv_at hl 2 rfl) ?_
                  refine lv_iconst (v := 4) hx hb d_M_read_63 (by decide) ?_
                  refine lv_irem hx hb d_M_read_64 (by decide) ?_
                  refine lv_topi (fun v_29 e_29 => ?_)
                  obtain rfl : v_29 = nI (p0 % 4) := by rw [e_29]; exact pk_rem (a := p0) (d := 4) (by omega) (by decide) (by decide)
                  refine lv_iconst (v := 2) hx hb d_M_read_65 (by decide) ?_
                  refine lv_icmp_ne (tgt := 144) hx hb d_M_read_66 (by decide) (fun c_30 => ?_) (fun c_30 => ?_)
                  · have hp4 : ¬ p0 % 4 = 2 := fun z => c_30 (by rw [z]; rfl)
                    refine lv_iinc (v := (nI (p0 + 1))) (lv' := [(2, .int (nI (p0 + 1))), (1, .int (-1)), (0, .ref mo)]) hx hb d_M_read_144 hl (k := 2) rfl (nI_1 _) (by decide) rfl (fun ls hl => ?_)
                    refine lv_goto (tgt := 32) hx hb d_M_read_147 (by decide) ?_
                    exact ih_32 (p0 + 1) w2 f2 (-1) H locs ls (by omega) (by omega) ⟨hw, hS, hM2, hlow, Or.inl ⟨rfl, fun t ht => lt2 (P := fun t => okPl (F 0) t = true) ht hokp (fun h => hall t h), by rw [hWR, wrF_ok hltp hokp], by rw [show qAt (p0 + 1) = qAt p0 by unfold qAt; by_cases h3 : p0 % 4 = 3; rw [if_neg (by omega), if_pos h3]; omega; rw [if_neg (by omega), if_neg h3]; omega]; exact hTM⟩⟩ (lv_sub hl [2, 1, 0] rfl)
                  · have hp4 : p0 % 4 = 2 := (nI_eq (by omega) (b := 2) (by decide)).mp c_30
                    have hp9 : p0 = 4 * (p0 / 4) + 2 := by omega
                    have hc0 := hall (4 * (p0 / 4)) (by omega)
                    have hc1 := hall (4 * (p0 / 4) + 1) (by omega)
                    rw [okPl_0] at hc0
                    rw [okPl_1, Bool.and_eq_true] at hc1
                    obtain ⟨a, ha, ea⟩ := isCls_of hc0
                    obtain ⟨b, hb9, eb⟩ := isCls_of hc1.1
                    refine lv_aload_n hx hb d_M_read_69 rfl (lv_at hl 1 rfl) ?_
                    refine ww_get (v := .ref (ad 0)) (C := R_M) (T := F_M) (N := 22) (ci := 5) hx hb hts i_M hown hK hw hM2.1 rfl 1 (by decide) (hts _ k_656) (fun _ h9 => h9) rfl d_M_read_70 ?_
                    refine lv_iload_n hx hb d_M_read_73 rfl (lv_at hl 2 rfl) ?_
                    refine lv_iconst (v := 2) hx hb d_M_read_74 (by decide) ?_
                    refine lv_isub hx hb d_M_read_75 ?_
                    refine lv_topi (fun v_31 e_31 => ?_)
                    obtain rfl : v_31 = nI (p0 - 2) := by rw [e_31]; exact pk_sub (a := p0) (b := 2) (by omega)
                    refine ww_iald (v := (F 0) (p0 - 2)) hx hb hK hw 0 (show w2 (ad 0) = some (cA g 300 (F 0)) from hM2.2.1 0 (by decide)) rfl (vp_in_nI (by omega) (by decide)) (by rw [nI_clamp (by omega)]) d_M_read_76 ?_
                    refine lv_topi (fun v_32 e_32 => ?_)
                    refine lv_bipush (v := 48) hx hb d_M_read_77 (by decide) ?_
                    refine lv_isub hx hb d_M_read_79 ?_
                    refine lv_topi (fun v_33 e_33 => ?_)
                    obtain rfl : v_33 = nI (a + 1) := by rw [e_33, e_32, show p0 - 2 = 4 * (p0 / 4) by omega]; exact ea
                    refine lv_istore_n (lv' := [(3, .int (nI (a + 1))), (1, .int (-1)), (0, .ref mo), (2, .int (nI p0))]) hx hb d_M_read_80 rfl hl (by decide) rfl (fun ls hl => ?_)
                    refine lv_aload_n hx hb d_M_read_81 rfl (lv_at hl 2 rfl) ?_
                    refine ww_get (v := .ref (ad 0)) (C := R_M) (T := F_M) (N := 22) (ci := 5) hx hb hts i_M hown hK hw hM2.1 rfl 1 (by decide) (hts _ k_656) (fun _ h9 => h9) rfl d_M_read_82 ?_
                    refine lv_iload_n hx hb d_M_read_85 rfl (lv_at hl 3 rfl) ?_
                    refine lv_iconst (v := 1) hx hb d_M_read_86 (by decide) ?_
                    refine lv_isub hx hb d_M_read_87 ?_
                    refine lv_topi (fun v_34 e_34 => ?_)
                    obtain rfl : v_34 = nI (p0 - 1) := by rw [e_34]; exact pk_sub (a := p0) (b := 1) (by omega)
                    refine ww_iald (v := (F 0) (p0 - 1)) hx hb hK hw 0 (show w2 (ad 0) = some (cA g 300 (F 0)) from hM2.2.1 0 (by decide)) rfl (vp_in_nI (by omega) (by decide)) (by rw [nI_clamp (by omega)]) d_M_read_88 ?_
                    refine lv_topi (fun v_35 e_35 => ?_)
                    refine lv_bipush (v := 48) hx hb d_M_read_89 (by decide) ?_
                    refine lv_isub hx hb d_M_read_91 ?_
                    refine lv_topi (fun v_36 e_36 => ?_)
                    obtain rfl : v_36 = nI (b + 1) := by rw [e_36, e_35, show p0 - 1 = 4 * (p0 / 4) + 1 by omega]; exact eb
                    refine lv_istore (lv' := [(4, .int (nI (b + 1))), (3, .int (nI (a + 1))), (1, .int (-1)), (0, .ref mo), (2, .int (nI p0))]) hx hb d_M_read_92 hl (by decide) rfl (fun ls hl => ?_)
                    refine lv_aload_n hx hb d_M_read_94 rfl (lv_at hl 3 rfl) ?_
                    refine ww_get (v := .ref (ad 1)) (C := R_M) (T := F_M) (N := 22) (ci := 5) hx hb hts i_M hown hK hw hM2.1 rfl 4 (by decide) (hts _ k_659) (fun _ h9 => h9) rfl d_M_read_95 ?_
                    refine lv_bipush (v := 81) hx hb d_M_read_98 (by decide) ?_
                    refine lv_iload_n hx hb d_M_read_100 rfl (lv_at hl 1 rfl) ?_
                    refine lv_iload hx hb d_M_read_101 (lv_at hl 0 rfl) ?_
                    refine wr_i (cS (As := [.int (nI (a + 1)), .int (nI (b + 1))]) (rest := [.int 81, .ref (ad 1)]) 2 ⟨hx, hb, hml, hown, hts⟩ (c_M_pair l (nI (a + 1)) (nI (b + 1))) k_747 k_745 k_7 k_746 (by decide +kernel) ⟨Nat.le_of_ble_eq_true rfl, Nat.le_of_ble_eq_true rfl⟩ rfl rfl ⟨prN_blind _, fun _ _ _ => ⟨rfl, trivial⟩⟩ rfl hl.1 rfl (Nat.le_of_ble_eq_true rfl) d_M_read_103 ⟨Nat.le_of_ble_eq_true rfl, Nat.le_of_ble_eq_true rfl⟩) (fun r_37 e_37 => ?_)
                    obtain rfl : nI (9 * a + b) = r_37 := (e_37.trans (prM_nat ha hb9)).symm
                    refine lv_iadd hx hb d_M_read_106 ?_
                    refine lv_topi (fun v_38 e_38 => ?_)
                    obtain rfl : v_38 = nI (81 + (9 * a + b)) := by rw [e_38]; exact nI_add 81 (9 * a + b)
                    refine lv_aload_n hx hb d_M_read_107 rfl (lv_at hl 3 rfl) ?_
                    refine ww_get (v := .ref (ad 0)) (C := R_M) (T := F_M) (N := 22) (ci := 5) hx hb hts i_M hown hK hw hM2.1 rfl 1 (by decide) (hts _ k_656) (fun _ h9 => h9) rfl d_M_read_108 ?_
                    refine lv_iload_n hx hb d_M_read_111 rfl (lv_at hl 4 rfl) ?_
                    refine ww_iald (v := (F 0) p0) hx hb hK hw 0 (show w2 (ad 0) = some (cA g 300 (F 0)) from hM2.2.1 0 (by decide)) rfl (vp_in_nI (by omega) (by decide)) (by rw [nI_clamp (by omega)]) d_M_read_112 ?_
                    refine lv_topi (fun v_39 e_39 => ?_)
                    refine lv_bipush (v := 48) hx hb d_M_read_113 (by decide) ?_
                    refine lv_isub hx hb d_M_read_115 ?_
                    refine lv_topi (fun v_40 e_40 => ?_)
                    refine lv_iconst (v := 1) hx hb d_M_read_116 (by decide) ?_
                    refine lv_iadd hx hb d_M_read_117 ?_
                    refine lv_topi (fun v_41 e_41 => ?_)
                    have hvv1 : v_41 = F 0 (4 * (p0 / 4) + 2) - 48 + 1 := by rw [e_41, e_40, e_39, ← hp9]
                    refine ww_iast hx hb hK hw hS 0 (show w2 (ad 1) = some (cA g 162 f2) from hM2.2.1 1 (by decide)) rfl (vp_in_nI (by omega) (by decide)) d_M_read_118 (fun H locs hw hS => ?_)
                    rw [nI_clamp (show 81 + (9 * a + b) < 2 ^ 31 by omega)] at hw
                    obtain ⟨w_42, ew_42⟩ : ∃ zz9 : Nat → Option va_E, zz9 = va_up w2 (ad 1) (some (cA g 162 (upd f2 (81 + (9 * a + b)) v_41))) := ⟨_, rfl⟩
                    rw [← ew_42] at hw
                    have hM_42 : isM g w_42 mo ad 0 sn hd gn bn (upd2 (upd2 F 1 f2) 1 (upd f2 (81 + (9 * a + b)) v_41)) := by rw [ew_42]; exact isM_arr 1 (by decide) hM2
                    refine lv_aload_n hx hb d_M_read_119 rfl (lv_at hl 3 rfl) ?_
                    refine ww_get (v := .ref (ad 1)) (C := R_M) (T := F_M) (N := 22) (ci := 5) hx hb hts i_M hown hK hw hM_42.1 rfl 4 (by decide) (hts _ k_659) (fun _ h9 => h9) rfl d_M_read_120 ?_
                    refine lv_bipush (v := 81) hx hb d_M_read_123 (by decide) ?_
                    refine lv_iload hx hb d_M_read_125 (lv_at hl 0 rfl) ?_
                    refine lv_iload_n hx hb d_M_read_127 rfl (lv_at hl 1 rfl) ?_
                    refine wr_i (cS (As := [.int (nI (b + 1)), .int (nI (a + 1))]) (rest := [.int 81, .ref (ad 1)]) 2 ⟨hx, hb, hml, hown, hts⟩ (c_M_pair l (nI (b + 1)) (nI (a + 1))) k_747 k_745 k_7 k_746 (by decide +kernel) ⟨Nat.le_of_ble_eq_true rfl, Nat.le_of_ble_eq_true rfl⟩ rfl rfl ⟨prN_blind _, fun _ _ _ => ⟨rfl, trivial⟩⟩ rfl hl.1 rfl (Nat.le_of_ble_eq_true rfl) d_M_read_128 ⟨Nat.le_of_ble_eq_true rfl, Nat.le_of_ble_eq_true rfl⟩) (fun r_43 e_43 => ?_)
                    obtain rfl : nI (9 * b + a) = r_43 := (e_43.trans (prM_nat hb9 ha)).symm
                    refine lv_iadd hx hb d_M_read_131 ?_
                    refine lv_topi (fun v_44 e_44 => ?_)
                    obtain rfl : v_44 = nI (81 + (9 * b + a)) := by rw [e_44]; exact nI_add 81 (9 * b + a)
                    refine lv_aload_n hx hb d_M_read_132 rfl (lv_at hl 3 rfl) ?_
                    refine ww_get (v := .ref (ad 0)) (C := R_M) (T := F_M) (N := 22) (ci := 5) hx hb hts i_M hown hK hw hM_42.1 rfl 1 (by decide) (hts _ k_656) (fun _ h9 => h9) rfl d_M_read_133 ?_
                    refine lv_iload_n hx hb d_M_read_136 rfl (lv_at hl 4 rfl) ?_
                    refine ww_iald (v := (F 0) p0) hx hb hK hw 0 (show w_42 (ad 0) = some (cA g 300 (F 0)) from hM_42.2.1 0 (by decide)) rfl (vp_in_nI (by omega) (by decide)) (by rw [nI_clamp (by omega)]) d_M_read_137 ?_
                    refine lv_topi (fun v_45 e_45 => ?_)
                    refine lv_bipush (v := 48) hx hb d_M_read_138 (by decide) ?_
                    refine lv_isub hx hb d_M_read_140 ?_
                    refine lv_topi (fun v_46 e_46 => ?_)
                    refine lv_iconst (v := 1) hx hb d_M_read_141 (by decide) ?_
                    refine lv_iadd hx hb d_M_read_142 ?_
                    refine lv_topi (fun v_47 e_47 => ?_)
                    have hvv2 : v_47 = F 0 (4 * (p0 / 4) + 2) - 48 + 1 := by rw [e_47, e_46, e_45, ← hp9]
                    have hTMu := TM_up (f := F 0) (f2 := f2) (q := p0 / 4) (by have h9 := hTM; unfold qAt at h9; rw [if_neg (by omega)] at h9; exact h9) ha hb9 ea eb
                    refine ww_iast hx hb hK hw hS 0 (show w_42 (ad 1) = some (cA g 162 (upd f2 (81 + (9 * a + b)) v_41)) from hM_42.2.1 1 (by decide)) rfl (vp_in_nI (by omega) (by decide)) d_M_read_143 (fun H locs hw hS => ?_)
                    rw [nI_clamp (show 81 + (9 * b + a) < 2 ^ 31 by omega)] at hw
                    obtain ⟨w_48, ew_48⟩ : ∃ zz9 : Nat → Option va_E, zz9 = va_up w_42 (ad 1) (some (cA g 162 (upd (upd f2 (81 + (9 * a + b)) v_41) (81 + (9 * b + a)) v_47))) := ⟨_, rfl⟩
                    rw [← ew_48] at hw
                    have hM_48 : isM g w_48 mo ad 0 sn hd gn bn (upd2 (upd2 (upd2 F 1 f2) 1 (upd f2 (81 + (9 * a + b)) v_41)) 1 (upd (upd f2 (81 + (9 * a + b)) v_41) (81 + (9 * b + a)) v_47)) := by rw [ew_48]; exact isM_arr 1 (by decide) hM_42
                    refine lv_iinc (v := (nI (p0 + 1))) (lv' := [(2, .int (nI (p0 + 1))), (4, .int (nI (b + 1))), (3, .int (nI (a + 1))), (1, .int (-1)), (0, .ref mo)]) hx hb d_M_read_144 hl (k := 4) rfl (nI_1 _) (by decide) rfl (fun ls hl => ?_)
                    refine lv_goto (tgt := 32) hx hb d_M_read_147 (by decide) ?_
                    exact ih_32 (p0 + 1) w_48 (upd (upd f2 (81 + (9 * a + b)) v_41) (81 + (9 * b + a)) v_47) (-1) H locs ls (by omega) (by omega) ⟨hw, hS, by have h9 := hM_48; rw [upd2_2, upd2_2] at h9; exact h9, fun j hj => by rw [pk_un (by omega), pk_un (by omega)]; exact hlow j hj, Or.inl ⟨rfl, fun t ht => lt2 (P := fun t => okPl (F 0) t = true) ht hokp (fun h => hall t h), by rw [hWR, wrF_ok hltp hokp], by rw [show qAt (p0 + 1) = p0 / 4 + 1 by unfold qAt; rw [if_pos (by omega)]; omega, hvv1, hvv2]; exact hTMu⟩⟩ (lv_sub hl [4, 3, 0] rfl)
        exact loop_32 (sn + 1) 0 w2 f2 (-1) H locs ls (by omega) (by omega) ⟨hw, hS, hM2, hlow, Or.inl ⟨rfl, fun t ht => absurd ht (Nat.not_lt_zero _), rfl, TM_0 (fun j h1 h2 => hz j h1 (by omega))⟩⟩ (lv_sub hl [2, 1, 0] rfl)
      · have hltA : i < 162 := lp_lt (n := 162) rfl c_2 (by omega) (by omega)
        refine lv_aload_n hx hb d_M_read_15 rfl (lv_at hl 0 rfl) ?_
        refine ww_get (v := .ref (ad 1)) (C := R_M) (T := F_M) (N := 22) (ci := 5) hx hb hts i_M hown hK hw hM2.1 rfl 4 (by decide) (hts _ k_659) (fun _ h9 => h9) rfl d_M_read_16 ?_
        refine lv_iload_n hx hb d_M_read_19 rfl (lv_at hl 1 rfl) ?_
        refine lv_iconst (v := 0) hx hb d_M_read_20 (by decide) ?_
        refine ww_iast hx hb hK hw hS 0 (show w2 (ad 1) = some (cA g 162 f2) from hM2.2.1 1 (by decide)) rfl (vp_in_nI (by omega) (by decide)) d_M_read_21 (fun H locs hw hS => ?_)
        rw [nI_clamp (show i < 2 ^ 31 by omega)] at hw
        obtain ⟨w_49, ew_49⟩ : ∃ zz9 : Nat → Option va_E, zz9 = va_up w2 (ad 1) (some (cA g 162 (upd f2 i 0))) := ⟨_, rfl⟩
        rw [← ew_49] at hw
        have hM_49 : isM g w_49 mo ad 0 sn hd gn bn (upd2 (upd2 F 1 f2) 1 (upd f2 i 0)) := by rw [ew_49]; exact isM_arr 1 (by decide) hM2
        refine lv_iinc (v := (nI (i + 1))) (lv' := [(1, .int (nI (i + 1))), (0, .ref mo)]) hx hb d_M_read_22 hl (k := 1) rfl (nI_1 _) (by decide) rfl (fun ls hl => ?_)
        refine lv_goto (tgt := 8) hx hb d_M_read_25 (by decide) ?_
        exact ih_8 (i + 1) w_49 (upd f2 i 0) H locs ls (by omega) (by omega) ⟨hw, hS, by have h9 := hM_49; rw [upd2_2] at h9; exact h9, fun j hj => by rw [pk_un (by omega)]; exact hlow j hj, by omega, fun j h1 h2 => lt2 (P := fun j => upd f2 i 0 j = 0) h2 pk_us (fun h => by rw [pk_un (by omega)]; exact hz j h1 h)⟩ (lv_sub hl [1, 0] rfl)
  exact loop_8 (162 + 1) 81 w_1 (F 1) H locs ls (by omega) (by omega) ⟨hw, hS, by rw [upd2_same]; exact hM_1, fun _ _ => rfl, Nat.le_refl _, fun j h1 h2 => absurd h1 (by omega)⟩ (lv_sub hl [1, 0] rfl)

